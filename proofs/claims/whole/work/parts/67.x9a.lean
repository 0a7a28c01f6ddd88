def rmX5_trialAgreesWithBooks : Room := { frames := 4, cells := 0, slots := 0, locals := 92 }
theorem nmX5_trialAgreesWithBooks : NmV yX5_trialAgreesWithBooks RX5 1 := by unfold NmV; decide +kernel
theorem hiX5_trialAgreesWithBooks_0 : ∀ w ∈ u_ws RX0 TX0 3, w ∈ wsX5_trialAgreesWithBooks := by decide +kernel
theorem hiX5_trialAgreesWithBooks_4 : ∀ w ∈ u_ws RX4 TX4 4, w ∈ wsX5_trialAgreesWithBooks := by decide +kernel
theorem hiX5_trialAgreesWithBooks_5 : ∀ w ∈ u_ws RX5 TX5 7, w ∈ wsX5_trialAgreesWithBooks := by decide +kernel
set_option maxHeartbeats 4000000 in
set_option maxRecDepth 100000 in
theorem kX5_trialAgreesWithBooks (l : Launch) (dC : Nat → ClassId) (dI : Nat → Nat → Nat) (ct : Nat → ClassId) (x st kt sc sh fo bk sp : Nat) (tr b rw : Nat → Nat) (ik zz : Int32) (f g w h : Nat → Int32) (s : Nat) (hs : s < 2) (hN0 : nN h = nN f) (hRg : Rg h) (hRB : RB h) (hB : BkR h g) (ha : AgW w h s) : MI (S := (Nat → Int32)) l yX5_trialAgreesWithBooks wsX5_trialAgreesWithBooks rmX5_trialAgreesWithBooks dC dI ct eT [.ref x, .int (nI s)] ((x, .inr (5, [.ref st, .ref kt, .int ik, .ref (tr 0), .ref sc, .ref sh, .ref fo])) :: (st, .inr (4, [.ref (b 0), .ref bk, .ref sp, .int zz])) :: (wB ct tr w ++ (wR ct bk rw (nI (nN f % 12)) (nI (min 12 (nN f))) g))) (fun u => (x, .inr (5, [.ref st, .ref kt, .int ik, .ref (tr 0), .ref sc, .ref sh, .ref fo])) :: (st, .inr (4, [.ref (b 0), .ref bk, .ref sp, .int zz])) :: (wB ct tr u ++ (wR ct bk rw (nI (nN f % 12)) (nI (min 12 (nN f))) g))) (fun r u => r = afF h s ∧ AgW u h s) := by
  refine MI.of (cc := cX5_trialAgreesWithBooks) (maxL := 5) (ret := (some .boolean)) (by decide) rfl (Nat.le_of_ble_eq_true rfl) ?_
  intro pg en z mi below meth cd A F hr hlk hin hK hP hD hA hS hE ls hl
  have F : CallFix pg mi cd cX5_trialAgreesWithBooks 5 z _ wsX5_trialAgreesWithBooks RX5 := F
  have hl : lv_has ls 5 [(0, .ref x), (1, .int (nI s))] := hl
  have hn9 := (nN_of hRg).2
  refine lv_aload_n F.1 F.2.1 dX5_trialAgreesWithBooks_0 rfl (lv_at hl 0 rfl) ?_
  refine gf F hK hP 0 rfl rfl hiX5_trialAgreesWithBooks_5 0 (by decide) (List.mem_of_getElem? (i := 1) rfl) rfl dX5_trialAgreesWithBooks_1 ?_
  refine gf F hK hP 1 rfl rfl hiX5_trialAgreesWithBooks_4 1 (by decide) (List.mem_of_getElem? (i := 2) rfl) rfl dX5_trialAgreesWithBooks_4 ?_
  refine lv_astore_n (lv' := [(2, .ref bk), (0, .ref x), (1, .int (nI s))]) F.1 F.2.1 dX5_trialAgreesWithBooks_7 rfl hl (by decide) rfl (fun ls hl => ?_)
  refine lv_iconst (v := 0) F.1 F.2.1 dX5_trialAgreesWithBooks_8 (by decide) ?_
  refine lv_istore_n (lv' := [(3, .int 0), (2, .ref bk), (0, .ref x), (1, .int (nI s))]) F.1 F.2.1 dX5_trialAgreesWithBooks_9 rfl hl (by decide) rfl (fun ls hl => ?_)
  refine loopN (I := fun k H locs ls => ∃ u : Nat → Int32, va_P (dC, dI) vwCl ((x, .inr (5, [.ref st, .ref kt, .int ik, .ref (tr 0), .ref sc, .ref sh, .ref fo])) :: (st, .inr (4, [.ref (b 0), .ref bk, .ref sp, .int zz])) :: (wB ct tr u ++ (wR ct bk rw (nI (nN f % 12)) (nI (min 12 (nN f))) g))) H ∧ va_D A ((x, .inr (5, [.ref st, .ref kt, .int ik, .ref (tr 0), .ref sc, .ref sh, .ref fo])) :: (st, .inr (4, [.ref (b 0), .ref bk, .ref sp, .int zz])) :: (wB ct tr u ++ (wR ct bk rw (nI (nN f % 12)) (nI (min 12 (nN f))) g))) ∧ va_S A z.heap H locs ∧ lv_has ls 5 [(3, .int (nI k)), (2, .ref bk), (0, .ref x), (1, .int (nI s))] ∧ AgW u h s ∧ afU h s k = 1) (min 12 (nN f)) 0 (by omega) ⟨w, hP, hD, hS, lv_sub hl [0, 1, 2, 3] rfl, ⟨ha, rfl⟩⟩ (fun H locs ls hI => ?_) (fun k hk_k H locs ls hI ih_10 => ?_)
  · obtain ⟨u, hP, hD, hS, hl, hx⟩ := hI
    refine lv_iload_n F.1 F.2.1 dX5_trialAgreesWithBooks_10 rfl (lv_at hl 0 rfl) ?_
    refine lv_aload_n F.1 F.2.1 dX5_trialAgreesWithBooks_11 rfl (lv_at hl 1 rfl) ?_
    refine gf F hK hP 9 rfl rfl hiX5_trialAgreesWithBooks_0 2 (by decide) (List.mem_of_getElem? (i := 3) rfl) rfl dX5_trialAgreesWithBooks_12 ?_
    refine lv_icmp_ge (tgt := 75) F.1 F.2.1 dX5_trialAgreesWithBooks_15 (by decide) (fun c_15 => ?_) (fun c_15 => ?_)
    · refine lv_iconst (v := 1) F.1 F.2.1 dX5_trialAgreesWithBooks_75 (by decide) ?_
      exact rtZ u F hr hlk hP hS rfl (⟨(by unfold afF; rw [hN0]; exact hx.2.symm), hx.1⟩) (Or.inr rfl) dX5_trialAgreesWithBooks_76
    · exact absurd (nI_le (Nat.le_refl _) (by omega)) c_15
  · obtain ⟨u, hP, hD, hS, hl, hx⟩ := hI
    have eI : ((nN f % 12 + 12 - (k + 1)) % 12) = (nN h - 1 - k) % 12 := by omega
    have hb := hB ((nN h - 1 - k) % 12) (by omega) (by omega)
    refine lv_iload_n F.1 F.2.1 dX5_trialAgreesWithBooks_10 rfl (lv_at hl 0 rfl) ?_
    refine lv_aload_n F.1 F.2.1 dX5_trialAgreesWithBooks_11 rfl (lv_at hl 1 rfl) ?_
    refine gf F hK hP 9 rfl rfl hiX5_trialAgreesWithBooks_0 2 (by decide) (List.mem_of_getElem? (i := 3) rfl) rfl dX5_trialAgreesWithBooks_12 ?_
    refine lv_icmp_ge (tgt := 75) F.1 F.2.1 dX5_trialAgreesWithBooks_15 (by decide) (fun c_15 => ?_) (fun c_15 => ?_)
    · exact absurd c_15 (nI_ge hk_k (by omega))
    · refine lv_aload_n F.1 F.2.1 dX5_trialAgreesWithBooks_18 rfl (lv_at hl 1 rfl) ?_
      refine lv_iload_n F.1 F.2.1 dX5_trialAgreesWithBooks_19 rfl (lv_at hl 0 rfl) ?_
      refine rV (rest := []) (wsp := fun _ => (x, .inr (5, [.ref st, .ref kt, .int ik, .ref (tr 0), .ref sc, .ref sh, .ref fo])) :: (st, .inr (4, [.ref (b 0), .ref bk, .ref sp, .int zz])) :: (wB ct tr u ++ (wR ct bk rw (nI (nN f % 12)) (nI (min 12 (nN f))) g))) F (kX0_latest l dC dI ct bk rw g (nN f % 12) (min 12 (nN f)) k (by omega) (by omega)) gX5_trialAgreesWithBooks_X0_latest rfl ⟨rfl, rfl⟩ nmX0_latest ⟨Nat.le_of_ble_eq_true rfl, Nat.le_of_ble_eq_true rfl⟩ eT_b (fun _ _ _ => trivial) hK hP hD hS hA 9 rfl rfl rfl [9, 10, 11, 12, 13, 14, 15, 16, 17, 18, 19, 20, 21, 22] (by decide) rfl rfl rfl hl.1 (Nat.le_of_ble_eq_true rfl) dX5_trialAgreesWithBooks_20 ⟨Nat.zero_le _, Nat.zero_le _⟩ (fun _ => rfl) (fun _ => by simp only [sA, List.cons_append, List.nil_append, List.set_cons_zero, List.set_cons_succ]) [x, st, tr 0, tr 1, tr 2, tr 3, tr 4, tr 5, tr 6, bk, rw 12, rw 0, rw 1, rw 2, rw 3, rw 4, rw 5, rw 6, rw 7, rw 8, rw 9, rw 10, rw 11] rfl (fun _ => rfl) (fun r_20 u_20 H locs e_20 hP hD hS => ?_)
      obtain rfl := e_20
      refine lv_astore (lv' := [(4, .ref (rw (((nN f % 12) + 12 - (k + 1)) % 12))), (3, .int (nI k)), (2, .ref bk), (0, .ref x), (1, .int (nI s))]) F.1 F.2.1 dX5_trialAgreesWithBooks_23 hl (by decide) rfl (fun ls hl => ?_)
      refine lv_aload F.1 F.2.1 dX5_trialAgreesWithBooks_25 (lv_at hl 0 rfl) ?_
      refine lv_bipush (v := 12) F.1 F.2.1 dX5_trialAgreesWithBooks_27 (by decide) ?_
      refine al (v := g (14 * (((nN f % 12) + 12 - (k + 1)) % 12) + 12)) F hK hP ((((nN f % 12) + 12 - (k + 1)) % 12) + 11) 0 (wR_at ct bk rw (nI (nN f % 12)) (nI (min 12 (nN f))) g (by omega)) rfl 12 rfl (by omega) (by decide) rfl dX5_trialAgreesWithBooks_29 ?_
      refine tp (y := nI ((nN h - 1 - k) % 2)) (by rw [eI, hb.2.2.2.1]; congr 1; omega) ?_
      refine lv_iload_n F.1 F.2.1 dX5_trialAgreesWithBooks_30 rfl (lv_at hl 4 rfl) ?_
      refine lv_icmp_ne (tgt := 69) F.1 F.2.1 dX5_trialAgreesWithBooks_31 (by decide) (fun c_31 => ?_) (fun c_31 => ?_)
      · refine lv_iinc (v := nI (k + 1)) (lv' := [(3, .int (nI (k + 1))), (4, .ref (rw (((nN f % 12) + 12 - (k + 1)) % 12))), (2, .ref bk), (0, .ref x), (1, .int (nI s))]) F.1 F.2.1 dX5_trialAgreesWithBooks_69 hl (k := 1) rfl (by rw [show Int32.ofInt 1 = nI 1 from rfl, nI_add]) (by decide) rfl (fun ls hl => ?_)
        refine lv_goto (tgt := 10) F.1 F.2.1 dX5_trialAgreesWithBooks_72 (by decide) ?_
        exact ih_10 _ _ _ ⟨u, hP, hD, hS, lv_sub hl [0, 2, 3, 4] rfl, ⟨hx.1, af_go hx.2 (fun q => absurd (congrArg nI q.1) c_31)⟩⟩
      · refine lv_aload F.1 F.2.1 dX5_trialAgreesWithBooks_34 (lv_at hl 0 rfl) ?_
        refine lv_bipush (v := 11) F.1 F.2.1 dX5_trialAgreesWithBooks_36 (by decide) ?_
        refine al (v := g (14 * (((nN f % 12) + 12 - (k + 1)) % 12) + 11)) F hK hP ((((nN f % 12) + 12 - (k + 1)) % 12) + 11) 0 (wR_at ct bk rw (nI (nN f % 12)) (nI (min 12 (nN f))) g (by omega)) rfl 11 rfl (by omega) (by decide) rfl dX5_trialAgreesWithBooks_38 ?_
        refine lv_if_le (tgt := 69) F.1 F.2.1 dX5_trialAgreesWithBooks_39 (by decide) (fun c_39 => ?_) (fun c_39 => ?_)
        · refine lv_iinc (v := nI (k + 1)) (lv' := [(3, .int (nI (k + 1))), (4, .ref (rw (((nN f % 12) + 12 - (k + 1)) % 12))), (2, .ref bk), (0, .ref x), (1, .int (nI s))]) F.1 F.2.1 dX5_trialAgreesWithBooks_69 hl (k := 1) rfl (by rw [show Int32.ofInt 1 = nI 1 from rfl, nI_add]) (by decide) rfl (fun ls hl => ?_)
          refine lv_goto (tgt := 10) F.1 F.2.1 dX5_trialAgreesWithBooks_72 (by decide) ?_
          exact ih_10 _ _ _ ⟨u, hP, hD, hS, lv_sub hl [0, 2, 3, 4] rfl, ⟨hx.1, af_go hx.2 (fun q => absurd q.2 (Int32.not_lt.mpr (by rw [← hb.2.2.1, ← eI]; exact c_39)))⟩⟩
        · have es : (nN h - 1 - k) % 2 = s := nI_of_eq c_31 (by omega) (by omega)
          rcases (show ((nN f % 12 + 12 - (k + 1)) % 12) = 0 ∨ ((nN f % 12 + 12 - (k + 1)) % 12) = 1 ∨ ((nN f % 12 + 12 - (k + 1)) % 12) = 2 ∨ ((nN f % 12 + 12 - (k + 1)) % 12) = 3 ∨ ((nN f % 12 + 12 - (k + 1)) % 12) = 4 ∨ ((nN f % 12 + 12 - (k + 1)) % 12) = 5 ∨ ((nN f % 12 + 12 - (k + 1)) % 12) = 6 ∨ ((nN f % 12 + 12 - (k + 1)) % 12) = 7 ∨ ((nN f % 12 + 12 - (k + 1)) % 12) = 8 ∨ ((nN f % 12 + 12 - (k + 1)) % 12) = 9 ∨ ((nN f % 12 + 12 - (k + 1)) % 12) = 10 ∨ ((nN f % 12 + 12 - (k + 1)) % 12) = 11 by omega) with eJ | eJ | eJ | eJ | eJ | eJ | eJ | eJ | eJ | eJ | eJ | eJ
          · rw [eJ] at hl c_39
            have hb3 : (nN h - 1 - k) % 12 = 0 := eI.symm.trans eJ
            rw [hb3] at hb
            refine lv_aload_n F.1 F.2.1 dX5_trialAgreesWithBooks_42 rfl (lv_at hl 3 rfl) ?_
            refine gf F hK hP 0 rfl rfl hiX5_trialAgreesWithBooks_5 3 (by decide) (List.mem_of_getElem? (i := 4) rfl) rfl dX5_trialAgreesWithBooks_43 ?_
            refine lv_aload F.1 F.2.1 dX5_trialAgreesWithBooks_46 (lv_at hl 0 rfl) ?_
            refine vV (rest := []) (wsp := fun _ => (x, .inr (5, [.ref st, .ref kt, .int ik, .ref (tr 0), .ref sc, .ref sh, .ref fo])) :: (st, .inr (4, [.ref (b 0), .ref bk, .ref sp, .int zz])) :: (wB ct tr (stF u (fun j => g (14 * 0 + j)) s) ++ (wR ct bk rw (nI (nN f % 12)) (nI (min 12 (nN f))) g))) F (kX1_standAs l dC dI ct tr (rw 0) u (fun j => g (14 * 0 + j)) s (by omega) (hb.2.2.2.1.trans (congrArg nI (show 0 % 2 = s by omega)))) gX5_trialAgreesWithBooks_X1_standAs rfl ⟨rfl, rfl⟩ nmX1_standAs ⟨Nat.le_of_ble_eq_true rfl, Nat.le_of_ble_eq_true rfl⟩ eT_b (fun _ _ _ => trivial) hK hP hD hS hA 2 rfl rfl rfl [2, 3, 4, 5, 6, 7, 8, 11] (by decide) rfl rfl rfl hl.1 (Nat.le_of_ble_eq_true rfl) dX5_trialAgreesWithBooks_48 ⟨Nat.zero_le _, Nat.zero_le _⟩ (fun _ => rfl) (fun _ => rfl) [x, st, tr 0, tr 1, tr 2, tr 3, tr 4, tr 5, tr 6, bk, rw 12, rw 0, rw 1, rw 2, rw 3, rw 4, rw 5, rw 6, rw 7, rw 8, rw 9, rw 10, rw 11] rfl (fun _ => rfl) (fun u_48 H locs e_48 hP hD hS => ?_)
            refine lv_aload_n F.1 F.2.1 dX5_trialAgreesWithBooks_51 rfl (lv_at hl 3 rfl) ?_
            refine gf F hK hP 0 rfl rfl hiX5_trialAgreesWithBooks_5 3 (by decide) (List.mem_of_getElem? (i := 4) rfl) rfl dX5_trialAgreesWithBooks_52 ?_
            refine lv_iload_n F.1 F.2.1 dX5_trialAgreesWithBooks_55 rfl (lv_at hl 4 rfl) ?_
            refine iV (rest := []) (wsp := fun _ => (x, .inr (5, [.ref st, .ref kt, .int ik, .ref (tr 0), .ref sc, .ref sh, .ref fo])) :: (st, .inr (4, [.ref (b 0), .ref bk, .ref sp, .int zz])) :: (wB ct tr (stF u (fun j => g (14 * 0 + j)) s) ++ (wR ct bk rw (nI (nN f % 12)) (nI (min 12 (nN f))) g))) F (kX1_deedOf l dC dI ct tr (stF u (fun j => g (14 * 0 + j)) s) s (by omega) ((deed_row hRg hRB hs (by omega) hx.1 hb.1 hb.2.1 hb.2.2.1 (Int32.not_le.mp c_39)).1)) gX5_trialAgreesWithBooks_X1_deedOf rfl ⟨rfl, rfl⟩ nmX1_deedOf ⟨Nat.le_of_ble_eq_true rfl, Nat.le_of_ble_eq_true rfl⟩ eT_b (fun _ _ _ => trivial) hK hP hD hS hA 2 rfl rfl rfl [2, 3, 4, 5, 6, 7, 8] (by decide) rfl rfl rfl hl.1 (Nat.le_of_ble_eq_true rfl) dX5_trialAgreesWithBooks_56 ⟨Nat.zero_le _, Nat.zero_le _⟩ (fun _ => rfl) (fun _ => rfl) [x, st, tr 0, tr 1, tr 2, tr 3, tr 4, tr 5, tr 6, bk, rw 12, rw 0, rw 1, rw 2, rw 3, rw 4, rw 5, rw 6, rw 7, rw 8, rw 9, rw 10, rw 11] rfl (fun _ => rfl) (fun r_56 u_56 H locs e_56 hP hD hS => ?_)
            obtain rfl := e_56
            refine lv_aload F.1 F.2.1 dX5_trialAgreesWithBooks_59 (lv_at hl 0 rfl) ?_
            refine lv_bipush (v := 13) F.1 F.2.1 dX5_trialAgreesWithBooks_61 (by decide) ?_
            refine al (v := g (14 * 0 + 13)) F hK hP 11 0 rfl rfl 13 rfl (by omega) (by decide) rfl dX5_trialAgreesWithBooks_63 ?_
            refine lv_icmp_eq (tgt := 69) F.1 F.2.1 dX5_trialAgreesWithBooks_64 (by decide) (fun c_64 => ?_) (fun c_64 => ?_)
            · refine lv_iinc (v := nI (k + 1)) (lv' := [(3, .int (nI (k + 1))), (4, .ref (rw 0)), (2, .ref bk), (0, .ref x), (1, .int (nI s))]) F.1 F.2.1 dX5_trialAgreesWithBooks_69 hl (k := 1) rfl (by rw [show Int32.ofInt 1 = nI 1 from rfl, nI_add]) (by decide) rfl (fun ls hl => ?_)
              refine lv_goto (tgt := 10) F.1 F.2.1 dX5_trialAgreesWithBooks_72 (by decide) ?_
              exact ih_10 _ _ _ ⟨(stF u (fun j => g (14 * 0 + j)) s), hP, hD, hS, lv_sub hl [0, 2, 3, 4] rfl, ⟨AgW_stay hx.1, af_go hx.2 (fun _ => by rw [hb3]; exact (deed_row hRg hRB hs (by omega) hx.1 hb.1 hb.2.1 hb.2.2.1 (Int32.not_le.mp c_39)).2.symm.trans (c_64.trans hb.2.2.2.2))⟩⟩
            · refine lv_iconst (v := 0) F.1 F.2.1 dX5_trialAgreesWithBooks_67 (by decide) ?_
              exact rtZ (stF u (fun j => g (14 * 0 + j)) s) F hr hlk hP hS rfl (⟨af_stop (by omega) ⟨es, by rw [hb3, ← hb.2.2.1]; exact Int32.not_le.mp c_39⟩ (by rw [hb3]; intro z; exact c_64 ((deed_row hRg hRB hs (by omega) hx.1 hb.1 hb.2.1 hb.2.2.1 (Int32.not_le.mp c_39)).2.trans (z.trans hb.2.2.2.2.symm))), AgW_stay hx.1⟩) (Or.inl rfl) dX5_trialAgreesWithBooks_68
          · rw [eJ] at hl c_39
            have hb3 : (nN h - 1 - k) % 12 = 1 := eI.symm.trans eJ
            rw [hb3] at hb
            refine lv_aload_n F.1 F.2.1 dX5_trialAgreesWithBooks_42 rfl (lv_at hl 3 rfl) ?_
            refine gf F hK hP 0 rfl rfl hiX5_trialAgreesWithBooks_5 3 (by decide) (List.mem_of_getElem? (i := 4) rfl) rfl dX5_trialAgreesWithBooks_43 ?_
            refine lv_aload F.1 F.2.1 dX5_trialAgreesWithBooks_46 (lv_at hl 0 rfl) ?_
            refine vV (rest := []) (wsp := fun _ => (x, .inr (5, [.ref st, .ref kt, .int ik, .ref (tr 0), .ref sc, .ref sh, .ref fo])) :: (st, .inr (4, [.ref (b 0), .ref bk, .ref sp, .int zz])) :: (wB ct tr (stF u (fun j => g (14 * 1 + j)) s) ++ (wR ct bk rw (nI (nN f % 12)) (nI (min 12 (nN f))) g))) F (kX1_standAs l dC dI ct tr (rw 1) u (fun j => g (14 * 1 + j)) s (by omega) (hb.2.2.2.1.trans (congrArg nI (show 1 % 2 = s by omega)))) gX5_trialAgreesWithBooks_X1_standAs rfl ⟨rfl, rfl⟩ nmX1_standAs ⟨Nat.le_of_ble_eq_true rfl, Nat.le_of_ble_eq_true rfl⟩ eT_b (fun _ _ _ => trivial) hK hP hD hS hA 2 rfl rfl rfl [2, 3, 4, 5, 6, 7, 8, 12] (by decide) rfl rfl rfl hl.1 (Nat.le_of_ble_eq_true rfl) dX5_trialAgreesWithBooks_48 ⟨Nat.zero_le _, Nat.zero_le _⟩ (fun _ => rfl) (fun _ => rfl) [x, st, tr 0, tr 1, tr 2, tr 3, tr 4, tr 5, tr 6, bk, rw 12, rw 0, rw 1, rw 2, rw 3, rw 4, rw 5, rw 6, rw 7, rw 8, rw 9, rw 10, rw 11] rfl (fun _ => rfl) (fun u_48 H locs e_48 hP hD hS => ?_)
            refine lv_aload_n F.1 F.2.1 dX5_trialAgreesWithBooks_51 rfl (lv_at hl 3 rfl) ?_
            refine gf F hK hP 0 rfl rfl hiX5_trialAgreesWithBooks_5 3 (by decide) (List.mem_of_getElem? (i := 4) rfl) rfl dX5_trialAgreesWithBooks_52 ?_
            refine lv_iload_n F.1 F.2.1 dX5_trialAgreesWithBooks_55 rfl (lv_at hl 4 rfl) ?_
            refine iV (rest := []) (wsp := fun _ => (x, .inr (5, [.ref st, .ref kt, .int ik, .ref (tr 0), .ref sc, .ref sh, .ref fo])) :: (st, .inr (4, [.ref (b 0), .ref bk, .ref sp, .int zz])) :: (wB ct tr (stF u (fun j => g (14 * 1 + j)) s) ++ (wR ct bk rw (nI (nN f % 12)) (nI (min 12 (nN f))) g))) F (kX1_deedOf l dC dI ct tr (stF u (fun j => g (14 * 1 + j)) s) s (by omega) ((deed_row hRg hRB hs (by omega) hx.1 hb.1 hb.2.1 hb.2.2.1 (Int32.not_le.mp c_39)).1)) gX5_trialAgreesWithBooks_X1_deedOf rfl ⟨rfl, rfl⟩ nmX1_deedOf ⟨Nat.le_of_ble_eq_true rfl, Nat.le_of_ble_eq_true rfl⟩ eT_b (fun _ _ _ => trivial) hK hP hD hS hA 2 rfl rfl rfl [2, 3, 4, 5, 6, 7, 8] (by decide) rfl rfl rfl hl.1 (Nat.le_of_ble_eq_true rfl) dX5_trialAgreesWithBooks_56 ⟨Nat.zero_le _, Nat.zero_le _⟩ (fun _ => rfl) (fun _ => rfl) [x, st, tr 0, tr 1, tr 2, tr 3, tr 4, tr 5, tr 6, bk, rw 12, rw 0, rw 1, rw 2, rw 3, rw 4, rw 5, rw 6, rw 7, rw 8, rw 9, rw 10, rw 11] rfl (fun _ => rfl) (fun r_56 u_56 H locs e_56 hP hD hS => ?_)
            obtain rfl := e_56
            refine lv_aload F.1 F.2.1 dX5_trialAgreesWithBooks_59 (lv_at hl 0 rfl) ?_
            refine lv_bipush (v := 13) F.1 F.2.1 dX5_trialAgreesWithBooks_61 (by decide) ?_
            refine al (v := g (14 * 1 + 13)) F hK hP 12 0 rfl rfl 13 rfl (by omega) (by decide) rfl dX5_trialAgreesWithBooks_63 ?_
            refine lv_icmp_eq (tgt := 69) F.1 F.2.1 dX5_trialAgreesWithBooks_64 (by decide) (fun c_64 => ?_) (fun c_64 => ?_)
            · refine lv_iinc (v := nI (k + 1)) (lv' := [(3, .int (nI (k + 1))), (4, .ref (rw 1)), (2, .ref bk), (0, .ref x), (1, .int (nI s))]) F.1 F.2.1 dX5_trialAgreesWithBooks_69 hl (k := 1) rfl (by rw [show Int32.ofInt 1 = nI 1 from rfl, nI_add]) (by decide) rfl (fun ls hl => ?_)
              refine lv_goto (tgt := 10) F.1 F.2.1 dX5_trialAgreesWithBooks_72 (by decide) ?_
              exact ih_10 _ _ _ ⟨(stF u (fun j => g (14 * 1 + j)) s), hP, hD, hS, lv_sub hl [0, 2, 3, 4] rfl, ⟨AgW_stay hx.1, af_go hx.2 (fun _ => by rw [hb3]; exact (deed_row hRg hRB hs (by omega) hx.1 hb.1 hb.2.1 hb.2.2.1 (Int32.not_le.mp c_39)).2.symm.trans (c_64.trans hb.2.2.2.2))⟩⟩
            · refine lv_iconst (v := 0) F.1 F.2.1 dX5_trialAgreesWithBooks_67 (by decide) ?_
              exact rtZ (stF u (fun j => g (14 * 1 + j)) s) F hr hlk hP hS rfl (⟨af_stop (by omega) ⟨es, by rw [hb3, ← hb.2.2.1]; exact Int32.not_le.mp c_39⟩ (by rw [hb3]; intro z; exact c_64 ((deed_row hRg hRB hs (by omega) hx.1 hb.1 hb.2.1 hb.2.2.1 (Int32.not_le.mp c_39)).2.trans (z.trans hb.2.2.2.2.symm))), AgW_stay hx.1⟩) (Or.inl rfl) dX5_trialAgreesWithBooks_68
          · rw [eJ] at hl c_39
            have hb3 : (nN h - 1 - k) % 12 = 2 := eI.symm.trans eJ
            rw [hb3] at hb
            refine lv_aload_n F.1 F.2.1 dX5_trialAgreesWithBooks_42 rfl (lv_at hl 3 rfl) ?_
            refine gf F hK hP 0 rfl rfl hiX5_trialAgreesWithBooks_5 3 (by decide) (List.mem_of_getElem? (i := 4) rfl) rfl dX5_trialAgreesWithBooks_43 ?_
            refine lv_aload F.1 F.2.1 dX5_trialAgreesWithBooks_46 (lv_at hl 0 rfl) ?_
            refine vV (rest := []) (wsp := fun _ => (x, .inr (5, [.ref st, .ref kt, .int ik, .ref (tr 0), .ref sc, .ref sh, .ref fo])) :: (st, .inr (4, [.ref (b 0), .ref bk, .ref sp, .int zz])) :: (wB ct tr (stF u (fun j => g (14 * 2 + j)) s) ++ (wR ct bk rw (nI (nN f % 12)) (nI (min 12 (nN f))) g))) F (kX1_standAs l dC dI ct tr (rw 2) u (fun j => g (14 * 2 + j)) s (by omega) (hb.2.2.2.1.trans (congrArg nI (show 2 % 2 = s by omega)))) gX5_trialAgreesWithBooks_X1_standAs rfl ⟨rfl, rfl⟩ nmX1_standAs ⟨Nat.le_of_ble_eq_true rfl, Nat.le_of_ble_eq_true rfl⟩ eT_b (fun _ _ _ => trivial) hK hP hD hS hA 2 rfl rfl rfl [2, 3, 4, 5, 6, 7, 8, 13] (by decide) rfl rfl rfl hl.1 (Nat.le_of_ble_eq_true rfl) dX5_trialAgreesWithBooks_48 ⟨Nat.zero_le _, Nat.zero_le _⟩ (fun _ => rfl) (fun _ => rfl) [x, st, tr 0, tr 1, tr 2, tr 3, tr 4, tr 5, tr 6, bk, rw 12, rw 0, rw 1, rw 2, rw 3, rw 4, rw 5, rw 6, rw 7, rw 8, rw 9, rw 10, rw 11] rfl (fun _ => rfl) (fun u_48 H locs e_48 hP hD hS => ?_)
            refine lv_aload_n F.1 F.2.1 dX5_trialAgreesWithBooks_51 rfl (lv_at hl 3 rfl) ?_
            refine gf F hK hP 0 rfl rfl hiX5_trialAgreesWithBooks_5 3 (by decide) (List.mem_of_getElem? (i := 4) rfl) rfl dX5_trialAgreesWithBooks_52 ?_
            refine lv_iload_n F.1 F.2.1 dX5_trialAgreesWithBooks_55 rfl (lv_at hl 4 rfl) ?_
            refine iV (rest := []) (wsp := fun _ => (x, .inr (5, [.ref st, .ref kt, .int ik, .ref (tr 0), .ref sc, .ref sh, .ref fo])) :: (st, .inr (4, [.ref (b 0), .ref bk, .ref sp, .int zz])) :: (wB ct tr (stF u (fun j => g (14 * 2 + j)) s) ++ (wR ct bk rw (nI (nN f % 12)) (nI (min 12 (nN f))) g))) F (kX1_deedOf l dC dI ct tr (stF u (fun j => g (14 * 2 + j)) s) s (by omega) ((deed_row hRg hRB hs (by omega) hx.1 hb.1 hb.2.1 hb.2.2.1 (Int32.not_le.mp c_39)).1)) gX5_trialAgreesWithBooks_X1_deedOf rfl ⟨rfl, rfl⟩ nmX1_deedOf ⟨Nat.le_of_ble_eq_true rfl, Nat.le_of_ble_eq_true rfl⟩ eT_b (fun _ _ _ => trivial) hK hP hD hS hA 2 rfl rfl rfl [2, 3, 4, 5, 6, 7, 8] (by decide) rfl rfl rfl hl.1 (Nat.le_of_ble_eq_true rfl) dX5_trialAgreesWithBooks_56 ⟨Nat.zero_le _, Nat.zero_le _⟩ (fun _ => rfl) (fun _ => rfl) [x, st, tr 0, tr 1, tr 2, tr 3, tr 4, tr 5, tr 6, bk, rw 12, rw 0, rw 1, rw 2, rw 3, rw 4, rw 5, rw 6, rw 7, rw 8, rw 9, rw 10, rw 11] rfl (fun _ => rfl) (fun r_56 u_56 H locs e_56 hP hD hS => ?_)
            obtain rfl := e_56
            refine lv_aload F.1 F.2.1 dX5_trialAgreesWithBooks_59 (lv_at hl 0 rfl) ?_
            refine lv_bipush (v := 13) F.1 F.2.1 dX5_trialAgreesWithBooks_61 (by decide) ?_
            refine al (v := g (14 * 2 + 13)) F hK hP 13 0 rfl rfl 13 rfl (by omega) (by decide) rfl dX5_trialAgreesWithBooks_63 ?_
            refine lv_icmp_eq (tgt := 69) F.1 F.2.1 dX5_trialAgreesWithBooks_64 (by decide) (fun c_64 => ?_) (fun c_64 => ?_)
            · refine lv_iinc (v := nI (k + 1)) (lv' := [(3, .int (nI (k + 1))), (4, .ref (rw 2)), (2, .ref bk), (0, .ref x), (1, .int (nI s))]) F.1 F.2.1 dX5_trialAgreesWithBooks_69 hl (k := 1) rfl (by rw [show Int32.ofInt 1 = nI 1 from rfl, nI_add]) (by decide) rfl (fun ls hl => ?_)
              refine lv_goto (tgt := 10) F.1 F.2.1 dX5_trialAgreesWithBooks_72 (by decide) ?_
              exact ih_10 _ _ _ ⟨(stF u (fun j => g (14 * 2 + j)) s), hP, hD, hS, lv_sub hl [0, 2, 3, 4] rfl, ⟨AgW_stay hx.1, af_go hx.2 (fun _ => by rw [hb3]; exact (deed_row hRg hRB hs (by omega) hx.1 hb.1 hb.2.1 hb.2.2.1 (Int32.not_le.mp c_39)).2.symm.trans (c_64.trans hb.2.2.2.2))⟩⟩
            · refine lv_iconst (v := 0) F.1 F.2.1 dX5_trialAgreesWithBooks_67 (by decide) ?_
              exact rtZ (stF u (fun j => g (14 * 2 + j)) s) F hr hlk hP hS rfl (⟨af_stop (by omega) ⟨es, by rw [hb3, ← hb.2.2.1]; exact Int32.not_le.mp c_39⟩ (by rw [hb3]; intro z; exact c_64 ((deed_row hRg hRB hs (by omega) hx.1 hb.1 hb.2.1 hb.2.2.1 (Int32.not_le.mp c_39)).2.trans (z.trans hb.2.2.2.2.symm))), AgW_stay hx.1⟩) (Or.inl rfl) dX5_trialAgreesWithBooks_68
          · rw [eJ] at hl c_39
            have hb3 : (nN h - 1 - k) % 12 = 3 := eI.symm.trans eJ
            rw [hb3] at hb
            refine lv_aload_n F.1 F.2.1 dX5_trialAgreesWithBooks_42 rfl (lv_at hl 3 rfl) ?_
            refine gf F hK hP 0 rfl rfl hiX5_trialAgreesWithBooks_5 3 (by decide) (List.mem_of_getElem? (i := 4) rfl) rfl dX5_trialAgreesWithBooks_43 ?_
            refine lv_aload F.1 F.2.1 dX5_trialAgreesWithBooks_46 (lv_at hl 0 rfl) ?_
            refine vV (rest := []) (wsp := fun _ => (x, .inr (5, [.ref st, .ref kt, .int ik, .ref (tr 0), .ref sc, .ref sh, .ref fo])) :: (st, .inr (4, [.ref (b 0), .ref bk, .ref sp, .int zz])) :: (wB ct tr (stF u (fun j => g (14 * 3 + j)) s) ++ (wR ct bk rw (nI (nN f % 12)) (nI (min 12 (nN f))) g))) F (kX1_standAs l dC dI ct tr (rw 3) u (fun j => g (14 * 3 + j)) s (by omega) (hb.2.2.2.1.trans (congrArg nI (show 3 % 2 = s by omega)))) gX5_trialAgreesWithBooks_X1_standAs rfl ⟨rfl, rfl⟩ nmX1_standAs ⟨Nat.le_of_ble_eq_true rfl, Nat.le_of_ble_eq_true rfl⟩ eT_b (fun _ _ _ => trivial) hK hP hD hS hA 2 rfl rfl rfl [2, 3, 4, 5, 6, 7, 8, 14] (by decide) rfl rfl rfl hl.1 (Nat.le_of_ble_eq_true rfl) dX5_trialAgreesWithBooks_48 ⟨Nat.zero_le _, Nat.zero_le _⟩ (fun _ => rfl) (fun _ => rfl) [x, st, tr 0, tr 1, tr 2, tr 3, tr 4, tr 5, tr 6, bk, rw 12, rw 0, rw 1, rw 2, rw 3, rw 4, rw 5, rw 6, rw 7, rw 8, rw 9, rw 10, rw 11] rfl (fun _ => rfl) (fun u_48 H locs e_48 hP hD hS => ?_)
            refine lv_aload_n F.1 F.2.1 dX5_trialAgreesWithBooks_51 rfl (lv_at hl 3 rfl) ?_
            refine gf F hK hP 0 rfl rfl hiX5_trialAgreesWithBooks_5 3 (by decide) (List.mem_of_getElem? (i := 4) rfl) rfl dX5_trialAgreesWithBooks_52 ?_
            refine lv_iload_n F.1 F.2.1 dX5_trialAgreesWithBooks_55 rfl (lv_at hl 4 rfl) ?_
            refine iV (rest := []) (wsp := fun _ => (x, .inr (5, [.ref st, .ref kt, .int ik, .ref (tr 0), .ref sc, .ref sh, .ref fo])) :: (st, .inr (4, [.ref (b 0), .ref bk, .ref sp, .int zz])) :: (wB ct tr (stF u (fun j => g (14 * 3 + j)) s) ++ (wR ct bk rw (nI (nN f % 12)) (nI (min 12 (nN f))) g))) F (kX1_deedOf l dC dI ct tr (stF u (fun j => g (14 * 3 + j)) s) s (by omega) ((deed_row hRg hRB hs (by omega) hx.1 hb.1 hb.2.1 hb.2.2.1 (Int32.not_le.mp c_39)).1)) gX5_trialAgreesWithBooks_X1_deedOf rfl ⟨rfl, rfl⟩ nmX1_deedOf ⟨Nat.le_of_ble_eq_true rfl, Nat.le_of_ble_eq_true rfl⟩ eT_b (fun _ _ _ => trivial) hK hP hD hS hA 2 rfl rfl rfl [2, 3, 4, 5, 6, 7, 8] (by decide) rfl rfl rfl hl.1 (Nat.le_of_ble_eq_true rfl) dX5_trialAgreesWithBooks_56 ⟨Nat.zero_le _, Nat.zero_le _⟩ (fun _ => rfl) (fun _ => rfl) [x, st, tr 0, tr 1, tr 2, tr 3, tr 4, tr 5, tr 6, bk, rw 12, rw 0, rw 1, rw 2, rw 3, rw 4, rw 5, rw 6, rw 7, rw 8, rw 9, rw 10, rw 11] rfl (fun _ => rfl) (fun r_56 u_56 H locs e_56 hP hD hS => ?_)
            obtain rfl := e_56
            refine lv_aload F.1 F.2.1 dX5_trialAgreesWithBooks_59 (lv_at hl 0 rfl) ?_
            refine lv_bipush (v := 13) F.1 F.2.1 dX5_trialAgreesWithBooks_61 (by decide) ?_
            refine al (v := g (14 * 3 + 13)) F hK hP 14 0 rfl rfl 13 rfl (by omega) (by decide) rfl dX5_trialAgreesWithBooks_63 ?_
            refine lv_icmp_eq (tgt := 69) F.1 F.2.1 dX5_trialAgreesWithBooks_64 (by decide) (fun c_64 => ?_) (fun c_64 => ?_)
            · refine lv_iinc (v := nI (k + 1)) (lv' := [(3, .int (nI (k + 1))), (4, .ref (rw 3)), (2, .ref bk), (0, .ref x), (1, .int (nI s))]) F.1 F.2.1 dX5_trialAgreesWithBooks_69 hl (k := 1) rfl (by rw [show Int32.ofInt 1 = nI 1 from rfl, nI_add]) (by decide) rfl (fun ls hl => ?_)
              refine lv_goto (tgt := 10) F.1 F.2.1 dX5_trialAgreesWithBooks_72 (by decide) ?_
              exact ih_10 _ _ _ ⟨(stF u (fun j => g (14 * 3 + j)) s), hP, hD, hS, lv_sub hl [0, 2, 3, 4] rfl, ⟨AgW_stay hx.1, af_go hx.2 (fun _ => by rw [hb3]; exact (deed_row hRg hRB hs (by omega) hx.1 hb.1 hb.2.1 hb.2.2.1 (Int32.not_le.mp c_39)).2.symm.trans (c_64.trans hb.2.2.2.2))⟩⟩
            · refine lv_iconst (v := 0) F.1 F.2.1 dX5_trialAgreesWithBooks_67 (by decide) ?_
              exact rtZ (stF u (fun j => g (14 * 3 + j)) s) F hr hlk hP hS rfl (⟨af_stop (by omega) ⟨es, by rw [hb3, ← hb.2.2.1]; exact Int32.not_le.mp c_39⟩ (by rw [hb3]; intro z; exact c_64 ((deed_row hRg hRB hs (by omega) hx.1 hb.1 hb.2.1 hb.2.2.1 (Int32.not_le.mp c_39)).2.trans (z.trans hb.2.2.2.2.symm))), AgW_stay hx.1⟩) (Or.inl rfl) dX5_trialAgreesWithBooks_68
          · rw [eJ] at hl c_39
            have hb3 : (nN h - 1 - k) % 12 = 4 := eI.symm.trans eJ
            rw [hb3] at hb
            refine lv_aload_n F.1 F.2.1 dX5_trialAgreesWithBooks_42 rfl (lv_at hl 3 rfl) ?_
            refine gf F hK hP 0 rfl rfl hiX5_trialAgreesWithBooks_5 3 (by decide) (List.mem_of_getElem? (i := 4) rfl) rfl dX5_trialAgreesWithBooks_43 ?_
            refine lv_aload F.1 F.2.1 dX5_trialAgreesWithBooks_46 (lv_at hl 0 rfl) ?_
            refine vV (rest := []) (wsp := fun _ => (x, .inr (5, [.ref st, .ref kt, .int ik, .ref (tr 0), .ref sc, .ref sh, .ref fo])) :: (st, .inr (4, [.ref (b 0), .ref bk, .ref sp, .int zz])) :: (wB ct tr (stF u (fun j => g (14 * 4 + j)) s) ++ (wR ct bk rw (nI (nN f % 12)) (nI (min 12 (nN f))) g))) F (kX1_standAs l dC dI ct tr (rw 4) u (fun j => g (14 * 4 + j)) s (by omega) (hb.2.2.2.1.trans (congrArg nI (show 4 % 2 = s by omega)))) gX5_trialAgreesWithBooks_X1_standAs rfl ⟨rfl, rfl⟩ nmX1_standAs ⟨Nat.le_of_ble_eq_true rfl, Nat.le_of_ble_eq_true rfl⟩ eT_b (fun _ _ _ => trivial) hK hP hD hS hA 2 rfl rfl rfl [2, 3, 4, 5, 6, 7, 8, 15] (by decide) rfl rfl rfl hl.1 (Nat.le_of_ble_eq_true rfl) dX5_trialAgreesWithBooks_48 ⟨Nat.zero_le _, Nat.zero_le _⟩ (fun _ => rfl) (fun _ => rfl) [x, st, tr 0, tr 1, tr 2, tr 3, tr 4, tr 5, tr 6, bk, rw 12, rw 0, rw 1, rw 2, rw 3, rw 4, rw 5, rw 6, rw 7, rw 8, rw 9, rw 10, rw 11] rfl (fun _ => rfl) (fun u_48 H locs e_48 hP hD hS => ?_)
            refine lv_aload_n F.1 F.2.1 dX5_trialAgreesWithBooks_51 rfl (lv_at hl 3 rfl) ?_
            refine gf F hK hP 0 rfl rfl hiX5_trialAgreesWithBooks_5 3 (by decide) (List.mem_of_getElem? (i := 4) rfl) rfl dX5_trialAgreesWithBooks_52 ?_
            refine lv_iload_n F.1 F.2.1 dX5_trialAgreesWithBooks_55 rfl (lv_at hl 4 rfl) ?_
            refine iV (rest := []) (wsp := fun _ => (x, .inr (5, [.ref st, .ref kt, .int ik, .ref (tr 0), .ref sc, .ref sh, .ref fo])) :: (st, .inr (4, [.ref (b 0), .ref bk, .ref sp, .int zz])) :: (wB ct tr (stF u (fun j => g (14 * 4 + j)) s) ++ (wR ct bk rw (nI (nN f % 12)) (nI (min 12 (nN f))) g))) F (kX1_deedOf l dC dI ct tr (stF u (fun j => g (14 * 4 + j)) s) s (by omega) ((deed_row hRg hRB hs (by omega) hx.1 hb.1 hb.2.1 hb.2.2.1 (Int32.not_le.mp c_39)).1)) gX5_trialAgreesWithBooks_X1_deedOf rfl ⟨rfl, rfl⟩ nmX1_deedOf ⟨Nat.le_of_ble_eq_true rfl, Nat.le_of_ble_eq_true rfl⟩ eT_b (fun _ _ _ => trivial) hK hP hD hS hA 2 rfl rfl rfl [2, 3, 4, 5, 6, 7, 8] (by decide) rfl rfl rfl hl.1 (Nat.le_of_ble_eq_true rfl) dX5_trialAgreesWithBooks_56 ⟨Nat.zero_le _, Nat.zero_le _⟩ (fun _ => rfl) (fun _ => rfl) [x, st, tr 0, tr 1, tr 2, tr 3, tr 4, tr 5, tr 6, bk, rw 12, rw 0, rw 1, rw 2, rw 3, rw 4, rw 5, rw 6, rw 7, rw 8, rw 9, rw 10, rw 11] rfl (fun _ => rfl) (fun r_56 u_56 H locs e_56 hP hD hS => ?_)
            obtain rfl := e_56
            refine lv_aload F.1 F.2.1 dX5_trialAgreesWithBooks_59 (lv_at hl 0 rfl) ?_
            refine lv_bipush (v := 13) F.1 F.2.1 dX5_trialAgreesWithBooks_61 (by decide) ?_
            refine al (v := g (14 * 4 + 13)) F hK hP 15 0 rfl rfl 13 rfl (by omega) (by decide) rfl dX5_trialAgreesWithBooks_63 ?_
            refine lv_icmp_eq (tgt := 69) F.1 F.2.1 dX5_trialAgreesWithBooks_64 (by decide) (fun c_64 => ?_) (fun c_64 => ?_)
            · refine lv_iinc (v := nI (k + 1)) (lv' := [(3, .int (nI (k + 1))), (4, .ref (rw 4)), (2, .ref bk), (0, .ref x), (1, .int (nI s))]) F.1 F.2.1 dX5_trialAgreesWithBooks_69 hl (k := 1) rfl (by rw [show Int32.ofInt 1 = nI 1 from rfl, nI_add]) (by decide) rfl (fun ls hl => ?_)
              refine lv_goto (tgt := 10) F.1 F.2.1 dX5_trialAgreesWithBooks_72 (by decide) ?_
              exact ih_10 _ _ _ ⟨(stF u (fun j => g (14 * 4 + j)) s), hP, hD, hS, lv_sub hl [0, 2, 3, 4] rfl, ⟨AgW_stay hx.1, af_go hx.2 (fun _ => by rw [hb3]; exact (deed_row hRg hRB hs (by omega) hx.1 hb.1 hb.2.1 hb.2.2.1 (Int32.not_le.mp c_39)).2.symm.trans (c_64.trans hb.2.2.2.2))⟩⟩
            · refine lv_iconst (v := 0) F.1 F.2.1 dX5_trialAgreesWithBooks_67 (by decide) ?_
              exact rtZ (stF u (fun j => g (14 * 4 + j)) s) F hr hlk hP hS rfl (⟨af_stop (by omega) ⟨es, by rw [hb3, ← hb.2.2.1]; exact Int32.not_le.mp c_39⟩ (by rw [hb3]; intro z; exact c_64 ((deed_row hRg hRB hs (by omega) hx.1 hb.1 hb.2.1 hb.2.2.1 (Int32.not_le.mp c_39)).2.trans (z.trans hb.2.2.2.2.symm))), AgW_stay hx.1⟩) (Or.inl rfl) dX5_trialAgreesWithBooks_68
          · rw [eJ] at hl c_39
            have hb3 : (nN h - 1 - k) % 12 = 5 := eI.symm.trans eJ
            rw [hb3] at hb
            refine lv_aload_n F.1 F.2.1 dX5_trialAgreesWithBooks_42 rfl (lv_at hl 3 rfl) ?_
            refine gf F hK hP 0 rfl rfl hiX5_trialAgreesWithBooks_5 3 (by decide) (List.mem_of_getElem? (i := 4) rfl) rfl dX5_trialAgreesWithBooks_43 ?_
            refine lv_aload F.1 F.2.1 dX5_trialAgreesWithBooks_46 (lv_at hl 0 rfl) ?_
            refine vV (rest := []) (wsp := fun _ => (x, .inr (5, [.ref st, .ref kt, .int ik, .ref (tr 0), .ref sc, .ref sh, .ref fo])) :: (st, .inr (4, [.ref (b 0), .ref bk, .ref sp, .int zz])) :: (wB ct tr (stF u (fun j => g (14 * 5 + j)) s) ++ (wR ct bk rw (nI (nN f % 12)) (nI (min 12 (nN f))) g))) F (kX1_standAs l dC dI ct tr (rw 5) u (fun j => g (14 * 5 + j)) s (by omega) (hb.2.2.2.1.trans (congrArg nI (show 5 % 2 = s by omega)))) gX5_trialAgreesWithBooks_X1_standAs rfl ⟨rfl, rfl⟩ nmX1_standAs ⟨Nat.le_of_ble_eq_true rfl, Nat.le_of_ble_eq_true rfl⟩ eT_b (fun _ _ _ => trivial) hK hP hD hS hA 2 rfl rfl rfl [2, 3, 4, 5, 6, 7, 8, 16] (by decide) rfl rfl rfl hl.1 (Nat.le_of_ble_eq_true rfl) dX5_trialAgreesWithBooks_48 ⟨Nat.zero_le _, Nat.zero_le _⟩ (fun _ => rfl) (fun _ => rfl) [x, st, tr 0, tr 1, tr 2, tr 3, tr 4, tr 5, tr 6, bk, rw 12, rw 0, rw 1, rw 2, rw 3, rw 4, rw 5, rw 6, rw 7, rw 8, rw 9, rw 10, rw 11] rfl (fun _ => rfl) (fun u_48 H locs e_48 hP hD hS => ?_)
            refine lv_aload_n F.1 F.2.1 dX5_trialAgreesWithBooks_51 rfl (lv_at hl 3 rfl) ?_
            refine gf F hK hP 0 rfl rfl hiX5_trialAgreesWithBooks_5 3 (by decide) (List.mem_of_getElem? (i := 4) rfl) rfl dX5_trialAgreesWithBooks_52 ?_
            refine lv_iload_n F.1 F.2.1 dX5_trialAgreesWithBooks_55 rfl (lv_at hl 4 rfl) ?_
            refine iV (rest := []) (wsp := fun _ => (x, .inr (5, [.ref st, .ref kt, .int ik, .ref (tr 0), .ref sc, .ref sh, .ref fo])) :: (st, .inr (4, [.ref (b 0), .ref bk, .ref sp, .int zz])) :: (wB ct tr (stF u (fun j => g (14 * 5 + j)) s) ++ (wR ct bk rw (nI (nN f % 12)) (nI (min 12 (nN f))) g))) F (kX1_deedOf l dC dI ct tr (stF u (fun j => g (14 * 5 + j)) s) s (by omega) ((deed_row hRg hRB hs (by omega) hx.1 hb.1 hb.2.1 hb.2.2.1 (Int32.not_le.mp c_39)).1)) gX5_trialAgreesWithBooks_X1_deedOf rfl ⟨rfl, rfl⟩ nmX1_deedOf ⟨Nat.le_of_ble_eq_true rfl, Nat.le_of_ble_eq_true rfl⟩ eT_b (fun _ _ _ => trivial) hK hP hD hS hA 2 rfl rfl rfl [2, 3, 4, 5, 6, 7, 8] (by decide) rfl rfl rfl hl.1 (Nat.le_of_ble_eq_true rfl) dX5_trialAgreesWithBooks_56 ⟨Nat.zero_le _, Nat.zero_le _⟩ (fun _ => rfl) (fun _ => rfl) [x, st, tr 0, tr 1, tr 2, tr 3, tr 4, tr 5, tr 6, bk, rw 12, rw 0, rw 1, rw 2, rw 3, rw 4, rw 5, rw 6, rw 7, rw 8, rw 9, rw 10, rw 11] rfl (fun _ => rfl) (fun r_56 u_56 H locs e_56 hP hD hS => ?_)
            obtain rfl := e_56
            refine lv_aload F.1 F.2.1 dX5_trialAgreesWithBooks_59 (lv_at hl 0 rfl) ?_
            refine lv_bipush (v := 13) F.1 F.2.1 dX5_trialAgreesWithBooks_61 (by decide) ?_
            refine al (v := g (14 * 5 + 13)) F hK hP 16 0 rfl rfl 13 rfl (by omega) (by decide) rfl dX5_trialAgreesWithBooks_63 ?_
            refine lv_icmp_eq (tgt := 69) F.1 F.2.1 dX5_trialAgreesWithBooks_64 (by decide) (fun c_64 => ?_) (fun c_64 => ?_)
            · refine lv_iinc (v := nI (k + 1)) (lv' := [(3, .int (nI (k + 1))), (4, .ref (rw 5)), (2, .ref bk), (0, .ref x), (1, .int (nI s))]) F.1 F.2.1 dX5_trialAgreesWithBooks_69 hl (k := 1) rfl (by rw [show Int32.ofInt 1 = nI 1 from rfl, nI_add]) (by decide) rfl (fun ls hl => ?_)
              refine lv_goto (tgt := 10) F.1 F.2.1 dX5_trialAgreesWithBooks_72 (by decide) ?_
              exact ih_10 _ _ _ ⟨(stF u (fun j => g (14 * 5 + j)) s), hP, hD, hS, lv_sub hl [0, 2, 3, 4] rfl, ⟨AgW_stay hx.1, af_go hx.2 (fun _ => by rw [hb3]; exact (deed_row hRg hRB hs (by omega) hx.1 hb.1 hb.2.1 hb.2.2.1 (Int32.not_le.mp c_39)).2.symm.trans (c_64.trans hb.2.2.2.2))⟩⟩
            · refine lv_iconst (v := 0) F.1 F.2.1 dX5_trialAgreesWithBooks_67 (by decide) ?_
              exact rtZ (stF u (fun j => g (14 * 5 + j)) s) F hr hlk hP hS rfl (⟨af_stop (by omega) ⟨es, by rw [hb3, ← hb.2.2.1]; exact Int32.not_le.mp c_39⟩ (by rw [hb3]; intro z; exact c_64 ((deed_row hRg hRB hs (by omega) hx.1 hb.1 hb.2.1 hb.2.2.1 (Int32.not_le.mp c_39)).2.trans (z.trans hb.2.2.2.2.symm))), AgW_stay hx.1⟩) (Or.inl rfl) dX5_trialAgreesWithBooks_68
          · rw [eJ] at hl c_39
            have hb3 : (nN h - 1 - k) % 12 = 6 := eI.symm.trans eJ
            rw [hb3] at hb
            refine lv_aload_n F.1 F.2.1 dX5_trialAgreesWithBooks_42 rfl (lv_at hl 3 rfl) ?_
            refine gf F hK hP 0 rfl rfl hiX5_trialAgreesWithBooks_5 3 (by decide) (List.mem_of_getElem? (i := 4) rfl) rfl dX5_trialAgreesWithBooks_43 ?_
            refine lv_aload F.1 F.2.1 dX5_trialAgreesWithBooks_46 (lv_at hl 0 rfl) ?_
            refine vV (rest := []) (wsp := fun _ => (x, .inr (5, [.ref st, .ref kt, .int ik, .ref (tr 0), .ref sc, .ref sh, .ref fo])) :: (st, .inr (4, [.ref (b 0), .ref bk, .ref sp, .int zz])) :: (wB ct tr (stF u (fun j => g (14 * 6 + j)) s) ++ (wR ct bk rw (nI (nN f % 12)) (nI (min 12 (nN f))) g))) F (kX1_standAs l dC dI ct tr (rw 6) u (fun j => g (14 * 6 + j)) s (by omega) (hb.2.2.2.1.trans (congrArg nI (show 6 % 2 = s by omega)))) gX5_trialAgreesWithBooks_X1_standAs rfl ⟨rfl, rfl⟩ nmX1_standAs ⟨Nat.le_of_ble_eq_true rfl, Nat.le_of_ble_eq_true rfl⟩ eT_b (fun _ _ _ => trivial) hK hP hD hS hA 2 rfl rfl rfl [2, 3, 4, 5, 6, 7, 8, 17] (by decide) rfl rfl rfl hl.1 (Nat.le_of_ble_eq_true rfl) dX5_trialAgreesWithBooks_48 ⟨Nat.zero_le _, Nat.zero_le _⟩ (fun _ => rfl) (fun _ => rfl) [x, st, tr 0, tr 1, tr 2, tr 3, tr 4, tr 5, tr 6, bk, rw 12, rw 0, rw 1, rw 2, rw 3, rw 4, rw 5, rw 6, rw 7, rw 8, rw 9, rw 10, rw 11] rfl (fun _ => rfl) (fun u_48 H locs e_48 hP hD hS => ?_)
            refine lv_aload_n F.1 F.2.1 dX5_trialAgreesWithBooks_51 rfl (lv_at hl 3 rfl) ?_
            refine gf F hK hP 0 rfl rfl hiX5_trialAgreesWithBooks_5 3 (by decide) (List.mem_of_getElem? (i := 4) rfl) rfl dX5_trialAgreesWithBooks_52 ?_
            refine lv_iload_n F.1 F.2.1 dX5_trialAgreesWithBooks_55 rfl (lv_at hl 4 rfl) ?_
            refine iV (rest := []) (wsp := fun _ => (x, .inr (5, [.ref st, .ref kt, .int ik, .ref (tr 0), .ref sc, .ref sh, .ref fo])) :: (st, .inr (4, [.ref (b 0), .ref bk, .ref sp, .int zz])) :: (wB ct tr (stF u (fun j => g (14 * 6 + j)) s) ++ (wR ct bk rw (nI (nN f % 12)) (nI (min 12 (nN f))) g))) F (kX1_deedOf l dC dI ct tr (stF u (fun j => g (14 * 6 + j)) s) s (by omega) ((deed_row hRg hRB hs (by omega) hx.1 hb.1 hb.2.1 hb.2.2.1 (Int32.not_le.mp c_39)).1)) gX5_trialAgreesWithBooks_X1_deedOf rfl ⟨rfl, rfl⟩ nmX1_deedOf ⟨Nat.le_of_ble_eq_true rfl, Nat.le_of_ble_eq_true rfl⟩ eT_b (fun _ _ _ => trivial) hK hP hD hS hA 2 rfl rfl rfl [2, 3, 4, 5, 6, 7, 8] (by decide) rfl rfl rfl hl.1 (Nat.le_of_ble_eq_true rfl) dX5_trialAgreesWithBooks_56 ⟨Nat.zero_le _, Nat.zero_le _⟩ (fun _ => rfl) (fun _ => rfl) [x, st, tr 0, tr 1, tr 2, tr 3, tr 4, tr 5, tr 6, bk, rw 12, rw 0, rw 1, rw 2, rw 3, rw 4, rw 5, rw 6, rw 7, rw 8, rw 9, rw 10, rw 11] rfl (fun _ => rfl) (fun r_56 u_56 H locs e_56 hP hD hS => ?_)
            obtain rfl := e_56
            refine lv_aload F.1 F.2.1 dX5_trialAgreesWithBooks_59 (lv_at hl 0 rfl) ?_
            refine lv_bipush (v := 13) F.1 F.2.1 dX5_trialAgreesWithBooks_61 (by decide) ?_
            refine al (v := g (14 * 6 + 13)) F hK hP 17 0 rfl rfl 13 rfl (by omega) (by decide) rfl dX5_trialAgreesWithBooks_63 ?_
            refine lv_icmp_eq (tgt := 69) F.1 F.2.1 dX5_trialAgreesWithBooks_64 (by decide) (fun c_64 => ?_) (fun c_64 => ?_)
            · refine lv_iinc (v := nI (k + 1)) (lv' := [(3, .int (nI (k + 1))), (4, .ref (rw 6)), (2, .ref bk), (0, .ref x), (1, .int (nI s))]) F.1 F.2.1 dX5_trialAgreesWithBooks_69 hl (k := 1) rfl (by rw [show Int32.ofInt 1 = nI 1 from rfl, nI_add]) (by decide) rfl (fun ls hl => ?_)
              refine lv_goto (tgt := 10) F.1 F.2.1 dX5_trialAgreesWithBooks_72 (by decide) ?_
              exact ih_10 _ _ _ ⟨(stF u (fun j => g (14 * 6 + j)) s), hP, hD, hS, lv_sub hl [0, 2, 3, 4] rfl, ⟨AgW_stay hx.1, af_go hx.2 (fun _ => by rw [hb3]; exact (deed_row hRg hRB hs (by omega) hx.1 hb.1 hb.2.1 hb.2.2.1 (Int32.not_le.mp c_39)).2.symm.trans (c_64.trans hb.2.2.2.2))⟩⟩
            · refine lv_iconst (v := 0) F.1 F.2.1 dX5_trialAgreesWithBooks_67 (by decide) ?_
              exact rtZ (stF u (fun j => g (14 * 6 + j)) s) F hr hlk hP hS rfl (⟨af_stop (by omega) ⟨es, by rw [hb3, ← hb.2.2.1]; exact Int32.not_le.mp c_39⟩ (by rw [hb3]; intro z; exact c_64 ((deed_row hRg hRB hs (by omega) hx.1 hb.1 hb.2.1 hb.2.2.1 (Int32.not_le.mp c_39)).2.trans (z.trans hb.2.2.2.2.symm))), AgW_stay hx.1⟩) (Or.inl rfl) dX5_trialAgreesWithBooks_68
          · rw [eJ] at hl c_39
            have hb3 : (nN h - 1 - k) % 12 = 7 := eI.symm.trans eJ
            rw [hb3] at hb
            refine lv_aload_n F.1 F.2.1 dX5_trialAgreesWithBooks_42 rfl (lv_at hl 3 rfl) ?_
            refine gf F hK hP 0 rfl rfl hiX5_trialAgreesWithBooks_5 3 (by decide) (List.mem_of_getElem? (i := 4) rfl) rfl dX5_trialAgreesWithBooks_43 ?_
            refine lv_aload F.1 F.2.1 dX5_trialAgreesWithBooks_46 (lv_at hl 0 rfl) ?_
            refine vV (rest := []) (wsp := fun _ => (x, .inr (5, [.ref st, .ref kt, .int ik, .ref (tr 0), .ref sc, .ref sh, .ref fo])) :: (st, .inr (4, [.ref (b 0), .ref bk, .ref sp, .int zz])) :: (wB ct tr (stF u (fun j => g (14 * 7 + j)) s) ++ (wR ct bk rw (nI (nN f % 12)) (nI (min 12 (nN f))) g))) F (kX1_standAs l dC dI ct tr (rw 7) u (fun j => g (14 * 7 + j)) s (by omega) (hb.2.2.2.1.trans (congrArg nI (show 7 % 2 = s by omega)))) gX5_trialAgreesWithBooks_X1_standAs rfl ⟨rfl, rfl⟩ nmX1_standAs ⟨Nat.le_of_ble_eq_true rfl, Nat.le_of_ble_eq_true rfl⟩ eT_b (fun _ _ _ => trivial) hK hP hD hS hA 2 rfl rfl rfl [2, 3, 4, 5, 6, 7, 8, 18] (by decide) rfl rfl rfl hl.1 (Nat.le_of_ble_eq_true rfl) dX5_trialAgreesWithBooks_48 ⟨Nat.zero_le _, Nat.zero_le _⟩ (fun _ => rfl) (fun _ => rfl) [x, st, tr 0, tr 1, tr 2, tr 3, tr 4, tr 5, tr 6, bk, rw 12, rw 0, rw 1, rw 2, rw 3, rw 4, rw 5, rw 6, rw 7, rw 8, rw 9, rw 10, rw 11] rfl (fun _ => rfl) (fun u_48 H locs e_48 hP hD hS => ?_)
            refine lv_aload_n F.1 F.2.1 dX5_trialAgreesWithBooks_51 rfl (lv_at hl 3 rfl) ?_
            refine gf F hK hP 0 rfl rfl hiX5_trialAgreesWithBooks_5 3 (by decide) (List.mem_of_getElem? (i := 4) rfl) rfl dX5_trialAgreesWithBooks_52 ?_
            refine lv_iload_n F.1 F.2.1 dX5_trialAgreesWithBooks_55 rfl (lv_at hl 4 rfl) ?_
            refine iV (rest := []) (wsp := fun _ => (x, .inr (5, [.ref st, .ref kt, .int ik, .ref (tr 0), .ref sc, .ref sh, .ref fo])) :: (st, .inr (4, [.ref (b 0), .ref bk, .ref sp, .int zz])) :: (wB ct tr (stF u (fun j => g (14 * 7 + j)) s) ++ (wR ct bk rw (nI (nN f % 12)) (nI (min 12 (nN f))) g))) F (kX1_deedOf l dC dI ct tr (stF u (fun j => g (14 * 7 + j)) s) s (by omega) ((deed_row hRg hRB hs (by omega) hx.1 hb.1 hb.2.1 hb.2.2.1 (Int32.not_le.mp c_39)).1)) gX5_trialAgreesWithBooks_X1_deedOf rfl ⟨rfl, rfl⟩ nmX1_deedOf ⟨Nat.le_of_ble_eq_true rfl, Nat.le_of_ble_eq_true rfl⟩ eT_b (fun _ _ _ => trivial) hK hP hD hS hA 2 rfl rfl rfl [2, 3, 4, 5, 6, 7, 8] (by decide) rfl rfl rfl hl.1 (Nat.le_of_ble_eq_true rfl) dX5_trialAgreesWithBooks_56 ⟨Nat.zero_le _, Nat.zero_le _⟩ (fun _ => rfl) (fun _ => rfl) [x, st, tr 0, tr 1, tr 2, tr 3, tr 4, tr 5, tr 6, bk, rw 12, rw 0, rw 1, rw 2, rw 3, rw 4, rw 5, rw 6, rw 7, rw 8, rw 9, rw 10, rw 11] rfl (fun _ => rfl) (fun r_56 u_56 H locs e_56 hP hD hS => ?_)
            obtain rfl := e_56
            refine lv_aload F.1 F.2.1 dX5_trialAgreesWithBooks_59 (lv_at hl 0 rfl) ?_
            refine lv_bipush (v := 13) F.1 F.2.1 dX5_trialAgreesWithBooks_61 (by decide) ?_
            refine al (v := g (14 * 7 + 13)) F hK hP 18 0 rfl rfl 13 rfl (by omega) (by decide) rfl dX5_trialAgreesWithBooks_63 ?_
            refine lv_icmp_eq (tgt := 69) F.1 F.2.1 dX5_trialAgreesWithBooks_64 (by decide) (fun c_64 => ?_) (fun c_64 => ?_)
            · refine lv_iinc (v := nI (k + 1)) (lv' := [(3, .int (nI (k + 1))), (4, .ref (rw 7)), (2, .ref bk), (0, .ref x), (1, .int (nI s))]) F.1 F.2.1 dX5_trialAgreesWithBooks_69 hl (k := 1) rfl (by rw [show Int32.ofInt 1 = nI 1 from rfl, nI_add]) (by decide) rfl (fun ls hl => ?_)
              refine lv_goto (tgt := 10) F.1 F.2.1 dX5_trialAgreesWithBooks_72 (by decide) ?_
              exact ih_10 _ _ _ ⟨(stF u (fun j => g (14 * 7 + j)) s), hP, hD, hS, lv_sub hl [0, 2, 3, 4] rfl, ⟨AgW_stay hx.1, af_go hx.2 (fun _ => by rw [hb3]; exact (deed_row hRg hRB hs (by omega) hx.1 hb.1 hb.2.1 hb.2.2.1 (Int32.not_le.mp c_39)).2.symm.trans (c_64.trans hb.2.2.2.2))⟩⟩
            · refine lv_iconst (v := 0) F.1 F.2.1 dX5_trialAgreesWithBooks_67 (by decide) ?_
              exact rtZ (stF u (fun j => g (14 * 7 + j)) s) F hr hlk hP hS rfl (⟨af_stop (by omega) ⟨es, by rw [hb3, ← hb.2.2.1]; exact Int32.not_le.mp c_39⟩ (by rw [hb3]; intro z; exact c_64 ((deed_row hRg hRB hs (by omega) hx.1 hb.1 hb.2.1 hb.2.2.1 (Int32.not_le.mp c_39)).2.trans (z.trans hb.2.2.2.2.symm))), AgW_stay hx.1⟩) (Or.inl rfl) dX5_trialAgreesWithBooks_68
          · rw [eJ] at hl c_39
            have hb3 : (nN h - 1 - k) % 12 = 8 := eI.symm.trans eJ
            rw [hb3] at hb
            refine lv_aload_n F.1 F.2.1 dX5_trialAgreesWithBooks_42 rfl (lv_at hl 3 rfl) ?_
            refine gf F hK hP 0 rfl rfl hiX5_trialAgreesWithBooks_5 3 (by decide) (List.mem_of_getElem? (i := 4) rfl) rfl dX5_trialAgreesWithBooks_43 ?_
            refine lv_aload F.1 F.2.1 dX5_trialAgreesWithBooks_46 (lv_at hl 0 rfl) ?_
            refine vV (rest := []) (wsp := fun _ => (x, .inr (5, [.ref st, .ref kt, .int ik, .ref (tr 0), .ref sc, .ref sh, .ref fo])) :: (st, .inr (4, [.ref (b 0), .ref bk, .ref sp, .int zz])) :: (wB ct tr (stF u (fun j => g (14 * 8 + j)) s) ++ (wR ct bk rw (nI (nN f % 12)) (nI (min 12 (nN f))) g))) F (kX1_standAs l dC dI ct tr (rw 8) u (fun j => g (14 * 8 + j)) s (by omega) (hb.2.2.2.1.trans (congrArg nI (show 8 % 2 = s by omega)))) gX5_trialAgreesWithBooks_X1_standAs rfl ⟨rfl, rfl⟩ nmX1_standAs ⟨Nat.le_of_ble_eq_true rfl, Nat.le_of_ble_eq_true rfl⟩ eT_b (fun _ _ _ => trivial) hK hP hD hS hA 2 rfl rfl rfl [2, 3, 4, 5, 6, 7, 8, 19] (by decide) rfl rfl rfl hl.1 (Nat.le_of_ble_eq_true rfl) dX5_trialAgreesWithBooks_48 ⟨Nat.zero_le _, Nat.zero_le _⟩ (fun _ => rfl) (fun _ => rfl) [x, st, tr 0, tr 1, tr 2, tr 3, tr 4, tr 5, tr 6, bk, rw 12, rw 0, rw 1, rw 2, rw 3, rw 4, rw 5, rw 6, rw 7, rw 8, rw 9, rw 10, rw 11] rfl (fun _ => rfl) (fun u_48 H locs e_48 hP hD hS => ?_)
            refine lv_aload_n F.1 F.2.1 dX5_trialAgreesWithBooks_51 rfl (lv_at hl 3 rfl) ?_
            refine gf F hK hP 0 rfl rfl hiX5_trialAgreesWithBooks_5 3 (by decide) (List.mem_of_getElem? (i := 4) rfl) rfl dX5_trialAgreesWithBooks_52 ?_
            refine lv_iload_n F.1 F.2.1 dX5_trialAgreesWithBooks_55 rfl (lv_at hl 4 rfl) ?_
            refine iV (rest := []) (wsp := fun _ => (x, .inr (5, [.ref st, .ref kt, .int ik, .ref (tr 0), .ref sc, .ref sh, .ref fo])) :: (st, .inr (4, [.ref (b 0), .ref bk, .ref sp, .int zz])) :: (wB ct tr (stF u (fun j => g (14 * 8 + j)) s) ++ (wR ct bk rw (nI (nN f % 12)) (nI (min 12 (nN f))) g))) F (kX1_deedOf l dC dI ct tr (stF u (fun j => g (14 * 8 + j)) s) s (by omega) ((deed_row hRg hRB hs (by omega) hx.1 hb.1 hb.2.1 hb.2.2.1 (Int32.not_le.mp c_39)).1)) gX5_trialAgreesWithBooks_X1_deedOf rfl ⟨rfl, rfl⟩ nmX1_deedOf ⟨Nat.le_of_ble_eq_true rfl, Nat.le_of_ble_eq_true rfl⟩ eT_b (fun _ _ _ => trivial) hK hP hD hS hA 2 rfl rfl rfl [2, 3, 4, 5, 6, 7, 8] (by decide) rfl rfl rfl hl.1 (Nat.le_of_ble_eq_true rfl) dX5_trialAgreesWithBooks_56 ⟨Nat.zero_le _, Nat.zero_le _⟩ (fun _ => rfl) (fun _ => rfl) [x, st, tr 0, tr 1, tr 2, tr 3, tr 4, tr 5, tr 6, bk, rw 12, rw 0, rw 1, rw 2, rw 3, rw 4, rw 5, rw 6, rw 7, rw 8, rw 9, rw 10, rw 11] rfl (fun _ => rfl) (fun r_56 u_56 H locs e_56 hP hD hS => ?_)
            obtain rfl := e_56
            refine lv_aload F.1 F.2.1 dX5_trialAgreesWithBooks_59 (lv_at hl 0 rfl) ?_
            refine lv_bipush (v := 13) F.1 F.2.1 dX5_trialAgreesWithBooks_61 (by decide) ?_
            refine al (v := g (14 * 8 + 13)) F hK hP 19 0 rfl rfl 13 rfl (by omega) (by decide) rfl dX5_trialAgreesWithBooks_63 ?_
            refine lv_icmp_eq (tgt := 69) F.1 F.2.1 dX5_trialAgreesWithBooks_64 (by decide) (fun c_64 => ?_) (fun c_64 => ?_)
            · refine lv_iinc (v := nI (k + 1)) (lv' := [(3, .int (nI (k + 1))), (4, .ref (rw 8)), (2, .ref bk), (0, .ref x), (1, .int (nI s))]) F.1 F.2.1 dX5_trialAgreesWithBooks_69 hl (k := 1) rfl (by rw [show Int32.ofInt 1 = nI 1 from rfl, nI_add]) (by decide) rfl (fun ls hl => ?_)
              refine lv_goto (tgt := 10) F.1 F.2.1 dX5_trialAgreesWithBooks_72 (by decide) ?_
              exact ih_10 _ _ _ ⟨(stF u (fun j => g (14 * 8 + j)) s), hP, hD, hS, lv_sub hl [0, 2, 3, 4] rfl, ⟨AgW_stay hx.1, af_go hx.2 (fun _ => by rw [hb3]; exact (deed_row hRg hRB hs (by omega) hx.1 hb.1 hb.2.1 hb.2.2.1 (Int32.not_le.mp c_39)).2.symm.trans (c_64.trans hb.2.2.2.2))⟩⟩
            · refine lv_iconst (v := 0) F.1 F.2.1 dX5_trialAgreesWithBooks_67 (by decide) ?_
              exact rtZ (stF u (fun j => g (14 * 8 + j)) s) F hr hlk hP hS rfl (⟨af_stop (by omega) ⟨es, by rw [hb3, ← hb.2.2.1]; exact Int32.not_le.mp c_39⟩ (by rw [hb3]; intro z; exact c_64 ((deed_row hRg hRB hs (by omega) hx.1 hb.1 hb.2.1 hb.2.2.1 (Int32.not_le.mp c_39)).2.trans (z.trans hb.2.2.2.2.symm))), AgW_stay hx.1⟩) (Or.inl rfl) dX5_trialAgreesWithBooks_68
          · rw [eJ] at hl c_39
            have hb3 : (nN h - 1 - k) % 12 = 9 := eI.symm.trans eJ
            rw [hb3] at hb
            refine lv_aload_n F.1 F.2.1 dX5_trialAgreesWithBooks_42 rfl (lv_at hl 3 rfl) ?_
            refine gf F hK hP 0 rfl rfl hiX5_trialAgreesWithBooks_5 3 (by decide) (List.mem_of_getElem? (i := 4) rfl) rfl dX5_trialAgreesWithBooks_43 ?_
            refine lv_aload F.1 F.2.1 dX5_trialAgreesWithBooks_46 (lv_at hl 0 rfl) ?_
            refine vV (rest := []) (wsp := fun _ => (x, .inr (5, [.ref st, .ref kt, .int ik, .ref (tr 0), .ref sc, .ref sh, .ref fo])) :: (st, .inr (4, [.ref (b 0), .ref bk, .ref sp, .int zz])) :: (wB ct tr (stF u (fun j => g (14 * 9 + j)) s) ++ (wR ct bk rw (nI (nN f % 12)) (nI (min 12 (nN f))) g))) F (kX1_standAs l dC dI ct tr (rw 9) u (fun j => g (14 * 9 + j)) s (by omega) (hb.2.2.2.1.trans (congrArg nI (show 9 % 2 = s by omega)))) gX5_trialAgreesWithBooks_X1_standAs rfl ⟨rfl, rfl⟩ nmX1_standAs ⟨Nat.le_of_ble_eq_true rfl, Nat.le_of_ble_eq_true rfl⟩ eT_b (fun _ _ _ => trivial) hK hP hD hS hA 2 rfl rfl rfl [2, 3, 4, 5, 6, 7, 8, 20] (by decide) rfl rfl rfl hl.1 (Nat.le_of_ble_eq_true rfl) dX5_trialAgreesWithBooks_48 ⟨Nat.zero_le _, Nat.zero_le _⟩ (fun _ => rfl) (fun _ => rfl) [x, st, tr 0, tr 1, tr 2, tr 3, tr 4, tr 5, tr 6, bk, rw 12, rw 0, rw 1, rw 2, rw 3, rw 4, rw 5, rw 6, rw 7, rw 8, rw 9, rw 10, rw 11] rfl (fun _ => rfl) (fun u_48 H locs e_48 hP hD hS => ?_)
            refine lv_aload_n F.1 F.2.1 dX5_trialAgreesWithBooks_51 rfl (lv_at hl 3 rfl) ?_
            refine gf F hK hP 0 rfl rfl hiX5_trialAgreesWithBooks_5 3 (by decide) (List.mem_of_getElem? (i := 4) rfl) rfl dX5_trialAgreesWithBooks_52 ?_
            refine lv_iload_n F.1 F.2.1 dX5_trialAgreesWithBooks_55 rfl (lv_at hl 4 rfl) ?_
            refine iV (rest := []) (wsp := fun _ => (x, .inr (5, [.ref st, .ref kt, .int ik, .ref (tr 0), .ref sc, .ref sh, .ref fo])) :: (st, .inr (4, [.ref (b 0), .ref bk, .ref sp, .int zz])) :: (wB ct tr (stF u (fun j => g (14 * 9 + j)) s) ++ (wR ct bk rw (nI (nN f % 12)) (nI (min 12 (nN f))) g))) F (kX1_deedOf l dC dI ct tr (stF u (fun j => g (14 * 9 + j)) s) s (by omega) ((deed_row hRg hRB hs (by omega) hx.1 hb.1 hb.2.1 hb.2.2.1 (Int32.not_le.mp c_39)).1)) gX5_trialAgreesWithBooks_X1_deedOf rfl ⟨rfl, rfl⟩ nmX1_deedOf ⟨Nat.le_of_ble_eq_true rfl, Nat.le_of_ble_eq_true rfl⟩ eT_b (fun _ _ _ => trivial) hK hP hD hS hA 2 rfl rfl rfl [2, 3, 4, 5, 6, 7, 8] (by decide) rfl rfl rfl hl.1 (Nat.le_of_ble_eq_true rfl) dX5_trialAgreesWithBooks_56 ⟨Nat.zero_le _, Nat.zero_le _⟩ (fun _ => rfl) (fun _ => rfl) [x, st, tr 0, tr 1, tr 2, tr 3, tr 4, tr 5, tr 6, bk, rw 12, rw 0, rw 1, rw 2, rw 3, rw 4, rw 5, rw 6, rw 7, rw 8, rw 9, rw 10, rw 11] rfl (fun _ => rfl) (fun r_56 u_56 H locs e_56 hP hD hS => ?_)
            obtain rfl := e_56
            refine lv_aload F.1 F.2.1 dX5_trialAgreesWithBooks_59 (lv_at hl 0 rfl) ?_
            refine lv_bipush (v := 13) F.1 F.2.1 dX5_trialAgreesWithBooks_61 (by decide) ?_
            refine al (v := g (14 * 9 + 13)) F hK hP 20 0 rfl rfl 13 rfl (by omega) (by decide) rfl dX5_trialAgreesWithBooks_63 ?_
            refine lv_icmp_eq (tgt := 69) F.1 F.2.1 dX5_trialAgreesWithBooks_64 (by decide) (fun c_64 => ?_) (fun c_64 => ?_)
            · refine lv_iinc (v := nI (k + 1)) (lv' := [(3, .int (nI (k + 1))), (4, .ref (rw 9)), (2, .ref bk), (0, .ref x), (1, .int (nI s))]) F.1 F.2.1 dX5_trialAgreesWithBooks_69 hl (k := 1) rfl (by rw [show Int32.ofInt 1 = nI 1 from rfl, nI_add]) (by decide) rfl (fun ls hl => ?_)
              refine lv_goto (tgt := 10) F.1 F.2.1 dX5_trialAgreesWithBooks_72 (by decide) ?_
              exact ih_10 _ _ _ ⟨(stF u (fun j => g (14 * 9 + j)) s), hP, hD, hS, lv_sub hl [0, 2, 3, 4] rfl, ⟨AgW_stay hx.1, af_go hx.2 (fun _ => by rw [hb3]; exact (deed_row hRg hRB hs (by omega) hx.1 hb.1 hb.2.1 hb.2.2.1 (Int32.not_le.mp c_39)).2.symm.trans (c_64.trans hb.2.2.2.2))⟩⟩
            · refine lv_iconst (v := 0) F.1 F.2.1 dX5_trialAgreesWithBooks_67 (by decide) ?_
              exact rtZ (stF u (fun j => g (14 * 9 + j)) s) F hr hlk hP hS rfl (⟨af_stop (by omega) ⟨es, by rw [hb3, ← hb.2.2.1]; exact Int32.not_le.mp c_39⟩ (by rw [hb3]; intro z; exact c_64 ((deed_row hRg hRB hs (by omega) hx.1 hb.1 hb.2.1 hb.2.2.1 (Int32.not_le.mp c_39)).2.trans (z.trans hb.2.2.2.2.symm))), AgW_stay hx.1⟩) (Or.inl rfl) dX5_trialAgreesWithBooks_68
          · rw [eJ] at hl c_39
            have hb3 : (nN h - 1 - k) % 12 = 10 := eI.symm.trans eJ
            rw [hb3] at hb
            refine lv_aload_n F.1 F.2.1 dX5_trialAgreesWithBooks_42 rfl (lv_at hl 3 rfl) ?_
            refine gf F hK hP 0 rfl rfl hiX5_trialAgreesWithBooks_5 3 (by decide) (List.mem_of_getElem? (i := 4) rfl) rfl dX5_trialAgreesWithBooks_43 ?_
            refine lv_aload F.1 F.2.1 dX5_trialAgreesWithBooks_46 (lv_at hl 0 rfl) ?_
            refine vV (rest := []) (wsp := fun _ => (x, .inr (5, [.ref st, .ref kt, .int ik, .ref (tr 0), .ref sc, .ref sh, .ref fo])) :: (st, .inr (4, [.ref (b 0), .ref bk, .ref sp, .int zz])) :: (wB ct tr (stF u (fun j => g (14 * 10 + j)) s) ++ (wR ct bk rw (nI (nN f % 12)) (nI (min 12 (nN f))) g))) F (kX1_standAs l dC dI ct tr (rw 10) u (fun j => g (14 * 10 + j)) s (by omega) (hb.2.2.2.1.trans (congrArg nI (show 10 % 2 = s by omega)))) gX5_trialAgreesWithBooks_X1_standAs rfl ⟨rfl, rfl⟩ nmX1_standAs ⟨Nat.le_of_ble_eq_true rfl, Nat.le_of_ble_eq_true rfl⟩ eT_b (fun _ _ _ => trivial) hK hP hD hS hA 2 rfl rfl rfl [2, 3, 4, 5, 6, 7, 8, 21] (by decide) rfl rfl rfl hl.1 (Nat.le_of_ble_eq_true rfl) dX5_trialAgreesWithBooks_48 ⟨Nat.zero_le _, Nat.zero_le _⟩ (fun _ => rfl) (fun _ => rfl) [x, st, tr 0, tr 1, tr 2, tr 3, tr 4, tr 5, tr 6, bk, rw 12, rw 0, rw 1, rw 2, rw 3, rw 4, rw 5, rw 6, rw 7, rw 8, rw 9, rw 10, rw 11] rfl (fun _ => rfl) (fun u_48 H locs e_48 hP hD hS => ?_)
            refine lv_aload_n F.1 F.2.1 dX5_trialAgreesWithBooks_51 rfl (lv_at hl 3 rfl) ?_
            refine gf F hK hP 0 rfl rfl hiX5_trialAgreesWithBooks_5 3 (by decide) (List.mem_of_getElem? (i := 4) rfl) rfl dX5_trialAgreesWithBooks_52 ?_
            refine lv_iload_n F.1 F.2.1 dX5_trialAgreesWithBooks_55 rfl (lv_at hl 4 rfl) ?_
            refine iV (rest := []) (wsp := fun _ => (x, .inr (5, [.ref st, .ref kt, .int ik, .ref (tr 0), .ref sc, .ref sh, .ref fo])) :: (st, .inr (4, [.ref (b 0), .ref bk, .ref sp, .int zz])) :: (wB ct tr (stF u (fun j => g (14 * 10 + j)) s) ++ (wR ct bk rw (nI (nN f % 12)) (nI (min 12 (nN f))) g))) F (kX1_deedOf l dC dI ct tr (stF u (fun j => g (14 * 10 + j)) s) s (by omega) ((deed_row hRg hRB hs (by omega) hx.1 hb.1 hb.2.1 hb.2.2.1 (Int32.not_le.mp c_39)).1)) gX5_trialAgreesWithBooks_X1_deedOf rfl ⟨rfl, rfl⟩ nmX1_deedOf ⟨Nat.le_of_ble_eq_true rfl, Nat.le_of_ble_eq_true rfl⟩ eT_b (fun _ _ _ => trivial) hK hP hD hS hA 2 rfl rfl rfl [2, 3, 4, 5, 6, 7, 8] (by decide) rfl rfl rfl hl.1 (Nat.le_of_ble_eq_true rfl) dX5_trialAgreesWithBooks_56 ⟨Nat.zero_le _, Nat.zero_le _⟩ (fun _ => rfl) (fun _ => rfl) [x, st, tr 0, tr 1, tr 2, tr 3, tr 4, tr 5, tr 6, bk, rw 12, rw 0, rw 1, rw 2, rw 3, rw 4, rw 5, rw 6, rw 7, rw 8, rw 9, rw 10, rw 11] rfl (fun _ => rfl) (fun r_56 u_56 H locs e_56 hP hD hS => ?_)
            obtain rfl := e_56
            refine lv_aload F.1 F.2.1 dX5_trialAgreesWithBooks_59 (lv_at hl 0 rfl) ?_
            refine lv_bipush (v := 13) F.1 F.2.1 dX5_trialAgreesWithBooks_61 (by decide) ?_
            refine al (v := g (14 * 10 + 13)) F hK hP 21 0 rfl rfl 13 rfl (by omega) (by decide) rfl dX5_trialAgreesWithBooks_63 ?_
            refine lv_icmp_eq (tgt := 69) F.1 F.2.1 dX5_trialAgreesWithBooks_64 (by decide) (fun c_64 => ?_) (fun c_64 => ?_)
            · refine lv_iinc (v := nI (k + 1)) (lv' := [(3, .int (nI (k + 1))), (4, .ref (rw 10)), (2, .ref bk), (0, .ref x), (1, .int (nI s))]) F.1 F.2.1 dX5_trialAgreesWithBooks_69 hl (k := 1) rfl (by rw [show Int32.ofInt 1 = nI 1 from rfl, nI_add]) (by decide) rfl (fun ls hl => ?_)
              refine lv_goto (tgt := 10) F.1 F.2.1 dX5_trialAgreesWithBooks_72 (by decide) ?_
              exact ih_10 _ _ _ ⟨(stF u (fun j => g (14 * 10 + j)) s), hP, hD, hS, lv_sub hl [0, 2, 3, 4] rfl, ⟨AgW_stay hx.1, af_go hx.2 (fun _ => by rw [hb3]; exact (deed_row hRg hRB hs (by omega) hx.1 hb.1 hb.2.1 hb.2.2.1 (Int32.not_le.mp c_39)).2.symm.trans (c_64.trans hb.2.2.2.2))⟩⟩
            · refine lv_iconst (v := 0) F.1 F.2.1 dX5_trialAgreesWithBooks_67 (by decide) ?_
              exact rtZ (stF u (fun j => g (14 * 10 + j)) s) F hr hlk hP hS rfl (⟨af_stop (by omega) ⟨es, by rw [hb3, ← hb.2.2.1]; exact Int32.not_le.mp c_39⟩ (by rw [hb3]; intro z; exact c_64 ((deed_row hRg hRB hs (by omega) hx.1 hb.1 hb.2.1 hb.2.2.1 (Int32.not_le.mp c_39)).2.trans (z.trans hb.2.2.2.2.symm))), AgW_stay hx.1⟩) (Or.inl rfl) dX5_trialAgreesWithBooks_68
          · rw [eJ] at hl c_39
            have hb3 : (nN h - 1 - k) % 12 = 11 := eI.symm.trans eJ
            rw [hb3] at hb
            refine lv_aload_n F.1 F.2.1 dX5_trialAgreesWithBooks_42 rfl (lv_at hl 3 rfl) ?_
            refine gf F hK hP 0 rfl rfl hiX5_trialAgreesWithBooks_5 3 (by decide) (List.mem_of_getElem? (i := 4) rfl) rfl dX5_trialAgreesWithBooks_43 ?_
            refine lv_aload F.1 F.2.1 dX5_trialAgreesWithBooks_46 (lv_at hl 0 rfl) ?_
            refine vV (rest := []) (wsp := fun _ => (x, .inr (5, [.ref st, .ref kt, .int ik, .ref (tr 0), .ref sc, .ref sh, .ref fo])) :: (st, .inr (4, [.ref (b 0), .ref bk, .ref sp, .int zz])) :: (wB ct tr (stF u (fun j => g (14 * 11 + j)) s) ++ (wR ct bk rw (nI (nN f % 12)) (nI (min 12 (nN f))) g))) F (kX1_standAs l dC dI ct tr (rw 11) u (fun j => g (14 * 11 + j)) s (by omega) (hb.2.2.2.1.trans (congrArg nI (show 11 % 2 = s by omega)))) gX5_trialAgreesWithBooks_X1_standAs rfl ⟨rfl, rfl⟩ nmX1_standAs ⟨Nat.le_of_ble_eq_true rfl, Nat.le_of_ble_eq_true rfl⟩ eT_b (fun _ _ _ => trivial) hK hP hD hS hA 2 rfl rfl rfl [2, 3, 4, 5, 6, 7, 8, 22] (by decide) rfl rfl rfl hl.1 (Nat.le_of_ble_eq_true rfl) dX5_trialAgreesWithBooks_48 ⟨Nat.zero_le _, Nat.zero_le _⟩ (fun _ => rfl) (fun _ => rfl) [x, st, tr 0, tr 1, tr 2, tr 3, tr 4, tr 5, tr 6, bk, rw 12, rw 0, rw 1, rw 2, rw 3, rw 4, rw 5, rw 6, rw 7, rw 8, rw 9, rw 10, rw 11] rfl (fun _ => rfl) (fun u_48 H locs e_48 hP hD hS => ?_)
            refine lv_aload_n F.1 F.2.1 dX5_trialAgreesWithBooks_51 rfl (lv_at hl 3 rfl) ?_
            refine gf F hK hP 0 rfl rfl hiX5_trialAgreesWithBooks_5 3 (by decide) (List.mem_of_getElem? (i := 4) rfl) rfl dX5_trialAgreesWithBooks_52 ?_
            refine lv_iload_n F.1 F.2.1 dX5_trialAgreesWithBooks_55 rfl (lv_at hl 4 rfl) ?_
            refine iV (rest := []) (wsp := fun _ => (x, .inr (5, [.ref st, .ref kt, .int ik, .ref (tr 0), .ref sc, .ref sh, .ref fo])) :: (st, .inr (4, [.ref (b 0), .ref bk, .ref sp, .int zz])) :: (wB ct tr (stF u (fun j => g (14 * 11 + j)) s) ++ (wR ct bk rw (nI (nN f % 12)) (nI (min 12 (nN f))) g))) F (kX1_deedOf l dC dI ct tr (stF u (fun j => g (14 * 11 + j)) s) s (by omega) ((deed_row hRg hRB hs (by omega) hx.1 hb.1 hb.2.1 hb.2.2.1 (Int32.not_le.mp c_39)).1)) gX5_trialAgreesWithBooks_X1_deedOf rfl ⟨rfl, rfl⟩ nmX1_deedOf ⟨Nat.le_of_ble_eq_true rfl, Nat.le_of_ble_eq_true rfl⟩ eT_b (fun _ _ _ => trivial) hK hP hD hS hA 2 rfl rfl rfl [2, 3, 4, 5, 6, 7, 8] (by decide) rfl rfl rfl hl.1 (Nat.le_of_ble_eq_true rfl) dX5_trialAgreesWithBooks_56 ⟨Nat.zero_le _, Nat.zero_le _⟩ (fun _ => rfl) (fun _ => rfl) [x, st, tr 0, tr 1, tr 2, tr 3, tr 4, tr 5, tr 6, bk, rw 12, rw 0, rw 1, rw 2, rw 3, rw 4, rw 5, rw 6, rw 7, rw 8, rw 9, rw 10, rw 11] rfl (fun _ => rfl) (fun r_56 u_56 H locs e_56 hP hD hS => ?_)
            obtain rfl := e_56
            refine lv_aload F.1 F.2.1 dX5_trialAgreesWithBooks_59 (lv_at hl 0 rfl) ?_
            refine lv_bipush (v := 13) F.1 F.2.1 dX5_trialAgreesWithBooks_61 (by decide) ?_
            refine al (v := g (14 * 11 + 13)) F hK hP 22 0 rfl rfl 13 rfl (by omega) (by decide) rfl dX5_trialAgreesWithBooks_63 ?_
            refine lv_icmp_eq (tgt := 69) F.1 F.2.1 dX5_trialAgreesWithBooks_64 (by decide) (fun c_64 => ?_) (fun c_64 => ?_)
            · refine lv_iinc (v := nI (k + 1)) (lv' := [(3, .int (nI (k + 1))), (4, .ref (rw 11)), (2, .ref bk), (0, .ref x), (1, .int (nI s))]) F.1 F.2.1 dX5_trialAgreesWithBooks_69 hl (k := 1) rfl (by rw [show Int32.ofInt 1 = nI 1 from rfl, nI_add]) (by decide) rfl (fun ls hl => ?_)
              refine lv_goto (tgt := 10) F.1 F.2.1 dX5_trialAgreesWithBooks_72 (by decide) ?_
              exact ih_10 _ _ _ ⟨(stF u (fun j => g (14 * 11 + j)) s), hP, hD, hS, lv_sub hl [0, 2, 3, 4] rfl, ⟨AgW_stay hx.1, af_go hx.2 (fun _ => by rw [hb3]; exact (deed_row hRg hRB hs (by omega) hx.1 hb.1 hb.2.1 hb.2.2.1 (Int32.not_le.mp c_39)).2.symm.trans (c_64.trans hb.2.2.2.2))⟩⟩
            · refine lv_iconst (v := 0) F.1 F.2.1 dX5_trialAgreesWithBooks_67 (by decide) ?_
              exact rtZ (stF u (fun j => g (14 * 11 + j)) s) F hr hlk hP hS rfl (⟨af_stop (by omega) ⟨es, by rw [hb3, ← hb.2.2.1]; exact Int32.not_le.mp c_39⟩ (by rw [hb3]; intro z; exact c_64 ((deed_row hRg hRB hs (by omega) hx.1 hb.1 hb.2.1 hb.2.2.1 (Int32.not_le.mp c_39)).2.trans (z.trans hb.2.2.2.2.symm))), AgW_stay hx.1⟩) (Or.inl rfl) dX5_trialAgreesWithBooks_68
