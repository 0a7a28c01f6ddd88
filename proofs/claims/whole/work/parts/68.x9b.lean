def rmX5_fittingWorths : Room := { frames := 5, cells := 0, slots := 0, locals := 116 }
theorem nmX5_fittingWorths : NmV yX5_fittingWorths RX5 2 := by unfold NmV; decide +kernel
theorem hiX5_fittingWorths_1 : ∀ w ∈ u_ws RX1 TX1 10, w ∈ wsX5_fittingWorths := by decide +kernel
theorem hiX5_fittingWorths_4 : ∀ w ∈ u_ws RX4 TX4 4, w ∈ wsX5_fittingWorths := by decide +kernel
theorem hiX5_fittingWorths_5 : ∀ w ∈ u_ws RX5 TX5 7, w ∈ wsX5_fittingWorths := by decide +kernel
set_option maxHeartbeats 4000000 in
set_option maxRecDepth 100000 in
theorem kX5_fittingWorths (l : Launch) (dC : Nat → ClassId) (dI : Nat → Nat → Nat) (ct : Nat → ClassId) (x st kt sc sh fo bk sp : Nat) (tr b rw : Nat → Nat) (ik zz : Int32) (f g w : Nat → Int32) (s t : Nat) (hs : s < 2) (ht : t < 5) (hRg : Rg f) (hB : BkR f g) (hRB : RB f) : MI (S := (Nat → Int32)) l yX5_fittingWorths wsX5_fittingWorths rmX5_fittingWorths dC dI ct eT [.ref x, .int (nI s), .int (nI t)] ((x, .inr (5, [.ref st, .ref kt, .int ik, .ref (tr 0), .ref sc, .ref sh, .ref fo])) :: (st, .inr (4, [.ref (b 0), .ref bk, .ref sp, .int zz])) :: (wB ct b f ++ (wB ct tr w ++ (wR ct bk rw (nI (nN f % 12)) (nI (min 12 (nN f))) g)))) (fun u => (x, .inr (5, [.ref st, .ref kt, .int ik, .ref (tr 0), .ref sc, .ref sh, .ref fo])) :: (st, .inr (4, [.ref (b 0), .ref bk, .ref sp, .int zz])) :: (wB ct b f ++ (wB ct tr u ++ (wR ct bk rw (nI (nN f % 12)) (nI (min 12 (nN f))) g)))) (fun r u => r = fiU f s (32 + 17 * s + t) 21) := by
  refine MI.of (cc := cX5_fittingWorths) (maxL := 5) (ret := (some .int)) (by decide) rfl (Nat.le_of_ble_eq_true rfl) ?_
  intro pg en z mi below meth cd A F hr hlk hin hK hP hD hA hS hE ls hl
  have F : CallFix pg mi cd cX5_fittingWorths 5 z _ wsX5_fittingWorths RX5 := F
  have hl : lv_has ls 5 [(0, .ref x), (1, .int (nI s)), (2, .int (nI t))] := hl
  refine lv_aload_n F.1 F.2.1 dX5_fittingWorths_0 rfl (lv_at hl 0 rfl) ?_
  refine gf F hK hP 0 rfl rfl hiX5_fittingWorths_5 3 (by decide) (List.mem_of_getElem? (i := 1) rfl) rfl dX5_fittingWorths_1 ?_
  refine lv_aload_n F.1 F.2.1 dX5_fittingWorths_4 rfl (lv_at hl 0 rfl) ?_
  refine gf F hK hP 0 rfl rfl hiX5_fittingWorths_5 0 (by decide) (List.mem_of_getElem? (i := 2) rfl) rfl dX5_fittingWorths_5 ?_
  refine gf F hK hP 1 rfl rfl hiX5_fittingWorths_4 0 (by decide) (List.mem_of_getElem? (i := 3) rfl) rfl dX5_fittingWorths_8 ?_
  refine vV (rest := []) (wsp := fun _ => (x, .inr (5, [.ref st, .ref kt, .int ik, .ref (tr 0), .ref sc, .ref sh, .ref fo])) :: (st, .inr (4, [.ref (b 0), .ref bk, .ref sp, .int zz])) :: (wB ct b f ++ (wB ct tr f ++ (wR ct bk rw (nI (nN f % 12)) (nI (min 12 (nN f))) g)))) F (kX1_copyFrom l dC dI ct tr b f w) gX5_fittingWorths_X1_copyFrom rfl ⟨rfl, rfl⟩ nmX1_copyFrom ⟨Nat.le_of_ble_eq_true rfl, Nat.le_of_ble_eq_true rfl⟩ eT_b (fun _ _ _ => trivial) hK hP hD hS hA 9 rfl rfl rfl [9, 10, 11, 12, 13, 14, 15, 2, 3, 4, 5, 6, 7, 8] (by decide) rfl rfl rfl hl.1 (Nat.le_of_ble_eq_true rfl) dX5_fittingWorths_11 ⟨Nat.zero_le _, Nat.zero_le _⟩ (fun _ => rfl) (fun _ => by simp only [sA, List.cons_append, List.nil_append, List.set_cons_zero, List.set_cons_succ]) [x, st, b 0, b 1, b 2, b 3, b 4, b 5, b 6, tr 0, tr 1, tr 2, tr 3, tr 4, tr 5, tr 6, bk, rw 12, rw 0, rw 1, rw 2, rw 3, rw 4, rw 5, rw 6, rw 7, rw 8, rw 9, rw 10, rw 11] rfl (fun _ => rfl) (fun u_11 H locs e_11 hP hD hS => ?_)
  refine lv_iconst (v := 0) F.1 F.2.1 dX5_fittingWorths_14 (by decide) ?_
  refine lv_istore_n (lv' := [(3, .int 0), (0, .ref x), (1, .int (nI s)), (2, .int (nI t))]) F.1 F.2.1 dX5_fittingWorths_15 rfl hl (by decide) rfl (fun ls hl => ?_)
  refine lv_iconst (v := 0) F.1 F.2.1 dX5_fittingWorths_16 (by decide) ?_
  refine lv_istore (lv' := [(4, .int 0), (3, .int 0), (0, .ref x), (1, .int (nI s)), (2, .int (nI t))]) F.1 F.2.1 dX5_fittingWorths_17 hl (by decide) rfl (fun ls hl => ?_)
  refine loopN (I := fun k H locs ls => ∃ u : Nat → Int32, va_P (dC, dI) vwCl ((x, .inr (5, [.ref st, .ref kt, .int ik, .ref (tr 0), .ref sc, .ref sh, .ref fo])) :: (st, .inr (4, [.ref (b 0), .ref bk, .ref sp, .int zz])) :: (wB ct b f ++ (wB ct tr u ++ (wR ct bk rw (nI (nN f % 12)) (nI (min 12 (nN f))) g)))) H ∧ va_D A ((x, .inr (5, [.ref st, .ref kt, .int ik, .ref (tr 0), .ref sc, .ref sh, .ref fo])) :: (st, .inr (4, [.ref (b 0), .ref bk, .ref sp, .int zz])) :: (wB ct b f ++ (wB ct tr u ++ (wR ct bk rw (nI (nN f % 12)) (nI (min 12 (nN f))) g)))) ∧ va_S A z.heap H locs ∧ lv_has ls 5 [(4, .int (nI k)), (3, .int (fiU f s (32 + 17 * s + t) k)), (0, .ref x), (1, .int (nI s)), (2, .int (nI t))] ∧ ∃ y, AgW u (upd f (32 + 17 * s + t) y) s) 21 0 (by omega) ⟨f, hP, hD, hS, lv_sub hl [0, 1, 2, 3, 4] rfl, ⟨f (32 + 17 * s + t), by rw [upd_self]; exact AgW_rf f s⟩⟩ (fun H locs ls hI => ?_) (fun k hk_k H locs ls hI ih_19 => ?_)
  · obtain ⟨u, hP, hD, hS, hl, ⟨y, hy⟩⟩ := hI
    refine lv_iload F.1 F.2.1 dX5_fittingWorths_19 (lv_at hl 0 rfl) ?_
    refine lv_bipush (v := 20) F.1 F.2.1 dX5_fittingWorths_21 (by decide) ?_
    refine lv_icmp_gt (tgt := 62) F.1 F.2.1 dX5_fittingWorths_23 (by decide) (fun c_23 => ?_) (fun c_23 => ?_)
    · refine lv_iload_n F.1 F.2.1 dX5_fittingWorths_62 rfl (lv_at hl 1 rfl) ?_
      exact rtI u F hr hlk hP hS rfl rfl dX5_fittingWorths_63
    · exact absurd (by decide) c_23
  · obtain ⟨u, hP, hD, hS, hl, ⟨y, hy⟩⟩ := hI
    refine lv_iload F.1 F.2.1 dX5_fittingWorths_19 (lv_at hl 0 rfl) ?_
    refine lv_bipush (v := 20) F.1 F.2.1 dX5_fittingWorths_21 (by decide) ?_
    refine lv_icmp_gt (tgt := 62) F.1 F.2.1 dX5_fittingWorths_23 (by decide) (fun c_23 => ?_) (fun c_23 => ?_)
    · exact absurd c_23 (nI_nlt (b := k) (a := 20) (by omega) (by decide))
    · refine lv_aload_n F.1 F.2.1 dX5_fittingWorths_26 rfl (lv_at hl 2 rfl) ?_
      refine gf F hK hP 0 rfl rfl hiX5_fittingWorths_5 3 (by decide) (List.mem_of_getElem? (i := 1) rfl) rfl dX5_fittingWorths_27 ?_
      refine gf F hK hP 9 rfl rfl hiX5_fittingWorths_1 3 (by decide) (List.mem_of_getElem? (i := 4) rfl) rfl dX5_fittingWorths_30 ?_
      refine lv_iload_n F.1 F.2.1 dX5_fittingWorths_33 rfl (lv_at hl 3 rfl) ?_
      refine lv_iconst (v := 5) F.1 F.2.1 dX5_fittingWorths_34 (by decide) ?_
      refine lv_imul F.1 F.2.1 dX5_fittingWorths_35 ?_
      refine tp (y := nI (s * 5)) (ml2 (a := s) (b := 5) (c := s * 5) rfl rfl rfl) ?_
      refine lv_iload_n F.1 F.2.1 dX5_fittingWorths_36 rfl (lv_at hl 4 rfl) ?_
      refine lv_iadd F.1 F.2.1 dX5_fittingWorths_37 ?_
      refine tp (y := nI (s * 5 + t)) (ad2 (a := s * 5) (b := t) (c := s * 5 + t) rfl rfl rfl) ?_
      refine lv_iload F.1 F.2.1 dX5_fittingWorths_38 (lv_at hl 0 rfl) ?_
      refine ast (ws' := (x, .inr (5, [.ref st, .ref kt, .int ik, .ref (tr 0), .ref sc, .ref sh, .ref fo])) :: (st, .inr (4, [.ref (b 0), .ref bk, .ref sp, .int zz])) :: (wB ct b f ++ (wB ct tr (upd u (32 + 17 * s + t) (nI k)) ++ (wR ct bk rw (nI (nN f % 12)) (nI (min 12 (nN f))) g)))) F hK hP hD hS 13 0 rfl rfl (s * 5 + t) rfl (by omega) (by decide) dX5_fittingWorths_40 (weq.c (weq.c (weq_ar (x := wB ct b f) (j := 4) rfl (weq_al (x := wB ct tr u) (j := 4) (Nat.le_of_ble_eq_true rfl) (wq_worth ct tr u (by omega) (by omega)))))) (fun H locs hP hD hS => ?_)
      refine lv_aload_n F.1 F.2.1 dX5_fittingWorths_41 rfl (lv_at hl 2 rfl) ?_
      refine lv_iload_n F.1 F.2.1 dX5_fittingWorths_42 rfl (lv_at hl 3 rfl) ?_
      refine iV (rest := []) (wsp := fun u_43 => (x, .inr (5, [.ref st, .ref kt, .int ik, .ref (tr 0), .ref sc, .ref sh, .ref fo])) :: (st, .inr (4, [.ref (b 0), .ref bk, .ref sp, .int zz])) :: (wB ct b f ++ (wB ct tr u_43 ++ (wR ct bk rw (nI (nN f % 12)) (nI (min 12 (nN f))) g)))) F (kX5_trialAgreesWithBooks l dC dI ct x st kt sc sh fo bk sp tr b rw ik zz f g (upd u (32 + 17 * s + t) (nI k)) (upd f (32 + 17 * s + t) (nI k)) s (by omega) (nN_e2 (pk_un (by omega))) (hRg.worth hs ht ⟨k, by omega, rfl⟩) (RB_up hRB (by omega)) (BkR_up hB (by omega) (by omega)) (AgW_up hy)) gX5_fittingWorths_X5_trialAgreesWithBooks rfl ⟨rfl, rfl⟩ nmX5_trialAgreesWithBooks ⟨Nat.le_of_ble_eq_true rfl, Nat.le_of_ble_eq_true rfl⟩ eT_b (fun _ _ _ => trivial) hK hP hD hS hA 0 rfl rfl rfl [0, 1, 9, 10, 11, 12, 13, 14, 15, 16, 17, 18, 19, 20, 21, 22, 23, 24, 25, 26, 27, 28, 29] (by decide) rfl rfl rfl hl.1 (Nat.le_of_ble_eq_true rfl) dX5_fittingWorths_43 ⟨Nat.zero_le _, Nat.zero_le _⟩ (fun _ => rfl) (fun _ => by simp only [sA, List.cons_append, List.nil_append, List.set_cons_zero, List.set_cons_succ]) [x, st, b 0, b 1, b 2, b 3, b 4, b 5, b 6, tr 0, tr 1, tr 2, tr 3, tr 4, tr 5, tr 6, bk, rw 12, rw 0, rw 1, rw 2, rw 3, rw 4, rw 5, rw 6, rw 7, rw 8, rw 9, rw 10, rw 11] rfl (fun _ => rfl) (fun r_43 u_43 H locs e_43 hP hD hS => ?_)
      obtain ⟨rfl, a_43⟩ := e_43
      refine lv_if_eq (tgt := 56) F.1 F.2.1 dX5_fittingWorths_46 (by decide) (fun c_46 => ?_) (fun c_46 => ?_)
      · refine lv_iinc (v := nI (k + 1)) (lv' := [(4, .int (nI (k + 1))), (3, .int (fiU f s (32 + 17 * s + t) k)), (0, .ref x), (1, .int (nI s)), (2, .int (nI t))]) F.1 F.2.1 dX5_fittingWorths_56 hl (k := 0) rfl (by rw [show Int32.ofInt 1 = nI 1 from rfl, nI_add]) (by decide) rfl (fun ls hl => ?_)
        refine lv_goto (tgt := 19) F.1 F.2.1 dX5_fittingWorths_59 (by decide) ?_
        have eb : fiU f s (32 + 17 * s + t) (k + 1) = fiU f s (32 + 17 * s + t) k ||| 0 := congrArg (fiU f s (32 + 17 * s + t) k ||| ·) (if_pos c_46)
        exact ih_19 _ _ _ ⟨u_43, hP, hD, hS, lv_sub hl [0, 1, 2, 3, 4] (by rw [eb, or0]; rfl), ⟨nI k, a_43⟩⟩
      · refine lv_iload_n F.1 F.2.1 dX5_fittingWorths_49 rfl (lv_at hl 1 rfl) ?_
        refine lv_iconst (v := 1) F.1 F.2.1 dX5_fittingWorths_50 (by decide) ?_
        refine lv_iload F.1 F.2.1 dX5_fittingWorths_51 (lv_at hl 0 rfl) ?_
        refine lv_ishl F.1 F.2.1 dX5_fittingWorths_53 ?_
        refine lv_ior F.1 F.2.1 dX5_fittingWorths_54 ?_
        refine lv_istore_n (lv' := [(3, .int ((fiU f s (32 + 17 * s + t) k) ||| ((1 : Int32) <<< ((nI k) &&& 31)))), (4, .int (nI k)), (0, .ref x), (1, .int (nI s)), (2, .int (nI t))]) F.1 F.2.1 dX5_fittingWorths_55 rfl hl (by decide) rfl (fun ls hl => ?_)
        refine lv_iinc (v := nI (k + 1)) (lv' := [(4, .int (nI (k + 1))), (3, .int ((fiU f s (32 + 17 * s + t) k) ||| ((1 : Int32) <<< ((nI k) &&& 31)))), (0, .ref x), (1, .int (nI s)), (2, .int (nI t))]) F.1 F.2.1 dX5_fittingWorths_56 hl (k := 1) rfl (by rw [show Int32.ofInt 1 = nI 1 from rfl, nI_add]) (by decide) rfl (fun ls hl => ?_)
        refine lv_goto (tgt := 19) F.1 F.2.1 dX5_fittingWorths_59 (by decide) ?_
        have eb : fiU f s (32 + 17 * s + t) (k + 1) = fiU f s (32 + 17 * s + t) k ||| (1 : Int32) <<< (nI k &&& 31) := congrArg (fiU f s (32 + 17 * s + t) k ||| ·) (if_neg c_46)
        exact ih_19 _ _ _ ⟨u_43, hP, hD, hS, lv_sub hl [0, 1, 2, 3, 4] (by rw [eb]; rfl), ⟨nI k, a_43⟩⟩

def rmX5_fits : Room := { frames := 6, cells := 0, slots := 0, locals := 140 }
theorem nmX5_fits : NmV yX5_fits RX5 2 := by unfold NmV; decide +kernel
set_option maxHeartbeats 4000000 in
set_option maxRecDepth 100000 in
theorem kX5_fits (l : Launch) (dC : Nat → ClassId) (dI : Nat → Nat → Nat) (ct : Nat → ClassId) (x st kt sc sh fo bk sp : Nat) (tr b rw : Nat → Nat) (ik zz : Int32) (f c g w : Nat → Int32) (x1 x2 : Int32) (hRg : Rg f) (hB : BkR f g) (hRB : RB f) : MI (S := (Nat → Int32) × (Nat → Int32) × (Nat → Int32)) l yX5_fits wsX5_fits rmX5_fits dC dI ct eT [.ref x, .int x1, .int x2] ((x, .inr (5, [.ref st, .ref kt, .int ik, .ref (tr 0), .ref sc, .ref sh, .ref fo])) :: (st, .inr (4, [.ref (b 0), .ref bk, .ref sp, .int zz])) :: (wB ct b f ++ (wB ct tr w ++ (wR ct bk rw (nI (nN f % 12)) (nI (min 12 (nN f))) g ++ [ai ct fo 7 (fun j => c (j + 1))])))) (fun u => (x, .inr (5, [.ref st, .ref kt, .int ik, .ref (tr 0), .ref sc, .ref sh, .ref fo])) :: (st, .inr (4, [.ref (b 0), .ref bk, .ref sp, .int zz])) :: (wB ct b u.1 ++ (wB ct tr u.2.2 ++ (wR ct bk rw (nI (nN u.1 % 12)) (nI (min 12 (nN u.1))) g ++ [ai ct fo 7 (fun j => u.2.1 (j + 1))])))) (fun r u => (r, u.1, u.2.1) = sFits f c x1 x2 ∧ u.1 = f) := by
  refine MI.of (cc := cX5_fits) (maxL := 3) (ret := (some .int)) (by decide) rfl (Nat.le_of_ble_eq_true rfl) ?_
  intro pg en z mi below meth cd A F hr hlk hin hK hP hD hA hS hE ls hl
  have F : CallFix pg mi cd cX5_fits 3 z _ wsX5_fits RX5 := F
  have hl : lv_has ls 3 [(0, .ref x), (1, .int x1), (2, .int x2)] := hl
  refine lv_iload_n F.1 F.2.1 dX5_fits_0 rfl (lv_at hl 1 rfl) ?_
  refine iS (rest := []) (wsp := fun _ => (x, .inr (5, [.ref st, .ref kt, .int ik, .ref (tr 0), .ref sc, .ref sh, .ref fo])) :: (st, .inr (4, [.ref (b 0), .ref bk, .ref sp, .int zz])) :: (wB ct b f ++ (wB ct tr w ++ (wR ct bk rw (nI (nN f % 12)) (nI (min 12 (nN f))) g ++ [ai ct fo 7 (fun j => c (j + 1))])))) F (kX5_isSide l dC dI ct x1) gX5_fits_X5_isSide rfl ⟨rfl, rfl⟩ nmX5_isSide ⟨Nat.le_of_ble_eq_true rfl, Nat.le_of_ble_eq_true rfl⟩ eT_b (fun _ _ _ => trivial) hK hP hD hS hA [] (by decide) rfl rfl rfl hl.1 (Nat.le_of_ble_eq_true rfl) dX5_fits_1 ⟨Nat.zero_le _, Nat.zero_le _⟩ (fun _ => rfl) (fun _ => rfl) [x, st, b 0, b 1, b 2, b 3, b 4, b 5, b 6, tr 0, tr 1, tr 2, tr 3, tr 4, tr 5, tr 6, bk, rw 12, rw 0, rw 1, rw 2, rw 3, rw 4, rw 5, rw 6, rw 7, rw 8, rw 9, rw 10, rw 11, fo] rfl (fun _ => rfl) (fun r_1 u_1 H locs e_1 hP hD hS => ?_)
  obtain rfl := e_1
  refine lv_if_eq (tgt := 14) F.1 F.2.1 dX5_fits_4 (by decide) (fun c_4 => ?_) (fun c_4 => ?_)
  · have c_4 : ¬ (0 ≤ x1 ∧ x1 ≤ 1) := b01f rfl c_4
    refine lv_aload_n F.1 F.2.1 dX5_fits_14 rfl (lv_at hl 0 rfl) ?_
    refine lv_iconst (v := 0) F.1 F.2.1 dX5_fits_15 (by decide) ?_
    refine iV (rest := []) (wsp := fun _ => (x, .inr (5, [.ref st, .ref kt, .int ik, .ref (tr 0), .ref sc, .ref sh, .ref fo])) :: (st, .inr (4, [.ref (b 0), .ref bk, .ref sp, .int zz])) :: (wB ct b f ++ (wB ct tr w ++ (wR ct bk rw (nI (nN f % 12)) (nI (min 12 (nN f))) g ++ [ai ct fo 7 (fun j => (fnd c 1) (j + 1))])))) F (kX5_finding l dC dI ct x st kt sc sh fo tr ik c 0 1 (-1000001) (by decide) (by decide) (by decide)) gX5_fits_X5_finding rfl ⟨rfl, rfl⟩ nmX5_finding ⟨Nat.le_of_ble_eq_true rfl, Nat.le_of_ble_eq_true rfl⟩ eT_b (fun _ _ _ => trivial) hK hP hD hS hA 0 rfl rfl rfl [0, 30] (by decide) rfl rfl rfl hl.1 (Nat.le_of_ble_eq_true rfl) dX5_fits_16 ⟨Nat.zero_le _, Nat.zero_le _⟩ (fun _ => rfl) (fun _ => rfl) [x, st, b 0, b 1, b 2, b 3, b 4, b 5, b 6, tr 0, tr 1, tr 2, tr 3, tr 4, tr 5, tr 6, bk, rw 12, rw 0, rw 1, rw 2, rw 3, rw 4, rw 5, rw 6, rw 7, rw 8, rw 9, rw 10, rw 11, fo] rfl (fun _ => rfl) (fun r_16 u_16 H locs e_16 hP hD hS => ?_)
    obtain rfl := e_16
    exact rtI (f, (fnd c 1), w) F hr hlk hP hS rfl (⟨(if_neg (fun q => c_4 q.1)).symm, rfl⟩) dX5_fits_19
  · have c_4 : 0 ≤ x1 ∧ x1 ≤ 1 := b01t rfl c_4
    obtain ⟨s, hs, rfl⟩ := gS_n c_4
    refine lv_iload_n F.1 F.2.1 dX5_fits_7 rfl (lv_at hl 2 rfl) ?_
    refine iS (rest := []) (wsp := fun _ => (x, .inr (5, [.ref st, .ref kt, .int ik, .ref (tr 0), .ref sc, .ref sh, .ref fo])) :: (st, .inr (4, [.ref (b 0), .ref bk, .ref sp, .int zz])) :: (wB ct b f ++ (wB ct tr w ++ (wR ct bk rw (nI (nN f % 12)) (nI (min 12 (nN f))) g ++ [ai ct fo 7 (fun j => c (j + 1))])))) F (kX5_isThing l dC dI ct x2) gX5_fits_X5_isThing rfl ⟨rfl, rfl⟩ nmX5_isThing ⟨Nat.le_of_ble_eq_true rfl, Nat.le_of_ble_eq_true rfl⟩ eT_b (fun _ _ _ => trivial) hK hP hD hS hA [] (by decide) rfl rfl rfl hl.1 (Nat.le_of_ble_eq_true rfl) dX5_fits_8 ⟨Nat.zero_le _, Nat.zero_le _⟩ (fun _ => rfl) (fun _ => rfl) [x, st, b 0, b 1, b 2, b 3, b 4, b 5, b 6, tr 0, tr 1, tr 2, tr 3, tr 4, tr 5, tr 6, bk, rw 12, rw 0, rw 1, rw 2, rw 3, rw 4, rw 5, rw 6, rw 7, rw 8, rw 9, rw 10, rw 11, fo] rfl (fun _ => rfl) (fun r_8 u_8 H locs e_8 hP hD hS => ?_)
    obtain rfl := e_8
    refine lv_if_ne (tgt := 20) F.1 F.2.1 dX5_fits_11 (by decide) (fun c_11 => ?_) (fun c_11 => ?_)
    · have c_11 : 0 ≤ x2 ∧ x2 ≤ 4 := b01t rfl c_11
      obtain ⟨t, ht, rfl⟩ := gT_n c_11
      refine lv_aload_n F.1 F.2.1 dX5_fits_20 rfl (lv_at hl 0 rfl) ?_
      refine lv_iload_n F.1 F.2.1 dX5_fits_21 rfl (lv_at hl 1 rfl) ?_
      refine lv_iload_n F.1 F.2.1 dX5_fits_22 rfl (lv_at hl 2 rfl) ?_
      refine iV (rest := []) (wsp := fun u_23 => (x, .inr (5, [.ref st, .ref kt, .int ik, .ref (tr 0), .ref sc, .ref sh, .ref fo])) :: (st, .inr (4, [.ref (b 0), .ref bk, .ref sp, .int zz])) :: (wB ct b f ++ (wB ct tr u_23 ++ (wR ct bk rw (nI (nN f % 12)) (nI (min 12 (nN f))) g ++ [ai ct fo 7 (fun j => c (j + 1))])))) F (kX5_fittingWorths l dC dI ct x st kt sc sh fo bk sp tr b rw ik zz f g w s t (by omega) (by omega) hRg hB hRB) gX5_fits_X5_fittingWorths rfl ⟨rfl, rfl⟩ nmX5_fittingWorths ⟨Nat.le_of_ble_eq_true rfl, Nat.le_of_ble_eq_true rfl⟩ eT_b (fun _ _ _ => trivial) hK hP hD hS hA 0 rfl rfl rfl [0, 1, 2, 3, 4, 5, 6, 7, 8, 9, 10, 11, 12, 13, 14, 15, 16, 17, 18, 19, 20, 21, 22, 23, 24, 25, 26, 27, 28, 29] (by decide) rfl rfl rfl hl.1 (Nat.le_of_ble_eq_true rfl) dX5_fits_23 ⟨Nat.zero_le _, Nat.zero_le _⟩ (fun _ => rfl) (fun _ => by simp only [sA, List.cons_append, List.nil_append, List.set_cons_zero, List.set_cons_succ]) [x, st, b 0, b 1, b 2, b 3, b 4, b 5, b 6, tr 0, tr 1, tr 2, tr 3, tr 4, tr 5, tr 6, bk, rw 12, rw 0, rw 1, rw 2, rw 3, rw 4, rw 5, rw 6, rw 7, rw 8, rw 9, rw 10, rw 11, fo] rfl (fun _ => rfl) (fun r_23 u_23 H locs e_23 hP hD hS => ?_)
      exact rtI (f, c, u_23) F hr hlk hP hS rfl (⟨Eq.trans (by rw [show tn (nI s) = s from nI_clamp (by omega), show tn (nI t) = t from nI_clamp (by omega)]; try exact (by rw [e_23]; rfl)) (if_pos ⟨c_4, c_11⟩).symm, rfl⟩) dX5_fits_26
    · have c_11 : ¬ (0 ≤ x2 ∧ x2 ≤ 4) := b01f rfl c_11
      refine lv_aload_n F.1 F.2.1 dX5_fits_14 rfl (lv_at hl 0 rfl) ?_
      refine lv_iconst (v := 0) F.1 F.2.1 dX5_fits_15 (by decide) ?_
      refine iV (rest := []) (wsp := fun _ => (x, .inr (5, [.ref st, .ref kt, .int ik, .ref (tr 0), .ref sc, .ref sh, .ref fo])) :: (st, .inr (4, [.ref (b 0), .ref bk, .ref sp, .int zz])) :: (wB ct b f ++ (wB ct tr w ++ (wR ct bk rw (nI (nN f % 12)) (nI (min 12 (nN f))) g ++ [ai ct fo 7 (fun j => (fnd c 1) (j + 1))])))) F (kX5_finding l dC dI ct x st kt sc sh fo tr ik c 0 1 (-1000001) (by decide) (by decide) (by decide)) gX5_fits_X5_finding rfl ⟨rfl, rfl⟩ nmX5_finding ⟨Nat.le_of_ble_eq_true rfl, Nat.le_of_ble_eq_true rfl⟩ eT_b (fun _ _ _ => trivial) hK hP hD hS hA 0 rfl rfl rfl [0, 30] (by decide) rfl rfl rfl hl.1 (Nat.le_of_ble_eq_true rfl) dX5_fits_16 ⟨Nat.zero_le _, Nat.zero_le _⟩ (fun _ => rfl) (fun _ => rfl) [x, st, b 0, b 1, b 2, b 3, b 4, b 5, b 6, tr 0, tr 1, tr 2, tr 3, tr 4, tr 5, tr 6, bk, rw 12, rw 0, rw 1, rw 2, rw 3, rw 4, rw 5, rw 6, rw 7, rw 8, rw 9, rw 10, rw 11, fo] rfl (fun _ => rfl) (fun r_16 u_16 H locs e_16 hP hD hS => ?_)
      obtain rfl := e_16
      exact rtI (f, (fnd c 1), w) F hr hlk hP hS rfl (⟨(if_neg (fun q => c_11 q.2)).symm, rfl⟩) dX5_fits_19

def rmX5_greeds : Room := { frames := 5, cells := 0, slots := 0, locals := 116 }
theorem nmX5_greeds : NmV yX5_greeds RX5 1 := by unfold NmV; decide +kernel
theorem hiX5_greeds_1 : ∀ w ∈ u_ws RX1 TX1 10, w ∈ wsX5_greeds := by decide +kernel
theorem hiX5_greeds_4 : ∀ w ∈ u_ws RX4 TX4 4, w ∈ wsX5_greeds := by decide +kernel
theorem hiX5_greeds_5 : ∀ w ∈ u_ws RX5 TX5 7, w ∈ wsX5_greeds := by decide +kernel
set_option maxHeartbeats 4000000 in
set_option maxRecDepth 100000 in
theorem kX5_greeds (l : Launch) (dC : Nat → ClassId) (dI : Nat → Nat → Nat) (ct : Nat → ClassId) (x st kt sc sh fo bk sp : Nat) (tr b rw : Nat → Nat) (ik zz : Int32) (f c g w : Nat → Int32) (x1 : Int32) (hRg : Rg f) (hB : BkR f g) (hRB : RB f) : MI (S := (Nat → Int32) × (Nat → Int32) × (Nat → Int32)) l yX5_greeds wsX5_greeds rmX5_greeds dC dI ct eT [.ref x, .int x1] ((x, .inr (5, [.ref st, .ref kt, .int ik, .ref (tr 0), .ref sc, .ref sh, .ref fo])) :: (st, .inr (4, [.ref (b 0), .ref bk, .ref sp, .int zz])) :: (wB ct b f ++ (wB ct tr w ++ (wR ct bk rw (nI (nN f % 12)) (nI (min 12 (nN f))) g ++ [ai ct fo 7 (fun j => c (j + 1))])))) (fun u => (x, .inr (5, [.ref st, .ref kt, .int ik, .ref (tr 0), .ref sc, .ref sh, .ref fo])) :: (st, .inr (4, [.ref (b 0), .ref bk, .ref sp, .int zz])) :: (wB ct b u.1 ++ (wB ct tr u.2.2 ++ (wR ct bk rw (nI (nN u.1 % 12)) (nI (min 12 (nN u.1))) g ++ [ai ct fo 7 (fun j => u.2.1 (j + 1))])))) (fun r u => (r, u.1, u.2.1) = sGreeds f c x1 ∧ u.1 = f) := by
  refine MI.of (cc := cX5_greeds) (maxL := 4) (ret := (some .int)) (by decide) rfl (Nat.le_of_ble_eq_true rfl) ?_
  intro pg en z mi below meth cd A F hr hlk hin hK hP hD hA hS hE ls hl
  have F : CallFix pg mi cd cX5_greeds 4 z _ wsX5_greeds RX5 := F
  have hl : lv_has ls 4 [(0, .ref x), (1, .int x1)] := hl
  refine lv_iload_n F.1 F.2.1 dX5_greeds_0 rfl (lv_at hl 1 rfl) ?_
  refine iS (rest := []) (wsp := fun _ => (x, .inr (5, [.ref st, .ref kt, .int ik, .ref (tr 0), .ref sc, .ref sh, .ref fo])) :: (st, .inr (4, [.ref (b 0), .ref bk, .ref sp, .int zz])) :: (wB ct b f ++ (wB ct tr w ++ (wR ct bk rw (nI (nN f % 12)) (nI (min 12 (nN f))) g ++ [ai ct fo 7 (fun j => c (j + 1))])))) F (kX5_isSide l dC dI ct x1) gX5_greeds_X5_isSide rfl ⟨rfl, rfl⟩ nmX5_isSide ⟨Nat.le_of_ble_eq_true rfl, Nat.le_of_ble_eq_true rfl⟩ eT_b (fun _ _ _ => trivial) hK hP hD hS hA [] (by decide) rfl rfl rfl hl.1 (Nat.le_of_ble_eq_true rfl) dX5_greeds_1 ⟨Nat.zero_le _, Nat.zero_le _⟩ (fun _ => rfl) (fun _ => rfl) [x, st, b 0, b 1, b 2, b 3, b 4, b 5, b 6, tr 0, tr 1, tr 2, tr 3, tr 4, tr 5, tr 6, bk, rw 12, rw 0, rw 1, rw 2, rw 3, rw 4, rw 5, rw 6, rw 7, rw 8, rw 9, rw 10, rw 11, fo] rfl (fun _ => rfl) (fun r_1 u_1 H locs e_1 hP hD hS => ?_)
  obtain rfl := e_1
  refine lv_if_ne (tgt := 13) F.1 F.2.1 dX5_greeds_4 (by decide) (fun c_4 => ?_) (fun c_4 => ?_)
  · have c_4 : 0 ≤ x1 ∧ x1 ≤ 1 := b01t rfl c_4
    obtain ⟨s, hs, rfl⟩ := gS_n c_4
    refine lv_aload_n F.1 F.2.1 dX5_greeds_13 rfl (lv_at hl 0 rfl) ?_
    refine gf F hK hP 0 rfl rfl hiX5_greeds_5 3 (by decide) (List.mem_of_getElem? (i := 1) rfl) rfl dX5_greeds_14 ?_
    refine lv_aload_n F.1 F.2.1 dX5_greeds_17 rfl (lv_at hl 0 rfl) ?_
    refine gf F hK hP 0 rfl rfl hiX5_greeds_5 0 (by decide) (List.mem_of_getElem? (i := 2) rfl) rfl dX5_greeds_18 ?_
    refine gf F hK hP 1 rfl rfl hiX5_greeds_4 0 (by decide) (List.mem_of_getElem? (i := 3) rfl) rfl dX5_greeds_21 ?_
    refine vV (rest := []) (wsp := fun _ => (x, .inr (5, [.ref st, .ref kt, .int ik, .ref (tr 0), .ref sc, .ref sh, .ref fo])) :: (st, .inr (4, [.ref (b 0), .ref bk, .ref sp, .int zz])) :: (wB ct b f ++ (wB ct tr f ++ (wR ct bk rw (nI (nN f % 12)) (nI (min 12 (nN f))) g ++ [ai ct fo 7 (fun j => c (j + 1))])))) F (kX1_copyFrom l dC dI ct tr b f w) gX5_greeds_X1_copyFrom rfl ⟨rfl, rfl⟩ nmX1_copyFrom ⟨Nat.le_of_ble_eq_true rfl, Nat.le_of_ble_eq_true rfl⟩ eT_b (fun _ _ _ => trivial) hK hP hD hS hA 9 rfl rfl rfl [9, 10, 11, 12, 13, 14, 15, 2, 3, 4, 5, 6, 7, 8] (by decide) rfl rfl rfl hl.1 (Nat.le_of_ble_eq_true rfl) dX5_greeds_24 ⟨Nat.zero_le _, Nat.zero_le _⟩ (fun _ => rfl) (fun _ => by simp only [sA, List.cons_append, List.nil_append, List.set_cons_zero, List.set_cons_succ]) [x, st, b 0, b 1, b 2, b 3, b 4, b 5, b 6, tr 0, tr 1, tr 2, tr 3, tr 4, tr 5, tr 6, bk, rw 12, rw 0, rw 1, rw 2, rw 3, rw 4, rw 5, rw 6, rw 7, rw 8, rw 9, rw 10, rw 11, fo] rfl (fun _ => rfl) (fun u_24 H locs e_24 hP hD hS => ?_)
    refine lv_iconst (v := 0) F.1 F.2.1 dX5_greeds_27 (by decide) ?_
    refine lv_istore_n (lv' := [(2, .int 0), (0, .ref x), (1, .int (nI s))]) F.1 F.2.1 dX5_greeds_28 rfl hl (by decide) rfl (fun ls hl => ?_)
    refine lv_iconst (v := 0) F.1 F.2.1 dX5_greeds_29 (by decide) ?_
    refine lv_istore_n (lv' := [(3, .int 0), (2, .int 0), (0, .ref x), (1, .int (nI s))]) F.1 F.2.1 dX5_greeds_30 rfl hl (by decide) rfl (fun ls hl => ?_)
    refine loopN (I := fun k H locs ls => ∃ u : Nat → Int32, va_P (dC, dI) vwCl ((x, .inr (5, [.ref st, .ref kt, .int ik, .ref (tr 0), .ref sc, .ref sh, .ref fo])) :: (st, .inr (4, [.ref (b 0), .ref bk, .ref sp, .int zz])) :: (wB ct b f ++ (wB ct tr u ++ (wR ct bk rw (nI (nN f % 12)) (nI (min 12 (nN f))) g ++ [ai ct fo 7 (fun j => c (j + 1))])))) H ∧ va_D A ((x, .inr (5, [.ref st, .ref kt, .int ik, .ref (tr 0), .ref sc, .ref sh, .ref fo])) :: (st, .inr (4, [.ref (b 0), .ref bk, .ref sp, .int zz])) :: (wB ct b f ++ (wB ct tr u ++ (wR ct bk rw (nI (nN f % 12)) (nI (min 12 (nN f))) g ++ [ai ct fo 7 (fun j => c (j + 1))])))) ∧ va_S A z.heap H locs ∧ lv_has ls 4 [(3, .int (nI k)), (2, .int (fiU f s (20 + 17 * s) k)), (0, .ref x), (1, .int (nI s))] ∧ ∃ y, AgW u (upd f (20 + 17 * s) y) s) 31 0 (by omega) ⟨f, hP, hD, hS, lv_sub hl [0, 1, 2, 3] rfl, ⟨f (20 + 17 * s), by rw [upd_self]; exact AgW_rf f s⟩⟩ (fun H locs ls hI => ?_) (fun k hk_k H locs ls hI ih_31 => ?_)
    · obtain ⟨u, hP, hD, hS, hl, ⟨y, hy⟩⟩ := hI
      refine lv_iload_n F.1 F.2.1 dX5_greeds_31 rfl (lv_at hl 0 rfl) ?_
      refine lv_bipush (v := 30) F.1 F.2.1 dX5_greeds_32 (by decide) ?_
      refine lv_icmp_gt (tgt := 67) F.1 F.2.1 dX5_greeds_34 (by decide) (fun c_34 => ?_) (fun c_34 => ?_)
      · refine lv_iload_n F.1 F.2.1 dX5_greeds_67 rfl (lv_at hl 1 rfl) ?_
        exact rtI (f, c, u) F hr hlk hP hS rfl (⟨Eq.trans (by rw [show tn (nI s) = s from nI_clamp (by omega)]; try exact rfl) (if_pos c_4).symm, rfl⟩) dX5_greeds_68
      · exact absurd (by decide) c_34
    · obtain ⟨u, hP, hD, hS, hl, ⟨y, hy⟩⟩ := hI
      refine lv_iload_n F.1 F.2.1 dX5_greeds_31 rfl (lv_at hl 0 rfl) ?_
      refine lv_bipush (v := 30) F.1 F.2.1 dX5_greeds_32 (by decide) ?_
      refine lv_icmp_gt (tgt := 67) F.1 F.2.1 dX5_greeds_34 (by decide) (fun c_34 => ?_) (fun c_34 => ?_)
      · exact absurd c_34 (nI_nlt (b := k) (a := 30) (by omega) (by decide))
      · refine lv_aload_n F.1 F.2.1 dX5_greeds_37 rfl (lv_at hl 2 rfl) ?_
        refine gf F hK hP 0 rfl rfl hiX5_greeds_5 3 (by decide) (List.mem_of_getElem? (i := 1) rfl) rfl dX5_greeds_38 ?_
        refine gf F hK hP 9 rfl rfl hiX5_greeds_1 4 (by decide) (List.mem_of_getElem? (i := 4) rfl) rfl dX5_greeds_41 ?_
        refine lv_iload_n F.1 F.2.1 dX5_greeds_44 rfl (lv_at hl 3 rfl) ?_
        refine lv_iload_n F.1 F.2.1 dX5_greeds_45 rfl (lv_at hl 0 rfl) ?_
        refine ast (ws' := (x, .inr (5, [.ref st, .ref kt, .int ik, .ref (tr 0), .ref sc, .ref sh, .ref fo])) :: (st, .inr (4, [.ref (b 0), .ref bk, .ref sp, .int zz])) :: (wB ct b f ++ (wB ct tr (upd u (20 + 17 * s) (nI k)) ++ (wR ct bk rw (nI (nN f % 12)) (nI (min 12 (nN f))) g ++ [ai ct fo 7 (fun j => c (j + 1))])))) F hK hP hD hS 14 0 rfl rfl s rfl (by omega) (by decide) dX5_greeds_46 (weq.c (weq.c (weq_ar (x := wB ct b f) (j := 5) rfl (weq_al (x := wB ct tr u) (j := 5) (Nat.le_of_ble_eq_true rfl) (wq_greed ct tr u (by omega)))))) (fun H locs hP hD hS => ?_)
        refine lv_aload_n F.1 F.2.1 dX5_greeds_47 rfl (lv_at hl 2 rfl) ?_
        refine lv_iload_n F.1 F.2.1 dX5_greeds_48 rfl (lv_at hl 3 rfl) ?_
        refine iV (rest := []) (wsp := fun u_49 => (x, .inr (5, [.ref st, .ref kt, .int ik, .ref (tr 0), .ref sc, .ref sh, .ref fo])) :: (st, .inr (4, [.ref (b 0), .ref bk, .ref sp, .int zz])) :: (wB ct b f ++ (wB ct tr u_49 ++ (wR ct bk rw (nI (nN f % 12)) (nI (min 12 (nN f))) g ++ [ai ct fo 7 (fun j => c (j + 1))])))) F (kX5_trialAgreesWithBooks l dC dI ct x st kt sc sh fo bk sp tr b rw ik zz f g (upd u (20 + 17 * s) (nI k)) (upd f (20 + 17 * s) (nI k)) s (by omega) (nN_e2 (pk_un (by omega))) (hRg.greed hs ⟨k, by omega, rfl⟩) (RB_up hRB (by omega)) (BkR_up hB (by omega) (by omega)) (AgW_up hy)) gX5_greeds_X5_trialAgreesWithBooks rfl ⟨rfl, rfl⟩ nmX5_trialAgreesWithBooks ⟨Nat.le_of_ble_eq_true rfl, Nat.le_of_ble_eq_true rfl⟩ eT_b (fun _ _ _ => trivial) hK hP hD hS hA 0 rfl rfl rfl [0, 1, 9, 10, 11, 12, 13, 14, 15, 16, 17, 18, 19, 20, 21, 22, 23, 24, 25, 26, 27, 28, 29] (by decide) rfl rfl rfl hl.1 (Nat.le_of_ble_eq_true rfl) dX5_greeds_49 ⟨Nat.zero_le _, Nat.zero_le _⟩ (fun _ => rfl) (fun _ => by simp only [sA, List.cons_append, List.nil_append, List.set_cons_zero, List.set_cons_succ]) [x, st, b 0, b 1, b 2, b 3, b 4, b 5, b 6, tr 0, tr 1, tr 2, tr 3, tr 4, tr 5, tr 6, bk, rw 12, rw 0, rw 1, rw 2, rw 3, rw 4, rw 5, rw 6, rw 7, rw 8, rw 9, rw 10, rw 11, fo] rfl (fun _ => rfl) (fun r_49 u_49 H locs e_49 hP hD hS => ?_)
        obtain ⟨rfl, a_49⟩ := e_49
        refine lv_if_eq (tgt := 61) F.1 F.2.1 dX5_greeds_52 (by decide) (fun c_52 => ?_) (fun c_52 => ?_)
        · refine lv_iinc (v := nI (k + 1)) (lv' := [(3, .int (nI (k + 1))), (2, .int (fiU f s (20 + 17 * s) k)), (0, .ref x), (1, .int (nI s))]) F.1 F.2.1 dX5_greeds_61 hl (k := 0) rfl (by rw [show Int32.ofInt 1 = nI 1 from rfl, nI_add]) (by decide) rfl (fun ls hl => ?_)
          refine lv_goto (tgt := 31) F.1 F.2.1 dX5_greeds_64 (by decide) ?_
          have eb : fiU f s (20 + 17 * s) (k + 1) = fiU f s (20 + 17 * s) k ||| 0 := congrArg (fiU f s (20 + 17 * s) k ||| ·) (if_pos c_52)
          exact ih_31 _ _ _ ⟨u_49, hP, hD, hS, lv_sub hl [0, 1, 2, 3] (by rw [eb, or0]; rfl), ⟨nI k, a_49⟩⟩
        · refine lv_iload_n F.1 F.2.1 dX5_greeds_55 rfl (lv_at hl 1 rfl) ?_
          refine lv_iconst (v := 1) F.1 F.2.1 dX5_greeds_56 (by decide) ?_
          refine lv_iload_n F.1 F.2.1 dX5_greeds_57 rfl (lv_at hl 0 rfl) ?_
          refine lv_ishl F.1 F.2.1 dX5_greeds_58 ?_
          refine lv_ior F.1 F.2.1 dX5_greeds_59 ?_
          refine lv_istore_n (lv' := [(2, .int ((fiU f s (20 + 17 * s) k) ||| ((1 : Int32) <<< ((nI k) &&& 31)))), (3, .int (nI k)), (0, .ref x), (1, .int (nI s))]) F.1 F.2.1 dX5_greeds_60 rfl hl (by decide) rfl (fun ls hl => ?_)
          refine lv_iinc (v := nI (k + 1)) (lv' := [(3, .int (nI (k + 1))), (2, .int ((fiU f s (20 + 17 * s) k) ||| ((1 : Int32) <<< ((nI k) &&& 31)))), (0, .ref x), (1, .int (nI s))]) F.1 F.2.1 dX5_greeds_61 hl (k := 1) rfl (by rw [show Int32.ofInt 1 = nI 1 from rfl, nI_add]) (by decide) rfl (fun ls hl => ?_)
          refine lv_goto (tgt := 31) F.1 F.2.1 dX5_greeds_64 (by decide) ?_
          have eb : fiU f s (20 + 17 * s) (k + 1) = fiU f s (20 + 17 * s) k ||| (1 : Int32) <<< (nI k &&& 31) := congrArg (fiU f s (20 + 17 * s) k ||| ·) (if_neg c_52)
          exact ih_31 _ _ _ ⟨u_49, hP, hD, hS, lv_sub hl [0, 1, 2, 3] (by rw [eb]; rfl), ⟨nI k, a_49⟩⟩
  · have c_4 : ¬ (0 ≤ x1 ∧ x1 ≤ 1) := b01f rfl c_4
    refine lv_aload_n F.1 F.2.1 dX5_greeds_7 rfl (lv_at hl 0 rfl) ?_
    refine lv_iconst (v := 0) F.1 F.2.1 dX5_greeds_8 (by decide) ?_
    refine iV (rest := []) (wsp := fun _ => (x, .inr (5, [.ref st, .ref kt, .int ik, .ref (tr 0), .ref sc, .ref sh, .ref fo])) :: (st, .inr (4, [.ref (b 0), .ref bk, .ref sp, .int zz])) :: (wB ct b f ++ (wB ct tr w ++ (wR ct bk rw (nI (nN f % 12)) (nI (min 12 (nN f))) g ++ [ai ct fo 7 (fun j => (fnd c 1) (j + 1))])))) F (kX5_finding l dC dI ct x st kt sc sh fo tr ik c 0 1 (-1000001) (by decide) (by decide) (by decide)) gX5_greeds_X5_finding rfl ⟨rfl, rfl⟩ nmX5_finding ⟨Nat.le_of_ble_eq_true rfl, Nat.le_of_ble_eq_true rfl⟩ eT_b (fun _ _ _ => trivial) hK hP hD hS hA 0 rfl rfl rfl [0, 30] (by decide) rfl rfl rfl hl.1 (Nat.le_of_ble_eq_true rfl) dX5_greeds_9 ⟨Nat.zero_le _, Nat.zero_le _⟩ (fun _ => rfl) (fun _ => rfl) [x, st, b 0, b 1, b 2, b 3, b 4, b 5, b 6, tr 0, tr 1, tr 2, tr 3, tr 4, tr 5, tr 6, bk, rw 12, rw 0, rw 1, rw 2, rw 3, rw 4, rw 5, rw 6, rw 7, rw 8, rw 9, rw 10, rw 11, fo] rfl (fun _ => rfl) (fun r_9 u_9 H locs e_9 hP hD hS => ?_)
    obtain rfl := e_9
    exact rtI (f, (fnd c 1), w) F hr hlk hP hS rfl (⟨(if_neg (fun q => c_4 q)).symm, rfl⟩) dX5_greeds_12

def rmX5_season : Room := { frames := 6, cells := 0, slots := 0, locals := 136 }
theorem nmX5_season : NmV yX5_season RX5 1 := by unfold NmV; decide +kernel
theorem hiX5_season_1 : ∀ w ∈ u_ws RX1 TX1 10, w ∈ wsX5_season := by decide +kernel
theorem hiX5_season_4 : ∀ w ∈ u_ws RX4 TX4 4, w ∈ wsX5_season := by decide +kernel
theorem hiX5_season_5 : ∀ w ∈ u_ws RX5 TX5 7, w ∈ wsX5_season := by decide +kernel
set_option maxHeartbeats 4000000 in
set_option maxRecDepth 100000 in
theorem kX5_season (l : Launch) (dC : Nat → ClassId) (dI : Nat → Nat → Nat) (ct : Nat → ClassId) (x st kt sc sh fo bk sp : Nat) (tr b rw : Nat → Nat) (ik : Int32) (f c g : Nat → Int32) (x1 : Int32) (hRg : Rg f) (hB : BkR f g) (hRB : RB f) : MI (S := (Nat → Int32) × (Nat → Int32) × (Nat → Int32)) l yX5_season wsX5_season rmX5_season dC dI ct eT [.ref x, .int x1] ((x, .inr (5, [.ref st, .ref kt, .int ik, .ref (tr 0), .ref sc, .ref sh, .ref fo])) :: (st, .inr (4, [.ref (b 0), .ref bk, .ref sp, .int (f 4)])) :: (wB ct b f ++ (wR ct bk rw (nI (nN f % 12)) (nI (min 12 (nN f))) g ++ [ai ct fo 7 (fun j => c (j + 1))]))) (fun u => (x, .inr (5, [.ref st, .ref kt, .int ik, .ref (tr 0), .ref sc, .ref sh, .ref fo])) :: (st, .inr (4, [.ref (b 0), .ref bk, .ref sp, .int (u.1 4)])) :: (wB ct b u.1 ++ (wR ct bk rw (nI (nN u.1 % 12)) (nI (min 12 (nN u.1))) u.2.2 ++ [ai ct fo 7 (fun j => u.2.1 (j + 1))]))) (fun r u => (r, u.1, u.2.1) = sSeason f c x1 ∧ BkR u.1 u.2.2) := by
  refine MI.of (cc := cX5_season) (maxL := 6) (ret := (some .int)) (by decide) rfl (Nat.le_of_ble_eq_true rfl) ?_
  intro pg en z mi below meth cd A F hr hlk hin hK hP hD hA hS hE ls hl
  have F : CallFix pg mi cd cX5_season 6 z _ wsX5_season RX5 := F
  have hl : lv_has ls 6 [(0, .ref x), (1, .int x1)] := hl
  refine lv_iload_n F.1 F.2.1 dX5_season_0 rfl (lv_at hl 1 rfl) ?_
  refine lv_iconst (v := 1) F.1 F.2.1 dX5_season_1 (by decide) ?_
  refine lv_bipush (v := 12) F.1 F.2.1 dX5_season_2 (by decide) ?_
  refine iS (rest := []) (wsp := fun _ => (x, .inr (5, [.ref st, .ref kt, .int ik, .ref (tr 0), .ref sc, .ref sh, .ref fo])) :: (st, .inr (4, [.ref (b 0), .ref bk, .ref sp, .int (f 4)])) :: (wB ct b f ++ (wR ct bk rw (nI (nN f % 12)) (nI (min 12 (nN f))) g ++ [ai ct fo 7 (fun j => c (j + 1))]))) F (kX5_isIn l dC dI ct x1 1 12) gX5_season_X5_isIn rfl ⟨rfl, rfl⟩ nmX5_isIn ⟨Nat.le_of_ble_eq_true rfl, Nat.le_of_ble_eq_true rfl⟩ eT_b (fun _ _ _ => trivial) hK hP hD hS hA [] (by decide) rfl rfl rfl hl.1 (Nat.le_of_ble_eq_true rfl) dX5_season_4 ⟨Nat.zero_le _, Nat.zero_le _⟩ (fun _ => rfl) (fun _ => rfl) [x, st, b 0, b 1, b 2, b 3, b 4, b 5, b 6, bk, rw 12, rw 0, rw 1, rw 2, rw 3, rw 4, rw 5, rw 6, rw 7, rw 8, rw 9, rw 10, rw 11, fo] rfl (fun _ => rfl) (fun r_4 u_4 H locs e_4 hP hD hS => ?_)
  obtain rfl := e_4
  refine lv_if_ne (tgt := 16) F.1 F.2.1 dX5_season_7 (by decide) (fun c_7 => ?_) (fun c_7 => ?_)
  · have c_7 : 1 ≤ x1 ∧ x1 ≤ 12 := b01t rfl c_7
    obtain ⟨n, hn1, hn, rfl⟩ := g12_n c_7
    refine lv_aload_n F.1 F.2.1 dX5_season_16 rfl (lv_at hl 0 rfl) ?_
    refine lv_iconst (v := 2) F.1 F.2.1 dX5_season_17 (by decide) ?_
    refine lv_iload_n F.1 F.2.1 dX5_season_18 rfl (lv_at hl 1 rfl) ?_
    refine lv_imul F.1 F.2.1 dX5_season_19 ?_
    refine tp (y := nI (2 * n)) (ml2 (a := 2) (b := n) (c := 2 * n) rfl rfl rfl) ?_
    refine iV (rest := []) (wsp := fun _ => (x, .inr (5, [.ref st, .ref kt, .int ik, .ref (tr 0), .ref sc, .ref sh, .ref fo])) :: (st, .inr (4, [.ref (b 0), .ref bk, .ref sp, .int (f 4)])) :: (wB ct b f ++ (wR ct bk rw (nI (nN f % 12)) (nI (min 12 (nN f))) g ++ [ai ct fo 7 (fun j => c (j + 1))]))) F (kX5_isTooLate l dC dI ct x st kt sc sh fo bk sp tr b ik (f 4) f (nI (2 * n))) gX5_season_X5_isTooLate rfl ⟨rfl, rfl⟩ nmX5_isTooLate ⟨Nat.le_of_ble_eq_true rfl, Nat.le_of_ble_eq_true rfl⟩ eT_b (fun _ _ _ => trivial) hK hP hD hS hA 0 rfl rfl rfl [0, 1, 2, 3, 4, 5, 6, 7, 8] (by decide) rfl rfl rfl hl.1 (Nat.le_of_ble_eq_true rfl) dX5_season_20 ⟨Nat.zero_le _, Nat.zero_le _⟩ (fun _ => rfl) (fun _ => rfl) [x, st, b 0, b 1, b 2, b 3, b 4, b 5, b 6, bk, rw 12, rw 0, rw 1, rw 2, rw 3, rw 4, rw 5, rw 6, rw 7, rw 8, rw 9, rw 10, rw 11, fo] rfl (fun _ => rfl) (fun r_20 u_20 H locs e_20 hP hD hS => ?_)
    obtain rfl := e_20
    refine lv_if_eq (tgt := 32) F.1 F.2.1 dX5_season_23 (by decide) (fun c_23 => ?_) (fun c_23 => ?_)
    · have c_23 : ¬ (9999 < f 0 + (nI (2 * n))) := b01f rfl c_23
      have hN := late_no hRg (n := 2 * n) (by omega) c_23
      refine lv_iconst (v := 0) F.1 F.2.1 dX5_season_32 (by decide) ?_
      refine lv_istore_n (lv' := [(2, .int 0), (0, .ref x), (1, .int (nI n))]) F.1 F.2.1 dX5_season_33 rfl hl (by decide) rfl (fun ls hl => ?_)
      refine lv_iconst (v := 0) F.1 F.2.1 dX5_season_34 (by decide) ?_
      refine lv_istore_n (lv' := [(3, .int 0), (2, .int 0), (0, .ref x), (1, .int (nI n))]) F.1 F.2.1 dX5_season_35 rfl hl (by decide) rfl (fun ls hl => ?_)
      refine loopN (I := fun k H locs ls => va_P (dC, dI) vwCl ((x, .inr (5, [.ref st, .ref kt, .int ik, .ref (tr 0), .ref sc, .ref sh, .ref fo])) :: (st, .inr (4, [.ref (b 0), .ref bk, .ref sp, .int (seU f k 4)])) :: (wB ct b (seU f k) ++ (wR ct bk rw (nI (nN (seU f k) % 12)) (nI (min 12 (nN (seU f k)))) (sgU f g k) ++ [ai ct fo 7 (fun j => c (j + 1))]))) H ∧ va_D A ((x, .inr (5, [.ref st, .ref kt, .int ik, .ref (tr 0), .ref sc, .ref sh, .ref fo])) :: (st, .inr (4, [.ref (b 0), .ref bk, .ref sp, .int (seU f k 4)])) :: (wB ct b (seU f k) ++ (wR ct bk rw (nI (nN (seU f k) % 12)) (nI (min 12 (nN (seU f k)))) (sgU f g k) ++ [ai ct fo 7 (fun j => c (j + 1))]))) ∧ va_S A z.heap H locs ∧ lv_has ls 6 [(3, .int (nI k)), (2, .int (seT f k)), (0, .ref x), (1, .int (nI n))]) n 0 (by omega) ⟨hP, hD, hS, lv_sub hl [0, 1, 2, 3] rfl⟩ (fun H locs ls hI => ?_) (fun k hk_k H locs ls hI ih_36 => ?_)
      · obtain ⟨hP, hD, hS, hl⟩ := hI
        refine lv_iload_n F.1 F.2.1 dX5_season_36 rfl (lv_at hl 0 rfl) ?_
        refine lv_iload_n F.1 F.2.1 dX5_season_37 rfl (lv_at hl 3 rfl) ?_
        refine lv_icmp_ge (tgt := 131) F.1 F.2.1 dX5_season_38 (by decide) (fun c_38 => ?_) (fun c_38 => ?_)
        · refine lv_iload_n F.1 F.2.1 dX5_season_131 rfl (lv_at hl 1 rfl) ?_
          exact rtI ((seU f n), c, (sgU f g n)) F hr hlk hP hS rfl (⟨Eq.trans (by rw [show tn (nI n) = n from nI_clamp (by omega)]; exact (if_neg c_23).symm) (if_pos c_7).symm, (BkR_seU hRg hB hRB n hN).1⟩) dX5_season_132
        · exact absurd (nI_le (Nat.le_refl _) (by omega)) c_38
      · obtain ⟨hP, hD, hS, hl⟩ := hI
        have q5 := Rg_seU hRg k (by omega)
        have e5 : nN (seA (seU f k)) = nN f + 2 * k := (nN_e2 (seA_0 _)).trans q5.2
        refine lv_iload_n F.1 F.2.1 dX5_season_36 rfl (lv_at hl 0 rfl) ?_
        refine lv_iload_n F.1 F.2.1 dX5_season_37 rfl (lv_at hl 3 rfl) ?_
        refine lv_icmp_ge (tgt := 131) F.1 F.2.1 dX5_season_38 (by decide) (fun c_38 => ?_) (fun c_38 => ?_)
        · exact absurd c_38 (nI_ge hk_k (by omega))
        · refine lv_aload_n F.1 F.2.1 dX5_season_41 rfl (lv_at hl 2 rfl) ?_
          refine gf F hK hP 0 rfl rfl hiX5_season_5 0 (by decide) (List.mem_of_getElem? (i := 1) rfl) rfl dX5_season_42 ?_
          refine gf F hK hP 1 rfl rfl hiX5_season_4 0 (by decide) (List.mem_of_getElem? (i := 2) rfl) rfl dX5_season_45 ?_
          refine lv_aload_n F.1 F.2.1 dX5_season_48 rfl (lv_at hl 2 rfl) ?_
          refine gf F hK hP 0 rfl rfl hiX5_season_5 0 (by decide) (List.mem_of_getElem? (i := 1) rfl) rfl dX5_season_49 ?_
          refine iV (rest := [.ref (b 0)]) (wsp := fun _ => (x, .inr (5, [.ref st, .ref kt, .int ik, .ref (tr 0), .ref sc, .ref sh, .ref fo])) :: (st, .inr (4, [.ref (b 0), .ref bk, .ref sp, .int ((seU f k 4) * 1103515245 + 12345)])) :: (wB ct b (seU f k) ++ (wR ct bk rw (nI (nN (seU f k) % 12)) (nI (min 12 (nN (seU f k)))) (sgU f g k) ++ [ai ct fo 7 (fun j => c (j + 1))]))) F (kX4_draw l dC dI ct st bk sp b (seU f k 4)) gX5_season_X4_draw rfl ⟨rfl, rfl⟩ nmX4_draw ⟨Nat.le_of_ble_eq_true rfl, Nat.le_of_ble_eq_true rfl⟩ eT_b (fun _ _ _ => trivial) hK hP hD hS hA 1 rfl rfl rfl [1] (by decide) rfl rfl rfl hl.1 (Nat.le_of_ble_eq_true rfl) dX5_season_52 ⟨Nat.zero_le _, Nat.zero_le _⟩ (fun _ => rfl) (fun _ => rfl) [x, st, b 0, b 1, b 2, b 3, b 4, b 5, b 6, bk, rw 12, rw 0, rw 1, rw 2, rw 3, rw 4, rw 5, rw 6, rw 7, rw 8, rw 9, rw 10, rw 11, fo] rfl (fun _ => rfl) (fun r_52 u_52 H locs e_52 hP hD hS => ?_)
          obtain rfl := e_52
          refine tp (y := nI (dN (z1F (seU f k)))) (drw_e (z1F (seU f k))).1 ?_
          refine lv_bipush (v := 10) F.1 F.2.1 dX5_season_55 (by decide) ?_
          refine lv_irem F.1 F.2.1 dX5_season_57 (by decide) ?_
          refine tp (y := nI (dN (z1F (seU f k)) % 10)) (pk_rem (d := 10) (by have := (drw_e (z1F (seU f k))).2; omega) (by decide) (by decide)) ?_
          refine pf (ws' := (x, .inr (5, [.ref st, .ref kt, .int ik, .ref (tr 0), .ref sc, .ref sh, .ref fo])) :: (st, .inr (4, [.ref (b 0), .ref bk, .ref sp, .int ((seU f k 4) * 1103515245 + 12345)])) :: (wB ct b (upd (seU f k) 1 (nI (dN (z1F (seU f k)) % 10))) ++ (wR ct bk rw (nI (nN (seU f k) % 12)) (nI (min 12 (nN (seU f k)))) (sgU f g k) ++ [ai ct fo 7 (fun j => c (j + 1))]))) F hK hP hD hS 2 rfl rfl hiX5_season_1 tyX1 tyX1_ok nmX1 6 (by decide) (List.mem_of_getElem? (i := 3) rfl) rfl rfl rfl (Nat.le_of_ble_eq_true rfl) dX5_season_58 (weq.c (weq.c (weq_al (x := wB ct b (seU f k)) (j := 0) (Nat.le_of_ble_eq_true rfl) (wq_f1 ct b (seU f k) _)))) (fun H locs hP hD hS => ?_)
          refine lv_aload_n F.1 F.2.1 dX5_season_61 rfl (lv_at hl 2 rfl) ?_
          refine gf F hK hP 0 rfl rfl hiX5_season_5 0 (by decide) (List.mem_of_getElem? (i := 1) rfl) rfl dX5_season_62 ?_
          refine iV (rest := []) (wsp := fun _ => (x, .inr (5, [.ref st, .ref kt, .int ik, .ref (tr 0), .ref sc, .ref sh, .ref fo])) :: (st, .inr (4, [.ref (b 0), .ref bk, .ref sp, .int (((seU f k 4) * 1103515245 + 12345) * 1103515245 + 12345)])) :: (wB ct b (upd (seU f k) 1 (nI (dN (z1F (seU f k)) % 10))) ++ (wR ct bk rw (nI (nN (seU f k) % 12)) (nI (min 12 (nN (seU f k)))) (sgU f g k) ++ [ai ct fo 7 (fun j => c (j + 1))]))) F (kX4_draw l dC dI ct st bk sp b ((seU f k 4) * 1103515245 + 12345)) gX5_season_X4_draw rfl ⟨rfl, rfl⟩ nmX4_draw ⟨Nat.le_of_ble_eq_true rfl, Nat.le_of_ble_eq_true rfl⟩ eT_b (fun _ _ _ => trivial) hK hP hD hS hA 1 rfl rfl rfl [1] (by decide) rfl rfl rfl hl.1 (Nat.le_of_ble_eq_true rfl) dX5_season_65 ⟨Nat.zero_le _, Nat.zero_le _⟩ (fun _ => rfl) (fun _ => rfl) [x, st, b 0, b 1, b 2, b 3, b 4, b 5, b 6, bk, rw 12, rw 0, rw 1, rw 2, rw 3, rw 4, rw 5, rw 6, rw 7, rw 8, rw 9, rw 10, rw 11, fo] rfl (fun _ => rfl) (fun r_65 u_65 H locs e_65 hP hD hS => ?_)
          obtain rfl := e_65
          refine tp (y := nI (dN (z2F (seU f k)))) (drw_e (z2F (seU f k))).1 ?_
          refine lv_iconst (v := 2) F.1 F.2.1 dX5_season_68 (by decide) ?_
          refine lv_irem F.1 F.2.1 dX5_season_69 (by decide) ?_
          refine tp (y := nI (dN (z2F (seU f k)) % 2)) (pk_rem (d := 2) (by have := (drw_e (z2F (seU f k))).2; omega) (by decide) (by decide)) ?_
          refine lv_istore (lv' := [(4, .int (nI (dN (z2F (seU f k)) % 2))), (3, .int (nI k)), (2, .int (seT f k)), (0, .ref x), (1, .int (nI n))]) F.1 F.2.1 dX5_season_70 hl (by decide) rfl (fun ls hl => ?_)
          refine lv_aload_n F.1 F.2.1 dX5_season_72 rfl (lv_at hl 3 rfl) ?_
          refine gf F hK hP 0 rfl rfl hiX5_season_5 0 (by decide) (List.mem_of_getElem? (i := 1) rfl) rfl dX5_season_73 ?_
          refine iV (rest := []) (wsp := fun _ => (x, .inr (5, [.ref st, .ref kt, .int ik, .ref (tr 0), .ref sc, .ref sh, .ref fo])) :: (st, .inr (4, [.ref (b 0), .ref bk, .ref sp, .int ((((seU f k 4) * 1103515245 + 12345) * 1103515245 + 12345) * 1103515245 + 12345)])) :: (wB ct b (upd (seU f k) 1 (nI (dN (z1F (seU f k)) % 10))) ++ (wR ct bk rw (nI (nN (seU f k) % 12)) (nI (min 12 (nN (seU f k)))) (sgU f g k) ++ [ai ct fo 7 (fun j => c (j + 1))]))) F (kX4_draw l dC dI ct st bk sp b (((seU f k 4) * 1103515245 + 12345) * 1103515245 + 12345)) gX5_season_X4_draw rfl ⟨rfl, rfl⟩ nmX4_draw ⟨Nat.le_of_ble_eq_true rfl, Nat.le_of_ble_eq_true rfl⟩ eT_b (fun _ _ _ => trivial) hK hP hD hS hA 1 rfl rfl rfl [1] (by decide) rfl rfl rfl hl.1 (Nat.le_of_ble_eq_true rfl) dX5_season_76 ⟨Nat.zero_le _, Nat.zero_le _⟩ (fun _ => rfl) (fun _ => rfl) [x, st, b 0, b 1, b 2, b 3, b 4, b 5, b 6, bk, rw 12, rw 0, rw 1, rw 2, rw 3, rw 4, rw 5, rw 6, rw 7, rw 8, rw 9, rw 10, rw 11, fo] rfl (fun _ => rfl) (fun r_76 u_76 H locs e_76 hP hD hS => ?_)
          obtain rfl := e_76
          refine tp (y := nI (dN (z3F (seU f k)))) (drw_e (z3F (seU f k))).1 ?_
          refine lv_iconst (v := 5) F.1 F.2.1 dX5_season_79 (by decide) ?_
          refine lv_irem F.1 F.2.1 dX5_season_80 (by decide) ?_
          refine tp (y := nI (dN (z3F (seU f k)) % 5)) (pk_rem (d := 5) (by have := (drw_e (z3F (seU f k))).2; omega) (by decide) (by decide)) ?_
          refine lv_istore (lv' := [(5, .int (nI (dN (z3F (seU f k)) % 5))), (4, .int (nI (dN (z2F (seU f k)) % 2))), (3, .int (nI k)), (2, .int (seT f k)), (0, .ref x), (1, .int (nI n))]) F.1 F.2.1 dX5_season_81 hl (by decide) rfl (fun ls hl => ?_)
          have ez : (((seU f k 4) * 1103515245 + 12345) * 1103515245 + 12345) * 1103515245 + 12345 = drF (seU f k) 4 := pk_us.symm
          have en : nN (seU f k) = nN (drF (seU f k)) := (nN_e2 (drF_0 (seU f k))).symm
          rw [ez, en] at hP hD
          have hq := weq.c (x := (x, .inr (5, [.ref st, .ref kt, .int ik, .ref (tr 0), .ref sc, .ref sh, .ref fo]))) (weq.c (x := (st, .inr (4, [.ref (b 0), .ref bk, .ref sp, .int (drF (seU f k) 4)]))) (weq.app (wB_z (ct := ct) (a := b) (drF_w (seU f k))) (weq.rf (wR ct bk rw (nI (nN (drF (seU f k)) % 12)) (nI (min 12 (nN (drF (seU f k))))) (sgU f g k) ++ [ai ct fo 7 (fun j => c (j + 1))]))))
          have hP := hq.P hP
          have hD := hq.D hD
          refine lv_aload_n F.1 F.2.1 dX5_season_83 rfl (lv_at hl 4 rfl) ?_
          refine gf F hK hP 0 rfl rfl hiX5_season_5 0 (by decide) (List.mem_of_getElem? (i := 1) rfl) rfl dX5_season_84 ?_
          refine gf F hK hP 1 rfl rfl hiX5_season_4 0 (by decide) (List.mem_of_getElem? (i := 2) rfl) rfl dX5_season_87 ?_
          refine lv_iload F.1 F.2.1 dX5_season_90 (lv_at hl 1 rfl) ?_
          refine lv_iload F.1 F.2.1 dX5_season_92 (lv_at hl 0 rfl) ?_
          refine lv_iconst (v := 1) F.1 F.2.1 dX5_season_94 (by decide) ?_
          refine iV (rest := []) (wsp := fun _ => (x, .inr (5, [.ref st, .ref kt, .int ik, .ref (tr 0), .ref sc, .ref sh, .ref fo])) :: (st, .inr (4, [.ref (b 0), .ref bk, .ref sp, .int (drF (seU f k) 4)])) :: (wB ct b (drF (seU f k)) ++ (wR ct bk rw (nI (nN (drF (seU f k)) % 12)) (nI (min 12 (nN (drF (seU f k))))) (sgU f g k) ++ [ai ct fo 7 (fun j => c (j + 1))]))) F (kX1_mayLay l dC dI ct b (drF (seU f k)) (dN (z2F (seU f k)) % 2) (dN (z3F (seU f k)) % 5) 1 (by omega) (by omega)) gX5_season_X1_mayLay rfl ⟨rfl, rfl⟩ nmX1_mayLay ⟨Nat.le_of_ble_eq_true rfl, Nat.le_of_ble_eq_true rfl⟩ eT_b (fun _ _ _ => trivial) hK hP hD hS hA 2 rfl rfl rfl [2, 3, 4, 5, 6, 7, 8] (by decide) rfl rfl rfl hl.1 (Nat.le_of_ble_eq_true rfl) dX5_season_95 ⟨Nat.zero_le _, Nat.zero_le _⟩ (fun _ => rfl) (fun _ => rfl) [x, st, b 0, b 1, b 2, b 3, b 4, b 5, b 6, bk, rw 12, rw 0, rw 1, rw 2, rw 3, rw 4, rw 5, rw 6, rw 7, rw 8, rw 9, rw 10, rw 11, fo] rfl (fun _ => rfl) (fun r_95 u_95 H locs e_95 hP hD hS => ?_)
          obtain rfl := e_95
          refine lv_if_eq (tgt := 117) F.1 F.2.1 dX5_season_98 (by decide) (fun c_98 => ?_) (fun c_98 => ?_)
          · have c_98 : ¬ (may (drF (seU f k)) (dN (z2F (seU f k)) % 2) (dN (z3F (seU f k)) % 5) 1) := b01f rfl c_98
            have eA : drF (seU f k) = seA (seU f k) := (if_neg c_98).symm
            rw [eA] at hP hD
            refine lv_iload_n F.1 F.2.1 dX5_season_117 rfl (lv_at hl 3 rfl) ?_
            refine lv_aload_n F.1 F.2.1 dX5_season_118 rfl (lv_at hl 4 rfl) ?_
            refine lv_iconst (v := 2) F.1 F.2.1 dX5_season_119 (by decide) ?_
            refine iV (rest := [.int (seT f k)]) (wsp := fun _ => (x, .inr (5, [.ref st, .ref kt, .int ik, .ref (tr 0), .ref sc, .ref sh, .ref fo])) :: (st, .inr (4, [.ref (b 0), .ref bk, .ref sp, .int (seA (seU f k) 4)])) :: (wB ct b (ngU (seA (seU f k)) 2) ++ (wR ct bk rw (nI (nN (ngU (seA (seU f k)) 2) % 12)) (nI (min 12 (nN (ngU (seA (seU f k)) 2)))) (bkU (seA (seU f k)) (sgU f g k) 2) ++ [ai ct fo 7 (fun j => c (j + 1))]))) F (kX5_goNights l dC dI ct x st kt sc sh fo bk sp tr b rw ik (seA (seU f k) 4) (seA (seU f k)) (sgU f g k) 2 (Rg_seA q5.1) (by omega)) gX5_season_X5_goNights rfl ⟨rfl, rfl⟩ nmX5_goNights ⟨Nat.le_of_ble_eq_true rfl, Nat.le_of_ble_eq_true rfl⟩ eT_b (fun _ _ _ => trivial) hK hP hD hS hA 0 rfl rfl rfl [0, 1, 2, 3, 4, 5, 6, 7, 8, 9, 10, 11, 12, 13, 14, 15, 16, 17, 18, 19, 20, 21, 22] (by decide) rfl rfl rfl hl.1 (Nat.le_of_ble_eq_true rfl) dX5_season_120 ⟨Nat.zero_le _, Nat.zero_le _⟩ (fun _ => rfl) (fun _ => by simp only [sA, List.cons_append, List.nil_append, List.set_cons_zero, List.set_cons_succ]) [x, st, b 0, b 1, b 2, b 3, b 4, b 5, b 6, bk, rw 12, rw 0, rw 1, rw 2, rw 3, rw 4, rw 5, rw 6, rw 7, rw 8, rw 9, rw 10, rw 11, fo] rfl (fun _ => rfl) (fun r_120 u_120 H locs e_120 hP hD hS => ?_)
            obtain rfl := e_120
            refine lv_iadd F.1 F.2.1 dX5_season_123 ?_
            refine lv_istore_n (lv' := [(2, .int ((seT f k) + (tkU (seA (seU f k)) 2))), (5, .int (nI (dN (z3F (seU f k)) % 5))), (4, .int (nI (dN (z2F (seU f k)) % 2))), (3, .int (nI k)), (0, .ref x), (1, .int (nI n))]) F.1 F.2.1 dX5_season_124 rfl hl (by decide) rfl (fun ls hl => ?_)
            refine lv_iinc (v := nI (k + 1)) (lv' := [(3, .int (nI (k + 1))), (2, .int ((seT f k) + (tkU (seA (seU f k)) 2))), (5, .int (nI (dN (z3F (seU f k)) % 5))), (4, .int (nI (dN (z2F (seU f k)) % 2))), (0, .ref x), (1, .int (nI n))]) F.1 F.2.1 dX5_season_125 hl (k := 3) rfl (by rw [show Int32.ofInt 1 = nI 1 from rfl, nI_add]) (by decide) rfl (fun ls hl => ?_)
            refine lv_goto (tgt := 36) F.1 F.2.1 dX5_season_128 (by decide) ?_
            have e4 : seA (seU f k) 4 = seU f (k + 1) 4 := (ngU_lo (seA (seU f k)) (by omega) (by omega) (by omega) (by omega) 2).symm
            rw [e4] at hP hD
            exact ih_36 _ _ _ ⟨hP, hD, hS, lv_sub hl [0, 1, 4, 5] rfl⟩
          · have c_98 : may (drF (seU f k)) (dN (z2F (seU f k)) % 2) (dN (z3F (seU f k)) % 5) 1 := b01t rfl c_98
            refine lv_aload_n F.1 F.2.1 dX5_season_101 rfl (lv_at hl 4 rfl) ?_
            refine gf F hK hP 0 rfl rfl hiX5_season_5 0 (by decide) (List.mem_of_getElem? (i := 1) rfl) rfl dX5_season_102 ?_
            refine gf F hK hP 1 rfl rfl hiX5_season_4 0 (by decide) (List.mem_of_getElem? (i := 2) rfl) rfl dX5_season_105 ?_
            refine lv_iload F.1 F.2.1 dX5_season_108 (lv_at hl 1 rfl) ?_
            refine lv_iload F.1 F.2.1 dX5_season_110 (lv_at hl 0 rfl) ?_
            refine lv_iconst (v := 1) F.1 F.2.1 dX5_season_112 (by decide) ?_
            refine iV (rest := []) (wsp := fun _ => (x, .inr (5, [.ref st, .ref kt, .int ik, .ref (tr 0), .ref sc, .ref sh, .ref fo])) :: (st, .inr (4, [.ref (b 0), .ref bk, .ref sp, .int (drF (seU f k) 4)])) :: (wB ct b (laid (drF (seU f k)) (dN (z2F (seU f k)) % 2) (dN (z3F (seU f k)) % 5) 1) ++ (wR ct bk rw (nI (nN (drF (seU f k)) % 12)) (nI (min 12 (nN (drF (seU f k))))) (sgU f g k) ++ [ai ct fo 7 (fun j => c (j + 1))]))) F (kX1_layDown l dC dI ct b (drF (seU f k)) (dN (z2F (seU f k)) % 2) (dN (z3F (seU f k)) % 5) 1 (by omega) (by omega)) gX5_season_X1_layDown rfl ⟨rfl, rfl⟩ nmX1_layDown ⟨Nat.le_of_ble_eq_true rfl, Nat.le_of_ble_eq_true rfl⟩ eT_b (fun _ _ _ => trivial) hK hP hD hS hA 2 rfl rfl rfl [2, 3, 4, 5, 6, 7, 8] (by decide) rfl rfl rfl hl.1 (Nat.le_of_ble_eq_true rfl) dX5_season_113 ⟨Nat.zero_le _, Nat.zero_le _⟩ (fun _ => rfl) (fun _ => rfl) [x, st, b 0, b 1, b 2, b 3, b 4, b 5, b 6, bk, rw 12, rw 0, rw 1, rw 2, rw 3, rw 4, rw 5, rw 6, rw 7, rw 8, rw 9, rw 10, rw 11, fo] rfl (fun _ => rfl) (fun r_113 u_113 H locs e_113 hP hD hS => ?_)
            obtain rfl := e_113
            refine lv_pop F.1 F.2.1 dX5_season_116 rfl ?_
            have eA : laid (drF (seU f k)) (dN (z2F (seU f k)) % 2) (dN (z3F (seU f k)) % 5) 1 = seA (seU f k) := (if_pos c_98).symm
            rw [eA, ← seA_4, ← seA_N] at hP hD
            refine lv_iload_n F.1 F.2.1 dX5_season_117 rfl (lv_at hl 3 rfl) ?_
            refine lv_aload_n F.1 F.2.1 dX5_season_118 rfl (lv_at hl 4 rfl) ?_
            refine lv_iconst (v := 2) F.1 F.2.1 dX5_season_119 (by decide) ?_
            refine iV (rest := [.int (seT f k)]) (wsp := fun _ => (x, .inr (5, [.ref st, .ref kt, .int ik, .ref (tr 0), .ref sc, .ref sh, .ref fo])) :: (st, .inr (4, [.ref (b 0), .ref bk, .ref sp, .int (seA (seU f k) 4)])) :: (wB ct b (ngU (seA (seU f k)) 2) ++ (wR ct bk rw (nI (nN (ngU (seA (seU f k)) 2) % 12)) (nI (min 12 (nN (ngU (seA (seU f k)) 2)))) (bkU (seA (seU f k)) (sgU f g k) 2) ++ [ai ct fo 7 (fun j => c (j + 1))]))) F (kX5_goNights l dC dI ct x st kt sc sh fo bk sp tr b rw ik (seA (seU f k) 4) (seA (seU f k)) (sgU f g k) 2 (Rg_seA q5.1) (by omega)) gX5_season_X5_goNights rfl ⟨rfl, rfl⟩ nmX5_goNights ⟨Nat.le_of_ble_eq_true rfl, Nat.le_of_ble_eq_true rfl⟩ eT_b (fun _ _ _ => trivial) hK hP hD hS hA 0 rfl rfl rfl [0, 1, 2, 3, 4, 5, 6, 7, 8, 9, 10, 11, 12, 13, 14, 15, 16, 17, 18, 19, 20, 21, 22] (by decide) rfl rfl rfl hl.1 (Nat.le_of_ble_eq_true rfl) dX5_season_120 ⟨Nat.zero_le _, Nat.zero_le _⟩ (fun _ => rfl) (fun _ => by simp only [sA, List.cons_append, List.nil_append, List.set_cons_zero, List.set_cons_succ]) [x, st, b 0, b 1, b 2, b 3, b 4, b 5, b 6, bk, rw 12, rw 0, rw 1, rw 2, rw 3, rw 4, rw 5, rw 6, rw 7, rw 8, rw 9, rw 10, rw 11, fo] rfl (fun _ => rfl) (fun r_120 u_120 H locs e_120 hP hD hS => ?_)
            obtain rfl := e_120
            refine lv_iadd F.1 F.2.1 dX5_season_123 ?_
            refine lv_istore_n (lv' := [(2, .int ((seT f k) + (tkU (seA (seU f k)) 2))), (5, .int (nI (dN (z3F (seU f k)) % 5))), (4, .int (nI (dN (z2F (seU f k)) % 2))), (3, .int (nI k)), (0, .ref x), (1, .int (nI n))]) F.1 F.2.1 dX5_season_124 rfl hl (by decide) rfl (fun ls hl => ?_)
            refine lv_iinc (v := nI (k + 1)) (lv' := [(3, .int (nI (k + 1))), (2, .int ((seT f k) + (tkU (seA (seU f k)) 2))), (5, .int (nI (dN (z3F (seU f k)) % 5))), (4, .int (nI (dN (z2F (seU f k)) % 2))), (0, .ref x), (1, .int (nI n))]) F.1 F.2.1 dX5_season_125 hl (k := 3) rfl (by rw [show Int32.ofInt 1 = nI 1 from rfl, nI_add]) (by decide) rfl (fun ls hl => ?_)
            refine lv_goto (tgt := 36) F.1 F.2.1 dX5_season_128 (by decide) ?_
            have e4 : seA (seU f k) 4 = seU f (k + 1) 4 := (ngU_lo (seA (seU f k)) (by omega) (by omega) (by omega) (by omega) 2).symm
            rw [e4] at hP hD
            exact ih_36 _ _ _ ⟨hP, hD, hS, lv_sub hl [0, 1, 4, 5] rfl⟩
    · have c_23 : 9999 < f 0 + (nI (2 * n)) := b01t rfl c_23
      refine lv_aload_n F.1 F.2.1 dX5_season_26 rfl (lv_at hl 0 rfl) ?_
      refine lv_iconst (v := 4) F.1 F.2.1 dX5_season_27 (by decide) ?_
      refine iV (rest := []) (wsp := fun _ => (x, .inr (5, [.ref st, .ref kt, .int ik, .ref (tr 0), .ref sc, .ref sh, .ref fo])) :: (st, .inr (4, [.ref (b 0), .ref bk, .ref sp, .int (f 4)])) :: (wB ct b f ++ (wR ct bk rw (nI (nN f % 12)) (nI (min 12 (nN f))) g ++ [ai ct fo 7 (fun j => (fnd c 5) (j + 1))]))) F (kX5_finding l dC dI ct x st kt sc sh fo tr ik c 4 5 (-1000005) (by decide) (by decide) (by decide)) gX5_season_X5_finding rfl ⟨rfl, rfl⟩ nmX5_finding ⟨Nat.le_of_ble_eq_true rfl, Nat.le_of_ble_eq_true rfl⟩ eT_b (fun _ _ _ => trivial) hK hP hD hS hA 0 rfl rfl rfl [0, 23] (by decide) rfl rfl rfl hl.1 (Nat.le_of_ble_eq_true rfl) dX5_season_28 ⟨Nat.zero_le _, Nat.zero_le _⟩ (fun _ => rfl) (fun _ => rfl) [x, st, b 0, b 1, b 2, b 3, b 4, b 5, b 6, bk, rw 12, rw 0, rw 1, rw 2, rw 3, rw 4, rw 5, rw 6, rw 7, rw 8, rw 9, rw 10, rw 11, fo] rfl (fun _ => rfl) (fun r_28 u_28 H locs e_28 hP hD hS => ?_)
      obtain rfl := e_28
      exact rtI (f, (fnd c 5), g) F hr hlk hP hS rfl (⟨Eq.trans (by rw [show tn (nI n) = n from nI_clamp (by omega)]; exact (if_pos c_23).symm) (if_pos c_7).symm, hB⟩) dX5_season_31
  · have c_7 : ¬ (1 ≤ x1 ∧ x1 ≤ 12) := b01f rfl c_7
    refine lv_aload_n F.1 F.2.1 dX5_season_10 rfl (lv_at hl 0 rfl) ?_
    refine lv_iconst (v := 0) F.1 F.2.1 dX5_season_11 (by decide) ?_
    refine iV (rest := []) (wsp := fun _ => (x, .inr (5, [.ref st, .ref kt, .int ik, .ref (tr 0), .ref sc, .ref sh, .ref fo])) :: (st, .inr (4, [.ref (b 0), .ref bk, .ref sp, .int (f 4)])) :: (wB ct b f ++ (wR ct bk rw (nI (nN f % 12)) (nI (min 12 (nN f))) g ++ [ai ct fo 7 (fun j => (fnd c 1) (j + 1))]))) F (kX5_finding l dC dI ct x st kt sc sh fo tr ik c 0 1 (-1000001) (by decide) (by decide) (by decide)) gX5_season_X5_finding rfl ⟨rfl, rfl⟩ nmX5_finding ⟨Nat.le_of_ble_eq_true rfl, Nat.le_of_ble_eq_true rfl⟩ eT_b (fun _ _ _ => trivial) hK hP hD hS hA 0 rfl rfl rfl [0, 23] (by decide) rfl rfl rfl hl.1 (Nat.le_of_ble_eq_true rfl) dX5_season_12 ⟨Nat.zero_le _, Nat.zero_le _⟩ (fun _ => rfl) (fun _ => rfl) [x, st, b 0, b 1, b 2, b 3, b 4, b 5, b 6, bk, rw 12, rw 0, rw 1, rw 2, rw 3, rw 4, rw 5, rw 6, rw 7, rw 8, rw 9, rw 10, rw 11, fo] rfl (fun _ => rfl) (fun r_12 u_12 H locs e_12 hP hD hS => ?_)
    obtain rfl := e_12
    exact rtI (f, (fnd c 1), g) F hr hlk hP hS rfl (⟨(if_neg c_7).symm, hB⟩) dX5_season_15
