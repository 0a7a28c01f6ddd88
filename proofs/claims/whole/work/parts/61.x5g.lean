def rmX5_goNights : Room := { frames := 5, cells := 0, slots := 0, locals := 110 }
theorem nmX5_goNights : NmV yX5_goNights RX5 1 := by unfold NmV; decide +kernel
theorem hiX5_goNights_4 : ∀ w ∈ u_ws RX4 TX4 4, w ∈ wsX5_goNights := by decide +kernel
theorem hiX5_goNights_5 : ∀ w ∈ u_ws RX5 TX5 7, w ∈ wsX5_goNights := by decide +kernel
set_option maxHeartbeats 4000000 in
set_option maxRecDepth 100000 in
theorem kX5_goNights (l : Launch) (dC : Nat → ClassId) (dI : Nat → Nat → Nat) (ct : Nat → ClassId) (x st kt sc sh fo bk sp : Nat) (tr b rw : Nat → Nat) (ik zz : Int32) (f g : Nat → Int32) (n : Nat) (hRg : Rg f) (hN : nN f + n ≤ 9999) : MI (S := Unit) l yX5_goNights wsX5_goNights rmX5_goNights dC dI ct eT [.ref x, .int (nI n)] ((x, .inr (5, [.ref st, .ref kt, .int ik, .ref (tr 0), .ref sc, .ref sh, .ref fo])) :: (st, .inr (4, [.ref (b 0), .ref bk, .ref sp, .int zz])) :: (wB ct b f ++ (wR ct bk rw (nI (nN f % 12)) (nI (min 12 (nN f))) g))) (fun _ => (x, .inr (5, [.ref st, .ref kt, .int ik, .ref (tr 0), .ref sc, .ref sh, .ref fo])) :: (st, .inr (4, [.ref (b 0), .ref bk, .ref sp, .int zz])) :: (wB ct b (ngU f n) ++ (wR ct bk rw (nI (nN (ngU f n) % 12)) (nI (min 12 (nN (ngU f n)))) (bkU f g n)))) (fun r _ => r = tkU f n) := by
  refine MI.of (cc := cX5_goNights) (maxL := 7) (ret := (some .int)) (by decide) rfl (Nat.le_of_ble_eq_true rfl) ?_
  intro pg en z mi below meth cd A F hr hlk hin hK hP hD hA hS hE ls hl
  have F : CallFix pg mi cd cX5_goNights 7 z _ wsX5_goNights RX5 := F
  have hl : lv_has ls 7 [(0, .ref x), (1, .int (nI n))] := hl
  refine lv_aload_n F.1 F.2.1 dX5_goNights_0 rfl (lv_at hl 0 rfl) ?_
  refine gf F hK hP 0 rfl rfl hiX5_goNights_5 0 (by decide) (List.mem_of_getElem? (i := 1) rfl) rfl dX5_goNights_1 ?_
  refine gf F hK hP 1 rfl rfl hiX5_goNights_4 0 (by decide) (List.mem_of_getElem? (i := 2) rfl) rfl dX5_goNights_4 ?_
  refine lv_astore_n (lv' := [(2, .ref (b 0)), (0, .ref x), (1, .int (nI n))]) F.1 F.2.1 dX5_goNights_7 rfl hl (by decide) rfl (fun ls hl => ?_)
  refine lv_iconst (v := 0) F.1 F.2.1 dX5_goNights_8 (by decide) ?_
  refine lv_istore_n (lv' := [(3, .int 0), (2, .ref (b 0)), (0, .ref x), (1, .int (nI n))]) F.1 F.2.1 dX5_goNights_9 rfl hl (by decide) rfl (fun ls hl => ?_)
  refine lv_iconst (v := 0) F.1 F.2.1 dX5_goNights_10 (by decide) ?_
  refine lv_istore (lv' := [(4, .int 0), (3, .int 0), (2, .ref (b 0)), (0, .ref x), (1, .int (nI n))]) F.1 F.2.1 dX5_goNights_11 hl (by decide) rfl (fun ls hl => ?_)
  refine loopN (I := fun k H locs ls => va_P (dC, dI) vwCl ((x, .inr (5, [.ref st, .ref kt, .int ik, .ref (tr 0), .ref sc, .ref sh, .ref fo])) :: (st, .inr (4, [.ref (b 0), .ref bk, .ref sp, .int zz])) :: (wB ct b (ngU f k) ++ (wR ct bk rw (nI (nN (ngU f k) % 12)) (nI (min 12 (nN (ngU f k)))) (bkU f g k)))) H ∧ va_D A ((x, .inr (5, [.ref st, .ref kt, .int ik, .ref (tr 0), .ref sc, .ref sh, .ref fo])) :: (st, .inr (4, [.ref (b 0), .ref bk, .ref sp, .int zz])) :: (wB ct b (ngU f k) ++ (wR ct bk rw (nI (nN (ngU f k) % 12)) (nI (min 12 (nN (ngU f k)))) (bkU f g k)))) ∧ va_S A z.heap H locs ∧ lv_has ls 7 [(4, .int (nI k)), (3, .int (tkU f k)), (2, .ref (b 0)), (0, .ref x), (1, .int (nI n))]) n 0 (by omega) ⟨hP, hD, hS, lv_sub hl [0, 1, 2, 3, 4] rfl⟩ (fun H locs ls hI => ?_) (fun k hk_k H locs ls hI ih_13 => ?_)
  · obtain ⟨hP, hD, hS, hl⟩ := hI
    refine lv_iload F.1 F.2.1 dX5_goNights_13 (lv_at hl 0 rfl) ?_
    refine lv_iload_n F.1 F.2.1 dX5_goNights_15 rfl (lv_at hl 4 rfl) ?_
    refine lv_icmp_ge (tgt := 71) F.1 F.2.1 dX5_goNights_16 (by decide) (fun c_16 => ?_) (fun c_16 => ?_)
    · refine lv_iload_n F.1 F.2.1 dX5_goNights_71 rfl (lv_at hl 1 rfl) ?_
      exact rtI () F hr hlk hP hS rfl rfl dX5_goNights_72
    · exact absurd (nI_le (Nat.le_refl _) (by omega)) c_16
  · obtain ⟨hP, hD, hS, hl⟩ := hI
    have hRg2 := (Rg_ngU hRg k (by omega)).1
    have hs := tn_lt (ngU f k)
    refine lv_iload F.1 F.2.1 dX5_goNights_13 (lv_at hl 0 rfl) ?_
    refine lv_iload_n F.1 F.2.1 dX5_goNights_15 rfl (lv_at hl 4 rfl) ?_
    refine lv_icmp_ge (tgt := 71) F.1 F.2.1 dX5_goNights_16 (by decide) (fun c_16 => ?_) (fun c_16 => ?_)
    · exact absurd c_16 (nI_ge hk_k (by omega))
    · refine lv_aload_n F.1 F.2.1 dX5_goNights_19 rfl (lv_at hl 2 rfl) ?_
      refine iV (rest := []) (wsp := fun _ => (x, .inr (5, [.ref st, .ref kt, .int ik, .ref (tr 0), .ref sc, .ref sh, .ref fo])) :: (st, .inr (4, [.ref (b 0), .ref bk, .ref sp, .int zz])) :: (wB ct b (ngU f k) ++ (wR ct bk rw (nI (nN (ngU f k) % 12)) (nI (min 12 (nN (ngU f k)))) (bkU f g k)))) F (kX1_turn l dC dI ct b (ngU f k) hRg2) gX5_goNights_X1_turn rfl ⟨rfl, rfl⟩ nmX1_turn ⟨Nat.le_of_ble_eq_true rfl, Nat.le_of_ble_eq_true rfl⟩ eT_b (fun _ _ _ => trivial) hK hP hD hS hA 2 rfl rfl rfl [2, 3, 4, 5, 6, 7, 8] (by decide) rfl rfl rfl hl.1 (Nat.le_of_ble_eq_true rfl) dX5_goNights_20 ⟨Nat.zero_le _, Nat.zero_le _⟩ (fun _ => rfl) (fun _ => rfl) [x, st, b 0, b 1, b 2, b 3, b 4, b 5, b 6, bk, rw 12, rw 0, rw 1, rw 2, rw 3, rw 4, rw 5, rw 6, rw 7, rw 8, rw 9, rw 10, rw 11] rfl (fun _ => rfl) (fun r_20 u_20 H locs e_20 hP hD hS => ?_)
      obtain rfl := e_20
      refine lv_istore (lv' := [(5, .int (nI (tnF (ngU f k)))), (4, .int (nI k)), (3, .int (tkU f k)), (2, .ref (b 0)), (0, .ref x), (1, .int (nI n))]) F.1 F.2.1 dX5_goNights_23 hl (by decide) rfl (fun ls hl => ?_)
      refine lv_aload_n F.1 F.2.1 dX5_goNights_25 rfl (lv_at hl 3 rfl) ?_
      refine lv_iload F.1 F.2.1 dX5_goNights_26 (lv_at hl 0 rfl) ?_
      refine iV (rest := []) (wsp := fun _ => (x, .inr (5, [.ref st, .ref kt, .int ik, .ref (tr 0), .ref sc, .ref sh, .ref fo])) :: (st, .inr (4, [.ref (b 0), .ref bk, .ref sp, .int zz])) :: (wB ct b (ngU f k) ++ (wR ct bk rw (nI (nN (ngU f k) % 12)) (nI (min 12 (nN (ngU f k)))) (bkU f g k)))) F (kX1_deedOf l dC dI ct b (ngU f k) (tnF (ngU f k)) (by omega) hRg2) gX5_goNights_X1_deedOf rfl ⟨rfl, rfl⟩ nmX1_deedOf ⟨Nat.le_of_ble_eq_true rfl, Nat.le_of_ble_eq_true rfl⟩ eT_b (fun _ _ _ => trivial) hK hP hD hS hA 2 rfl rfl rfl [2, 3, 4, 5, 6, 7, 8] (by decide) rfl rfl rfl hl.1 (Nat.le_of_ble_eq_true rfl) dX5_goNights_28 ⟨Nat.zero_le _, Nat.zero_le _⟩ (fun _ => rfl) (fun _ => rfl) [x, st, b 0, b 1, b 2, b 3, b 4, b 5, b 6, bk, rw 12, rw 0, rw 1, rw 2, rw 3, rw 4, rw 5, rw 6, rw 7, rw 8, rw 9, rw 10, rw 11] rfl (fun _ => rfl) (fun r_28 u_28 H locs e_28 hP hD hS => ?_)
      obtain rfl := e_28
      refine lv_istore (lv' := [(6, .int (deed (ngU f k) (tnF (ngU f k)))), (5, .int (nI (tnF (ngU f k)))), (4, .int (nI k)), (3, .int (tkU f k)), (2, .ref (b 0)), (0, .ref x), (1, .int (nI n))]) F.1 F.2.1 dX5_goNights_31 hl (by decide) rfl (fun ls hl => ?_)
      refine lv_aload_n F.1 F.2.1 dX5_goNights_33 rfl (lv_at hl 5 rfl) ?_
      refine gf F hK hP 0 rfl rfl hiX5_goNights_5 0 (by decide) (List.mem_of_getElem? (i := 1) rfl) rfl dX5_goNights_34 ?_
      refine gf F hK hP 1 rfl rfl hiX5_goNights_4 1 (by decide) (List.mem_of_getElem? (i := 3) rfl) rfl dX5_goNights_37 ?_
      refine lv_aload_n F.1 F.2.1 dX5_goNights_40 rfl (lv_at hl 4 rfl) ?_
      refine lv_iload F.1 F.2.1 dX5_goNights_41 (lv_at hl 1 rfl) ?_
      refine lv_iload F.1 F.2.1 dX5_goNights_43 (lv_at hl 0 rfl) ?_
      refine vV (rest := []) (wsp := fun _ => (x, .inr (5, [.ref st, .ref kt, .int ik, .ref (tr 0), .ref sc, .ref sh, .ref fo])) :: (st, .inr (4, [.ref (b 0), .ref bk, .ref sp, .int zz])) :: (wB ct b (ngU f k) ++ (wR ct bk rw (nI (((nN (ngU f k) % 12) + 1) % 12)) (nI (min 12 ((min 12 (nN (ngU f k))) + 1))) (noF (bkU f g k) (ngU f k) (nN (ngU f k) % 12) (tnF (ngU f k)) (deed (ngU f k) (tnF (ngU f k))))))) F (kX0_note l dC dI ct bk rw b (ngU f k) (bkU f g k) (nN (ngU f k) % 12) (min 12 (nN (ngU f k))) (tnF (ngU f k)) (deed (ngU f k) (tnF (ngU f k))) (by omega) (by omega) (by omega)) gX5_goNights_X0_note rfl ⟨rfl, rfl⟩ nmX0_note ⟨Nat.le_of_ble_eq_true rfl, Nat.le_of_ble_eq_true rfl⟩ eT_b (fun _ _ _ => trivial) hK hP hD hS hA 9 rfl rfl rfl [2, 3, 4, 5, 6, 7, 8, 9, 10, 11, 12, 13, 14, 15, 16, 17, 18, 19, 20, 21, 22] (by decide) rfl rfl rfl hl.1 (Nat.le_of_ble_eq_true rfl) dX5_goNights_45 ⟨Nat.zero_le _, Nat.zero_le _⟩ (fun _ => rfl) (fun _ => by simp only [sA, List.cons_append, List.nil_append, List.set_cons_zero, List.set_cons_succ]) [x, st, b 0, b 1, b 2, b 3, b 4, b 5, b 6, bk, rw 12, rw 0, rw 1, rw 2, rw 3, rw 4, rw 5, rw 6, rw 7, rw 8, rw 9, rw 10, rw 11] rfl (fun _ => rfl) (fun u_45 H locs e_45 hP hD hS => ?_)
      refine lv_aload_n F.1 F.2.1 dX5_goNights_48 rfl (lv_at hl 4 rfl) ?_
      refine lv_iload F.1 F.2.1 dX5_goNights_49 (lv_at hl 1 rfl) ?_
      refine lv_iload F.1 F.2.1 dX5_goNights_51 (lv_at hl 0 rfl) ?_
      refine vV (rest := []) (wsp := fun _ => (x, .inr (5, [.ref st, .ref kt, .int ik, .ref (tr 0), .ref sc, .ref sh, .ref fo])) :: (st, .inr (4, [.ref (b 0), .ref bk, .ref sp, .int zz])) :: (wB ct b (endF (actF (ngU f k) (tnF (ngU f k)) (deed (ngU f k) (tnF (ngU f k))))) ++ (wR ct bk rw (nI (((nN (ngU f k) % 12) + 1) % 12)) (nI (min 12 ((min 12 (nN (ngU f k))) + 1))) (noF (bkU f g k) (ngU f k) (nN (ngU f k) % 12) (tnF (ngU f k)) (deed (ngU f k) (tnF (ngU f k))))))) F (kX1_carryOut l dC dI ct b (ngU f k) (tnF (ngU f k)) (deed (ngU f k) (tnF (ngU f k))) (by omega) (fun h => Exists.elim (les_at hRg2 hs h) (fun t q => ⟨t, q.1, q.2.1⟩))) gX5_goNights_X1_carryOut rfl ⟨rfl, rfl⟩ nmX1_carryOut ⟨Nat.le_of_ble_eq_true rfl, Nat.le_of_ble_eq_true rfl⟩ eT_b (fun _ _ _ => trivial) hK hP hD hS hA 2 rfl rfl rfl [2, 3, 4, 5, 6, 7, 8] (by decide) rfl rfl rfl hl.1 (Nat.le_of_ble_eq_true rfl) dX5_goNights_53 ⟨Nat.zero_le _, Nat.zero_le _⟩ (fun _ => rfl) (fun _ => rfl) [x, st, b 0, b 1, b 2, b 3, b 4, b 5, b 6, bk, rw 12, rw 0, rw 1, rw 2, rw 3, rw 4, rw 5, rw 6, rw 7, rw 8, rw 9, rw 10, rw 11] rfl (fun _ => rfl) (fun u_53 H locs e_53 hP hD hS => ?_)
      refine lv_iload F.1 F.2.1 dX5_goNights_56 (lv_at hl 0 rfl) ?_
      refine lv_iconst (v := 1) F.1 F.2.1 dX5_goNights_58 (by decide) ?_
      refine lv_icmp_ne (tgt := 65) F.1 F.2.1 dX5_goNights_59 (by decide) (fun c_59 => ?_) (fun c_59 => ?_)
      · refine lv_iinc (v := nI (k + 1)) (lv' := [(4, .int (nI (k + 1))), (6, .int (deed (ngU f k) (tnF (ngU f k)))), (5, .int (nI (tnF (ngU f k)))), (3, .int (tkU f k)), (2, .ref (b 0)), (0, .ref x), (1, .int (nI n))]) F.1 F.2.1 dX5_goNights_65 hl (k := 2) rfl (by rw [show Int32.ofInt 1 = nI 1 from rfl, nI_add]) (by decide) rfl (fun ls hl => ?_)
        refine lv_goto (tgt := 13) F.1 F.2.1 dX5_goNights_68 (by decide) ?_
        have hq := weq.c (x := (x, .inr (5, [.ref st, .ref kt, .int ik, .ref (tr 0), .ref sc, .ref sh, .ref fo]))) (weq.c (x := (st, .inr (4, [.ref (b 0), .ref bk, .ref sp, .int zz]))) (weq.app (wB_cong (ct := ct) (a := b) (nite54 (ngU f k))) (weq.rf (wR ct bk rw (nI ((nN (ngU f k) % 12 + 1) % 12)) (nI (min 12 (min 12 (nN (ngU f k)) + 1))) (noF (bkU f g k) (ngU f k) (nN (ngU f k) % 12) (tnF (ngU f k)) (deed (ngU f k) (tnF (ngU f k))))))))
        have hD := hq.D hD
        have hP := hq.P hP
        have en := nN_S hRg (show nN f + k < 9999 by omega)
        rw [show (nN (ngU f k) % 12 + 1) % 12 = nN (ngU f (k + 1)) % 12 by omega, show min 12 (min 12 (nN (ngU f k)) + 1) = min 12 (nN (ngU f (k + 1))) by omega] at hP hD
        have eb : tkU f (k + 1) = tkU f k + 0 := congrArg (tkU f k + ·) (if_neg c_59)
        exact ih_13 _ _ _ ⟨hP, hD, hS, lv_sub hl [0, 3, 4, 5, 6] (by rw [eb, Int32.add_zero]; rfl)⟩
      · refine lv_iinc (v := tkU f k + 1) (lv' := [(3, .int (tkU f k + 1)), (6, .int (deed (ngU f k) (tnF (ngU f k)))), (5, .int (nI (tnF (ngU f k)))), (4, .int (nI k)), (2, .ref (b 0)), (0, .ref x), (1, .int (nI n))]) F.1 F.2.1 dX5_goNights_62 hl (k := 3) rfl rfl (by decide) rfl (fun ls hl => ?_)
        refine lv_iinc (v := nI (k + 1)) (lv' := [(4, .int (nI (k + 1))), (3, .int (tkU f k + 1)), (6, .int (deed (ngU f k) (tnF (ngU f k)))), (5, .int (nI (tnF (ngU f k)))), (2, .ref (b 0)), (0, .ref x), (1, .int (nI n))]) F.1 F.2.1 dX5_goNights_65 hl (k := 3) rfl (by rw [show Int32.ofInt 1 = nI 1 from rfl, nI_add]) (by decide) rfl (fun ls hl => ?_)
        refine lv_goto (tgt := 13) F.1 F.2.1 dX5_goNights_68 (by decide) ?_
        have hq := weq.c (x := (x, .inr (5, [.ref st, .ref kt, .int ik, .ref (tr 0), .ref sc, .ref sh, .ref fo]))) (weq.c (x := (st, .inr (4, [.ref (b 0), .ref bk, .ref sp, .int zz]))) (weq.app (wB_cong (ct := ct) (a := b) (nite54 (ngU f k))) (weq.rf (wR ct bk rw (nI ((nN (ngU f k) % 12 + 1) % 12)) (nI (min 12 (min 12 (nN (ngU f k)) + 1))) (noF (bkU f g k) (ngU f k) (nN (ngU f k) % 12) (tnF (ngU f k)) (deed (ngU f k) (tnF (ngU f k))))))))
        have hD := hq.D hD
        have hP := hq.P hP
        have en := nN_S hRg (show nN f + k < 9999 by omega)
        rw [show (nN (ngU f k) % 12 + 1) % 12 = nN (ngU f (k + 1)) % 12 by omega, show min 12 (min 12 (nN (ngU f k)) + 1) = min 12 (nN (ngU f (k + 1))) by omega] at hP hD
        have eb : tkU f (k + 1) = tkU f k + 1 := congrArg (tkU f k + ·) (if_pos c_59)
        exact ih_13 _ _ _ ⟨hP, hD, hS, lv_sub hl [0, 1, 4, 5, 6] (by rw [eb]; rfl)⟩
