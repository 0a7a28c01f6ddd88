def rmX5_nights : Room := { frames := 6, cells := 0, slots := 0, locals := 136 }
theorem nmX5_nights : NmV yX5_nights RX5 1 := by unfold NmV; decide +kernel
set_option maxHeartbeats 4000000 in
set_option maxRecDepth 100000 in
theorem kX5_nights (l : Launch) (dC : Nat → ClassId) (dI : Nat → Nat → Nat) (ct : Nat → ClassId) (x st kt sc sh fo bk sp : Nat) (tr b rw : Nat → Nat) (ik zz : Int32) (f c g : Nat → Int32) (x1 : Int32) (hRg : Rg f) (hB : BkR f g) (hRB : RB f) : MI (S := (Nat → Int32) × (Nat → Int32) × (Nat → Int32)) l yX5_nights wsX5_nights rmX5_nights dC dI ct eT [.ref x, .int x1] ((x, .inr (5, [.ref st, .ref kt, .int ik, .ref (tr 0), .ref sc, .ref sh, .ref fo])) :: (st, .inr (4, [.ref (b 0), .ref bk, .ref sp, .int zz])) :: (wB ct b f ++ (wR ct bk rw (nI (nN f % 12)) (nI (min 12 (nN f))) g ++ [ai ct fo 7 (fun j => c (j + 1))]))) (fun u => (x, .inr (5, [.ref st, .ref kt, .int ik, .ref (tr 0), .ref sc, .ref sh, .ref fo])) :: (st, .inr (4, [.ref (b 0), .ref bk, .ref sp, .int zz])) :: (wB ct b u.1 ++ (wR ct bk rw (nI (nN u.1 % 12)) (nI (min 12 (nN u.1))) u.2.2 ++ [ai ct fo 7 (fun j => u.2.1 (j + 1))]))) (fun r u => (r, u.1, u.2.1) = sNights f c x1 ∧ BkR u.1 u.2.2) := by
  refine MI.of (cc := cX5_nights) (maxL := 2) (ret := (some .int)) (by decide) rfl (Nat.le_of_ble_eq_true rfl) ?_
  intro pg en z mi below meth cd A F hr hlk hin hK hP hD hA hS hE ls hl
  have F : CallFix pg mi cd cX5_nights 2 z _ wsX5_nights RX5 := F
  have hl : lv_has ls 2 [(0, .ref x), (1, .int x1)] := hl
  refine lv_iload_n F.1 F.2.1 dX5_nights_0 rfl (lv_at hl 1 rfl) ?_
  refine lv_iconst (v := 1) F.1 F.2.1 dX5_nights_1 (by decide) ?_
  refine lv_bipush (v := 60) F.1 F.2.1 dX5_nights_2 (by decide) ?_
  refine iS (rest := []) (wsp := fun _ => (x, .inr (5, [.ref st, .ref kt, .int ik, .ref (tr 0), .ref sc, .ref sh, .ref fo])) :: (st, .inr (4, [.ref (b 0), .ref bk, .ref sp, .int zz])) :: (wB ct b f ++ (wR ct bk rw (nI (nN f % 12)) (nI (min 12 (nN f))) g ++ [ai ct fo 7 (fun j => c (j + 1))]))) F (kX5_isIn l dC dI ct x1 1 60) gX5_nights_X5_isIn rfl ⟨rfl, rfl⟩ nmX5_isIn ⟨Nat.le_of_ble_eq_true rfl, Nat.le_of_ble_eq_true rfl⟩ eT_b (fun _ _ _ => trivial) hK hP hD hS hA [] (by decide) rfl rfl rfl hl.1 (Nat.le_of_ble_eq_true rfl) dX5_nights_4 ⟨Nat.zero_le _, Nat.zero_le _⟩ (fun _ => rfl) (fun _ => rfl) [x, st, b 0, b 1, b 2, b 3, b 4, b 5, b 6, bk, rw 12, rw 0, rw 1, rw 2, rw 3, rw 4, rw 5, rw 6, rw 7, rw 8, rw 9, rw 10, rw 11, fo] rfl (fun _ => rfl) (fun r_4 u_4 H locs e_4 hP hD hS => ?_)
  obtain rfl := e_4
  refine lv_if_ne (tgt := 16) F.1 F.2.1 dX5_nights_7 (by decide) (fun c_7 => ?_) (fun c_7 => ?_)
  · have c_7 : 1 ≤ x1 ∧ x1 ≤ 60 := b01t rfl c_7
    obtain ⟨n, hn1, hn, rfl⟩ := g60_n c_7
    refine lv_aload_n F.1 F.2.1 dX5_nights_16 rfl (lv_at hl 0 rfl) ?_
    refine lv_iload_n F.1 F.2.1 dX5_nights_17 rfl (lv_at hl 1 rfl) ?_
    refine iV (rest := []) (wsp := fun _ => (x, .inr (5, [.ref st, .ref kt, .int ik, .ref (tr 0), .ref sc, .ref sh, .ref fo])) :: (st, .inr (4, [.ref (b 0), .ref bk, .ref sp, .int zz])) :: (wB ct b f ++ (wR ct bk rw (nI (nN f % 12)) (nI (min 12 (nN f))) g ++ [ai ct fo 7 (fun j => c (j + 1))]))) F (kX5_isTooLate l dC dI ct x st kt sc sh fo bk sp tr b ik zz f (nI n)) gX5_nights_X5_isTooLate rfl ⟨rfl, rfl⟩ nmX5_isTooLate ⟨Nat.le_of_ble_eq_true rfl, Nat.le_of_ble_eq_true rfl⟩ eT_b (fun _ _ _ => trivial) hK hP hD hS hA 0 rfl rfl rfl [0, 1, 2, 3, 4, 5, 6, 7, 8] (by decide) rfl rfl rfl hl.1 (Nat.le_of_ble_eq_true rfl) dX5_nights_18 ⟨Nat.zero_le _, Nat.zero_le _⟩ (fun _ => rfl) (fun _ => rfl) [x, st, b 0, b 1, b 2, b 3, b 4, b 5, b 6, bk, rw 12, rw 0, rw 1, rw 2, rw 3, rw 4, rw 5, rw 6, rw 7, rw 8, rw 9, rw 10, rw 11, fo] rfl (fun _ => rfl) (fun r_18 u_18 H locs e_18 hP hD hS => ?_)
    obtain rfl := e_18
    refine lv_if_eq (tgt := 30) F.1 F.2.1 dX5_nights_21 (by decide) (fun c_21 => ?_) (fun c_21 => ?_)
    · have c_21 : ¬ (9999 < f 0 + (nI n)) := b01f rfl c_21
      have hN := late_no hRg (by omega) c_21
      refine lv_aload_n F.1 F.2.1 dX5_nights_30 rfl (lv_at hl 0 rfl) ?_
      refine lv_iload_n F.1 F.2.1 dX5_nights_31 rfl (lv_at hl 1 rfl) ?_
      refine iV (rest := []) (wsp := fun _ => (x, .inr (5, [.ref st, .ref kt, .int ik, .ref (tr 0), .ref sc, .ref sh, .ref fo])) :: (st, .inr (4, [.ref (b 0), .ref bk, .ref sp, .int zz])) :: (wB ct b (ngU f n) ++ (wR ct bk rw (nI (nN (ngU f n) % 12)) (nI (min 12 (nN (ngU f n)))) (bkU f g n) ++ [ai ct fo 7 (fun j => c (j + 1))]))) F (kX5_goNights l dC dI ct x st kt sc sh fo bk sp tr b rw ik zz f g n hRg hN) gX5_nights_X5_goNights rfl ⟨rfl, rfl⟩ nmX5_goNights ⟨Nat.le_of_ble_eq_true rfl, Nat.le_of_ble_eq_true rfl⟩ eT_b (fun _ _ _ => trivial) hK hP hD hS hA 0 rfl rfl rfl [0, 1, 2, 3, 4, 5, 6, 7, 8, 9, 10, 11, 12, 13, 14, 15, 16, 17, 18, 19, 20, 21, 22] (by decide) rfl rfl rfl hl.1 (Nat.le_of_ble_eq_true rfl) dX5_nights_32 ⟨Nat.zero_le _, Nat.zero_le _⟩ (fun _ => rfl) (fun _ => by simp only [sA, List.cons_append, List.nil_append, List.set_cons_zero, List.set_cons_succ]) [x, st, b 0, b 1, b 2, b 3, b 4, b 5, b 6, bk, rw 12, rw 0, rw 1, rw 2, rw 3, rw 4, rw 5, rw 6, rw 7, rw 8, rw 9, rw 10, rw 11, fo] rfl (fun _ => rfl) (fun r_32 u_32 H locs e_32 hP hD hS => ?_)
      obtain rfl := e_32
      exact rtI ((ngU f n), c, (bkU f g n)) F hr hlk hP hS rfl (⟨Eq.trans (by rw [show tn (nI n) = n from nI_clamp (by omega)]; exact (if_neg c_21).symm) (if_pos c_7).symm, (BkR_ngU hRg hB hRB n hN).1⟩) dX5_nights_35
    · have c_21 : 9999 < f 0 + (nI n) := b01t rfl c_21
      refine lv_aload_n F.1 F.2.1 dX5_nights_24 rfl (lv_at hl 0 rfl) ?_
      refine lv_iconst (v := 4) F.1 F.2.1 dX5_nights_25 (by decide) ?_
      refine iV (rest := []) (wsp := fun _ => (x, .inr (5, [.ref st, .ref kt, .int ik, .ref (tr 0), .ref sc, .ref sh, .ref fo])) :: (st, .inr (4, [.ref (b 0), .ref bk, .ref sp, .int zz])) :: (wB ct b f ++ (wR ct bk rw (nI (nN f % 12)) (nI (min 12 (nN f))) g ++ [ai ct fo 7 (fun j => (fnd c 5) (j + 1))]))) F (kX5_finding l dC dI ct x st kt sc sh fo tr ik c 4 5 (-1000005) (by decide) (by decide) (by decide)) gX5_nights_X5_finding rfl ⟨rfl, rfl⟩ nmX5_finding ⟨Nat.le_of_ble_eq_true rfl, Nat.le_of_ble_eq_true rfl⟩ eT_b (fun _ _ _ => trivial) hK hP hD hS hA 0 rfl rfl rfl [0, 23] (by decide) rfl rfl rfl hl.1 (Nat.le_of_ble_eq_true rfl) dX5_nights_26 ⟨Nat.zero_le _, Nat.zero_le _⟩ (fun _ => rfl) (fun _ => rfl) [x, st, b 0, b 1, b 2, b 3, b 4, b 5, b 6, bk, rw 12, rw 0, rw 1, rw 2, rw 3, rw 4, rw 5, rw 6, rw 7, rw 8, rw 9, rw 10, rw 11, fo] rfl (fun _ => rfl) (fun r_26 u_26 H locs e_26 hP hD hS => ?_)
      obtain rfl := e_26
      exact rtI (f, (fnd c 5), g) F hr hlk hP hS rfl (⟨Eq.trans (by rw [show tn (nI n) = n from nI_clamp (by omega)]; exact (if_pos c_21).symm) (if_pos c_7).symm, hB⟩) dX5_nights_29
  · have c_7 : ¬ (1 ≤ x1 ∧ x1 ≤ 60) := b01f rfl c_7
    refine lv_aload_n F.1 F.2.1 dX5_nights_10 rfl (lv_at hl 0 rfl) ?_
    refine lv_iconst (v := 0) F.1 F.2.1 dX5_nights_11 (by decide) ?_
    refine iV (rest := []) (wsp := fun _ => (x, .inr (5, [.ref st, .ref kt, .int ik, .ref (tr 0), .ref sc, .ref sh, .ref fo])) :: (st, .inr (4, [.ref (b 0), .ref bk, .ref sp, .int zz])) :: (wB ct b f ++ (wR ct bk rw (nI (nN f % 12)) (nI (min 12 (nN f))) g ++ [ai ct fo 7 (fun j => (fnd c 1) (j + 1))]))) F (kX5_finding l dC dI ct x st kt sc sh fo tr ik c 0 1 (-1000001) (by decide) (by decide) (by decide)) gX5_nights_X5_finding rfl ⟨rfl, rfl⟩ nmX5_finding ⟨Nat.le_of_ble_eq_true rfl, Nat.le_of_ble_eq_true rfl⟩ eT_b (fun _ _ _ => trivial) hK hP hD hS hA 0 rfl rfl rfl [0, 23] (by decide) rfl rfl rfl hl.1 (Nat.le_of_ble_eq_true rfl) dX5_nights_12 ⟨Nat.zero_le _, Nat.zero_le _⟩ (fun _ => rfl) (fun _ => rfl) [x, st, b 0, b 1, b 2, b 3, b 4, b 5, b 6, bk, rw 12, rw 0, rw 1, rw 2, rw 3, rw 4, rw 5, rw 6, rw 7, rw 8, rw 9, rw 10, rw 11, fo] rfl (fun _ => rfl) (fun r_12 u_12 H locs e_12 hP hD hS => ?_)
    obtain rfl := e_12
    exact rtI (f, (fnd c 1), g) F hr hlk hP hS rfl (⟨(if_neg c_7).symm, hB⟩) dX5_nights_15

def rmX5_now : Room := { frames := 1, cells := 0, slots := 0, locals := 23 }
theorem nmX5_now : NmV yX5_now RX5 1 := by unfold NmV; decide +kernel
theorem hiX5_now_0 : ∀ w ∈ u_ws RX0 TX0 3, w ∈ wsX5_now := by decide +kernel
theorem hiX5_now_1 : ∀ w ∈ u_ws RX1 TX1 10, w ∈ wsX5_now := by decide +kernel
theorem hiX5_now_4 : ∀ w ∈ u_ws RX4 TX4 4, w ∈ wsX5_now := by decide +kernel
theorem hiX5_now_5 : ∀ w ∈ u_ws RX5 TX5 7, w ∈ wsX5_now := by decide +kernel
set_option maxHeartbeats 4000000 in
set_option maxRecDepth 100000 in
theorem kX5_now (l : Launch) (dC : Nat → ClassId) (dI : Nat → Nat → Nat) (ct : Nat → ClassId) (x st kt sc sh fo bk sp : Nat) (tr b rw : Nat → Nat) (ik zz : Int32) (f c g : Nat → Int32) (x1 : Int32) (hRg : Rg f) : MI (S := (Nat → Int32) × (Nat → Int32)) l yX5_now wsX5_now rmX5_now dC dI ct eT [.ref x, .int x1] ((x, .inr (5, [.ref st, .ref kt, .int ik, .ref (tr 0), .ref sc, .ref sh, .ref fo])) :: (st, .inr (4, [.ref (b 0), .ref bk, .ref sp, .int zz])) :: (wB ct b f ++ (wR ct bk rw (nI (nN f % 12)) (nI (min 12 (nN f))) g ++ [ai ct fo 7 (fun j => c (j + 1))]))) (fun u => (x, .inr (5, [.ref st, .ref kt, .int ik, .ref (tr 0), .ref sc, .ref sh, .ref fo])) :: (st, .inr (4, [.ref (b 0), .ref bk, .ref sp, .int zz])) :: (wB ct b u.1 ++ (wR ct bk rw (nI (nN f % 12)) (nI (min 12 (nN f))) g ++ [ai ct fo 7 (fun j => u.2 (j + 1))]))) (fun r u => (r, u.1, u.2) = sNow f c x1) := by
  refine MI.of (cc := cX5_now) (maxL := 3) (ret := (some .int)) (by decide) rfl (Nat.le_of_ble_eq_true rfl) ?_
  intro pg en z mi below meth cd A F hr hlk hin hK hP hD hA hS hE ls hl
  have F : CallFix pg mi cd cX5_now 3 z _ wsX5_now RX5 := F
  have hl : lv_has ls 3 [(0, .ref x), (1, .int x1)] := hl
  refine lv_aload_n F.1 F.2.1 dX5_now_0 rfl (lv_at hl 0 rfl) ?_
  refine gf F hK hP 0 rfl rfl hiX5_now_5 0 (by decide) (List.mem_of_getElem? (i := 1) rfl) rfl dX5_now_1 ?_
  refine gf F hK hP 1 rfl rfl hiX5_now_4 0 (by decide) (List.mem_of_getElem? (i := 2) rfl) rfl dX5_now_4 ?_
  refine lv_astore_n (lv' := [(2, .ref (b 0)), (0, .ref x), (1, .int x1)]) F.1 F.2.1 dX5_now_7 rfl hl (by decide) rfl (fun ls hl => ?_)
  refine lv_iload_n F.1 F.2.1 dX5_now_8 rfl (lv_at hl 2 rfl) ?_
  by_cases k9_0 : x1 = 0
  · refine tp k9_0 ?_
    refine lv_tableIn (x := 0) (tgt := 52) F.1 F.2.1 dX5_now_9 (by decide) (by decide) rfl (by decide) ?_
    refine lv_aload_n F.1 F.2.1 dX5_now_52 rfl (lv_at hl 0 rfl) ?_
    refine gf F hK hP 2 rfl rfl hiX5_now_1 7 (by decide) (List.mem_of_getElem? (i := 3) rfl) rfl dX5_now_53 ?_
    exact rtI (f, c) F hr hlk hP hS rfl (by unfold sNow; rw [if_pos k9_0]) dX5_now_56
  by_cases k9_1 : x1 = 1
  · refine tp k9_1 ?_
    refine lv_tableIn (x := 1) (tgt := 57) F.1 F.2.1 dX5_now_9 (by decide) (by decide) rfl (by decide) ?_
    refine lv_aload_n F.1 F.2.1 dX5_now_57 rfl (lv_at hl 0 rfl) ?_
    refine lv_iconst (v := 0) F.1 F.2.1 dX5_now_58 (by decide) ?_
    refine iV (rest := []) (wsp := fun _ => (x, .inr (5, [.ref st, .ref kt, .int ik, .ref (tr 0), .ref sc, .ref sh, .ref fo])) :: (st, .inr (4, [.ref (b 0), .ref bk, .ref sp, .int zz])) :: (wB ct b f ++ (wR ct bk rw (nI (nN f % 12)) (nI (min 12 (nN f))) g ++ [ai ct fo 7 (fun j => c (j + 1))]))) F (kX1_heapCount l dC dI ct b f 0 (by omega)) gX5_now_X1_heapCount rfl ⟨rfl, rfl⟩ nmX1_heapCount ⟨Nat.le_of_ble_eq_true rfl, Nat.le_of_ble_eq_true rfl⟩ eT_b (fun _ _ _ => trivial) hK hP hD hS hA 2 rfl rfl rfl [2, 3, 4, 5, 6, 7, 8] (by decide) rfl rfl rfl hl.1 (Nat.le_of_ble_eq_true rfl) dX5_now_59 ⟨Nat.zero_le _, Nat.zero_le _⟩ (fun _ => rfl) (fun _ => rfl) [x, st, b 0, b 1, b 2, b 3, b 4, b 5, b 6, bk, rw 12, rw 0, rw 1, rw 2, rw 3, rw 4, rw 5, rw 6, rw 7, rw 8, rw 9, rw 10, rw 11, fo] rfl (fun _ => rfl) (fun r_59 u_59 H locs e_59 hP hD hS => ?_)
    obtain rfl := e_59
    exact rtI (f, c) F hr hlk hP hS rfl (by unfold sNow; rw [if_neg k9_0, if_pos k9_1]) dX5_now_62
  by_cases k9_2 : x1 = 2
  · refine tp k9_2 ?_
    refine lv_tableIn (x := 2) (tgt := 63) F.1 F.2.1 dX5_now_9 (by decide) (by decide) rfl (by decide) ?_
    refine lv_aload_n F.1 F.2.1 dX5_now_63 rfl (lv_at hl 0 rfl) ?_
    refine lv_iconst (v := 1) F.1 F.2.1 dX5_now_64 (by decide) ?_
    refine iV (rest := []) (wsp := fun _ => (x, .inr (5, [.ref st, .ref kt, .int ik, .ref (tr 0), .ref sc, .ref sh, .ref fo])) :: (st, .inr (4, [.ref (b 0), .ref bk, .ref sp, .int zz])) :: (wB ct b f ++ (wR ct bk rw (nI (nN f % 12)) (nI (min 12 (nN f))) g ++ [ai ct fo 7 (fun j => c (j + 1))]))) F (kX1_heapCount l dC dI ct b f 1 (by omega)) gX5_now_X1_heapCount rfl ⟨rfl, rfl⟩ nmX1_heapCount ⟨Nat.le_of_ble_eq_true rfl, Nat.le_of_ble_eq_true rfl⟩ eT_b (fun _ _ _ => trivial) hK hP hD hS hA 2 rfl rfl rfl [2, 3, 4, 5, 6, 7, 8] (by decide) rfl rfl rfl hl.1 (Nat.le_of_ble_eq_true rfl) dX5_now_65 ⟨Nat.zero_le _, Nat.zero_le _⟩ (fun _ => rfl) (fun _ => rfl) [x, st, b 0, b 1, b 2, b 3, b 4, b 5, b 6, bk, rw 12, rw 0, rw 1, rw 2, rw 3, rw 4, rw 5, rw 6, rw 7, rw 8, rw 9, rw 10, rw 11, fo] rfl (fun _ => rfl) (fun r_65 u_65 H locs e_65 hP hD hS => ?_)
    obtain rfl := e_65
    exact rtI (f, c) F hr hlk hP hS rfl (by unfold sNow; rw [if_neg k9_0, if_neg k9_1, if_pos k9_2]) dX5_now_68
  by_cases k9_3 : x1 = 3
  · refine tp k9_3 ?_
    refine lv_tableIn (x := 3) (tgt := 69) F.1 F.2.1 dX5_now_9 (by decide) (by decide) rfl (by decide) ?_
    refine lv_aload_n F.1 F.2.1 dX5_now_69 rfl (lv_at hl 0 rfl) ?_
    refine iV (rest := []) (wsp := fun _ => (x, .inr (5, [.ref st, .ref kt, .int ik, .ref (tr 0), .ref sc, .ref sh, .ref fo])) :: (st, .inr (4, [.ref (b 0), .ref bk, .ref sp, .int zz])) :: (wB ct b f ++ (wR ct bk rw (nI (nN f % 12)) (nI (min 12 (nN f))) g ++ [ai ct fo 7 (fun j => c (j + 1))]))) F (kX1_homeCount l dC dI ct b f) gX5_now_X1_homeCount rfl ⟨rfl, rfl⟩ nmX1_homeCount ⟨Nat.le_of_ble_eq_true rfl, Nat.le_of_ble_eq_true rfl⟩ eT_b (fun _ _ _ => trivial) hK hP hD hS hA 2 rfl rfl rfl [2, 3, 4, 5, 6, 7, 8] (by decide) rfl rfl rfl hl.1 (Nat.le_of_ble_eq_true rfl) dX5_now_70 ⟨Nat.zero_le _, Nat.zero_le _⟩ (fun _ => rfl) (fun _ => rfl) [x, st, b 0, b 1, b 2, b 3, b 4, b 5, b 6, bk, rw 12, rw 0, rw 1, rw 2, rw 3, rw 4, rw 5, rw 6, rw 7, rw 8, rw 9, rw 10, rw 11, fo] rfl (fun _ => rfl) (fun r_70 u_70 H locs e_70 hP hD hS => ?_)
    obtain rfl := e_70
    exact rtI (f, c) F hr hlk hP hS rfl (by unfold sNow; rw [if_neg k9_0, if_neg k9_1, if_neg k9_2, if_pos k9_3, ← hcU_10 f 5 (by omega)]) dX5_now_73
  by_cases k9_4 : x1 = 4
  · refine tp k9_4 ?_
    refine lv_tableIn (x := 4) (tgt := 74) F.1 F.2.1 dX5_now_9 (by decide) (by decide) rfl (by decide) ?_
    refine lv_aload_n F.1 F.2.1 dX5_now_74 rfl (lv_at hl 1 rfl) ?_
    refine gf F hK hP 0 rfl rfl hiX5_now_5 0 (by decide) (List.mem_of_getElem? (i := 1) rfl) rfl dX5_now_75 ?_
    refine gf F hK hP 1 rfl rfl hiX5_now_4 1 (by decide) (List.mem_of_getElem? (i := 4) rfl) rfl dX5_now_78 ?_
    refine gf F hK hP 9 rfl rfl hiX5_now_0 2 (by decide) (List.mem_of_getElem? (i := 5) rfl) rfl dX5_now_81 ?_
    exact rtI (f, c) F hr hlk hP hS rfl (by unfold sNow; rw [if_neg k9_0, if_neg k9_1, if_neg k9_2, if_neg k9_3, if_pos k9_4, mn12 hRg]) dX5_now_84
  by_cases k9_5 : x1 = 5
  · refine tp k9_5 ?_
    refine lv_tableIn (x := 5) (tgt := 85) F.1 F.2.1 dX5_now_9 (by decide) (by decide) rfl (by decide) ?_
    refine lv_aload_n F.1 F.2.1 dX5_now_85 rfl (lv_at hl 0 rfl) ?_
    refine gf F hK hP 2 rfl rfl hiX5_now_1 6 (by decide) (List.mem_of_getElem? (i := 6) rfl) rfl dX5_now_86 ?_
    exact rtI (f, c) F hr hlk hP hS rfl (by unfold sNow; rw [if_neg k9_0, if_neg k9_1, if_neg k9_2, if_neg k9_3, if_neg k9_4, if_pos k9_5]) dX5_now_89
  by_cases k9_6 : x1 = 6
  · refine tp k9_6 ?_
    refine lv_tableIn (x := 6) (tgt := 90) F.1 F.2.1 dX5_now_9 (by decide) (by decide) rfl (by decide) ?_
    refine lv_aload_n F.1 F.2.1 dX5_now_90 rfl (lv_at hl 0 rfl) ?_
    refine gf F hK hP 2 rfl rfl hiX5_now_1 8 (by decide) (List.mem_of_getElem? (i := 7) rfl) rfl dX5_now_91 ?_
    exact rtI (f, c) F hr hlk hP hS rfl (by unfold sNow; rw [if_neg k9_0, if_neg k9_1, if_neg k9_2, if_neg k9_3, if_neg k9_4, if_neg k9_5, if_pos k9_6]) dX5_now_94
  refine lv_tableOut (tgt := 95) F.1 F.2.1 dX5_now_9 (ts_out (fun i h1 h2 => by rcases (show i = 0 ∨ i = 1 ∨ i = 2 ∨ i = 3 ∨ i = 4 ∨ i = 5 ∨ i = 6 by omega) with rfl | rfl | rfl | rfl | rfl | rfl | rfl <;> assumption)) (by decide) ?_
  refine lv_aload_n F.1 F.2.1 dX5_now_95 rfl (lv_at hl 1 rfl) ?_
  refine lv_iconst (v := 0) F.1 F.2.1 dX5_now_96 (by decide) ?_
  refine iV (rest := []) (wsp := fun _ => (x, .inr (5, [.ref st, .ref kt, .int ik, .ref (tr 0), .ref sc, .ref sh, .ref fo])) :: (st, .inr (4, [.ref (b 0), .ref bk, .ref sp, .int zz])) :: (wB ct b f ++ (wR ct bk rw (nI (nN f % 12)) (nI (min 12 (nN f))) g ++ [ai ct fo 7 (fun j => (fnd c 1) (j + 1))]))) F (kX5_finding l dC dI ct x st kt sc sh fo tr ik c 0 1 (-1000001) (by decide) (by decide) (by decide)) gX5_now_X5_finding rfl ⟨rfl, rfl⟩ nmX5_finding ⟨Nat.le_of_ble_eq_true rfl, Nat.le_of_ble_eq_true rfl⟩ eT_b (fun _ _ _ => trivial) hK hP hD hS hA 0 rfl rfl rfl [0, 23] (by decide) rfl rfl rfl hl.1 (Nat.le_of_ble_eq_true rfl) dX5_now_97 ⟨Nat.zero_le _, Nat.zero_le _⟩ (fun _ => rfl) (fun _ => rfl) [x, st, b 0, b 1, b 2, b 3, b 4, b 5, b 6, bk, rw 12, rw 0, rw 1, rw 2, rw 3, rw 4, rw 5, rw 6, rw 7, rw 8, rw 9, rw 10, rw 11, fo] rfl (fun _ => rfl) (fun r_97 u_97 H locs e_97 hP hD hS => ?_)
  obtain rfl := e_97
  exact rtI (f, (fnd c 1)) F hr hlk hP hS rfl (by unfold sNow; rw [if_neg k9_0, if_neg k9_1, if_neg k9_2, if_neg k9_3, if_neg k9_4, if_neg k9_5, if_neg k9_6]; rfl) dX5_now_100

def rmX5_book : Room := { frames := 2, cells := 0, slots := 0, locals := 43 }
theorem nmX5_book : NmV yX5_book RX5 2 := by unfold NmV; decide +kernel
theorem hiX5_book_0 : ∀ w ∈ u_ws RX0 TX0 3, w ∈ wsX5_book := by decide +kernel
theorem hiX5_book_4 : ∀ w ∈ u_ws RX4 TX4 4, w ∈ wsX5_book := by decide +kernel
theorem hiX5_book_5 : ∀ w ∈ u_ws RX5 TX5 7, w ∈ wsX5_book := by decide +kernel
set_option maxHeartbeats 4000000 in
set_option maxRecDepth 100000 in
theorem kX5_book (l : Launch) (dC : Nat → ClassId) (dI : Nat → Nat → Nat) (ct : Nat → ClassId) (x st kt sc sh fo bk sp : Nat) (tr b rw : Nat → Nat) (ik zz : Int32) (f c g : Nat → Int32) (x1 x2 : Int32) (hRg : Rg f) (hB : BkR f g) : MI (S := (Nat → Int32) × (Nat → Int32)) l yX5_book wsX5_book rmX5_book dC dI ct eT [.ref x, .int x1, .int x2] ((x, .inr (5, [.ref st, .ref kt, .int ik, .ref (tr 0), .ref sc, .ref sh, .ref fo])) :: (st, .inr (4, [.ref (b 0), .ref bk, .ref sp, .int zz])) :: (wB ct b f ++ (wR ct bk rw (nI (nN f % 12)) (nI (min 12 (nN f))) g ++ [ai ct fo 7 (fun j => c (j + 1))]))) (fun u => (x, .inr (5, [.ref st, .ref kt, .int ik, .ref (tr 0), .ref sc, .ref sh, .ref fo])) :: (st, .inr (4, [.ref (b 0), .ref bk, .ref sp, .int zz])) :: (wB ct b u.1 ++ (wR ct bk rw (nI (nN f % 12)) (nI (min 12 (nN f))) g ++ [ai ct fo 7 (fun j => u.2 (j + 1))]))) (fun r u => (r, u.1, u.2) = sBook f c x1 x2) := by
  refine MI.of (cc := cX5_book) (maxL := 4) (ret := (some .int)) (by decide) rfl (Nat.le_of_ble_eq_true rfl) ?_
  intro pg en z mi below meth cd A F hr hlk hin hK hP hD hA hS hE ls hl
  have F : CallFix pg mi cd cX5_book 4 z _ wsX5_book RX5 := F
  have hl : lv_has ls 4 [(0, .ref x), (1, .int x1), (2, .int x2)] := hl
  have hn9 := (nN_of hRg).2
  refine lv_iload_n F.1 F.2.1 dX5_book_0 rfl (lv_at hl 1 rfl) ?_
  refine lv_if_lt (tgt := 14) F.1 F.2.1 dX5_book_1 (by decide) (fun c_1 => ?_) (fun c_1 => ?_)
  · refine lv_aload_n F.1 F.2.1 dX5_book_14 rfl (lv_at hl 0 rfl) ?_
    refine lv_iconst (v := 0) F.1 F.2.1 dX5_book_15 (by decide) ?_
    refine iV (rest := []) (wsp := fun _ => (x, .inr (5, [.ref st, .ref kt, .int ik, .ref (tr 0), .ref sc, .ref sh, .ref fo])) :: (st, .inr (4, [.ref (b 0), .ref bk, .ref sp, .int zz])) :: (wB ct b f ++ (wR ct bk rw (nI (nN f % 12)) (nI (min 12 (nN f))) g ++ [ai ct fo 7 (fun j => (fnd c 1) (j + 1))]))) F (kX5_finding l dC dI ct x st kt sc sh fo tr ik c 0 1 (-1000001) (by decide) (by decide) (by decide)) gX5_book_X5_finding rfl ⟨rfl, rfl⟩ nmX5_finding ⟨Nat.le_of_ble_eq_true rfl, Nat.le_of_ble_eq_true rfl⟩ eT_b (fun _ _ _ => trivial) hK hP hD hS hA 0 rfl rfl rfl [0, 23] (by decide) rfl rfl rfl hl.1 (Nat.le_of_ble_eq_true rfl) dX5_book_16 ⟨Nat.zero_le _, Nat.zero_le _⟩ (fun _ => rfl) (fun _ => rfl) [x, st, b 0, b 1, b 2, b 3, b 4, b 5, b 6, bk, rw 12, rw 0, rw 1, rw 2, rw 3, rw 4, rw 5, rw 6, rw 7, rw 8, rw 9, rw 10, rw 11, fo] rfl (fun _ => rfl) (fun r_16 u_16 H locs e_16 hP hD hS => ?_)
    obtain rfl := e_16
    exact rtI (f, (fnd c 1)) F hr hlk hP hS rfl ((if_neg (fun q => absurd q.1 (Int32.not_le.mpr c_1))).symm) dX5_book_19
  · obtain ⟨i, hi, rfl⟩ := nn_of c_1
    refine lv_iload_n F.1 F.2.1 dX5_book_4 rfl (lv_at hl 2 rfl) ?_
    refine lv_iconst (v := 0) F.1 F.2.1 dX5_book_5 (by decide) ?_
    refine lv_bipush (v := 6) F.1 F.2.1 dX5_book_6 (by decide) ?_
    refine iS (rest := []) (wsp := fun _ => (x, .inr (5, [.ref st, .ref kt, .int ik, .ref (tr 0), .ref sc, .ref sh, .ref fo])) :: (st, .inr (4, [.ref (b 0), .ref bk, .ref sp, .int zz])) :: (wB ct b f ++ (wR ct bk rw (nI (nN f % 12)) (nI (min 12 (nN f))) g ++ [ai ct fo 7 (fun j => c (j + 1))]))) F (kX5_isIn l dC dI ct x2 0 6) gX5_book_X5_isIn rfl ⟨rfl, rfl⟩ nmX5_isIn ⟨Nat.le_of_ble_eq_true rfl, Nat.le_of_ble_eq_true rfl⟩ eT_b (fun _ _ _ => trivial) hK hP hD hS hA [] (by decide) rfl rfl rfl hl.1 (Nat.le_of_ble_eq_true rfl) dX5_book_8 ⟨Nat.zero_le _, Nat.zero_le _⟩ (fun _ => rfl) (fun _ => rfl) [x, st, b 0, b 1, b 2, b 3, b 4, b 5, b 6, bk, rw 12, rw 0, rw 1, rw 2, rw 3, rw 4, rw 5, rw 6, rw 7, rw 8, rw 9, rw 10, rw 11, fo] rfl (fun _ => rfl) (fun r_8 u_8 H locs e_8 hP hD hS => ?_)
    obtain rfl := e_8
    refine lv_if_ne (tgt := 20) F.1 F.2.1 dX5_book_11 (by decide) (fun c_11 => ?_) (fun c_11 => ?_)
    · have c_11 : 0 ≤ x2 ∧ x2 ≤ 6 := b01t rfl c_11
      obtain ⟨q, hq, rfl⟩ := g6_n c_11
      refine lv_iload_n F.1 F.2.1 dX5_book_20 rfl (lv_at hl 1 rfl) ?_
      refine lv_aload_n F.1 F.2.1 dX5_book_21 rfl (lv_at hl 0 rfl) ?_
      refine gf F hK hP 0 rfl rfl hiX5_book_5 0 (by decide) (List.mem_of_getElem? (i := 1) rfl) rfl dX5_book_22 ?_
      refine gf F hK hP 1 rfl rfl hiX5_book_4 1 (by decide) (List.mem_of_getElem? (i := 2) rfl) rfl dX5_book_25 ?_
      refine gf F hK hP 9 rfl rfl hiX5_book_0 2 (by decide) (List.mem_of_getElem? (i := 3) rfl) rfl dX5_book_28 ?_
      refine lv_icmp_lt (tgt := 40) F.1 F.2.1 dX5_book_31 (by decide) (fun c_31 => ?_) (fun c_31 => ?_)
      · have hib := lt_of_nI c_31 hi (Nat.min_le_left _ _)
        refine lv_aload_n F.1 F.2.1 dX5_book_40 rfl (lv_at hl 0 rfl) ?_
        refine gf F hK hP 0 rfl rfl hiX5_book_5 0 (by decide) (List.mem_of_getElem? (i := 1) rfl) rfl dX5_book_41 ?_
        refine gf F hK hP 1 rfl rfl hiX5_book_4 1 (by decide) (List.mem_of_getElem? (i := 2) rfl) rfl dX5_book_44 ?_
        refine lv_iload_n F.1 F.2.1 dX5_book_47 rfl (lv_at hl 1 rfl) ?_
        refine rV (rest := []) (wsp := fun _ => (x, .inr (5, [.ref st, .ref kt, .int ik, .ref (tr 0), .ref sc, .ref sh, .ref fo])) :: (st, .inr (4, [.ref (b 0), .ref bk, .ref sp, .int zz])) :: (wB ct b f ++ (wR ct bk rw (nI (nN f % 12)) (nI (min 12 (nN f))) g ++ [ai ct fo 7 (fun j => c (j + 1))]))) F (kX0_latest l dC dI ct bk rw g (nN f % 12) (min 12 (nN f)) i (by omega) (by omega)) gX5_book_X0_latest rfl ⟨rfl, rfl⟩ nmX0_latest ⟨Nat.le_of_ble_eq_true rfl, Nat.le_of_ble_eq_true rfl⟩ eT_b (fun _ _ _ => trivial) hK hP hD hS hA 9 rfl rfl rfl [9, 10, 11, 12, 13, 14, 15, 16, 17, 18, 19, 20, 21, 22] (by decide) rfl rfl rfl hl.1 (Nat.le_of_ble_eq_true rfl) dX5_book_48 ⟨Nat.zero_le _, Nat.zero_le _⟩ (fun _ => rfl) (fun _ => by simp only [sA, List.cons_append, List.nil_append, List.set_cons_zero, List.set_cons_succ]) [x, st, b 0, b 1, b 2, b 3, b 4, b 5, b 6, bk, rw 12, rw 0, rw 1, rw 2, rw 3, rw 4, rw 5, rw 6, rw 7, rw 8, rw 9, rw 10, rw 11, fo] rfl (fun _ => rfl) (fun r_48 u_48 H locs e_48 hP hD hS => ?_)
        obtain rfl := e_48
        have eI : (nN f % 12 + 12 - (i + 1)) % 12 = (nN f - 1 - i) % 12 := by omega
        have hb := hB ((nN f - 1 - i) % 12) (by omega) (by omega)
        refine lv_astore_n (lv' := [(3, .ref (rw (((nN f % 12) + 12 - (i + 1)) % 12))), (0, .ref x), (1, .int (nI i)), (2, .int (nI q))]) F.1 F.2.1 dX5_book_51 rfl hl (by decide) rfl (fun ls hl => ?_)
        refine lv_iload_n F.1 F.2.1 dX5_book_52 rfl (lv_at hl 3 rfl) ?_
        by_cases k53_0 : nI q = 0
        · refine tp k53_0 ?_
          refine lv_lookup (x := 0) (tgt := 80) F.1 F.2.1 dX5_book_53 (by decide) rfl (by decide) ?_
          refine lv_aload_n F.1 F.2.1 dX5_book_80 rfl (lv_at hl 0 rfl) ?_
          refine lv_bipush (v := 13) F.1 F.2.1 dX5_book_81 (by decide) ?_
          refine al (v := g (14 * (((nN f % 12) + 12 - (i + 1)) % 12) + 13)) F hK hP ((((nN f % 12) + 12 - (i + 1)) % 12) + 11) 0 (wR_atp ct bk rw (nI (nN f % 12)) (nI (min 12 (nN f))) g _ (by omega)) rfl 13 rfl (by omega) (by decide) rfl dX5_book_83 ?_
          refine tp (y := f (54 + 13 * ((nN f - 1 - i) % 12))) (by rw [eI]; exact hb.2.2.2.2) ?_
          exact rtI (f, c) F hr hlk hP hS rfl (Eq.trans (by rw [show tn (nI i) = i from nI_clamp hi, show tn (nI q) = q from nI_clamp (by omega), mn12 hRg]; rw [if_neg (nI_ge hib (by omega)), kBook, if_pos (nI_of_eq (b := 0) k53_0 (by omega) (by omega))]) (if_pos ⟨Int32.not_lt.mp c_1, c_11⟩).symm) dX5_book_84
        by_cases k53_1 : nI q = 1
        · refine tp k53_1 ?_
          refine lv_lookup (x := 1) (tgt := 85) F.1 F.2.1 dX5_book_53 (by decide) rfl (by decide) ?_
          refine lv_aload_n F.1 F.2.1 dX5_book_85 rfl (lv_at hl 0 rfl) ?_
          refine lv_bipush (v := 12) F.1 F.2.1 dX5_book_86 (by decide) ?_
          refine al (v := g (14 * (((nN f % 12) + 12 - (i + 1)) % 12) + 12)) F hK hP ((((nN f % 12) + 12 - (i + 1)) % 12) + 11) 0 (wR_atp ct bk rw (nI (nN f % 12)) (nI (min 12 (nN f))) g _ (by omega)) rfl 12 rfl (by omega) (by decide) rfl dX5_book_88 ?_
          refine tp (y := nI ((nN f - 1 - i) % 2)) (by rw [eI, hb.2.2.2.1]; congr 1; omega) ?_
          exact rtI (f, c) F hr hlk hP hS rfl (Eq.trans (by rw [show tn (nI i) = i from nI_clamp hi, show tn (nI q) = q from nI_clamp (by omega), mn12 hRg]; rw [if_neg (nI_ge hib (by omega)), kBook, if_neg (q_ne (m := 0) k53_0), if_pos (nI_of_eq (b := 1) k53_1 (by omega) (by omega))]) (if_pos ⟨Int32.not_lt.mp c_1, c_11⟩).symm) dX5_book_89
        refine lv_lookup (tgt := 90) (off := 37) F.1 F.2.1 dX5_book_53 (by decide) (by show (if (0 : Int) = Int32.toInt (nI q) then (27 : Int) else if (1 : Int) = Int32.toInt (nI q) then (32 : Int) else (37 : Int)) = _; rw [if_neg (ti_ne k53_0), if_neg (ti_ne k53_1)]) (by decide) ?_
        have q0 := q_ne (m := 0) k53_0
        have q1 := q_ne (m := 1) k53_1
        refine lv_aload_n F.1 F.2.1 dX5_book_90 rfl (lv_at hl 0 rfl) ?_
        refine lv_aload_n F.1 F.2.1 dX5_book_91 rfl (lv_at hl 0 rfl) ?_
        refine lv_bipush (v := 12) F.1 F.2.1 dX5_book_92 (by decide) ?_
        refine al (v := g (14 * (((nN f % 12) + 12 - (i + 1)) % 12) + 12)) F hK hP ((((nN f % 12) + 12 - (i + 1)) % 12) + 11) 0 (wR_atp ct bk rw (nI (nN f % 12)) (nI (min 12 (nN f))) g _ (by omega)) rfl 12 rfl (by omega) (by decide) rfl dX5_book_94 ?_
        refine tp (y := nI ((nN f - 1 - i) % 2)) (by rw [eI, hb.2.2.2.1]; congr 1; omega) ?_
        refine lv_iconst (v := 5) F.1 F.2.1 dX5_book_95 (by decide) ?_
        refine lv_imul F.1 F.2.1 dX5_book_96 ?_
        refine tp (y := nI (((nN f - 1 - i) % 2) * 5)) (ml2 (a := ((nN f - 1 - i) % 2)) (b := 5) (c := ((nN f - 1 - i) % 2) * 5) rfl rfl rfl) ?_
        refine lv_iload_n F.1 F.2.1 dX5_book_97 rfl (lv_at hl 3 rfl) ?_
        refine lv_iadd F.1 F.2.1 dX5_book_98 ?_
        refine tp (y := nI (((nN f - 1 - i) % 2) * 5 + q)) (ad2 (a := ((nN f - 1 - i) % 2) * 5) (b := q) (c := ((nN f - 1 - i) % 2) * 5 + q) rfl rfl rfl) ?_
        refine lv_iconst (v := 2) F.1 F.2.1 dX5_book_99 (by decide) ?_
        refine lv_isub F.1 F.2.1 dX5_book_100 ?_
        refine tp (y := nI (((nN f - 1 - i) % 2) * 5 + (q - 2))) (sb2 (a := ((nN f - 1 - i) % 2) * 5 + q) (b := 2) (c := ((nN f - 1 - i) % 2) * 5 + (q - 2)) rfl rfl (by omega)) ?_
        refine al (v := g (14 * (((nN f % 12) + 12 - (i + 1)) % 12) + (((nN f - 1 - i) % 2) * 5 + (q - 2)))) F hK hP ((((nN f % 12) + 12 - (i + 1)) % 12) + 11) 0 (wR_atp ct bk rw (nI (nN f % 12)) (nI (min 12 (nN f))) g _ (by omega)) rfl (((nN f - 1 - i) % 2) * 5 + (q - 2)) rfl (by omega) (by decide) rfl dX5_book_101 ?_
        refine tp (y := f (57 + 13 * ((nN f - 1 - i) % 12) + 5 * ((nN f - 1 - i) % 2) + (q - 2))) (by rw [eI]; exact (hb.1 (((nN f - 1 - i) % 2) * 5 + (q - 2)) (by omega)).trans (congrArg f (by omega))) ?_
        exact rtI (f, c) F hr hlk hP hS rfl (Eq.trans (by rw [show tn (nI i) = i from nI_clamp hi, show tn (nI q) = q from nI_clamp (by omega), mn12 hRg]; rw [if_neg (nI_ge hib (by omega)), kBook, if_neg (q_ne (m := 0) k53_0), if_neg (q_ne (m := 1) k53_1)]) (if_pos ⟨Int32.not_lt.mp c_1, c_11⟩).symm) dX5_book_102
      · refine lv_aload_n F.1 F.2.1 dX5_book_34 rfl (lv_at hl 0 rfl) ?_
        refine lv_iconst (v := 3) F.1 F.2.1 dX5_book_35 (by decide) ?_
        refine iV (rest := []) (wsp := fun _ => (x, .inr (5, [.ref st, .ref kt, .int ik, .ref (tr 0), .ref sc, .ref sh, .ref fo])) :: (st, .inr (4, [.ref (b 0), .ref bk, .ref sp, .int zz])) :: (wB ct b f ++ (wR ct bk rw (nI (nN f % 12)) (nI (min 12 (nN f))) g ++ [ai ct fo 7 (fun j => (fnd c 4) (j + 1))]))) F (kX5_finding l dC dI ct x st kt sc sh fo tr ik c 3 4 (-1000004) (by decide) (by decide) (by decide)) gX5_book_X5_finding rfl ⟨rfl, rfl⟩ nmX5_finding ⟨Nat.le_of_ble_eq_true rfl, Nat.le_of_ble_eq_true rfl⟩ eT_b (fun _ _ _ => trivial) hK hP hD hS hA 0 rfl rfl rfl [0, 23] (by decide) rfl rfl rfl hl.1 (Nat.le_of_ble_eq_true rfl) dX5_book_36 ⟨Nat.zero_le _, Nat.zero_le _⟩ (fun _ => rfl) (fun _ => rfl) [x, st, b 0, b 1, b 2, b 3, b 4, b 5, b 6, bk, rw 12, rw 0, rw 1, rw 2, rw 3, rw 4, rw 5, rw 6, rw 7, rw 8, rw 9, rw 10, rw 11, fo] rfl (fun _ => rfl) (fun r_36 u_36 H locs e_36 hP hD hS => ?_)
        obtain rfl := e_36
        exact rtI (f, (fnd c 4)) F hr hlk hP hS rfl (Eq.trans (by rw [show tn (nI i) = i from nI_clamp hi, show tn (nI q) = q from nI_clamp (by omega), mn12 hRg]; rw [if_pos (Int32.not_lt.mp c_31)]; rfl) (if_pos ⟨Int32.not_lt.mp c_1, c_11⟩).symm) dX5_book_39
    · have c_11 : ¬ (0 ≤ x2 ∧ x2 ≤ 6) := b01f rfl c_11
      refine lv_aload_n F.1 F.2.1 dX5_book_14 rfl (lv_at hl 0 rfl) ?_
      refine lv_iconst (v := 0) F.1 F.2.1 dX5_book_15 (by decide) ?_
      refine iV (rest := []) (wsp := fun _ => (x, .inr (5, [.ref st, .ref kt, .int ik, .ref (tr 0), .ref sc, .ref sh, .ref fo])) :: (st, .inr (4, [.ref (b 0), .ref bk, .ref sp, .int zz])) :: (wB ct b f ++ (wR ct bk rw (nI (nN f % 12)) (nI (min 12 (nN f))) g ++ [ai ct fo 7 (fun j => (fnd c 1) (j + 1))]))) F (kX5_finding l dC dI ct x st kt sc sh fo tr ik c 0 1 (-1000001) (by decide) (by decide) (by decide)) gX5_book_X5_finding rfl ⟨rfl, rfl⟩ nmX5_finding ⟨Nat.le_of_ble_eq_true rfl, Nat.le_of_ble_eq_true rfl⟩ eT_b (fun _ _ _ => trivial) hK hP hD hS hA 0 rfl rfl rfl [0, 23] (by decide) rfl rfl rfl hl.1 (Nat.le_of_ble_eq_true rfl) dX5_book_16 ⟨Nat.zero_le _, Nat.zero_le _⟩ (fun _ => rfl) (fun _ => rfl) [x, st, b 0, b 1, b 2, b 3, b 4, b 5, b 6, bk, rw 12, rw 0, rw 1, rw 2, rw 3, rw 4, rw 5, rw 6, rw 7, rw 8, rw 9, rw 10, rw 11, fo] rfl (fun _ => rfl) (fun r_16 u_16 H locs e_16 hP hD hS => ?_)
      obtain rfl := e_16
      exact rtI (f, (fnd c 1)) F hr hlk hP hS rfl ((if_neg (fun q => c_11 q.2)).symm) dX5_book_19

def rmX4_copyFrom : Room := { frames := 2, cells := 0, slots := 0, locals := 82 }
theorem nmX4_copyFrom : NmV yX4_copyFrom RX4 1 := by unfold NmV; decide +kernel
theorem hiX4_copyFrom_4 : ∀ w ∈ u_ws RX4 TX4 4, w ∈ wsX4_copyFrom := by decide +kernel
set_option maxHeartbeats 4000000 in
set_option maxRecDepth 100000 in
theorem kX4_copyFrom (l : Launch) (dC : Nat → ClassId) (dI : Nat → Nat → Nat) (ct : Nat → ClassId) (st kt bk sp ek es : Nat) (b rw e ew : Nat → Nat) (zz z2 : Int32) (f g p q : Nat → Int32) (nx sz mx my : Nat) : MV (S := Unit) l yX4_copyFrom wsX4_copyFrom rmX4_copyFrom dC dI ct eT [.ref st, .ref kt] ((st, .inr (4, [.ref (b 0), .ref bk, .ref sp, .int zz])) :: wB ct b f ++ (wR ct bk rw (nI nx) (nI sz) g ++ (ai ct sp 10 (fun j => f (5 + j)) :: (kt, .inr (4, [.ref (e 0), .ref ek, .ref es, .int z2])) :: (wB ct e p ++ (wR ct ek ew (nI mx) (nI my) q ++ [ai ct es 10 (fun j => p (5 + j))]))))) (fun _ => (st, .inr (4, [.ref (b 0), .ref bk, .ref sp, .int z2])) :: wB ct b p ++ (wR ct bk rw (nI mx) (nI my) q ++ (ai ct sp 10 (fun j => p (5 + j)) :: (kt, .inr (4, [.ref (e 0), .ref ek, .ref es, .int z2])) :: (wB ct e p ++ (wR ct ek ew (nI mx) (nI my) q ++ [ai ct es 10 (fun j => p (5 + j))]))))) (fun _ => True) := by
  refine MV.of (cc := cX4_copyFrom) (maxL := 2) (ret := none) (by decide) rfl (Nat.le_of_ble_eq_true rfl) ?_
  intro pg en z mi below meth cd A F hr hlk hin hK hP hD hA hS hE ls hl
  have F : CallFix pg mi cd cX4_copyFrom 2 z _ wsX4_copyFrom RX4 := F
  have hl : lv_has ls 2 [(0, .ref st), (1, .ref kt)] := hl
  refine lv_aload_n F.1 F.2.1 dX4_copyFrom_0 rfl (lv_at hl 0 rfl) ?_
  refine gf F hK hP 0 rfl rfl hiX4_copyFrom_4 0 (by decide) (List.mem_of_getElem? (i := 1) rfl) rfl dX4_copyFrom_1 ?_
  refine lv_aload_n F.1 F.2.1 dX4_copyFrom_4 rfl (lv_at hl 1 rfl) ?_
  refine gf F hK hP 23 rfl rfl hiX4_copyFrom_4 0 (by decide) (List.mem_of_getElem? (i := 1) rfl) rfl dX4_copyFrom_5 ?_
  refine vV (rest := []) (wsp := fun _ => (st, .inr (4, [.ref (b 0), .ref bk, .ref sp, .int zz])) :: wB ct b p ++ (wR ct bk rw (nI nx) (nI sz) g ++ (ai ct sp 10 (fun j => f (5 + j)) :: (kt, .inr (4, [.ref (e 0), .ref ek, .ref es, .int z2])) :: (wB ct e p ++ (wR ct ek ew (nI mx) (nI my) q ++ [ai ct es 10 (fun j => p (5 + j))]))))) F (kX1_copyFrom l dC dI ct b e p f) gX4_copyFrom_X1_copyFrom rfl ⟨rfl, rfl⟩ nmX1_copyFrom ⟨Nat.le_of_ble_eq_true rfl, Nat.le_of_ble_eq_true rfl⟩ eT_b (fun _ _ _ => trivial) hK hP hD hS hA 1 rfl rfl rfl [1, 2, 3, 4, 5, 6, 7, 24, 25, 26, 27, 28, 29, 30] (by decide) rfl rfl rfl hl.1 (Nat.le_of_ble_eq_true rfl) dX4_copyFrom_8 ⟨Nat.zero_le _, Nat.zero_le _⟩ (fun _ => rfl) (fun _ => by simp only [sA, List.cons_append, List.nil_append, List.set_cons_zero, List.set_cons_succ]) [st, b 0, b 1, b 2, b 3, b 4, b 5, b 6, bk, rw 12, rw 0, rw 1, rw 2, rw 3, rw 4, rw 5, rw 6, rw 7, rw 8, rw 9, rw 10, rw 11, sp, kt, e 0, e 1, e 2, e 3, e 4, e 5, e 6, ek, ew 12, ew 0, ew 1, ew 2, ew 3, ew 4, ew 5, ew 6, ew 7, ew 8, ew 9, ew 10, ew 11, es] rfl (fun _ => rfl) (fun u_8 H locs e_8 hP hD hS => ?_)
  refine lv_aload_n F.1 F.2.1 dX4_copyFrom_11 rfl (lv_at hl 0 rfl) ?_
  refine gf F hK hP 0 rfl rfl hiX4_copyFrom_4 1 (by decide) (List.mem_of_getElem? (i := 2) rfl) rfl dX4_copyFrom_12 ?_
  refine lv_aload_n F.1 F.2.1 dX4_copyFrom_15 rfl (lv_at hl 1 rfl) ?_
  refine gf F hK hP 23 rfl rfl hiX4_copyFrom_4 1 (by decide) (List.mem_of_getElem? (i := 2) rfl) rfl dX4_copyFrom_16 ?_
  refine vV (rest := []) (wsp := fun _ => (st, .inr (4, [.ref (b 0), .ref bk, .ref sp, .int zz])) :: wB ct b p ++ (wR ct bk rw (nI mx) (nI my) (cpB g q 12) ++ (ai ct sp 10 (fun j => f (5 + j)) :: (kt, .inr (4, [.ref (e 0), .ref ek, .ref es, .int z2])) :: (wB ct e p ++ (wR ct ek ew (nI mx) (nI my) q ++ [ai ct es 10 (fun j => p (5 + j))]))))) F (kX0_copyFrom l dC dI ct bk rw g nx sz ek ew q mx my) gX4_copyFrom_X0_copyFrom rfl ⟨rfl, rfl⟩ nmX0_copyFrom ⟨Nat.le_of_ble_eq_true rfl, Nat.le_of_ble_eq_true rfl⟩ eT_b (fun _ _ _ => trivial) hK hP hD hS hA 8 rfl rfl rfl [8, 9, 10, 11, 12, 13, 14, 15, 16, 17, 18, 19, 20, 21, 31, 32, 33, 34, 35, 36, 37, 38, 39, 40, 41, 42, 43, 44] (by decide) rfl rfl rfl hl.1 (Nat.le_of_ble_eq_true rfl) dX4_copyFrom_19 ⟨Nat.zero_le _, Nat.zero_le _⟩ (fun _ => rfl) (fun _ => by simp only [sA, List.cons_append, List.nil_append, List.set_cons_zero, List.set_cons_succ]) [st, b 0, b 1, b 2, b 3, b 4, b 5, b 6, bk, rw 12, rw 0, rw 1, rw 2, rw 3, rw 4, rw 5, rw 6, rw 7, rw 8, rw 9, rw 10, rw 11, sp, kt, e 0, e 1, e 2, e 3, e 4, e 5, e 6, ek, ew 12, ew 0, ew 1, ew 2, ew 3, ew 4, ew 5, ew 6, ew 7, ew 8, ew 9, ew 10, ew 11, es] rfl (fun _ => rfl) (fun u_19 H locs e_19 hP hD hS => ?_)
  have hq := weq.c (x := (st, .inr (4, [.ref (b 0), .ref bk, .ref sp, .int zz]))) (weq.app (weq.rf (wB ct b p)) (weq.app (wR_cong (ct := ct) (bk := bk) (rw := rw) (nx := nI mx) (sz := nI my) (fun j hj => cpB_12 g q hj)) (weq.rf (ai ct sp 10 (fun j => f (5 + j)) :: (kt, .inr (4, [.ref (e 0), .ref ek, .ref es, .int z2])) :: (wB ct e p ++ (wR ct ek ew (nI mx) (nI my) q ++ [ai ct es 10 (fun j => p (5 + j))]))))))
  have hP := hq.P hP
  have hD := hq.D hD
  refine lv_aload_n F.1 F.2.1 dX4_copyFrom_22 rfl (lv_at hl 1 rfl) ?_
  refine gf F hK hP 23 rfl rfl hiX4_copyFrom_4 2 (by decide) (List.mem_of_getElem? (i := 3) rfl) rfl dX4_copyFrom_23 ?_
  refine lv_iconst (v := 0) F.1 F.2.1 dX4_copyFrom_26 (by decide) ?_
  refine lv_aload_n F.1 F.2.1 dX4_copyFrom_27 rfl (lv_at hl 0 rfl) ?_
  refine gf F hK hP 0 rfl rfl hiX4_copyFrom_4 2 (by decide) (List.mem_of_getElem? (i := 3) rfl) rfl dX4_copyFrom_28 ?_
  refine lv_iconst (v := 0) F.1 F.2.1 dX4_copyFrom_31 (by decide) ?_
  refine lv_bipush (v := 10) F.1 F.2.1 dX4_copyFrom_32 (by decide) ?_
  refine cpy (ws' := (st, .inr (4, [.ref (b 0), .ref bk, .ref sp, .int zz])) :: wB ct b p ++ (wR ct bk rw (nI mx) (nI my) q ++ (ai ct sp 10 (fun j => p (5 + j)) :: (kt, .inr (4, [.ref (e 0), .ref ek, .ref es, .int z2])) :: (wB ct e p ++ (wR ct ek ew (nI mx) (nI my) q ++ [ai ct es 10 (fun j => p (5 + j))]))))) F hl.1 (F.2.2.2.2 _ (List.mem_of_getElem? (i := 4) rfl)) (F.2.2.2.2 _ (List.mem_of_getElem? (i := 5) rfl)) (F.2.2.2.2 _ (List.mem_of_getElem? (i := 6) rfl)) (F.2.2.2.2 _ (List.mem_of_getElem? (i := 7) rfl)) hK hP hD hS 45 22 0 0 rfl rfl rfl rfl (by decide) 0 0 10 rfl rfl rfl (by omega) (by omega) (Nat.le_of_ble_eq_true rfl) (by decide +kernel) dX4_copyFrom_34 (weq.c (weq_ar (x := wB ct b p) (j := 14) rfl (weq_ar (x := wR ct bk rw (nI mx) (nI my) q) (j := 0) rfl (weq_al (x := [ai ct sp 10 (fun j => f (5 + j))]) (j := 0) (Nat.le_of_ble_eq_true rfl) (weq.cons (ceq.arr (fun j hj => sb_cpy0 hj)) weq.nil))))) (fun H locs hP hD hS => ?_)
  refine lv_aload_n F.1 F.2.1 dX4_copyFrom_37 rfl (lv_at hl 0 rfl) ?_
  refine lv_aload_n F.1 F.2.1 dX4_copyFrom_38 rfl (lv_at hl 1 rfl) ?_
  refine gf F hK hP 23 rfl rfl hiX4_copyFrom_4 3 (by decide) (List.mem_of_getElem? (i := 8) rfl) rfl dX4_copyFrom_39 ?_
  refine pf (ws' := (st, .inr (4, [.ref (b 0), .ref bk, .ref sp, .int z2])) :: wB ct b p ++ (wR ct bk rw (nI mx) (nI my) q ++ (ai ct sp 10 (fun j => p (5 + j)) :: (kt, .inr (4, [.ref (e 0), .ref ek, .ref es, .int z2])) :: (wB ct e p ++ (wR ct ek ew (nI mx) (nI my) q ++ [ai ct es 10 (fun j => p (5 + j))]))))) F hK hP hD hS 0 rfl rfl hiX4_copyFrom_4 tyX4 tyX4_ok nmX4 3 (by decide) (List.mem_of_getElem? (i := 8) rfl) rfl rfl rfl (Nat.le_of_ble_eq_true rfl) dX4_copyFrom_42 (weq.rf _) (fun H locs hP hD hS => ?_)
  exact rtV () F hr hlk hP hS rfl trivial dX4_copyFrom_45

def rmX5_image : Room := { frames := 3, cells := 0, slots := 0, locals := 103 }
theorem nmX5_image : NmV yX5_image RX5 0 := by unfold NmV; decide +kernel
theorem hiX5_image_5 : ∀ w ∈ u_ws RX5 TX5 7, w ∈ wsX5_image := by decide +kernel
set_option maxHeartbeats 4000000 in
set_option maxRecDepth 100000 in
theorem kX5_image (l : Launch) (dC : Nat → ClassId) (dI : Nat → Nat → Nat) (ct : Nat → ClassId) (x st kt sc sh fo bk sp ek es : Nat) (tr b rw e ew : Nat → Nat) (ik zz z2 : Int32) (f g p q : Nat → Int32) (nx sz mx my : Nat) : MI (S := Unit) l yX5_image wsX5_image rmX5_image dC dI ct eT [.ref x] ((x, .inr (5, [.ref st, .ref kt, .int ik, .ref (tr 0), .ref sc, .ref sh, .ref fo])) :: (st, .inr (4, [.ref (b 0), .ref bk, .ref sp, .int zz])) :: wB ct b f ++ (wR ct bk rw (nI nx) (nI sz) g ++ (ai ct sp 10 (fun j => f (5 + j)) :: (kt, .inr (4, [.ref (e 0), .ref ek, .ref es, .int z2])) :: (wB ct e p ++ (wR ct ek ew (nI mx) (nI my) q ++ [ai ct es 10 (fun j => p (5 + j))]))))) (fun _ => (x, .inr (5, [.ref st, .ref kt, .int 1, .ref (tr 0), .ref sc, .ref sh, .ref fo])) :: (st, .inr (4, [.ref (b 0), .ref bk, .ref sp, .int zz])) :: wB ct b f ++ (wR ct bk rw (nI nx) (nI sz) g ++ (ai ct sp 10 (fun j => f (5 + j)) :: (kt, .inr (4, [.ref (e 0), .ref ek, .ref es, .int zz])) :: (wB ct e f ++ (wR ct ek ew (nI nx) (nI sz) g ++ [ai ct es 10 (fun j => f (5 + j))]))))) (fun r _ => r = 1) := by
  refine MI.of (cc := cX5_image) (maxL := 1) (ret := (some .int)) (by decide) rfl (Nat.le_of_ble_eq_true rfl) ?_
  intro pg en z mi below meth cd A F hr hlk hin hK hP hD hA hS hE ls hl
  have F : CallFix pg mi cd cX5_image 1 z _ wsX5_image RX5 := F
  have hl : lv_has ls 1 [(0, .ref x)] := hl
  refine lv_aload_n F.1 F.2.1 dX5_image_0 rfl (lv_at hl 0 rfl) ?_
  refine gf F hK hP 0 rfl rfl hiX5_image_5 1 (by decide) (List.mem_of_getElem? (i := 1) rfl) rfl dX5_image_1 ?_
  refine lv_aload_n F.1 F.2.1 dX5_image_4 rfl (lv_at hl 0 rfl) ?_
  refine gf F hK hP 0 rfl rfl hiX5_image_5 0 (by decide) (List.mem_of_getElem? (i := 2) rfl) rfl dX5_image_5 ?_
  refine vV (rest := []) (wsp := fun _ => (x, .inr (5, [.ref st, .ref kt, .int ik, .ref (tr 0), .ref sc, .ref sh, .ref fo])) :: (st, .inr (4, [.ref (b 0), .ref bk, .ref sp, .int zz])) :: wB ct b f ++ (wR ct bk rw (nI nx) (nI sz) g ++ (ai ct sp 10 (fun j => f (5 + j)) :: (kt, .inr (4, [.ref (e 0), .ref ek, .ref es, .int zz])) :: (wB ct e f ++ (wR ct ek ew (nI nx) (nI sz) g ++ [ai ct es 10 (fun j => f (5 + j))]))))) F (kX4_copyFrom l dC dI ct kt st ek es bk sp e ew b rw z2 zz p q f g mx my nx sz) gX5_image_X4_copyFrom rfl ⟨rfl, rfl⟩ nmX4_copyFrom ⟨Nat.le_of_ble_eq_true rfl, Nat.le_of_ble_eq_true rfl⟩ eT_b (fun _ _ _ => trivial) hK hP hD hS hA 24 rfl rfl rfl [24, 25, 26, 27, 28, 29, 30, 31, 32, 33, 34, 35, 36, 37, 38, 39, 40, 41, 42, 43, 44, 45, 46, 1, 2, 3, 4, 5, 6, 7, 8, 9, 10, 11, 12, 13, 14, 15, 16, 17, 18, 19, 20, 21, 22, 23] (by decide) rfl rfl rfl hl.1 (Nat.le_of_ble_eq_true rfl) dX5_image_8 ⟨Nat.zero_le _, Nat.zero_le _⟩ (fun _ => rfl) (fun _ => by simp only [sA, List.cons_append, List.nil_append, List.set_cons_zero, List.set_cons_succ]) [x, st, b 0, b 1, b 2, b 3, b 4, b 5, b 6, bk, rw 12, rw 0, rw 1, rw 2, rw 3, rw 4, rw 5, rw 6, rw 7, rw 8, rw 9, rw 10, rw 11, sp, kt, e 0, e 1, e 2, e 3, e 4, e 5, e 6, ek, ew 12, ew 0, ew 1, ew 2, ew 3, ew 4, ew 5, ew 6, ew 7, ew 8, ew 9, ew 10, ew 11, es] rfl (fun _ => rfl) (fun u_8 H locs e_8 hP hD hS => ?_)
  refine lv_aload_n F.1 F.2.1 dX5_image_11 rfl (lv_at hl 0 rfl) ?_
  refine lv_iconst (v := 1) F.1 F.2.1 dX5_image_12 (by decide) ?_
  refine pf (ws' := (x, .inr (5, [.ref st, .ref kt, .int 1, .ref (tr 0), .ref sc, .ref sh, .ref fo])) :: (st, .inr (4, [.ref (b 0), .ref bk, .ref sp, .int zz])) :: wB ct b f ++ (wR ct bk rw (nI nx) (nI sz) g ++ (ai ct sp 10 (fun j => f (5 + j)) :: (kt, .inr (4, [.ref (e 0), .ref ek, .ref es, .int zz])) :: (wB ct e f ++ (wR ct ek ew (nI nx) (nI sz) g ++ [ai ct es 10 (fun j => f (5 + j))]))))) F hK hP hD hS 0 rfl rfl hiX5_image_5 tyX5 tyX5_ok nmX5 2 (by decide) (List.mem_of_getElem? (i := 3) rfl) rfl rfl rfl (Nat.le_of_ble_eq_true rfl) dX5_image_13 (weq.rf _) (fun H locs hP hD hS => ?_)
  refine lv_iconst (v := 1) F.1 F.2.1 dX5_image_16 (by decide) ?_
  exact rtI () F hr hlk hP hS rfl rfl dX5_image_17

def rmX5_undo : Room := { frames := 3, cells := 0, slots := 0, locals := 103 }
theorem nmX5_undo : NmV yX5_undo RX5 0 := by unfold NmV; decide +kernel
theorem hiX5_undo_1 : ∀ w ∈ u_ws RX1 TX1 10, w ∈ wsX5_undo := by decide +kernel
theorem hiX5_undo_4 : ∀ w ∈ u_ws RX4 TX4 4, w ∈ wsX5_undo := by decide +kernel
theorem hiX5_undo_5 : ∀ w ∈ u_ws RX5 TX5 7, w ∈ wsX5_undo := by decide +kernel
set_option maxHeartbeats 4000000 in
set_option maxRecDepth 100000 in
theorem kX5_undo (l : Launch) (dC : Nat → ClassId) (dI : Nat → Nat → Nat) (ct : Nat → ClassId) (x st kt sc sh fo bk sp ek es : Nat) (tr b rw e ew : Nat → Nat) (ik zz z2 : Int32) (f g p q c : Nat → Int32) (nx sz mx my : Nat) : MI (S := Int32 × (Nat → Int32) × Nat × Nat × (Nat → Int32) × (Nat → Int32)) l yX5_undo wsX5_undo rmX5_undo dC dI ct eT [.ref x] ((x, .inr (5, [.ref st, .ref kt, .int ik, .ref (tr 0), .ref sc, .ref sh, .ref fo])) :: (st, .inr (4, [.ref (b 0), .ref bk, .ref sp, .int zz])) :: wB ct b f ++ (wR ct bk rw (nI nx) (nI sz) g ++ (ai ct sp 10 (fun j => f (5 + j)) :: ai ct fo 7 (fun j => c (j + 1)) :: (kt, .inr (4, [.ref (e 0), .ref ek, .ref es, .int z2])) :: (wB ct e p ++ (wR ct ek ew (nI mx) (nI my) q ++ [ai ct es 10 (fun j => p (5 + j))]))))) (fun u => (x, .inr (5, [.ref st, .ref kt, .int ik, .ref (tr 0), .ref sc, .ref sh, .ref fo])) :: (st, .inr (4, [.ref (b 0), .ref bk, .ref sp, .int u.1])) :: wB ct b u.2.1 ++ (wR ct bk rw (nI u.2.2.1) (nI u.2.2.2.1) u.2.2.2.2.1 ++ (ai ct sp 10 (fun j => u.2.1 (5 + j)) :: ai ct fo 7 (fun j => u.2.2.2.2.2 (j + 1)) :: (kt, .inr (4, [.ref (e 0), .ref ek, .ref es, .int z2])) :: (wB ct e p ++ (wR ct ek ew (nI mx) (nI my) q ++ [ai ct es 10 (fun j => p (5 + j))]))))) (fun r u => ik = 0 ∧ r = -1000004 ∧ u = (zz, f, nx, sz, g, fnd c 4) ∨ ¬ ik = 0 ∧ r = p 0 ∧ u = (z2, p, mx, my, q, c)) := by
  refine MI.of (cc := cX5_undo) (maxL := 1) (ret := (some .int)) (by decide) rfl (Nat.le_of_ble_eq_true rfl) ?_
  intro pg en z mi below meth cd A F hr hlk hin hK hP hD hA hS hE ls hl
  have F : CallFix pg mi cd cX5_undo 1 z _ wsX5_undo RX5 := F
  have hl : lv_has ls 1 [(0, .ref x)] := hl
  refine lv_aload_n F.1 F.2.1 dX5_undo_0 rfl (lv_at hl 0 rfl) ?_
  refine gf F hK hP 0 rfl rfl hiX5_undo_5 2 (by decide) (List.mem_of_getElem? (i := 1) rfl) rfl dX5_undo_1 ?_
  refine lv_if_ne (tgt := 13) F.1 F.2.1 dX5_undo_4 (by decide) (fun c_4 => ?_) (fun c_4 => ?_)
  · refine lv_aload_n F.1 F.2.1 dX5_undo_13 rfl (lv_at hl 0 rfl) ?_
    refine gf F hK hP 0 rfl rfl hiX5_undo_5 0 (by decide) (List.mem_of_getElem? (i := 2) rfl) rfl dX5_undo_14 ?_
    refine lv_aload_n F.1 F.2.1 dX5_undo_17 rfl (lv_at hl 0 rfl) ?_
    refine gf F hK hP 0 rfl rfl hiX5_undo_5 1 (by decide) (List.mem_of_getElem? (i := 3) rfl) rfl dX5_undo_18 ?_
    refine vV (rest := []) (wsp := fun _ => (x, .inr (5, [.ref st, .ref kt, .int ik, .ref (tr 0), .ref sc, .ref sh, .ref fo])) :: (st, .inr (4, [.ref (b 0), .ref bk, .ref sp, .int z2])) :: wB ct b p ++ (wR ct bk rw (nI mx) (nI my) q ++ (ai ct sp 10 (fun j => p (5 + j)) :: ai ct fo 7 (fun j => c (j + 1)) :: (kt, .inr (4, [.ref (e 0), .ref ek, .ref es, .int z2])) :: (wB ct e p ++ (wR ct ek ew (nI mx) (nI my) q ++ [ai ct es 10 (fun j => p (5 + j))]))))) F (kX4_copyFrom l dC dI ct st kt bk sp ek es b rw e ew zz z2 f g p q nx sz mx my) gX5_undo_X4_copyFrom rfl ⟨rfl, rfl⟩ nmX4_copyFrom ⟨Nat.le_of_ble_eq_true rfl, Nat.le_of_ble_eq_true rfl⟩ eT_b (fun _ _ _ => trivial) hK hP hD hS hA 1 rfl rfl rfl [1, 2, 3, 4, 5, 6, 7, 8, 9, 10, 11, 12, 13, 14, 15, 16, 17, 18, 19, 20, 21, 22, 23, 25, 26, 27, 28, 29, 30, 31, 32, 33, 34, 35, 36, 37, 38, 39, 40, 41, 42, 43, 44, 45, 46, 47] (by decide) rfl rfl rfl hl.1 (Nat.le_of_ble_eq_true rfl) dX5_undo_21 ⟨Nat.zero_le _, Nat.zero_le _⟩ (fun _ => rfl) (fun _ => by simp only [sA, List.cons_append, List.nil_append, List.set_cons_zero, List.set_cons_succ]) [x, st, b 0, b 1, b 2, b 3, b 4, b 5, b 6, bk, rw 12, rw 0, rw 1, rw 2, rw 3, rw 4, rw 5, rw 6, rw 7, rw 8, rw 9, rw 10, rw 11, sp, fo, kt, e 0, e 1, e 2, e 3, e 4, e 5, e 6, ek, ew 12, ew 0, ew 1, ew 2, ew 3, ew 4, ew 5, ew 6, ew 7, ew 8, ew 9, ew 10, ew 11, es] rfl (fun _ => rfl) (fun u_21 H locs e_21 hP hD hS => ?_)
    refine lv_aload_n F.1 F.2.1 dX5_undo_24 rfl (lv_at hl 0 rfl) ?_
    refine gf F hK hP 0 rfl rfl hiX5_undo_5 0 (by decide) (List.mem_of_getElem? (i := 2) rfl) rfl dX5_undo_25 ?_
    refine gf F hK hP 1 rfl rfl hiX5_undo_4 0 (by decide) (List.mem_of_getElem? (i := 4) rfl) rfl dX5_undo_28 ?_
    refine gf F hK hP 2 rfl rfl hiX5_undo_1 7 (by decide) (List.mem_of_getElem? (i := 5) rfl) rfl dX5_undo_31 ?_
    exact rtI (z2, p, mx, my, q, c) F hr hlk hP hS rfl (Or.inr ⟨c_4, rfl, rfl⟩) dX5_undo_34
  · refine lv_aload_n F.1 F.2.1 dX5_undo_7 rfl (lv_at hl 0 rfl) ?_
    refine lv_iconst (v := 3) F.1 F.2.1 dX5_undo_8 (by decide) ?_
    refine iV (rest := []) (wsp := fun _ => (x, .inr (5, [.ref st, .ref kt, .int ik, .ref (tr 0), .ref sc, .ref sh, .ref fo])) :: (st, .inr (4, [.ref (b 0), .ref bk, .ref sp, .int zz])) :: wB ct b f ++ (wR ct bk rw (nI nx) (nI sz) g ++ (ai ct sp 10 (fun j => f (5 + j)) :: ai ct fo 7 (fun j => (fnd c 4) (j + 1)) :: (kt, .inr (4, [.ref (e 0), .ref ek, .ref es, .int z2])) :: (wB ct e p ++ (wR ct ek ew (nI mx) (nI my) q ++ [ai ct es 10 (fun j => p (5 + j))]))))) F (kX5_finding l dC dI ct x st kt sc sh fo tr ik c 3 4 (-1000004) (by decide) (by decide) (by decide)) gX5_undo_X5_finding rfl ⟨rfl, rfl⟩ nmX5_finding ⟨Nat.le_of_ble_eq_true rfl, Nat.le_of_ble_eq_true rfl⟩ eT_b (fun _ _ _ => trivial) hK hP hD hS hA 0 rfl rfl rfl [0, 24] (by decide) rfl rfl rfl hl.1 (Nat.le_of_ble_eq_true rfl) dX5_undo_9 ⟨Nat.zero_le _, Nat.zero_le _⟩ (fun _ => rfl) (fun _ => rfl) [x, st, b 0, b 1, b 2, b 3, b 4, b 5, b 6, bk, rw 12, rw 0, rw 1, rw 2, rw 3, rw 4, rw 5, rw 6, rw 7, rw 8, rw 9, rw 10, rw 11, sp, fo, kt, e 0, e 1, e 2, e 3, e 4, e 5, e 6, ek, ew 12, ew 0, ew 1, ew 2, ew 3, ew 4, ew 5, ew 6, ew 7, ew 8, ew 9, ew 10, ew 11, es] rfl (fun _ => rfl) (fun r_9 u_9 H locs e_9 hP hD hS => ?_)
    obtain rfl := e_9
    exact rtI (zz, f, nx, sz, g, fnd c 4) F hr hlk hP hS rfl (Or.inl ⟨c_4, rfl, rfl⟩) dX5_undo_12
