def rmX5_isTooLate : Room := { frames := 0, cells := 0, slots := 0, locals := 0 }
theorem nmX5_isTooLate : NmV yX5_isTooLate RX5 1 := by unfold NmV; decide +kernel
theorem hiX5_isTooLate_1 : ∀ w ∈ u_ws RX1 TX1 10, w ∈ wsX5_isTooLate := by decide +kernel
theorem hiX5_isTooLate_4 : ∀ w ∈ u_ws RX4 TX4 4, w ∈ wsX5_isTooLate := by decide +kernel
theorem hiX5_isTooLate_5 : ∀ w ∈ u_ws RX5 TX5 7, w ∈ wsX5_isTooLate := by decide +kernel
set_option maxHeartbeats 4000000 in
set_option maxRecDepth 100000 in
theorem kX5_isTooLate (l : Launch) (dC : Nat → ClassId) (dI : Nat → Nat → Nat) (ct : Nat → ClassId) (x st kt sc sh fo bk sp : Nat) (tr b : Nat → Nat) (ik zz : Int32) (f : Nat → Int32) (n : Int32) : MI (S := Unit) l yX5_isTooLate wsX5_isTooLate rmX5_isTooLate dC dI ct eT [.ref x, .int n] ((x, .inr (5, [.ref st, .ref kt, .int ik, .ref (tr 0), .ref sc, .ref sh, .ref fo])) :: (st, .inr (4, [.ref (b 0), .ref bk, .ref sp, .int zz])) :: wB ct b f) (fun _ => (x, .inr (5, [.ref st, .ref kt, .int ik, .ref (tr 0), .ref sc, .ref sh, .ref fo])) :: (st, .inr (4, [.ref (b 0), .ref bk, .ref sp, .int zz])) :: wB ct b f) (fun r _ => r = if 9999 < f 0 + n then 1 else 0) := by
  refine MI.of (cc := cX5_isTooLate) (maxL := 2) (ret := (some .boolean)) (by decide) rfl (Nat.le_of_ble_eq_true rfl) ?_
  intro pg en z mi below meth cd A F hr hlk hin hK hP hD hA hS hE ls hl
  have F : CallFix pg mi cd cX5_isTooLate 2 z _ wsX5_isTooLate RX5 := F
  have hl : lv_has ls 2 [(0, .ref x), (1, .int n)] := hl
  refine lv_aload_n F.1 F.2.1 dX5_isTooLate_0 rfl (lv_at hl 0 rfl) ?_
  refine gf F hK hP 0 rfl rfl hiX5_isTooLate_5 0 (by decide) (List.mem_of_getElem? (i := 1) rfl) rfl dX5_isTooLate_1 ?_
  refine gf F hK hP 1 rfl rfl hiX5_isTooLate_4 0 (by decide) (List.mem_of_getElem? (i := 2) rfl) rfl dX5_isTooLate_4 ?_
  refine gf F hK hP 2 rfl rfl hiX5_isTooLate_1 7 (by decide) (List.mem_of_getElem? (i := 3) rfl) rfl dX5_isTooLate_7 ?_
  refine lv_iload_n F.1 F.2.1 dX5_isTooLate_10 rfl (lv_at hl 1 rfl) ?_
  refine lv_iadd F.1 F.2.1 dX5_isTooLate_11 ?_
  refine lv_sipush (v := 9999) F.1 F.2.1 dX5_isTooLate_12 (by decide) ?_
  refine lv_icmp_le (tgt := 22) F.1 F.2.1 dX5_isTooLate_15 (by decide) (fun c_15 => ?_) (fun c_15 => ?_)
  · refine lv_iconst (v := 0) F.1 F.2.1 dX5_isTooLate_22 (by decide) ?_
    exact rtZ () F hr hlk hP hS rfl (by simp [c_15, Int32.not_lt.mpr c_15]) (Or.inl rfl) dX5_isTooLate_23
  · refine lv_iconst (v := 1) F.1 F.2.1 dX5_isTooLate_18 (by decide) ?_
    refine lv_goto (tgt := 23) F.1 F.2.1 dX5_isTooLate_19 (by decide) ?_
    exact rtZ () F hr hlk hP hS rfl (by simp [c_15, Int32.not_le.mp c_15]) (Or.inr rfl) dX5_isTooLate_23

def rmX5_ahead : Room := { frames := 6, cells := 0, slots := 0, locals := 135 }
theorem nmX5_ahead : NmV yX5_ahead RX5 2 := by unfold NmV; decide +kernel
theorem hiX5_ahead_1 : ∀ w ∈ u_ws RX1 TX1 10, w ∈ wsX5_ahead := by decide +kernel
theorem hiX5_ahead_4 : ∀ w ∈ u_ws RX4 TX4 4, w ∈ wsX5_ahead := by decide +kernel
theorem hiX5_ahead_5 : ∀ w ∈ u_ws RX5 TX5 7, w ∈ wsX5_ahead := by decide +kernel
set_option maxHeartbeats 4000000 in
set_option maxRecDepth 100000 in
theorem kX5_ahead (l : Launch) (dC : Nat → ClassId) (dI : Nat → Nat → Nat) (ct : Nat → ClassId) (x st kt sc sh fo bk sp : Nat) (tr b : Nat → Nat) (ik zz : Int32) (f c w : Nat → Int32) (x1 x2 : Int32) (hRg : Rg f) : MI (S := (Nat → Int32) × (Nat → Int32) × (Nat → Int32)) l yX5_ahead wsX5_ahead rmX5_ahead dC dI ct eT [.ref x, .int x1, .int x2] ((x, .inr (5, [.ref st, .ref kt, .int ik, .ref (tr 0), .ref sc, .ref sh, .ref fo])) :: (st, .inr (4, [.ref (b 0), .ref bk, .ref sp, .int zz])) :: (wB ct b f ++ (wB ct tr w ++ [ai ct fo 7 (fun j => c (j + 1))]))) (fun u => (x, .inr (5, [.ref st, .ref kt, .int ik, .ref (tr 0), .ref sc, .ref sh, .ref fo])) :: (st, .inr (4, [.ref (b 0), .ref bk, .ref sp, .int zz])) :: (wB ct b u.1 ++ (wB ct tr u.2.2 ++ [ai ct fo 7 (fun j => u.2.1 (j + 1))]))) (fun r u => (r, u.1, u.2.1) = sAhead f c x1 x2) := by
  refine MI.of (cc := cX5_ahead) (maxL := 4) (ret := (some .int)) (by decide) rfl (Nat.le_of_ble_eq_true rfl) ?_
  intro pg en z mi below meth cd A F hr hlk hin hK hP hD hA hS hE ls hl
  have F : CallFix pg mi cd cX5_ahead 4 z _ wsX5_ahead RX5 := F
  have hl : lv_has ls 4 [(0, .ref x), (1, .int x1), (2, .int x2)] := hl
  refine lv_iload_n F.1 F.2.1 dX5_ahead_0 rfl (lv_at hl 1 rfl) ?_
  refine lv_iconst (v := 0) F.1 F.2.1 dX5_ahead_1 (by decide) ?_
  refine lv_bipush (v := 60) F.1 F.2.1 dX5_ahead_2 (by decide) ?_
  refine iS (rest := []) (wsp := fun _ => (x, .inr (5, [.ref st, .ref kt, .int ik, .ref (tr 0), .ref sc, .ref sh, .ref fo])) :: (st, .inr (4, [.ref (b 0), .ref bk, .ref sp, .int zz])) :: (wB ct b f ++ (wB ct tr w ++ [ai ct fo 7 (fun j => c (j + 1))]))) F (kX5_isIn l dC dI ct x1 0 60) gX5_ahead_X5_isIn rfl ⟨rfl, rfl⟩ nmX5_isIn ⟨Nat.le_of_ble_eq_true rfl, Nat.le_of_ble_eq_true rfl⟩ eT_b (fun _ _ _ => trivial) hK hP hD hS hA [] (by decide) rfl rfl rfl hl.1 (Nat.le_of_ble_eq_true rfl) dX5_ahead_4 ⟨Nat.zero_le _, Nat.zero_le _⟩ (fun _ => rfl) (fun _ => rfl) [x, st, b 0, b 1, b 2, b 3, b 4, b 5, b 6, tr 0, tr 1, tr 2, tr 3, tr 4, tr 5, tr 6, fo] rfl (fun _ => rfl) (fun r_4 u_4 H locs e_4 hP hD hS => ?_)
  obtain rfl := e_4
  refine lv_if_eq (tgt := 19) F.1 F.2.1 dX5_ahead_7 (by decide) (fun c_7 => ?_) (fun c_7 => ?_)
  · have c_7 : ¬ (0 ≤ x1 ∧ x1 ≤ 60) := b01f rfl c_7
    refine lv_aload_n F.1 F.2.1 dX5_ahead_19 rfl (lv_at hl 0 rfl) ?_
    refine lv_iconst (v := 0) F.1 F.2.1 dX5_ahead_20 (by decide) ?_
    refine iV (rest := []) (wsp := fun _ => (x, .inr (5, [.ref st, .ref kt, .int ik, .ref (tr 0), .ref sc, .ref sh, .ref fo])) :: (st, .inr (4, [.ref (b 0), .ref bk, .ref sp, .int zz])) :: (wB ct b f ++ (wB ct tr w ++ [ai ct fo 7 (fun j => (fnd c 1) (j + 1))]))) F (kX5_finding l dC dI ct x st kt sc sh fo tr ik c 0 1 (-1000001) (by decide) (by decide) (by decide)) gX5_ahead_X5_finding rfl ⟨rfl, rfl⟩ nmX5_finding ⟨Nat.le_of_ble_eq_true rfl, Nat.le_of_ble_eq_true rfl⟩ eT_b (fun _ _ _ => trivial) hK hP hD hS hA 0 rfl rfl rfl [0, 16] (by decide) rfl rfl rfl hl.1 (Nat.le_of_ble_eq_true rfl) dX5_ahead_21 ⟨Nat.zero_le _, Nat.zero_le _⟩ (fun _ => rfl) (fun _ => rfl) [x, st, b 0, b 1, b 2, b 3, b 4, b 5, b 6, tr 0, tr 1, tr 2, tr 3, tr 4, tr 5, tr 6, fo] rfl (fun _ => rfl) (fun r_21 u_21 H locs e_21 hP hD hS => ?_)
    obtain rfl := e_21
    exact rtI (f, (fnd c 1), w) F hr hlk hP hS rfl ((if_neg (fun q => c_7 q.1)).symm) dX5_ahead_24
  · have c_7 : 0 ≤ x1 ∧ x1 ≤ 60 := b01t rfl c_7
    obtain ⟨n, hn, rfl⟩ := g060_n c_7
    refine lv_iload_n F.1 F.2.1 dX5_ahead_10 rfl (lv_at hl 2 rfl) ?_
    refine lv_iconst (v := 0) F.1 F.2.1 dX5_ahead_11 (by decide) ?_
    refine lv_iconst (v := 4) F.1 F.2.1 dX5_ahead_12 (by decide) ?_
    refine iS (rest := []) (wsp := fun _ => (x, .inr (5, [.ref st, .ref kt, .int ik, .ref (tr 0), .ref sc, .ref sh, .ref fo])) :: (st, .inr (4, [.ref (b 0), .ref bk, .ref sp, .int zz])) :: (wB ct b f ++ (wB ct tr w ++ [ai ct fo 7 (fun j => c (j + 1))]))) F (kX5_isIn l dC dI ct x2 0 4) gX5_ahead_X5_isIn rfl ⟨rfl, rfl⟩ nmX5_isIn ⟨Nat.le_of_ble_eq_true rfl, Nat.le_of_ble_eq_true rfl⟩ eT_b (fun _ _ _ => trivial) hK hP hD hS hA [] (by decide) rfl rfl rfl hl.1 (Nat.le_of_ble_eq_true rfl) dX5_ahead_13 ⟨Nat.zero_le _, Nat.zero_le _⟩ (fun _ => rfl) (fun _ => rfl) [x, st, b 0, b 1, b 2, b 3, b 4, b 5, b 6, tr 0, tr 1, tr 2, tr 3, tr 4, tr 5, tr 6, fo] rfl (fun _ => rfl) (fun r_13 u_13 H locs e_13 hP hD hS => ?_)
    obtain rfl := e_13
    refine lv_if_ne (tgt := 25) F.1 F.2.1 dX5_ahead_16 (by decide) (fun c_16 => ?_) (fun c_16 => ?_)
    · have c_16 : 0 ≤ x2 ∧ x2 ≤ 4 := b01t rfl c_16
      obtain ⟨q, hq, rfl⟩ := gT_n c_16
      refine lv_aload_n F.1 F.2.1 dX5_ahead_25 rfl (lv_at hl 0 rfl) ?_
      refine lv_iload_n F.1 F.2.1 dX5_ahead_26 rfl (lv_at hl 1 rfl) ?_
      refine iV (rest := []) (wsp := fun _ => (x, .inr (5, [.ref st, .ref kt, .int ik, .ref (tr 0), .ref sc, .ref sh, .ref fo])) :: (st, .inr (4, [.ref (b 0), .ref bk, .ref sp, .int zz])) :: (wB ct b f ++ (wB ct tr w ++ [ai ct fo 7 (fun j => c (j + 1))]))) F (kX5_isTooLate l dC dI ct x st kt sc sh fo bk sp tr b ik zz f (nI n)) gX5_ahead_X5_isTooLate rfl ⟨rfl, rfl⟩ nmX5_isTooLate ⟨Nat.le_of_ble_eq_true rfl, Nat.le_of_ble_eq_true rfl⟩ eT_b (fun _ _ _ => trivial) hK hP hD hS hA 0 rfl rfl rfl [0, 1, 2, 3, 4, 5, 6, 7, 8] (by decide) rfl rfl rfl hl.1 (Nat.le_of_ble_eq_true rfl) dX5_ahead_27 ⟨Nat.zero_le _, Nat.zero_le _⟩ (fun _ => rfl) (fun _ => rfl) [x, st, b 0, b 1, b 2, b 3, b 4, b 5, b 6, tr 0, tr 1, tr 2, tr 3, tr 4, tr 5, tr 6, fo] rfl (fun _ => rfl) (fun r_27 u_27 H locs e_27 hP hD hS => ?_)
      obtain rfl := e_27
      refine lv_if_eq (tgt := 39) F.1 F.2.1 dX5_ahead_30 (by decide) (fun c_30 => ?_) (fun c_30 => ?_)
      · have c_30 : ¬ (9999 < f 0 + (nI n)) := b01f rfl c_30
        have hN := late_no hRg (by omega) c_30
        refine lv_aload_n F.1 F.2.1 dX5_ahead_39 rfl (lv_at hl 0 rfl) ?_
        refine gf F hK hP 0 rfl rfl hiX5_ahead_5 3 (by decide) (List.mem_of_getElem? (i := 1) rfl) rfl dX5_ahead_40 ?_
        refine lv_aload_n F.1 F.2.1 dX5_ahead_43 rfl (lv_at hl 0 rfl) ?_
        refine gf F hK hP 0 rfl rfl hiX5_ahead_5 0 (by decide) (List.mem_of_getElem? (i := 2) rfl) rfl dX5_ahead_44 ?_
        refine gf F hK hP 1 rfl rfl hiX5_ahead_4 0 (by decide) (List.mem_of_getElem? (i := 3) rfl) rfl dX5_ahead_47 ?_
        refine vV (rest := []) (wsp := fun _ => (x, .inr (5, [.ref st, .ref kt, .int ik, .ref (tr 0), .ref sc, .ref sh, .ref fo])) :: (st, .inr (4, [.ref (b 0), .ref bk, .ref sp, .int zz])) :: (wB ct b f ++ (wB ct tr f ++ [ai ct fo 7 (fun j => c (j + 1))]))) F (kX1_copyFrom l dC dI ct tr b f w) gX5_ahead_X1_copyFrom rfl ⟨rfl, rfl⟩ nmX1_copyFrom ⟨Nat.le_of_ble_eq_true rfl, Nat.le_of_ble_eq_true rfl⟩ eT_b (fun _ _ _ => trivial) hK hP hD hS hA 9 rfl rfl rfl [9, 10, 11, 12, 13, 14, 15, 2, 3, 4, 5, 6, 7, 8] (by decide) rfl rfl rfl hl.1 (Nat.le_of_ble_eq_true rfl) dX5_ahead_50 ⟨Nat.zero_le _, Nat.zero_le _⟩ (fun _ => rfl) (fun _ => rfl) [x, st, b 0, b 1, b 2, b 3, b 4, b 5, b 6, tr 0, tr 1, tr 2, tr 3, tr 4, tr 5, tr 6, fo] rfl (fun _ => rfl) (fun u_50 H locs e_50 hP hD hS => ?_)
        refine lv_aload_n F.1 F.2.1 dX5_ahead_53 rfl (lv_at hl 0 rfl) ?_
        refine gf F hK hP 0 rfl rfl hiX5_ahead_5 3 (by decide) (List.mem_of_getElem? (i := 1) rfl) rfl dX5_ahead_54 ?_
        refine lv_iload_n F.1 F.2.1 dX5_ahead_57 rfl (lv_at hl 1 rfl) ?_
        refine iV (rest := []) (wsp := fun _ => (x, .inr (5, [.ref st, .ref kt, .int ik, .ref (tr 0), .ref sc, .ref sh, .ref fo])) :: (st, .inr (4, [.ref (b 0), .ref bk, .ref sp, .int zz])) :: (wB ct b f ++ (wB ct tr (ngU f n) ++ [ai ct fo 7 (fun j => c (j + 1))]))) F (kX1_passNights l dC dI ct tr f n (by omega) (fun k hk => Rg_all hRg hN k hk)) gX5_ahead_X1_passNights rfl ⟨rfl, rfl⟩ nmX1_passNights ⟨Nat.le_of_ble_eq_true rfl, Nat.le_of_ble_eq_true rfl⟩ eT_b (fun _ _ _ => trivial) hK hP hD hS hA 9 rfl rfl rfl [9, 10, 11, 12, 13, 14, 15] (by decide) rfl rfl rfl hl.1 (Nat.le_of_ble_eq_true rfl) dX5_ahead_58 ⟨Nat.zero_le _, Nat.zero_le _⟩ (fun _ => rfl) (fun _ => rfl) [x, st, b 0, b 1, b 2, b 3, b 4, b 5, b 6, tr 0, tr 1, tr 2, tr 3, tr 4, tr 5, tr 6, fo] rfl (fun _ => rfl) (fun r_58 u_58 H locs e_58 hP hD hS => ?_)
        obtain rfl := e_58
        refine lv_istore_n (lv' := [(3, .int (tkU f n)), (0, .ref x), (1, .int (nI n)), (2, .int (nI q))]) F.1 F.2.1 dX5_ahead_61 rfl hl (by decide) rfl (fun ls hl => ?_)
        refine lv_iload_n F.1 F.2.1 dX5_ahead_62 rfl (lv_at hl 3 rfl) ?_
        by_cases k63_0 : nI q = 0
        · refine tp k63_0 ?_
          refine lv_tableIn (x := 0) (tgt := 88) F.1 F.2.1 dX5_ahead_63 (by decide) (by decide) rfl (by decide) ?_
          refine lv_iload_n F.1 F.2.1 dX5_ahead_88 rfl (lv_at hl 0 rfl) ?_
          exact rtI (f, c, (ngU f n)) F hr hlk hP hS rfl (Eq.trans (by rw [show tn (nI n) = n from nI_clamp (by omega)]; unfold kAhead; rw [if_neg c_30, aheA, if_pos k63_0]) (if_pos ⟨c_7, c_16⟩).symm) dX5_ahead_89
        by_cases k63_1 : nI q = 1
        · refine tp k63_1 ?_
          refine lv_tableIn (x := 1) (tgt := 90) F.1 F.2.1 dX5_ahead_63 (by decide) (by decide) rfl (by decide) ?_
          refine lv_aload_n F.1 F.2.1 dX5_ahead_90 rfl (lv_at hl 1 rfl) ?_
          refine gf F hK hP 0 rfl rfl hiX5_ahead_5 3 (by decide) (List.mem_of_getElem? (i := 1) rfl) rfl dX5_ahead_91 ?_
          refine lv_iconst (v := 0) F.1 F.2.1 dX5_ahead_94 (by decide) ?_
          refine iV (rest := []) (wsp := fun _ => (x, .inr (5, [.ref st, .ref kt, .int ik, .ref (tr 0), .ref sc, .ref sh, .ref fo])) :: (st, .inr (4, [.ref (b 0), .ref bk, .ref sp, .int zz])) :: (wB ct b f ++ (wB ct tr (ngU f n) ++ [ai ct fo 7 (fun j => c (j + 1))]))) F (kX1_heapCount l dC dI ct tr (ngU f n) 0 (by omega)) gX5_ahead_X1_heapCount rfl ⟨rfl, rfl⟩ nmX1_heapCount ⟨Nat.le_of_ble_eq_true rfl, Nat.le_of_ble_eq_true rfl⟩ eT_b (fun _ _ _ => trivial) hK hP hD hS hA 9 rfl rfl rfl [9, 10, 11, 12, 13, 14, 15] (by decide) rfl rfl rfl hl.1 (Nat.le_of_ble_eq_true rfl) dX5_ahead_95 ⟨Nat.zero_le _, Nat.zero_le _⟩ (fun _ => rfl) (fun _ => rfl) [x, st, b 0, b 1, b 2, b 3, b 4, b 5, b 6, tr 0, tr 1, tr 2, tr 3, tr 4, tr 5, tr 6, fo] rfl (fun _ => rfl) (fun r_95 u_95 H locs e_95 hP hD hS => ?_)
          obtain rfl := e_95
          refine lv_aload_n F.1 F.2.1 dX5_ahead_98 rfl (lv_at hl 1 rfl) ?_
          refine gf F hK hP 0 rfl rfl hiX5_ahead_5 3 (by decide) (List.mem_of_getElem? (i := 1) rfl) rfl dX5_ahead_99 ?_
          refine lv_iconst (v := 1) F.1 F.2.1 dX5_ahead_102 (by decide) ?_
          refine iV (rest := [.int (sumU (ngU f n) (27 + 17 * 0) 5)]) (wsp := fun _ => (x, .inr (5, [.ref st, .ref kt, .int ik, .ref (tr 0), .ref sc, .ref sh, .ref fo])) :: (st, .inr (4, [.ref (b 0), .ref bk, .ref sp, .int zz])) :: (wB ct b f ++ (wB ct tr (ngU f n) ++ [ai ct fo 7 (fun j => c (j + 1))]))) F (kX1_heapCount l dC dI ct tr (ngU f n) 1 (by omega)) gX5_ahead_X1_heapCount rfl ⟨rfl, rfl⟩ nmX1_heapCount ⟨Nat.le_of_ble_eq_true rfl, Nat.le_of_ble_eq_true rfl⟩ eT_b (fun _ _ _ => trivial) hK hP hD hS hA 9 rfl rfl rfl [9, 10, 11, 12, 13, 14, 15] (by decide) rfl rfl rfl hl.1 (Nat.le_of_ble_eq_true rfl) dX5_ahead_103 ⟨Nat.zero_le _, Nat.zero_le _⟩ (fun _ => rfl) (fun _ => rfl) [x, st, b 0, b 1, b 2, b 3, b 4, b 5, b 6, tr 0, tr 1, tr 2, tr 3, tr 4, tr 5, tr 6, fo] rfl (fun _ => rfl) (fun r_103 u_103 H locs e_103 hP hD hS => ?_)
          obtain rfl := e_103
          refine lv_iadd F.1 F.2.1 dX5_ahead_106 ?_
          exact rtI (f, c, (ngU f n)) F hr hlk hP hS rfl (Eq.trans (by rw [show tn (nI n) = n from nI_clamp (by omega)]; unfold kAhead; rw [if_neg c_30, aheA, if_neg k63_0, if_pos k63_1]) (if_pos ⟨c_7, c_16⟩).symm) dX5_ahead_107
        by_cases k63_2 : nI q = 2
        · refine tp k63_2 ?_
          refine lv_tableIn (x := 2) (tgt := 108) F.1 F.2.1 dX5_ahead_63 (by decide) (by decide) rfl (by decide) ?_
          refine lv_aload_n F.1 F.2.1 dX5_ahead_108 rfl (lv_at hl 1 rfl) ?_
          refine gf F hK hP 0 rfl rfl hiX5_ahead_5 3 (by decide) (List.mem_of_getElem? (i := 1) rfl) rfl dX5_ahead_109 ?_
          refine gf F hK hP 9 rfl rfl hiX5_ahead_1 9 (by decide) (List.mem_of_getElem? (i := 4) rfl) rfl dX5_ahead_112 ?_
          refine lv_aload_n F.1 F.2.1 dX5_ahead_115 rfl (lv_at hl 1 rfl) ?_
          refine gf F hK hP 0 rfl rfl hiX5_ahead_5 0 (by decide) (List.mem_of_getElem? (i := 2) rfl) rfl dX5_ahead_116 ?_
          refine gf F hK hP 1 rfl rfl hiX5_ahead_4 0 (by decide) (List.mem_of_getElem? (i := 3) rfl) rfl dX5_ahead_119 ?_
          refine gf F hK hP 2 rfl rfl hiX5_ahead_1 9 (by decide) (List.mem_of_getElem? (i := 4) rfl) rfl dX5_ahead_122 ?_
          refine lv_isub F.1 F.2.1 dX5_ahead_125 ?_
          exact rtI (f, c, (ngU f n)) F hr hlk hP hS rfl (Eq.trans (by rw [show tn (nI n) = n from nI_clamp (by omega)]; unfold kAhead; rw [if_neg c_30, aheA, if_neg k63_0, if_neg k63_1, if_pos k63_2]) (if_pos ⟨c_7, c_16⟩).symm) dX5_ahead_126
        refine lv_tableOut (tgt := 127) F.1 F.2.1 dX5_ahead_63 (ts_out (fun i h1 h2 => by rcases (show i = 0 ∨ i = 1 ∨ i = 2 by omega) with rfl | rfl | rfl <;> assumption)) (by decide) ?_
        have h3 := q3m k63_0 k63_1 k63_2
        refine lv_aload_n F.1 F.2.1 dX5_ahead_127 rfl (lv_at hl 1 rfl) ?_
        refine gf F hK hP 0 rfl rfl hiX5_ahead_5 3 (by decide) (List.mem_of_getElem? (i := 1) rfl) rfl dX5_ahead_128 ?_
        refine lv_iload_n F.1 F.2.1 dX5_ahead_131 rfl (lv_at hl 3 rfl) ?_
        refine lv_iconst (v := 3) F.1 F.2.1 dX5_ahead_132 (by decide) ?_
        refine lv_isub F.1 F.2.1 dX5_ahead_133 ?_
        refine tp (y := nI (q - 3)) (sb2 (a := q) (b := 3) (c := q - 3) rfl rfl (by omega)) ?_
        refine iV (rest := []) (wsp := fun _ => (x, .inr (5, [.ref st, .ref kt, .int ik, .ref (tr 0), .ref sc, .ref sh, .ref fo])) :: (st, .inr (4, [.ref (b 0), .ref bk, .ref sp, .int zz])) :: (wB ct b f ++ (wB ct tr (ngU f n) ++ [ai ct fo 7 (fun j => c (j + 1))]))) F (kX1_wealth l dC dI ct tr (ngU f n) (q - 3) (by omega) ((Rg_ngU hRg n hN).1)) gX5_ahead_X1_wealth rfl ⟨rfl, rfl⟩ nmX1_wealth ⟨Nat.le_of_ble_eq_true rfl, Nat.le_of_ble_eq_true rfl⟩ eT_b (fun _ _ _ => trivial) hK hP hD hS hA 9 rfl rfl rfl [9, 10, 11, 12, 13, 14, 15] (by decide) rfl rfl rfl hl.1 (Nat.le_of_ble_eq_true rfl) dX5_ahead_134 ⟨Nat.zero_le _, Nat.zero_le _⟩ (fun _ => rfl) (fun _ => rfl) [x, st, b 0, b 1, b 2, b 3, b 4, b 5, b 6, tr 0, tr 1, tr 2, tr 3, tr 4, tr 5, tr 6, fo] rfl (fun _ => rfl) (fun r_134 u_134 H locs e_134 hP hD hS => ?_)
        obtain rfl := e_134
        refine lv_aload_n F.1 F.2.1 dX5_ahead_137 rfl (lv_at hl 1 rfl) ?_
        refine gf F hK hP 0 rfl rfl hiX5_ahead_5 0 (by decide) (List.mem_of_getElem? (i := 2) rfl) rfl dX5_ahead_138 ?_
        refine gf F hK hP 1 rfl rfl hiX5_ahead_4 0 (by decide) (List.mem_of_getElem? (i := 3) rfl) rfl dX5_ahead_141 ?_
        refine lv_iload_n F.1 F.2.1 dX5_ahead_144 rfl (lv_at hl 3 rfl) ?_
        refine lv_iconst (v := 3) F.1 F.2.1 dX5_ahead_145 (by decide) ?_
        refine lv_isub F.1 F.2.1 dX5_ahead_146 ?_
        refine tp (y := nI (q - 3)) (sb2 (a := q) (b := 3) (c := q - 3) rfl rfl (by omega)) ?_
        refine iV (rest := [.int (allU (ngU f n) (q - 3) 5)]) (wsp := fun _ => (x, .inr (5, [.ref st, .ref kt, .int ik, .ref (tr 0), .ref sc, .ref sh, .ref fo])) :: (st, .inr (4, [.ref (b 0), .ref bk, .ref sp, .int zz])) :: (wB ct b f ++ (wB ct tr (ngU f n) ++ [ai ct fo 7 (fun j => c (j + 1))]))) F (kX1_wealth l dC dI ct b f (q - 3) (by omega) hRg) gX5_ahead_X1_wealth rfl ⟨rfl, rfl⟩ nmX1_wealth ⟨Nat.le_of_ble_eq_true rfl, Nat.le_of_ble_eq_true rfl⟩ eT_b (fun _ _ _ => trivial) hK hP hD hS hA 2 rfl rfl rfl [2, 3, 4, 5, 6, 7, 8] (by decide) rfl rfl rfl hl.1 (Nat.le_of_ble_eq_true rfl) dX5_ahead_147 ⟨Nat.zero_le _, Nat.zero_le _⟩ (fun _ => rfl) (fun _ => rfl) [x, st, b 0, b 1, b 2, b 3, b 4, b 5, b 6, tr 0, tr 1, tr 2, tr 3, tr 4, tr 5, tr 6, fo] rfl (fun _ => rfl) (fun r_147 u_147 H locs e_147 hP hD hS => ?_)
        obtain rfl := e_147
        refine lv_isub F.1 F.2.1 dX5_ahead_150 ?_
        exact rtI (f, c, (ngU f n)) F hr hlk hP hS rfl (Eq.trans (by rw [show tn (nI n) = n from nI_clamp (by omega)]; unfold kAhead; rw [if_neg c_30, aheA, if_neg k63_0, if_neg k63_1, if_neg k63_2, show tn (nI q) = q from nI_clamp (by omega)]) (if_pos ⟨c_7, c_16⟩).symm) dX5_ahead_151
      · have c_30 : 9999 < f 0 + (nI n) := b01t rfl c_30
        refine lv_aload_n F.1 F.2.1 dX5_ahead_33 rfl (lv_at hl 0 rfl) ?_
        refine lv_iconst (v := 4) F.1 F.2.1 dX5_ahead_34 (by decide) ?_
        refine iV (rest := []) (wsp := fun _ => (x, .inr (5, [.ref st, .ref kt, .int ik, .ref (tr 0), .ref sc, .ref sh, .ref fo])) :: (st, .inr (4, [.ref (b 0), .ref bk, .ref sp, .int zz])) :: (wB ct b f ++ (wB ct tr w ++ [ai ct fo 7 (fun j => (fnd c 5) (j + 1))]))) F (kX5_finding l dC dI ct x st kt sc sh fo tr ik c 4 5 (-1000005) (by decide) (by decide) (by decide)) gX5_ahead_X5_finding rfl ⟨rfl, rfl⟩ nmX5_finding ⟨Nat.le_of_ble_eq_true rfl, Nat.le_of_ble_eq_true rfl⟩ eT_b (fun _ _ _ => trivial) hK hP hD hS hA 0 rfl rfl rfl [0, 16] (by decide) rfl rfl rfl hl.1 (Nat.le_of_ble_eq_true rfl) dX5_ahead_35 ⟨Nat.zero_le _, Nat.zero_le _⟩ (fun _ => rfl) (fun _ => rfl) [x, st, b 0, b 1, b 2, b 3, b 4, b 5, b 6, tr 0, tr 1, tr 2, tr 3, tr 4, tr 5, tr 6, fo] rfl (fun _ => rfl) (fun r_35 u_35 H locs e_35 hP hD hS => ?_)
        obtain rfl := e_35
        exact rtI (f, (fnd c 5), w) F hr hlk hP hS rfl (Eq.trans (by rw [show tn (nI n) = n from nI_clamp (by omega)]; unfold kAhead; rw [if_pos c_30]; rfl) (if_pos ⟨c_7, c_16⟩).symm) dX5_ahead_38
    · have c_16 : ¬ (0 ≤ x2 ∧ x2 ≤ 4) := b01f rfl c_16
      refine lv_aload_n F.1 F.2.1 dX5_ahead_19 rfl (lv_at hl 0 rfl) ?_
      refine lv_iconst (v := 0) F.1 F.2.1 dX5_ahead_20 (by decide) ?_
      refine iV (rest := []) (wsp := fun _ => (x, .inr (5, [.ref st, .ref kt, .int ik, .ref (tr 0), .ref sc, .ref sh, .ref fo])) :: (st, .inr (4, [.ref (b 0), .ref bk, .ref sp, .int zz])) :: (wB ct b f ++ (wB ct tr w ++ [ai ct fo 7 (fun j => (fnd c 1) (j + 1))]))) F (kX5_finding l dC dI ct x st kt sc sh fo tr ik c 0 1 (-1000001) (by decide) (by decide) (by decide)) gX5_ahead_X5_finding rfl ⟨rfl, rfl⟩ nmX5_finding ⟨Nat.le_of_ble_eq_true rfl, Nat.le_of_ble_eq_true rfl⟩ eT_b (fun _ _ _ => trivial) hK hP hD hS hA 0 rfl rfl rfl [0, 16] (by decide) rfl rfl rfl hl.1 (Nat.le_of_ble_eq_true rfl) dX5_ahead_21 ⟨Nat.zero_le _, Nat.zero_le _⟩ (fun _ => rfl) (fun _ => rfl) [x, st, b 0, b 1, b 2, b 3, b 4, b 5, b 6, tr 0, tr 1, tr 2, tr 3, tr 4, tr 5, tr 6, fo] rfl (fun _ => rfl) (fun r_21 u_21 H locs e_21 hP hD hS => ?_)
      obtain rfl := e_21
      exact rtI (f, (fnd c 1), w) F hr hlk hP hS rfl ((if_neg (fun q => c_16 q.2)).symm) dX5_ahead_24

def rmX5_struck : Room := { frames := 6, cells := 0, slots := 0, locals := 135 }
theorem nmX5_struck : NmV yX5_struck RX5 0 := by unfold NmV; decide +kernel
theorem hiX5_struck_4 : ∀ w ∈ u_ws RX4 TX4 4, w ∈ wsX5_struck := by decide +kernel
theorem hiX5_struck_5 : ∀ w ∈ u_ws RX5 TX5 7, w ∈ wsX5_struck := by decide +kernel
set_option maxHeartbeats 4000000 in
set_option maxRecDepth 100000 in
theorem kX5_struck (l : Launch) (dC : Nat → ClassId) (dI : Nat → Nat → Nat) (ct : Nat → ClassId) (x st kt sc sh fo bk sp : Nat) (tr b : Nat → Nat) (ik zz : Int32) (f c w : Nat → Int32) (hRg : Rg f) : MI (S := (Nat → Int32) × (Nat → Int32) × (Nat → Int32)) l yX5_struck wsX5_struck rmX5_struck dC dI ct eT [.ref x] ((x, .inr (5, [.ref st, .ref kt, .int ik, .ref (tr 0), .ref sc, .ref sh, .ref fo])) :: (st, .inr (4, [.ref (b 0), .ref bk, .ref sp, .int zz])) :: (wB ct b f ++ (wB ct tr w ++ [ai ct fo 7 (fun j => c (j + 1))]))) (fun u => (x, .inr (5, [.ref st, .ref kt, .int ik, .ref (tr 0), .ref sc, .ref sh, .ref fo])) :: (st, .inr (4, [.ref (b 0), .ref bk, .ref sp, .int zz])) :: (wB ct b u.1 ++ (wB ct tr u.2.2 ++ [ai ct fo 7 (fun j => u.2.1 (j + 1))]))) (fun r u => (r, u.1, u.2.1) = sStruck f c) := by
  refine MI.of (cc := cX5_struck) (maxL := 2) (ret := (some .int)) (by decide) rfl (Nat.le_of_ble_eq_true rfl) ?_
  intro pg en z mi below meth cd A F hr hlk hin hK hP hD hA hS hE ls hl
  have F : CallFix pg mi cd cX5_struck 2 z _ wsX5_struck RX5 := F
  have hl : lv_has ls 2 [(0, .ref x)] := hl
  refine lv_aload_n F.1 F.2.1 dX5_struck_0 rfl (lv_at hl 0 rfl) ?_
  refine lv_bipush (v := 60) F.1 F.2.1 dX5_struck_1 (by decide) ?_
  refine iV (rest := []) (wsp := fun _ => (x, .inr (5, [.ref st, .ref kt, .int ik, .ref (tr 0), .ref sc, .ref sh, .ref fo])) :: (st, .inr (4, [.ref (b 0), .ref bk, .ref sp, .int zz])) :: (wB ct b f ++ (wB ct tr w ++ [ai ct fo 7 (fun j => c (j + 1))]))) F (kX5_isTooLate l dC dI ct x st kt sc sh fo bk sp tr b ik zz f 60) gX5_struck_X5_isTooLate rfl ⟨rfl, rfl⟩ nmX5_isTooLate ⟨Nat.le_of_ble_eq_true rfl, Nat.le_of_ble_eq_true rfl⟩ eT_b (fun _ _ _ => trivial) hK hP hD hS hA 0 rfl rfl rfl [0, 1, 2, 3, 4, 5, 6, 7, 8] (by decide) rfl rfl rfl hl.1 (Nat.le_of_ble_eq_true rfl) dX5_struck_3 ⟨Nat.zero_le _, Nat.zero_le _⟩ (fun _ => rfl) (fun _ => rfl) [x, st, b 0, b 1, b 2, b 3, b 4, b 5, b 6, tr 0, tr 1, tr 2, tr 3, tr 4, tr 5, tr 6, fo] rfl (fun _ => rfl) (fun r_3 u_3 H locs e_3 hP hD hS => ?_)
  obtain rfl := e_3
  refine lv_if_eq (tgt := 15) F.1 F.2.1 dX5_struck_6 (by decide) (fun c_6 => ?_) (fun c_6 => ?_)
  · have c_6 : ¬ (9999 < f 0 + 60) := b01f rfl c_6
    have hN := late60 hRg c_6
    refine lv_aload_n F.1 F.2.1 dX5_struck_15 rfl (lv_at hl 0 rfl) ?_
    refine gf F hK hP 0 rfl rfl hiX5_struck_5 3 (by decide) (List.mem_of_getElem? (i := 1) rfl) rfl dX5_struck_16 ?_
    refine lv_aload_n F.1 F.2.1 dX5_struck_19 rfl (lv_at hl 0 rfl) ?_
    refine gf F hK hP 0 rfl rfl hiX5_struck_5 0 (by decide) (List.mem_of_getElem? (i := 2) rfl) rfl dX5_struck_20 ?_
    refine gf F hK hP 1 rfl rfl hiX5_struck_4 0 (by decide) (List.mem_of_getElem? (i := 3) rfl) rfl dX5_struck_23 ?_
    refine vV (rest := []) (wsp := fun _ => (x, .inr (5, [.ref st, .ref kt, .int ik, .ref (tr 0), .ref sc, .ref sh, .ref fo])) :: (st, .inr (4, [.ref (b 0), .ref bk, .ref sp, .int zz])) :: (wB ct b f ++ (wB ct tr f ++ [ai ct fo 7 (fun j => c (j + 1))]))) F (kX1_copyFrom l dC dI ct tr b f w) gX5_struck_X1_copyFrom rfl ⟨rfl, rfl⟩ nmX1_copyFrom ⟨Nat.le_of_ble_eq_true rfl, Nat.le_of_ble_eq_true rfl⟩ eT_b (fun _ _ _ => trivial) hK hP hD hS hA 9 rfl rfl rfl [9, 10, 11, 12, 13, 14, 15, 2, 3, 4, 5, 6, 7, 8] (by decide) rfl rfl rfl hl.1 (Nat.le_of_ble_eq_true rfl) dX5_struck_26 ⟨Nat.zero_le _, Nat.zero_le _⟩ (fun _ => rfl) (fun _ => rfl) [x, st, b 0, b 1, b 2, b 3, b 4, b 5, b 6, tr 0, tr 1, tr 2, tr 3, tr 4, tr 5, tr 6, fo] rfl (fun _ => rfl) (fun u_26 H locs e_26 hP hD hS => ?_)
    refine lv_iconst (v := 1) F.1 F.2.1 dX5_struck_29 (by decide) ?_
    refine lv_istore_n (lv' := [(1, .int 1), (0, .ref x)]) F.1 F.2.1 dX5_struck_30 rfl hl (by decide) rfl (fun ls hl => ?_)
    refine loopN (I := fun k H locs ls => va_P (dC, dI) vwCl ((x, .inr (5, [.ref st, .ref kt, .int ik, .ref (tr 0), .ref sc, .ref sh, .ref fo])) :: (st, .inr (4, [.ref (b 0), .ref bk, .ref sp, .int zz])) :: (wB ct b f ++ (wB ct tr (ngU f k) ++ [ai ct fo 7 (fun j => c (j + 1))]))) H ∧ va_D A ((x, .inr (5, [.ref st, .ref kt, .int ik, .ref (tr 0), .ref sc, .ref sh, .ref fo])) :: (st, .inr (4, [.ref (b 0), .ref bk, .ref sp, .int zz])) :: (wB ct b f ++ (wB ct tr (ngU f k) ++ [ai ct fo 7 (fun j => c (j + 1))]))) ∧ va_S A z.heap H locs ∧ lv_has ls 2 [(1, .int (nI (k + 1))), (0, .ref x)] ∧ strU f (60 - k) k = strU f 60 0) 60 0 (by omega) ⟨hP, hD, hS, lv_sub hl [0, 1] rfl, rfl⟩ (fun H locs ls hI => ?_) (fun k hk_k H locs ls hI ih_31 => ?_)
    · obtain ⟨hP, hD, hS, hl, hx⟩ := hI
      generalize ngU f 60 = w9 at hP hD
      refine lv_iload_n F.1 F.2.1 dX5_struck_31 rfl (lv_at hl 0 rfl) ?_
      refine lv_bipush (v := 60) F.1 F.2.1 dX5_struck_32 (by decide) ?_
      refine lv_icmp_gt (tgt := 57) F.1 F.2.1 dX5_struck_34 (by decide) (fun c_34 => ?_) (fun c_34 => ?_)
      · refine lv_aload_n F.1 F.2.1 dX5_struck_57 rfl (lv_at hl 1 rfl) ?_
        refine lv_iconst (v := 3) F.1 F.2.1 dX5_struck_58 (by decide) ?_
        refine iV (rest := []) (wsp := fun _ => (x, .inr (5, [.ref st, .ref kt, .int ik, .ref (tr 0), .ref sc, .ref sh, .ref fo])) :: (st, .inr (4, [.ref (b 0), .ref bk, .ref sp, .int zz])) :: (wB ct b f ++ (wB ct tr w9 ++ [ai ct fo 7 (fun j => (fnd c 4) (j + 1))]))) F (kX5_finding l dC dI ct x st kt sc sh fo tr ik c 3 4 (-1000004) (by decide) (by decide) (by decide)) gX5_struck_X5_finding rfl ⟨rfl, rfl⟩ nmX5_finding ⟨Nat.le_of_ble_eq_true rfl, Nat.le_of_ble_eq_true rfl⟩ eT_b (fun _ _ _ => trivial) hK hP hD hS hA 0 rfl rfl rfl [0, 16] (by decide) rfl rfl rfl hl.1 (Nat.le_of_ble_eq_true rfl) dX5_struck_59 ⟨Nat.zero_le _, Nat.zero_le _⟩ (fun _ => rfl) (fun _ => rfl) [x, st, b 0, b 1, b 2, b 3, b 4, b 5, b 6, tr 0, tr 1, tr 2, tr 3, tr 4, tr 5, tr 6, fo] rfl (fun _ => rfl) (fun r_59 u_59 H locs e_59 hP hD hS => ?_)
        obtain rfl := e_59
        exact rtI (f, (fnd c 4), w9) F hr hlk hP hS rfl (Eq.trans (by rw [str_end hx]; rfl) (if_neg c_6).symm) dX5_struck_62
      · exact absurd (by decide) c_34
    · obtain ⟨hP, hD, hS, hl, hx⟩ := hI
      refine lv_iload_n F.1 F.2.1 dX5_struck_31 rfl (lv_at hl 0 rfl) ?_
      refine lv_bipush (v := 60) F.1 F.2.1 dX5_struck_32 (by decide) ?_
      refine lv_icmp_gt (tgt := 57) F.1 F.2.1 dX5_struck_34 (by decide) (fun c_34 => ?_) (fun c_34 => ?_)
      · exact absurd c_34 (nI_nlt (b := k + 1) (a := 60) (by omega) (by decide))
      · refine lv_aload_n F.1 F.2.1 dX5_struck_37 rfl (lv_at hl 1 rfl) ?_
        refine gf F hK hP 0 rfl rfl hiX5_struck_5 3 (by decide) (List.mem_of_getElem? (i := 1) rfl) rfl dX5_struck_38 ?_
        refine lv_iconst (v := 1) F.1 F.2.1 dX5_struck_41 (by decide) ?_
        refine iV (rest := []) (wsp := fun _ => (x, .inr (5, [.ref st, .ref kt, .int ik, .ref (tr 0), .ref sc, .ref sh, .ref fo])) :: (st, .inr (4, [.ref (b 0), .ref bk, .ref sp, .int zz])) :: (wB ct b f ++ (wB ct tr (ngU (ngU f k) 1) ++ [ai ct fo 7 (fun j => c (j + 1))]))) F (kX1_passNights l dC dI ct tr (ngU f k) 1 (by omega) (fun j hj => by rw [show j = 0 by omega]; exact (Rg_ngU hRg k (by omega)).1)) gX5_struck_X1_passNights rfl ⟨rfl, rfl⟩ nmX1_passNights ⟨Nat.le_of_ble_eq_true rfl, Nat.le_of_ble_eq_true rfl⟩ eT_b (fun _ _ _ => trivial) hK hP hD hS hA 9 rfl rfl rfl [9, 10, 11, 12, 13, 14, 15] (by decide) rfl rfl rfl hl.1 (Nat.le_of_ble_eq_true rfl) dX5_struck_42 ⟨Nat.zero_le _, Nat.zero_le _⟩ (fun _ => rfl) (fun _ => rfl) [x, st, b 0, b 1, b 2, b 3, b 4, b 5, b 6, tr 0, tr 1, tr 2, tr 3, tr 4, tr 5, tr 6, fo] rfl (fun _ => rfl) (fun r_42 u_42 H locs e_42 hP hD hS => ?_)
        obtain rfl := e_42
        refine lv_iconst (v := 1) F.1 F.2.1 dX5_struck_45 (by decide) ?_
        refine lv_icmp_ne (tgt := 51) F.1 F.2.1 dX5_struck_46 (by decide) (fun c_46 => ?_) (fun c_46 => ?_)
        · refine lv_iinc (v := nI (k + 1 + 1)) (lv' := [(1, .int (nI (k + 1 + 1))), (0, .ref x)]) F.1 F.2.1 dX5_struck_51 hl (k := 0) rfl (by rw [show Int32.ofInt 1 = nI 1 from rfl, nI_add]) (by decide) rfl (fun ls hl => ?_)
          refine lv_goto (tgt := 31) F.1 F.2.1 dX5_struck_54 (by decide) ?_
          have eb : ngU (ngU f k) 1 = ngU f (k + 1) := rfl
          rw [eb] at hP hD
          have hx2 : strU f (60 - (k + 1)) (k + 1) = strU f 60 0 := str_nxt hk_k hx c_46
          exact ih_31 _ _ _ ⟨hP, hD, hS, lv_sub hl [0, 1] rfl, hx2⟩
        · refine lv_iload_n F.1 F.2.1 dX5_struck_49 rfl (lv_at hl 0 rfl) ?_
          exact rtI (f, c, (ngU (ngU f k) 1)) F hr hlk hP hS rfl (Eq.trans (by rw [str_som hk_k hx c_46]; rfl) (if_neg c_6).symm) dX5_struck_50
  · have c_6 : 9999 < f 0 + 60 := b01t rfl c_6
    refine lv_aload_n F.1 F.2.1 dX5_struck_9 rfl (lv_at hl 0 rfl) ?_
    refine lv_iconst (v := 4) F.1 F.2.1 dX5_struck_10 (by decide) ?_
    refine iV (rest := []) (wsp := fun _ => (x, .inr (5, [.ref st, .ref kt, .int ik, .ref (tr 0), .ref sc, .ref sh, .ref fo])) :: (st, .inr (4, [.ref (b 0), .ref bk, .ref sp, .int zz])) :: (wB ct b f ++ (wB ct tr w ++ [ai ct fo 7 (fun j => (fnd c 5) (j + 1))]))) F (kX5_finding l dC dI ct x st kt sc sh fo tr ik c 4 5 (-1000005) (by decide) (by decide) (by decide)) gX5_struck_X5_finding rfl ⟨rfl, rfl⟩ nmX5_finding ⟨Nat.le_of_ble_eq_true rfl, Nat.le_of_ble_eq_true rfl⟩ eT_b (fun _ _ _ => trivial) hK hP hD hS hA 0 rfl rfl rfl [0, 16] (by decide) rfl rfl rfl hl.1 (Nat.le_of_ble_eq_true rfl) dX5_struck_11 ⟨Nat.zero_le _, Nat.zero_le _⟩ (fun _ => rfl) (fun _ => rfl) [x, st, b 0, b 1, b 2, b 3, b 4, b 5, b 6, tr 0, tr 1, tr 2, tr 3, tr 4, tr 5, tr 6, fo] rfl (fun _ => rfl) (fun r_11 u_11 H locs e_11 hP hD hS => ?_)
    obtain rfl := e_11
    exact rtI (f, (fnd c 5), w) F hr hlk hP hS rfl ((if_pos c_6).symm) dX5_struck_14

def rmX5_empty : Room := { frames := 6, cells := 0, slots := 0, locals := 135 }
theorem nmX5_empty : NmV yX5_empty RX5 0 := by unfold NmV; decide +kernel
theorem hiX5_empty_4 : ∀ w ∈ u_ws RX4 TX4 4, w ∈ wsX5_empty := by decide +kernel
theorem hiX5_empty_5 : ∀ w ∈ u_ws RX5 TX5 7, w ∈ wsX5_empty := by decide +kernel
set_option maxHeartbeats 4000000 in
set_option maxRecDepth 100000 in
theorem kX5_empty (l : Launch) (dC : Nat → ClassId) (dI : Nat → Nat → Nat) (ct : Nat → ClassId) (x st kt sc sh fo bk sp : Nat) (tr b : Nat → Nat) (ik zz : Int32) (f c w : Nat → Int32) (hRg : Rg f) : MI (S := (Nat → Int32) × (Nat → Int32) × (Nat → Int32)) l yX5_empty wsX5_empty rmX5_empty dC dI ct eT [.ref x] ((x, .inr (5, [.ref st, .ref kt, .int ik, .ref (tr 0), .ref sc, .ref sh, .ref fo])) :: (st, .inr (4, [.ref (b 0), .ref bk, .ref sp, .int zz])) :: (wB ct b f ++ (wB ct tr w ++ [ai ct fo 7 (fun j => c (j + 1))]))) (fun u => (x, .inr (5, [.ref st, .ref kt, .int ik, .ref (tr 0), .ref sc, .ref sh, .ref fo])) :: (st, .inr (4, [.ref (b 0), .ref bk, .ref sp, .int zz])) :: (wB ct b u.1 ++ (wB ct tr u.2.2 ++ [ai ct fo 7 (fun j => u.2.1 (j + 1))]))) (fun r u => (r, u.1, u.2.1) = sEmpty f c) := by
  refine MI.of (cc := cX5_empty) (maxL := 2) (ret := (some .int)) (by decide) rfl (Nat.le_of_ble_eq_true rfl) ?_
  intro pg en z mi below meth cd A F hr hlk hin hK hP hD hA hS hE ls hl
  have F : CallFix pg mi cd cX5_empty 2 z _ wsX5_empty RX5 := F
  have hl : lv_has ls 2 [(0, .ref x)] := hl
  refine lv_aload_n F.1 F.2.1 dX5_empty_0 rfl (lv_at hl 0 rfl) ?_
  refine lv_bipush (v := 60) F.1 F.2.1 dX5_empty_1 (by decide) ?_
  refine iV (rest := []) (wsp := fun _ => (x, .inr (5, [.ref st, .ref kt, .int ik, .ref (tr 0), .ref sc, .ref sh, .ref fo])) :: (st, .inr (4, [.ref (b 0), .ref bk, .ref sp, .int zz])) :: (wB ct b f ++ (wB ct tr w ++ [ai ct fo 7 (fun j => c (j + 1))]))) F (kX5_isTooLate l dC dI ct x st kt sc sh fo bk sp tr b ik zz f 60) gX5_empty_X5_isTooLate rfl ⟨rfl, rfl⟩ nmX5_isTooLate ⟨Nat.le_of_ble_eq_true rfl, Nat.le_of_ble_eq_true rfl⟩ eT_b (fun _ _ _ => trivial) hK hP hD hS hA 0 rfl rfl rfl [0, 1, 2, 3, 4, 5, 6, 7, 8] (by decide) rfl rfl rfl hl.1 (Nat.le_of_ble_eq_true rfl) dX5_empty_3 ⟨Nat.zero_le _, Nat.zero_le _⟩ (fun _ => rfl) (fun _ => rfl) [x, st, b 0, b 1, b 2, b 3, b 4, b 5, b 6, tr 0, tr 1, tr 2, tr 3, tr 4, tr 5, tr 6, fo] rfl (fun _ => rfl) (fun r_3 u_3 H locs e_3 hP hD hS => ?_)
  obtain rfl := e_3
  refine lv_if_eq (tgt := 15) F.1 F.2.1 dX5_empty_6 (by decide) (fun c_6 => ?_) (fun c_6 => ?_)
  · have c_6 : ¬ (9999 < f 0 + 60) := b01f rfl c_6
    have hN := late60 hRg c_6
    refine lv_aload_n F.1 F.2.1 dX5_empty_15 rfl (lv_at hl 0 rfl) ?_
    refine gf F hK hP 0 rfl rfl hiX5_empty_5 3 (by decide) (List.mem_of_getElem? (i := 1) rfl) rfl dX5_empty_16 ?_
    refine lv_aload_n F.1 F.2.1 dX5_empty_19 rfl (lv_at hl 0 rfl) ?_
    refine gf F hK hP 0 rfl rfl hiX5_empty_5 0 (by decide) (List.mem_of_getElem? (i := 2) rfl) rfl dX5_empty_20 ?_
    refine gf F hK hP 1 rfl rfl hiX5_empty_4 0 (by decide) (List.mem_of_getElem? (i := 3) rfl) rfl dX5_empty_23 ?_
    refine vV (rest := []) (wsp := fun _ => (x, .inr (5, [.ref st, .ref kt, .int ik, .ref (tr 0), .ref sc, .ref sh, .ref fo])) :: (st, .inr (4, [.ref (b 0), .ref bk, .ref sp, .int zz])) :: (wB ct b f ++ (wB ct tr f ++ [ai ct fo 7 (fun j => c (j + 1))]))) F (kX1_copyFrom l dC dI ct tr b f w) gX5_empty_X1_copyFrom rfl ⟨rfl, rfl⟩ nmX1_copyFrom ⟨Nat.le_of_ble_eq_true rfl, Nat.le_of_ble_eq_true rfl⟩ eT_b (fun _ _ _ => trivial) hK hP hD hS hA 9 rfl rfl rfl [9, 10, 11, 12, 13, 14, 15, 2, 3, 4, 5, 6, 7, 8] (by decide) rfl rfl rfl hl.1 (Nat.le_of_ble_eq_true rfl) dX5_empty_26 ⟨Nat.zero_le _, Nat.zero_le _⟩ (fun _ => rfl) (fun _ => rfl) [x, st, b 0, b 1, b 2, b 3, b 4, b 5, b 6, tr 0, tr 1, tr 2, tr 3, tr 4, tr 5, tr 6, fo] rfl (fun _ => rfl) (fun u_26 H locs e_26 hP hD hS => ?_)
    refine lv_iconst (v := 0) F.1 F.2.1 dX5_empty_29 (by decide) ?_
    refine lv_istore_n (lv' := [(1, .int 0), (0, .ref x)]) F.1 F.2.1 dX5_empty_30 rfl hl (by decide) rfl (fun ls hl => ?_)
    refine loopN (I := fun k H locs ls => va_P (dC, dI) vwCl ((x, .inr (5, [.ref st, .ref kt, .int ik, .ref (tr 0), .ref sc, .ref sh, .ref fo])) :: (st, .inr (4, [.ref (b 0), .ref bk, .ref sp, .int zz])) :: (wB ct b f ++ (wB ct tr (ngU f k) ++ [ai ct fo 7 (fun j => c (j + 1))]))) H ∧ va_D A ((x, .inr (5, [.ref st, .ref kt, .int ik, .ref (tr 0), .ref sc, .ref sh, .ref fo])) :: (st, .inr (4, [.ref (b 0), .ref bk, .ref sp, .int zz])) :: (wB ct b f ++ (wB ct tr (ngU f k) ++ [ai ct fo 7 (fun j => c (j + 1))]))) ∧ va_S A z.heap H locs ∧ lv_has ls 2 [(1, .int (nI k)), (0, .ref x)] ∧ empU f (61 - k) k = empU f 61 0) 61 0 (by omega) ⟨hP, hD, hS, lv_sub hl [0, 1] rfl, rfl⟩ (fun H locs ls hI => ?_) (fun k hk_k H locs ls hI ih_31 => ?_)
    · obtain ⟨hP, hD, hS, hl, hx⟩ := hI
      generalize ngU f 61 = w9 at hP hD
      refine lv_iload_n F.1 F.2.1 dX5_empty_31 rfl (lv_at hl 0 rfl) ?_
      refine lv_bipush (v := 60) F.1 F.2.1 dX5_empty_32 (by decide) ?_
      refine lv_icmp_gt (tgt := 76) F.1 F.2.1 dX5_empty_34 (by decide) (fun c_34 => ?_) (fun c_34 => ?_)
      · refine lv_aload_n F.1 F.2.1 dX5_empty_76 rfl (lv_at hl 1 rfl) ?_
        refine lv_iconst (v := 3) F.1 F.2.1 dX5_empty_77 (by decide) ?_
        refine iV (rest := []) (wsp := fun _ => (x, .inr (5, [.ref st, .ref kt, .int ik, .ref (tr 0), .ref sc, .ref sh, .ref fo])) :: (st, .inr (4, [.ref (b 0), .ref bk, .ref sp, .int zz])) :: (wB ct b f ++ (wB ct tr w9 ++ [ai ct fo 7 (fun j => (fnd c 4) (j + 1))]))) F (kX5_finding l dC dI ct x st kt sc sh fo tr ik c 3 4 (-1000004) (by decide) (by decide) (by decide)) gX5_empty_X5_finding rfl ⟨rfl, rfl⟩ nmX5_finding ⟨Nat.le_of_ble_eq_true rfl, Nat.le_of_ble_eq_true rfl⟩ eT_b (fun _ _ _ => trivial) hK hP hD hS hA 0 rfl rfl rfl [0, 16] (by decide) rfl rfl rfl hl.1 (Nat.le_of_ble_eq_true rfl) dX5_empty_78 ⟨Nat.zero_le _, Nat.zero_le _⟩ (fun _ => rfl) (fun _ => rfl) [x, st, b 0, b 1, b 2, b 3, b 4, b 5, b 6, tr 0, tr 1, tr 2, tr 3, tr 4, tr 5, tr 6, fo] rfl (fun _ => rfl) (fun r_78 u_78 H locs e_78 hP hD hS => ?_)
        obtain rfl := e_78
        exact rtI (f, (fnd c 4), w9) F hr hlk hP hS rfl (Eq.trans (by rw [emp_end hx]; rfl) (if_neg c_6).symm) dX5_empty_81
      · exact absurd (by decide) c_34
    · obtain ⟨hP, hD, hS, hl, hx⟩ := hI
      refine lv_iload_n F.1 F.2.1 dX5_empty_31 rfl (lv_at hl 0 rfl) ?_
      refine lv_bipush (v := 60) F.1 F.2.1 dX5_empty_32 (by decide) ?_
      refine lv_icmp_gt (tgt := 76) F.1 F.2.1 dX5_empty_34 (by decide) (fun c_34 => ?_) (fun c_34 => ?_)
      · exact absurd c_34 (nI_nlt (b := k) (a := 60) (by omega) (by decide))
      · refine lv_aload_n F.1 F.2.1 dX5_empty_37 rfl (lv_at hl 1 rfl) ?_
        refine gf F hK hP 0 rfl rfl hiX5_empty_5 3 (by decide) (List.mem_of_getElem? (i := 1) rfl) rfl dX5_empty_38 ?_
        refine lv_iconst (v := 0) F.1 F.2.1 dX5_empty_41 (by decide) ?_
        refine iV (rest := []) (wsp := fun _ => (x, .inr (5, [.ref st, .ref kt, .int ik, .ref (tr 0), .ref sc, .ref sh, .ref fo])) :: (st, .inr (4, [.ref (b 0), .ref bk, .ref sp, .int zz])) :: (wB ct b f ++ (wB ct tr (ngU f k) ++ [ai ct fo 7 (fun j => c (j + 1))]))) F (kX1_heapCount l dC dI ct tr (ngU f k) 0 (by omega)) gX5_empty_X1_heapCount rfl ⟨rfl, rfl⟩ nmX1_heapCount ⟨Nat.le_of_ble_eq_true rfl, Nat.le_of_ble_eq_true rfl⟩ eT_b (fun _ _ _ => trivial) hK hP hD hS hA 9 rfl rfl rfl [9, 10, 11, 12, 13, 14, 15] (by decide) rfl rfl rfl hl.1 (Nat.le_of_ble_eq_true rfl) dX5_empty_42 ⟨Nat.zero_le _, Nat.zero_le _⟩ (fun _ => rfl) (fun _ => rfl) [x, st, b 0, b 1, b 2, b 3, b 4, b 5, b 6, tr 0, tr 1, tr 2, tr 3, tr 4, tr 5, tr 6, fo] rfl (fun _ => rfl) (fun r_42 u_42 H locs e_42 hP hD hS => ?_)
        obtain rfl := e_42
        refine lv_if_ne (tgt := 61) F.1 F.2.1 dX5_empty_45 (by decide) (fun c_45 => ?_) (fun c_45 => ?_)
        · refine lv_aload_n F.1 F.2.1 dX5_empty_61 rfl (lv_at hl 1 rfl) ?_
          refine gf F hK hP 0 rfl rfl hiX5_empty_5 3 (by decide) (List.mem_of_getElem? (i := 1) rfl) rfl dX5_empty_62 ?_
          refine lv_iconst (v := 1) F.1 F.2.1 dX5_empty_65 (by decide) ?_
          refine iV (rest := []) (wsp := fun _ => (x, .inr (5, [.ref st, .ref kt, .int ik, .ref (tr 0), .ref sc, .ref sh, .ref fo])) :: (st, .inr (4, [.ref (b 0), .ref bk, .ref sp, .int zz])) :: (wB ct b f ++ (wB ct tr (ngU (ngU f k) 1) ++ [ai ct fo 7 (fun j => c (j + 1))]))) F (kX1_passNights l dC dI ct tr (ngU f k) 1 (by omega) (fun j hj => by rw [show j = 0 by omega]; exact (Rg_ngU hRg k (by omega)).1)) gX5_empty_X1_passNights rfl ⟨rfl, rfl⟩ nmX1_passNights ⟨Nat.le_of_ble_eq_true rfl, Nat.le_of_ble_eq_true rfl⟩ eT_b (fun _ _ _ => trivial) hK hP hD hS hA 9 rfl rfl rfl [9, 10, 11, 12, 13, 14, 15] (by decide) rfl rfl rfl hl.1 (Nat.le_of_ble_eq_true rfl) dX5_empty_66 ⟨Nat.zero_le _, Nat.zero_le _⟩ (fun _ => rfl) (fun _ => rfl) [x, st, b 0, b 1, b 2, b 3, b 4, b 5, b 6, tr 0, tr 1, tr 2, tr 3, tr 4, tr 5, tr 6, fo] rfl (fun _ => rfl) (fun r_66 u_66 H locs e_66 hP hD hS => ?_)
          obtain rfl := e_66
          refine lv_pop F.1 F.2.1 dX5_empty_69 rfl ?_
          refine lv_iinc (v := nI (k + 1)) (lv' := [(1, .int (nI (k + 1))), (0, .ref x)]) F.1 F.2.1 dX5_empty_70 hl (k := 0) rfl (by rw [show Int32.ofInt 1 = nI 1 from rfl, nI_add]) (by decide) rfl (fun ls hl => ?_)
          refine lv_goto (tgt := 31) F.1 F.2.1 dX5_empty_73 (by decide) ?_
          have eb : ngU (ngU f k) 1 = ngU f (k + 1) := rfl
          rw [eb] at hP hD
          have hx2 : empU f (61 - (k + 1)) (k + 1) = empU f 61 0 := emp_nxt hk_k hx (Rg_ngU hRg k (by omega)).1 (fun q => c_45 q.1)
          exact ih_31 _ _ _ ⟨hP, hD, hS, lv_sub hl [0, 1] rfl, hx2⟩
        · refine lv_aload_n F.1 F.2.1 dX5_empty_48 rfl (lv_at hl 1 rfl) ?_
          refine gf F hK hP 0 rfl rfl hiX5_empty_5 3 (by decide) (List.mem_of_getElem? (i := 1) rfl) rfl dX5_empty_49 ?_
          refine lv_iconst (v := 1) F.1 F.2.1 dX5_empty_52 (by decide) ?_
          refine iV (rest := []) (wsp := fun _ => (x, .inr (5, [.ref st, .ref kt, .int ik, .ref (tr 0), .ref sc, .ref sh, .ref fo])) :: (st, .inr (4, [.ref (b 0), .ref bk, .ref sp, .int zz])) :: (wB ct b f ++ (wB ct tr (ngU f k) ++ [ai ct fo 7 (fun j => c (j + 1))]))) F (kX1_heapCount l dC dI ct tr (ngU f k) 1 (by omega)) gX5_empty_X1_heapCount rfl ⟨rfl, rfl⟩ nmX1_heapCount ⟨Nat.le_of_ble_eq_true rfl, Nat.le_of_ble_eq_true rfl⟩ eT_b (fun _ _ _ => trivial) hK hP hD hS hA 9 rfl rfl rfl [9, 10, 11, 12, 13, 14, 15] (by decide) rfl rfl rfl hl.1 (Nat.le_of_ble_eq_true rfl) dX5_empty_53 ⟨Nat.zero_le _, Nat.zero_le _⟩ (fun _ => rfl) (fun _ => rfl) [x, st, b 0, b 1, b 2, b 3, b 4, b 5, b 6, tr 0, tr 1, tr 2, tr 3, tr 4, tr 5, tr 6, fo] rfl (fun _ => rfl) (fun r_53 u_53 H locs e_53 hP hD hS => ?_)
          obtain rfl := e_53
          refine lv_if_ne (tgt := 61) F.1 F.2.1 dX5_empty_56 (by decide) (fun c_56 => ?_) (fun c_56 => ?_)
          · refine lv_aload_n F.1 F.2.1 dX5_empty_61 rfl (lv_at hl 1 rfl) ?_
            refine gf F hK hP 0 rfl rfl hiX5_empty_5 3 (by decide) (List.mem_of_getElem? (i := 1) rfl) rfl dX5_empty_62 ?_
            refine lv_iconst (v := 1) F.1 F.2.1 dX5_empty_65 (by decide) ?_
            refine iV (rest := []) (wsp := fun _ => (x, .inr (5, [.ref st, .ref kt, .int ik, .ref (tr 0), .ref sc, .ref sh, .ref fo])) :: (st, .inr (4, [.ref (b 0), .ref bk, .ref sp, .int zz])) :: (wB ct b f ++ (wB ct tr (ngU (ngU f k) 1) ++ [ai ct fo 7 (fun j => c (j + 1))]))) F (kX1_passNights l dC dI ct tr (ngU f k) 1 (by omega) (fun j hj => by rw [show j = 0 by omega]; exact (Rg_ngU hRg k (by omega)).1)) gX5_empty_X1_passNights rfl ⟨rfl, rfl⟩ nmX1_passNights ⟨Nat.le_of_ble_eq_true rfl, Nat.le_of_ble_eq_true rfl⟩ eT_b (fun _ _ _ => trivial) hK hP hD hS hA 9 rfl rfl rfl [9, 10, 11, 12, 13, 14, 15] (by decide) rfl rfl rfl hl.1 (Nat.le_of_ble_eq_true rfl) dX5_empty_66 ⟨Nat.zero_le _, Nat.zero_le _⟩ (fun _ => rfl) (fun _ => rfl) [x, st, b 0, b 1, b 2, b 3, b 4, b 5, b 6, tr 0, tr 1, tr 2, tr 3, tr 4, tr 5, tr 6, fo] rfl (fun _ => rfl) (fun r_66 u_66 H locs e_66 hP hD hS => ?_)
            obtain rfl := e_66
            refine lv_pop F.1 F.2.1 dX5_empty_69 rfl ?_
            refine lv_iinc (v := nI (k + 1)) (lv' := [(1, .int (nI (k + 1))), (0, .ref x)]) F.1 F.2.1 dX5_empty_70 hl (k := 0) rfl (by rw [show Int32.ofInt 1 = nI 1 from rfl, nI_add]) (by decide) rfl (fun ls hl => ?_)
            refine lv_goto (tgt := 31) F.1 F.2.1 dX5_empty_73 (by decide) ?_
            have eb : ngU (ngU f k) 1 = ngU f (k + 1) := rfl
            rw [eb] at hP hD
            have hx2 : empU f (61 - (k + 1)) (k + 1) = empU f 61 0 := emp_nxt hk_k hx (Rg_ngU hRg k (by omega)).1 (fun q => c_56 q.2)
            exact ih_31 _ _ _ ⟨hP, hD, hS, lv_sub hl [0, 1] rfl, hx2⟩
          · refine lv_iload_n F.1 F.2.1 dX5_empty_59 rfl (lv_at hl 0 rfl) ?_
            exact rtI (f, c, (ngU f k)) F hr hlk hP hS rfl (Eq.trans (by rw [emp_som hk_k hx (Rg_ngU hRg k (by omega)).1 c_45 c_56]; rfl) (if_neg c_6).symm) dX5_empty_60
  · have c_6 : 9999 < f 0 + 60 := b01t rfl c_6
    refine lv_aload_n F.1 F.2.1 dX5_empty_9 rfl (lv_at hl 0 rfl) ?_
    refine lv_iconst (v := 4) F.1 F.2.1 dX5_empty_10 (by decide) ?_
    refine iV (rest := []) (wsp := fun _ => (x, .inr (5, [.ref st, .ref kt, .int ik, .ref (tr 0), .ref sc, .ref sh, .ref fo])) :: (st, .inr (4, [.ref (b 0), .ref bk, .ref sp, .int zz])) :: (wB ct b f ++ (wB ct tr w ++ [ai ct fo 7 (fun j => (fnd c 5) (j + 1))]))) F (kX5_finding l dC dI ct x st kt sc sh fo tr ik c 4 5 (-1000005) (by decide) (by decide) (by decide)) gX5_empty_X5_finding rfl ⟨rfl, rfl⟩ nmX5_finding ⟨Nat.le_of_ble_eq_true rfl, Nat.le_of_ble_eq_true rfl⟩ eT_b (fun _ _ _ => trivial) hK hP hD hS hA 0 rfl rfl rfl [0, 16] (by decide) rfl rfl rfl hl.1 (Nat.le_of_ble_eq_true rfl) dX5_empty_11 ⟨Nat.zero_le _, Nat.zero_le _⟩ (fun _ => rfl) (fun _ => rfl) [x, st, b 0, b 1, b 2, b 3, b 4, b 5, b 6, tr 0, tr 1, tr 2, tr 3, tr 4, tr 5, tr 6, fo] rfl (fun _ => rfl) (fun r_11 u_11 H locs e_11 hP hD hS => ?_)
    obtain rfl := e_11
    exact rtI (f, (fnd c 5), w) F hr hlk hP hS rfl ((if_pos c_6).symm) dX5_empty_14
