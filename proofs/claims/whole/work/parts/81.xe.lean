def rmX2_append : Room := { frames := 0, cells := 0, slots := 0, locals := 0 }
theorem nmX2_append : NmV yX2_append RX2 1 := by unfold NmV; decide +kernel
theorem hiX2_append_2 : ∀ w ∈ u_ws RX2 TX2 6, w ∈ wsX2_append := by decide +kernel
set_option maxHeartbeats 4000000 in
set_option maxRecDepth 100000 in
theorem kX2_append (l : Launch) (dC : Nat → ClassId) (dI : Nat → Nat → Nat) (ct : Nat → ClassId) (sc ty : Nat) (t1 t2 t3 t4 : Int32) (m : Nat) (y : Nat → Int32) (w : Int32) (hm : m < 120) : MV (S := Unit) l yX2_append wsX2_append rmX2_append dC dI ct eT [.ref sc, .int w] ((sc, .inr (2, [.ref ty, .int (nI m), .int t1, .int t2, .int t3, .int t4])) :: [ai ct ty 120 y]) (fun _ => (sc, .inr (2, [.ref ty, .int (nI (m + 1)), .int t1, .int t2, .int t3, .int t4])) :: [ai ct ty 120 (upd y m w)]) (fun _ => True) := by
  refine MV.of (cc := cX2_append) (maxL := 2) (ret := none) (by decide) rfl (Nat.le_of_ble_eq_true rfl) ?_
  intro pg en z mi below meth cd A F hr hlk hin hK hP hD hA hS hE ls hl
  have F : CallFix pg mi cd cX2_append 2 z _ wsX2_append RX2 := F
  have hl : lv_has ls 2 [(0, .ref sc), (1, .int w)] := hl
  refine lv_aload_n F.1 F.2.1 dX2_append_0 rfl (lv_at hl 0 rfl) ?_
  refine gf F hK hP 0 rfl rfl hiX2_append_2 1 (by decide) (List.mem_of_getElem? (i := 1) rfl) rfl dX2_append_1 ?_
  refine lv_bipush (v := 120) F.1 F.2.1 dX2_append_4 (by decide) ?_
  refine lv_icmp_ge (tgt := 29) F.1 F.2.1 dX2_append_6 (by decide) (fun c_6 => ?_) (fun c_6 => ?_)
  · exact absurd c_6 (nI_ge hm (by decide))
  · refine lv_aload_n F.1 F.2.1 dX2_append_9 rfl (lv_at hl 0 rfl) ?_
    refine gf F hK hP 0 rfl rfl hiX2_append_2 0 (by decide) (List.mem_of_getElem? (i := 2) rfl) rfl dX2_append_10 ?_
    refine lv_aload_n F.1 F.2.1 dX2_append_13 rfl (lv_at hl 0 rfl) ?_
    refine gf F hK hP 0 rfl rfl hiX2_append_2 1 (by decide) (List.mem_of_getElem? (i := 1) rfl) rfl dX2_append_14 ?_
    refine lv_iload_n F.1 F.2.1 dX2_append_17 rfl (lv_at hl 1 rfl) ?_
    refine ast (ws' := (sc, .inr (2, [.ref ty, .int (nI m), .int t1, .int t2, .int t3, .int t4])) :: [ai ct ty 120 (upd y m w)]) F hK hP hD hS 1 0 rfl rfl m rfl (by omega) (by decide) dX2_append_18 (weq.rf _) (fun H locs hP hD hS => ?_)
    refine lv_aload_n F.1 F.2.1 dX2_append_19 rfl (lv_at hl 0 rfl) ?_
    refine lv_dup F.1 F.2.1 dX2_append_20 rfl ?_
    refine gf F hK hP 0 rfl rfl hiX2_append_2 1 (by decide) (List.mem_of_getElem? (i := 1) rfl) rfl dX2_append_21 ?_
    refine lv_iconst (v := 1) F.1 F.2.1 dX2_append_24 (by decide) ?_
    refine lv_iadd F.1 F.2.1 dX2_append_25 ?_
    refine tp (y := nI (m + 1)) (ad2 (a := m) (b := 1) (c := m + 1) rfl rfl rfl) ?_
    refine pf (ws' := (sc, .inr (2, [.ref ty, .int (nI (m + 1)), .int t1, .int t2, .int t3, .int t4])) :: [ai ct ty 120 (upd y m w)]) F hK hP hD hS 0 rfl rfl hiX2_append_2 tyX2 tyX2_ok nmX2 1 (by decide) (List.mem_of_getElem? (i := 1) rfl) rfl rfl rfl (Nat.le_of_ble_eq_true rfl) dX2_append_26 (weq.rf _) (fun H locs hP hD hS => ?_)
    exact rtV () F hr hlk hP hS rfl trivial dX2_append_29

def rmX5_feed : Room := { frames := 1, cells := 0, slots := 0, locals := 22 }
theorem nmX5_feed : NmV yX5_feed RX5 2 := by unfold NmV; decide +kernel
theorem hiX5_feed_2 : ∀ w ∈ u_ws RX2 TX2 6, w ∈ wsX5_feed := by decide +kernel
theorem hiX5_feed_5 : ∀ w ∈ u_ws RX5 TX5 7, w ∈ wsX5_feed := by decide +kernel
set_option maxHeartbeats 4000000 in
set_option maxRecDepth 100000 in
theorem kX5_feed (l : Launch) (dC : Nat → ClassId) (dI : Nat → Nat → Nat) (ct : Nat → ClassId) (x st kt sc sh fo ty : Nat) (tr : Nat → Nat) (ik ts t1 t2 t3 t4 : Int32) (y c : Nat → Int32) (x1 x2 : Int32) (hT : Nt 120 ts) : MI (S := Int32 × (Nat → Int32) × (Nat → Int32)) l yX5_feed wsX5_feed rmX5_feed dC dI ct eT [.ref x, .int x1, .int x2] ((x, .inr (5, [.ref st, .ref kt, .int ik, .ref (tr 0), .ref sc, .ref sh, .ref fo])) :: (sc, .inr (2, [.ref ty, .int ts, .int t1, .int t2, .int t3, .int t4])) :: ai ct ty 120 y :: [ai ct fo 7 (fun j => c (j + 1))]) (fun u => (x, .inr (5, [.ref st, .ref kt, .int ik, .ref (tr 0), .ref sc, .ref sh, .ref fo])) :: (sc, .inr (2, [.ref ty, .int u.1, .int t1, .int t2, .int t3, .int t4])) :: ai ct ty 120 u.2.1 :: [ai ct fo 7 (fun j => u.2.2 (j + 1))]) (fun r u => (r, u.1, u.2.1, u.2.2) = sFeed ts y c x1 x2) := by
  refine MI.of (cc := cX5_feed) (maxL := 4) (ret := (some .int)) (by decide) rfl (Nat.le_of_ble_eq_true rfl) ?_
  intro pg en z mi below meth cd A F hr hlk hin hK hP hD hA hS hE ls hl
  have F : CallFix pg mi cd cX5_feed 4 z _ wsX5_feed RX5 := F
  have hl : lv_has ls 4 [(0, .ref x), (1, .int x1), (2, .int x2)] := hl
  refine lv_iload_n F.1 F.2.1 dX5_feed_0 rfl (lv_at hl 2 rfl) ?_
  refine lv_iconst (v := 1) F.1 F.2.1 dX5_feed_1 (by decide) ?_
  refine lv_iconst (v := 4) F.1 F.2.1 dX5_feed_2 (by decide) ?_
  refine iS (rest := []) (wsp := fun _ => (x, .inr (5, [.ref st, .ref kt, .int ik, .ref (tr 0), .ref sc, .ref sh, .ref fo])) :: (sc, .inr (2, [.ref ty, .int ts, .int t1, .int t2, .int t3, .int t4])) :: ai ct ty 120 y :: [ai ct fo 7 (fun j => c (j + 1))]) F (kX5_isIn l dC dI ct x2 1 4) gX5_feed_X5_isIn rfl ⟨rfl, rfl⟩ nmX5_isIn ⟨Nat.le_of_ble_eq_true rfl, Nat.le_of_ble_eq_true rfl⟩ eT_b (fun _ _ _ => trivial) hK hP hD hS hA [] (by decide) rfl rfl rfl hl.1 (Nat.le_of_ble_eq_true rfl) dX5_feed_3 ⟨Nat.zero_le _, Nat.zero_le _⟩ (fun _ => rfl) (fun _ => rfl) [x, sc, ty, fo] rfl (fun _ => rfl) (fun r_3 u_3 H locs e_3 hP hD hS => ?_)
  obtain rfl := e_3
  refine lv_if_ne (tgt := 15) F.1 F.2.1 dX5_feed_6 (by decide) (fun c_6 => ?_) (fun c_6 => ?_)
  · have c_6 : 1 ≤ x2 ∧ x2 ≤ 4 := b01t rfl c_6
    obtain ⟨n, hn1, hn, rfl⟩ := g4_n c_6
    obtain ⟨m, hm, rfl⟩ := hT
    refine lv_aload_n F.1 F.2.1 dX5_feed_15 rfl (lv_at hl 0 rfl) ?_
    refine gf F hK hP 0 rfl rfl hiX5_feed_5 4 (by decide) (List.mem_of_getElem? (i := 1) rfl) rfl dX5_feed_16 ?_
    refine gf F hK hP 1 rfl rfl hiX5_feed_2 1 (by decide) (List.mem_of_getElem? (i := 2) rfl) rfl dX5_feed_19 ?_
    refine lv_iload_n F.1 F.2.1 dX5_feed_22 rfl (lv_at hl 2 rfl) ?_
    refine lv_iadd F.1 F.2.1 dX5_feed_23 ?_
    refine tp (y := nI (m + n)) (ad2 (a := m) (b := n) (c := m + n) rfl rfl rfl) ?_
    refine lv_bipush (v := 120) F.1 F.2.1 dX5_feed_24 (by decide) ?_
    refine lv_icmp_le (tgt := 35) F.1 F.2.1 dX5_feed_26 (by decide) (fun c_26 => ?_) (fun c_26 => ?_)
    · have hmn : m + n ≤ 120 := (nI_leI (a := m + n) (b := 120) (by omega) (by omega)).mp c_26
      refine lv_iload_n F.1 F.2.1 dX5_feed_35 rfl (lv_at hl 2 rfl) ?_
      refine lv_iconst (v := 1) F.1 F.2.1 dX5_feed_36 (by decide) ?_
      refine lv_isub F.1 F.2.1 dX5_feed_37 ?_
      refine lv_istore_n (lv' := [(3, .int ((nI n) - 1)), (0, .ref x), (1, .int x1), (2, .int (nI n))]) F.1 F.2.1 dX5_feed_38 rfl hl (by decide) rfl (fun ls hl => ?_)
      refine loopN (I := fun k H locs ls => va_P (dC, dI) vwCl ((x, .inr (5, [.ref st, .ref kt, .int ik, .ref (tr 0), .ref sc, .ref sh, .ref fo])) :: (sc, .inr (2, [.ref ty, .int (nI (m + k)), .int t1, .int t2, .int t3, .int t4])) :: ai ct ty 120 (fdU y m x1 n k) :: [ai ct fo 7 (fun j => c (j + 1))]) H ∧ va_D A ((x, .inr (5, [.ref st, .ref kt, .int ik, .ref (tr 0), .ref sc, .ref sh, .ref fo])) :: (sc, .inr (2, [.ref ty, .int (nI (m + k)), .int t1, .int t2, .int t3, .int t4])) :: ai ct ty 120 (fdU y m x1 n k) :: [ai ct fo 7 (fun j => c (j + 1))]) ∧ va_S A z.heap H locs ∧ lv_has ls 4 [(3, .int (nI n - nI (k + 1))), (0, .ref x), (1, .int x1), (2, .int (nI n))]) n 0 (by omega) ⟨hP, hD, hS, lv_sub hl [0, 1, 2, 3] rfl⟩ (fun H locs ls hI => ?_) (fun k hk_k H locs ls hI ih_39 => ?_)
      · obtain ⟨hP, hD, hS, hl⟩ := hI
        refine lv_iload_n F.1 F.2.1 dX5_feed_39 rfl (lv_at hl 0 rfl) ?_
        refine lv_if_lt (tgt := 66) F.1 F.2.1 dX5_feed_40 (by decide) (fun c_40 => ?_) (fun c_40 => ?_)
        · refine lv_aload_n F.1 F.2.1 dX5_feed_66 rfl (lv_at hl 1 rfl) ?_
          refine gf F hK hP 0 rfl rfl hiX5_feed_5 4 (by decide) (List.mem_of_getElem? (i := 1) rfl) rfl dX5_feed_67 ?_
          refine gf F hK hP 1 rfl rfl hiX5_feed_2 1 (by decide) (List.mem_of_getElem? (i := 2) rfl) rfl dX5_feed_70 ?_
          exact rtI (nI (m + n), (fdU y m x1 n n), c) F hr hlk hP hS rfl (Eq.trans (by rw [show tn (nI n) = n from nI_clamp (by omega)]; unfold kFeed; rw [if_neg (by rw [nI_add]; exact Int32.not_lt.mpr c_26), show tn (nI m) = m from nI_clamp (by omega), nI_add] <;> rfl) (if_pos c_6).symm) dX5_feed_73
        · exact absurd (pk_sneg (by omega) (by omega)) c_40
      · obtain ⟨hP, hD, hS, hl⟩ := hI
        refine lv_iload_n F.1 F.2.1 dX5_feed_39 rfl (lv_at hl 0 rfl) ?_
        refine lv_if_lt (tgt := 66) F.1 F.2.1 dX5_feed_40 (by decide) (fun c_40 => ?_) (fun c_40 => ?_)
        · exact absurd c_40 (by rw [pk_sub (by omega)]; exact nI_pos (by omega))
        · refine lv_aload_n F.1 F.2.1 dX5_feed_43 rfl (lv_at hl 1 rfl) ?_
          refine gf F hK hP 0 rfl rfl hiX5_feed_5 4 (by decide) (List.mem_of_getElem? (i := 1) rfl) rfl dX5_feed_44 ?_
          refine lv_iload_n F.1 F.2.1 dX5_feed_47 rfl (lv_at hl 2 rfl) ?_
          refine lv_bipush (v := 8) F.1 F.2.1 dX5_feed_48 (by decide) ?_
          refine lv_iload_n F.1 F.2.1 dX5_feed_50 rfl (lv_at hl 0 rfl) ?_
          refine tp (y := nI (n - 1 - k)) ((pk_sub (by omega)).trans (congrArg nI (by omega))) ?_
          refine lv_imul F.1 F.2.1 dX5_feed_51 ?_
          refine tp (y := nI (8 * (n - 1 - k))) (ml2 (a := 8) (b := n - 1 - k) (c := 8 * (n - 1 - k)) rfl rfl rfl) ?_
          refine lv_iushr F.1 F.2.1 dX5_feed_52 rfl ?_
          refine lv_sipush (v := 255) F.1 F.2.1 dX5_feed_53 (by decide) ?_
          refine lv_iand F.1 F.2.1 dX5_feed_56 ?_
          refine vV (rest := []) (wsp := fun _ => (x, .inr (5, [.ref st, .ref kt, .int ik, .ref (tr 0), .ref sc, .ref sh, .ref fo])) :: (sc, .inr (2, [.ref ty, .int (nI ((m + k) + 1)), .int t1, .int t2, .int t3, .int t4])) :: ai ct ty 120 (upd (fdU y m x1 n k) (m + k) (((x1.toUInt32 >>> ((nI (8 * (n - 1 - k))).toUInt32 &&& Int32.toUInt32 31)).toInt32) &&& 255)) :: [ai ct fo 7 (fun j => c (j + 1))]) F (kX2_append l dC dI ct sc ty t1 t2 t3 t4 (m + k) (fdU y m x1 n k) (((x1.toUInt32 >>> ((nI (8 * (n - 1 - k))).toUInt32 &&& Int32.toUInt32 31)).toInt32) &&& 255) (by omega)) gX5_feed_X2_append rfl ⟨rfl, rfl⟩ nmX2_append ⟨Nat.le_of_ble_eq_true rfl, Nat.le_of_ble_eq_true rfl⟩ eT_b (fun _ _ _ => trivial) hK hP hD hS hA 1 rfl rfl rfl [1, 2] (by decide) rfl rfl rfl hl.1 (Nat.le_of_ble_eq_true rfl) dX5_feed_57 ⟨Nat.zero_le _, Nat.zero_le _⟩ (fun _ => rfl) (fun _ => rfl) [x, sc, ty, fo] rfl (fun _ => rfl) (fun u_57 H locs e_57 hP hD hS => ?_)
          refine lv_iinc (v := nI n - nI (k + 1 + 1)) (lv' := [(3, .int (nI n - nI (k + 1 + 1))), (0, .ref x), (1, .int x1), (2, .int (nI n))]) F.1 F.2.1 dX5_feed_60 hl (k := 0) rfl (fd_dec n k) (by decide) rfl (fun ls hl => ?_)
          refine lv_goto (tgt := 39) F.1 F.2.1 dX5_feed_63 (by decide) ?_
          rw [fd_by x1 (show n - 1 - k < 4 by omega)] at hP hD
          exact ih_39 _ _ _ ⟨hP, hD, hS, lv_sub hl [0, 1, 2, 3] rfl⟩
    · refine lv_aload_n F.1 F.2.1 dX5_feed_29 rfl (lv_at hl 0 rfl) ?_
      refine lv_iconst (v := 1) F.1 F.2.1 dX5_feed_30 (by decide) ?_
      refine iV (rest := []) (wsp := fun _ => (x, .inr (5, [.ref st, .ref kt, .int ik, .ref (tr 0), .ref sc, .ref sh, .ref fo])) :: (sc, .inr (2, [.ref ty, .int (nI m), .int t1, .int t2, .int t3, .int t4])) :: ai ct ty 120 y :: [ai ct fo 7 (fun j => (fnd c 2) (j + 1))]) F (kX5_finding l dC dI ct x st kt sc sh fo tr ik c 1 2 (-1000002) (by decide) (by decide) (by decide)) gX5_feed_X5_finding rfl ⟨rfl, rfl⟩ nmX5_finding ⟨Nat.le_of_ble_eq_true rfl, Nat.le_of_ble_eq_true rfl⟩ eT_b (fun _ _ _ => trivial) hK hP hD hS hA 0 rfl rfl rfl [0, 3] (by decide) rfl rfl rfl hl.1 (Nat.le_of_ble_eq_true rfl) dX5_feed_31 ⟨Nat.zero_le _, Nat.zero_le _⟩ (fun _ => rfl) (fun _ => rfl) [x, sc, ty, fo] rfl (fun _ => rfl) (fun r_31 u_31 H locs e_31 hP hD hS => ?_)
      obtain rfl := e_31
      exact rtI (nI m, y, (fnd c 2)) F hr hlk hP hS rfl (Eq.trans (by rw [show tn (nI n) = n from nI_clamp (by omega)]; unfold kFeed; rw [if_pos (by rw [nI_add]; exact Int32.not_le.mp c_26)] <;> rfl) (if_pos c_6).symm) dX5_feed_34
  · have c_6 : ¬ (1 ≤ x2 ∧ x2 ≤ 4) := b01f rfl c_6
    refine lv_aload_n F.1 F.2.1 dX5_feed_9 rfl (lv_at hl 0 rfl) ?_
    refine lv_iconst (v := 0) F.1 F.2.1 dX5_feed_10 (by decide) ?_
    refine iV (rest := []) (wsp := fun _ => (x, .inr (5, [.ref st, .ref kt, .int ik, .ref (tr 0), .ref sc, .ref sh, .ref fo])) :: (sc, .inr (2, [.ref ty, .int ts, .int t1, .int t2, .int t3, .int t4])) :: ai ct ty 120 y :: [ai ct fo 7 (fun j => (fnd c 1) (j + 1))]) F (kX5_finding l dC dI ct x st kt sc sh fo tr ik c 0 1 (-1000001) (by decide) (by decide) (by decide)) gX5_feed_X5_finding rfl ⟨rfl, rfl⟩ nmX5_finding ⟨Nat.le_of_ble_eq_true rfl, Nat.le_of_ble_eq_true rfl⟩ eT_b (fun _ _ _ => trivial) hK hP hD hS hA 0 rfl rfl rfl [0, 3] (by decide) rfl rfl rfl hl.1 (Nat.le_of_ble_eq_true rfl) dX5_feed_11 ⟨Nat.zero_le _, Nat.zero_le _⟩ (fun _ => rfl) (fun _ => rfl) [x, sc, ty, fo] rfl (fun _ => rfl) (fun r_11 u_11 H locs e_11 hP hD hS => ?_)
    obtain rfl := e_11
    exact rtI (ts, y, (fnd c 1)) F hr hlk hP hS rfl ((if_neg c_6).symm) dX5_feed_14

def rmX5_wipe : Room := { frames := 0, cells := 0, slots := 0, locals := 0 }
theorem nmX5_wipe : NmV yX5_wipe RX5 0 := by unfold NmV; decide +kernel
theorem hiX5_wipe_2 : ∀ w ∈ u_ws RX2 TX2 6, w ∈ wsX5_wipe := by decide +kernel
theorem hiX5_wipe_5 : ∀ w ∈ u_ws RX5 TX5 7, w ∈ wsX5_wipe := by decide +kernel
set_option maxHeartbeats 4000000 in
set_option maxRecDepth 100000 in
theorem kX5_wipe (l : Launch) (dC : Nat → ClassId) (dI : Nat → Nat → Nat) (ct : Nat → ClassId) (x st kt sc sh fo ty : Nat) (tr : Nat → Nat) (ik ts t1 t2 t3 t4 : Int32) : MI (S := Unit) l yX5_wipe wsX5_wipe rmX5_wipe dC dI ct eT [.ref x] ((x, .inr (5, [.ref st, .ref kt, .int ik, .ref (tr 0), .ref sc, .ref sh, .ref fo])) :: [(sc, .inr (2, [.ref ty, .int ts, .int t1, .int t2, .int t3, .int t4]))]) (fun _ => (x, .inr (5, [.ref st, .ref kt, .int ik, .ref (tr 0), .ref sc, .ref sh, .ref fo])) :: [(sc, .inr (2, [.ref ty, .int 0, .int t1, .int t2, .int t3, .int t4]))]) (fun r _ => r = ts) := by
  refine MI.of (cc := cX5_wipe) (maxL := 2) (ret := (some .int)) (by decide) rfl (Nat.le_of_ble_eq_true rfl) ?_
  intro pg en z mi below meth cd A F hr hlk hin hK hP hD hA hS hE ls hl
  have F : CallFix pg mi cd cX5_wipe 2 z _ wsX5_wipe RX5 := F
  have hl : lv_has ls 2 [(0, .ref x)] := hl
  refine lv_aload_n F.1 F.2.1 dX5_wipe_0 rfl (lv_at hl 0 rfl) ?_
  refine gf F hK hP 0 rfl rfl hiX5_wipe_5 4 (by decide) (List.mem_of_getElem? (i := 1) rfl) rfl dX5_wipe_1 ?_
  refine gf F hK hP 1 rfl rfl hiX5_wipe_2 1 (by decide) (List.mem_of_getElem? (i := 2) rfl) rfl dX5_wipe_4 ?_
  refine lv_istore_n (lv' := [(1, .int ts), (0, .ref x)]) F.1 F.2.1 dX5_wipe_7 rfl hl (by decide) rfl (fun ls hl => ?_)
  refine lv_aload_n F.1 F.2.1 dX5_wipe_8 rfl (lv_at hl 1 rfl) ?_
  refine gf F hK hP 0 rfl rfl hiX5_wipe_5 4 (by decide) (List.mem_of_getElem? (i := 1) rfl) rfl dX5_wipe_9 ?_
  refine lv_iconst (v := 0) F.1 F.2.1 dX5_wipe_12 (by decide) ?_
  refine pf (ws' := (x, .inr (5, [.ref st, .ref kt, .int ik, .ref (tr 0), .ref sc, .ref sh, .ref fo])) :: [(sc, .inr (2, [.ref ty, .int 0, .int t1, .int t2, .int t3, .int t4]))]) F hK hP hD hS 1 rfl rfl hiX5_wipe_2 tyX2 tyX2_ok nmX2 1 (by decide) (List.mem_of_getElem? (i := 2) rfl) rfl rfl rfl (Nat.le_of_ble_eq_true rfl) dX5_wipe_13 (weq.rf _) (fun H locs hP hD hS => ?_)
  refine lv_iload_n F.1 F.2.1 dX5_wipe_16 rfl (lv_at hl 0 rfl) ?_
  exact rtI () F hr hlk hP hS rfl rfl dX5_wipe_17

def rmX5_count : Room := { frames := 1, cells := 0, slots := 0, locals := 23 }
theorem nmX5_count : NmV yX5_count RX5 1 := by unfold NmV; decide +kernel
theorem hiX5_count_1 : ∀ w ∈ u_ws RX1 TX1 10, w ∈ wsX5_count := by decide +kernel
theorem hiX5_count_2 : ∀ w ∈ u_ws RX2 TX2 6, w ∈ wsX5_count := by decide +kernel
theorem hiX5_count_4 : ∀ w ∈ u_ws RX4 TX4 4, w ∈ wsX5_count := by decide +kernel
theorem hiX5_count_5 : ∀ w ∈ u_ws RX5 TX5 7, w ∈ wsX5_count := by decide +kernel
set_option maxHeartbeats 4000000 in
set_option maxRecDepth 100000 in
theorem kX5_count (l : Launch) (dC : Nat → ClassId) (dI : Nat → Nat → Nat) (ct : Nat → ClassId) (x st kt sc sh fo bk sp ty : Nat) (tr b : Nat → Nat) (ik ts t1 t2 t3 t4 : Int32) (f c : Nat → Int32) (x1 : Int32) (hS4 : RS f) : MI (S := (Nat → Int32) × (Nat → Int32)) l yX5_count wsX5_count rmX5_count dC dI ct eT [.ref x, .int x1] ((x, .inr (5, [.ref st, .ref kt, .int ik, .ref (tr 0), .ref sc, .ref sh, .ref fo])) :: (st, .inr (4, [.ref (b 0), .ref bk, .ref sp, .int (f 4)])) :: wB ct b f ++ (ai ct sp 10 (fun j => f (5 + j)) :: (sc, .inr (2, [.ref ty, .int ts, .int t1, .int t2, .int t3, .int t4])) :: [ai ct fo 7 (fun j => c (j + 1))])) (fun u => (x, .inr (5, [.ref st, .ref kt, .int ik, .ref (tr 0), .ref sc, .ref sh, .ref fo])) :: (st, .inr (4, [.ref (b 0), .ref bk, .ref sp, .int (u.1 4)])) :: wB ct b u.1 ++ (ai ct sp 10 (fun j => u.1 (5 + j)) :: (sc, .inr (2, [.ref ty, .int ts, .int t1, .int t2, .int t3, .int t4])) :: [ai ct fo 7 (fun j => u.2 (j + 1))])) (fun r u => (r, u.1, u.2) = sCount f c ts x1) := by
  refine MI.of (cc := cX5_count) (maxL := 3) (ret := (some .int)) (by decide) rfl (Nat.le_of_ble_eq_true rfl) ?_
  intro pg en z mi below meth cd A F hr hlk hin hK hP hD hA hS hE ls hl
  have F : CallFix pg mi cd cX5_count 3 z _ wsX5_count RX5 := F
  have hl : lv_has ls 3 [(0, .ref x), (1, .int x1)] := hl
  refine lv_aload_n F.1 F.2.1 dX5_count_0 rfl (lv_at hl 0 rfl) ?_
  refine gf F hK hP 0 rfl rfl hiX5_count_5 0 (by decide) (List.mem_of_getElem? (i := 1) rfl) rfl dX5_count_1 ?_
  refine gf F hK hP 1 rfl rfl hiX5_count_4 0 (by decide) (List.mem_of_getElem? (i := 2) rfl) rfl dX5_count_4 ?_
  refine lv_astore_n (lv' := [(2, .ref (b 0)), (0, .ref x), (1, .int x1)]) F.1 F.2.1 dX5_count_7 rfl hl (by decide) rfl (fun ls hl => ?_)
  refine lv_iload_n F.1 F.2.1 dX5_count_8 rfl (lv_at hl 2 rfl) ?_
  by_cases k9_0 : x1 = 0
  · refine tp k9_0 ?_
    refine lv_tableIn (x := 0) (tgt := 56) F.1 F.2.1 dX5_count_9 (by decide) (by decide) rfl (by decide) ?_
    refine lv_aload_n F.1 F.2.1 dX5_count_56 rfl (lv_at hl 0 rfl) ?_
    refine gf F hK hP 2 rfl rfl hiX5_count_1 7 (by decide) (List.mem_of_getElem? (i := 3) rfl) rfl dX5_count_57 ?_
    exact rtI (f, c) F hr hlk hP hS rfl (by unfold sCount; rw [if_pos k9_0]) dX5_count_60
  by_cases k9_1 : x1 = 1
  · refine tp k9_1 ?_
    refine lv_tableIn (x := 1) (tgt := 61) F.1 F.2.1 dX5_count_9 (by decide) (by decide) rfl (by decide) ?_
    refine lv_aload_n F.1 F.2.1 dX5_count_61 rfl (lv_at hl 0 rfl) ?_
    refine gf F hK hP 2 rfl rfl hiX5_count_1 8 (by decide) (List.mem_of_getElem? (i := 4) rfl) rfl dX5_count_62 ?_
    exact rtI (f, c) F hr hlk hP hS rfl (by unfold sCount; rw [if_neg k9_0, if_pos k9_1]) dX5_count_65
  by_cases k9_2 : x1 = 2
  · refine tp k9_2 ?_
    refine lv_tableIn (x := 2) (tgt := 66) F.1 F.2.1 dX5_count_9 (by decide) (by decide) rfl (by decide) ?_
    refine lv_aload_n F.1 F.2.1 dX5_count_66 rfl (lv_at hl 0 rfl) ?_
    refine lv_iconst (v := 0) F.1 F.2.1 dX5_count_67 (by decide) ?_
    refine iV (rest := []) (wsp := fun _ => (x, .inr (5, [.ref st, .ref kt, .int ik, .ref (tr 0), .ref sc, .ref sh, .ref fo])) :: (st, .inr (4, [.ref (b 0), .ref bk, .ref sp, .int (f 4)])) :: wB ct b f ++ (ai ct sp 10 (fun j => f (5 + j)) :: (sc, .inr (2, [.ref ty, .int ts, .int t1, .int t2, .int t3, .int t4])) :: [ai ct fo 7 (fun j => c (j + 1))])) F (kX1_heapCount l dC dI ct b f 0 (by omega)) gX5_count_X1_heapCount rfl ⟨rfl, rfl⟩ nmX1_heapCount ⟨Nat.le_of_ble_eq_true rfl, Nat.le_of_ble_eq_true rfl⟩ eT_b (fun _ _ _ => trivial) hK hP hD hS hA 2 rfl rfl rfl [2, 3, 4, 5, 6, 7, 8] (by decide) rfl rfl rfl hl.1 (Nat.le_of_ble_eq_true rfl) dX5_count_68 ⟨Nat.zero_le _, Nat.zero_le _⟩ (fun _ => rfl) (fun _ => rfl) [x, st, b 0, b 1, b 2, b 3, b 4, b 5, b 6, sp, sc, fo] rfl (fun _ => rfl) (fun r_68 u_68 H locs e_68 hP hD hS => ?_)
    obtain rfl := e_68
    refine lv_aload_n F.1 F.2.1 dX5_count_71 rfl (lv_at hl 0 rfl) ?_
    refine lv_iconst (v := 1) F.1 F.2.1 dX5_count_72 (by decide) ?_
    refine iV (rest := [.int (sumU f (27 + 17 * 0) 5)]) (wsp := fun _ => (x, .inr (5, [.ref st, .ref kt, .int ik, .ref (tr 0), .ref sc, .ref sh, .ref fo])) :: (st, .inr (4, [.ref (b 0), .ref bk, .ref sp, .int (f 4)])) :: wB ct b f ++ (ai ct sp 10 (fun j => f (5 + j)) :: (sc, .inr (2, [.ref ty, .int ts, .int t1, .int t2, .int t3, .int t4])) :: [ai ct fo 7 (fun j => c (j + 1))])) F (kX1_heapCount l dC dI ct b f 1 (by omega)) gX5_count_X1_heapCount rfl ⟨rfl, rfl⟩ nmX1_heapCount ⟨Nat.le_of_ble_eq_true rfl, Nat.le_of_ble_eq_true rfl⟩ eT_b (fun _ _ _ => trivial) hK hP hD hS hA 2 rfl rfl rfl [2, 3, 4, 5, 6, 7, 8] (by decide) rfl rfl rfl hl.1 (Nat.le_of_ble_eq_true rfl) dX5_count_73 ⟨Nat.zero_le _, Nat.zero_le _⟩ (fun _ => rfl) (fun _ => rfl) [x, st, b 0, b 1, b 2, b 3, b 4, b 5, b 6, sp, sc, fo] rfl (fun _ => rfl) (fun r_73 u_73 H locs e_73 hP hD hS => ?_)
    obtain rfl := e_73
    refine lv_iadd F.1 F.2.1 dX5_count_76 ?_
    exact rtI (f, c) F hr hlk hP hS rfl (by unfold sCount; rw [if_neg k9_0, if_neg k9_1, if_pos k9_2]) dX5_count_77
  by_cases k9_3 : x1 = 3
  · refine tp k9_3 ?_
    refine lv_tableIn (x := 3) (tgt := 78) F.1 F.2.1 dX5_count_9 (by decide) (by decide) rfl (by decide) ?_
    refine lv_aload_n F.1 F.2.1 dX5_count_78 rfl (lv_at hl 0 rfl) ?_
    refine gf F hK hP 2 rfl rfl hiX5_count_1 5 (by decide) (List.mem_of_getElem? (i := 5) rfl) rfl dX5_count_79 ?_
    refine lv_iconst (v := 0) F.1 F.2.1 dX5_count_82 (by decide) ?_
    refine al (v := f (21 + 17 * 0)) F hK hP 8 0 rfl rfl 0 rfl (by omega) (by decide) rfl dX5_count_83 ?_
    refine lv_aload_n F.1 F.2.1 dX5_count_84 rfl (lv_at hl 0 rfl) ?_
    refine gf F hK hP 2 rfl rfl hiX5_count_1 5 (by decide) (List.mem_of_getElem? (i := 5) rfl) rfl dX5_count_85 ?_
    refine lv_iconst (v := 1) F.1 F.2.1 dX5_count_88 (by decide) ?_
    refine al (v := f (21 + 17 * 1)) F hK hP 8 0 rfl rfl 1 rfl (by omega) (by decide) rfl dX5_count_89 ?_
    refine lv_iadd F.1 F.2.1 dX5_count_90 ?_
    exact rtI (f, c) F hr hlk hP hS rfl (by unfold sCount; rw [if_neg k9_0, if_neg k9_1, if_neg k9_2, if_pos k9_3]) dX5_count_91
  by_cases k9_4 : x1 = 4
  · refine tp k9_4 ?_
    refine lv_tableIn (x := 4) (tgt := 92) F.1 F.2.1 dX5_count_9 (by decide) (by decide) rfl (by decide) ?_
    refine lv_aload_n F.1 F.2.1 dX5_count_92 rfl (lv_at hl 0 rfl) ?_
    refine gf F hK hP 2 rfl rfl hiX5_count_1 9 (by decide) (List.mem_of_getElem? (i := 6) rfl) rfl dX5_count_93 ?_
    exact rtI (f, c) F hr hlk hP hS rfl (by unfold sCount; rw [if_neg k9_0, if_neg k9_1, if_neg k9_2, if_neg k9_3, if_pos k9_4]) dX5_count_96
  by_cases k9_5 : x1 = 5
  · refine tp k9_5 ?_
    refine lv_tableIn (x := 5) (tgt := 97) F.1 F.2.1 dX5_count_9 (by decide) (by decide) rfl (by decide) ?_
    refine lv_aload_n F.1 F.2.1 dX5_count_97 rfl (lv_at hl 1 rfl) ?_
    refine gf F hK hP 0 rfl rfl hiX5_count_5 4 (by decide) (List.mem_of_getElem? (i := 7) rfl) rfl dX5_count_98 ?_
    refine gf F hK hP 10 rfl rfl hiX5_count_2 1 (by decide) (List.mem_of_getElem? (i := 8) rfl) rfl dX5_count_101 ?_
    exact rtI (f, c) F hr hlk hP hS rfl (by unfold sCount; rw [if_neg k9_0, if_neg k9_1, if_neg k9_2, if_neg k9_3, if_neg k9_4, if_pos k9_5]) dX5_count_104
  by_cases k9_6 : x1 = 6
  · refine tp k9_6 ?_
    refine lv_tableIn (x := 6) (tgt := 105) F.1 F.2.1 dX5_count_9 (by decide) (by decide) rfl (by decide) ?_
    refine lv_aload_n F.1 F.2.1 dX5_count_105 rfl (lv_at hl 1 rfl) ?_
    refine gf F hK hP 0 rfl rfl hiX5_count_5 0 (by decide) (List.mem_of_getElem? (i := 1) rfl) rfl dX5_count_106 ?_
    refine gf F hK hP 1 rfl rfl hiX5_count_4 3 (by decide) (List.mem_of_getElem? (i := 9) rfl) rfl dX5_count_109 ?_
    exact rtI (f, c) F hr hlk hP hS rfl (by unfold sCount; rw [if_neg k9_0, if_neg k9_1, if_neg k9_2, if_neg k9_3, if_neg k9_4, if_neg k9_5, if_pos k9_6]) dX5_count_112
  by_cases k9_7 : x1 = 7
  · refine tp k9_7 ?_
    refine lv_tableIn (x := 7) (tgt := 113) F.1 F.2.1 dX5_count_9 (by decide) (by decide) rfl (by decide) ?_
    refine lv_aload_n F.1 F.2.1 dX5_count_113 rfl (lv_at hl 1 rfl) ?_
    refine gf F hK hP 0 rfl rfl hiX5_count_5 0 (by decide) (List.mem_of_getElem? (i := 1) rfl) rfl dX5_count_114 ?_
    refine iV (rest := []) (wsp := fun _ => (x, .inr (5, [.ref st, .ref kt, .int ik, .ref (tr 0), .ref sc, .ref sh, .ref fo])) :: (st, .inr (4, [.ref (b 0), .ref bk, .ref sp, .int (f 4)])) :: wB ct b f ++ (ai ct sp 10 (fun j => f (5 + j)) :: (sc, .inr (2, [.ref ty, .int ts, .int t1, .int t2, .int t3, .int t4])) :: [ai ct fo 7 (fun j => c (j + 1))])) F (kX4_spotsInUse l dC dI ct st bk sp b (f 4) f) gX5_count_X4_spotsInUse rfl ⟨rfl, rfl⟩ nmX4_spotsInUse ⟨Nat.le_of_ble_eq_true rfl, Nat.le_of_ble_eq_true rfl⟩ eT_b (fun _ _ _ => trivial) hK hP hD hS hA 1 rfl rfl rfl [1, 9] (by decide) rfl rfl rfl hl.1 (Nat.le_of_ble_eq_true rfl) dX5_count_117 ⟨Nat.zero_le _, Nat.zero_le _⟩ (fun _ => rfl) (fun _ => rfl) [x, st, b 0, b 1, b 2, b 3, b 4, b 5, b 6, sp, sc, fo] rfl (fun _ => rfl) (fun r_117 u_117 H locs e_117 hP hD hS => ?_)
    obtain rfl := e_117
    exact rtI (f, c) F hr hlk hP hS rfl (by unfold sCount; rw [if_neg k9_0, if_neg k9_1, if_neg k9_2, if_neg k9_3, if_neg k9_4, if_neg k9_5, if_neg k9_6, if_pos k9_7, spN_eq hS4 10 (by omega)]) dX5_count_120
  refine lv_tableOut (tgt := 121) F.1 F.2.1 dX5_count_9 (ts_out (fun i h1 h2 => by rcases (show i = 0 ∨ i = 1 ∨ i = 2 ∨ i = 3 ∨ i = 4 ∨ i = 5 ∨ i = 6 ∨ i = 7 by omega) with rfl | rfl | rfl | rfl | rfl | rfl | rfl | rfl <;> assumption)) (by decide) ?_
  refine lv_aload_n F.1 F.2.1 dX5_count_121 rfl (lv_at hl 1 rfl) ?_
  refine lv_iconst (v := 0) F.1 F.2.1 dX5_count_122 (by decide) ?_
  refine iV (rest := []) (wsp := fun _ => (x, .inr (5, [.ref st, .ref kt, .int ik, .ref (tr 0), .ref sc, .ref sh, .ref fo])) :: (st, .inr (4, [.ref (b 0), .ref bk, .ref sp, .int (f 4)])) :: wB ct b f ++ (ai ct sp 10 (fun j => f (5 + j)) :: (sc, .inr (2, [.ref ty, .int ts, .int t1, .int t2, .int t3, .int t4])) :: [ai ct fo 7 (fun j => (fnd c 1) (j + 1))])) F (kX5_finding l dC dI ct x st kt sc sh fo tr ik c 0 1 (-1000001) (by decide) (by decide) (by decide)) gX5_count_X5_finding rfl ⟨rfl, rfl⟩ nmX5_finding ⟨Nat.le_of_ble_eq_true rfl, Nat.le_of_ble_eq_true rfl⟩ eT_b (fun _ _ _ => trivial) hK hP hD hS hA 0 rfl rfl rfl [0, 11] (by decide) rfl rfl rfl hl.1 (Nat.le_of_ble_eq_true rfl) dX5_count_123 ⟨Nat.zero_le _, Nat.zero_le _⟩ (fun _ => rfl) (fun _ => rfl) [x, st, b 0, b 1, b 2, b 3, b 4, b 5, b 6, sp, sc, fo] rfl (fun _ => rfl) (fun r_123 u_123 H locs e_123 hP hD hS => ?_)
  obtain rfl := e_123
  exact rtI (f, (fnd c 1)) F hr hlk hP hS rfl (by unfold sCount; rw [if_neg k9_0, if_neg k9_1, if_neg k9_2, if_neg k9_3, if_neg k9_4, if_neg k9_5, if_neg k9_6, if_neg k9_7]; rfl) dX5_count_126
