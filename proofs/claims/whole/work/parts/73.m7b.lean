def rmX6_feed : Room := { frames := 1, cells := 0, slots := 0, locals := 22 }
theorem nmX6_feed : NmV yX6_feed RX6 2 := by unfold NmV; decide +kernel
theorem hiX6_feed_6 : ∀ w ∈ u_ws RX6 TX6 22, w ∈ wsX6_feed := by decide +kernel
set_option maxHeartbeats 4000000 in
set_option maxRecDepth 100000 in
theorem kX6_feed (l : Launch) (dC : Nat → ClassId) (dI : Nat → Nat → Nat) (ct : Nat → ClassId) (a : Nat → Nat) (v y c : Nat → Int32) (x1 x2 : Int32) (hT : Nt 120 (v 8)) : MI (S := (Nat → Int32) × (Nat → Int32) × (Nat → Int32)) l yX6_feed wsX6_feed rmX6_feed dC dI ct eT [.ref (a 0), .int x1, .int x2] (oM a v :: ai ct (a 5) 120 y :: [ai ct (a 4) 8 c]) (fun u => oM a u.1 :: ai ct (a 5) 120 u.2.1 :: [ai ct (a 4) 8 u.2.2]) (fun r u => (r, u.1, u.2.1, u.2.2) = sFeedM v y c x1 x2) := by
  refine MI.of (cc := cX6_feed) (maxL := 4) (ret := (some .int)) (by decide) rfl (Nat.le_of_ble_eq_true rfl) ?_
  intro pg en z mi below meth cd A F hr hlk hin hK hP hD hA hS hE ls hl
  have F : CallFix pg mi cd cX6_feed 4 z _ wsX6_feed RX6 := F
  have hl : lv_has ls 4 [(0, .ref (a 0)), (1, .int x1), (2, .int x2)] := hl
  obtain ⟨m, hm, em⟩ := hT
  refine lv_iload_n F.1 F.2.1 dX6_feed_0 rfl (lv_at hl 2 rfl) ?_
  refine lv_iconst (v := 1) F.1 F.2.1 dX6_feed_1 (by decide) ?_
  refine lv_iconst (v := 4) F.1 F.2.1 dX6_feed_2 (by decide) ?_
  refine iS (rest := []) (wsp := fun _ => oM a v :: ai ct (a 5) 120 y :: [ai ct (a 4) 8 c]) F (kX6_within l dC dI ct x2 1 4) gX6_feed_X6_within rfl ⟨rfl, rfl⟩ nmX6_within ⟨Nat.le_of_ble_eq_true rfl, Nat.le_of_ble_eq_true rfl⟩ eT_b (fun _ _ _ => trivial) hK hP hD hS hA [] (by decide) rfl rfl rfl hl.1 (Nat.le_of_ble_eq_true rfl) dX6_feed_3 ⟨Nat.zero_le _, Nat.zero_le _⟩ (fun _ => rfl) (fun _ => rfl) [a 0, a 5, a 4] rfl (fun _ => rfl) (fun r_3 u_3 H locs e_3 hP hD hS => ?_)
  obtain rfl := e_3
  refine lv_if_ne (tgt := 16) F.1 F.2.1 dX6_feed_6 (by decide) (fun c_6 => ?_) (fun c_6 => ?_)
  · have c_6 : 1 ≤ x2 ∧ x2 ≤ 4 := b01t rfl c_6
    obtain ⟨n, hn1, hn, rfl⟩ := g4_n c_6
    refine lv_aload_n F.1 F.2.1 dX6_feed_16 rfl (lv_at hl 0 rfl) ?_
    refine gf F hK hP 0 rfl rfl hiX6_feed_6 8 (by decide) (List.mem_of_getElem? (i := 2) rfl) rfl dX6_feed_17 ?_
    refine tp (y := nI m) em ?_
    refine lv_iload_n F.1 F.2.1 dX6_feed_20 rfl (lv_at hl 2 rfl) ?_
    refine lv_iadd F.1 F.2.1 dX6_feed_21 ?_
    refine tp (y := nI (m + n)) (ad2 (a := m) (b := n) (c := m + n) rfl rfl rfl) ?_
    refine lv_bipush (v := 120) F.1 F.2.1 dX6_feed_22 (by decide) ?_
    refine lv_icmp_le (tgt := 34) F.1 F.2.1 dX6_feed_24 (by decide) (fun c_24 => ?_) (fun c_24 => ?_)
    · have hmn : m + n ≤ 120 := (nI_leI (a := m + n) (b := 120) (by omega) (by omega)).mp c_24
      refine lv_iload_n F.1 F.2.1 dX6_feed_34 rfl (lv_at hl 2 rfl) ?_
      refine lv_iconst (v := 1) F.1 F.2.1 dX6_feed_35 (by decide) ?_
      refine lv_isub F.1 F.2.1 dX6_feed_36 ?_
      rw [← upd_self v 8, em] at hP hD
      refine lv_istore_n (lv' := [(3, .int ((nI n) - 1)), (0, .ref (a 0)), (1, .int x1), (2, .int (nI n))]) F.1 F.2.1 dX6_feed_37 rfl hl (by decide) rfl (fun ls hl => ?_)
      refine loopN (I := fun k H locs ls => va_P (dC, dI) vwCl (oM a (upd v 8 (nI (m + k))) :: ai ct (a 5) 120 (fdU y m x1 n k) :: [ai ct (a 4) 8 c]) H ∧ va_D A (oM a (upd v 8 (nI (m + k))) :: ai ct (a 5) 120 (fdU y m x1 n k) :: [ai ct (a 4) 8 c]) ∧ va_S A z.heap H locs ∧ lv_has ls 4 [(3, .int (nI n - nI (k + 1))), (0, .ref (a 0)), (1, .int x1), (2, .int (nI n))]) n 0 (by omega) ⟨hP, hD, hS, lv_sub hl [0, 1, 2, 3] rfl⟩ (fun H locs ls hI => ?_) (fun k hk_k H locs ls hI ih_38 => ?_)
      · obtain ⟨hP, hD, hS, hl⟩ := hI
        refine lv_iload_n F.1 F.2.1 dX6_feed_38 rfl (lv_at hl 0 rfl) ?_
        refine lv_if_lt (tgt := 77) F.1 F.2.1 dX6_feed_39 (by decide) (fun c_39 => ?_) (fun c_39 => ?_)
        · refine lv_aload_n F.1 F.2.1 dX6_feed_77 rfl (lv_at hl 1 rfl) ?_
          refine gf F hK hP 0 rfl rfl hiX6_feed_6 8 (by decide) (List.mem_of_getElem? (i := 2) rfl) rfl dX6_feed_78 ?_
          refine tp (y := nI (m + n)) pk_us ?_
          exact rtI ((upd v 8 (nI (m + n))), (fdU y m x1 n n), c) F hr hlk hP hS rfl (Eq.trans (by rw [em, if_neg (by rw [nI_add]; exact Int32.not_lt.mpr c_24), show tn (nI m) = m from nI_clamp (by omega), show tn (nI n) = n from nI_clamp (by omega), nI_add]) (if_pos c_6).symm) dX6_feed_81
        · exact absurd (pk_sneg (by omega) (by omega)) c_39
      · obtain ⟨hP, hD, hS, hl⟩ := hI
        refine lv_iload_n F.1 F.2.1 dX6_feed_38 rfl (lv_at hl 0 rfl) ?_
        refine lv_if_lt (tgt := 77) F.1 F.2.1 dX6_feed_39 (by decide) (fun c_39 => ?_) (fun c_39 => ?_)
        · exact absurd c_39 (by rw [pk_sub (by omega)]; exact nI_pos (by omega))
        · refine lv_aload_n F.1 F.2.1 dX6_feed_42 rfl (lv_at hl 1 rfl) ?_
          refine gf F hK hP 0 rfl rfl hiX6_feed_6 7 (by decide) (List.mem_of_getElem? (i := 4) rfl) rfl dX6_feed_43 ?_
          refine lv_aload_n F.1 F.2.1 dX6_feed_46 rfl (lv_at hl 1 rfl) ?_
          refine gf F hK hP 0 rfl rfl hiX6_feed_6 8 (by decide) (List.mem_of_getElem? (i := 2) rfl) rfl dX6_feed_47 ?_
          refine tp (y := nI (m + k)) pk_us ?_
          refine lv_iload_n F.1 F.2.1 dX6_feed_50 rfl (lv_at hl 2 rfl) ?_
          refine lv_bipush (v := 8) F.1 F.2.1 dX6_feed_51 (by decide) ?_
          refine lv_iload_n F.1 F.2.1 dX6_feed_53 rfl (lv_at hl 0 rfl) ?_
          refine tp (y := nI (n - 1 - k)) ((pk_sub (by omega)).trans (congrArg nI (by omega))) ?_
          refine lv_imul F.1 F.2.1 dX6_feed_54 ?_
          refine tp (y := nI (8 * (n - 1 - k))) (ml2 (a := 8) (b := n - 1 - k) (c := 8 * (n - 1 - k)) rfl rfl rfl) ?_
          refine lv_ishr F.1 F.2.1 dX6_feed_55 ?_
          refine lv_sipush (v := 255) F.1 F.2.1 dX6_feed_56 (by decide) ?_
          refine lv_iand F.1 F.2.1 dX6_feed_59 ?_
          refine ast (ws' := oM a (upd v 8 (nI (m + k))) :: ai ct (a 5) 120 (upd (fdU y m x1 n k) (m + k) ((x1 >>> ((nI (8 * (n - 1 - k))) &&& 31)) &&& 255)) :: [ai ct (a 4) 8 c]) F hK hP hD hS 1 0 rfl rfl (m + k) rfl (by omega) (by decide) dX6_feed_60 (weq.rf _) (fun H locs hP hD hS => ?_)
          refine lv_aload_n F.1 F.2.1 dX6_feed_61 rfl (lv_at hl 1 rfl) ?_
          refine lv_dup F.1 F.2.1 dX6_feed_62 rfl ?_
          refine gf F hK hP 0 rfl rfl hiX6_feed_6 8 (by decide) (List.mem_of_getElem? (i := 2) rfl) rfl dX6_feed_63 ?_
          refine tp (y := nI (m + k)) pk_us ?_
          refine lv_iconst (v := 1) F.1 F.2.1 dX6_feed_66 (by decide) ?_
          refine lv_iadd F.1 F.2.1 dX6_feed_67 ?_
          refine tp (y := nI (m + k + 1)) (ad2 (a := m + k) (b := 1) (c := m + k + 1) rfl rfl rfl) ?_
          refine pf (ws' := oM a (upd (upd v 8 (nI (m + k))) 8 (nI (m + k + 1))) :: ai ct (a 5) 120 (upd (fdU y m x1 n k) (m + k) ((x1 >>> ((nI (8 * (n - 1 - k))) &&& 31)) &&& 255)) :: [ai ct (a 4) 8 c]) F hK hP hD hS 0 rfl rfl hiX6_feed_6 tyX6 tyX6_ok nmX6 8 (by decide) (List.mem_of_getElem? (i := 2) rfl) rfl rfl rfl (Nat.le_of_ble_eq_true rfl) dX6_feed_68 (weq.rf _) (fun H locs hP hD hS => ?_)
          refine lv_iinc (v := nI n - nI (k + 1 + 1)) (lv' := [(3, .int (nI n - nI (k + 1 + 1))), (0, .ref (a 0)), (1, .int x1), (2, .int (nI n))]) F.1 F.2.1 dX6_feed_71 hl (k := 0) rfl (fd_dec n k) (by decide) rfl (fun ls hl => ?_)
          refine lv_goto (tgt := 38) F.1 F.2.1 dX6_feed_74 (by decide) ?_
          rw [upd_upd v 8] at hP hD
          exact ih_38 _ _ _ ⟨hP, hD, hS, lv_sub hl [0, 1, 2, 3] rfl⟩
    · refine lv_aload_n F.1 F.2.1 dX6_feed_27 rfl (lv_at hl 0 rfl) ?_
      refine lv_ldc (v := (-1000002)) F.1 F.2.1 F.2.2.2.1 (F.2.2.2.2 _ (List.mem_of_getElem? (i := 3) rfl)) dX6_feed_28 ?_
      refine iV (rest := []) (wsp := fun _ => oM a v :: ai ct (a 5) 120 y :: [ai ct (a 4) 8 (fnd c 2)]) F (kX6_finding l dC dI ct a v c (-1000002) 2 (by decide) (by decide) (by decide)) gX6_feed_X6_finding rfl ⟨rfl, rfl⟩ nmX6_finding ⟨Nat.le_of_ble_eq_true rfl, Nat.le_of_ble_eq_true rfl⟩ eT_b (fun _ _ _ => trivial) hK hP hD hS hA 0 rfl rfl rfl [0, 2] (by decide) rfl rfl rfl hl.1 (Nat.le_of_ble_eq_true rfl) dX6_feed_30 ⟨Nat.zero_le _, Nat.zero_le _⟩ (fun _ => rfl) (fun _ => rfl) [a 0, a 5, a 4] rfl (fun _ => rfl) (fun r_30 u_30 H locs e_30 hP hD hS => ?_)
      obtain rfl := e_30
      exact rtI (v, y, (fnd c 2)) F hr hlk hP hS rfl (Eq.trans (by rw [em, if_pos (by rw [nI_add]; exact Int32.not_le.mp c_24)]) (if_pos c_6).symm) dX6_feed_33
  · have c_6 : ¬ (1 ≤ x2 ∧ x2 ≤ 4) := b01f rfl c_6
    refine lv_aload_n F.1 F.2.1 dX6_feed_9 rfl (lv_at hl 0 rfl) ?_
    refine lv_ldc (v := (-1000001)) F.1 F.2.1 F.2.2.2.1 (F.2.2.2.2 _ (List.mem_of_getElem? (i := 1) rfl)) dX6_feed_10 ?_
    refine iV (rest := []) (wsp := fun _ => oM a v :: ai ct (a 5) 120 y :: [ai ct (a 4) 8 (fnd c 1)]) F (kX6_finding l dC dI ct a v c (-1000001) 1 (by decide) (by decide) (by decide)) gX6_feed_X6_finding rfl ⟨rfl, rfl⟩ nmX6_finding ⟨Nat.le_of_ble_eq_true rfl, Nat.le_of_ble_eq_true rfl⟩ eT_b (fun _ _ _ => trivial) hK hP hD hS hA 0 rfl rfl rfl [0, 2] (by decide) rfl rfl rfl hl.1 (Nat.le_of_ble_eq_true rfl) dX6_feed_12 ⟨Nat.zero_le _, Nat.zero_le _⟩ (fun _ => rfl) (fun _ => rfl) [a 0, a 5, a 4] rfl (fun _ => rfl) (fun r_12 u_12 H locs e_12 hP hD hS => ?_)
    obtain rfl := e_12
    exact rtI (v, y, (fnd c 1)) F hr hlk hP hS rfl ((if_neg c_6).symm) dX6_feed_15

def rmX6_wipe : Room := { frames := 0, cells := 0, slots := 0, locals := 0 }
theorem nmX6_wipe : NmV yX6_wipe RX6 0 := by unfold NmV; decide +kernel
theorem hiX6_wipe_6 : ∀ w ∈ u_ws RX6 TX6 22, w ∈ wsX6_wipe := by decide +kernel
set_option maxHeartbeats 4000000 in
set_option maxRecDepth 100000 in
theorem kX6_wipe (l : Launch) (dC : Nat → ClassId) (dI : Nat → Nat → Nat) (ct : Nat → ClassId) (a : Nat → Nat) (v : Nat → Int32) : MI (S := Unit) l yX6_wipe wsX6_wipe rmX6_wipe dC dI ct eT [.ref (a 0)] ([oM a v]) (fun _ => [oM a (upd v 8 0)]) (fun r _ => r = v 8) := by
  refine MI.of (cc := cX6_wipe) (maxL := 2) (ret := (some .int)) (by decide) rfl (Nat.le_of_ble_eq_true rfl) ?_
  intro pg en z mi below meth cd A F hr hlk hin hK hP hD hA hS hE ls hl
  have F : CallFix pg mi cd cX6_wipe 2 z _ wsX6_wipe RX6 := F
  have hl : lv_has ls 2 [(0, .ref (a 0))] := hl
  refine lv_aload_n F.1 F.2.1 dX6_wipe_0 rfl (lv_at hl 0 rfl) ?_
  refine gf F hK hP 0 rfl rfl hiX6_wipe_6 8 (by decide) (List.mem_of_getElem? (i := 1) rfl) rfl dX6_wipe_1 ?_
  refine lv_istore_n (lv' := [(1, .int (v 8)), (0, .ref (a 0))]) F.1 F.2.1 dX6_wipe_4 rfl hl (by decide) rfl (fun ls hl => ?_)
  refine lv_aload_n F.1 F.2.1 dX6_wipe_5 rfl (lv_at hl 1 rfl) ?_
  refine lv_iconst (v := 0) F.1 F.2.1 dX6_wipe_6 (by decide) ?_
  refine pf (ws' := [oM a (upd v 8 0)]) F hK hP hD hS 0 rfl rfl hiX6_wipe_6 tyX6 tyX6_ok nmX6 8 (by decide) (List.mem_of_getElem? (i := 1) rfl) rfl rfl rfl (Nat.le_of_ble_eq_true rfl) dX6_wipe_7 (weq.rf _) (fun H locs hP hD hS => ?_)
  refine lv_iload_n F.1 F.2.1 dX6_wipe_10 rfl (lv_at hl 0 rfl) ?_
  exact rtI () F hr hlk hP hS rfl rfl dX6_wipe_11

def rmX6_image : Room := { frames := 1, cells := 0, slots := 0, locals := 22 }
theorem nmX6_image : NmV yX6_image RX6 0 := by unfold NmV; decide +kernel
theorem hiX6_image_6 : ∀ w ∈ u_ws RX6 TX6 22, w ∈ wsX6_image := by decide +kernel
set_option maxHeartbeats 4000000 in
set_option maxRecDepth 100000 in
theorem kX6_image (l : Launch) (dC : Nat → ClassId) (dI : Nat → Nat → Nat) (ct : Nat → ClassId) (a : Nat → Nat) (v f h : Nat → Int32) : MI (S := Unit) l yX6_image wsX6_image rmX6_image dC dI ct eT [.ref (a 0)] (oM a v :: ai ct (a 1) 210 f :: [ai ct (a 2) 210 h]) (fun _ => oM a (upd v 3 1) :: ai ct (a 1) 210 f :: [ai ct (a 2) 210 f]) (fun r _ => r = 1) := by
  refine MI.of (cc := cX6_image) (maxL := 1) (ret := (some .int)) (by decide) rfl (Nat.le_of_ble_eq_true rfl) ?_
  intro pg en z mi below meth cd A F hr hlk hin hK hP hD hA hS hE ls hl
  have F : CallFix pg mi cd cX6_image 1 z _ wsX6_image RX6 := F
  have hl : lv_has ls 1 [(0, .ref (a 0))] := hl
  refine lv_aload_n F.1 F.2.1 dX6_image_0 rfl (lv_at hl 0 rfl) ?_
  refine gf F hK hP 0 rfl rfl hiX6_image_6 0 (by decide) (List.mem_of_getElem? (i := 1) rfl) rfl dX6_image_1 ?_
  refine lv_aload_n F.1 F.2.1 dX6_image_4 rfl (lv_at hl 0 rfl) ?_
  refine gf F hK hP 0 rfl rfl hiX6_image_6 1 (by decide) (List.mem_of_getElem? (i := 2) rfl) rfl dX6_image_5 ?_
  refine vS (rest := []) (wsp := fun _ => oM a v :: ai ct (a 1) 210 f :: [ai ct (a 2) 210 f]) F (kX6_copyRow l dC dI ct (a 1) (a 2) f h) gX6_image_X6_copyRow rfl ⟨rfl, rfl⟩ nmX6_copyRow ⟨Nat.le_of_ble_eq_true rfl, Nat.le_of_ble_eq_true rfl⟩ eT_b (fun _ _ _ => trivial) hK hP hD hS hA [1, 2] (by decide) rfl rfl rfl hl.1 (Nat.le_of_ble_eq_true rfl) dX6_image_8 ⟨Nat.zero_le _, Nat.zero_le _⟩ (fun _ => rfl) (fun _ => rfl) [a 0, a 1, a 2] rfl (fun _ => rfl) (fun u_8 H locs e_8 hP hD hS => ?_)
  refine lv_aload_n F.1 F.2.1 dX6_image_11 rfl (lv_at hl 0 rfl) ?_
  refine lv_iconst (v := 1) F.1 F.2.1 dX6_image_12 (by decide) ?_
  refine pf (ws' := oM a (upd v 3 1) :: ai ct (a 1) 210 f :: [ai ct (a 2) 210 f]) F hK hP hD hS 0 rfl rfl hiX6_image_6 tyX6 tyX6_ok nmX6 3 (by decide) (List.mem_of_getElem? (i := 3) rfl) rfl rfl rfl (Nat.le_of_ble_eq_true rfl) dX6_image_13 (weq.rf _) (fun H locs hP hD hS => ?_)
  refine lv_iconst (v := 1) F.1 F.2.1 dX6_image_16 (by decide) ?_
  exact rtI () F hr hlk hP hS rfl rfl dX6_image_17

def rmX6_tear : Room := { frames := 0, cells := 0, slots := 0, locals := 0 }
theorem nmX6_tear : NmV yX6_tear RX6 0 := by unfold NmV; decide +kernel
theorem hiX6_tear_6 : ∀ w ∈ u_ws RX6 TX6 22, w ∈ wsX6_tear := by decide +kernel
set_option maxHeartbeats 4000000 in
set_option maxRecDepth 100000 in
theorem kX6_tear (l : Launch) (dC : Nat → ClassId) (dI : Nat → Nat → Nat) (ct : Nat → ClassId) (a : Nat → Nat) (v : Nat → Int32) : MI (S := Unit) l yX6_tear wsX6_tear rmX6_tear dC dI ct eT [.ref (a 0)] ([oM a v]) (fun _ => [oM a (upd v 3 0)]) (fun r _ => r = if v 3 = 0 then 0 else 1) := by
  refine MI.of (cc := cX6_tear) (maxL := 2) (ret := (some .int)) (by decide) rfl (Nat.le_of_ble_eq_true rfl) ?_
  intro pg en z mi below meth cd A F hr hlk hin hK hP hD hA hS hE ls hl
  have F : CallFix pg mi cd cX6_tear 2 z _ wsX6_tear RX6 := F
  have hl : lv_has ls 2 [(0, .ref (a 0))] := hl
  refine lv_aload_n F.1 F.2.1 dX6_tear_0 rfl (lv_at hl 0 rfl) ?_
  refine gf F hK hP 0 rfl rfl hiX6_tear_6 3 (by decide) (List.mem_of_getElem? (i := 1) rfl) rfl dX6_tear_1 ?_
  refine lv_if_eq (tgt := 11) F.1 F.2.1 dX6_tear_4 (by decide) (fun c_4 => ?_) (fun c_4 => ?_)
  · refine lv_iconst (v := 0) F.1 F.2.1 dX6_tear_11 (by decide) ?_
    refine lv_istore_n (lv' := [(1, .int 0), (0, .ref (a 0))]) F.1 F.2.1 dX6_tear_12 rfl hl (by decide) rfl (fun ls hl => ?_)
    refine lv_aload_n F.1 F.2.1 dX6_tear_13 rfl (lv_at hl 1 rfl) ?_
    refine lv_iconst (v := 0) F.1 F.2.1 dX6_tear_14 (by decide) ?_
    refine pf (ws' := [oM a (upd v 3 0)]) F hK hP hD hS 0 rfl rfl hiX6_tear_6 tyX6 tyX6_ok nmX6 3 (by decide) (List.mem_of_getElem? (i := 1) rfl) rfl rfl rfl (Nat.le_of_ble_eq_true rfl) dX6_tear_15 (weq.rf _) (fun H locs hP hD hS => ?_)
    refine lv_iload_n F.1 F.2.1 dX6_tear_18 rfl (lv_at hl 0 rfl) ?_
    exact rtI () F hr hlk hP hS rfl ((if_pos c_4).symm) dX6_tear_19
  · refine lv_iconst (v := 1) F.1 F.2.1 dX6_tear_7 (by decide) ?_
    refine lv_goto (tgt := 12) F.1 F.2.1 dX6_tear_8 (by decide) ?_
    refine lv_istore_n (lv' := [(1, .int 1), (0, .ref (a 0))]) F.1 F.2.1 dX6_tear_12 rfl hl (by decide) rfl (fun ls hl => ?_)
    refine lv_aload_n F.1 F.2.1 dX6_tear_13 rfl (lv_at hl 1 rfl) ?_
    refine lv_iconst (v := 0) F.1 F.2.1 dX6_tear_14 (by decide) ?_
    refine pf (ws' := [oM a (upd v 3 0)]) F hK hP hD hS 0 rfl rfl hiX6_tear_6 tyX6 tyX6_ok nmX6 3 (by decide) (List.mem_of_getElem? (i := 1) rfl) rfl rfl rfl (Nat.le_of_ble_eq_true rfl) dX6_tear_15 (weq.rf _) (fun H locs hP hD hS => ?_)
    refine lv_iload_n F.1 F.2.1 dX6_tear_18 rfl (lv_at hl 0 rfl) ?_
    exact rtI () F hr hlk hP hS rfl ((if_neg c_4).symm) dX6_tear_19

def rmX6_undo : Room := { frames := 1, cells := 0, slots := 0, locals := 22 }
theorem nmX6_undo : NmV yX6_undo RX6 0 := by unfold NmV; decide +kernel
theorem hiX6_undo_6 : ∀ w ∈ u_ws RX6 TX6 22, w ∈ wsX6_undo := by decide +kernel
set_option maxHeartbeats 4000000 in
set_option maxRecDepth 100000 in
theorem kX6_undo (l : Launch) (dC : Nat → ClassId) (dI : Nat → Nat → Nat) (ct : Nat → ClassId) (a : Nat → Nat) (v f c g : Nat → Int32) : MI (S := (Nat → Int32) × (Nat → Int32)) l yX6_undo wsX6_undo rmX6_undo dC dI ct eT [.ref (a 0)] (oM a v :: ai ct (a 1) 210 f :: ai ct (a 4) 8 c :: [ai ct (a 2) 210 g]) (fun u => oM a v :: ai ct (a 1) 210 u.1 :: ai ct (a 4) 8 u.2 :: [ai ct (a 2) 210 g]) (fun r u => (r, u.1, u.2) = sUndo f g c (v 3)) := by
  refine MI.of (cc := cX6_undo) (maxL := 1) (ret := (some .int)) (by decide) rfl (Nat.le_of_ble_eq_true rfl) ?_
  intro pg en z mi below meth cd A F hr hlk hin hK hP hD hA hS hE ls hl
  have F : CallFix pg mi cd cX6_undo 1 z _ wsX6_undo RX6 := F
  have hl : lv_has ls 1 [(0, .ref (a 0))] := hl
  refine lv_aload_n F.1 F.2.1 dX6_undo_0 rfl (lv_at hl 0 rfl) ?_
  refine gf F hK hP 0 rfl rfl hiX6_undo_6 3 (by decide) (List.mem_of_getElem? (i := 1) rfl) rfl dX6_undo_1 ?_
  refine lv_if_ne (tgt := 14) F.1 F.2.1 dX6_undo_4 (by decide) (fun c_4 => ?_) (fun c_4 => ?_)
  · refine lv_aload_n F.1 F.2.1 dX6_undo_14 rfl (lv_at hl 0 rfl) ?_
    refine gf F hK hP 0 rfl rfl hiX6_undo_6 1 (by decide) (List.mem_of_getElem? (i := 3) rfl) rfl dX6_undo_15 ?_
    refine lv_aload_n F.1 F.2.1 dX6_undo_18 rfl (lv_at hl 0 rfl) ?_
    refine gf F hK hP 0 rfl rfl hiX6_undo_6 0 (by decide) (List.mem_of_getElem? (i := 4) rfl) rfl dX6_undo_19 ?_
    refine vS (rest := []) (wsp := fun _ => oM a v :: ai ct (a 1) 210 g :: ai ct (a 4) 8 c :: [ai ct (a 2) 210 g]) F (kX6_copyRow l dC dI ct (a 2) (a 1) g f) gX6_undo_X6_copyRow rfl ⟨rfl, rfl⟩ nmX6_copyRow ⟨Nat.le_of_ble_eq_true rfl, Nat.le_of_ble_eq_true rfl⟩ eT_b (fun _ _ _ => trivial) hK hP hD hS hA [3, 1] (by decide) rfl rfl rfl hl.1 (Nat.le_of_ble_eq_true rfl) dX6_undo_22 ⟨Nat.zero_le _, Nat.zero_le _⟩ (fun _ => rfl) (fun _ => rfl) [a 0, a 1, a 4, a 2] rfl (fun _ => rfl) (fun u_22 H locs e_22 hP hD hS => ?_)
    refine lv_aload_n F.1 F.2.1 dX6_undo_25 rfl (lv_at hl 0 rfl) ?_
    refine gf F hK hP 0 rfl rfl hiX6_undo_6 0 (by decide) (List.mem_of_getElem? (i := 4) rfl) rfl dX6_undo_26 ?_
    refine lv_iconst (v := 0) F.1 F.2.1 dX6_undo_29 (by decide) ?_
    refine al (v := g 0) F hK hP 1 0 rfl rfl 0 rfl (by omega) (by decide) rfl dX6_undo_30 ?_
    exact rtI (g, c) F hr hlk hP hS rfl ((if_neg c_4).symm) dX6_undo_31
  · refine lv_aload_n F.1 F.2.1 dX6_undo_7 rfl (lv_at hl 0 rfl) ?_
    refine lv_ldc (v := (-1000004)) F.1 F.2.1 F.2.2.2.1 (F.2.2.2.2 _ (List.mem_of_getElem? (i := 2) rfl)) dX6_undo_8 ?_
    refine iV (rest := []) (wsp := fun _ => oM a v :: ai ct (a 1) 210 f :: ai ct (a 4) 8 (fnd c 4) :: [ai ct (a 2) 210 g]) F (kX6_finding l dC dI ct a v c (-1000004) 4 (by decide) (by decide) (by decide)) gX6_undo_X6_finding rfl ⟨rfl, rfl⟩ nmX6_finding ⟨Nat.le_of_ble_eq_true rfl, Nat.le_of_ble_eq_true rfl⟩ eT_b (fun _ _ _ => trivial) hK hP hD hS hA 0 rfl rfl rfl [0, 2] (by decide) rfl rfl rfl hl.1 (Nat.le_of_ble_eq_true rfl) dX6_undo_10 ⟨Nat.zero_le _, Nat.zero_le _⟩ (fun _ => rfl) (fun _ => rfl) [a 0, a 1, a 4, a 2] rfl (fun _ => rfl) (fun r_10 u_10 H locs e_10 hP hD hS => ?_)
    obtain rfl := e_10
    exact rtI (f, (fnd c 4)) F hr hlk hP hS rfl ((if_pos c_4).symm) dX6_undo_13

def rmX6_count : Room := { frames := 4, cells := 0, slots := 0, locals := 87 }
theorem nmX6_count : NmV yX6_count RX6 1 := by unfold NmV; decide +kernel
theorem hiX6_count_6 : ∀ w ∈ u_ws RX6 TX6 22, w ∈ wsX6_count := by decide +kernel
set_option maxHeartbeats 4000000 in
set_option maxRecDepth 100000 in
theorem kX6_count (l : Launch) (dC : Nat → ClassId) (dI : Nat → Nat → Nat) (ct : Nat → ClassId) (a : Nat → Nat) (v f c : Nat → Int32) (x1 : Int32) : MI (S := (Nat → Int32) × (Nat → Int32)) l yX6_count wsX6_count rmX6_count dC dI ct eT [.ref (a 0), .int x1] (oM a v :: ai ct (a 1) 210 f :: [ai ct (a 4) 8 c]) (fun u => oM a v :: ai ct (a 1) 210 u.1 :: [ai ct (a 4) 8 u.2]) (fun r u => (r, u.1, u.2) = sCount f c (v 8) x1) := by
  refine MI.of (cc := cX6_count) (maxL := 4) (ret := (some .int)) (by decide) rfl (Nat.le_of_ble_eq_true rfl) ?_
  intro pg en z mi below meth cd A F hr hlk hin hK hP hD hA hS hE ls hl
  have F : CallFix pg mi cd cX6_count 4 z _ wsX6_count RX6 := F
  have hl : lv_has ls 4 [(0, .ref (a 0)), (1, .int x1)] := hl
  refine lv_iconst (v := 0) F.1 F.2.1 dX6_count_0 (by decide) ?_
  refine lv_istore_n (lv' := [(2, .int 0), (0, .ref (a 0)), (1, .int x1)]) F.1 F.2.1 dX6_count_1 rfl hl (by decide) rfl (fun ls hl => ?_)
  refine lv_iload_n F.1 F.2.1 dX6_count_2 rfl (lv_at hl 2 rfl) ?_
  by_cases k3_0 : x1 = 0
  · refine tp k3_0 ?_
    refine lv_tableIn (x := 0) (tgt := 48) F.1 F.2.1 dX6_count_3 (by decide) (by decide) rfl (by decide) ?_
    refine lv_aload_n F.1 F.2.1 dX6_count_48 rfl (lv_at hl 1 rfl) ?_
    refine gf F hK hP 0 rfl rfl hiX6_count_6 0 (by decide) (List.mem_of_getElem? (i := 1) rfl) rfl dX6_count_49 ?_
    refine lv_iconst (v := 0) F.1 F.2.1 dX6_count_52 (by decide) ?_
    refine al (v := f 0) F hK hP 1 0 rfl rfl 0 rfl (by omega) (by decide) rfl dX6_count_53 ?_
    exact rtI (f, c) F hr hlk hP hS rfl (by unfold sCount; rw [if_pos k3_0]) dX6_count_54
  by_cases k3_1 : x1 = 1
  · refine tp k3_1 ?_
    refine lv_tableIn (x := 1) (tgt := 55) F.1 F.2.1 dX6_count_3 (by decide) (by decide) rfl (by decide) ?_
    refine lv_aload_n F.1 F.2.1 dX6_count_55 rfl (lv_at hl 1 rfl) ?_
    refine gf F hK hP 0 rfl rfl hiX6_count_6 0 (by decide) (List.mem_of_getElem? (i := 1) rfl) rfl dX6_count_56 ?_
    refine lv_iconst (v := 2) F.1 F.2.1 dX6_count_59 (by decide) ?_
    refine al (v := f 2) F hK hP 1 0 rfl rfl 2 rfl (by omega) (by decide) rfl dX6_count_60 ?_
    exact rtI (f, c) F hr hlk hP hS rfl (by unfold sCount; rw [if_neg k3_0, if_pos k3_1]) dX6_count_61
  by_cases k3_2 : x1 = 2
  · refine tp k3_2 ?_
    refine lv_tableIn (x := 2) (tgt := 62) F.1 F.2.1 dX6_count_3 (by decide) (by decide) rfl (by decide) ?_
    refine lv_aload_n F.1 F.2.1 dX6_count_62 rfl (lv_at hl 1 rfl) ?_
    refine iV (rest := []) (wsp := fun _ => oM a v :: ai ct (a 1) 210 f :: [ai ct (a 4) 8 c]) F (kX6_inHeaps l dC dI ct a v f) gX6_count_X6_inHeaps rfl ⟨rfl, rfl⟩ nmX6_inHeaps ⟨Nat.le_of_ble_eq_true rfl, Nat.le_of_ble_eq_true rfl⟩ eT_b (fun _ _ _ => trivial) hK hP hD hS hA 0 rfl rfl rfl [0, 1] (by decide) rfl rfl rfl hl.1 (Nat.le_of_ble_eq_true rfl) dX6_count_63 ⟨Nat.zero_le _, Nat.zero_le _⟩ (fun _ => rfl) (fun _ => rfl) [a 0, a 1, a 4] rfl (fun _ => rfl) (fun r_63 u_63 H locs e_63 hP hD hS => ?_)
    obtain rfl := e_63
    exact rtI (f, c) F hr hlk hP hS rfl (by unfold sCount; rw [if_neg k3_0, if_neg k3_1, if_pos k3_2]) dX6_count_66
  by_cases k3_3 : x1 = 3
  · refine tp k3_3 ?_
    refine lv_tableIn (x := 3) (tgt := 67) F.1 F.2.1 dX6_count_3 (by decide) (by decide) rfl (by decide) ?_
    refine lv_aload_n F.1 F.2.1 dX6_count_67 rfl (lv_at hl 1 rfl) ?_
    refine lv_iconst (v := 0) F.1 F.2.1 dX6_count_68 (by decide) ?_
    refine lv_iconst (v := 1) F.1 F.2.1 dX6_count_69 (by decide) ?_
    refine iV (rest := []) (wsp := fun _ => oM a v :: ai ct (a 1) 210 f :: [ai ct (a 4) 8 c]) F (kX6_sideIs l dC dI ct a v f 0 1 21 (by omega) (by omega)) gX6_count_X6_sideIs rfl ⟨rfl, rfl⟩ nmX6_sideIs ⟨Nat.le_of_ble_eq_true rfl, Nat.le_of_ble_eq_true rfl⟩ eT_b (fun _ _ _ => trivial) hK hP hD hS hA 0 rfl rfl rfl [0, 1] (by decide) rfl rfl rfl hl.1 (Nat.le_of_ble_eq_true rfl) dX6_count_70 ⟨Nat.zero_le _, Nat.zero_le _⟩ (fun _ => rfl) (fun _ => rfl) [a 0, a 1, a 4] rfl (fun _ => rfl) (fun r_70 u_70 H locs e_70 hP hD hS => ?_)
    obtain rfl := e_70
    refine lv_aload_n F.1 F.2.1 dX6_count_73 rfl (lv_at hl 1 rfl) ?_
    refine lv_iconst (v := 1) F.1 F.2.1 dX6_count_74 (by decide) ?_
    refine lv_iconst (v := 1) F.1 F.2.1 dX6_count_75 (by decide) ?_
    refine iV (rest := [.int (f 21)]) (wsp := fun _ => oM a v :: ai ct (a 1) 210 f :: [ai ct (a 4) 8 c]) F (kX6_sideIs l dC dI ct a v f 1 1 38 (by omega) (by omega)) gX6_count_X6_sideIs rfl ⟨rfl, rfl⟩ nmX6_sideIs ⟨Nat.le_of_ble_eq_true rfl, Nat.le_of_ble_eq_true rfl⟩ eT_b (fun _ _ _ => trivial) hK hP hD hS hA 0 rfl rfl rfl [0, 1] (by decide) rfl rfl rfl hl.1 (Nat.le_of_ble_eq_true rfl) dX6_count_76 ⟨Nat.zero_le _, Nat.zero_le _⟩ (fun _ => rfl) (fun _ => rfl) [a 0, a 1, a 4] rfl (fun _ => rfl) (fun r_76 u_76 H locs e_76 hP hD hS => ?_)
    obtain rfl := e_76
    refine lv_iadd F.1 F.2.1 dX6_count_79 ?_
    exact rtI (f, c) F hr hlk hP hS rfl (by unfold sCount; rw [if_neg k3_0, if_neg k3_1, if_neg k3_2, if_pos k3_3]) dX6_count_80
  by_cases k3_4 : x1 = 4
  · refine tp k3_4 ?_
    refine lv_tableIn (x := 4) (tgt := 81) F.1 F.2.1 dX6_count_3 (by decide) (by decide) rfl (by decide) ?_
    refine lv_aload_n F.1 F.2.1 dX6_count_81 rfl (lv_at hl 1 rfl) ?_
    refine gf F hK hP 0 rfl rfl hiX6_count_6 0 (by decide) (List.mem_of_getElem? (i := 1) rfl) rfl dX6_count_82 ?_
    refine lv_iconst (v := 3) F.1 F.2.1 dX6_count_85 (by decide) ?_
    refine al (v := f 3) F hK hP 1 0 rfl rfl 3 rfl (by omega) (by decide) rfl dX6_count_86 ?_
    exact rtI (f, c) F hr hlk hP hS rfl (by unfold sCount; rw [if_neg k3_0, if_neg k3_1, if_neg k3_2, if_neg k3_3, if_pos k3_4]) dX6_count_87
  by_cases k3_5 : x1 = 5
  · refine tp k3_5 ?_
    refine lv_tableIn (x := 5) (tgt := 88) F.1 F.2.1 dX6_count_3 (by decide) (by decide) rfl (by decide) ?_
    refine lv_aload_n F.1 F.2.1 dX6_count_88 rfl (lv_at hl 1 rfl) ?_
    refine gf F hK hP 0 rfl rfl hiX6_count_6 8 (by decide) (List.mem_of_getElem? (i := 2) rfl) rfl dX6_count_89 ?_
    exact rtI (f, c) F hr hlk hP hS rfl (by unfold sCount; rw [if_neg k3_0, if_neg k3_1, if_neg k3_2, if_neg k3_3, if_neg k3_4, if_pos k3_5]) dX6_count_92
  by_cases k3_6 : x1 = 6
  · refine tp k3_6 ?_
    refine lv_tableIn (x := 6) (tgt := 93) F.1 F.2.1 dX6_count_3 (by decide) (by decide) rfl (by decide) ?_
    refine lv_aload_n F.1 F.2.1 dX6_count_93 rfl (lv_at hl 1 rfl) ?_
    refine gf F hK hP 0 rfl rfl hiX6_count_6 0 (by decide) (List.mem_of_getElem? (i := 1) rfl) rfl dX6_count_94 ?_
    refine lv_iconst (v := 4) F.1 F.2.1 dX6_count_97 (by decide) ?_
    refine al (v := f 4) F hK hP 1 0 rfl rfl 4 rfl (by omega) (by decide) rfl dX6_count_98 ?_
    exact rtI (f, c) F hr hlk hP hS rfl (by unfold sCount; rw [if_neg k3_0, if_neg k3_1, if_neg k3_2, if_neg k3_3, if_neg k3_4, if_neg k3_5, if_pos k3_6]) dX6_count_99
  by_cases k3_7 : x1 = 7
  · refine tp k3_7 ?_
    refine lv_tableIn (x := 7) (tgt := 100) F.1 F.2.1 dX6_count_3 (by decide) (by decide) rfl (by decide) ?_
    refine lv_iconst (v := 0) F.1 F.2.1 dX6_count_100 (by decide) ?_
    refine lv_istore_n (lv' := [(3, .int 0), (2, .int 0), (0, .ref (a 0)), (1, .int x1)]) F.1 F.2.1 dX6_count_101 rfl hl (by decide) rfl (fun ls hl => ?_)
    refine loopN (I := fun k H locs ls => va_P (dC, dI) vwCl (oM a v :: ai ct (a 1) 210 f :: [ai ct (a 4) 8 c]) H ∧ va_D A (oM a v :: ai ct (a 1) 210 f :: [ai ct (a 4) 8 c]) ∧ va_S A z.heap H locs ∧ lv_has ls 4 [(3, .int (nI k)), (2, .int (spN f k)), (0, .ref (a 0)), (1, .int x1)]) 10 0 (by omega) ⟨hP, hD, hS, lv_sub hl [0, 1, 2, 3] rfl⟩ (fun H locs ls hI => ?_) (fun k hk_k H locs ls hI ih_102 => ?_)
    · obtain ⟨hP, hD, hS, hl⟩ := hI
      refine lv_iload_n F.1 F.2.1 dX6_count_102 rfl (lv_at hl 0 rfl) ?_
      refine lv_bipush (v := 10) F.1 F.2.1 dX6_count_103 (by decide) ?_
      refine lv_icmp_ge (tgt := 133) F.1 F.2.1 dX6_count_105 (by decide) (fun c_105 => ?_) (fun c_105 => ?_)
      · refine lv_iload_n F.1 F.2.1 dX6_count_133 rfl (lv_at hl 1 rfl) ?_
        exact rtI (f, c) F hr hlk hP hS rfl (by unfold sCount; rw [if_neg k3_0, if_neg k3_1, if_neg k3_2, if_neg k3_3, if_neg k3_4, if_neg k3_5, if_neg k3_6, if_pos k3_7]) dX6_count_134
      · exact absurd (nI_le (Nat.le_refl _) (by decide)) c_105
    · obtain ⟨hP, hD, hS, hl⟩ := hI
      refine lv_iload_n F.1 F.2.1 dX6_count_102 rfl (lv_at hl 0 rfl) ?_
      refine lv_bipush (v := 10) F.1 F.2.1 dX6_count_103 (by decide) ?_
      refine lv_icmp_ge (tgt := 133) F.1 F.2.1 dX6_count_105 (by decide) (fun c_105 => ?_) (fun c_105 => ?_)
      · exact absurd c_105 (nI_ge hk_k (by decide))
      · refine lv_iload_n F.1 F.2.1 dX6_count_108 rfl (lv_at hl 1 rfl) ?_
        refine lv_aload_n F.1 F.2.1 dX6_count_109 rfl (lv_at hl 2 rfl) ?_
        refine gf F hK hP 0 rfl rfl hiX6_count_6 0 (by decide) (List.mem_of_getElem? (i := 1) rfl) rfl dX6_count_110 ?_
        refine lv_iconst (v := 5) F.1 F.2.1 dX6_count_113 (by decide) ?_
        refine lv_iload_n F.1 F.2.1 dX6_count_114 rfl (lv_at hl 0 rfl) ?_
        refine lv_iadd F.1 F.2.1 dX6_count_115 ?_
        refine tp (y := nI (5 + k)) (ad2 (a := 5) (b := k) (c := 5 + k) rfl rfl rfl) ?_
        refine al (v := f (5 + k)) F hK hP 1 0 rfl rfl (5 + k) rfl (by omega) (by decide) rfl dX6_count_116 ?_
        refine lv_if_ge (tgt := 124) F.1 F.2.1 dX6_count_117 (by decide) (fun c_117 => ?_) (fun c_117 => ?_)
        · refine lv_iconst (v := 1) F.1 F.2.1 dX6_count_124 (by decide) ?_
          refine lv_iadd F.1 F.2.1 dX6_count_125 ?_
          refine lv_istore_n (lv' := [(2, .int ((spN f k) + 1)), (3, .int (nI k)), (0, .ref (a 0)), (1, .int x1)]) F.1 F.2.1 dX6_count_126 rfl hl (by decide) rfl (fun ls hl => ?_)
          refine lv_iinc (v := nI (k + 1)) (lv' := [(3, .int (nI (k + 1))), (2, .int ((spN f k) + 1)), (0, .ref (a 0)), (1, .int x1)]) F.1 F.2.1 dX6_count_127 hl (k := 1) rfl (by rw [show Int32.ofInt 1 = nI 1 from rfl, nI_add]) (by decide) rfl (fun ls hl => ?_)
          refine lv_goto (tgt := 102) F.1 F.2.1 dX6_count_130 (by decide) ?_
          have eb : spN f (k + 1) = spN f k + 1 := congrArg (spN f k + ·) (if_neg (Int32.not_lt.mpr c_117))
          exact ih_102 _ _ _ ⟨hP, hD, hS, lv_sub hl [0, 1, 2, 3] (by rw [eb]; rfl)⟩
        · refine lv_iconst (v := 0) F.1 F.2.1 dX6_count_120 (by decide) ?_
          refine lv_goto (tgt := 125) F.1 F.2.1 dX6_count_121 (by decide) ?_
          refine lv_iadd F.1 F.2.1 dX6_count_125 ?_
          refine lv_istore_n (lv' := [(2, .int ((spN f k) + 0)), (3, .int (nI k)), (0, .ref (a 0)), (1, .int x1)]) F.1 F.2.1 dX6_count_126 rfl hl (by decide) rfl (fun ls hl => ?_)
          refine lv_iinc (v := nI (k + 1)) (lv' := [(3, .int (nI (k + 1))), (2, .int ((spN f k) + 0)), (0, .ref (a 0)), (1, .int x1)]) F.1 F.2.1 dX6_count_127 hl (k := 1) rfl (by rw [show Int32.ofInt 1 = nI 1 from rfl, nI_add]) (by decide) rfl (fun ls hl => ?_)
          refine lv_goto (tgt := 102) F.1 F.2.1 dX6_count_130 (by decide) ?_
          have eb : spN f (k + 1) = spN f k + 0 := congrArg (spN f k + ·) (if_pos (Int32.not_le.mp c_117))
          exact ih_102 _ _ _ ⟨hP, hD, hS, lv_sub hl [0, 1, 2, 3] (by rw [eb]; rfl)⟩
  refine lv_tableOut (tgt := 135) F.1 F.2.1 dX6_count_3 (ts_out (fun i h1 h2 => by rcases (show i = 0 ∨ i = 1 ∨ i = 2 ∨ i = 3 ∨ i = 4 ∨ i = 5 ∨ i = 6 ∨ i = 7 by omega) with rfl | rfl | rfl | rfl | rfl | rfl | rfl | rfl <;> assumption)) (by decide) ?_
  refine lv_aload_n F.1 F.2.1 dX6_count_135 rfl (lv_at hl 1 rfl) ?_
  refine lv_ldc (v := (-1000001)) F.1 F.2.1 F.2.2.2.1 (F.2.2.2.2 _ (List.mem_of_getElem? (i := 3) rfl)) dX6_count_136 ?_
  refine iV (rest := []) (wsp := fun _ => oM a v :: ai ct (a 1) 210 f :: [ai ct (a 4) 8 (fnd c 1)]) F (kX6_finding l dC dI ct a v c (-1000001) 1 (by decide) (by decide) (by decide)) gX6_count_X6_finding rfl ⟨rfl, rfl⟩ nmX6_finding ⟨Nat.le_of_ble_eq_true rfl, Nat.le_of_ble_eq_true rfl⟩ eT_b (fun _ _ _ => trivial) hK hP hD hS hA 0 rfl rfl rfl [0, 2] (by decide) rfl rfl rfl hl.1 (Nat.le_of_ble_eq_true rfl) dX6_count_138 ⟨Nat.zero_le _, Nat.zero_le _⟩ (fun _ => rfl) (fun _ => rfl) [a 0, a 1, a 4] rfl (fun _ => rfl) (fun r_138 u_138 H locs e_138 hP hD hS => ?_)
  obtain rfl := e_138
  exact rtI (f, (fnd c 1)) F hr hlk hP hS rfl (by unfold sCount; rw [if_neg k3_0, if_neg k3_1, if_neg k3_2, if_neg k3_3, if_neg k3_4, if_neg k3_5, if_neg k3_6, if_neg k3_7]; rfl) dX6_count_141
