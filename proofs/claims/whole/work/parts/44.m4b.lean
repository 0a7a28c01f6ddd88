def rmX6_best : Room := { frames := 11, cells := 0, slots := 0, locals := 252 }
theorem nmX6_best : NmV yX6_best RX6 2 := by unfold NmV; decide +kernel
theorem hiX6_best_6 : ∀ w ∈ u_ws RX6 TX6 22, w ∈ wsX6_best := by decide +kernel
set_option maxHeartbeats 4000000 in
set_option maxRecDepth 100000 in
theorem kX6_best (l : Launch) (dC : Nat → ClassId) (dI : Nat → Nat → Nat) (ct : Nat → ClassId) (a : Nat → Nat) (v f c h : Nat → Int32) (x1 x2 : Int32) (hRg : Rg f) : MI (S := (Nat → Int32) × (Nat → Int32) × (Nat → Int32) × (Nat → Int32)) l yX6_best wsX6_best rmX6_best dC dI ct eT [.ref (a 0), .int x1, .int x2] (oM a v :: ai ct (a 1) 210 f :: ai ct (a 4) 8 c :: [ai ct (a 3) 210 h]) (fun u => oM a u.2.2.2 :: ai ct (a 1) 210 u.1 :: ai ct (a 4) 8 u.2.1 :: [ai ct (a 3) 210 u.2.2.1]) (fun r u => (r, u.1, u.2.1) = sBest f c x1 x2 false ∧ u.2.2.2 3 = v 3 ∧ u.2.2.2 8 = v 8) := by
  refine MI.of (cc := cX6_best) (maxL := 4) (ret := (some .int)) (by decide) rfl (Nat.le_of_ble_eq_true rfl) ?_
  intro pg en z mi below meth cd A F hr hlk hin hK hP hD hA hS hE ls hl
  have F : CallFix pg mi cd cX6_best 4 z _ wsX6_best RX6 := F
  have hl : lv_has ls 4 [(0, .ref (a 0)), (1, .int x1), (2, .int x2)] := hl
  refine lv_aload_n F.1 F.2.1 dX6_best_0 rfl (lv_at hl 0 rfl) ?_
  refine lv_iload_n F.1 F.2.1 dX6_best_1 rfl (lv_at hl 1 rfl) ?_
  refine lv_iload_n F.1 F.2.1 dX6_best_2 rfl (lv_at hl 2 rfl) ?_
  refine iV (rest := []) (wsp := fun _ => oM a v :: ai ct (a 1) 210 f :: ai ct (a 4) 8 c :: [ai ct (a 3) 210 h]) F (kX6_refusesBest l dC dI ct a v f x1 x2) gX6_best_X6_refusesBest rfl ⟨rfl, rfl⟩ nmX6_refusesBest ⟨Nat.le_of_ble_eq_true rfl, Nat.le_of_ble_eq_true rfl⟩ eT_b (fun _ _ _ => trivial) hK hP hD hS hA 0 rfl rfl rfl [0, 1] (by decide) rfl rfl rfl hl.1 (Nat.le_of_ble_eq_true rfl) dX6_best_3 ⟨Nat.zero_le _, Nat.zero_le _⟩ (fun _ => rfl) (fun _ => rfl) [a 0, a 1, a 4, a 3] rfl (fun _ => rfl) (fun r_3 u_3 H locs e_3 hP hD hS => ?_)
  obtain rfl := e_3
  by_cases cg : (0 ≤ x1 ∧ x1 ≤ 1) ∧ 1 ≤ x2 ∧ x2 ≤ 30
  · refine tp (if_pos cg) ?_
    by_cases cl : 9999 < f 0 + x2 ∨ f (21 + 17 * tn x1) = 0
    · refine tp (if_pos cl) ?_
      obtain ⟨s, hs, rfl⟩ := gS_n cg.1
      obtain ⟨n, hn1, hn, rfl⟩ := g30_n cg.2
      rw [show tn (nI s) = s from nI_clamp (by omega)] at cl
      refine lv_istore_n (lv' := [(3, .int (-1000005)), (0, .ref (a 0)), (1, .int (nI s)), (2, .int (nI n))]) F.1 F.2.1 dX6_best_6 rfl hl (by decide) rfl (fun ls hl => ?_)
      refine lv_iload_n F.1 F.2.1 dX6_best_7 rfl (lv_at hl 0 rfl) ?_
      refine lv_if_eq (tgt := 17) F.1 F.2.1 dX6_best_8 (by decide) (fun c_8 => ?_) (fun c_8 => ?_)
      · exact absurd c_8 (by decide)
      · refine lv_aload_n F.1 F.2.1 dX6_best_11 rfl (lv_at hl 1 rfl) ?_
        refine lv_iload_n F.1 F.2.1 dX6_best_12 rfl (lv_at hl 0 rfl) ?_
        refine iV (rest := []) (wsp := fun _ => oM a v :: ai ct (a 1) 210 f :: ai ct (a 4) 8 (fnd c 5) :: [ai ct (a 3) 210 h]) F (kX6_finding l dC dI ct a v c (-1000005) 5 (by decide) (by decide) (by decide)) gX6_best_X6_finding rfl ⟨rfl, rfl⟩ nmX6_finding ⟨Nat.le_of_ble_eq_true rfl, Nat.le_of_ble_eq_true rfl⟩ eT_b (fun _ _ _ => trivial) hK hP hD hS hA 0 rfl rfl rfl [0, 2] (by decide) rfl rfl rfl hl.1 (Nat.le_of_ble_eq_true rfl) dX6_best_13 ⟨Nat.zero_le _, Nat.zero_le _⟩ (fun _ => rfl) (fun _ => rfl) [a 0, a 1, a 4, a 3] rfl (fun _ => rfl) (fun r_13 u_13 H locs e_13 hP hD hS => ?_)
        obtain rfl := e_13
        exact rtI (f, (fnd c 5), h, v) F hr hlk hP hS rfl (⟨Eq.trans (by rw [show tn (nI s) = s from nI_clamp (by omega), show tn (nI n) = n from nI_clamp (by omega)]; unfold kBest; rw [if_pos cl]; rfl) (if_pos cg).symm, ⟨rfl, rfl⟩⟩) dX6_best_16
    · refine tp (if_neg cl) ?_
      obtain ⟨s, hs, rfl⟩ := gS_n cg.1
      obtain ⟨n, hn1, hn, rfl⟩ := g30_n cg.2
      rw [show tn (nI s) = s from nI_clamp (by omega)] at cl
      have hN := late_no hRg (by omega) (fun q => cl (Or.inl q))
      refine lv_istore_n (lv' := [(3, .int 0), (0, .ref (a 0)), (1, .int (nI s)), (2, .int (nI n))]) F.1 F.2.1 dX6_best_6 rfl hl (by decide) rfl (fun ls hl => ?_)
      refine lv_iload_n F.1 F.2.1 dX6_best_7 rfl (lv_at hl 0 rfl) ?_
      refine lv_if_eq (tgt := 17) F.1 F.2.1 dX6_best_8 (by decide) (fun c_8 => ?_) (fun c_8 => ?_)
      · refine lv_aload_n F.1 F.2.1 dX6_best_17 rfl (lv_at hl 1 rfl) ?_
        refine lv_iload_n F.1 F.2.1 dX6_best_18 rfl (lv_at hl 2 rfl) ?_
        refine lv_iload_n F.1 F.2.1 dX6_best_19 rfl (lv_at hl 3 rfl) ?_
        refine vV (rest := []) (wsp := fun _ => oM a (beV f s n v 64) :: ai ct (a 1) 210 f :: ai ct (a 4) 8 c :: [ai ct (a 3) 210 f]) F (kX6_findBest l dC dI ct a v f h s n (by omega) (by omega) hRg hN) gX6_best_X6_findBest rfl ⟨rfl, rfl⟩ nmX6_findBest ⟨Nat.le_of_ble_eq_true rfl, Nat.le_of_ble_eq_true rfl⟩ eT_b (fun _ _ _ => trivial) hK hP hD hS hA 0 rfl rfl rfl [0, 1, 3] (by decide) rfl rfl rfl hl.1 (Nat.le_of_ble_eq_true rfl) dX6_best_20 ⟨Nat.zero_le _, Nat.zero_le _⟩ (fun _ => rfl) (fun _ => rfl) [a 0, a 1, a 4, a 3] rfl (fun _ => rfl) (fun u_20 H locs e_20 hP hD hS => ?_)
        refine lv_aload_n F.1 F.2.1 dX6_best_23 rfl (lv_at hl 1 rfl) ?_
        refine gf F hK hP 0 rfl rfl hiX6_best_6 5 (by decide) (List.mem_of_getElem? (i := 1) rfl) rfl dX6_best_24 ?_
        exact rtI (f, c, f, (beV f s n v 64)) F hr hlk hP hS rfl (⟨Eq.trans (by rw [show tn (nI s) = s from nI_clamp (by omega), show tn (nI n) = n from nI_clamp (by omega)]; unfold kBest; rw [if_neg cl]; rw [(be_eq hRg hs n v 63 (by omega)).1]; rfl) (if_pos cg).symm, ⟨beV_o f s n v (by omega) (by omega) 64, beV_o f s n v (by omega) (by omega) 64⟩⟩) dX6_best_27
      · exact absurd rfl c_8
  · refine tp (if_neg cg) ?_
    refine lv_istore_n (lv' := [(3, .int (-1000001)), (0, .ref (a 0)), (1, .int x1), (2, .int x2)]) F.1 F.2.1 dX6_best_6 rfl hl (by decide) rfl (fun ls hl => ?_)
    refine lv_iload_n F.1 F.2.1 dX6_best_7 rfl (lv_at hl 0 rfl) ?_
    refine lv_if_eq (tgt := 17) F.1 F.2.1 dX6_best_8 (by decide) (fun c_8 => ?_) (fun c_8 => ?_)
    · exact absurd c_8 (by decide)
    · refine lv_aload_n F.1 F.2.1 dX6_best_11 rfl (lv_at hl 1 rfl) ?_
      refine lv_iload_n F.1 F.2.1 dX6_best_12 rfl (lv_at hl 0 rfl) ?_
      refine iV (rest := []) (wsp := fun _ => oM a v :: ai ct (a 1) 210 f :: ai ct (a 4) 8 (fnd c 1) :: [ai ct (a 3) 210 h]) F (kX6_finding l dC dI ct a v c (-1000001) 1 (by decide) (by decide) (by decide)) gX6_best_X6_finding rfl ⟨rfl, rfl⟩ nmX6_finding ⟨Nat.le_of_ble_eq_true rfl, Nat.le_of_ble_eq_true rfl⟩ eT_b (fun _ _ _ => trivial) hK hP hD hS hA 0 rfl rfl rfl [0, 2] (by decide) rfl rfl rfl hl.1 (Nat.le_of_ble_eq_true rfl) dX6_best_13 ⟨Nat.zero_le _, Nat.zero_le _⟩ (fun _ => rfl) (fun _ => rfl) [a 0, a 1, a 4, a 3] rfl (fun _ => rfl) (fun r_13 u_13 H locs e_13 hP hD hS => ?_)
      obtain rfl := e_13
      exact rtI (f, (fnd c 1), h, v) F hr hlk hP hS rfl (⟨(if_neg cg).symm, ⟨rfl, rfl⟩⟩) dX6_best_16

def rmX6_gain : Room := { frames := 11, cells := 0, slots := 0, locals := 252 }
theorem nmX6_gain : NmV yX6_gain RX6 2 := by unfold NmV; decide +kernel
theorem hiX6_gain_6 : ∀ w ∈ u_ws RX6 TX6 22, w ∈ wsX6_gain := by decide +kernel
set_option maxHeartbeats 4000000 in
set_option maxRecDepth 100000 in
theorem kX6_gain (l : Launch) (dC : Nat → ClassId) (dI : Nat → Nat → Nat) (ct : Nat → ClassId) (a : Nat → Nat) (v f c h : Nat → Int32) (x1 x2 : Int32) (hRg : Rg f) : MI (S := (Nat → Int32) × (Nat → Int32) × (Nat → Int32) × (Nat → Int32)) l yX6_gain wsX6_gain rmX6_gain dC dI ct eT [.ref (a 0), .int x1, .int x2] (oM a v :: ai ct (a 1) 210 f :: ai ct (a 4) 8 c :: [ai ct (a 3) 210 h]) (fun u => oM a u.2.2.2 :: ai ct (a 1) 210 u.1 :: ai ct (a 4) 8 u.2.1 :: [ai ct (a 3) 210 u.2.2.1]) (fun r u => (r, u.1, u.2.1) = sBest f c x1 x2 true ∧ u.2.2.2 3 = v 3 ∧ u.2.2.2 8 = v 8) := by
  refine MI.of (cc := cX6_gain) (maxL := 4) (ret := (some .int)) (by decide) rfl (Nat.le_of_ble_eq_true rfl) ?_
  intro pg en z mi below meth cd A F hr hlk hin hK hP hD hA hS hE ls hl
  have F : CallFix pg mi cd cX6_gain 4 z _ wsX6_gain RX6 := F
  have hl : lv_has ls 4 [(0, .ref (a 0)), (1, .int x1), (2, .int x2)] := hl
  refine lv_aload_n F.1 F.2.1 dX6_gain_0 rfl (lv_at hl 0 rfl) ?_
  refine lv_iload_n F.1 F.2.1 dX6_gain_1 rfl (lv_at hl 1 rfl) ?_
  refine lv_iload_n F.1 F.2.1 dX6_gain_2 rfl (lv_at hl 2 rfl) ?_
  refine iV (rest := []) (wsp := fun _ => oM a v :: ai ct (a 1) 210 f :: ai ct (a 4) 8 c :: [ai ct (a 3) 210 h]) F (kX6_refusesBest l dC dI ct a v f x1 x2) gX6_gain_X6_refusesBest rfl ⟨rfl, rfl⟩ nmX6_refusesBest ⟨Nat.le_of_ble_eq_true rfl, Nat.le_of_ble_eq_true rfl⟩ eT_b (fun _ _ _ => trivial) hK hP hD hS hA 0 rfl rfl rfl [0, 1] (by decide) rfl rfl rfl hl.1 (Nat.le_of_ble_eq_true rfl) dX6_gain_3 ⟨Nat.zero_le _, Nat.zero_le _⟩ (fun _ => rfl) (fun _ => rfl) [a 0, a 1, a 4, a 3] rfl (fun _ => rfl) (fun r_3 u_3 H locs e_3 hP hD hS => ?_)
  obtain rfl := e_3
  by_cases cg : (0 ≤ x1 ∧ x1 ≤ 1) ∧ 1 ≤ x2 ∧ x2 ≤ 30
  · refine tp (if_pos cg) ?_
    by_cases cl : 9999 < f 0 + x2 ∨ f (21 + 17 * tn x1) = 0
    · refine tp (if_pos cl) ?_
      obtain ⟨s, hs, rfl⟩ := gS_n cg.1
      obtain ⟨n, hn1, hn, rfl⟩ := g30_n cg.2
      rw [show tn (nI s) = s from nI_clamp (by omega)] at cl
      refine lv_istore_n (lv' := [(3, .int (-1000005)), (0, .ref (a 0)), (1, .int (nI s)), (2, .int (nI n))]) F.1 F.2.1 dX6_gain_6 rfl hl (by decide) rfl (fun ls hl => ?_)
      refine lv_iload_n F.1 F.2.1 dX6_gain_7 rfl (lv_at hl 0 rfl) ?_
      refine lv_if_eq (tgt := 17) F.1 F.2.1 dX6_gain_8 (by decide) (fun c_8 => ?_) (fun c_8 => ?_)
      · exact absurd c_8 (by decide)
      · refine lv_aload_n F.1 F.2.1 dX6_gain_11 rfl (lv_at hl 1 rfl) ?_
        refine lv_iload_n F.1 F.2.1 dX6_gain_12 rfl (lv_at hl 0 rfl) ?_
        refine iV (rest := []) (wsp := fun _ => oM a v :: ai ct (a 1) 210 f :: ai ct (a 4) 8 (fnd c 5) :: [ai ct (a 3) 210 h]) F (kX6_finding l dC dI ct a v c (-1000005) 5 (by decide) (by decide) (by decide)) gX6_gain_X6_finding rfl ⟨rfl, rfl⟩ nmX6_finding ⟨Nat.le_of_ble_eq_true rfl, Nat.le_of_ble_eq_true rfl⟩ eT_b (fun _ _ _ => trivial) hK hP hD hS hA 0 rfl rfl rfl [0, 2] (by decide) rfl rfl rfl hl.1 (Nat.le_of_ble_eq_true rfl) dX6_gain_13 ⟨Nat.zero_le _, Nat.zero_le _⟩ (fun _ => rfl) (fun _ => rfl) [a 0, a 1, a 4, a 3] rfl (fun _ => rfl) (fun r_13 u_13 H locs e_13 hP hD hS => ?_)
        obtain rfl := e_13
        exact rtI (f, (fnd c 5), h, v) F hr hlk hP hS rfl (⟨Eq.trans (by rw [show tn (nI s) = s from nI_clamp (by omega), show tn (nI n) = n from nI_clamp (by omega)]; unfold kBest; rw [if_pos cl]; rfl) (if_pos cg).symm, ⟨rfl, rfl⟩⟩) dX6_gain_16
    · refine tp (if_neg cl) ?_
      obtain ⟨s, hs, rfl⟩ := gS_n cg.1
      obtain ⟨n, hn1, hn, rfl⟩ := g30_n cg.2
      rw [show tn (nI s) = s from nI_clamp (by omega)] at cl
      have hN := late_no hRg (by omega) (fun q => cl (Or.inl q))
      refine lv_istore_n (lv' := [(3, .int 0), (0, .ref (a 0)), (1, .int (nI s)), (2, .int (nI n))]) F.1 F.2.1 dX6_gain_6 rfl hl (by decide) rfl (fun ls hl => ?_)
      refine lv_iload_n F.1 F.2.1 dX6_gain_7 rfl (lv_at hl 0 rfl) ?_
      refine lv_if_eq (tgt := 17) F.1 F.2.1 dX6_gain_8 (by decide) (fun c_8 => ?_) (fun c_8 => ?_)
      · refine lv_aload_n F.1 F.2.1 dX6_gain_17 rfl (lv_at hl 1 rfl) ?_
        refine lv_iload_n F.1 F.2.1 dX6_gain_18 rfl (lv_at hl 2 rfl) ?_
        refine lv_iload_n F.1 F.2.1 dX6_gain_19 rfl (lv_at hl 3 rfl) ?_
        refine vV (rest := []) (wsp := fun _ => oM a (beV f s n v 64) :: ai ct (a 1) 210 f :: ai ct (a 4) 8 c :: [ai ct (a 3) 210 f]) F (kX6_findBest l dC dI ct a v f h s n (by omega) (by omega) hRg hN) gX6_gain_X6_findBest rfl ⟨rfl, rfl⟩ nmX6_findBest ⟨Nat.le_of_ble_eq_true rfl, Nat.le_of_ble_eq_true rfl⟩ eT_b (fun _ _ _ => trivial) hK hP hD hS hA 0 rfl rfl rfl [0, 1, 3] (by decide) rfl rfl rfl hl.1 (Nat.le_of_ble_eq_true rfl) dX6_gain_20 ⟨Nat.zero_le _, Nat.zero_le _⟩ (fun _ => rfl) (fun _ => rfl) [a 0, a 1, a 4, a 3] rfl (fun _ => rfl) (fun u_20 H locs e_20 hP hD hS => ?_)
        refine lv_aload_n F.1 F.2.1 dX6_gain_23 rfl (lv_at hl 1 rfl) ?_
        refine gf F hK hP 0 rfl rfl hiX6_gain_6 6 (by decide) (List.mem_of_getElem? (i := 1) rfl) rfl dX6_gain_24 ?_
        refine lv_aload_n F.1 F.2.1 dX6_gain_27 rfl (lv_at hl 1 rfl) ?_
        refine lv_iload_n F.1 F.2.1 dX6_gain_28 rfl (lv_at hl 2 rfl) ?_
        refine iV (rest := [.int ((beV f s n v 64) 6)]) (wsp := fun _ => oM a (beV f s n v 64) :: ai ct (a 1) 210 f :: ai ct (a 4) 8 c :: [ai ct (a 3) 210 f]) F (kX6_allOf l dC dI ct a (beV f s n v 64) f s (by omega)) gX6_gain_X6_allOf rfl ⟨rfl, rfl⟩ nmX6_allOf ⟨Nat.le_of_ble_eq_true rfl, Nat.le_of_ble_eq_true rfl⟩ eT_b (fun _ _ _ => trivial) hK hP hD hS hA 0 rfl rfl rfl [0, 1] (by decide) rfl rfl rfl hl.1 (Nat.le_of_ble_eq_true rfl) dX6_gain_29 ⟨Nat.zero_le _, Nat.zero_le _⟩ (fun _ => rfl) (fun _ => rfl) [a 0, a 1, a 4, a 3] rfl (fun _ => rfl) (fun r_29 u_29 H locs e_29 hP hD hS => ?_)
        obtain rfl := e_29
        refine lv_isub F.1 F.2.1 dX6_gain_32 ?_
        exact rtI (f, c, f, (beV f s n v 64)) F hr hlk hP hS rfl (⟨Eq.trans (by rw [show tn (nI s) = s from nI_clamp (by omega), show tn (nI n) = n from nI_clamp (by omega)]; unfold kBest; rw [if_neg cl]; rw [(be_eq hRg hs n v 63 (by omega)).2.1]; rfl) (if_pos cg).symm, ⟨beV_o f s n v (by omega) (by omega) 64, beV_o f s n v (by omega) (by omega) 64⟩⟩) dX6_gain_33
      · exact absurd rfl c_8
  · refine tp (if_neg cg) ?_
    refine lv_istore_n (lv' := [(3, .int (-1000001)), (0, .ref (a 0)), (1, .int x1), (2, .int x2)]) F.1 F.2.1 dX6_gain_6 rfl hl (by decide) rfl (fun ls hl => ?_)
    refine lv_iload_n F.1 F.2.1 dX6_gain_7 rfl (lv_at hl 0 rfl) ?_
    refine lv_if_eq (tgt := 17) F.1 F.2.1 dX6_gain_8 (by decide) (fun c_8 => ?_) (fun c_8 => ?_)
    · exact absurd c_8 (by decide)
    · refine lv_aload_n F.1 F.2.1 dX6_gain_11 rfl (lv_at hl 1 rfl) ?_
      refine lv_iload_n F.1 F.2.1 dX6_gain_12 rfl (lv_at hl 0 rfl) ?_
      refine iV (rest := []) (wsp := fun _ => oM a v :: ai ct (a 1) 210 f :: ai ct (a 4) 8 (fnd c 1) :: [ai ct (a 3) 210 h]) F (kX6_finding l dC dI ct a v c (-1000001) 1 (by decide) (by decide) (by decide)) gX6_gain_X6_finding rfl ⟨rfl, rfl⟩ nmX6_finding ⟨Nat.le_of_ble_eq_true rfl, Nat.le_of_ble_eq_true rfl⟩ eT_b (fun _ _ _ => trivial) hK hP hD hS hA 0 rfl rfl rfl [0, 2] (by decide) rfl rfl rfl hl.1 (Nat.le_of_ble_eq_true rfl) dX6_gain_13 ⟨Nat.zero_le _, Nat.zero_le _⟩ (fun _ => rfl) (fun _ => rfl) [a 0, a 1, a 4, a 3] rfl (fun _ => rfl) (fun r_13 u_13 H locs e_13 hP hD hS => ?_)
      obtain rfl := e_13
      exact rtI (f, (fnd c 1), h, v) F hr hlk hP hS rfl (⟨(if_neg cg).symm, ⟨rfl, rfl⟩⟩) dX6_gain_16

def rmX6_bundle : Room := { frames := 4, cells := 0, slots := 0, locals := 90 }
theorem nmX6_bundle : NmV yX6_bundle RX6 0 := by unfold NmV; decide +kernel
set_option maxHeartbeats 4000000 in
set_option maxRecDepth 100000 in
theorem kX6_bundle (l : Launch) (dC : Nat → ClassId) (dI : Nat → Nat → Nat) (ct : Nat → ClassId) (a : Nat → Nat) (v f c : Nat → Int32) (hRg : Rg f) : MI (S := (Nat → Int32) × (Nat → Int32)) l yX6_bundle wsX6_bundle rmX6_bundle dC dI ct eT [.ref (a 0)] (oM a v :: ai ct (a 1) 210 f :: [ai ct (a 4) 8 c]) (fun u => oM a v :: ai ct (a 1) 210 u.1 :: [ai ct (a 4) 8 u.2]) (fun r u => (r, u.1, u.2) = sBundle f c) := by
  refine MI.of (cc := cX6_bundle) (maxL := 8) (ret := (some .int)) (by decide) rfl (Nat.le_of_ble_eq_true rfl) ?_
  intro pg en z mi below meth cd A F hr hlk hin hK hP hD hA hS hE ls hl
  have F : CallFix pg mi cd cX6_bundle 8 z _ wsX6_bundle RX6 := F
  have hl : lv_has ls 8 [(0, .ref (a 0))] := hl
  refine lv_iconst (v := (-1)) F.1 F.2.1 dX6_bundle_0 (by decide) ?_
  refine lv_istore_n (lv' := [(1, .int (-1)), (0, .ref (a 0))]) F.1 F.2.1 dX6_bundle_1 rfl hl (by decide) rfl (fun ls hl => ?_)
  refine lv_iconst (v := 0) F.1 F.2.1 dX6_bundle_2 (by decide) ?_
  refine lv_istore_n (lv' := [(2, .int 0), (1, .int (-1)), (0, .ref (a 0))]) F.1 F.2.1 dX6_bundle_3 rfl hl (by decide) rfl (fun ls hl => ?_)
  refine lv_iconst (v := 0) F.1 F.2.1 dX6_bundle_4 (by decide) ?_
  refine lv_istore_n (lv' := [(3, .int 0), (2, .int 0), (1, .int (-1)), (0, .ref (a 0))]) F.1 F.2.1 dX6_bundle_5 rfl hl (by decide) rfl (fun ls hl => ?_)
  refine loopN (I := fun i H locs ls => va_P (dC, dI) vwCl (oM a v :: ai ct (a 1) 210 f :: [ai ct (a 4) 8 c]) H ∧ va_D A (oM a v :: ai ct (a 1) 210 f :: [ai ct (a 4) 8 c]) ∧ va_S A z.heap H locs ∧ lv_has ls 8 [(3, .int (nI i)), (2, .int ((bdI f i).2)), (1, .int ((bdI f i).1)), (0, .ref (a 0))]) 5 0 (by omega) ⟨hP, hD, hS, lv_sub hl [0, 1, 2, 3] rfl⟩ (fun H locs ls hI => ?_) (fun i hk_i H locs ls hI ih_6 => ?_)
  · obtain ⟨hP, hD, hS, hl⟩ := hI
    refine lv_iload_n F.1 F.2.1 dX6_bundle_6 rfl (lv_at hl 0 rfl) ?_
    refine lv_iconst (v := 5) F.1 F.2.1 dX6_bundle_7 (by decide) ?_
    refine lv_icmp_ge (tgt := 142) F.1 F.2.1 dX6_bundle_8 (by decide) (fun c_8 => ?_) (fun c_8 => ?_)
    · refine lv_iload_n F.1 F.2.1 dX6_bundle_142 rfl (lv_at hl 2 rfl) ?_
      refine lv_if_ge (tgt := 155) F.1 F.2.1 dX6_bundle_143 (by decide) (fun c_143 => ?_) (fun c_143 => ?_)
      · refine lv_iload_n F.1 F.2.1 dX6_bundle_155 rfl (lv_at hl 2 rfl) ?_
        exact rtI (f, c) F hr hlk hP hS rfl ((if_neg (Int32.not_lt.mpr c_143)).symm) dX6_bundle_156
      · refine lv_aload_n F.1 F.2.1 dX6_bundle_146 rfl (lv_at hl 3 rfl) ?_
        refine lv_ldc (v := (-1000004)) F.1 F.2.1 F.2.2.2.1 (F.2.2.2.2 _ (List.mem_of_getElem? (i := 1) rfl)) dX6_bundle_147 ?_
        refine iV (rest := []) (wsp := fun _ => oM a v :: ai ct (a 1) 210 f :: [ai ct (a 4) 8 (fnd c 4)]) F (kX6_finding l dC dI ct a v c (-1000004) 4 (by decide) (by decide) (by decide)) gX6_bundle_X6_finding rfl ⟨rfl, rfl⟩ nmX6_finding ⟨Nat.le_of_ble_eq_true rfl, Nat.le_of_ble_eq_true rfl⟩ eT_b (fun _ _ _ => trivial) hK hP hD hS hA 0 rfl rfl rfl [0, 2] (by decide) rfl rfl rfl hl.1 (Nat.le_of_ble_eq_true rfl) dX6_bundle_149 ⟨Nat.zero_le _, Nat.zero_le _⟩ (fun _ => rfl) (fun _ => rfl) [a 0, a 1, a 4] rfl (fun _ => rfl) (fun r_149 u_149 H locs e_149 hP hD hS => ?_)
        obtain rfl := e_149
        refine lv_goto (tgt := 156) F.1 F.2.1 dX6_bundle_152 (by decide) ?_
        exact rtI (f, (fnd c 4)) F hr hlk hP hS rfl ((if_pos (Int32.not_le.mp c_143)).symm) dX6_bundle_156
    · exact absurd (nI_le (Nat.le_refl _) (by decide)) c_8
  · obtain ⟨hP, hD, hS, hl⟩ := hI
    refine lv_iload_n F.1 F.2.1 dX6_bundle_6 rfl (lv_at hl 0 rfl) ?_
    refine lv_iconst (v := 5) F.1 F.2.1 dX6_bundle_7 (by decide) ?_
    refine lv_icmp_ge (tgt := 142) F.1 F.2.1 dX6_bundle_8 (by decide) (fun c_8 => ?_) (fun c_8 => ?_)
    · exact absurd c_8 (nI_ge hk_i (by decide))
    · refine lv_iconst (v := 0) F.1 F.2.1 dX6_bundle_11 (by decide) ?_
      refine lv_istore (lv' := [(4, .int 0), (3, .int (nI i)), (2, .int ((bdI f i).2)), (1, .int ((bdI f i).1)), (0, .ref (a 0))]) F.1 F.2.1 dX6_bundle_12 hl (by decide) rfl (fun ls hl => ?_)
      refine loopN (I := fun k H locs ls => va_P (dC, dI) vwCl (oM a v :: ai ct (a 1) 210 f :: [ai ct (a 4) 8 c]) H ∧ va_D A (oM a v :: ai ct (a 1) 210 f :: [ai ct (a 4) 8 c]) ∧ va_S A z.heap H locs ∧ lv_has ls 8 [(4, .int (nI k)), (3, .int (nI i)), (2, .int ((bdJ f i (bdI f i) k).2)), (1, .int ((bdJ f i (bdI f i) k).1)), (0, .ref (a 0))]) 5 0 (by omega) ⟨hP, hD, hS, lv_sub hl [0, 1, 2, 3, 4] rfl⟩ (fun H locs ls hI => ?_) (fun k hk_k H locs ls hI ih_14 => ?_)
      · obtain ⟨hP, hD, hS, hl⟩ := hI
        refine lv_iload F.1 F.2.1 dX6_bundle_14 (lv_at hl 0 rfl) ?_
        refine lv_iconst (v := 5) F.1 F.2.1 dX6_bundle_16 (by decide) ?_
        refine lv_icmp_ge (tgt := 136) F.1 F.2.1 dX6_bundle_17 (by decide) (fun c_17 => ?_) (fun c_17 => ?_)
        · refine lv_iinc (v := nI (i + 1)) (lv' := [(3, .int (nI (i + 1))), (4, .int 5), (2, .int ((bdJ f i (bdI f i) 5).2)), (1, .int ((bdJ f i (bdI f i) 5).1)), (0, .ref (a 0))]) F.1 F.2.1 dX6_bundle_136 hl (k := 1) rfl (by rw [show Int32.ofInt 1 = nI 1 from rfl, nI_add]) (by decide) rfl (fun ls hl => ?_)
          refine lv_goto (tgt := 6) F.1 F.2.1 dX6_bundle_139 (by decide) ?_
          exact ih_6 _ _ _ ⟨hP, hD, hS, lv_sub hl [0, 2, 3, 4] rfl⟩
        · exact absurd (nI_le (Nat.le_refl _) (by decide)) c_17
      · obtain ⟨hP, hD, hS, hl⟩ := hI
        refine lv_iload F.1 F.2.1 dX6_bundle_14 (lv_at hl 0 rfl) ?_
        refine lv_iconst (v := 5) F.1 F.2.1 dX6_bundle_16 (by decide) ?_
        refine lv_icmp_ge (tgt := 136) F.1 F.2.1 dX6_bundle_17 (by decide) (fun c_17 => ?_) (fun c_17 => ?_)
        · exact absurd c_17 (nI_ge hk_k (by decide))
        · refine lv_iload_n F.1 F.2.1 dX6_bundle_20 rfl (lv_at hl 1 rfl) ?_
          refine lv_iload F.1 F.2.1 dX6_bundle_21 (lv_at hl 0 rfl) ?_
          refine lv_icmp_eq (tgt := 53) F.1 F.2.1 dX6_bundle_23 (by decide) (fun c_23 => ?_) (fun c_23 => ?_)
          · refine lv_iconst (v := 0) F.1 F.2.1 dX6_bundle_53 (by decide) ?_
            refine lv_istore (lv' := [(5, .int 0), (4, .int (nI k)), (3, .int (nI i)), (2, .int ((bdJ f i (bdI f i) k).2)), (1, .int ((bdJ f i (bdI f i) k).1)), (0, .ref (a 0))]) F.1 F.2.1 dX6_bundle_54 hl (by decide) rfl (fun ls hl => ?_)
            refine lv_aload_n F.1 F.2.1 dX6_bundle_56 rfl (lv_at hl 5 rfl) ?_
            refine lv_iconst (v := 0) F.1 F.2.1 dX6_bundle_57 (by decide) ?_
            refine lv_iload F.1 F.2.1 dX6_bundle_58 (lv_at hl 1 rfl) ?_
            refine lv_iconst (v := 1) F.1 F.2.1 dX6_bundle_60 (by decide) ?_
            refine iV (rest := []) (wsp := fun _ => oM a v :: ai ct (a 1) 210 f :: [ai ct (a 4) 8 c]) F (kX6_priceFor l dC dI ct a v f 0 k 1 (by omega) (by omega)) gX6_bundle_X6_priceFor rfl ⟨rfl, rfl⟩ nmX6_priceFor ⟨Nat.le_of_ble_eq_true rfl, Nat.le_of_ble_eq_true rfl⟩ eT_b (fun _ _ _ => trivial) hK hP hD hS hA 0 rfl rfl rfl [0, 1] (by decide) rfl rfl rfl hl.1 (Nat.le_of_ble_eq_true rfl) dX6_bundle_61 ⟨Nat.zero_le _, Nat.zero_le _⟩ (fun _ => rfl) (fun _ => rfl) [a 0, a 1, a 4] rfl (fun _ => rfl) (fun r_61 u_61 H locs e_61 hP hD hS => ?_)
            obtain rfl := e_61
            refine lv_aload_n F.1 F.2.1 dX6_bundle_64 rfl (lv_at hl 5 rfl) ?_
            refine lv_iconst (v := 0) F.1 F.2.1 dX6_bundle_65 (by decide) ?_
            refine lv_iload_n F.1 F.2.1 dX6_bundle_66 rfl (lv_at hl 2 rfl) ?_
            refine lv_iconst (v := 1) F.1 F.2.1 dX6_bundle_67 (by decide) ?_
            refine iV (rest := [.int (pF f 0 k 1)]) (wsp := fun _ => oM a v :: ai ct (a 1) 210 f :: [ai ct (a 4) 8 c]) F (kX6_priceFor l dC dI ct a v f 0 i 1 (by omega) (by omega)) gX6_bundle_X6_priceFor rfl ⟨rfl, rfl⟩ nmX6_priceFor ⟨Nat.le_of_ble_eq_true rfl, Nat.le_of_ble_eq_true rfl⟩ eT_b (fun _ _ _ => trivial) hK hP hD hS hA 0 rfl rfl rfl [0, 1] (by decide) rfl rfl rfl hl.1 (Nat.le_of_ble_eq_true rfl) dX6_bundle_68 ⟨Nat.zero_le _, Nat.zero_le _⟩ (fun _ => rfl) (fun _ => rfl) [a 0, a 1, a 4] rfl (fun _ => rfl) (fun r_68 u_68 H locs e_68 hP hD hS => ?_)
            obtain rfl := e_68
            refine lv_isub F.1 F.2.1 dX6_bundle_71 ?_
            refine lv_istore (lv' := [(6, .int ((pF f 0 k 1) - (pF f 0 i 1))), (5, .int 0), (4, .int (nI k)), (3, .int (nI i)), (2, .int ((bdJ f i (bdI f i) k).2)), (1, .int ((bdJ f i (bdI f i) k).1)), (0, .ref (a 0))]) F.1 F.2.1 dX6_bundle_72 hl (by decide) rfl (fun ls hl => ?_)
            refine lv_aload_n F.1 F.2.1 dX6_bundle_74 rfl (lv_at hl 6 rfl) ?_
            refine lv_iconst (v := 1) F.1 F.2.1 dX6_bundle_75 (by decide) ?_
            refine lv_iload_n F.1 F.2.1 dX6_bundle_76 rfl (lv_at hl 3 rfl) ?_
            refine lv_iconst (v := 1) F.1 F.2.1 dX6_bundle_77 (by decide) ?_
            refine iV (rest := []) (wsp := fun _ => oM a v :: ai ct (a 1) 210 f :: [ai ct (a 4) 8 c]) F (kX6_priceFor l dC dI ct a v f 1 i 1 (by omega) (by omega)) gX6_bundle_X6_priceFor rfl ⟨rfl, rfl⟩ nmX6_priceFor ⟨Nat.le_of_ble_eq_true rfl, Nat.le_of_ble_eq_true rfl⟩ eT_b (fun _ _ _ => trivial) hK hP hD hS hA 0 rfl rfl rfl [0, 1] (by decide) rfl rfl rfl hl.1 (Nat.le_of_ble_eq_true rfl) dX6_bundle_78 ⟨Nat.zero_le _, Nat.zero_le _⟩ (fun _ => rfl) (fun _ => rfl) [a 0, a 1, a 4] rfl (fun _ => rfl) (fun r_78 u_78 H locs e_78 hP hD hS => ?_)
            obtain rfl := e_78
            refine lv_aload_n F.1 F.2.1 dX6_bundle_81 rfl (lv_at hl 6 rfl) ?_
            refine lv_iconst (v := 1) F.1 F.2.1 dX6_bundle_82 (by decide) ?_
            refine lv_iload F.1 F.2.1 dX6_bundle_83 (lv_at hl 2 rfl) ?_
            refine lv_iconst (v := 1) F.1 F.2.1 dX6_bundle_85 (by decide) ?_
            refine iV (rest := [.int (pF f 1 i 1)]) (wsp := fun _ => oM a v :: ai ct (a 1) 210 f :: [ai ct (a 4) 8 c]) F (kX6_priceFor l dC dI ct a v f 1 k 1 (by omega) (by omega)) gX6_bundle_X6_priceFor rfl ⟨rfl, rfl⟩ nmX6_priceFor ⟨Nat.le_of_ble_eq_true rfl, Nat.le_of_ble_eq_true rfl⟩ eT_b (fun _ _ _ => trivial) hK hP hD hS hA 0 rfl rfl rfl [0, 1] (by decide) rfl rfl rfl hl.1 (Nat.le_of_ble_eq_true rfl) dX6_bundle_86 ⟨Nat.zero_le _, Nat.zero_le _⟩ (fun _ => rfl) (fun _ => rfl) [a 0, a 1, a 4] rfl (fun _ => rfl) (fun r_86 u_86 H locs e_86 hP hD hS => ?_)
            obtain rfl := e_86
            refine lv_isub F.1 F.2.1 dX6_bundle_89 ?_
            refine lv_istore (lv' := [(7, .int ((pF f 1 i 1) - (pF f 1 k 1))), (6, .int ((pF f 0 k 1) - (pF f 0 i 1))), (5, .int 0), (4, .int (nI k)), (3, .int (nI i)), (2, .int ((bdJ f i (bdI f i) k).2)), (1, .int ((bdJ f i (bdI f i) k).1)), (0, .ref (a 0))]) F.1 F.2.1 dX6_bundle_90 hl (by decide) rfl (fun ls hl => ?_)
            refine lv_iload F.1 F.2.1 dX6_bundle_92 (lv_at hl 2 rfl) ?_
            refine lv_if_eq (tgt := 130) F.1 F.2.1 dX6_bundle_94 (by decide) (fun c_94 => ?_) (fun c_94 => ?_)
            · refine lv_iinc (v := nI (k + 1)) (lv' := [(4, .int (nI (k + 1))), (7, .int ((pF f 1 i 1) - (pF f 1 k 1))), (6, .int ((pF f 0 k 1) - (pF f 0 i 1))), (5, .int 0), (3, .int (nI i)), (2, .int ((bdJ f i (bdI f i) k).2)), (1, .int ((bdJ f i (bdI f i) k).1)), (0, .ref (a 0))]) F.1 F.2.1 dX6_bundle_130 hl (k := 3) rfl (by rw [show Int32.ofInt 1 = nI 1 from rfl, nI_add]) (by decide) rfl (fun ls hl => ?_)
              refine lv_goto (tgt := 14) F.1 F.2.1 dX6_bundle_133 (by decide) ?_
              have eb : bdJ f i (bdI f i) (k + 1) = bdJ f i (bdI f i) k := if_neg (fun q => bd_same (nI_of_eq c_23 (by omega) (by omega)) q.2.2.1)
              exact ih_14 _ _ _ ⟨hP, hD, hS, lv_sub hl [0, 4, 5, 6, 7] (by rw [eb]; rfl)⟩
            · exact absurd rfl c_94
          · refine lv_aload_n F.1 F.2.1 dX6_bundle_26 rfl (lv_at hl 4 rfl) ?_
            refine lv_iconst (v := 0) F.1 F.2.1 dX6_bundle_27 (by decide) ?_
            refine lv_iconst (v := 2) F.1 F.2.1 dX6_bundle_28 (by decide) ?_
            refine lv_iload_n F.1 F.2.1 dX6_bundle_29 rfl (lv_at hl 1 rfl) ?_
            refine lv_iadd F.1 F.2.1 dX6_bundle_30 ?_
            refine tp (y := nI (2 + i)) (ad2 (a := 2) (b := i) (c := 2 + i) rfl rfl rfl) ?_
            refine iV (rest := []) (wsp := fun _ => oM a v :: ai ct (a 1) 210 f :: [ai ct (a 4) 8 c]) F (kX6_sideIs l dC dI ct a v f 0 (2 + i) (22 + i) (by omega) (by omega)) gX6_bundle_X6_sideIs rfl ⟨rfl, rfl⟩ nmX6_sideIs ⟨Nat.le_of_ble_eq_true rfl, Nat.le_of_ble_eq_true rfl⟩ eT_b (fun _ _ _ => trivial) hK hP hD hS hA 0 rfl rfl rfl [0, 1] (by decide) rfl rfl rfl hl.1 (Nat.le_of_ble_eq_true rfl) dX6_bundle_31 ⟨Nat.zero_le _, Nat.zero_le _⟩ (fun _ => rfl) (fun _ => rfl) [a 0, a 1, a 4] rfl (fun _ => rfl) (fun r_31 u_31 H locs e_31 hP hD hS => ?_)
            obtain rfl := e_31
            refine lv_if_le (tgt := 53) F.1 F.2.1 dX6_bundle_34 (by decide) (fun c_34 => ?_) (fun c_34 => ?_)
            · refine lv_iconst (v := 0) F.1 F.2.1 dX6_bundle_53 (by decide) ?_
              refine lv_istore (lv' := [(5, .int 0), (4, .int (nI k)), (3, .int (nI i)), (2, .int ((bdJ f i (bdI f i) k).2)), (1, .int ((bdJ f i (bdI f i) k).1)), (0, .ref (a 0))]) F.1 F.2.1 dX6_bundle_54 hl (by decide) rfl (fun ls hl => ?_)
              refine lv_aload_n F.1 F.2.1 dX6_bundle_56 rfl (lv_at hl 5 rfl) ?_
              refine lv_iconst (v := 0) F.1 F.2.1 dX6_bundle_57 (by decide) ?_
              refine lv_iload F.1 F.2.1 dX6_bundle_58 (lv_at hl 1 rfl) ?_
              refine lv_iconst (v := 1) F.1 F.2.1 dX6_bundle_60 (by decide) ?_
              refine iV (rest := []) (wsp := fun _ => oM a v :: ai ct (a 1) 210 f :: [ai ct (a 4) 8 c]) F (kX6_priceFor l dC dI ct a v f 0 k 1 (by omega) (by omega)) gX6_bundle_X6_priceFor rfl ⟨rfl, rfl⟩ nmX6_priceFor ⟨Nat.le_of_ble_eq_true rfl, Nat.le_of_ble_eq_true rfl⟩ eT_b (fun _ _ _ => trivial) hK hP hD hS hA 0 rfl rfl rfl [0, 1] (by decide) rfl rfl rfl hl.1 (Nat.le_of_ble_eq_true rfl) dX6_bundle_61 ⟨Nat.zero_le _, Nat.zero_le _⟩ (fun _ => rfl) (fun _ => rfl) [a 0, a 1, a 4] rfl (fun _ => rfl) (fun r_61 u_61 H locs e_61 hP hD hS => ?_)
              obtain rfl := e_61
              refine lv_aload_n F.1 F.2.1 dX6_bundle_64 rfl (lv_at hl 5 rfl) ?_
              refine lv_iconst (v := 0) F.1 F.2.1 dX6_bundle_65 (by decide) ?_
              refine lv_iload_n F.1 F.2.1 dX6_bundle_66 rfl (lv_at hl 2 rfl) ?_
              refine lv_iconst (v := 1) F.1 F.2.1 dX6_bundle_67 (by decide) ?_
              refine iV (rest := [.int (pF f 0 k 1)]) (wsp := fun _ => oM a v :: ai ct (a 1) 210 f :: [ai ct (a 4) 8 c]) F (kX6_priceFor l dC dI ct a v f 0 i 1 (by omega) (by omega)) gX6_bundle_X6_priceFor rfl ⟨rfl, rfl⟩ nmX6_priceFor ⟨Nat.le_of_ble_eq_true rfl, Nat.le_of_ble_eq_true rfl⟩ eT_b (fun _ _ _ => trivial) hK hP hD hS hA 0 rfl rfl rfl [0, 1] (by decide) rfl rfl rfl hl.1 (Nat.le_of_ble_eq_true rfl) dX6_bundle_68 ⟨Nat.zero_le _, Nat.zero_le _⟩ (fun _ => rfl) (fun _ => rfl) [a 0, a 1, a 4] rfl (fun _ => rfl) (fun r_68 u_68 H locs e_68 hP hD hS => ?_)
              obtain rfl := e_68
              refine lv_isub F.1 F.2.1 dX6_bundle_71 ?_
              refine lv_istore (lv' := [(6, .int ((pF f 0 k 1) - (pF f 0 i 1))), (5, .int 0), (4, .int (nI k)), (3, .int (nI i)), (2, .int ((bdJ f i (bdI f i) k).2)), (1, .int ((bdJ f i (bdI f i) k).1)), (0, .ref (a 0))]) F.1 F.2.1 dX6_bundle_72 hl (by decide) rfl (fun ls hl => ?_)
              refine lv_aload_n F.1 F.2.1 dX6_bundle_74 rfl (lv_at hl 6 rfl) ?_
              refine lv_iconst (v := 1) F.1 F.2.1 dX6_bundle_75 (by decide) ?_
              refine lv_iload_n F.1 F.2.1 dX6_bundle_76 rfl (lv_at hl 3 rfl) ?_
              refine lv_iconst (v := 1) F.1 F.2.1 dX6_bundle_77 (by decide) ?_
              refine iV (rest := []) (wsp := fun _ => oM a v :: ai ct (a 1) 210 f :: [ai ct (a 4) 8 c]) F (kX6_priceFor l dC dI ct a v f 1 i 1 (by omega) (by omega)) gX6_bundle_X6_priceFor rfl ⟨rfl, rfl⟩ nmX6_priceFor ⟨Nat.le_of_ble_eq_true rfl, Nat.le_of_ble_eq_true rfl⟩ eT_b (fun _ _ _ => trivial) hK hP hD hS hA 0 rfl rfl rfl [0, 1] (by decide) rfl rfl rfl hl.1 (Nat.le_of_ble_eq_true rfl) dX6_bundle_78 ⟨Nat.zero_le _, Nat.zero_le _⟩ (fun _ => rfl) (fun _ => rfl) [a 0, a 1, a 4] rfl (fun _ => rfl) (fun r_78 u_78 H locs e_78 hP hD hS => ?_)
              obtain rfl := e_78
              refine lv_aload_n F.1 F.2.1 dX6_bundle_81 rfl (lv_at hl 6 rfl) ?_
              refine lv_iconst (v := 1) F.1 F.2.1 dX6_bundle_82 (by decide) ?_
              refine lv_iload F.1 F.2.1 dX6_bundle_83 (lv_at hl 2 rfl) ?_
              refine lv_iconst (v := 1) F.1 F.2.1 dX6_bundle_85 (by decide) ?_
              refine iV (rest := [.int (pF f 1 i 1)]) (wsp := fun _ => oM a v :: ai ct (a 1) 210 f :: [ai ct (a 4) 8 c]) F (kX6_priceFor l dC dI ct a v f 1 k 1 (by omega) (by omega)) gX6_bundle_X6_priceFor rfl ⟨rfl, rfl⟩ nmX6_priceFor ⟨Nat.le_of_ble_eq_true rfl, Nat.le_of_ble_eq_true rfl⟩ eT_b (fun _ _ _ => trivial) hK hP hD hS hA 0 rfl rfl rfl [0, 1] (by decide) rfl rfl rfl hl.1 (Nat.le_of_ble_eq_true rfl) dX6_bundle_86 ⟨Nat.zero_le _, Nat.zero_le _⟩ (fun _ => rfl) (fun _ => rfl) [a 0, a 1, a 4] rfl (fun _ => rfl) (fun r_86 u_86 H locs e_86 hP hD hS => ?_)
              obtain rfl := e_86
              refine lv_isub F.1 F.2.1 dX6_bundle_89 ?_
              refine lv_istore (lv' := [(7, .int ((pF f 1 i 1) - (pF f 1 k 1))), (6, .int ((pF f 0 k 1) - (pF f 0 i 1))), (5, .int 0), (4, .int (nI k)), (3, .int (nI i)), (2, .int ((bdJ f i (bdI f i) k).2)), (1, .int ((bdJ f i (bdI f i) k).1)), (0, .ref (a 0))]) F.1 F.2.1 dX6_bundle_90 hl (by decide) rfl (fun ls hl => ?_)
              refine lv_iload F.1 F.2.1 dX6_bundle_92 (lv_at hl 2 rfl) ?_
              refine lv_if_eq (tgt := 130) F.1 F.2.1 dX6_bundle_94 (by decide) (fun c_94 => ?_) (fun c_94 => ?_)
              · refine lv_iinc (v := nI (k + 1)) (lv' := [(4, .int (nI (k + 1))), (7, .int ((pF f 1 i 1) - (pF f 1 k 1))), (6, .int ((pF f 0 k 1) - (pF f 0 i 1))), (5, .int 0), (3, .int (nI i)), (2, .int ((bdJ f i (bdI f i) k).2)), (1, .int ((bdJ f i (bdI f i) k).1)), (0, .ref (a 0))]) F.1 F.2.1 dX6_bundle_130 hl (k := 3) rfl (by rw [show Int32.ofInt 1 = nI 1 from rfl, nI_add]) (by decide) rfl (fun ls hl => ?_)
                refine lv_goto (tgt := 14) F.1 F.2.1 dX6_bundle_133 (by decide) ?_
                have eb : bdJ f i (bdI f i) (k + 1) = bdJ f i (bdI f i) k := if_neg (fun q => q.1 (le0 (h_pos hRg 0 i (by omega) (by omega)) c_34))
                exact ih_14 _ _ _ ⟨hP, hD, hS, lv_sub hl [0, 4, 5, 6, 7] (by rw [eb]; rfl)⟩
              · exact absurd rfl c_94
            · refine lv_aload_n F.1 F.2.1 dX6_bundle_37 rfl (lv_at hl 4 rfl) ?_
              refine lv_iconst (v := 1) F.1 F.2.1 dX6_bundle_38 (by decide) ?_
              refine lv_iconst (v := 2) F.1 F.2.1 dX6_bundle_39 (by decide) ?_
              refine lv_iload F.1 F.2.1 dX6_bundle_40 (lv_at hl 0 rfl) ?_
              refine lv_iadd F.1 F.2.1 dX6_bundle_42 ?_
              refine tp (y := nI (2 + k)) (ad2 (a := 2) (b := k) (c := 2 + k) rfl rfl rfl) ?_
              refine iV (rest := []) (wsp := fun _ => oM a v :: ai ct (a 1) 210 f :: [ai ct (a 4) 8 c]) F (kX6_sideIs l dC dI ct a v f 1 (2 + k) (39 + k) (by omega) (by omega)) gX6_bundle_X6_sideIs rfl ⟨rfl, rfl⟩ nmX6_sideIs ⟨Nat.le_of_ble_eq_true rfl, Nat.le_of_ble_eq_true rfl⟩ eT_b (fun _ _ _ => trivial) hK hP hD hS hA 0 rfl rfl rfl [0, 1] (by decide) rfl rfl rfl hl.1 (Nat.le_of_ble_eq_true rfl) dX6_bundle_43 ⟨Nat.zero_le _, Nat.zero_le _⟩ (fun _ => rfl) (fun _ => rfl) [a 0, a 1, a 4] rfl (fun _ => rfl) (fun r_43 u_43 H locs e_43 hP hD hS => ?_)
              obtain rfl := e_43
              refine lv_if_le (tgt := 53) F.1 F.2.1 dX6_bundle_46 (by decide) (fun c_46 => ?_) (fun c_46 => ?_)
              · refine lv_iconst (v := 0) F.1 F.2.1 dX6_bundle_53 (by decide) ?_
                refine lv_istore (lv' := [(5, .int 0), (4, .int (nI k)), (3, .int (nI i)), (2, .int ((bdJ f i (bdI f i) k).2)), (1, .int ((bdJ f i (bdI f i) k).1)), (0, .ref (a 0))]) F.1 F.2.1 dX6_bundle_54 hl (by decide) rfl (fun ls hl => ?_)
                refine lv_aload_n F.1 F.2.1 dX6_bundle_56 rfl (lv_at hl 5 rfl) ?_
                refine lv_iconst (v := 0) F.1 F.2.1 dX6_bundle_57 (by decide) ?_
                refine lv_iload F.1 F.2.1 dX6_bundle_58 (lv_at hl 1 rfl) ?_
                refine lv_iconst (v := 1) F.1 F.2.1 dX6_bundle_60 (by decide) ?_
                refine iV (rest := []) (wsp := fun _ => oM a v :: ai ct (a 1) 210 f :: [ai ct (a 4) 8 c]) F (kX6_priceFor l dC dI ct a v f 0 k 1 (by omega) (by omega)) gX6_bundle_X6_priceFor rfl ⟨rfl, rfl⟩ nmX6_priceFor ⟨Nat.le_of_ble_eq_true rfl, Nat.le_of_ble_eq_true rfl⟩ eT_b (fun _ _ _ => trivial) hK hP hD hS hA 0 rfl rfl rfl [0, 1] (by decide) rfl rfl rfl hl.1 (Nat.le_of_ble_eq_true rfl) dX6_bundle_61 ⟨Nat.zero_le _, Nat.zero_le _⟩ (fun _ => rfl) (fun _ => rfl) [a 0, a 1, a 4] rfl (fun _ => rfl) (fun r_61 u_61 H locs e_61 hP hD hS => ?_)
                obtain rfl := e_61
                refine lv_aload_n F.1 F.2.1 dX6_bundle_64 rfl (lv_at hl 5 rfl) ?_
                refine lv_iconst (v := 0) F.1 F.2.1 dX6_bundle_65 (by decide) ?_
                refine lv_iload_n F.1 F.2.1 dX6_bundle_66 rfl (lv_at hl 2 rfl) ?_
                refine lv_iconst (v := 1) F.1 F.2.1 dX6_bundle_67 (by decide) ?_
                refine iV (rest := [.int (pF f 0 k 1)]) (wsp := fun _ => oM a v :: ai ct (a 1) 210 f :: [ai ct (a 4) 8 c]) F (kX6_priceFor l dC dI ct a v f 0 i 1 (by omega) (by omega)) gX6_bundle_X6_priceFor rfl ⟨rfl, rfl⟩ nmX6_priceFor ⟨Nat.le_of_ble_eq_true rfl, Nat.le_of_ble_eq_true rfl⟩ eT_b (fun _ _ _ => trivial) hK hP hD hS hA 0 rfl rfl rfl [0, 1] (by decide) rfl rfl rfl hl.1 (Nat.le_of_ble_eq_true rfl) dX6_bundle_68 ⟨Nat.zero_le _, Nat.zero_le _⟩ (fun _ => rfl) (fun _ => rfl) [a 0, a 1, a 4] rfl (fun _ => rfl) (fun r_68 u_68 H locs e_68 hP hD hS => ?_)
                obtain rfl := e_68
                refine lv_isub F.1 F.2.1 dX6_bundle_71 ?_
                refine lv_istore (lv' := [(6, .int ((pF f 0 k 1) - (pF f 0 i 1))), (5, .int 0), (4, .int (nI k)), (3, .int (nI i)), (2, .int ((bdJ f i (bdI f i) k).2)), (1, .int ((bdJ f i (bdI f i) k).1)), (0, .ref (a 0))]) F.1 F.2.1 dX6_bundle_72 hl (by decide) rfl (fun ls hl => ?_)
                refine lv_aload_n F.1 F.2.1 dX6_bundle_74 rfl (lv_at hl 6 rfl) ?_
                refine lv_iconst (v := 1) F.1 F.2.1 dX6_bundle_75 (by decide) ?_
                refine lv_iload_n F.1 F.2.1 dX6_bundle_76 rfl (lv_at hl 3 rfl) ?_
                refine lv_iconst (v := 1) F.1 F.2.1 dX6_bundle_77 (by decide) ?_
                refine iV (rest := []) (wsp := fun _ => oM a v :: ai ct (a 1) 210 f :: [ai ct (a 4) 8 c]) F (kX6_priceFor l dC dI ct a v f 1 i 1 (by omega) (by omega)) gX6_bundle_X6_priceFor rfl ⟨rfl, rfl⟩ nmX6_priceFor ⟨Nat.le_of_ble_eq_true rfl, Nat.le_of_ble_eq_true rfl⟩ eT_b (fun _ _ _ => trivial) hK hP hD hS hA 0 rfl rfl rfl [0, 1] (by decide) rfl rfl rfl hl.1 (Nat.le_of_ble_eq_true rfl) dX6_bundle_78 ⟨Nat.zero_le _, Nat.zero_le _⟩ (fun _ => rfl) (fun _ => rfl) [a 0, a 1, a 4] rfl (fun _ => rfl) (fun r_78 u_78 H locs e_78 hP hD hS => ?_)
                obtain rfl := e_78
                refine lv_aload_n F.1 F.2.1 dX6_bundle_81 rfl (lv_at hl 6 rfl) ?_
                refine lv_iconst (v := 1) F.1 F.2.1 dX6_bundle_82 (by decide) ?_
                refine lv_iload F.1 F.2.1 dX6_bundle_83 (lv_at hl 2 rfl) ?_
                refine lv_iconst (v := 1) F.1 F.2.1 dX6_bundle_85 (by decide) ?_
                refine iV (rest := [.int (pF f 1 i 1)]) (wsp := fun _ => oM a v :: ai ct (a 1) 210 f :: [ai ct (a 4) 8 c]) F (kX6_priceFor l dC dI ct a v f 1 k 1 (by omega) (by omega)) gX6_bundle_X6_priceFor rfl ⟨rfl, rfl⟩ nmX6_priceFor ⟨Nat.le_of_ble_eq_true rfl, Nat.le_of_ble_eq_true rfl⟩ eT_b (fun _ _ _ => trivial) hK hP hD hS hA 0 rfl rfl rfl [0, 1] (by decide) rfl rfl rfl hl.1 (Nat.le_of_ble_eq_true rfl) dX6_bundle_86 ⟨Nat.zero_le _, Nat.zero_le _⟩ (fun _ => rfl) (fun _ => rfl) [a 0, a 1, a 4] rfl (fun _ => rfl) (fun r_86 u_86 H locs e_86 hP hD hS => ?_)
                obtain rfl := e_86
                refine lv_isub F.1 F.2.1 dX6_bundle_89 ?_
                refine lv_istore (lv' := [(7, .int ((pF f 1 i 1) - (pF f 1 k 1))), (6, .int ((pF f 0 k 1) - (pF f 0 i 1))), (5, .int 0), (4, .int (nI k)), (3, .int (nI i)), (2, .int ((bdJ f i (bdI f i) k).2)), (1, .int ((bdJ f i (bdI f i) k).1)), (0, .ref (a 0))]) F.1 F.2.1 dX6_bundle_90 hl (by decide) rfl (fun ls hl => ?_)
                refine lv_iload F.1 F.2.1 dX6_bundle_92 (lv_at hl 2 rfl) ?_
                refine lv_if_eq (tgt := 130) F.1 F.2.1 dX6_bundle_94 (by decide) (fun c_94 => ?_) (fun c_94 => ?_)
                · refine lv_iinc (v := nI (k + 1)) (lv' := [(4, .int (nI (k + 1))), (7, .int ((pF f 1 i 1) - (pF f 1 k 1))), (6, .int ((pF f 0 k 1) - (pF f 0 i 1))), (5, .int 0), (3, .int (nI i)), (2, .int ((bdJ f i (bdI f i) k).2)), (1, .int ((bdJ f i (bdI f i) k).1)), (0, .ref (a 0))]) F.1 F.2.1 dX6_bundle_130 hl (k := 3) rfl (by rw [show Int32.ofInt 1 = nI 1 from rfl, nI_add]) (by decide) rfl (fun ls hl => ?_)
                  refine lv_goto (tgt := 14) F.1 F.2.1 dX6_bundle_133 (by decide) ?_
                  have eb : bdJ f i (bdI f i) (k + 1) = bdJ f i (bdI f i) k := if_neg (fun q => q.2.1 (le0 (h_pos hRg 1 k (by omega) (by omega)) c_46))
                  exact ih_14 _ _ _ ⟨hP, hD, hS, lv_sub hl [0, 4, 5, 6, 7] (by rw [eb]; rfl)⟩
                · exact absurd rfl c_94
              · refine lv_iconst (v := 1) F.1 F.2.1 dX6_bundle_49 (by decide) ?_
                refine lv_goto (tgt := 54) F.1 F.2.1 dX6_bundle_50 (by decide) ?_
                refine lv_istore (lv' := [(5, .int 1), (4, .int (nI k)), (3, .int (nI i)), (2, .int ((bdJ f i (bdI f i) k).2)), (1, .int ((bdJ f i (bdI f i) k).1)), (0, .ref (a 0))]) F.1 F.2.1 dX6_bundle_54 hl (by decide) rfl (fun ls hl => ?_)
                refine lv_aload_n F.1 F.2.1 dX6_bundle_56 rfl (lv_at hl 5 rfl) ?_
                refine lv_iconst (v := 0) F.1 F.2.1 dX6_bundle_57 (by decide) ?_
                refine lv_iload F.1 F.2.1 dX6_bundle_58 (lv_at hl 1 rfl) ?_
                refine lv_iconst (v := 1) F.1 F.2.1 dX6_bundle_60 (by decide) ?_
                refine iV (rest := []) (wsp := fun _ => oM a v :: ai ct (a 1) 210 f :: [ai ct (a 4) 8 c]) F (kX6_priceFor l dC dI ct a v f 0 k 1 (by omega) (by omega)) gX6_bundle_X6_priceFor rfl ⟨rfl, rfl⟩ nmX6_priceFor ⟨Nat.le_of_ble_eq_true rfl, Nat.le_of_ble_eq_true rfl⟩ eT_b (fun _ _ _ => trivial) hK hP hD hS hA 0 rfl rfl rfl [0, 1] (by decide) rfl rfl rfl hl.1 (Nat.le_of_ble_eq_true rfl) dX6_bundle_61 ⟨Nat.zero_le _, Nat.zero_le _⟩ (fun _ => rfl) (fun _ => rfl) [a 0, a 1, a 4] rfl (fun _ => rfl) (fun r_61 u_61 H locs e_61 hP hD hS => ?_)
                obtain rfl := e_61
                refine lv_aload_n F.1 F.2.1 dX6_bundle_64 rfl (lv_at hl 5 rfl) ?_
                refine lv_iconst (v := 0) F.1 F.2.1 dX6_bundle_65 (by decide) ?_
                refine lv_iload_n F.1 F.2.1 dX6_bundle_66 rfl (lv_at hl 2 rfl) ?_
                refine lv_iconst (v := 1) F.1 F.2.1 dX6_bundle_67 (by decide) ?_
                refine iV (rest := [.int (pF f 0 k 1)]) (wsp := fun _ => oM a v :: ai ct (a 1) 210 f :: [ai ct (a 4) 8 c]) F (kX6_priceFor l dC dI ct a v f 0 i 1 (by omega) (by omega)) gX6_bundle_X6_priceFor rfl ⟨rfl, rfl⟩ nmX6_priceFor ⟨Nat.le_of_ble_eq_true rfl, Nat.le_of_ble_eq_true rfl⟩ eT_b (fun _ _ _ => trivial) hK hP hD hS hA 0 rfl rfl rfl [0, 1] (by decide) rfl rfl rfl hl.1 (Nat.le_of_ble_eq_true rfl) dX6_bundle_68 ⟨Nat.zero_le _, Nat.zero_le _⟩ (fun _ => rfl) (fun _ => rfl) [a 0, a 1, a 4] rfl (fun _ => rfl) (fun r_68 u_68 H locs e_68 hP hD hS => ?_)
                obtain rfl := e_68
                refine lv_isub F.1 F.2.1 dX6_bundle_71 ?_
                refine lv_istore (lv' := [(6, .int ((pF f 0 k 1) - (pF f 0 i 1))), (5, .int 1), (4, .int (nI k)), (3, .int (nI i)), (2, .int ((bdJ f i (bdI f i) k).2)), (1, .int ((bdJ f i (bdI f i) k).1)), (0, .ref (a 0))]) F.1 F.2.1 dX6_bundle_72 hl (by decide) rfl (fun ls hl => ?_)
                refine lv_aload_n F.1 F.2.1 dX6_bundle_74 rfl (lv_at hl 6 rfl) ?_
                refine lv_iconst (v := 1) F.1 F.2.1 dX6_bundle_75 (by decide) ?_
                refine lv_iload_n F.1 F.2.1 dX6_bundle_76 rfl (lv_at hl 3 rfl) ?_
                refine lv_iconst (v := 1) F.1 F.2.1 dX6_bundle_77 (by decide) ?_
                refine iV (rest := []) (wsp := fun _ => oM a v :: ai ct (a 1) 210 f :: [ai ct (a 4) 8 c]) F (kX6_priceFor l dC dI ct a v f 1 i 1 (by omega) (by omega)) gX6_bundle_X6_priceFor rfl ⟨rfl, rfl⟩ nmX6_priceFor ⟨Nat.le_of_ble_eq_true rfl, Nat.le_of_ble_eq_true rfl⟩ eT_b (fun _ _ _ => trivial) hK hP hD hS hA 0 rfl rfl rfl [0, 1] (by decide) rfl rfl rfl hl.1 (Nat.le_of_ble_eq_true rfl) dX6_bundle_78 ⟨Nat.zero_le _, Nat.zero_le _⟩ (fun _ => rfl) (fun _ => rfl) [a 0, a 1, a 4] rfl (fun _ => rfl) (fun r_78 u_78 H locs e_78 hP hD hS => ?_)
                obtain rfl := e_78
                refine lv_aload_n F.1 F.2.1 dX6_bundle_81 rfl (lv_at hl 6 rfl) ?_
                refine lv_iconst (v := 1) F.1 F.2.1 dX6_bundle_82 (by decide) ?_
                refine lv_iload F.1 F.2.1 dX6_bundle_83 (lv_at hl 2 rfl) ?_
                refine lv_iconst (v := 1) F.1 F.2.1 dX6_bundle_85 (by decide) ?_
                refine iV (rest := [.int (pF f 1 i 1)]) (wsp := fun _ => oM a v :: ai ct (a 1) 210 f :: [ai ct (a 4) 8 c]) F (kX6_priceFor l dC dI ct a v f 1 k 1 (by omega) (by omega)) gX6_bundle_X6_priceFor rfl ⟨rfl, rfl⟩ nmX6_priceFor ⟨Nat.le_of_ble_eq_true rfl, Nat.le_of_ble_eq_true rfl⟩ eT_b (fun _ _ _ => trivial) hK hP hD hS hA 0 rfl rfl rfl [0, 1] (by decide) rfl rfl rfl hl.1 (Nat.le_of_ble_eq_true rfl) dX6_bundle_86 ⟨Nat.zero_le _, Nat.zero_le _⟩ (fun _ => rfl) (fun _ => rfl) [a 0, a 1, a 4] rfl (fun _ => rfl) (fun r_86 u_86 H locs e_86 hP hD hS => ?_)
                obtain rfl := e_86
                refine lv_isub F.1 F.2.1 dX6_bundle_89 ?_
                refine lv_istore (lv' := [(7, .int ((pF f 1 i 1) - (pF f 1 k 1))), (6, .int ((pF f 0 k 1) - (pF f 0 i 1))), (5, .int 1), (4, .int (nI k)), (3, .int (nI i)), (2, .int ((bdJ f i (bdI f i) k).2)), (1, .int ((bdJ f i (bdI f i) k).1)), (0, .ref (a 0))]) F.1 F.2.1 dX6_bundle_90 hl (by decide) rfl (fun ls hl => ?_)
                refine lv_iload F.1 F.2.1 dX6_bundle_92 (lv_at hl 2 rfl) ?_
                refine lv_if_eq (tgt := 130) F.1 F.2.1 dX6_bundle_94 (by decide) (fun c_94 => ?_) (fun c_94 => ?_)
                · exact absurd c_94 (by decide)
                · refine lv_iload F.1 F.2.1 dX6_bundle_97 (lv_at hl 1 rfl) ?_
                  refine lv_if_le (tgt := 130) F.1 F.2.1 dX6_bundle_99 (by decide) (fun c_99 => ?_) (fun c_99 => ?_)
                  · refine lv_iinc (v := nI (k + 1)) (lv' := [(4, .int (nI (k + 1))), (7, .int ((pF f 1 i 1) - (pF f 1 k 1))), (6, .int ((pF f 0 k 1) - (pF f 0 i 1))), (5, .int 1), (3, .int (nI i)), (2, .int ((bdJ f i (bdI f i) k).2)), (1, .int ((bdJ f i (bdI f i) k).1)), (0, .ref (a 0))]) F.1 F.2.1 dX6_bundle_130 hl (k := 3) rfl (by rw [show Int32.ofInt 1 = nI 1 from rfl, nI_add]) (by decide) rfl (fun ls hl => ?_)
                    refine lv_goto (tgt := 14) F.1 F.2.1 dX6_bundle_133 (by decide) ?_
                    have eb : bdJ f i (bdI f i) (k + 1) = bdJ f i (bdI f i) k := if_neg (fun q => Int32.not_lt.mpr c_99 q.2.2.1)
                    exact ih_14 _ _ _ ⟨hP, hD, hS, lv_sub hl [0, 4, 5, 6, 7] (by rw [eb]; rfl)⟩
                  · refine lv_iload F.1 F.2.1 dX6_bundle_102 (lv_at hl 0 rfl) ?_
                    refine lv_if_le (tgt := 130) F.1 F.2.1 dX6_bundle_104 (by decide) (fun c_104 => ?_) (fun c_104 => ?_)
                    · refine lv_iinc (v := nI (k + 1)) (lv' := [(4, .int (nI (k + 1))), (7, .int ((pF f 1 i 1) - (pF f 1 k 1))), (6, .int ((pF f 0 k 1) - (pF f 0 i 1))), (5, .int 1), (3, .int (nI i)), (2, .int ((bdJ f i (bdI f i) k).2)), (1, .int ((bdJ f i (bdI f i) k).1)), (0, .ref (a 0))]) F.1 F.2.1 dX6_bundle_130 hl (k := 3) rfl (by rw [show Int32.ofInt 1 = nI 1 from rfl, nI_add]) (by decide) rfl (fun ls hl => ?_)
                      refine lv_goto (tgt := 14) F.1 F.2.1 dX6_bundle_133 (by decide) ?_
                      have eb : bdJ f i (bdI f i) (k + 1) = bdJ f i (bdI f i) k := if_neg (fun q => Int32.not_lt.mpr c_104 q.2.2.2.1)
                      exact ih_14 _ _ _ ⟨hP, hD, hS, lv_sub hl [0, 4, 5, 6, 7] (by rw [eb]; rfl)⟩
                    · refine lv_iload F.1 F.2.1 dX6_bundle_107 (lv_at hl 1 rfl) ?_
                      refine lv_iload F.1 F.2.1 dX6_bundle_109 (lv_at hl 0 rfl) ?_
                      refine lv_iadd F.1 F.2.1 dX6_bundle_111 ?_
                      refine lv_iload_n F.1 F.2.1 dX6_bundle_112 rfl (lv_at hl 5 rfl) ?_
                      refine lv_icmp_le (tgt := 130) F.1 F.2.1 dX6_bundle_113 (by decide) (fun c_113 => ?_) (fun c_113 => ?_)
                      · refine lv_iinc (v := nI (k + 1)) (lv' := [(4, .int (nI (k + 1))), (7, .int ((pF f 1 i 1) - (pF f 1 k 1))), (6, .int ((pF f 0 k 1) - (pF f 0 i 1))), (5, .int 1), (3, .int (nI i)), (2, .int ((bdJ f i (bdI f i) k).2)), (1, .int ((bdJ f i (bdI f i) k).1)), (0, .ref (a 0))]) F.1 F.2.1 dX6_bundle_130 hl (k := 3) rfl (by rw [show Int32.ofInt 1 = nI 1 from rfl, nI_add]) (by decide) rfl (fun ls hl => ?_)
                        refine lv_goto (tgt := 14) F.1 F.2.1 dX6_bundle_133 (by decide) ?_
                        have eb : bdJ f i (bdI f i) (k + 1) = bdJ f i (bdI f i) k := if_neg (fun q => Int32.not_lt.mpr c_113 q.2.2.2.2)
                        exact ih_14 _ _ _ ⟨hP, hD, hS, lv_sub hl [0, 4, 5, 6, 7] (by rw [eb]; rfl)⟩
                      · refine lv_bipush (v := 10) F.1 F.2.1 dX6_bundle_116 (by decide) ?_
                        refine lv_iload_n F.1 F.2.1 dX6_bundle_118 rfl (lv_at hl 4 rfl) ?_
                        refine lv_imul F.1 F.2.1 dX6_bundle_119 ?_
                        refine tp (y := nI (10 * i)) (ml2 (a := 10) (b := i) (c := 10 * i) rfl rfl rfl) ?_
                        refine lv_iload F.1 F.2.1 dX6_bundle_120 (lv_at hl 3 rfl) ?_
                        refine lv_iadd F.1 F.2.1 dX6_bundle_122 ?_
                        refine tp (y := nI (10 * i + k)) (ad2 (a := 10 * i) (b := k) (c := 10 * i + k) rfl rfl rfl) ?_
                        refine lv_istore_n (lv' := [(1, .int (nI (10 * i + k))), (7, .int ((pF f 1 i 1) - (pF f 1 k 1))), (6, .int ((pF f 0 k 1) - (pF f 0 i 1))), (5, .int 1), (4, .int (nI k)), (3, .int (nI i)), (2, .int ((bdJ f i (bdI f i) k).2)), (0, .ref (a 0))]) F.1 F.2.1 dX6_bundle_123 rfl hl (by decide) rfl (fun ls hl => ?_)
                        refine lv_iload F.1 F.2.1 dX6_bundle_124 (lv_at hl 2 rfl) ?_
                        refine lv_iload F.1 F.2.1 dX6_bundle_126 (lv_at hl 1 rfl) ?_
                        refine lv_iadd F.1 F.2.1 dX6_bundle_128 ?_
                        refine lv_istore_n (lv' := [(2, .int (((pF f 0 k 1) - (pF f 0 i 1)) + ((pF f 1 i 1) - (pF f 1 k 1)))), (1, .int (nI (10 * i + k))), (7, .int ((pF f 1 i 1) - (pF f 1 k 1))), (6, .int ((pF f 0 k 1) - (pF f 0 i 1))), (5, .int 1), (4, .int (nI k)), (3, .int (nI i)), (0, .ref (a 0))]) F.1 F.2.1 dX6_bundle_129 rfl hl (by decide) rfl (fun ls hl => ?_)
                        refine lv_iinc (v := nI (k + 1)) (lv' := [(4, .int (nI (k + 1))), (2, .int (((pF f 0 k 1) - (pF f 0 i 1)) + ((pF f 1 i 1) - (pF f 1 k 1)))), (1, .int (nI (10 * i + k))), (7, .int ((pF f 1 i 1) - (pF f 1 k 1))), (6, .int ((pF f 0 k 1) - (pF f 0 i 1))), (5, .int 1), (3, .int (nI i)), (0, .ref (a 0))]) F.1 F.2.1 dX6_bundle_130 hl (k := 5) rfl (by rw [show Int32.ofInt 1 = nI 1 from rfl, nI_add]) (by decide) rfl (fun ls hl => ?_)
                        refine lv_goto (tgt := 14) F.1 F.2.1 dX6_bundle_133 (by decide) ?_
                        have eb : bdJ f i (bdI f i) (k + 1) = (nI (10 * i + k), bdA f i k + bdB f i k) := if_pos ⟨ne_z trivial c_34, ne_z trivial c_46, Int32.not_le.mp c_99, Int32.not_le.mp c_104, Int32.not_le.mp c_113⟩
                        exact ih_14 _ _ _ ⟨hP, hD, hS, lv_sub hl [0, 6, 1, 2, 7] (by rw [eb]; rfl)⟩
