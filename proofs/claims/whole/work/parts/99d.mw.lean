def rmX6_readItem : Room := { frames := 6, cells := 0, slots := 0, locals := 130 }
theorem nmX6_readItem : NmV yX6_readItem RX6 0 := by unfold NmV; decide +kernel
theorem hiX6_readItem_6 : ∀ w ∈ u_ws RX6 TX6 22, w ∈ wsX6_readItem := by decide +kernel
set_option maxHeartbeats 4000000 in
set_option maxRecDepth 100000 in
theorem kX6_readItem (l : Launch) (dC : Nat → ClassId) (dI : Nat → Nat → Nat) (ct : Nat → ClassId) (K : Nat → Nat) (a : Nat → Nat) (v y : Nat → Int32) (n : Nat) (it f0 f : Nat → Int32) (p m : Nat) (h8 : v 8 = nI n) (hn : n ≤ 120) (hp : p ≤ n) (hy : ∀ j, j < n → by_ (y j)) (hT : MT v y n p) (h13 : v 13 = 0) (h16 : v 16 = nI m) (hm : m ≤ p) (hap : apU it m f0 = f) (hro : RwO it m) : MV (S := (Nat → Int32) × (Nat → Int32)) l yX6_readItem wsX6_readItem rmX6_readItem dC dI ct (EQ K ct rfR [a 0, a 5, a 6, a 7]) [.ref (a 0)] (oM a v :: ai ct (a 5) 120 y :: (a 6, .inl (ct 3, 7, .inr (.inr (.inr (.inr (fun j => some (kS K j))))))) :: [ai ct (a 7) 480 it]) (fun u => oM a u.1 :: ai ct (a 5) 120 y :: (a 6, .inl (ct 3, 7, .inr (.inr (.inr (.inr (fun j => some (kS K j))))))) :: [ai ct (a 7) 480 u.2]) (fun u => RI y n v f0 f p u.1 u.2) := by
  refine MV.ofz (cc := cX6_readItem) (maxL := 6) (ret := none) (by decide) rfl (Nat.le_of_ble_eq_true rfl) ?_
  intro pg en z mi below meth cd A F hr hlk hin hK hP hD hA hS hAz hE ls hl
  have hz := EQ_z (pre := oM a v :: ai ct (a 5) 120 y :: (a 6, .inl (ct 3, 7, .inr (.inr (.inr (.inr (fun j => some (kS K j))))))) :: [ai ct (a 7) 480 it]) (show EQ K ct rfR (List.map Prod.fst (oM a v :: ai ct (a 5) 120 y :: (a 6, .inl (ct 3, 7, .inr (.inr (.inr (.inr (fun j => some (kS K j))))))) :: [ai ct (a 7) 480 it])) z from hE) hAz
  have F : CallFix pg mi cd cX6_readItem 6 z _ wsX6_readItem RX6 := F
  have hl : lv_has ls 6 [(0, .ref (a 0))] := hl
  refine lv_aload_n F.1 F.2.1 dX6_readItem_0 rfl (lv_at hl 0 rfl) ?_
  refine iV (rest := []) (wsp := fun _ => oM a v :: ai ct (a 5) 120 y :: (a 6, .inl (ct 3, 7, .inr (.inr (.inr (.inr (fun j => some (kS K j))))))) :: [ai ct (a 7) 480 it]) F (kX6_kindTold l dC dI ct K rfR a v y n p hn (by omega) hT) gX6_readItem_X6_kindTold rfl ⟨rfl, rfl⟩ nmX6_kindTold ⟨Nat.le_of_ble_eq_true rfl, Nat.le_of_ble_eq_true rfl⟩ EQ_b (EQ_call hE hS hz [0, 1, 2] rfl) hK hP hD hS hA 0 rfl rfl rfl [0, 1, 2] (by decide) rfl rfl rfl hl.1 (Nat.le_of_ble_eq_true rfl) dX6_readItem_1 ⟨Nat.zero_le _, Nat.zero_le _⟩ (fun _ => rfl) (fun _ => rfl) [a 0, a 5, a 6, a 7] rfl (fun _ => rfl) (fun r_1 u_1 H locs e_1 hP hD hS => ?_)
  obtain rfl := e_1
  refine lv_istore_n (lv' := [(1, .int (wkF y n p)), (0, .ref (a 0))]) F.1 F.2.1 dX6_readItem_4 rfl hl (by decide) rfl (fun ls hl => ?_)
  refine lv_aload_n F.1 F.2.1 dX6_readItem_5 rfl (lv_at hl 1 rfl) ?_
  refine lv_dup F.1 F.2.1 dX6_readItem_6 rfl ?_
  refine gf F hK hP 0 rfl rfl hiX6_readItem_6 17 (by decide) (List.mem_of_getElem? (i := 1) rfl) rfl dX6_readItem_7 ?_
  refine lv_iconst (v := 1) F.1 F.2.1 dX6_readItem_10 (by decide) ?_
  refine lv_iadd F.1 F.2.1 dX6_readItem_11 ?_
  refine pf (ws' := oM a (upd v 17 ((v 17) + 1)) :: ai ct (a 5) 120 y :: (a 6, .inl (ct 3, 7, .inr (.inr (.inr (.inr (fun j => some (kS K j))))))) :: [ai ct (a 7) 480 it]) F hK hP hD hS 0 rfl rfl hiX6_readItem_6 tyX6 tyX6_ok nmX6 17 (by decide) (List.mem_of_getElem? (i := 1) rfl) rfl rfl rfl (Nat.le_of_ble_eq_true rfl) dX6_readItem_12 (weq.rf _) (fun H locs hP hD hS => ?_)
  generalize hq_0 : upd v 17 (v 17 + 1) = v0 at hP hD
  have g8_0 : v0 8 = nI n := by rw [← hq_0]; exact h8
  have g13_0 : v0 13 = 0 := by rw [← hq_0]; exact h13
  have gT_0 : MT v0 y n p := by rw [← hq_0]; exact MT_up hT (by omega)
  have g16_0 : v0 16 = nI m := by rw [← hq_0]; exact h16
  have g17_0 : v0 17 = v 17 + 1 := by rw [← hq_0]; exact pk_us
  have g9_0 : ∀ j, j < 9 → v0 j = v j := fun j hj => by rw [← hq_0, pk_un (by omega)]
  have hp_0 := hp
  have hm_0 := hm
  refine lv_iload_n F.1 F.2.1 dX6_readItem_15 rfl (lv_at hl 0 rfl) ?_
  refine lv_if_lt (tgt := 41) F.1 F.2.1 dX6_readItem_16 (by decide) (fun c_16 => ?_) (fun c_16 => ?_)
  · refine lv_aload_n F.1 F.2.1 dX6_readItem_41 rfl (lv_at hl 1 rfl) ?_
    refine va_ldcwS F.1 F.2.1 (tx := "side") (q := kS K 7) F.2.2.2.1 (hE.2.2.2.1 ("HedgeHeapsModel", 296, "side", 7) (List.mem_of_getElem? (i := 0) rfl)) dX6_readItem_42 ?_
    refine iV (rest := []) (wsp := fun u_45 => oM a u_45 :: ai ct (a 5) 120 y :: (a 6, .inl (ct 3, 7, .inr (.inr (.inr (.inr (fun j => some (kS K j))))))) :: [ai ct (a 7) 480 it]) F (kX6_isNextY l dC dI ct K rfR a v0 y n p g8_0 hn hp_0 hy gT_0 7 (by decide) g13_0) gX6_readItem_X6_isNext rfl ⟨rfl, rfl⟩ nmX6_isNext ⟨Nat.le_of_ble_eq_true rfl, Nat.le_of_ble_eq_true rfl⟩ EQ_b (EQ_call hE hS hz [0, 1] rfl) hK hP hD hS hA 0 rfl rfl rfl [0, 1] (by decide) rfl rfl rfl hl.1 (Nat.le_of_ble_eq_true rfl) dX6_readItem_45 ⟨Nat.zero_le _, Nat.zero_le _⟩ (fun _ => rfl) (fun _ => rfl) [a 0, a 5, a 6, a 7] rfl (fun _ => rfl) (fun r_45 u_45 H locs e_45 hP hD hS => ?_)
    obtain ⟨a_45, c0_45, d_45⟩ := e_45
    by_cases w45 : isW y n p 7
    · skip
      refine tp (y := 1) (a_45.trans (if_pos w45)) ?_
      have E_45 := c0_45 w45
      have hlt_45 : p < tE y n p := isW_lt hp_0 w45
      have hp_45 : tE y n p ≤ n := tE_n hp_0
      have g8_45 := (E_45.2 8 (Or.inl (by omega))).trans g8_0
      have g13_45 := (E_45.2 13 (Or.inr (by omega))).trans g13_0
      have gT_45 := E_45.1
      have g16_45 := (E_45.2 16 (Or.inr (by omega))).trans g16_0
      have g17_45 := (E_45.2 17 (Or.inr (by omega))).trans g17_0
      have g9_45 : ∀ j, j < 9 → u_45 j = v j := fun j hj => (E_45.2 j (Or.inl hj)).trans (g9_0 j hj)
      have hm_45 : m ≤ tE y n p := by omega
      refine lv_if_eq (tgt := 113) F.1 F.2.1 dX6_readItem_48 (by decide) (fun c_48 => ?_) (fun c_48 => ?_)
      · exact absurd c_48 (by decide)
      · refine lv_aload_n F.1 F.2.1 dX6_readItem_51 rfl (lv_at hl 1 rfl) ?_
        refine lv_iconst (v := 0) F.1 F.2.1 dX6_readItem_52 (by decide) ?_
        refine lv_iconst (v := 1) F.1 F.2.1 dX6_readItem_53 (by decide) ?_
        by_cases w54 : nuP y n (tE y n p) 1
        · skip
          refine iV (rest := []) (wsp := fun u_54 => oM a u_54 :: ai ct (a 5) 120 y :: (a 6, .inl (ct 3, 7, .inr (.inr (.inr (.inr (fun j => some (kS K j))))))) :: [ai ct (a 7) 480 it]) F (kX6_numberY l dC dI ct a u_45 y n (tE y n p) g8_45 hn hp_45 hy gT_45 1 g13_45 w54) gX6_readItem_X6_number rfl ⟨rfl, rfl⟩ nmX6_number ⟨Nat.le_of_ble_eq_true rfl, Nat.le_of_ble_eq_true rfl⟩ eT_b (fun _ _ _ => trivial) hK hP hD hS hA 0 rfl rfl rfl [0, 1] (by decide) rfl rfl rfl hl.1 (Nat.le_of_ble_eq_true rfl) dX6_readItem_54 ⟨Nat.zero_le _, Nat.zero_le _⟩ (fun _ => rfl) (fun _ => rfl) [a 0, a 5, a 6, a 7] rfl (fun _ => rfl) (fun r_54 u_54 H locs e_54 hP hD hS => ?_)
          obtain ⟨a_54, E_54⟩ := e_54
          obtain ⟨sd, hvsd, evsd⟩ := nu_n (M := 1) hp_45 w54 (by omega)
          refine tp (y := nI sd) (a_54.trans evsd) ?_
          have hlt_54 : tE y n p < tE y n (tE y n p) := nuP_lt hp_45 w54
          have hp_54 : tE y n (tE y n p) ≤ n := tE_n hp_45
          have g8_54 := (E_54.2 8 (Or.inl (by omega))).trans g8_45
          have g13_54 := (E_54.2 13 (Or.inr (by omega))).trans g13_45
          have gT_54 := E_54.1
          have g16_54 := (E_54.2 16 (Or.inr (by omega))).trans g16_45
          have g17_54 := (E_54.2 17 (Or.inr (by omega))).trans g17_45
          have g9_54 : ∀ j, j < 9 → u_54 j = v j := fun j hj => (E_54.2 j (Or.inl hj)).trans (g9_45 j hj)
          have hm_54 : m ≤ tE y n (tE y n p) := by omega
          refine lv_istore_n (lv' := [(2, .int (nI sd)), (1, .int (wkF y n p)), (0, .ref (a 0))]) F.1 F.2.1 dX6_readItem_57 rfl hl (by decide) rfl (fun ls hl => ?_)
          refine lv_aload_n F.1 F.2.1 dX6_readItem_58 rfl (lv_at hl 2 rfl) ?_
          refine va_ldcwS F.1 F.2.1 (tx := "greed") (q := kS K 12) F.2.2.2.1 (hE.2.2.2.1 ("HedgeHeapsModel", 301, "greed", 12) (List.mem_of_getElem? (i := 1) rfl)) dX6_readItem_59 ?_
          refine iV (rest := []) (wsp := fun u_62 => oM a u_62 :: ai ct (a 5) 120 y :: (a 6, .inl (ct 3, 7, .inr (.inr (.inr (.inr (fun j => some (kS K j))))))) :: [ai ct (a 7) 480 it]) F (kX6_isNextY l dC dI ct K rfR a u_54 y n (tE y n (tE y n p)) g8_54 hn hp_54 hy gT_54 12 (by decide) g13_54) gX6_readItem_X6_isNext rfl ⟨rfl, rfl⟩ nmX6_isNext ⟨Nat.le_of_ble_eq_true rfl, Nat.le_of_ble_eq_true rfl⟩ EQ_b (EQ_call hE hS hz [0, 1] rfl) hK hP hD hS hA 0 rfl rfl rfl [0, 1] (by decide) rfl rfl rfl hl.1 (Nat.le_of_ble_eq_true rfl) dX6_readItem_62 ⟨Nat.zero_le _, Nat.zero_le _⟩ (fun _ => rfl) (fun _ => rfl) [a 0, a 5, a 6, a 7] rfl (fun _ => rfl) (fun r_62 u_62 H locs e_62 hP hD hS => ?_)
          obtain ⟨a_62, c0_62, d_62⟩ := e_62
          by_cases w62 : isW y n (tE y n (tE y n p)) 12
          · skip
            refine tp (y := 1) (a_62.trans (if_pos w62)) ?_
            have E_62 := c0_62 w62
            have hlt_62 : tE y n (tE y n p) < tE y n (tE y n (tE y n p)) := isW_lt hp_54 w62
            have hp_62 : tE y n (tE y n (tE y n p)) ≤ n := tE_n hp_54
            have g8_62 := (E_62.2 8 (Or.inl (by omega))).trans g8_54
            have g13_62 := (E_62.2 13 (Or.inr (by omega))).trans g13_54
            have gT_62 := E_62.1
            have g16_62 := (E_62.2 16 (Or.inr (by omega))).trans g16_54
            have g17_62 := (E_62.2 17 (Or.inr (by omega))).trans g17_54
            have g9_62 : ∀ j, j < 9 → u_62 j = v j := fun j hj => (E_62.2 j (Or.inl hj)).trans (g9_54 j hj)
            have hm_62 : m ≤ tE y n (tE y n (tE y n p)) := by omega
            refine lv_if_eq (tgt := 84) F.1 F.2.1 dX6_readItem_65 (by decide) (fun c_65 => ?_) (fun c_65 => ?_)
            · exact absurd c_65 (by decide)
            · refine lv_aload_n F.1 F.2.1 dX6_readItem_68 rfl (lv_at hl 2 rfl) ?_
              refine lv_iload_n F.1 F.2.1 dX6_readItem_69 rfl (lv_at hl 0 rfl) ?_
              refine lv_iconst (v := 0) F.1 F.2.1 dX6_readItem_70 (by decide) ?_
              refine iS (rest := [.ref (a 0)]) (wsp := fun _ => oM a u_62 :: ai ct (a 5) 120 y :: (a 6, .inl (ct 3, 7, .inr (.inr (.inr (.inr (fun j => some (kS K j))))))) :: [ai ct (a 7) 480 it]) F (kX6_at l dC dI ct sd 0 (20 + 17 * sd) (by omega)) gX6_readItem_X6_at rfl ⟨rfl, rfl⟩ nmX6_at ⟨Nat.le_of_ble_eq_true rfl, Nat.le_of_ble_eq_true rfl⟩ eT_b (fun _ _ _ => trivial) hK hP hD hS hA [] (by decide) rfl rfl rfl hl.1 (Nat.le_of_ble_eq_true rfl) dX6_readItem_71 ⟨Nat.zero_le _, Nat.zero_le _⟩ (fun _ => rfl) (fun _ => rfl) [a 0, a 5, a 6, a 7] rfl (fun _ => rfl) (fun r_71 u_71 H locs e_71 hP hD hS => ?_)
              obtain rfl := e_71
              refine lv_aload_n F.1 F.2.1 dX6_readItem_74 rfl (lv_at hl 2 rfl) ?_
              refine lv_iconst (v := 0) F.1 F.2.1 dX6_readItem_75 (by decide) ?_
              refine lv_bipush (v := 50) F.1 F.2.1 dX6_readItem_76 (by decide) ?_
              by_cases w78 : nuP y n (tE y n (tE y n (tE y n p))) 50
              · skip
                refine iV (rest := [.int (nI (20 + 17 * sd)), .ref (a 0)]) (wsp := fun u_78 => oM a u_78 :: ai ct (a 5) 120 y :: (a 6, .inl (ct 3, 7, .inr (.inr (.inr (.inr (fun j => some (kS K j))))))) :: [ai ct (a 7) 480 it]) F (kX6_numberY l dC dI ct a u_62 y n (tE y n (tE y n (tE y n p))) g8_62 hn hp_62 hy gT_62 50 g13_62 w78) gX6_readItem_X6_number rfl ⟨rfl, rfl⟩ nmX6_number ⟨Nat.le_of_ble_eq_true rfl, Nat.le_of_ble_eq_true rfl⟩ eT_b (fun _ _ _ => trivial) hK hP hD hS hA 0 rfl rfl rfl [0, 1] (by decide) rfl rfl rfl hl.1 (Nat.le_of_ble_eq_true rfl) dX6_readItem_78 ⟨Nat.zero_le _, Nat.zero_le _⟩ (fun _ => rfl) (fun _ => rfl) [a 0, a 5, a 6, a 7] rfl (fun _ => rfl) (fun r_78 u_78 H locs e_78 hP hD hS => ?_)
                obtain ⟨a_78, E_78⟩ := e_78
                obtain ⟨gd, hvgd, evgd⟩ := nu_n (M := 50) hp_62 w78 (by omega)
                refine tp (y := nI gd) (a_78.trans evgd) ?_
                have hlt_78 : tE y n (tE y n (tE y n p)) < tE y n (tE y n (tE y n (tE y n p))) := nuP_lt hp_62 w78
                have hp_78 : tE y n (tE y n (tE y n (tE y n p))) ≤ n := tE_n hp_62
                have g8_78 := (E_78.2 8 (Or.inl (by omega))).trans g8_62
                have g13_78 := (E_78.2 13 (Or.inr (by omega))).trans g13_62
                have gT_78 := E_78.1
                have g16_78 := (E_78.2 16 (Or.inr (by omega))).trans g16_62
                have g17_78 := (E_78.2 17 (Or.inr (by omega))).trans g17_62
                have g9_78 : ∀ j, j < 9 → u_78 j = v j := fun j hj => (E_78.2 j (Or.inl hj)).trans (g9_62 j hj)
                have hm_78 : m ≤ tE y n (tE y n (tE y n (tE y n p))) := by omega
                refine vV (rest := []) (wsp := fun _ => oM a (upd u_78 16 (nI (m + 1))) :: ai ct (a 5) 120 y :: (a 6, .inl (ct 3, 7, .inr (.inr (.inr (.inr (fun j => some (kS K j))))))) :: [ai ct (a 7) 480 (upd (upd it (2 * m) (nI (20 + 17 * sd))) (2 * m + 1) (nI gd))]) F (kX6_row l dC dI ct a u_78 it m (nI (20 + 17 * sd)) (nI gd) g16_78 (by omega)) gX6_readItem_X6_row rfl ⟨rfl, rfl⟩ nmX6_row ⟨Nat.le_of_ble_eq_true rfl, Nat.le_of_ble_eq_true rfl⟩ eT_b (fun _ _ _ => trivial) hK hP hD hS hA 0 rfl rfl rfl [0, 3] (by decide) rfl rfl rfl hl.1 (Nat.le_of_ble_eq_true rfl) dX6_readItem_81 ⟨Nat.zero_le _, Nat.zero_le _⟩ (fun _ => rfl) (fun _ => rfl) [a 0, a 5, a 6, a 7] rfl (fun _ => rfl) (fun u_81 H locs e_81 hP hD hS => ?_)
                generalize hq_81 : upd u_78 16 (nI (m + 1)) = v_81 at hP hD
                generalize hi_81 : upd (upd it (2 * m) (nI (20 + 17 * sd))) (2 * m + 1) (nI gd) = it_81 at hP hD
                have g8_81 : v_81 8 = nI n := by rw [← hq_81]; exact g8_78
                have g13_81 : v_81 13 = 0 := by rw [← hq_81]; exact g13_78
                have gT_81 : MT v_81 y n (tE y n (tE y n (tE y n (tE y n p)))) := by rw [← hq_81]; exact MT_up gT_78 (by omega)
                have g16_81 : v_81 16 = nI (m + 1) := by rw [← hq_81]; exact pk_us
                have g17_81 : v_81 17 = v 17 + 1 := by rw [← hq_81]; exact g17_78
                have g9_81 : ∀ j, j < 9 → v_81 j = v j := fun j hj => by rw [← hq_81, pk_un (by omega)]; exact g9_78 j hj
                have hp_81 : tE y n (tE y n (tE y n (tE y n p))) ≤ n := hp_78
                have hm_81 : m + 1 ≤ tE y n (tE y n (tE y n (tE y n p))) := by omega
                have gap_81 : apU it_81 (m + 1) f0 = upd f (20 + 17 * sd) (nI gd) := by rw [← hi_81, apU_S f0 (by omega), hap]
                have gro_81 : RwO it_81 (m + 1) := by rw [← hi_81]; exact RwO_S hro (by omega)
                refine lv_aload_n F.1 F.2.1 dX6_readItem_84 rfl (lv_at hl 2 rfl) ?_
                refine va_ldcwS F.1 F.2.1 (tx := "trust") (q := kS K 13) F.2.2.2.1 (hE.2.2.2.1 ("HedgeHeapsModel", 303, "trust", 13) (List.mem_of_getElem? (i := 2) rfl)) dX6_readItem_85 ?_
                refine iV (rest := []) (wsp := fun u_88 => oM a u_88 :: ai ct (a 5) 120 y :: (a 6, .inl (ct 3, 7, .inr (.inr (.inr (.inr (fun j => some (kS K j))))))) :: [ai ct (a 7) 480 it_81]) F (kX6_isNextY l dC dI ct K rfR a v_81 y n (tE y n (tE y n (tE y n (tE y n p)))) g8_81 hn hp_81 hy gT_81 13 (by decide) g13_81) gX6_readItem_X6_isNext rfl ⟨rfl, rfl⟩ nmX6_isNext ⟨Nat.le_of_ble_eq_true rfl, Nat.le_of_ble_eq_true rfl⟩ EQ_b (EQ_call hE hS hz [0, 1] rfl) hK hP hD hS hA 0 rfl rfl rfl [0, 1] (by decide) rfl rfl rfl hl.1 (Nat.le_of_ble_eq_true rfl) dX6_readItem_88 ⟨Nat.zero_le _, Nat.zero_le _⟩ (fun _ => rfl) (fun _ => rfl) [a 0, a 5, a 6, a 7] rfl (fun _ => rfl) (fun r_88 u_88 H locs e_88 hP hD hS => ?_)
                obtain ⟨a_88, c0_88, d_88⟩ := e_88
                by_cases w88 : isW y n (tE y n (tE y n (tE y n (tE y n p)))) 13
                · skip
                  refine tp (y := 1) (a_88.trans (if_pos w88)) ?_
                  have E_88 := c0_88 w88
                  have hlt_88 : tE y n (tE y n (tE y n (tE y n p))) < tE y n (tE y n (tE y n (tE y n (tE y n p)))) := isW_lt hp_81 w88
                  have hp_88 : tE y n (tE y n (tE y n (tE y n (tE y n p)))) ≤ n := tE_n hp_81
                  have g8_88 := (E_88.2 8 (Or.inl (by omega))).trans g8_81
                  have g13_88 := (E_88.2 13 (Or.inr (by omega))).trans g13_81
                  have gT_88 := E_88.1
                  have g16_88 := (E_88.2 16 (Or.inr (by omega))).trans g16_81
                  have g17_88 := (E_88.2 17 (Or.inr (by omega))).trans g17_81
                  have g9_88 : ∀ j, j < 9 → u_88 j = v j := fun j hj => (E_88.2 j (Or.inl hj)).trans (g9_81 j hj)
                  have hm_88 : m + 1 ≤ tE y n (tE y n (tE y n (tE y n (tE y n p)))) := by omega
                  refine lv_if_eq (tgt := 110) F.1 F.2.1 dX6_readItem_91 (by decide) (fun c_91 => ?_) (fun c_91 => ?_)
                  · exact absurd c_91 (by decide)
                  · refine lv_aload_n F.1 F.2.1 dX6_readItem_94 rfl (lv_at hl 2 rfl) ?_
                    refine lv_iload_n F.1 F.2.1 dX6_readItem_95 rfl (lv_at hl 0 rfl) ?_
                    refine lv_iconst (v := 1) F.1 F.2.1 dX6_readItem_96 (by decide) ?_
                    refine iS (rest := [.ref (a 0)]) (wsp := fun _ => oM a u_88 :: ai ct (a 5) 120 y :: (a 6, .inl (ct 3, 7, .inr (.inr (.inr (.inr (fun j => some (kS K j))))))) :: [ai ct (a 7) 480 it_81]) F (kX6_at l dC dI ct sd 1 (21 + 17 * sd) (by omega)) gX6_readItem_X6_at rfl ⟨rfl, rfl⟩ nmX6_at ⟨Nat.le_of_ble_eq_true rfl, Nat.le_of_ble_eq_true rfl⟩ eT_b (fun _ _ _ => trivial) hK hP hD hS hA [] (by decide) rfl rfl rfl hl.1 (Nat.le_of_ble_eq_true rfl) dX6_readItem_97 ⟨Nat.zero_le _, Nat.zero_le _⟩ (fun _ => rfl) (fun _ => rfl) [a 0, a 5, a 6, a 7] rfl (fun _ => rfl) (fun r_97 u_97 H locs e_97 hP hD hS => ?_)
                    obtain rfl := e_97
                    refine lv_aload_n F.1 F.2.1 dX6_readItem_100 rfl (lv_at hl 2 rfl) ?_
                    refine lv_iconst (v := 0) F.1 F.2.1 dX6_readItem_101 (by decide) ?_
                    refine lv_bipush (v := 9) F.1 F.2.1 dX6_readItem_102 (by decide) ?_
                    by_cases w104 : nuP y n (tE y n (tE y n (tE y n (tE y n (tE y n p))))) 9
                    · skip
                      refine iV (rest := [.int (nI (21 + 17 * sd)), .ref (a 0)]) (wsp := fun u_104 => oM a u_104 :: ai ct (a 5) 120 y :: (a 6, .inl (ct 3, 7, .inr (.inr (.inr (.inr (fun j => some (kS K j))))))) :: [ai ct (a 7) 480 it_81]) F (kX6_numberY l dC dI ct a u_88 y n (tE y n (tE y n (tE y n (tE y n (tE y n p))))) g8_88 hn hp_88 hy gT_88 9 g13_88 w104) gX6_readItem_X6_number rfl ⟨rfl, rfl⟩ nmX6_number ⟨Nat.le_of_ble_eq_true rfl, Nat.le_of_ble_eq_true rfl⟩ eT_b (fun _ _ _ => trivial) hK hP hD hS hA 0 rfl rfl rfl [0, 1] (by decide) rfl rfl rfl hl.1 (Nat.le_of_ble_eq_true rfl) dX6_readItem_104 ⟨Nat.zero_le _, Nat.zero_le _⟩ (fun _ => rfl) (fun _ => rfl) [a 0, a 5, a 6, a 7] rfl (fun _ => rfl) (fun r_104 u_104 H locs e_104 hP hD hS => ?_)
                      obtain ⟨a_104, E_104⟩ := e_104
                      obtain ⟨td, hvtd, evtd⟩ := nu_n (M := 9) hp_88 w104 (by omega)
                      refine tp (y := nI td) (a_104.trans evtd) ?_
                      have hlt_104 : tE y n (tE y n (tE y n (tE y n (tE y n p)))) < tE y n (tE y n (tE y n (tE y n (tE y n (tE y n p))))) := nuP_lt hp_88 w104
                      have hp_104 : tE y n (tE y n (tE y n (tE y n (tE y n (tE y n p))))) ≤ n := tE_n hp_88
                      have g8_104 := (E_104.2 8 (Or.inl (by omega))).trans g8_88
                      have g13_104 := (E_104.2 13 (Or.inr (by omega))).trans g13_88
                      have gT_104 := E_104.1
                      have g16_104 := (E_104.2 16 (Or.inr (by omega))).trans g16_88
                      have g17_104 := (E_104.2 17 (Or.inr (by omega))).trans g17_88
                      have g9_104 : ∀ j, j < 9 → u_104 j = v j := fun j hj => (E_104.2 j (Or.inl hj)).trans (g9_88 j hj)
                      have hm_104 : m + 1 ≤ tE y n (tE y n (tE y n (tE y n (tE y n (tE y n p))))) := by omega
                      refine vV (rest := []) (wsp := fun _ => oM a (upd u_104 16 (nI ((m + 1) + 1))) :: ai ct (a 5) 120 y :: (a 6, .inl (ct 3, 7, .inr (.inr (.inr (.inr (fun j => some (kS K j))))))) :: [ai ct (a 7) 480 (upd (upd it_81 (2 * (m + 1)) (nI (21 + 17 * sd))) (2 * (m + 1) + 1) (nI td))]) F (kX6_row l dC dI ct a u_104 it_81 (m + 1) (nI (21 + 17 * sd)) (nI td) g16_104 (by omega)) gX6_readItem_X6_row rfl ⟨rfl, rfl⟩ nmX6_row ⟨Nat.le_of_ble_eq_true rfl, Nat.le_of_ble_eq_true rfl⟩ eT_b (fun _ _ _ => trivial) hK hP hD hS hA 0 rfl rfl rfl [0, 3] (by decide) rfl rfl rfl hl.1 (Nat.le_of_ble_eq_true rfl) dX6_readItem_107 ⟨Nat.zero_le _, Nat.zero_le _⟩ (fun _ => rfl) (fun _ => rfl) [a 0, a 5, a 6, a 7] rfl (fun _ => rfl) (fun u_107 H locs e_107 hP hD hS => ?_)
                      generalize hq_107 : upd u_104 16 (nI (m + 1 + 1)) = v_107 at hP hD
                      generalize hi_107 : upd (upd it_81 (2 * (m + 1)) (nI (21 + 17 * sd))) (2 * (m + 1) + 1) (nI td) = it_107 at hP hD
                      have g8_107 : v_107 8 = nI n := by rw [← hq_107]; exact g8_104
                      have g13_107 : v_107 13 = 0 := by rw [← hq_107]; exact g13_104
                      have gT_107 : MT v_107 y n (tE y n (tE y n (tE y n (tE y n (tE y n (tE y n p)))))) := by rw [← hq_107]; exact MT_up gT_104 (by omega)
                      have g16_107 : v_107 16 = nI (m + 1 + 1) := by rw [← hq_107]; exact pk_us
                      have g17_107 : v_107 17 = v 17 + 1 := by rw [← hq_107]; exact g17_104
                      have g9_107 : ∀ j, j < 9 → v_107 j = v j := fun j hj => by rw [← hq_107, pk_un (by omega)]; exact g9_104 j hj
                      have hp_107 : tE y n (tE y n (tE y n (tE y n (tE y n (tE y n p))))) ≤ n := hp_104
                      have hm_107 : m + 1 + 1 ≤ tE y n (tE y n (tE y n (tE y n (tE y n (tE y n p))))) := by omega
                      have gap_107 : apU it_107 (m + 1 + 1) f0 = upd (upd f (20 + 17 * sd) (nI gd)) (21 + 17 * sd) (nI td) := by rw [← hi_107, apU_S f0 (by omega), gap_81]
                      have gro_107 : RwO it_107 (m + 1 + 1) := by rw [← hi_107]; exact RwO_S gro_81 (by omega)
                      refine lv_goto (tgt := 250) F.1 F.2.1 dX6_readItem_110 (by decide) ?_
                      exact rtV (v_107, it_107) F hr hlk hP hS rfl (RI_ok (r := (1, tE y n (tE y n (tE y n (tE y n (tE y n (tE y n p))))), upd (upd f (20 + 17 * sd) (nI gd)) (21 + 17 * sd) (nI td))) (m + 1 + 1) (by rw [itF, if_neg (Int32.not_le.mpr c_16), if_pos w45, tlS, if_pos w54, tlG, if_pos w62, if_pos w78, tlT, if_pos w88, if_pos w104] <;> simp only [evsd, show tn (nI sd) = sd from nI_clamp (by omega), i20, evgd, show tn (nI gd) = gd from nI_clamp (by omega), i20, evtd, show tn (nI td) = td from nI_clamp (by omega), i20]) rfl g8_107 g17_107 g9_107 g13_107 gT_107 g16_107 hm_107 gap_107 gro_107) dX6_readItem_250
                    · skip
                      refine iV (rest := [.int (nI (21 + 17 * sd)), .ref (a 0)]) (wsp := fun _ => oM a (upd u_88 13 1) :: ai ct (a 5) 120 y :: (a 6, .inl (ct 3, 7, .inr (.inr (.inr (.inr (fun j => some (kS K j))))))) :: [ai ct (a 7) 480 it_81]) F (kX6_numberN l dC dI ct a u_88 y n (tE y n (tE y n (tE y n (tE y n (tE y n p))))) (by omega) gT_88 9 (Or.inr w104)) gX6_readItem_X6_number rfl ⟨rfl, rfl⟩ nmX6_number ⟨Nat.le_of_ble_eq_true rfl, Nat.le_of_ble_eq_true rfl⟩ eT_b (fun _ _ _ => trivial) hK hP hD hS hA 0 rfl rfl rfl [0, 1] (by decide) rfl rfl rfl hl.1 (Nat.le_of_ble_eq_true rfl) dX6_readItem_104 ⟨Nat.zero_le _, Nat.zero_le _⟩ (fun _ => rfl) (fun _ => rfl) [a 0, a 5, a 6, a 7] rfl (fun _ => rfl) (fun r_104 u_104 H locs e_104 hP hD hS => ?_)
                      obtain rfl := e_104
                      obtain ⟨b_104, hb_104, eb_104⟩ := MT_12 hp_88 gT_88
                      refine tp (y := nI b_104) eb_104 ?_
                      generalize hq_104 : upd u_88 13 1 = n_104 at hP hD
                      have g8_104 : n_104 8 = nI n := by rw [← hq_104]; exact g8_88
                      have g13_104 : ¬ n_104 13 = 0 := by rw [← hq_104, pk_us]; decide
                      have gT_104 : MT n_104 y n (tE y n (tE y n (tE y n (tE y n (tE y n p))))) := by rw [← hq_104]; exact MT_up gT_88 (by omega)
                      have g16_104 : n_104 16 = nI (m + 1) := by rw [← hq_104]; exact g16_88
                      have g17_104 : n_104 17 = v 17 + 1 := by rw [← hq_104]; exact g17_88
                      have g9_104 : ∀ j, j < 9 → n_104 j = v j := fun j hj => by rw [← hq_104, pk_un (by omega)]; exact g9_88 j hj
                      have hm_104 : m + 1 ≤ tE y n (tE y n (tE y n (tE y n (tE y n p)))) := hm_88
                      have hp_104 : tE y n (tE y n (tE y n (tE y n (tE y n p)))) ≤ n := hp_88
                      refine vV (rest := []) (wsp := fun _ => oM a (upd n_104 16 (nI ((m + 1) + 1))) :: ai ct (a 5) 120 y :: (a 6, .inl (ct 3, 7, .inr (.inr (.inr (.inr (fun j => some (kS K j))))))) :: [ai ct (a 7) 480 (upd (upd it_81 (2 * (m + 1)) (nI (21 + 17 * sd))) (2 * (m + 1) + 1) (nI b_104))]) F (kX6_row l dC dI ct a n_104 it_81 (m + 1) (nI (21 + 17 * sd)) (nI b_104) g16_104 (by omega)) gX6_readItem_X6_row rfl ⟨rfl, rfl⟩ nmX6_row ⟨Nat.le_of_ble_eq_true rfl, Nat.le_of_ble_eq_true rfl⟩ eT_b (fun _ _ _ => trivial) hK hP hD hS hA 0 rfl rfl rfl [0, 3] (by decide) rfl rfl rfl hl.1 (Nat.le_of_ble_eq_true rfl) dX6_readItem_107 ⟨Nat.zero_le _, Nat.zero_le _⟩ (fun _ => rfl) (fun _ => rfl) [a 0, a 5, a 6, a 7] rfl (fun _ => rfl) (fun u_107 H locs e_107 hP hD hS => ?_)
                      generalize hq_107 : upd n_104 16 (nI (m + 1 + 1)) = v_107 at hP hD
                      generalize hi_107 : upd (upd it_81 (2 * (m + 1)) (nI (21 + 17 * sd))) (2 * (m + 1) + 1) (nI b_104) = it_107 at hP hD
                      have g8_107 : v_107 8 = nI n := by rw [← hq_107]; exact g8_104
                      have g13_107 : ¬ v_107 13 = 0 := by rw [← hq_107]; exact g13_104
                      have gT_107 : MT v_107 y n (tE y n (tE y n (tE y n (tE y n (tE y n p))))) := by rw [← hq_107]; exact MT_up gT_104 (by omega)
                      have g16_107 : v_107 16 = nI (m + 1 + 1) := by rw [← hq_107]; exact pk_us
                      have g17_107 : v_107 17 = v 17 + 1 := by rw [← hq_107]; exact g17_104
                      have g9_107 : ∀ j, j < 9 → v_107 j = v j := fun j hj => by rw [← hq_107, pk_un (by omega)]; exact g9_104 j hj
                      have hp_107 : tE y n (tE y n (tE y n (tE y n (tE y n p)))) ≤ n := hp_104
                      have hm_107 : m + 1 + 1 ≤ 122 := by omega
                      refine lv_goto (tgt := 250) F.1 F.2.1 dX6_readItem_110 (by decide) ?_
                      exact rtV (v_107, it_107) F hr hlk hP hS rfl (RI_bad (r := (0, tE y n (tE y n (tE y n (tE y n (tE y n p)))), upd f (20 + 17 * sd) (nI gd))) (by rw [itF, if_neg (Int32.not_le.mpr c_16), if_pos w45, tlS, if_pos w54, tlG, if_pos w62, if_pos w78, tlT, if_pos w88, if_neg w104] <;> simp only [evsd, show tn (nI sd) = sd from nI_clamp (by omega), i20, evgd, show tn (nI gd) = gd from nI_clamp (by omega), i20]) rfl g8_107 g17_107 g9_107 g13_107 gT_107.1) dX6_readItem_250
                · skip
                  refine tp (y := 0) (a_88.trans (if_neg w88)) ?_
                  have d_88 := (d_88 w88).symm
                  subst d_88
                  refine lv_if_eq (tgt := 110) F.1 F.2.1 dX6_readItem_91 (by decide) (fun c_91 => ?_) (fun c_91 => ?_)
                  · refine lv_goto (tgt := 250) F.1 F.2.1 dX6_readItem_110 (by decide) ?_
                    exact rtV (v_81, it_81) F hr hlk hP hS rfl (RI_ok (r := (1, tE y n (tE y n (tE y n (tE y n p))), upd f (20 + 17 * sd) (nI gd))) (m + 1) (by rw [itF, if_neg (Int32.not_le.mpr c_16), if_pos w45, tlS, if_pos w54, tlG, if_pos w62, if_pos w78, tlT, if_neg w88] <;> simp only [evsd, show tn (nI sd) = sd from nI_clamp (by omega), i20, evgd, show tn (nI gd) = gd from nI_clamp (by omega), i20]) rfl g8_81 g17_81 g9_81 g13_81 gT_81 g16_81 hm_81 gap_81 gro_81) dX6_readItem_250
                  · exact absurd rfl c_91
              · skip
                refine iV (rest := [.int (nI (20 + 17 * sd)), .ref (a 0)]) (wsp := fun _ => oM a (upd u_62 13 1) :: ai ct (a 5) 120 y :: (a 6, .inl (ct 3, 7, .inr (.inr (.inr (.inr (fun j => some (kS K j))))))) :: [ai ct (a 7) 480 it]) F (kX6_numberN l dC dI ct a u_62 y n (tE y n (tE y n (tE y n p))) (by omega) gT_62 50 (Or.inr w78)) gX6_readItem_X6_number rfl ⟨rfl, rfl⟩ nmX6_number ⟨Nat.le_of_ble_eq_true rfl, Nat.le_of_ble_eq_true rfl⟩ eT_b (fun _ _ _ => trivial) hK hP hD hS hA 0 rfl rfl rfl [0, 1] (by decide) rfl rfl rfl hl.1 (Nat.le_of_ble_eq_true rfl) dX6_readItem_78 ⟨Nat.zero_le _, Nat.zero_le _⟩ (fun _ => rfl) (fun _ => rfl) [a 0, a 5, a 6, a 7] rfl (fun _ => rfl) (fun r_78 u_78 H locs e_78 hP hD hS => ?_)
                obtain rfl := e_78
                obtain ⟨b_78, hb_78, eb_78⟩ := MT_12 hp_62 gT_62
                refine tp (y := nI b_78) eb_78 ?_
                generalize hq_78 : upd u_62 13 1 = n_78 at hP hD
                have g8_78 : n_78 8 = nI n := by rw [← hq_78]; exact g8_62
                have g13_78 : ¬ n_78 13 = 0 := by rw [← hq_78, pk_us]; decide
                have gT_78 : MT n_78 y n (tE y n (tE y n (tE y n p))) := by rw [← hq_78]; exact MT_up gT_62 (by omega)
                have g16_78 : n_78 16 = nI m := by rw [← hq_78]; exact g16_62
                have g17_78 : n_78 17 = v 17 + 1 := by rw [← hq_78]; exact g17_62
                have g9_78 : ∀ j, j < 9 → n_78 j = v j := fun j hj => by rw [← hq_78, pk_un (by omega)]; exact g9_62 j hj
                have hm_78 : m ≤ tE y n (tE y n (tE y n p)) := hm_62
                have hp_78 : tE y n (tE y n (tE y n p)) ≤ n := hp_62
                refine vV (rest := []) (wsp := fun _ => oM a (upd n_78 16 (nI (m + 1))) :: ai ct (a 5) 120 y :: (a 6, .inl (ct 3, 7, .inr (.inr (.inr (.inr (fun j => some (kS K j))))))) :: [ai ct (a 7) 480 (upd (upd it (2 * m) (nI (20 + 17 * sd))) (2 * m + 1) (nI b_78))]) F (kX6_row l dC dI ct a n_78 it m (nI (20 + 17 * sd)) (nI b_78) g16_78 (by omega)) gX6_readItem_X6_row rfl ⟨rfl, rfl⟩ nmX6_row ⟨Nat.le_of_ble_eq_true rfl, Nat.le_of_ble_eq_true rfl⟩ eT_b (fun _ _ _ => trivial) hK hP hD hS hA 0 rfl rfl rfl [0, 3] (by decide) rfl rfl rfl hl.1 (Nat.le_of_ble_eq_true rfl) dX6_readItem_81 ⟨Nat.zero_le _, Nat.zero_le _⟩ (fun _ => rfl) (fun _ => rfl) [a 0, a 5, a 6, a 7] rfl (fun _ => rfl) (fun u_81 H locs e_81 hP hD hS => ?_)
                generalize hq_81 : upd n_78 16 (nI (m + 1)) = v_81 at hP hD
                generalize hi_81 : upd (upd it (2 * m) (nI (20 + 17 * sd))) (2 * m + 1) (nI b_78) = it_81 at hP hD
                have g8_81 : v_81 8 = nI n := by rw [← hq_81]; exact g8_78
                have g13_81 : ¬ v_81 13 = 0 := by rw [← hq_81]; exact g13_78
                have gT_81 : MT v_81 y n (tE y n (tE y n (tE y n p))) := by rw [← hq_81]; exact MT_up gT_78 (by omega)
                have g16_81 : v_81 16 = nI (m + 1) := by rw [← hq_81]; exact pk_us
                have g17_81 : v_81 17 = v 17 + 1 := by rw [← hq_81]; exact g17_78
                have g9_81 : ∀ j, j < 9 → v_81 j = v j := fun j hj => by rw [← hq_81, pk_un (by omega)]; exact g9_78 j hj
                have hp_81 : tE y n (tE y n (tE y n p)) ≤ n := hp_78
                have hm_81 : m + 1 ≤ 122 := by omega
                refine lv_aload_n F.1 F.2.1 dX6_readItem_84 rfl (lv_at hl 2 rfl) ?_
                refine va_ldcwS F.1 F.2.1 (tx := "trust") (q := kS K 13) F.2.2.2.1 (hE.2.2.2.1 ("HedgeHeapsModel", 303, "trust", 13) (List.mem_of_getElem? (i := 2) rfl)) dX6_readItem_85 ?_
                refine iV (rest := []) (wsp := fun _ => oM a v_81 :: ai ct (a 5) 120 y :: (a 6, .inl (ct 3, 7, .inr (.inr (.inr (.inr (fun j => some (kS K j))))))) :: [ai ct (a 7) 480 it_81]) F (kX6_isNextN l dC dI ct a v_81 (kS K 13) g13_81) gX6_readItem_X6_isNext rfl ⟨rfl, rfl⟩ nmX6_isNext ⟨Nat.le_of_ble_eq_true rfl, Nat.le_of_ble_eq_true rfl⟩ eT_b (fun _ _ _ => trivial) hK hP hD hS hA 0 rfl rfl rfl [0] (by decide) rfl rfl rfl hl.1 (Nat.le_of_ble_eq_true rfl) dX6_readItem_88 ⟨Nat.zero_le _, Nat.zero_le _⟩ (fun _ => rfl) (fun _ => rfl) [a 0, a 5, a 6, a 7] rfl (fun _ => rfl) (fun r_88 u_88 H locs e_88 hP hD hS => ?_)
                obtain rfl := e_88
                refine lv_if_eq (tgt := 110) F.1 F.2.1 dX6_readItem_91 (by decide) (fun c_91 => ?_) (fun c_91 => ?_)
                · refine lv_goto (tgt := 250) F.1 F.2.1 dX6_readItem_110 (by decide) ?_
                  exact rtV (v_81, it_81) F hr hlk hP hS rfl (RI_bad (r := (0, tE y n (tE y n (tE y n p)), f)) (by rw [itF, if_neg (Int32.not_le.mpr c_16), if_pos w45, tlS, if_pos w54, tlG, if_pos w62, if_neg w78] <;> simp only [evsd, show tn (nI sd) = sd from nI_clamp (by omega), i20]) rfl g8_81 g17_81 g9_81 g13_81 gT_81.1) dX6_readItem_250
                · exact absurd rfl c_91
          · skip
            refine tp (y := 0) (a_62.trans (if_neg w62)) ?_
            have d_62 := (d_62 w62).symm
            subst d_62
            refine lv_if_eq (tgt := 84) F.1 F.2.1 dX6_readItem_65 (by decide) (fun c_65 => ?_) (fun c_65 => ?_)
            · refine lv_aload_n F.1 F.2.1 dX6_readItem_84 rfl (lv_at hl 2 rfl) ?_
              refine va_ldcwS F.1 F.2.1 (tx := "trust") (q := kS K 13) F.2.2.2.1 (hE.2.2.2.1 ("HedgeHeapsModel", 303, "trust", 13) (List.mem_of_getElem? (i := 2) rfl)) dX6_readItem_85 ?_
              refine iV (rest := []) (wsp := fun u_88 => oM a u_88 :: ai ct (a 5) 120 y :: (a 6, .inl (ct 3, 7, .inr (.inr (.inr (.inr (fun j => some (kS K j))))))) :: [ai ct (a 7) 480 it]) F (kX6_isNextY l dC dI ct K rfR a u_54 y n (tE y n (tE y n p)) g8_54 hn hp_54 hy gT_54 13 (by decide) g13_54) gX6_readItem_X6_isNext rfl ⟨rfl, rfl⟩ nmX6_isNext ⟨Nat.le_of_ble_eq_true rfl, Nat.le_of_ble_eq_true rfl⟩ EQ_b (EQ_call hE hS hz [0, 1] rfl) hK hP hD hS hA 0 rfl rfl rfl [0, 1] (by decide) rfl rfl rfl hl.1 (Nat.le_of_ble_eq_true rfl) dX6_readItem_88 ⟨Nat.zero_le _, Nat.zero_le _⟩ (fun _ => rfl) (fun _ => rfl) [a 0, a 5, a 6, a 7] rfl (fun _ => rfl) (fun r_88 u_88 H locs e_88 hP hD hS => ?_)
              obtain ⟨a_88, c0_88, d_88⟩ := e_88
              by_cases w88 : isW y n (tE y n (tE y n p)) 13
              · skip
                refine tp (y := 1) (a_88.trans (if_pos w88)) ?_
                have E_88 := c0_88 w88
                have hlt_88 : tE y n (tE y n p) < tE y n (tE y n (tE y n p)) := isW_lt hp_54 w88
                have hp_88 : tE y n (tE y n (tE y n p)) ≤ n := tE_n hp_54
                have g8_88 := (E_88.2 8 (Or.inl (by omega))).trans g8_54
                have g13_88 := (E_88.2 13 (Or.inr (by omega))).trans g13_54
                have gT_88 := E_88.1
                have g16_88 := (E_88.2 16 (Or.inr (by omega))).trans g16_54
                have g17_88 := (E_88.2 17 (Or.inr (by omega))).trans g17_54
                have g9_88 : ∀ j, j < 9 → u_88 j = v j := fun j hj => (E_88.2 j (Or.inl hj)).trans (g9_54 j hj)
                have hm_88 : m ≤ tE y n (tE y n (tE y n p)) := by omega
                refine lv_if_eq (tgt := 110) F.1 F.2.1 dX6_readItem_91 (by decide) (fun c_91 => ?_) (fun c_91 => ?_)
                · exact absurd c_91 (by decide)
                · refine lv_aload_n F.1 F.2.1 dX6_readItem_94 rfl (lv_at hl 2 rfl) ?_
                  refine lv_iload_n F.1 F.2.1 dX6_readItem_95 rfl (lv_at hl 0 rfl) ?_
                  refine lv_iconst (v := 1) F.1 F.2.1 dX6_readItem_96 (by decide) ?_
                  refine iS (rest := [.ref (a 0)]) (wsp := fun _ => oM a u_88 :: ai ct (a 5) 120 y :: (a 6, .inl (ct 3, 7, .inr (.inr (.inr (.inr (fun j => some (kS K j))))))) :: [ai ct (a 7) 480 it]) F (kX6_at l dC dI ct sd 1 (21 + 17 * sd) (by omega)) gX6_readItem_X6_at rfl ⟨rfl, rfl⟩ nmX6_at ⟨Nat.le_of_ble_eq_true rfl, Nat.le_of_ble_eq_true rfl⟩ eT_b (fun _ _ _ => trivial) hK hP hD hS hA [] (by decide) rfl rfl rfl hl.1 (Nat.le_of_ble_eq_true rfl) dX6_readItem_97 ⟨Nat.zero_le _, Nat.zero_le _⟩ (fun _ => rfl) (fun _ => rfl) [a 0, a 5, a 6, a 7] rfl (fun _ => rfl) (fun r_97 u_97 H locs e_97 hP hD hS => ?_)
                  obtain rfl := e_97
                  refine lv_aload_n F.1 F.2.1 dX6_readItem_100 rfl (lv_at hl 2 rfl) ?_
                  refine lv_iconst (v := 0) F.1 F.2.1 dX6_readItem_101 (by decide) ?_
                  refine lv_bipush (v := 9) F.1 F.2.1 dX6_readItem_102 (by decide) ?_
                  by_cases w104 : nuP y n (tE y n (tE y n (tE y n p))) 9
                  · skip
                    refine iV (rest := [.int (nI (21 + 17 * sd)), .ref (a 0)]) (wsp := fun u_104 => oM a u_104 :: ai ct (a 5) 120 y :: (a 6, .inl (ct 3, 7, .inr (.inr (.inr (.inr (fun j => some (kS K j))))))) :: [ai ct (a 7) 480 it]) F (kX6_numberY l dC dI ct a u_88 y n (tE y n (tE y n (tE y n p))) g8_88 hn hp_88 hy gT_88 9 g13_88 w104) gX6_readItem_X6_number rfl ⟨rfl, rfl⟩ nmX6_number ⟨Nat.le_of_ble_eq_true rfl, Nat.le_of_ble_eq_true rfl⟩ eT_b (fun _ _ _ => trivial) hK hP hD hS hA 0 rfl rfl rfl [0, 1] (by decide) rfl rfl rfl hl.1 (Nat.le_of_ble_eq_true rfl) dX6_readItem_104 ⟨Nat.zero_le _, Nat.zero_le _⟩ (fun _ => rfl) (fun _ => rfl) [a 0, a 5, a 6, a 7] rfl (fun _ => rfl) (fun r_104 u_104 H locs e_104 hP hD hS => ?_)
                    obtain ⟨a_104, E_104⟩ := e_104
                    obtain ⟨td, hvtd, evtd⟩ := nu_n (M := 9) hp_88 w104 (by omega)
                    refine tp (y := nI td) (a_104.trans evtd) ?_
                    have hlt_104 : tE y n (tE y n (tE y n p)) < tE y n (tE y n (tE y n (tE y n p))) := nuP_lt hp_88 w104
                    have hp_104 : tE y n (tE y n (tE y n (tE y n p))) ≤ n := tE_n hp_88
                    have g8_104 := (E_104.2 8 (Or.inl (by omega))).trans g8_88
                    have g13_104 := (E_104.2 13 (Or.inr (by omega))).trans g13_88
                    have gT_104 := E_104.1
                    have g16_104 := (E_104.2 16 (Or.inr (by omega))).trans g16_88
                    have g17_104 := (E_104.2 17 (Or.inr (by omega))).trans g17_88
                    have g9_104 : ∀ j, j < 9 → u_104 j = v j := fun j hj => (E_104.2 j (Or.inl hj)).trans (g9_88 j hj)
                    have hm_104 : m ≤ tE y n (tE y n (tE y n (tE y n p))) := by omega
                    refine vV (rest := []) (wsp := fun _ => oM a (upd u_104 16 (nI (m + 1))) :: ai ct (a 5) 120 y :: (a 6, .inl (ct 3, 7, .inr (.inr (.inr (.inr (fun j => some (kS K j))))))) :: [ai ct (a 7) 480 (upd (upd it (2 * m) (nI (21 + 17 * sd))) (2 * m + 1) (nI td))]) F (kX6_row l dC dI ct a u_104 it m (nI (21 + 17 * sd)) (nI td) g16_104 (by omega)) gX6_readItem_X6_row rfl ⟨rfl, rfl⟩ nmX6_row ⟨Nat.le_of_ble_eq_true rfl, Nat.le_of_ble_eq_true rfl⟩ eT_b (fun _ _ _ => trivial) hK hP hD hS hA 0 rfl rfl rfl [0, 3] (by decide) rfl rfl rfl hl.1 (Nat.le_of_ble_eq_true rfl) dX6_readItem_107 ⟨Nat.zero_le _, Nat.zero_le _⟩ (fun _ => rfl) (fun _ => rfl) [a 0, a 5, a 6, a 7] rfl (fun _ => rfl) (fun u_107 H locs e_107 hP hD hS => ?_)
                    generalize hq_107 : upd u_104 16 (nI (m + 1)) = v_107 at hP hD
                    generalize hi_107 : upd (upd it (2 * m) (nI (21 + 17 * sd))) (2 * m + 1) (nI td) = it_107 at hP hD
                    have g8_107 : v_107 8 = nI n := by rw [← hq_107]; exact g8_104
                    have g13_107 : v_107 13 = 0 := by rw [← hq_107]; exact g13_104
                    have gT_107 : MT v_107 y n (tE y n (tE y n (tE y n (tE y n p)))) := by rw [← hq_107]; exact MT_up gT_104 (by omega)
                    have g16_107 : v_107 16 = nI (m + 1) := by rw [← hq_107]; exact pk_us
                    have g17_107 : v_107 17 = v 17 + 1 := by rw [← hq_107]; exact g17_104
                    have g9_107 : ∀ j, j < 9 → v_107 j = v j := fun j hj => by rw [← hq_107, pk_un (by omega)]; exact g9_104 j hj
                    have hp_107 : tE y n (tE y n (tE y n (tE y n p))) ≤ n := hp_104
                    have hm_107 : m + 1 ≤ tE y n (tE y n (tE y n (tE y n p))) := by omega
                    have gap_107 : apU it_107 (m + 1) f0 = upd f (21 + 17 * sd) (nI td) := by rw [← hi_107, apU_S f0 (by omega), hap]
                    have gro_107 : RwO it_107 (m + 1) := by rw [← hi_107]; exact RwO_S hro (by omega)
                    refine lv_goto (tgt := 250) F.1 F.2.1 dX6_readItem_110 (by decide) ?_
                    exact rtV (v_107, it_107) F hr hlk hP hS rfl (RI_ok (r := (1, tE y n (tE y n (tE y n (tE y n p))), upd f (21 + 17 * sd) (nI td))) (m + 1) (by rw [itF, if_neg (Int32.not_le.mpr c_16), if_pos w45, tlS, if_pos w54, tlG, if_neg w62, tlT, if_pos w88, if_pos w104] <;> simp only [evsd, show tn (nI sd) = sd from nI_clamp (by omega), i20, evtd, show tn (nI td) = td from nI_clamp (by omega), i20]) rfl g8_107 g17_107 g9_107 g13_107 gT_107 g16_107 hm_107 gap_107 gro_107) dX6_readItem_250
                  · skip
                    refine iV (rest := [.int (nI (21 + 17 * sd)), .ref (a 0)]) (wsp := fun _ => oM a (upd u_88 13 1) :: ai ct (a 5) 120 y :: (a 6, .inl (ct 3, 7, .inr (.inr (.inr (.inr (fun j => some (kS K j))))))) :: [ai ct (a 7) 480 it]) F (kX6_numberN l dC dI ct a u_88 y n (tE y n (tE y n (tE y n p))) (by omega) gT_88 9 (Or.inr w104)) gX6_readItem_X6_number rfl ⟨rfl, rfl⟩ nmX6_number ⟨Nat.le_of_ble_eq_true rfl, Nat.le_of_ble_eq_true rfl⟩ eT_b (fun _ _ _ => trivial) hK hP hD hS hA 0 rfl rfl rfl [0, 1] (by decide) rfl rfl rfl hl.1 (Nat.le_of_ble_eq_true rfl) dX6_readItem_104 ⟨Nat.zero_le _, Nat.zero_le _⟩ (fun _ => rfl) (fun _ => rfl) [a 0, a 5, a 6, a 7] rfl (fun _ => rfl) (fun r_104 u_104 H locs e_104 hP hD hS => ?_)
                    obtain rfl := e_104
                    obtain ⟨b_104, hb_104, eb_104⟩ := MT_12 hp_88 gT_88
                    refine tp (y := nI b_104) eb_104 ?_
                    generalize hq_104 : upd u_88 13 1 = n_104 at hP hD
                    have g8_104 : n_104 8 = nI n := by rw [← hq_104]; exact g8_88
                    have g13_104 : ¬ n_104 13 = 0 := by rw [← hq_104, pk_us]; decide
                    have gT_104 : MT n_104 y n (tE y n (tE y n (tE y n p))) := by rw [← hq_104]; exact MT_up gT_88 (by omega)
                    have g16_104 : n_104 16 = nI m := by rw [← hq_104]; exact g16_88
                    have g17_104 : n_104 17 = v 17 + 1 := by rw [← hq_104]; exact g17_88
                    have g9_104 : ∀ j, j < 9 → n_104 j = v j := fun j hj => by rw [← hq_104, pk_un (by omega)]; exact g9_88 j hj
                    have hm_104 : m ≤ tE y n (tE y n (tE y n p)) := hm_88
                    have hp_104 : tE y n (tE y n (tE y n p)) ≤ n := hp_88
                    refine vV (rest := []) (wsp := fun _ => oM a (upd n_104 16 (nI (m + 1))) :: ai ct (a 5) 120 y :: (a 6, .inl (ct 3, 7, .inr (.inr (.inr (.inr (fun j => some (kS K j))))))) :: [ai ct (a 7) 480 (upd (upd it (2 * m) (nI (21 + 17 * sd))) (2 * m + 1) (nI b_104))]) F (kX6_row l dC dI ct a n_104 it m (nI (21 + 17 * sd)) (nI b_104) g16_104 (by omega)) gX6_readItem_X6_row rfl ⟨rfl, rfl⟩ nmX6_row ⟨Nat.le_of_ble_eq_true rfl, Nat.le_of_ble_eq_true rfl⟩ eT_b (fun _ _ _ => trivial) hK hP hD hS hA 0 rfl rfl rfl [0, 3] (by decide) rfl rfl rfl hl.1 (Nat.le_of_ble_eq_true rfl) dX6_readItem_107 ⟨Nat.zero_le _, Nat.zero_le _⟩ (fun _ => rfl) (fun _ => rfl) [a 0, a 5, a 6, a 7] rfl (fun _ => rfl) (fun u_107 H locs e_107 hP hD hS => ?_)
                    generalize hq_107 : upd n_104 16 (nI (m + 1)) = v_107 at hP hD
                    generalize hi_107 : upd (upd it (2 * m) (nI (21 + 17 * sd))) (2 * m + 1) (nI b_104) = it_107 at hP hD
                    have g8_107 : v_107 8 = nI n := by rw [← hq_107]; exact g8_104
                    have g13_107 : ¬ v_107 13 = 0 := by rw [← hq_107]; exact g13_104
                    have gT_107 : MT v_107 y n (tE y n (tE y n (tE y n p))) := by rw [← hq_107]; exact MT_up gT_104 (by omega)
                    have g16_107 : v_107 16 = nI (m + 1) := by rw [← hq_107]; exact pk_us
                    have g17_107 : v_107 17 = v 17 + 1 := by rw [← hq_107]; exact g17_104
                    have g9_107 : ∀ j, j < 9 → v_107 j = v j := fun j hj => by rw [← hq_107, pk_un (by omega)]; exact g9_104 j hj
                    have hp_107 : tE y n (tE y n (tE y n p)) ≤ n := hp_104
                    have hm_107 : m + 1 ≤ 122 := by omega
                    refine lv_goto (tgt := 250) F.1 F.2.1 dX6_readItem_110 (by decide) ?_
                    exact rtV (v_107, it_107) F hr hlk hP hS rfl (RI_bad (r := (0, tE y n (tE y n (tE y n p)), f)) (by rw [itF, if_neg (Int32.not_le.mpr c_16), if_pos w45, tlS, if_pos w54, tlG, if_neg w62, tlT, if_pos w88, if_neg w104] <;> simp only [evsd, show tn (nI sd) = sd from nI_clamp (by omega), i20]) rfl g8_107 g17_107 g9_107 g13_107 gT_107.1) dX6_readItem_250
              · skip
                refine tp (y := 0) (a_88.trans (if_neg w88)) ?_
                have d_88 := (d_88 w88).symm
                subst d_88
                refine lv_if_eq (tgt := 110) F.1 F.2.1 dX6_readItem_91 (by decide) (fun c_91 => ?_) (fun c_91 => ?_)
                · refine lv_goto (tgt := 250) F.1 F.2.1 dX6_readItem_110 (by decide) ?_
                  exact rtV (u_54, it) F hr hlk hP hS rfl (RI_ok (r := (1, tE y n (tE y n p), f)) (m) (by rw [itF, if_neg (Int32.not_le.mpr c_16), if_pos w45, tlS, if_pos w54, tlG, if_neg w62, tlT, if_neg w88] <;> simp only [evsd, show tn (nI sd) = sd from nI_clamp (by omega), i20]) rfl g8_54 g17_54 g9_54 g13_54 gT_54 g16_54 hm_54 hap hro) dX6_readItem_250
                · exact absurd rfl c_91
            · exact absurd rfl c_65
        · skip
          refine iV (rest := []) (wsp := fun _ => oM a (upd u_45 13 1) :: ai ct (a 5) 120 y :: (a 6, .inl (ct 3, 7, .inr (.inr (.inr (.inr (fun j => some (kS K j))))))) :: [ai ct (a 7) 480 it]) F (kX6_numberN l dC dI ct a u_45 y n (tE y n p) (by omega) gT_45 1 (Or.inr w54)) gX6_readItem_X6_number rfl ⟨rfl, rfl⟩ nmX6_number ⟨Nat.le_of_ble_eq_true rfl, Nat.le_of_ble_eq_true rfl⟩ eT_b (fun _ _ _ => trivial) hK hP hD hS hA 0 rfl rfl rfl [0, 1] (by decide) rfl rfl rfl hl.1 (Nat.le_of_ble_eq_true rfl) dX6_readItem_54 ⟨Nat.zero_le _, Nat.zero_le _⟩ (fun _ => rfl) (fun _ => rfl) [a 0, a 5, a 6, a 7] rfl (fun _ => rfl) (fun r_54 u_54 H locs e_54 hP hD hS => ?_)
          obtain rfl := e_54
          obtain ⟨b_54, hb_54, eb_54⟩ := MT_12 hp_45 gT_45
          refine tp (y := nI b_54) eb_54 ?_
          generalize hq_54 : upd u_45 13 1 = n_54 at hP hD
          have g8_54 : n_54 8 = nI n := by rw [← hq_54]; exact g8_45
          have g13_54 : ¬ n_54 13 = 0 := by rw [← hq_54, pk_us]; decide
          have gT_54 : MT n_54 y n (tE y n p) := by rw [← hq_54]; exact MT_up gT_45 (by omega)
          have g16_54 : n_54 16 = nI m := by rw [← hq_54]; exact g16_45
          have g17_54 : n_54 17 = v 17 + 1 := by rw [← hq_54]; exact g17_45
          have g9_54 : ∀ j, j < 9 → n_54 j = v j := fun j hj => by rw [← hq_54, pk_un (by omega)]; exact g9_45 j hj
          have hm_54 : m ≤ tE y n p := hm_45
          have hp_54 : tE y n p ≤ n := hp_45
          refine lv_istore_n (lv' := [(2, .int (nI b_54)), (1, .int (wkF y n p)), (0, .ref (a 0))]) F.1 F.2.1 dX6_readItem_57 rfl hl (by decide) rfl (fun ls hl => ?_)
          refine lv_aload_n F.1 F.2.1 dX6_readItem_58 rfl (lv_at hl 2 rfl) ?_
          refine va_ldcwS F.1 F.2.1 (tx := "greed") (q := kS K 12) F.2.2.2.1 (hE.2.2.2.1 ("HedgeHeapsModel", 301, "greed", 12) (List.mem_of_getElem? (i := 1) rfl)) dX6_readItem_59 ?_
          refine iV (rest := []) (wsp := fun _ => oM a n_54 :: ai ct (a 5) 120 y :: (a 6, .inl (ct 3, 7, .inr (.inr (.inr (.inr (fun j => some (kS K j))))))) :: [ai ct (a 7) 480 it]) F (kX6_isNextN l dC dI ct a n_54 (kS K 12) g13_54) gX6_readItem_X6_isNext rfl ⟨rfl, rfl⟩ nmX6_isNext ⟨Nat.le_of_ble_eq_true rfl, Nat.le_of_ble_eq_true rfl⟩ eT_b (fun _ _ _ => trivial) hK hP hD hS hA 0 rfl rfl rfl [0] (by decide) rfl rfl rfl hl.1 (Nat.le_of_ble_eq_true rfl) dX6_readItem_62 ⟨Nat.zero_le _, Nat.zero_le _⟩ (fun _ => rfl) (fun _ => rfl) [a 0, a 5, a 6, a 7] rfl (fun _ => rfl) (fun r_62 u_62 H locs e_62 hP hD hS => ?_)
          obtain rfl := e_62
          refine lv_if_eq (tgt := 84) F.1 F.2.1 dX6_readItem_65 (by decide) (fun c_65 => ?_) (fun c_65 => ?_)
          · refine lv_aload_n F.1 F.2.1 dX6_readItem_84 rfl (lv_at hl 2 rfl) ?_
            refine va_ldcwS F.1 F.2.1 (tx := "trust") (q := kS K 13) F.2.2.2.1 (hE.2.2.2.1 ("HedgeHeapsModel", 303, "trust", 13) (List.mem_of_getElem? (i := 2) rfl)) dX6_readItem_85 ?_
            refine iV (rest := []) (wsp := fun _ => oM a n_54 :: ai ct (a 5) 120 y :: (a 6, .inl (ct 3, 7, .inr (.inr (.inr (.inr (fun j => some (kS K j))))))) :: [ai ct (a 7) 480 it]) F (kX6_isNextN l dC dI ct a n_54 (kS K 13) g13_54) gX6_readItem_X6_isNext rfl ⟨rfl, rfl⟩ nmX6_isNext ⟨Nat.le_of_ble_eq_true rfl, Nat.le_of_ble_eq_true rfl⟩ eT_b (fun _ _ _ => trivial) hK hP hD hS hA 0 rfl rfl rfl [0] (by decide) rfl rfl rfl hl.1 (Nat.le_of_ble_eq_true rfl) dX6_readItem_88 ⟨Nat.zero_le _, Nat.zero_le _⟩ (fun _ => rfl) (fun _ => rfl) [a 0, a 5, a 6, a 7] rfl (fun _ => rfl) (fun r_88 u_88 H locs e_88 hP hD hS => ?_)
            obtain rfl := e_88
            refine lv_if_eq (tgt := 110) F.1 F.2.1 dX6_readItem_91 (by decide) (fun c_91 => ?_) (fun c_91 => ?_)
            · refine lv_goto (tgt := 250) F.1 F.2.1 dX6_readItem_110 (by decide) ?_
              exact rtV (n_54, it) F hr hlk hP hS rfl (RI_bad (r := (0, tE y n p, f)) (by rw [itF, if_neg (Int32.not_le.mpr c_16), if_pos w45, tlS, if_neg w54]) rfl g8_54 g17_54 g9_54 g13_54 gT_54.1) dX6_readItem_250
            · exact absurd rfl c_91
          · exact absurd rfl c_65
    · skip
      refine tp (y := 0) (a_45.trans (if_neg w45)) ?_
      have d_45 := (d_45 w45).symm
      subst d_45
      refine lv_if_eq (tgt := 113) F.1 F.2.1 dX6_readItem_48 (by decide) (fun c_48 => ?_) (fun c_48 => ?_)
      · refine lv_aload_n F.1 F.2.1 dX6_readItem_113 rfl (lv_at hl 1 rfl) ?_
        refine va_ldcwS F.1 F.2.1 (tx := "frost") (q := kS K 11) F.2.2.2.1 (hE.2.2.2.1 ("HedgeHeapsModel", 305, "frost", 11) (List.mem_of_getElem? (i := 3) rfl)) dX6_readItem_114 ?_
        refine iV (rest := []) (wsp := fun u_117 => oM a u_117 :: ai ct (a 5) 120 y :: (a 6, .inl (ct 3, 7, .inr (.inr (.inr (.inr (fun j => some (kS K j))))))) :: [ai ct (a 7) 480 it]) F (kX6_isNextY l dC dI ct K rfR a v0 y n p g8_0 hn hp_0 hy gT_0 11 (by decide) g13_0) gX6_readItem_X6_isNext rfl ⟨rfl, rfl⟩ nmX6_isNext ⟨Nat.le_of_ble_eq_true rfl, Nat.le_of_ble_eq_true rfl⟩ EQ_b (EQ_call hE hS hz [0, 1] rfl) hK hP hD hS hA 0 rfl rfl rfl [0, 1] (by decide) rfl rfl rfl hl.1 (Nat.le_of_ble_eq_true rfl) dX6_readItem_117 ⟨Nat.zero_le _, Nat.zero_le _⟩ (fun _ => rfl) (fun _ => rfl) [a 0, a 5, a 6, a 7] rfl (fun _ => rfl) (fun r_117 u_117 H locs e_117 hP hD hS => ?_)
        obtain ⟨a_117, c0_117, d_117⟩ := e_117
        by_cases w117 : isW y n p 11
        · skip
          refine tp (y := 1) (a_117.trans (if_pos w117)) ?_
          have E_117 := c0_117 w117
          have hlt_117 : p < tE y n p := isW_lt hp_0 w117
          have hp_117 : tE y n p ≤ n := tE_n hp_0
          have g8_117 := (E_117.2 8 (Or.inl (by omega))).trans g8_0
          have g13_117 := (E_117.2 13 (Or.inr (by omega))).trans g13_0
          have gT_117 := E_117.1
          have g16_117 := (E_117.2 16 (Or.inr (by omega))).trans g16_0
          have g17_117 := (E_117.2 17 (Or.inr (by omega))).trans g17_0
          have g9_117 : ∀ j, j < 9 → u_117 j = v j := fun j hj => (E_117.2 j (Or.inl hj)).trans (g9_0 j hj)
          have hm_117 : m ≤ tE y n p := by omega
          refine lv_if_eq (tgt := 138) F.1 F.2.1 dX6_readItem_120 (by decide) (fun c_120 => ?_) (fun c_120 => ?_)
          · exact absurd c_120 (by decide)
          · refine lv_aload_n F.1 F.2.1 dX6_readItem_123 rfl (lv_at hl 1 rfl) ?_
            refine lv_iconst (v := 1) F.1 F.2.1 dX6_readItem_124 (by decide) ?_
            refine tp (y := nI 1) rfl ?_
            refine lv_aload_n F.1 F.2.1 dX6_readItem_125 rfl (lv_at hl 1 rfl) ?_
            refine lv_iconst (v := 0) F.1 F.2.1 dX6_readItem_126 (by decide) ?_
            refine lv_bipush (v := 9) F.1 F.2.1 dX6_readItem_127 (by decide) ?_
            by_cases w129 : nuP y n (tE y n p) 9
            · skip
              refine iV (rest := [.int (nI 1), .ref (a 0)]) (wsp := fun u_129 => oM a u_129 :: ai ct (a 5) 120 y :: (a 6, .inl (ct 3, 7, .inr (.inr (.inr (.inr (fun j => some (kS K j))))))) :: [ai ct (a 7) 480 it]) F (kX6_numberY l dC dI ct a u_117 y n (tE y n p) g8_117 hn hp_117 hy gT_117 9 g13_117 w129) gX6_readItem_X6_number rfl ⟨rfl, rfl⟩ nmX6_number ⟨Nat.le_of_ble_eq_true rfl, Nat.le_of_ble_eq_true rfl⟩ eT_b (fun _ _ _ => trivial) hK hP hD hS hA 0 rfl rfl rfl [0, 1] (by decide) rfl rfl rfl hl.1 (Nat.le_of_ble_eq_true rfl) dX6_readItem_129 ⟨Nat.zero_le _, Nat.zero_le _⟩ (fun _ => rfl) (fun _ => rfl) [a 0, a 5, a 6, a 7] rfl (fun _ => rfl) (fun r_129 u_129 H locs e_129 hP hD hS => ?_)
              obtain ⟨a_129, E_129⟩ := e_129
              obtain ⟨fr, hvfr, evfr⟩ := nu_n (M := 9) hp_117 w129 (by omega)
              refine tp (y := nI fr) (a_129.trans evfr) ?_
              have hlt_129 : tE y n p < tE y n (tE y n p) := nuP_lt hp_117 w129
              have hp_129 : tE y n (tE y n p) ≤ n := tE_n hp_117
              have g8_129 := (E_129.2 8 (Or.inl (by omega))).trans g8_117
              have g13_129 := (E_129.2 13 (Or.inr (by omega))).trans g13_117
              have gT_129 := E_129.1
              have g16_129 := (E_129.2 16 (Or.inr (by omega))).trans g16_117
              have g17_129 := (E_129.2 17 (Or.inr (by omega))).trans g17_117
              have g9_129 : ∀ j, j < 9 → u_129 j = v j := fun j hj => (E_129.2 j (Or.inl hj)).trans (g9_117 j hj)
              have hm_129 : m ≤ tE y n (tE y n p) := by omega
              refine vV (rest := []) (wsp := fun _ => oM a (upd u_129 16 (nI (m + 1))) :: ai ct (a 5) 120 y :: (a 6, .inl (ct 3, 7, .inr (.inr (.inr (.inr (fun j => some (kS K j))))))) :: [ai ct (a 7) 480 (upd (upd it (2 * m) (nI 1)) (2 * m + 1) (nI fr))]) F (kX6_row l dC dI ct a u_129 it m (nI 1) (nI fr) g16_129 (by omega)) gX6_readItem_X6_row rfl ⟨rfl, rfl⟩ nmX6_row ⟨Nat.le_of_ble_eq_true rfl, Nat.le_of_ble_eq_true rfl⟩ eT_b (fun _ _ _ => trivial) hK hP hD hS hA 0 rfl rfl rfl [0, 3] (by decide) rfl rfl rfl hl.1 (Nat.le_of_ble_eq_true rfl) dX6_readItem_132 ⟨Nat.zero_le _, Nat.zero_le _⟩ (fun _ => rfl) (fun _ => rfl) [a 0, a 5, a 6, a 7] rfl (fun _ => rfl) (fun u_132 H locs e_132 hP hD hS => ?_)
              generalize hq_132 : upd u_129 16 (nI (m + 1)) = v_132 at hP hD
              generalize hi_132 : upd (upd it (2 * m) (nI 1)) (2 * m + 1) (nI fr) = it_132 at hP hD
              have g8_132 : v_132 8 = nI n := by rw [← hq_132]; exact g8_129
              have g13_132 : v_132 13 = 0 := by rw [← hq_132]; exact g13_129
              have gT_132 : MT v_132 y n (tE y n (tE y n p)) := by rw [← hq_132]; exact MT_up gT_129 (by omega)
              have g16_132 : v_132 16 = nI (m + 1) := by rw [← hq_132]; exact pk_us
              have g17_132 : v_132 17 = v 17 + 1 := by rw [← hq_132]; exact g17_129
              have g9_132 : ∀ j, j < 9 → v_132 j = v j := fun j hj => by rw [← hq_132, pk_un (by omega)]; exact g9_129 j hj
              have hp_132 : tE y n (tE y n p) ≤ n := hp_129
              have hm_132 : m + 1 ≤ tE y n (tE y n p) := by omega
              have gap_132 : apU it_132 (m + 1) f0 = upd f 1 (nI fr) := by rw [← hi_132, apU_S f0 (by omega), hap]
              have gro_132 : RwO it_132 (m + 1) := by rw [← hi_132]; exact RwO_S hro (by omega)
              refine lv_goto (tgt := 250) F.1 F.2.1 dX6_readItem_135 (by decide) ?_
              exact rtV (v_132, it_132) F hr hlk hP hS rfl (RI_ok (r := (1, tE y n (tE y n p), upd f 1 (nI fr))) (m + 1) (by rw [itF, if_neg (Int32.not_le.mpr c_16), if_neg w45, if_neg (isW_no (i := 11) (by omega) (by omega) (by omega) w117), if_neg (isW_no (i := 11) (by omega) (by omega) (by omega) w117), if_neg (isW_no (i := 11) (by omega) (by omega) (by omega) w117), if_pos w117, tlF, if_pos w129] <;> simp only [evfr, show tn (nI fr) = fr from nI_clamp (by omega), i20]) rfl g8_132 g17_132 g9_132 g13_132 gT_132 g16_132 hm_132 gap_132 gro_132) dX6_readItem_250
            · skip
              refine iV (rest := [.int (nI 1), .ref (a 0)]) (wsp := fun _ => oM a (upd u_117 13 1) :: ai ct (a 5) 120 y :: (a 6, .inl (ct 3, 7, .inr (.inr (.inr (.inr (fun j => some (kS K j))))))) :: [ai ct (a 7) 480 it]) F (kX6_numberN l dC dI ct a u_117 y n (tE y n p) (by omega) gT_117 9 (Or.inr w129)) gX6_readItem_X6_number rfl ⟨rfl, rfl⟩ nmX6_number ⟨Nat.le_of_ble_eq_true rfl, Nat.le_of_ble_eq_true rfl⟩ eT_b (fun _ _ _ => trivial) hK hP hD hS hA 0 rfl rfl rfl [0, 1] (by decide) rfl rfl rfl hl.1 (Nat.le_of_ble_eq_true rfl) dX6_readItem_129 ⟨Nat.zero_le _, Nat.zero_le _⟩ (fun _ => rfl) (fun _ => rfl) [a 0, a 5, a 6, a 7] rfl (fun _ => rfl) (fun r_129 u_129 H locs e_129 hP hD hS => ?_)
              obtain rfl := e_129
              obtain ⟨b_129, hb_129, eb_129⟩ := MT_12 hp_117 gT_117
              refine tp (y := nI b_129) eb_129 ?_
              generalize hq_129 : upd u_117 13 1 = n_129 at hP hD
              have g8_129 : n_129 8 = nI n := by rw [← hq_129]; exact g8_117
              have g13_129 : ¬ n_129 13 = 0 := by rw [← hq_129, pk_us]; decide
              have gT_129 : MT n_129 y n (tE y n p) := by rw [← hq_129]; exact MT_up gT_117 (by omega)
              have g16_129 : n_129 16 = nI m := by rw [← hq_129]; exact g16_117
              have g17_129 : n_129 17 = v 17 + 1 := by rw [← hq_129]; exact g17_117
              have g9_129 : ∀ j, j < 9 → n_129 j = v j := fun j hj => by rw [← hq_129, pk_un (by omega)]; exact g9_117 j hj
              have hm_129 : m ≤ tE y n p := hm_117
              have hp_129 : tE y n p ≤ n := hp_117
              refine vV (rest := []) (wsp := fun _ => oM a (upd n_129 16 (nI (m + 1))) :: ai ct (a 5) 120 y :: (a 6, .inl (ct 3, 7, .inr (.inr (.inr (.inr (fun j => some (kS K j))))))) :: [ai ct (a 7) 480 (upd (upd it (2 * m) (nI 1)) (2 * m + 1) (nI b_129))]) F (kX6_row l dC dI ct a n_129 it m (nI 1) (nI b_129) g16_129 (by omega)) gX6_readItem_X6_row rfl ⟨rfl, rfl⟩ nmX6_row ⟨Nat.le_of_ble_eq_true rfl, Nat.le_of_ble_eq_true rfl⟩ eT_b (fun _ _ _ => trivial) hK hP hD hS hA 0 rfl rfl rfl [0, 3] (by decide) rfl rfl rfl hl.1 (Nat.le_of_ble_eq_true rfl) dX6_readItem_132 ⟨Nat.zero_le _, Nat.zero_le _⟩ (fun _ => rfl) (fun _ => rfl) [a 0, a 5, a 6, a 7] rfl (fun _ => rfl) (fun u_132 H locs e_132 hP hD hS => ?_)
              generalize hq_132 : upd n_129 16 (nI (m + 1)) = v_132 at hP hD
              generalize hi_132 : upd (upd it (2 * m) (nI 1)) (2 * m + 1) (nI b_129) = it_132 at hP hD
              have g8_132 : v_132 8 = nI n := by rw [← hq_132]; exact g8_129
              have g13_132 : ¬ v_132 13 = 0 := by rw [← hq_132]; exact g13_129
              have gT_132 : MT v_132 y n (tE y n p) := by rw [← hq_132]; exact MT_up gT_129 (by omega)
              have g16_132 : v_132 16 = nI (m + 1) := by rw [← hq_132]; exact pk_us
              have g17_132 : v_132 17 = v 17 + 1 := by rw [← hq_132]; exact g17_129
              have g9_132 : ∀ j, j < 9 → v_132 j = v j := fun j hj => by rw [← hq_132, pk_un (by omega)]; exact g9_129 j hj
              have hp_132 : tE y n p ≤ n := hp_129
              have hm_132 : m + 1 ≤ 122 := by omega
              refine lv_goto (tgt := 250) F.1 F.2.1 dX6_readItem_135 (by decide) ?_
              exact rtV (v_132, it_132) F hr hlk hP hS rfl (RI_bad (r := (0, tE y n p, f)) (by rw [itF, if_neg (Int32.not_le.mpr c_16), if_neg w45, if_neg (isW_no (i := 11) (by omega) (by omega) (by omega) w117), if_neg (isW_no (i := 11) (by omega) (by omega) (by omega) w117), if_neg (isW_no (i := 11) (by omega) (by omega) (by omega) w117), if_pos w117, tlF, if_neg w129]) rfl g8_132 g17_132 g9_132 g13_132 gT_132.1) dX6_readItem_250
        · skip
          refine tp (y := 0) (a_117.trans (if_neg w117)) ?_
          have d_117 := (d_117 w117).symm
          subst d_117
          refine lv_if_eq (tgt := 138) F.1 F.2.1 dX6_readItem_120 (by decide) (fun c_120 => ?_) (fun c_120 => ?_)
          · refine lv_aload_n F.1 F.2.1 dX6_readItem_138 rfl (lv_at hl 1 rfl) ?_
            refine va_ldcwS F.1 F.2.1 (tx := "worth") (q := kS K 10) F.2.2.2.1 (hE.2.2.2.1 ("HedgeHeapsModel", 307, "worth", 10) (List.mem_of_getElem? (i := 4) rfl)) dX6_readItem_139 ?_
            refine iV (rest := []) (wsp := fun _ => oM a v0 :: ai ct (a 5) 120 y :: (a 6, .inl (ct 3, 7, .inr (.inr (.inr (.inr (fun j => some (kS K j))))))) :: [ai ct (a 7) 480 it]) F (kX6_isWord l dC dI ct K rfR a v0 y n p 10 hn hp_0 gT_0 (by decide)) gX6_readItem_X6_isWord rfl ⟨rfl, rfl⟩ nmX6_isWord ⟨Nat.le_of_ble_eq_true rfl, Nat.le_of_ble_eq_true rfl⟩ EQ_b (EQ_call hE hS hz [0, 1] rfl) hK hP hD hS hA 0 rfl rfl rfl [0, 1] (by decide) rfl rfl rfl hl.1 (Nat.le_of_ble_eq_true rfl) dX6_readItem_142 ⟨Nat.zero_le _, Nat.zero_le _⟩ (fun _ => rfl) (fun _ => rfl) [a 0, a 5, a 6, a 7] rfl (fun _ => rfl) (fun r_142 u_142 H locs e_142 hP hD hS => ?_)
            obtain rfl := e_142
            refine lv_istore_n (lv' := [(2, .int (if isW y n p 10 then 1 else 0)), (1, .int (wkF y n p)), (0, .ref (a 0))]) F.1 F.2.1 dX6_readItem_145 rfl hl (by decide) rfl (fun ls hl => ?_)
            refine lv_iload_n F.1 F.2.1 dX6_readItem_146 rfl (lv_at hl 0 rfl) ?_
            refine lv_if_eq (tgt := 155) F.1 F.2.1 dX6_readItem_147 (by decide) (fun c_147 => ?_) (fun c_147 => ?_)
            · have c_147 : ¬ (isW y n p 10) := b01f rfl c_147
              refine lv_aload_n F.1 F.2.1 dX6_readItem_155 rfl (lv_at hl 2 rfl) ?_
              refine va_ldcwS F.1 F.2.1 (tx := "home") (q := kS K 8) F.2.2.2.1 (hE.2.2.2.1 ("HedgeHeapsModel", 309, "home", 8) (List.mem_of_getElem? (i := 5) rfl)) dX6_readItem_156 ?_
              refine iV (rest := []) (wsp := fun _ => oM a v0 :: ai ct (a 5) 120 y :: (a 6, .inl (ct 3, 7, .inr (.inr (.inr (.inr (fun j => some (kS K j))))))) :: [ai ct (a 7) 480 it]) F (kX6_isWord l dC dI ct K rfR a v0 y n p 8 hn hp_0 gT_0 (by decide)) gX6_readItem_X6_isWord rfl ⟨rfl, rfl⟩ nmX6_isWord ⟨Nat.le_of_ble_eq_true rfl, Nat.le_of_ble_eq_true rfl⟩ EQ_b (EQ_call hE hS hz [0, 1] rfl) hK hP hD hS hA 0 rfl rfl rfl [0, 1] (by decide) rfl rfl rfl hl.1 (Nat.le_of_ble_eq_true rfl) dX6_readItem_159 ⟨Nat.zero_le _, Nat.zero_le _⟩ (fun _ => rfl) (fun _ => rfl) [a 0, a 5, a 6, a 7] rfl (fun _ => rfl) (fun r_159 u_159 H locs e_159 hP hD hS => ?_)
              obtain rfl := e_159
              refine lv_if_eq (tgt := 169) F.1 F.2.1 dX6_readItem_162 (by decide) (fun c_162 => ?_) (fun c_162 => ?_)
              · have c_162 : ¬ (isW y n p 8) := b01f rfl c_162
                refine lv_bipush (v := 7) F.1 F.2.1 dX6_readItem_169 (by decide) ?_
                refine lv_istore_n (lv' := [(3, .int 7), (2, .int (if isW y n p 10 then 1 else 0)), (1, .int (wkF y n p)), (0, .ref (a 0))]) F.1 F.2.1 dX6_readItem_171 rfl hl (by decide) rfl (fun ls hl => ?_)
                refine lv_aload_n F.1 F.2.1 dX6_readItem_172 rfl (lv_at hl 3 rfl) ?_
                refine lv_iload_n F.1 F.2.1 dX6_readItem_173 rfl (lv_at hl 1 rfl) ?_
                refine lv_if_ne (tgt := 197) F.1 F.2.1 dX6_readItem_174 (by decide) (fun c_174 => ?_) (fun c_174 => ?_)
                · exact absurd (if_neg c_147) c_174
                · have c_174 : ¬ (isW y n p 10) := b01f rfl c_174
                  refine lv_aload_n F.1 F.2.1 dX6_readItem_177 rfl (lv_at hl 3 rfl) ?_
                  refine va_ldcwS F.1 F.2.1 (tx := "home") (q := kS K 8) F.2.2.2.1 (hE.2.2.2.1 ("HedgeHeapsModel", 309, "home", 8) (List.mem_of_getElem? (i := 5) rfl)) dX6_readItem_178 ?_
                  refine iV (rest := [.ref (a 0)]) (wsp := fun _ => oM a v0 :: ai ct (a 5) 120 y :: (a 6, .inl (ct 3, 7, .inr (.inr (.inr (.inr (fun j => some (kS K j))))))) :: [ai ct (a 7) 480 it]) F (kX6_isWord l dC dI ct K rfR a v0 y n p 8 hn hp_0 gT_0 (by decide)) gX6_readItem_X6_isWord rfl ⟨rfl, rfl⟩ nmX6_isWord ⟨Nat.le_of_ble_eq_true rfl, Nat.le_of_ble_eq_true rfl⟩ EQ_b (EQ_call hE hS hz [0, 1] rfl) hK hP hD hS hA 0 rfl rfl rfl [0, 1] (by decide) rfl rfl rfl hl.1 (Nat.le_of_ble_eq_true rfl) dX6_readItem_181 ⟨Nat.zero_le _, Nat.zero_le _⟩ (fun _ => rfl) (fun _ => rfl) [a 0, a 5, a 6, a 7] rfl (fun _ => rfl) (fun r_181 u_181 H locs e_181 hP hD hS => ?_)
                  obtain rfl := e_181
                  refine lv_if_ne (tgt := 197) F.1 F.2.1 dX6_readItem_184 (by decide) (fun c_184 => ?_) (fun c_184 => ?_)
                  · exact absurd (if_neg c_162) c_184
                  · have c_184 : ¬ (isW y n p 8) := b01f rfl c_184
                    refine lv_aload_n F.1 F.2.1 dX6_readItem_187 rfl (lv_at hl 3 rfl) ?_
                    refine va_ldcwS F.1 F.2.1 (tx := "heap") (q := kS K 9) F.2.2.2.1 (hE.2.2.2.1 ("HedgeHeapsModel", 311, "heap", 9) (List.mem_of_getElem? (i := 6) rfl)) dX6_readItem_188 ?_
                    refine iV (rest := [.ref (a 0)]) (wsp := fun _ => oM a v0 :: ai ct (a 5) 120 y :: (a 6, .inl (ct 3, 7, .inr (.inr (.inr (.inr (fun j => some (kS K j))))))) :: [ai ct (a 7) 480 it]) F (kX6_isWord l dC dI ct K rfR a v0 y n p 9 hn hp_0 gT_0 (by decide)) gX6_readItem_X6_isWord rfl ⟨rfl, rfl⟩ nmX6_isWord ⟨Nat.le_of_ble_eq_true rfl, Nat.le_of_ble_eq_true rfl⟩ EQ_b (EQ_call hE hS hz [0, 1] rfl) hK hP hD hS hA 0 rfl rfl rfl [0, 1] (by decide) rfl rfl rfl hl.1 (Nat.le_of_ble_eq_true rfl) dX6_readItem_191 ⟨Nat.zero_le _, Nat.zero_le _⟩ (fun _ => rfl) (fun _ => rfl) [a 0, a 5, a 6, a 7] rfl (fun _ => rfl) (fun r_191 u_191 H locs e_191 hP hD hS => ?_)
                    obtain rfl := e_191
                    refine lv_if_eq (tgt := 201) F.1 F.2.1 dX6_readItem_194 (by decide) (fun c_194 => ?_) (fun c_194 => ?_)
                    · have c_194 : ¬ (isW y n p 9) := b01f rfl c_194
                      refine lv_iconst (v := 0) F.1 F.2.1 dX6_readItem_201 (by decide) ?_
                      refine vV (rest := []) (wsp := fun _ => oM a (upd v0 13 1) :: ai ct (a 5) 120 y :: (a 6, .inl (ct 3, 7, .inr (.inr (.inr (.inr (fun j => some (kS K j))))))) :: [ai ct (a 7) 480 it]) F (kX6_mustN l dC dI ct a v0 0 (Or.inr rfl)) gX6_readItem_X6_must rfl ⟨rfl, rfl⟩ nmX6_must ⟨Nat.le_of_ble_eq_true rfl, Nat.le_of_ble_eq_true rfl⟩ eT_b (fun _ _ _ => trivial) hK hP hD hS hA 0 rfl rfl rfl [0] (by decide) rfl rfl rfl hl.1 (Nat.le_of_ble_eq_true rfl) dX6_readItem_202 ⟨Nat.zero_le _, Nat.zero_le _⟩ (fun _ => rfl) (fun _ => rfl) [a 0, a 5, a 6, a 7] rfl (fun _ => rfl) (fun u_202 H locs e_202 hP hD hS => ?_)
                      generalize hq_202 : upd v0 13 1 = n_202 at hP hD
                      have g8_202 : n_202 8 = nI n := by rw [← hq_202]; exact g8_0
                      have g13_202 : ¬ n_202 13 = 0 := by rw [← hq_202, pk_us]; decide
                      have gT_202 : MT n_202 y n p := by rw [← hq_202]; exact MT_up gT_0 (by omega)
                      have g16_202 : n_202 16 = nI m := by rw [← hq_202]; exact g16_0
                      have g17_202 : n_202 17 = v 17 + 1 := by rw [← hq_202]; exact g17_0
                      have g9_202 : ∀ j, j < 9 → n_202 j = v j := fun j hj => by rw [← hq_202, pk_un (by omega)]; exact g9_0 j hj
                      have hm_202 : m ≤ p := hm_0
                      have hp_202 : p ≤ n := hp_0
                      refine lv_aload_n F.1 F.2.1 dX6_readItem_205 rfl (lv_at hl 3 rfl) ?_
                      refine lv_iconst (v := 0) F.1 F.2.1 dX6_readItem_206 (by decide) ?_
                      refine lv_iconst (v := 1) F.1 F.2.1 dX6_readItem_207 (by decide) ?_
                      refine iV (rest := []) (wsp := fun _ => oM a (upd n_202 13 1) :: ai ct (a 5) 120 y :: (a 6, .inl (ct 3, 7, .inr (.inr (.inr (.inr (fun j => some (kS K j))))))) :: [ai ct (a 7) 480 it]) F (kX6_numberN l dC dI ct a n_202 y n p (by omega) gT_202 1 (Or.inl g13_202)) gX6_readItem_X6_number rfl ⟨rfl, rfl⟩ nmX6_number ⟨Nat.le_of_ble_eq_true rfl, Nat.le_of_ble_eq_true rfl⟩ eT_b (fun _ _ _ => trivial) hK hP hD hS hA 0 rfl rfl rfl [0, 1] (by decide) rfl rfl rfl hl.1 (Nat.le_of_ble_eq_true rfl) dX6_readItem_208 ⟨Nat.zero_le _, Nat.zero_le _⟩ (fun _ => rfl) (fun _ => rfl) [a 0, a 5, a 6, a 7] rfl (fun _ => rfl) (fun r_208 u_208 H locs e_208 hP hD hS => ?_)
                      obtain rfl := e_208
                      obtain ⟨b_208, hb_208, eb_208⟩ := MT_12 hp_202 gT_202
                      refine tp (y := nI b_208) eb_208 ?_
                      generalize hq_208 : upd n_202 13 1 = n_208 at hP hD
                      have g8_208 : n_208 8 = nI n := by rw [← hq_208]; exact g8_202
                      have g13_208 : ¬ n_208 13 = 0 := by rw [← hq_208, pk_us]; decide
                      have gT_208 : MT n_208 y n p := by rw [← hq_208]; exact MT_up gT_202 (by omega)
                      have g16_208 : n_208 16 = nI m := by rw [← hq_208]; exact g16_202
                      have g17_208 : n_208 17 = v 17 + 1 := by rw [← hq_208]; exact g17_202
                      have g9_208 : ∀ j, j < 9 → n_208 j = v j := fun j hj => by rw [← hq_208, pk_un (by omega)]; exact g9_202 j hj
                      have hm_208 : m ≤ 121 := by omega
                      have hp_208 : p ≤ n := hp_202
                      refine lv_istore (lv' := [(4, .int (nI b_208)), (3, .int 7), (2, .int (if isW y n p 10 then 1 else 0)), (1, .int (wkF y n p)), (0, .ref (a 0))]) F.1 F.2.1 dX6_readItem_211 hl (by decide) rfl (fun ls hl => ?_)
                      refine lv_aload_n F.1 F.2.1 dX6_readItem_213 rfl (lv_at hl 4 rfl) ?_
                      refine lv_iconst (v := 0) F.1 F.2.1 dX6_readItem_214 (by decide) ?_
                      refine lv_iconst (v := 4) F.1 F.2.1 dX6_readItem_215 (by decide) ?_
                      refine iV (rest := []) (wsp := fun _ => oM a (upd n_208 13 1) :: ai ct (a 5) 120 y :: (a 6, .inl (ct 3, 7, .inr (.inr (.inr (.inr (fun j => some (kS K j))))))) :: [ai ct (a 7) 480 it]) F (kX6_numberN l dC dI ct a n_208 y n p (by omega) gT_208 4 (Or.inl g13_208)) gX6_readItem_X6_number rfl ⟨rfl, rfl⟩ nmX6_number ⟨Nat.le_of_ble_eq_true rfl, Nat.le_of_ble_eq_true rfl⟩ eT_b (fun _ _ _ => trivial) hK hP hD hS hA 0 rfl rfl rfl [0, 1] (by decide) rfl rfl rfl hl.1 (Nat.le_of_ble_eq_true rfl) dX6_readItem_216 ⟨Nat.zero_le _, Nat.zero_le _⟩ (fun _ => rfl) (fun _ => rfl) [a 0, a 5, a 6, a 7] rfl (fun _ => rfl) (fun r_216 u_216 H locs e_216 hP hD hS => ?_)
                      obtain rfl := e_216
                      obtain ⟨b_216, hb_216, eb_216⟩ := MT_12 hp_208 gT_208
                      refine tp (y := nI b_216) eb_216 ?_
                      generalize hq_216 : upd n_208 13 1 = n_216 at hP hD
                      have g8_216 : n_216 8 = nI n := by rw [← hq_216]; exact g8_208
                      have g13_216 : ¬ n_216 13 = 0 := by rw [← hq_216, pk_us]; decide
                      have gT_216 : MT n_216 y n p := by rw [← hq_216]; exact MT_up gT_208 (by omega)
                      have g16_216 : n_216 16 = nI m := by rw [← hq_216]; exact g16_208
                      have g17_216 : n_216 17 = v 17 + 1 := by rw [← hq_216]; exact g17_208
                      have g9_216 : ∀ j, j < 9 → n_216 j = v j := fun j hj => by rw [← hq_216, pk_un (by omega)]; exact g9_208 j hj
                      have hm_216 : m ≤ 121 := by omega
                      have hp_216 : p ≤ n := hp_208
                      refine lv_istore (lv' := [(5, .int (nI b_216)), (4, .int (nI b_208)), (3, .int 7), (2, .int (if isW y n p 10 then 1 else 0)), (1, .int (wkF y n p)), (0, .ref (a 0))]) F.1 F.2.1 dX6_readItem_219 hl (by decide) rfl (fun ls hl => ?_)
                      refine lv_aload_n F.1 F.2.1 dX6_readItem_221 rfl (lv_at hl 5 rfl) ?_
                      refine lv_iload F.1 F.2.1 dX6_readItem_222 (lv_at hl 1 rfl) ?_
                      refine lv_iload_n F.1 F.2.1 dX6_readItem_224 rfl (lv_at hl 2 rfl) ?_
                      refine lv_iload F.1 F.2.1 dX6_readItem_225 (lv_at hl 0 rfl) ?_
                      refine lv_iadd F.1 F.2.1 dX6_readItem_227 ?_
                      refine tp (y := nI (7 + b_216)) (ad2 (a := 7) (b := b_216) (c := 7 + b_216) rfl rfl rfl) ?_
                      refine iS (rest := [.ref (a 0)]) (wsp := fun _ => oM a n_216 :: ai ct (a 5) 120 y :: (a 6, .inl (ct 3, 7, .inr (.inr (.inr (.inr (fun j => some (kS K j))))))) :: [ai ct (a 7) 480 it]) F (kX6_at l dC dI ct b_208 (7 + b_216) (27 + 17 * b_208 + b_216) (by omega)) gX6_readItem_X6_at rfl ⟨rfl, rfl⟩ nmX6_at ⟨Nat.le_of_ble_eq_true rfl, Nat.le_of_ble_eq_true rfl⟩ eT_b (fun _ _ _ => trivial) hK hP hD hS hA [] (by decide) rfl rfl rfl hl.1 (Nat.le_of_ble_eq_true rfl) dX6_readItem_228 ⟨Nat.zero_le _, Nat.zero_le _⟩ (fun _ => rfl) (fun _ => rfl) [a 0, a 5, a 6, a 7] rfl (fun _ => rfl) (fun r_228 u_228 H locs e_228 hP hD hS => ?_)
                      obtain rfl := e_228
                      refine lv_aload_n F.1 F.2.1 dX6_readItem_231 rfl (lv_at hl 5 rfl) ?_
                      refine lv_iconst (v := 0) F.1 F.2.1 dX6_readItem_232 (by decide) ?_
                      refine lv_iload_n F.1 F.2.1 dX6_readItem_233 rfl (lv_at hl 3 rfl) ?_
                      refine lv_if_eq (tgt := 242) F.1 F.2.1 dX6_readItem_234 (by decide) (fun c_234 => ?_) (fun c_234 => ?_)
                      · have c_234 : ¬ (isW y n p 10) := b01f rfl c_234
                        refine lv_bipush (v := 99) F.1 F.2.1 dX6_readItem_242 (by decide) ?_
                        refine iV (rest := [.int (nI (27 + 17 * b_208 + b_216)), .ref (a 0)]) (wsp := fun _ => oM a (upd n_216 13 1) :: ai ct (a 5) 120 y :: (a 6, .inl (ct 3, 7, .inr (.inr (.inr (.inr (fun j => some (kS K j))))))) :: [ai ct (a 7) 480 it]) F (kX6_numberN l dC dI ct a n_216 y n p (by omega) gT_216 99 (Or.inl g13_216)) gX6_readItem_X6_number rfl ⟨rfl, rfl⟩ nmX6_number ⟨Nat.le_of_ble_eq_true rfl, Nat.le_of_ble_eq_true rfl⟩ eT_b (fun _ _ _ => trivial) hK hP hD hS hA 0 rfl rfl rfl [0, 1] (by decide) rfl rfl rfl hl.1 (Nat.le_of_ble_eq_true rfl) dX6_readItem_244 ⟨Nat.zero_le _, Nat.zero_le _⟩ (fun _ => rfl) (fun _ => rfl) [a 0, a 5, a 6, a 7] rfl (fun _ => rfl) (fun r_244 u_244 H locs e_244 hP hD hS => ?_)
                        obtain rfl := e_244
                        obtain ⟨b_244, hb_244, eb_244⟩ := MT_12 hp_216 gT_216
                        refine tp (y := nI b_244) eb_244 ?_
                        generalize hq_244 : upd n_216 13 1 = n_244 at hP hD
                        have g8_244 : n_244 8 = nI n := by rw [← hq_244]; exact g8_216
                        have g13_244 : ¬ n_244 13 = 0 := by rw [← hq_244, pk_us]; decide
                        have gT_244 : MT n_244 y n p := by rw [← hq_244]; exact MT_up gT_216 (by omega)
                        have g16_244 : n_244 16 = nI m := by rw [← hq_244]; exact g16_216
                        have g17_244 : n_244 17 = v 17 + 1 := by rw [← hq_244]; exact g17_216
                        have g9_244 : ∀ j, j < 9 → n_244 j = v j := fun j hj => by rw [← hq_244, pk_un (by omega)]; exact g9_216 j hj
                        have hm_244 : m ≤ 121 := by omega
                        have hp_244 : p ≤ n := hp_216
                        refine vV (rest := []) (wsp := fun _ => oM a (upd n_244 16 (nI (m + 1))) :: ai ct (a 5) 120 y :: (a 6, .inl (ct 3, 7, .inr (.inr (.inr (.inr (fun j => some (kS K j))))))) :: [ai ct (a 7) 480 (upd (upd it (2 * m) (nI (27 + 17 * b_208 + b_216))) (2 * m + 1) (nI b_244))]) F (kX6_row l dC dI ct a n_244 it m (nI (27 + 17 * b_208 + b_216)) (nI b_244) g16_244 (by omega)) gX6_readItem_X6_row rfl ⟨rfl, rfl⟩ nmX6_row ⟨Nat.le_of_ble_eq_true rfl, Nat.le_of_ble_eq_true rfl⟩ eT_b (fun _ _ _ => trivial) hK hP hD hS hA 0 rfl rfl rfl [0, 3] (by decide) rfl rfl rfl hl.1 (Nat.le_of_ble_eq_true rfl) dX6_readItem_247 ⟨Nat.zero_le _, Nat.zero_le _⟩ (fun _ => rfl) (fun _ => rfl) [a 0, a 5, a 6, a 7] rfl (fun _ => rfl) (fun u_247 H locs e_247 hP hD hS => ?_)
                        generalize hq_247 : upd n_244 16 (nI (m + 1)) = v_247 at hP hD
                        generalize hi_247 : upd (upd it (2 * m) (nI (27 + 17 * b_208 + b_216))) (2 * m + 1) (nI b_244) = it_247 at hP hD
                        have g8_247 : v_247 8 = nI n := by rw [← hq_247]; exact g8_244
                        have g13_247 : ¬ v_247 13 = 0 := by rw [← hq_247]; exact g13_244
                        have gT_247 : MT v_247 y n p := by rw [← hq_247]; exact MT_up gT_244 (by omega)
                        have g16_247 : v_247 16 = nI (m + 1) := by rw [← hq_247]; exact pk_us
                        have g17_247 : v_247 17 = v 17 + 1 := by rw [← hq_247]; exact g17_244
                        have g9_247 : ∀ j, j < 9 → v_247 j = v j := fun j hj => by rw [← hq_247, pk_un (by omega)]; exact g9_244 j hj
                        have hp_247 : p ≤ n := hp_244
                        have hm_247 : m + 1 ≤ 122 := by omega
                        exact rtV (v_247, it_247) F hr hlk hP hS rfl (RI_bad (r := (0, p, f)) (by rw [itF, if_neg (Int32.not_le.mpr c_16), if_neg w45, if_neg c_162, if_neg c_194, if_neg c_147, if_neg w117]) rfl g8_247 g17_247 g9_247 g13_247 gT_247.1) dX6_readItem_250
                      · exact absurd (if_neg c_147) c_234
                    · have c_194 : isW y n p 9 := b01t rfl c_194
                      refine lv_iconst (v := 1) F.1 F.2.1 dX6_readItem_197 (by decide) ?_
                      refine lv_goto (tgt := 202) F.1 F.2.1 dX6_readItem_198 (by decide) ?_
                      refine vV (rest := []) (wsp := fun u_202 => oM a u_202 :: ai ct (a 5) 120 y :: (a 6, .inl (ct 3, 7, .inr (.inr (.inr (.inr (fun j => some (kS K j))))))) :: [ai ct (a 7) 480 it]) F (kX6_mustY l dC dI ct a v0 y n p g8_0 hn hp_0 hy gT_0 g13_0) gX6_readItem_X6_must rfl ⟨rfl, rfl⟩ nmX6_must ⟨Nat.le_of_ble_eq_true rfl, Nat.le_of_ble_eq_true rfl⟩ eT_b (fun _ _ _ => trivial) hK hP hD hS hA 0 rfl rfl rfl [0, 1] (by decide) rfl rfl rfl hl.1 (Nat.le_of_ble_eq_true rfl) dX6_readItem_202 ⟨Nat.zero_le _, Nat.zero_le _⟩ (fun _ => rfl) (fun _ => rfl) [a 0, a 5, a 6, a 7] rfl (fun _ => rfl) (fun u_202 H locs e_202 hP hD hS => ?_)
                      have hlt_202 : p < tE y n p := isW_lt hp_0 c_194
                      have hp_202 : tE y n p ≤ n := tE_n hp_0
                      have g8_202 := (e_202.2 8 (Or.inl (by omega))).trans g8_0
                      have g13_202 := (e_202.2 13 (Or.inr (by omega))).trans g13_0
                      have gT_202 := e_202.1
                      have g16_202 := (e_202.2 16 (Or.inr (by omega))).trans g16_0
                      have g17_202 := (e_202.2 17 (Or.inr (by omega))).trans g17_0
                      have g9_202 : ∀ j, j < 9 → u_202 j = v j := fun j hj => (e_202.2 j (Or.inl hj)).trans (g9_0 j hj)
                      have hm_202 : m ≤ tE y n p := by omega
                      refine lv_aload_n F.1 F.2.1 dX6_readItem_205 rfl (lv_at hl 3 rfl) ?_
                      refine lv_iconst (v := 0) F.1 F.2.1 dX6_readItem_206 (by decide) ?_
                      refine lv_iconst (v := 1) F.1 F.2.1 dX6_readItem_207 (by decide) ?_
                      by_cases w208 : nuP y n (tE y n p) 1
                      · skip
                        refine iV (rest := []) (wsp := fun u_208 => oM a u_208 :: ai ct (a 5) 120 y :: (a 6, .inl (ct 3, 7, .inr (.inr (.inr (.inr (fun j => some (kS K j))))))) :: [ai ct (a 7) 480 it]) F (kX6_numberY l dC dI ct a u_202 y n (tE y n p) g8_202 hn hp_202 hy gT_202 1 g13_202 w208) gX6_readItem_X6_number rfl ⟨rfl, rfl⟩ nmX6_number ⟨Nat.le_of_ble_eq_true rfl, Nat.le_of_ble_eq_true rfl⟩ eT_b (fun _ _ _ => trivial) hK hP hD hS hA 0 rfl rfl rfl [0, 1] (by decide) rfl rfl rfl hl.1 (Nat.le_of_ble_eq_true rfl) dX6_readItem_208 ⟨Nat.zero_le _, Nat.zero_le _⟩ (fun _ => rfl) (fun _ => rfl) [a 0, a 5, a 6, a 7] rfl (fun _ => rfl) (fun r_208 u_208 H locs e_208 hP hD hS => ?_)
                        obtain ⟨a_208, E_208⟩ := e_208
                        obtain ⟨sd, hvsd, evsd⟩ := nu_n (M := 1) hp_202 w208 (by omega)
                        refine tp (y := nI sd) (a_208.trans evsd) ?_
                        have hlt_208 : tE y n p < tE y n (tE y n p) := nuP_lt hp_202 w208
                        have hp_208 : tE y n (tE y n p) ≤ n := tE_n hp_202
                        have g8_208 := (E_208.2 8 (Or.inl (by omega))).trans g8_202
                        have g13_208 := (E_208.2 13 (Or.inr (by omega))).trans g13_202
                        have gT_208 := E_208.1
                        have g16_208 := (E_208.2 16 (Or.inr (by omega))).trans g16_202
                        have g17_208 := (E_208.2 17 (Or.inr (by omega))).trans g17_202
                        have g9_208 : ∀ j, j < 9 → u_208 j = v j := fun j hj => (E_208.2 j (Or.inl hj)).trans (g9_202 j hj)
                        have hm_208 : m ≤ tE y n (tE y n p) := by omega
                        refine lv_istore (lv' := [(4, .int (nI sd)), (3, .int 7), (2, .int (if isW y n p 10 then 1 else 0)), (1, .int (wkF y n p)), (0, .ref (a 0))]) F.1 F.2.1 dX6_readItem_211 hl (by decide) rfl (fun ls hl => ?_)
                        refine lv_aload_n F.1 F.2.1 dX6_readItem_213 rfl (lv_at hl 4 rfl) ?_
                        refine lv_iconst (v := 0) F.1 F.2.1 dX6_readItem_214 (by decide) ?_
                        refine lv_iconst (v := 4) F.1 F.2.1 dX6_readItem_215 (by decide) ?_
                        by_cases w216 : nuP y n (tE y n (tE y n p)) 4
                        · skip
                          refine iV (rest := []) (wsp := fun u_216 => oM a u_216 :: ai ct (a 5) 120 y :: (a 6, .inl (ct 3, 7, .inr (.inr (.inr (.inr (fun j => some (kS K j))))))) :: [ai ct (a 7) 480 it]) F (kX6_numberY l dC dI ct a u_208 y n (tE y n (tE y n p)) g8_208 hn hp_208 hy gT_208 4 g13_208 w216) gX6_readItem_X6_number rfl ⟨rfl, rfl⟩ nmX6_number ⟨Nat.le_of_ble_eq_true rfl, Nat.le_of_ble_eq_true rfl⟩ eT_b (fun _ _ _ => trivial) hK hP hD hS hA 0 rfl rfl rfl [0, 1] (by decide) rfl rfl rfl hl.1 (Nat.le_of_ble_eq_true rfl) dX6_readItem_216 ⟨Nat.zero_le _, Nat.zero_le _⟩ (fun _ => rfl) (fun _ => rfl) [a 0, a 5, a 6, a 7] rfl (fun _ => rfl) (fun r_216 u_216 H locs e_216 hP hD hS => ?_)
                          obtain ⟨a_216, E_216⟩ := e_216
                          obtain ⟨th, hvth, evth⟩ := nu_n (M := 4) hp_208 w216 (by omega)
                          refine tp (y := nI th) (a_216.trans evth) ?_
                          have hlt_216 : tE y n (tE y n p) < tE y n (tE y n (tE y n p)) := nuP_lt hp_208 w216
                          have hp_216 : tE y n (tE y n (tE y n p)) ≤ n := tE_n hp_208
                          have g8_216 := (E_216.2 8 (Or.inl (by omega))).trans g8_208
                          have g13_216 := (E_216.2 13 (Or.inr (by omega))).trans g13_208
                          have gT_216 := E_216.1
                          have g16_216 := (E_216.2 16 (Or.inr (by omega))).trans g16_208
                          have g17_216 := (E_216.2 17 (Or.inr (by omega))).trans g17_208
                          have g9_216 : ∀ j, j < 9 → u_216 j = v j := fun j hj => (E_216.2 j (Or.inl hj)).trans (g9_208 j hj)
                          have hm_216 : m ≤ tE y n (tE y n (tE y n p)) := by omega
                          refine lv_istore (lv' := [(5, .int (nI th)), (4, .int (nI sd)), (3, .int 7), (2, .int (if isW y n p 10 then 1 else 0)), (1, .int (wkF y n p)), (0, .ref (a 0))]) F.1 F.2.1 dX6_readItem_219 hl (by decide) rfl (fun ls hl => ?_)
                          refine lv_aload_n F.1 F.2.1 dX6_readItem_221 rfl (lv_at hl 5 rfl) ?_
                          refine lv_iload F.1 F.2.1 dX6_readItem_222 (lv_at hl 1 rfl) ?_
                          refine lv_iload_n F.1 F.2.1 dX6_readItem_224 rfl (lv_at hl 2 rfl) ?_
                          refine lv_iload F.1 F.2.1 dX6_readItem_225 (lv_at hl 0 rfl) ?_
                          refine lv_iadd F.1 F.2.1 dX6_readItem_227 ?_
                          refine tp (y := nI (7 + th)) (ad2 (a := 7) (b := th) (c := 7 + th) rfl rfl rfl) ?_
                          refine iS (rest := [.ref (a 0)]) (wsp := fun _ => oM a u_216 :: ai ct (a 5) 120 y :: (a 6, .inl (ct 3, 7, .inr (.inr (.inr (.inr (fun j => some (kS K j))))))) :: [ai ct (a 7) 480 it]) F (kX6_at l dC dI ct sd (7 + th) (27 + 17 * sd + th) (by omega)) gX6_readItem_X6_at rfl ⟨rfl, rfl⟩ nmX6_at ⟨Nat.le_of_ble_eq_true rfl, Nat.le_of_ble_eq_true rfl⟩ eT_b (fun _ _ _ => trivial) hK hP hD hS hA [] (by decide) rfl rfl rfl hl.1 (Nat.le_of_ble_eq_true rfl) dX6_readItem_228 ⟨Nat.zero_le _, Nat.zero_le _⟩ (fun _ => rfl) (fun _ => rfl) [a 0, a 5, a 6, a 7] rfl (fun _ => rfl) (fun r_228 u_228 H locs e_228 hP hD hS => ?_)
                          obtain rfl := e_228
                          refine lv_aload_n F.1 F.2.1 dX6_readItem_231 rfl (lv_at hl 5 rfl) ?_
                          refine lv_iconst (v := 0) F.1 F.2.1 dX6_readItem_232 (by decide) ?_
                          refine lv_iload_n F.1 F.2.1 dX6_readItem_233 rfl (lv_at hl 3 rfl) ?_
                          refine lv_if_eq (tgt := 242) F.1 F.2.1 dX6_readItem_234 (by decide) (fun c_234 => ?_) (fun c_234 => ?_)
                          · have c_234 : ¬ (isW y n p 10) := b01f rfl c_234
                            refine lv_bipush (v := 99) F.1 F.2.1 dX6_readItem_242 (by decide) ?_
                            by_cases w244 : nuP y n (tE y n (tE y n (tE y n p))) 99
                            · skip
                              refine iV (rest := [.int (nI (27 + 17 * sd + th)), .ref (a 0)]) (wsp := fun u_244 => oM a u_244 :: ai ct (a 5) 120 y :: (a 6, .inl (ct 3, 7, .inr (.inr (.inr (.inr (fun j => some (kS K j))))))) :: [ai ct (a 7) 480 it]) F (kX6_numberY l dC dI ct a u_216 y n (tE y n (tE y n (tE y n p))) g8_216 hn hp_216 hy gT_216 99 g13_216 w244) gX6_readItem_X6_number rfl ⟨rfl, rfl⟩ nmX6_number ⟨Nat.le_of_ble_eq_true rfl, Nat.le_of_ble_eq_true rfl⟩ eT_b (fun _ _ _ => trivial) hK hP hD hS hA 0 rfl rfl rfl [0, 1] (by decide) rfl rfl rfl hl.1 (Nat.le_of_ble_eq_true rfl) dX6_readItem_244 ⟨Nat.zero_le _, Nat.zero_le _⟩ (fun _ => rfl) (fun _ => rfl) [a 0, a 5, a 6, a 7] rfl (fun _ => rfl) (fun r_244 u_244 H locs e_244 hP hD hS => ?_)
                              obtain ⟨a_244, E_244⟩ := e_244
                              obtain ⟨nm, hvnm, evnm⟩ := nu_n (M := 99) hp_216 w244 (by omega)
                              refine tp (y := nI nm) (a_244.trans evnm) ?_
                              have hlt_244 : tE y n (tE y n (tE y n p)) < tE y n (tE y n (tE y n (tE y n p))) := nuP_lt hp_216 w244
                              have hp_244 : tE y n (tE y n (tE y n (tE y n p))) ≤ n := tE_n hp_216
                              have g8_244 := (E_244.2 8 (Or.inl (by omega))).trans g8_216
                              have g13_244 := (E_244.2 13 (Or.inr (by omega))).trans g13_216
                              have gT_244 := E_244.1
                              have g16_244 := (E_244.2 16 (Or.inr (by omega))).trans g16_216
                              have g17_244 := (E_244.2 17 (Or.inr (by omega))).trans g17_216
                              have g9_244 : ∀ j, j < 9 → u_244 j = v j := fun j hj => (E_244.2 j (Or.inl hj)).trans (g9_216 j hj)
                              have hm_244 : m ≤ tE y n (tE y n (tE y n (tE y n p))) := by omega
                              refine vV (rest := []) (wsp := fun _ => oM a (upd u_244 16 (nI (m + 1))) :: ai ct (a 5) 120 y :: (a 6, .inl (ct 3, 7, .inr (.inr (.inr (.inr (fun j => some (kS K j))))))) :: [ai ct (a 7) 480 (upd (upd it (2 * m) (nI (27 + 17 * sd + th))) (2 * m + 1) (nI nm))]) F (kX6_row l dC dI ct a u_244 it m (nI (27 + 17 * sd + th)) (nI nm) g16_244 (by omega)) gX6_readItem_X6_row rfl ⟨rfl, rfl⟩ nmX6_row ⟨Nat.le_of_ble_eq_true rfl, Nat.le_of_ble_eq_true rfl⟩ eT_b (fun _ _ _ => trivial) hK hP hD hS hA 0 rfl rfl rfl [0, 3] (by decide) rfl rfl rfl hl.1 (Nat.le_of_ble_eq_true rfl) dX6_readItem_247 ⟨Nat.zero_le _, Nat.zero_le _⟩ (fun _ => rfl) (fun _ => rfl) [a 0, a 5, a 6, a 7] rfl (fun _ => rfl) (fun u_247 H locs e_247 hP hD hS => ?_)
                              generalize hq_247 : upd u_244 16 (nI (m + 1)) = v_247 at hP hD
                              generalize hi_247 : upd (upd it (2 * m) (nI (27 + 17 * sd + th))) (2 * m + 1) (nI nm) = it_247 at hP hD
                              have g8_247 : v_247 8 = nI n := by rw [← hq_247]; exact g8_244
                              have g13_247 : v_247 13 = 0 := by rw [← hq_247]; exact g13_244
                              have gT_247 : MT v_247 y n (tE y n (tE y n (tE y n (tE y n p)))) := by rw [← hq_247]; exact MT_up gT_244 (by omega)
                              have g16_247 : v_247 16 = nI (m + 1) := by rw [← hq_247]; exact pk_us
                              have g17_247 : v_247 17 = v 17 + 1 := by rw [← hq_247]; exact g17_244
                              have g9_247 : ∀ j, j < 9 → v_247 j = v j := fun j hj => by rw [← hq_247, pk_un (by omega)]; exact g9_244 j hj
                              have hp_247 : tE y n (tE y n (tE y n (tE y n p))) ≤ n := hp_244
                              have hm_247 : m + 1 ≤ tE y n (tE y n (tE y n (tE y n p))) := by omega
                              have gap_247 : apU it_247 (m + 1) f0 = upd f (27 + 17 * sd + th) (nI nm) := by rw [← hi_247, apU_S f0 (by omega), hap]
                              have gro_247 : RwO it_247 (m + 1) := by rw [← hi_247]; exact RwO_S hro (by omega)
                              exact rtV (v_247, it_247) F hr hlk hP hS rfl (RI_ok (r := (1, tE y n (tE y n (tE y n (tE y n p))), upd f (27 + 17 * sd + th) (nI nm))) (m + 1) (by rw [itF, if_neg (Int32.not_le.mpr c_16), if_neg w45, if_neg c_162, if_pos c_194, tlH_1, if_pos w208, if_pos w216, if_pos w244] <;> simp only [evsd, show tn (nI sd) = sd from nI_clamp (by omega), i20, evth, show tn (nI th) = th from nI_clamp (by omega), i20, evnm, show tn (nI nm) = nm from nI_clamp (by omega), i20]) rfl g8_247 g17_247 g9_247 g13_247 gT_247 g16_247 hm_247 gap_247 gro_247) dX6_readItem_250
                            · skip
                              refine iV (rest := [.int (nI (27 + 17 * sd + th)), .ref (a 0)]) (wsp := fun _ => oM a (upd u_216 13 1) :: ai ct (a 5) 120 y :: (a 6, .inl (ct 3, 7, .inr (.inr (.inr (.inr (fun j => some (kS K j))))))) :: [ai ct (a 7) 480 it]) F (kX6_numberN l dC dI ct a u_216 y n (tE y n (tE y n (tE y n p))) (by omega) gT_216 99 (Or.inr w244)) gX6_readItem_X6_number rfl ⟨rfl, rfl⟩ nmX6_number ⟨Nat.le_of_ble_eq_true rfl, Nat.le_of_ble_eq_true rfl⟩ eT_b (fun _ _ _ => trivial) hK hP hD hS hA 0 rfl rfl rfl [0, 1] (by decide) rfl rfl rfl hl.1 (Nat.le_of_ble_eq_true rfl) dX6_readItem_244 ⟨Nat.zero_le _, Nat.zero_le _⟩ (fun _ => rfl) (fun _ => rfl) [a 0, a 5, a 6, a 7] rfl (fun _ => rfl) (fun r_244 u_244 H locs e_244 hP hD hS => ?_)
                              obtain rfl := e_244
                              obtain ⟨b_244, hb_244, eb_244⟩ := MT_12 hp_216 gT_216
                              refine tp (y := nI b_244) eb_244 ?_
                              generalize hq_244 : upd u_216 13 1 = n_244 at hP hD
                              have g8_244 : n_244 8 = nI n := by rw [← hq_244]; exact g8_216
                              have g13_244 : ¬ n_244 13 = 0 := by rw [← hq_244, pk_us]; decide
                              have gT_244 : MT n_244 y n (tE y n (tE y n (tE y n p))) := by rw [← hq_244]; exact MT_up gT_216 (by omega)
                              have g16_244 : n_244 16 = nI m := by rw [← hq_244]; exact g16_216
                              have g17_244 : n_244 17 = v 17 + 1 := by rw [← hq_244]; exact g17_216
                              have g9_244 : ∀ j, j < 9 → n_244 j = v j := fun j hj => by rw [← hq_244, pk_un (by omega)]; exact g9_216 j hj
                              have hm_244 : m ≤ tE y n (tE y n (tE y n p)) := hm_216
                              have hp_244 : tE y n (tE y n (tE y n p)) ≤ n := hp_216
                              refine vV (rest := []) (wsp := fun _ => oM a (upd n_244 16 (nI (m + 1))) :: ai ct (a 5) 120 y :: (a 6, .inl (ct 3, 7, .inr (.inr (.inr (.inr (fun j => some (kS K j))))))) :: [ai ct (a 7) 480 (upd (upd it (2 * m) (nI (27 + 17 * sd + th))) (2 * m + 1) (nI b_244))]) F (kX6_row l dC dI ct a n_244 it m (nI (27 + 17 * sd + th)) (nI b_244) g16_244 (by omega)) gX6_readItem_X6_row rfl ⟨rfl, rfl⟩ nmX6_row ⟨Nat.le_of_ble_eq_true rfl, Nat.le_of_ble_eq_true rfl⟩ eT_b (fun _ _ _ => trivial) hK hP hD hS hA 0 rfl rfl rfl [0, 3] (by decide) rfl rfl rfl hl.1 (Nat.le_of_ble_eq_true rfl) dX6_readItem_247 ⟨Nat.zero_le _, Nat.zero_le _⟩ (fun _ => rfl) (fun _ => rfl) [a 0, a 5, a 6, a 7] rfl (fun _ => rfl) (fun u_247 H locs e_247 hP hD hS => ?_)
                              generalize hq_247 : upd n_244 16 (nI (m + 1)) = v_247 at hP hD
                              generalize hi_247 : upd (upd it (2 * m) (nI (27 + 17 * sd + th))) (2 * m + 1) (nI b_244) = it_247 at hP hD
                              have g8_247 : v_247 8 = nI n := by rw [← hq_247]; exact g8_244
                              have g13_247 : ¬ v_247 13 = 0 := by rw [← hq_247]; exact g13_244
                              have gT_247 : MT v_247 y n (tE y n (tE y n (tE y n p))) := by rw [← hq_247]; exact MT_up gT_244 (by omega)
                              have g16_247 : v_247 16 = nI (m + 1) := by rw [← hq_247]; exact pk_us
                              have g17_247 : v_247 17 = v 17 + 1 := by rw [← hq_247]; exact g17_244
                              have g9_247 : ∀ j, j < 9 → v_247 j = v j := fun j hj => by rw [← hq_247, pk_un (by omega)]; exact g9_244 j hj
                              have hp_247 : tE y n (tE y n (tE y n p)) ≤ n := hp_244
                              have hm_247 : m + 1 ≤ 122 := by omega
                              exact rtV (v_247, it_247) F hr hlk hP hS rfl (RI_bad (r := (0, tE y n (tE y n (tE y n p)), f)) (by rw [itF, if_neg (Int32.not_le.mpr c_16), if_neg w45, if_neg c_162, if_pos c_194, tlH_1, if_pos w208, if_pos w216, if_neg w244] <;> simp only [evsd, show tn (nI sd) = sd from nI_clamp (by omega), i20, evth, show tn (nI th) = th from nI_clamp (by omega), i20]) rfl g8_247 g17_247 g9_247 g13_247 gT_247.1) dX6_readItem_250
                          · exact absurd (if_neg c_147) c_234
                        · skip
                          refine iV (rest := []) (wsp := fun _ => oM a (upd u_208 13 1) :: ai ct (a 5) 120 y :: (a 6, .inl (ct 3, 7, .inr (.inr (.inr (.inr (fun j => some (kS K j))))))) :: [ai ct (a 7) 480 it]) F (kX6_numberN l dC dI ct a u_208 y n (tE y n (tE y n p)) (by omega) gT_208 4 (Or.inr w216)) gX6_readItem_X6_number rfl ⟨rfl, rfl⟩ nmX6_number ⟨Nat.le_of_ble_eq_true rfl, Nat.le_of_ble_eq_true rfl⟩ eT_b (fun _ _ _ => trivial) hK hP hD hS hA 0 rfl rfl rfl [0, 1] (by decide) rfl rfl rfl hl.1 (Nat.le_of_ble_eq_true rfl) dX6_readItem_216 ⟨Nat.zero_le _, Nat.zero_le _⟩ (fun _ => rfl) (fun _ => rfl) [a 0, a 5, a 6, a 7] rfl (fun _ => rfl) (fun r_216 u_216 H locs e_216 hP hD hS => ?_)
                          obtain rfl := e_216
                          obtain ⟨b_216, hb_216, eb_216⟩ := MT_12 hp_208 gT_208
                          refine tp (y := nI b_216) eb_216 ?_
                          generalize hq_216 : upd u_208 13 1 = n_216 at hP hD
                          have g8_216 : n_216 8 = nI n := by rw [← hq_216]; exact g8_208
                          have g13_216 : ¬ n_216 13 = 0 := by rw [← hq_216, pk_us]; decide
                          have gT_216 : MT n_216 y n (tE y n (tE y n p)) := by rw [← hq_216]; exact MT_up gT_208 (by omega)
                          have g16_216 : n_216 16 = nI m := by rw [← hq_216]; exact g16_208
                          have g17_216 : n_216 17 = v 17 + 1 := by rw [← hq_216]; exact g17_208
                          have g9_216 : ∀ j, j < 9 → n_216 j = v j := fun j hj => by rw [← hq_216, pk_un (by omega)]; exact g9_208 j hj
                          have hm_216 : m ≤ tE y n (tE y n p) := hm_208
                          have hp_216 : tE y n (tE y n p) ≤ n := hp_208
                          refine lv_istore (lv' := [(5, .int (nI b_216)), (4, .int (nI sd)), (3, .int 7), (2, .int (if isW y n p 10 then 1 else 0)), (1, .int (wkF y n p)), (0, .ref (a 0))]) F.1 F.2.1 dX6_readItem_219 hl (by decide) rfl (fun ls hl => ?_)
                          refine lv_aload_n F.1 F.2.1 dX6_readItem_221 rfl (lv_at hl 5 rfl) ?_
                          refine lv_iload F.1 F.2.1 dX6_readItem_222 (lv_at hl 1 rfl) ?_
                          refine lv_iload_n F.1 F.2.1 dX6_readItem_224 rfl (lv_at hl 2 rfl) ?_
                          refine lv_iload F.1 F.2.1 dX6_readItem_225 (lv_at hl 0 rfl) ?_
                          refine lv_iadd F.1 F.2.1 dX6_readItem_227 ?_
                          refine tp (y := nI (7 + b_216)) (ad2 (a := 7) (b := b_216) (c := 7 + b_216) rfl rfl rfl) ?_
                          refine iS (rest := [.ref (a 0)]) (wsp := fun _ => oM a n_216 :: ai ct (a 5) 120 y :: (a 6, .inl (ct 3, 7, .inr (.inr (.inr (.inr (fun j => some (kS K j))))))) :: [ai ct (a 7) 480 it]) F (kX6_at l dC dI ct sd (7 + b_216) (27 + 17 * sd + b_216) (by omega)) gX6_readItem_X6_at rfl ⟨rfl, rfl⟩ nmX6_at ⟨Nat.le_of_ble_eq_true rfl, Nat.le_of_ble_eq_true rfl⟩ eT_b (fun _ _ _ => trivial) hK hP hD hS hA [] (by decide) rfl rfl rfl hl.1 (Nat.le_of_ble_eq_true rfl) dX6_readItem_228 ⟨Nat.zero_le _, Nat.zero_le _⟩ (fun _ => rfl) (fun _ => rfl) [a 0, a 5, a 6, a 7] rfl (fun _ => rfl) (fun r_228 u_228 H locs e_228 hP hD hS => ?_)
                          obtain rfl := e_228
                          refine lv_aload_n F.1 F.2.1 dX6_readItem_231 rfl (lv_at hl 5 rfl) ?_
                          refine lv_iconst (v := 0) F.1 F.2.1 dX6_readItem_232 (by decide) ?_
                          refine lv_iload_n F.1 F.2.1 dX6_readItem_233 rfl (lv_at hl 3 rfl) ?_
                          refine lv_if_eq (tgt := 242) F.1 F.2.1 dX6_readItem_234 (by decide) (fun c_234 => ?_) (fun c_234 => ?_)
                          · have c_234 : ¬ (isW y n p 10) := b01f rfl c_234
                            refine lv_bipush (v := 99) F.1 F.2.1 dX6_readItem_242 (by decide) ?_
                            refine iV (rest := [.int (nI (27 + 17 * sd + b_216)), .ref (a 0)]) (wsp := fun _ => oM a (upd n_216 13 1) :: ai ct (a 5) 120 y :: (a 6, .inl (ct 3, 7, .inr (.inr (.inr (.inr (fun j => some (kS K j))))))) :: [ai ct (a 7) 480 it]) F (kX6_numberN l dC dI ct a n_216 y n (tE y n (tE y n p)) (by omega) gT_216 99 (Or.inl g13_216)) gX6_readItem_X6_number rfl ⟨rfl, rfl⟩ nmX6_number ⟨Nat.le_of_ble_eq_true rfl, Nat.le_of_ble_eq_true rfl⟩ eT_b (fun _ _ _ => trivial) hK hP hD hS hA 0 rfl rfl rfl [0, 1] (by decide) rfl rfl rfl hl.1 (Nat.le_of_ble_eq_true rfl) dX6_readItem_244 ⟨Nat.zero_le _, Nat.zero_le _⟩ (fun _ => rfl) (fun _ => rfl) [a 0, a 5, a 6, a 7] rfl (fun _ => rfl) (fun r_244 u_244 H locs e_244 hP hD hS => ?_)
                            obtain rfl := e_244
                            obtain ⟨b_244, hb_244, eb_244⟩ := MT_12 hp_216 gT_216
                            refine tp (y := nI b_244) eb_244 ?_
                            generalize hq_244 : upd n_216 13 1 = n_244 at hP hD
                            have g8_244 : n_244 8 = nI n := by rw [← hq_244]; exact g8_216
                            have g13_244 : ¬ n_244 13 = 0 := by rw [← hq_244, pk_us]; decide
                            have gT_244 : MT n_244 y n (tE y n (tE y n p)) := by rw [← hq_244]; exact MT_up gT_216 (by omega)
                            have g16_244 : n_244 16 = nI m := by rw [← hq_244]; exact g16_216
                            have g17_244 : n_244 17 = v 17 + 1 := by rw [← hq_244]; exact g17_216
                            have g9_244 : ∀ j, j < 9 → n_244 j = v j := fun j hj => by rw [← hq_244, pk_un (by omega)]; exact g9_216 j hj
                            have hm_244 : m ≤ 121 := by omega
                            have hp_244 : tE y n (tE y n p) ≤ n := hp_216
                            refine vV (rest := []) (wsp := fun _ => oM a (upd n_244 16 (nI (m + 1))) :: ai ct (a 5) 120 y :: (a 6, .inl (ct 3, 7, .inr (.inr (.inr (.inr (fun j => some (kS K j))))))) :: [ai ct (a 7) 480 (upd (upd it (2 * m) (nI (27 + 17 * sd + b_216))) (2 * m + 1) (nI b_244))]) F (kX6_row l dC dI ct a n_244 it m (nI (27 + 17 * sd + b_216)) (nI b_244) g16_244 (by omega)) gX6_readItem_X6_row rfl ⟨rfl, rfl⟩ nmX6_row ⟨Nat.le_of_ble_eq_true rfl, Nat.le_of_ble_eq_true rfl⟩ eT_b (fun _ _ _ => trivial) hK hP hD hS hA 0 rfl rfl rfl [0, 3] (by decide) rfl rfl rfl hl.1 (Nat.le_of_ble_eq_true rfl) dX6_readItem_247 ⟨Nat.zero_le _, Nat.zero_le _⟩ (fun _ => rfl) (fun _ => rfl) [a 0, a 5, a 6, a 7] rfl (fun _ => rfl) (fun u_247 H locs e_247 hP hD hS => ?_)
                            generalize hq_247 : upd n_244 16 (nI (m + 1)) = v_247 at hP hD
                            generalize hi_247 : upd (upd it (2 * m) (nI (27 + 17 * sd + b_216))) (2 * m + 1) (nI b_244) = it_247 at hP hD
                            have g8_247 : v_247 8 = nI n := by rw [← hq_247]; exact g8_244
                            have g13_247 : ¬ v_247 13 = 0 := by rw [← hq_247]; exact g13_244
                            have gT_247 : MT v_247 y n (tE y n (tE y n p)) := by rw [← hq_247]; exact MT_up gT_244 (by omega)
                            have g16_247 : v_247 16 = nI (m + 1) := by rw [← hq_247]; exact pk_us
                            have g17_247 : v_247 17 = v 17 + 1 := by rw [← hq_247]; exact g17_244
                            have g9_247 : ∀ j, j < 9 → v_247 j = v j := fun j hj => by rw [← hq_247, pk_un (by omega)]; exact g9_244 j hj
                            have hp_247 : tE y n (tE y n p) ≤ n := hp_244
                            have hm_247 : m + 1 ≤ 122 := by omega
                            exact rtV (v_247, it_247) F hr hlk hP hS rfl (RI_bad (r := (0, tE y n (tE y n p), f)) (by rw [itF, if_neg (Int32.not_le.mpr c_16), if_neg w45, if_neg c_162, if_pos c_194, tlH_1, if_pos w208, if_neg w216] <;> simp only [evsd, show tn (nI sd) = sd from nI_clamp (by omega), i20]) rfl g8_247 g17_247 g9_247 g13_247 gT_247.1) dX6_readItem_250
                          · exact absurd (if_neg c_147) c_234
                      · skip
                        refine iV (rest := []) (wsp := fun _ => oM a (upd u_202 13 1) :: ai ct (a 5) 120 y :: (a 6, .inl (ct 3, 7, .inr (.inr (.inr (.inr (fun j => some (kS K j))))))) :: [ai ct (a 7) 480 it]) F (kX6_numberN l dC dI ct a u_202 y n (tE y n p) (by omega) gT_202 1 (Or.inr w208)) gX6_readItem_X6_number rfl ⟨rfl, rfl⟩ nmX6_number ⟨Nat.le_of_ble_eq_true rfl, Nat.le_of_ble_eq_true rfl⟩ eT_b (fun _ _ _ => trivial) hK hP hD hS hA 0 rfl rfl rfl [0, 1] (by decide) rfl rfl rfl hl.1 (Nat.le_of_ble_eq_true rfl) dX6_readItem_208 ⟨Nat.zero_le _, Nat.zero_le _⟩ (fun _ => rfl) (fun _ => rfl) [a 0, a 5, a 6, a 7] rfl (fun _ => rfl) (fun r_208 u_208 H locs e_208 hP hD hS => ?_)
                        obtain rfl := e_208
                        obtain ⟨b_208, hb_208, eb_208⟩ := MT_12 hp_202 gT_202
                        refine tp (y := nI b_208) eb_208 ?_
                        generalize hq_208 : upd u_202 13 1 = n_208 at hP hD
                        have g8_208 : n_208 8 = nI n := by rw [← hq_208]; exact g8_202
                        have g13_208 : ¬ n_208 13 = 0 := by rw [← hq_208, pk_us]; decide
                        have gT_208 : MT n_208 y n (tE y n p) := by rw [← hq_208]; exact MT_up gT_202 (by omega)
                        have g16_208 : n_208 16 = nI m := by rw [← hq_208]; exact g16_202
                        have g17_208 : n_208 17 = v 17 + 1 := by rw [← hq_208]; exact g17_202
                        have g9_208 : ∀ j, j < 9 → n_208 j = v j := fun j hj => by rw [← hq_208, pk_un (by omega)]; exact g9_202 j hj
                        have hm_208 : m ≤ tE y n p := hm_202
                        have hp_208 : tE y n p ≤ n := hp_202
                        refine lv_istore (lv' := [(4, .int (nI b_208)), (3, .int 7), (2, .int (if isW y n p 10 then 1 else 0)), (1, .int (wkF y n p)), (0, .ref (a 0))]) F.1 F.2.1 dX6_readItem_211 hl (by decide) rfl (fun ls hl => ?_)
                        refine lv_aload_n F.1 F.2.1 dX6_readItem_213 rfl (lv_at hl 4 rfl) ?_
                        refine lv_iconst (v := 0) F.1 F.2.1 dX6_readItem_214 (by decide) ?_
                        refine lv_iconst (v := 4) F.1 F.2.1 dX6_readItem_215 (by decide) ?_
                        refine iV (rest := []) (wsp := fun _ => oM a (upd n_208 13 1) :: ai ct (a 5) 120 y :: (a 6, .inl (ct 3, 7, .inr (.inr (.inr (.inr (fun j => some (kS K j))))))) :: [ai ct (a 7) 480 it]) F (kX6_numberN l dC dI ct a n_208 y n (tE y n p) (by omega) gT_208 4 (Or.inl g13_208)) gX6_readItem_X6_number rfl ⟨rfl, rfl⟩ nmX6_number ⟨Nat.le_of_ble_eq_true rfl, Nat.le_of_ble_eq_true rfl⟩ eT_b (fun _ _ _ => trivial) hK hP hD hS hA 0 rfl rfl rfl [0, 1] (by decide) rfl rfl rfl hl.1 (Nat.le_of_ble_eq_true rfl) dX6_readItem_216 ⟨Nat.zero_le _, Nat.zero_le _⟩ (fun _ => rfl) (fun _ => rfl) [a 0, a 5, a 6, a 7] rfl (fun _ => rfl) (fun r_216 u_216 H locs e_216 hP hD hS => ?_)
                        obtain rfl := e_216
                        obtain ⟨b_216, hb_216, eb_216⟩ := MT_12 hp_208 gT_208
                        refine tp (y := nI b_216) eb_216 ?_
                        generalize hq_216 : upd n_208 13 1 = n_216 at hP hD
                        have g8_216 : n_216 8 = nI n := by rw [← hq_216]; exact g8_208
                        have g13_216 : ¬ n_216 13 = 0 := by rw [← hq_216, pk_us]; decide
                        have gT_216 : MT n_216 y n (tE y n p) := by rw [← hq_216]; exact MT_up gT_208 (by omega)
                        have g16_216 : n_216 16 = nI m := by rw [← hq_216]; exact g16_208
                        have g17_216 : n_216 17 = v 17 + 1 := by rw [← hq_216]; exact g17_208
                        have g9_216 : ∀ j, j < 9 → n_216 j = v j := fun j hj => by rw [← hq_216, pk_un (by omega)]; exact g9_208 j hj
                        have hm_216 : m ≤ 121 := by omega
                        have hp_216 : tE y n p ≤ n := hp_208
                        refine lv_istore (lv' := [(5, .int (nI b_216)), (4, .int (nI b_208)), (3, .int 7), (2, .int (if isW y n p 10 then 1 else 0)), (1, .int (wkF y n p)), (0, .ref (a 0))]) F.1 F.2.1 dX6_readItem_219 hl (by decide) rfl (fun ls hl => ?_)
                        refine lv_aload_n F.1 F.2.1 dX6_readItem_221 rfl (lv_at hl 5 rfl) ?_
                        refine lv_iload F.1 F.2.1 dX6_readItem_222 (lv_at hl 1 rfl) ?_
                        refine lv_iload_n F.1 F.2.1 dX6_readItem_224 rfl (lv_at hl 2 rfl) ?_
                        refine lv_iload F.1 F.2.1 dX6_readItem_225 (lv_at hl 0 rfl) ?_
                        refine lv_iadd F.1 F.2.1 dX6_readItem_227 ?_
                        refine tp (y := nI (7 + b_216)) (ad2 (a := 7) (b := b_216) (c := 7 + b_216) rfl rfl rfl) ?_
                        refine iS (rest := [.ref (a 0)]) (wsp := fun _ => oM a n_216 :: ai ct (a 5) 120 y :: (a 6, .inl (ct 3, 7, .inr (.inr (.inr (.inr (fun j => some (kS K j))))))) :: [ai ct (a 7) 480 it]) F (kX6_at l dC dI ct b_208 (7 + b_216) (27 + 17 * b_208 + b_216) (by omega)) gX6_readItem_X6_at rfl ⟨rfl, rfl⟩ nmX6_at ⟨Nat.le_of_ble_eq_true rfl, Nat.le_of_ble_eq_true rfl⟩ eT_b (fun _ _ _ => trivial) hK hP hD hS hA [] (by decide) rfl rfl rfl hl.1 (Nat.le_of_ble_eq_true rfl) dX6_readItem_228 ⟨Nat.zero_le _, Nat.zero_le _⟩ (fun _ => rfl) (fun _ => rfl) [a 0, a 5, a 6, a 7] rfl (fun _ => rfl) (fun r_228 u_228 H locs e_228 hP hD hS => ?_)
                        obtain rfl := e_228
                        refine lv_aload_n F.1 F.2.1 dX6_readItem_231 rfl (lv_at hl 5 rfl) ?_
                        refine lv_iconst (v := 0) F.1 F.2.1 dX6_readItem_232 (by decide) ?_
                        refine lv_iload_n F.1 F.2.1 dX6_readItem_233 rfl (lv_at hl 3 rfl) ?_
                        refine lv_if_eq (tgt := 242) F.1 F.2.1 dX6_readItem_234 (by decide) (fun c_234 => ?_) (fun c_234 => ?_)
                        · have c_234 : ¬ (isW y n p 10) := b01f rfl c_234
                          refine lv_bipush (v := 99) F.1 F.2.1 dX6_readItem_242 (by decide) ?_
                          refine iV (rest := [.int (nI (27 + 17 * b_208 + b_216)), .ref (a 0)]) (wsp := fun _ => oM a (upd n_216 13 1) :: ai ct (a 5) 120 y :: (a 6, .inl (ct 3, 7, .inr (.inr (.inr (.inr (fun j => some (kS K j))))))) :: [ai ct (a 7) 480 it]) F (kX6_numberN l dC dI ct a n_216 y n (tE y n p) (by omega) gT_216 99 (Or.inl g13_216)) gX6_readItem_X6_number rfl ⟨rfl, rfl⟩ nmX6_number ⟨Nat.le_of_ble_eq_true rfl, Nat.le_of_ble_eq_true rfl⟩ eT_b (fun _ _ _ => trivial) hK hP hD hS hA 0 rfl rfl rfl [0, 1] (by decide) rfl rfl rfl hl.1 (Nat.le_of_ble_eq_true rfl) dX6_readItem_244 ⟨Nat.zero_le _, Nat.zero_le _⟩ (fun _ => rfl) (fun _ => rfl) [a 0, a 5, a 6, a 7] rfl (fun _ => rfl) (fun r_244 u_244 H locs e_244 hP hD hS => ?_)
                          obtain rfl := e_244
                          obtain ⟨b_244, hb_244, eb_244⟩ := MT_12 hp_216 gT_216
                          refine tp (y := nI b_244) eb_244 ?_
                          generalize hq_244 : upd n_216 13 1 = n_244 at hP hD
                          have g8_244 : n_244 8 = nI n := by rw [← hq_244]; exact g8_216
                          have g13_244 : ¬ n_244 13 = 0 := by rw [← hq_244, pk_us]; decide
                          have gT_244 : MT n_244 y n (tE y n p) := by rw [← hq_244]; exact MT_up gT_216 (by omega)
                          have g16_244 : n_244 16 = nI m := by rw [← hq_244]; exact g16_216
                          have g17_244 : n_244 17 = v 17 + 1 := by rw [← hq_244]; exact g17_216
                          have g9_244 : ∀ j, j < 9 → n_244 j = v j := fun j hj => by rw [← hq_244, pk_un (by omega)]; exact g9_216 j hj
                          have hm_244 : m ≤ 121 := by omega
                          have hp_244 : tE y n p ≤ n := hp_216
                          refine vV (rest := []) (wsp := fun _ => oM a (upd n_244 16 (nI (m + 1))) :: ai ct (a 5) 120 y :: (a 6, .inl (ct 3, 7, .inr (.inr (.inr (.inr (fun j => some (kS K j))))))) :: [ai ct (a 7) 480 (upd (upd it (2 * m) (nI (27 + 17 * b_208 + b_216))) (2 * m + 1) (nI b_244))]) F (kX6_row l dC dI ct a n_244 it m (nI (27 + 17 * b_208 + b_216)) (nI b_244) g16_244 (by omega)) gX6_readItem_X6_row rfl ⟨rfl, rfl⟩ nmX6_row ⟨Nat.le_of_ble_eq_true rfl, Nat.le_of_ble_eq_true rfl⟩ eT_b (fun _ _ _ => trivial) hK hP hD hS hA 0 rfl rfl rfl [0, 3] (by decide) rfl rfl rfl hl.1 (Nat.le_of_ble_eq_true rfl) dX6_readItem_247 ⟨Nat.zero_le _, Nat.zero_le _⟩ (fun _ => rfl) (fun _ => rfl) [a 0, a 5, a 6, a 7] rfl (fun _ => rfl) (fun u_247 H locs e_247 hP hD hS => ?_)
                          generalize hq_247 : upd n_244 16 (nI (m + 1)) = v_247 at hP hD
                          generalize hi_247 : upd (upd it (2 * m) (nI (27 + 17 * b_208 + b_216))) (2 * m + 1) (nI b_244) = it_247 at hP hD
                          have g8_247 : v_247 8 = nI n := by rw [← hq_247]; exact g8_244
                          have g13_247 : ¬ v_247 13 = 0 := by rw [← hq_247]; exact g13_244
                          have gT_247 : MT v_247 y n (tE y n p) := by rw [← hq_247]; exact MT_up gT_244 (by omega)
                          have g16_247 : v_247 16 = nI (m + 1) := by rw [← hq_247]; exact pk_us
                          have g17_247 : v_247 17 = v 17 + 1 := by rw [← hq_247]; exact g17_244
                          have g9_247 : ∀ j, j < 9 → v_247 j = v j := fun j hj => by rw [← hq_247, pk_un (by omega)]; exact g9_244 j hj
                          have hp_247 : tE y n p ≤ n := hp_244
                          have hm_247 : m + 1 ≤ 122 := by omega
                          exact rtV (v_247, it_247) F hr hlk hP hS rfl (RI_bad (r := (0, tE y n p, f)) (by rw [itF, if_neg (Int32.not_le.mpr c_16), if_neg w45, if_neg c_162, if_pos c_194, tlH_1, if_neg w208]) rfl g8_247 g17_247 g9_247 g13_247 gT_247.1) dX6_readItem_250
                        · exact absurd (if_neg c_147) c_234
              · have c_162 : isW y n p 8 := b01t rfl c_162
                refine lv_iconst (v := 2) F.1 F.2.1 dX6_readItem_165 (by decide) ?_
                refine lv_goto (tgt := 171) F.1 F.2.1 dX6_readItem_166 (by decide) ?_
                refine lv_istore_n (lv' := [(3, .int 2), (2, .int (if isW y n p 10 then 1 else 0)), (1, .int (wkF y n p)), (0, .ref (a 0))]) F.1 F.2.1 dX6_readItem_171 rfl hl (by decide) rfl (fun ls hl => ?_)
                refine lv_aload_n F.1 F.2.1 dX6_readItem_172 rfl (lv_at hl 3 rfl) ?_
                refine lv_iload_n F.1 F.2.1 dX6_readItem_173 rfl (lv_at hl 1 rfl) ?_
                refine lv_if_ne (tgt := 197) F.1 F.2.1 dX6_readItem_174 (by decide) (fun c_174 => ?_) (fun c_174 => ?_)
                · exact absurd (if_neg c_147) c_174
                · have c_174 : ¬ (isW y n p 10) := b01f rfl c_174
                  refine lv_aload_n F.1 F.2.1 dX6_readItem_177 rfl (lv_at hl 3 rfl) ?_
                  refine va_ldcwS F.1 F.2.1 (tx := "home") (q := kS K 8) F.2.2.2.1 (hE.2.2.2.1 ("HedgeHeapsModel", 309, "home", 8) (List.mem_of_getElem? (i := 5) rfl)) dX6_readItem_178 ?_
                  refine iV (rest := [.ref (a 0)]) (wsp := fun _ => oM a v0 :: ai ct (a 5) 120 y :: (a 6, .inl (ct 3, 7, .inr (.inr (.inr (.inr (fun j => some (kS K j))))))) :: [ai ct (a 7) 480 it]) F (kX6_isWord l dC dI ct K rfR a v0 y n p 8 hn hp_0 gT_0 (by decide)) gX6_readItem_X6_isWord rfl ⟨rfl, rfl⟩ nmX6_isWord ⟨Nat.le_of_ble_eq_true rfl, Nat.le_of_ble_eq_true rfl⟩ EQ_b (EQ_call hE hS hz [0, 1] rfl) hK hP hD hS hA 0 rfl rfl rfl [0, 1] (by decide) rfl rfl rfl hl.1 (Nat.le_of_ble_eq_true rfl) dX6_readItem_181 ⟨Nat.zero_le _, Nat.zero_le _⟩ (fun _ => rfl) (fun _ => rfl) [a 0, a 5, a 6, a 7] rfl (fun _ => rfl) (fun r_181 u_181 H locs e_181 hP hD hS => ?_)
                  obtain rfl := e_181
                  refine lv_if_ne (tgt := 197) F.1 F.2.1 dX6_readItem_184 (by decide) (fun c_184 => ?_) (fun c_184 => ?_)
                  · have c_184 : isW y n p 8 := b01t rfl c_184
                    refine lv_iconst (v := 1) F.1 F.2.1 dX6_readItem_197 (by decide) ?_
                    refine lv_goto (tgt := 202) F.1 F.2.1 dX6_readItem_198 (by decide) ?_
                    refine vV (rest := []) (wsp := fun u_202 => oM a u_202 :: ai ct (a 5) 120 y :: (a 6, .inl (ct 3, 7, .inr (.inr (.inr (.inr (fun j => some (kS K j))))))) :: [ai ct (a 7) 480 it]) F (kX6_mustY l dC dI ct a v0 y n p g8_0 hn hp_0 hy gT_0 g13_0) gX6_readItem_X6_must rfl ⟨rfl, rfl⟩ nmX6_must ⟨Nat.le_of_ble_eq_true rfl, Nat.le_of_ble_eq_true rfl⟩ eT_b (fun _ _ _ => trivial) hK hP hD hS hA 0 rfl rfl rfl [0, 1] (by decide) rfl rfl rfl hl.1 (Nat.le_of_ble_eq_true rfl) dX6_readItem_202 ⟨Nat.zero_le _, Nat.zero_le _⟩ (fun _ => rfl) (fun _ => rfl) [a 0, a 5, a 6, a 7] rfl (fun _ => rfl) (fun u_202 H locs e_202 hP hD hS => ?_)
                    have hlt_202 : p < tE y n p := isW_lt hp_0 c_184
                    have hp_202 : tE y n p ≤ n := tE_n hp_0
                    have g8_202 := (e_202.2 8 (Or.inl (by omega))).trans g8_0
                    have g13_202 := (e_202.2 13 (Or.inr (by omega))).trans g13_0
                    have gT_202 := e_202.1
                    have g16_202 := (e_202.2 16 (Or.inr (by omega))).trans g16_0
                    have g17_202 := (e_202.2 17 (Or.inr (by omega))).trans g17_0
                    have g9_202 : ∀ j, j < 9 → u_202 j = v j := fun j hj => (e_202.2 j (Or.inl hj)).trans (g9_0 j hj)
                    have hm_202 : m ≤ tE y n p := by omega
                    refine lv_aload_n F.1 F.2.1 dX6_readItem_205 rfl (lv_at hl 3 rfl) ?_
                    refine lv_iconst (v := 0) F.1 F.2.1 dX6_readItem_206 (by decide) ?_
                    refine lv_iconst (v := 1) F.1 F.2.1 dX6_readItem_207 (by decide) ?_
                    by_cases w208 : nuP y n (tE y n p) 1
                    · skip
                      refine iV (rest := []) (wsp := fun u_208 => oM a u_208 :: ai ct (a 5) 120 y :: (a 6, .inl (ct 3, 7, .inr (.inr (.inr (.inr (fun j => some (kS K j))))))) :: [ai ct (a 7) 480 it]) F (kX6_numberY l dC dI ct a u_202 y n (tE y n p) g8_202 hn hp_202 hy gT_202 1 g13_202 w208) gX6_readItem_X6_number rfl ⟨rfl, rfl⟩ nmX6_number ⟨Nat.le_of_ble_eq_true rfl, Nat.le_of_ble_eq_true rfl⟩ eT_b (fun _ _ _ => trivial) hK hP hD hS hA 0 rfl rfl rfl [0, 1] (by decide) rfl rfl rfl hl.1 (Nat.le_of_ble_eq_true rfl) dX6_readItem_208 ⟨Nat.zero_le _, Nat.zero_le _⟩ (fun _ => rfl) (fun _ => rfl) [a 0, a 5, a 6, a 7] rfl (fun _ => rfl) (fun r_208 u_208 H locs e_208 hP hD hS => ?_)
                      obtain ⟨a_208, E_208⟩ := e_208
                      obtain ⟨sd, hvsd, evsd⟩ := nu_n (M := 1) hp_202 w208 (by omega)
                      refine tp (y := nI sd) (a_208.trans evsd) ?_
                      have hlt_208 : tE y n p < tE y n (tE y n p) := nuP_lt hp_202 w208
                      have hp_208 : tE y n (tE y n p) ≤ n := tE_n hp_202
                      have g8_208 := (E_208.2 8 (Or.inl (by omega))).trans g8_202
                      have g13_208 := (E_208.2 13 (Or.inr (by omega))).trans g13_202
                      have gT_208 := E_208.1
                      have g16_208 := (E_208.2 16 (Or.inr (by omega))).trans g16_202
                      have g17_208 := (E_208.2 17 (Or.inr (by omega))).trans g17_202
                      have g9_208 : ∀ j, j < 9 → u_208 j = v j := fun j hj => (E_208.2 j (Or.inl hj)).trans (g9_202 j hj)
                      have hm_208 : m ≤ tE y n (tE y n p) := by omega
                      refine lv_istore (lv' := [(4, .int (nI sd)), (3, .int 2), (2, .int (if isW y n p 10 then 1 else 0)), (1, .int (wkF y n p)), (0, .ref (a 0))]) F.1 F.2.1 dX6_readItem_211 hl (by decide) rfl (fun ls hl => ?_)
                      refine lv_aload_n F.1 F.2.1 dX6_readItem_213 rfl (lv_at hl 4 rfl) ?_
                      refine lv_iconst (v := 0) F.1 F.2.1 dX6_readItem_214 (by decide) ?_
                      refine lv_iconst (v := 4) F.1 F.2.1 dX6_readItem_215 (by decide) ?_
                      by_cases w216 : nuP y n (tE y n (tE y n p)) 4
                      · skip
                        refine iV (rest := []) (wsp := fun u_216 => oM a u_216 :: ai ct (a 5) 120 y :: (a 6, .inl (ct 3, 7, .inr (.inr (.inr (.inr (fun j => some (kS K j))))))) :: [ai ct (a 7) 480 it]) F (kX6_numberY l dC dI ct a u_208 y n (tE y n (tE y n p)) g8_208 hn hp_208 hy gT_208 4 g13_208 w216) gX6_readItem_X6_number rfl ⟨rfl, rfl⟩ nmX6_number ⟨Nat.le_of_ble_eq_true rfl, Nat.le_of_ble_eq_true rfl⟩ eT_b (fun _ _ _ => trivial) hK hP hD hS hA 0 rfl rfl rfl [0, 1] (by decide) rfl rfl rfl hl.1 (Nat.le_of_ble_eq_true rfl) dX6_readItem_216 ⟨Nat.zero_le _, Nat.zero_le _⟩ (fun _ => rfl) (fun _ => rfl) [a 0, a 5, a 6, a 7] rfl (fun _ => rfl) (fun r_216 u_216 H locs e_216 hP hD hS => ?_)
                        obtain ⟨a_216, E_216⟩ := e_216
                        obtain ⟨th, hvth, evth⟩ := nu_n (M := 4) hp_208 w216 (by omega)
                        refine tp (y := nI th) (a_216.trans evth) ?_
                        have hlt_216 : tE y n (tE y n p) < tE y n (tE y n (tE y n p)) := nuP_lt hp_208 w216
                        have hp_216 : tE y n (tE y n (tE y n p)) ≤ n := tE_n hp_208
                        have g8_216 := (E_216.2 8 (Or.inl (by omega))).trans g8_208
                        have g13_216 := (E_216.2 13 (Or.inr (by omega))).trans g13_208
                        have gT_216 := E_216.1
                        have g16_216 := (E_216.2 16 (Or.inr (by omega))).trans g16_208
                        have g17_216 := (E_216.2 17 (Or.inr (by omega))).trans g17_208
                        have g9_216 : ∀ j, j < 9 → u_216 j = v j := fun j hj => (E_216.2 j (Or.inl hj)).trans (g9_208 j hj)
                        have hm_216 : m ≤ tE y n (tE y n (tE y n p)) := by omega
                        refine lv_istore (lv' := [(5, .int (nI th)), (4, .int (nI sd)), (3, .int 2), (2, .int (if isW y n p 10 then 1 else 0)), (1, .int (wkF y n p)), (0, .ref (a 0))]) F.1 F.2.1 dX6_readItem_219 hl (by decide) rfl (fun ls hl => ?_)
                        refine lv_aload_n F.1 F.2.1 dX6_readItem_221 rfl (lv_at hl 5 rfl) ?_
                        refine lv_iload F.1 F.2.1 dX6_readItem_222 (lv_at hl 1 rfl) ?_
                        refine lv_iload_n F.1 F.2.1 dX6_readItem_224 rfl (lv_at hl 2 rfl) ?_
                        refine lv_iload F.1 F.2.1 dX6_readItem_225 (lv_at hl 0 rfl) ?_
                        refine lv_iadd F.1 F.2.1 dX6_readItem_227 ?_
                        refine tp (y := nI (2 + th)) (ad2 (a := 2) (b := th) (c := 2 + th) rfl rfl rfl) ?_
                        refine iS (rest := [.ref (a 0)]) (wsp := fun _ => oM a u_216 :: ai ct (a 5) 120 y :: (a 6, .inl (ct 3, 7, .inr (.inr (.inr (.inr (fun j => some (kS K j))))))) :: [ai ct (a 7) 480 it]) F (kX6_at l dC dI ct sd (2 + th) (22 + 17 * sd + th) (by omega)) gX6_readItem_X6_at rfl ⟨rfl, rfl⟩ nmX6_at ⟨Nat.le_of_ble_eq_true rfl, Nat.le_of_ble_eq_true rfl⟩ eT_b (fun _ _ _ => trivial) hK hP hD hS hA [] (by decide) rfl rfl rfl hl.1 (Nat.le_of_ble_eq_true rfl) dX6_readItem_228 ⟨Nat.zero_le _, Nat.zero_le _⟩ (fun _ => rfl) (fun _ => rfl) [a 0, a 5, a 6, a 7] rfl (fun _ => rfl) (fun r_228 u_228 H locs e_228 hP hD hS => ?_)
                        obtain rfl := e_228
                        refine lv_aload_n F.1 F.2.1 dX6_readItem_231 rfl (lv_at hl 5 rfl) ?_
                        refine lv_iconst (v := 0) F.1 F.2.1 dX6_readItem_232 (by decide) ?_
                        refine lv_iload_n F.1 F.2.1 dX6_readItem_233 rfl (lv_at hl 3 rfl) ?_
                        refine lv_if_eq (tgt := 242) F.1 F.2.1 dX6_readItem_234 (by decide) (fun c_234 => ?_) (fun c_234 => ?_)
                        · have c_234 : ¬ (isW y n p 10) := b01f rfl c_234
                          refine lv_bipush (v := 99) F.1 F.2.1 dX6_readItem_242 (by decide) ?_
                          by_cases w244 : nuP y n (tE y n (tE y n (tE y n p))) 99
                          · skip
                            refine iV (rest := [.int (nI (22 + 17 * sd + th)), .ref (a 0)]) (wsp := fun u_244 => oM a u_244 :: ai ct (a 5) 120 y :: (a 6, .inl (ct 3, 7, .inr (.inr (.inr (.inr (fun j => some (kS K j))))))) :: [ai ct (a 7) 480 it]) F (kX6_numberY l dC dI ct a u_216 y n (tE y n (tE y n (tE y n p))) g8_216 hn hp_216 hy gT_216 99 g13_216 w244) gX6_readItem_X6_number rfl ⟨rfl, rfl⟩ nmX6_number ⟨Nat.le_of_ble_eq_true rfl, Nat.le_of_ble_eq_true rfl⟩ eT_b (fun _ _ _ => trivial) hK hP hD hS hA 0 rfl rfl rfl [0, 1] (by decide) rfl rfl rfl hl.1 (Nat.le_of_ble_eq_true rfl) dX6_readItem_244 ⟨Nat.zero_le _, Nat.zero_le _⟩ (fun _ => rfl) (fun _ => rfl) [a 0, a 5, a 6, a 7] rfl (fun _ => rfl) (fun r_244 u_244 H locs e_244 hP hD hS => ?_)
                            obtain ⟨a_244, E_244⟩ := e_244
                            obtain ⟨nm, hvnm, evnm⟩ := nu_n (M := 99) hp_216 w244 (by omega)
                            refine tp (y := nI nm) (a_244.trans evnm) ?_
                            have hlt_244 : tE y n (tE y n (tE y n p)) < tE y n (tE y n (tE y n (tE y n p))) := nuP_lt hp_216 w244
                            have hp_244 : tE y n (tE y n (tE y n (tE y n p))) ≤ n := tE_n hp_216
                            have g8_244 := (E_244.2 8 (Or.inl (by omega))).trans g8_216
                            have g13_244 := (E_244.2 13 (Or.inr (by omega))).trans g13_216
                            have gT_244 := E_244.1
                            have g16_244 := (E_244.2 16 (Or.inr (by omega))).trans g16_216
                            have g17_244 := (E_244.2 17 (Or.inr (by omega))).trans g17_216
                            have g9_244 : ∀ j, j < 9 → u_244 j = v j := fun j hj => (E_244.2 j (Or.inl hj)).trans (g9_216 j hj)
                            have hm_244 : m ≤ tE y n (tE y n (tE y n (tE y n p))) := by omega
                            refine vV (rest := []) (wsp := fun _ => oM a (upd u_244 16 (nI (m + 1))) :: ai ct (a 5) 120 y :: (a 6, .inl (ct 3, 7, .inr (.inr (.inr (.inr (fun j => some (kS K j))))))) :: [ai ct (a 7) 480 (upd (upd it (2 * m) (nI (22 + 17 * sd + th))) (2 * m + 1) (nI nm))]) F (kX6_row l dC dI ct a u_244 it m (nI (22 + 17 * sd + th)) (nI nm) g16_244 (by omega)) gX6_readItem_X6_row rfl ⟨rfl, rfl⟩ nmX6_row ⟨Nat.le_of_ble_eq_true rfl, Nat.le_of_ble_eq_true rfl⟩ eT_b (fun _ _ _ => trivial) hK hP hD hS hA 0 rfl rfl rfl [0, 3] (by decide) rfl rfl rfl hl.1 (Nat.le_of_ble_eq_true rfl) dX6_readItem_247 ⟨Nat.zero_le _, Nat.zero_le _⟩ (fun _ => rfl) (fun _ => rfl) [a 0, a 5, a 6, a 7] rfl (fun _ => rfl) (fun u_247 H locs e_247 hP hD hS => ?_)
                            generalize hq_247 : upd u_244 16 (nI (m + 1)) = v_247 at hP hD
                            generalize hi_247 : upd (upd it (2 * m) (nI (22 + 17 * sd + th))) (2 * m + 1) (nI nm) = it_247 at hP hD
                            have g8_247 : v_247 8 = nI n := by rw [← hq_247]; exact g8_244
                            have g13_247 : v_247 13 = 0 := by rw [← hq_247]; exact g13_244
                            have gT_247 : MT v_247 y n (tE y n (tE y n (tE y n (tE y n p)))) := by rw [← hq_247]; exact MT_up gT_244 (by omega)
                            have g16_247 : v_247 16 = nI (m + 1) := by rw [← hq_247]; exact pk_us
                            have g17_247 : v_247 17 = v 17 + 1 := by rw [← hq_247]; exact g17_244
                            have g9_247 : ∀ j, j < 9 → v_247 j = v j := fun j hj => by rw [← hq_247, pk_un (by omega)]; exact g9_244 j hj
                            have hp_247 : tE y n (tE y n (tE y n (tE y n p))) ≤ n := hp_244
                            have hm_247 : m + 1 ≤ tE y n (tE y n (tE y n (tE y n p))) := by omega
                            have gap_247 : apU it_247 (m + 1) f0 = upd f (22 + 17 * sd + th) (nI nm) := by rw [← hi_247, apU_S f0 (by omega), hap]
                            have gro_247 : RwO it_247 (m + 1) := by rw [← hi_247]; exact RwO_S hro (by omega)
                            exact rtV (v_247, it_247) F hr hlk hP hS rfl (RI_ok (r := (1, tE y n (tE y n (tE y n (tE y n p))), upd f (22 + 17 * sd + th) (nI nm))) (m + 1) (by rw [itF, if_neg (Int32.not_le.mpr c_16), if_neg w45, if_pos c_162, tlH_0, if_pos w208, if_pos w216, if_pos w244] <;> simp only [evsd, show tn (nI sd) = sd from nI_clamp (by omega), i20, evth, show tn (nI th) = th from nI_clamp (by omega), i20, evnm, show tn (nI nm) = nm from nI_clamp (by omega), i20]) rfl g8_247 g17_247 g9_247 g13_247 gT_247 g16_247 hm_247 gap_247 gro_247) dX6_readItem_250
                          · skip
                            refine iV (rest := [.int (nI (22 + 17 * sd + th)), .ref (a 0)]) (wsp := fun _ => oM a (upd u_216 13 1) :: ai ct (a 5) 120 y :: (a 6, .inl (ct 3, 7, .inr (.inr (.inr (.inr (fun j => some (kS K j))))))) :: [ai ct (a 7) 480 it]) F (kX6_numberN l dC dI ct a u_216 y n (tE y n (tE y n (tE y n p))) (by omega) gT_216 99 (Or.inr w244)) gX6_readItem_X6_number rfl ⟨rfl, rfl⟩ nmX6_number ⟨Nat.le_of_ble_eq_true rfl, Nat.le_of_ble_eq_true rfl⟩ eT_b (fun _ _ _ => trivial) hK hP hD hS hA 0 rfl rfl rfl [0, 1] (by decide) rfl rfl rfl hl.1 (Nat.le_of_ble_eq_true rfl) dX6_readItem_244 ⟨Nat.zero_le _, Nat.zero_le _⟩ (fun _ => rfl) (fun _ => rfl) [a 0, a 5, a 6, a 7] rfl (fun _ => rfl) (fun r_244 u_244 H locs e_244 hP hD hS => ?_)
                            obtain rfl := e_244
                            obtain ⟨b_244, hb_244, eb_244⟩ := MT_12 hp_216 gT_216
                            refine tp (y := nI b_244) eb_244 ?_
                            generalize hq_244 : upd u_216 13 1 = n_244 at hP hD
                            have g8_244 : n_244 8 = nI n := by rw [← hq_244]; exact g8_216
                            have g13_244 : ¬ n_244 13 = 0 := by rw [← hq_244, pk_us]; decide
                            have gT_244 : MT n_244 y n (tE y n (tE y n (tE y n p))) := by rw [← hq_244]; exact MT_up gT_216 (by omega)
                            have g16_244 : n_244 16 = nI m := by rw [← hq_244]; exact g16_216
                            have g17_244 : n_244 17 = v 17 + 1 := by rw [← hq_244]; exact g17_216
                            have g9_244 : ∀ j, j < 9 → n_244 j = v j := fun j hj => by rw [← hq_244, pk_un (by omega)]; exact g9_216 j hj
                            have hm_244 : m ≤ tE y n (tE y n (tE y n p)) := hm_216
                            have hp_244 : tE y n (tE y n (tE y n p)) ≤ n := hp_216
                            refine vV (rest := []) (wsp := fun _ => oM a (upd n_244 16 (nI (m + 1))) :: ai ct (a 5) 120 y :: (a 6, .inl (ct 3, 7, .inr (.inr (.inr (.inr (fun j => some (kS K j))))))) :: [ai ct (a 7) 480 (upd (upd it (2 * m) (nI (22 + 17 * sd + th))) (2 * m + 1) (nI b_244))]) F (kX6_row l dC dI ct a n_244 it m (nI (22 + 17 * sd + th)) (nI b_244) g16_244 (by omega)) gX6_readItem_X6_row rfl ⟨rfl, rfl⟩ nmX6_row ⟨Nat.le_of_ble_eq_true rfl, Nat.le_of_ble_eq_true rfl⟩ eT_b (fun _ _ _ => trivial) hK hP hD hS hA 0 rfl rfl rfl [0, 3] (by decide) rfl rfl rfl hl.1 (Nat.le_of_ble_eq_true rfl) dX6_readItem_247 ⟨Nat.zero_le _, Nat.zero_le _⟩ (fun _ => rfl) (fun _ => rfl) [a 0, a 5, a 6, a 7] rfl (fun _ => rfl) (fun u_247 H locs e_247 hP hD hS => ?_)
                            generalize hq_247 : upd n_244 16 (nI (m + 1)) = v_247 at hP hD
                            generalize hi_247 : upd (upd it (2 * m) (nI (22 + 17 * sd + th))) (2 * m + 1) (nI b_244) = it_247 at hP hD
                            have g8_247 : v_247 8 = nI n := by rw [← hq_247]; exact g8_244
                            have g13_247 : ¬ v_247 13 = 0 := by rw [← hq_247]; exact g13_244
                            have gT_247 : MT v_247 y n (tE y n (tE y n (tE y n p))) := by rw [← hq_247]; exact MT_up gT_244 (by omega)
                            have g16_247 : v_247 16 = nI (m + 1) := by rw [← hq_247]; exact pk_us
                            have g17_247 : v_247 17 = v 17 + 1 := by rw [← hq_247]; exact g17_244
                            have g9_247 : ∀ j, j < 9 → v_247 j = v j := fun j hj => by rw [← hq_247, pk_un (by omega)]; exact g9_244 j hj
                            have hp_247 : tE y n (tE y n (tE y n p)) ≤ n := hp_244
                            have hm_247 : m + 1 ≤ 122 := by omega
                            exact rtV (v_247, it_247) F hr hlk hP hS rfl (RI_bad (r := (0, tE y n (tE y n (tE y n p)), f)) (by rw [itF, if_neg (Int32.not_le.mpr c_16), if_neg w45, if_pos c_162, tlH_0, if_pos w208, if_pos w216, if_neg w244] <;> simp only [evsd, show tn (nI sd) = sd from nI_clamp (by omega), i20, evth, show tn (nI th) = th from nI_clamp (by omega), i20]) rfl g8_247 g17_247 g9_247 g13_247 gT_247.1) dX6_readItem_250
                        · exact absurd (if_neg c_147) c_234
                      · skip
                        refine iV (rest := []) (wsp := fun _ => oM a (upd u_208 13 1) :: ai ct (a 5) 120 y :: (a 6, .inl (ct 3, 7, .inr (.inr (.inr (.inr (fun j => some (kS K j))))))) :: [ai ct (a 7) 480 it]) F (kX6_numberN l dC dI ct a u_208 y n (tE y n (tE y n p)) (by omega) gT_208 4 (Or.inr w216)) gX6_readItem_X6_number rfl ⟨rfl, rfl⟩ nmX6_number ⟨Nat.le_of_ble_eq_true rfl, Nat.le_of_ble_eq_true rfl⟩ eT_b (fun _ _ _ => trivial) hK hP hD hS hA 0 rfl rfl rfl [0, 1] (by decide) rfl rfl rfl hl.1 (Nat.le_of_ble_eq_true rfl) dX6_readItem_216 ⟨Nat.zero_le _, Nat.zero_le _⟩ (fun _ => rfl) (fun _ => rfl) [a 0, a 5, a 6, a 7] rfl (fun _ => rfl) (fun r_216 u_216 H locs e_216 hP hD hS => ?_)
                        obtain rfl := e_216
                        obtain ⟨b_216, hb_216, eb_216⟩ := MT_12 hp_208 gT_208
                        refine tp (y := nI b_216) eb_216 ?_
                        generalize hq_216 : upd u_208 13 1 = n_216 at hP hD
                        have g8_216 : n_216 8 = nI n := by rw [← hq_216]; exact g8_208
                        have g13_216 : ¬ n_216 13 = 0 := by rw [← hq_216, pk_us]; decide
                        have gT_216 : MT n_216 y n (tE y n (tE y n p)) := by rw [← hq_216]; exact MT_up gT_208 (by omega)
                        have g16_216 : n_216 16 = nI m := by rw [← hq_216]; exact g16_208
                        have g17_216 : n_216 17 = v 17 + 1 := by rw [← hq_216]; exact g17_208
                        have g9_216 : ∀ j, j < 9 → n_216 j = v j := fun j hj => by rw [← hq_216, pk_un (by omega)]; exact g9_208 j hj
                        have hm_216 : m ≤ tE y n (tE y n p) := hm_208
                        have hp_216 : tE y n (tE y n p) ≤ n := hp_208
                        refine lv_istore (lv' := [(5, .int (nI b_216)), (4, .int (nI sd)), (3, .int 2), (2, .int (if isW y n p 10 then 1 else 0)), (1, .int (wkF y n p)), (0, .ref (a 0))]) F.1 F.2.1 dX6_readItem_219 hl (by decide) rfl (fun ls hl => ?_)
                        refine lv_aload_n F.1 F.2.1 dX6_readItem_221 rfl (lv_at hl 5 rfl) ?_
                        refine lv_iload F.1 F.2.1 dX6_readItem_222 (lv_at hl 1 rfl) ?_
                        refine lv_iload_n F.1 F.2.1 dX6_readItem_224 rfl (lv_at hl 2 rfl) ?_
                        refine lv_iload F.1 F.2.1 dX6_readItem_225 (lv_at hl 0 rfl) ?_
                        refine lv_iadd F.1 F.2.1 dX6_readItem_227 ?_
                        refine tp (y := nI (2 + b_216)) (ad2 (a := 2) (b := b_216) (c := 2 + b_216) rfl rfl rfl) ?_
                        refine iS (rest := [.ref (a 0)]) (wsp := fun _ => oM a n_216 :: ai ct (a 5) 120 y :: (a 6, .inl (ct 3, 7, .inr (.inr (.inr (.inr (fun j => some (kS K j))))))) :: [ai ct (a 7) 480 it]) F (kX6_at l dC dI ct sd (2 + b_216) (22 + 17 * sd + b_216) (by omega)) gX6_readItem_X6_at rfl ⟨rfl, rfl⟩ nmX6_at ⟨Nat.le_of_ble_eq_true rfl, Nat.le_of_ble_eq_true rfl⟩ eT_b (fun _ _ _ => trivial) hK hP hD hS hA [] (by decide) rfl rfl rfl hl.1 (Nat.le_of_ble_eq_true rfl) dX6_readItem_228 ⟨Nat.zero_le _, Nat.zero_le _⟩ (fun _ => rfl) (fun _ => rfl) [a 0, a 5, a 6, a 7] rfl (fun _ => rfl) (fun r_228 u_228 H locs e_228 hP hD hS => ?_)
                        obtain rfl := e_228
                        refine lv_aload_n F.1 F.2.1 dX6_readItem_231 rfl (lv_at hl 5 rfl) ?_
                        refine lv_iconst (v := 0) F.1 F.2.1 dX6_readItem_232 (by decide) ?_
                        refine lv_iload_n F.1 F.2.1 dX6_readItem_233 rfl (lv_at hl 3 rfl) ?_
                        refine lv_if_eq (tgt := 242) F.1 F.2.1 dX6_readItem_234 (by decide) (fun c_234 => ?_) (fun c_234 => ?_)
                        · have c_234 : ¬ (isW y n p 10) := b01f rfl c_234
                          refine lv_bipush (v := 99) F.1 F.2.1 dX6_readItem_242 (by decide) ?_
                          refine iV (rest := [.int (nI (22 + 17 * sd + b_216)), .ref (a 0)]) (wsp := fun _ => oM a (upd n_216 13 1) :: ai ct (a 5) 120 y :: (a 6, .inl (ct 3, 7, .inr (.inr (.inr (.inr (fun j => some (kS K j))))))) :: [ai ct (a 7) 480 it]) F (kX6_numberN l dC dI ct a n_216 y n (tE y n (tE y n p)) (by omega) gT_216 99 (Or.inl g13_216)) gX6_readItem_X6_number rfl ⟨rfl, rfl⟩ nmX6_number ⟨Nat.le_of_ble_eq_true rfl, Nat.le_of_ble_eq_true rfl⟩ eT_b (fun _ _ _ => trivial) hK hP hD hS hA 0 rfl rfl rfl [0, 1] (by decide) rfl rfl rfl hl.1 (Nat.le_of_ble_eq_true rfl) dX6_readItem_244 ⟨Nat.zero_le _, Nat.zero_le _⟩ (fun _ => rfl) (fun _ => rfl) [a 0, a 5, a 6, a 7] rfl (fun _ => rfl) (fun r_244 u_244 H locs e_244 hP hD hS => ?_)
                          obtain rfl := e_244
                          obtain ⟨b_244, hb_244, eb_244⟩ := MT_12 hp_216 gT_216
                          refine tp (y := nI b_244) eb_244 ?_
                          generalize hq_244 : upd n_216 13 1 = n_244 at hP hD
                          have g8_244 : n_244 8 = nI n := by rw [← hq_244]; exact g8_216
                          have g13_244 : ¬ n_244 13 = 0 := by rw [← hq_244, pk_us]; decide
                          have gT_244 : MT n_244 y n (tE y n (tE y n p)) := by rw [← hq_244]; exact MT_up gT_216 (by omega)
                          have g16_244 : n_244 16 = nI m := by rw [← hq_244]; exact g16_216
                          have g17_244 : n_244 17 = v 17 + 1 := by rw [← hq_244]; exact g17_216
                          have g9_244 : ∀ j, j < 9 → n_244 j = v j := fun j hj => by rw [← hq_244, pk_un (by omega)]; exact g9_216 j hj
                          have hm_244 : m ≤ 121 := by omega
                          have hp_244 : tE y n (tE y n p) ≤ n := hp_216
                          refine vV (rest := []) (wsp := fun _ => oM a (upd n_244 16 (nI (m + 1))) :: ai ct (a 5) 120 y :: (a 6, .inl (ct 3, 7, .inr (.inr (.inr (.inr (fun j => some (kS K j))))))) :: [ai ct (a 7) 480 (upd (upd it (2 * m) (nI (22 + 17 * sd + b_216))) (2 * m + 1) (nI b_244))]) F (kX6_row l dC dI ct a n_244 it m (nI (22 + 17 * sd + b_216)) (nI b_244) g16_244 (by omega)) gX6_readItem_X6_row rfl ⟨rfl, rfl⟩ nmX6_row ⟨Nat.le_of_ble_eq_true rfl, Nat.le_of_ble_eq_true rfl⟩ eT_b (fun _ _ _ => trivial) hK hP hD hS hA 0 rfl rfl rfl [0, 3] (by decide) rfl rfl rfl hl.1 (Nat.le_of_ble_eq_true rfl) dX6_readItem_247 ⟨Nat.zero_le _, Nat.zero_le _⟩ (fun _ => rfl) (fun _ => rfl) [a 0, a 5, a 6, a 7] rfl (fun _ => rfl) (fun u_247 H locs e_247 hP hD hS => ?_)
                          generalize hq_247 : upd n_244 16 (nI (m + 1)) = v_247 at hP hD
                          generalize hi_247 : upd (upd it (2 * m) (nI (22 + 17 * sd + b_216))) (2 * m + 1) (nI b_244) = it_247 at hP hD
                          have g8_247 : v_247 8 = nI n := by rw [← hq_247]; exact g8_244
                          have g13_247 : ¬ v_247 13 = 0 := by rw [← hq_247]; exact g13_244
                          have gT_247 : MT v_247 y n (tE y n (tE y n p)) := by rw [← hq_247]; exact MT_up gT_244 (by omega)
                          have g16_247 : v_247 16 = nI (m + 1) := by rw [← hq_247]; exact pk_us
                          have g17_247 : v_247 17 = v 17 + 1 := by rw [← hq_247]; exact g17_244
                          have g9_247 : ∀ j, j < 9 → v_247 j = v j := fun j hj => by rw [← hq_247, pk_un (by omega)]; exact g9_244 j hj
                          have hp_247 : tE y n (tE y n p) ≤ n := hp_244
                          have hm_247 : m + 1 ≤ 122 := by omega
                          exact rtV (v_247, it_247) F hr hlk hP hS rfl (RI_bad (r := (0, tE y n (tE y n p), f)) (by rw [itF, if_neg (Int32.not_le.mpr c_16), if_neg w45, if_pos c_162, tlH_0, if_pos w208, if_neg w216] <;> simp only [evsd, show tn (nI sd) = sd from nI_clamp (by omega), i20]) rfl g8_247 g17_247 g9_247 g13_247 gT_247.1) dX6_readItem_250
                        · exact absurd (if_neg c_147) c_234
                    · skip
                      refine iV (rest := []) (wsp := fun _ => oM a (upd u_202 13 1) :: ai ct (a 5) 120 y :: (a 6, .inl (ct 3, 7, .inr (.inr (.inr (.inr (fun j => some (kS K j))))))) :: [ai ct (a 7) 480 it]) F (kX6_numberN l dC dI ct a u_202 y n (tE y n p) (by omega) gT_202 1 (Or.inr w208)) gX6_readItem_X6_number rfl ⟨rfl, rfl⟩ nmX6_number ⟨Nat.le_of_ble_eq_true rfl, Nat.le_of_ble_eq_true rfl⟩ eT_b (fun _ _ _ => trivial) hK hP hD hS hA 0 rfl rfl rfl [0, 1] (by decide) rfl rfl rfl hl.1 (Nat.le_of_ble_eq_true rfl) dX6_readItem_208 ⟨Nat.zero_le _, Nat.zero_le _⟩ (fun _ => rfl) (fun _ => rfl) [a 0, a 5, a 6, a 7] rfl (fun _ => rfl) (fun r_208 u_208 H locs e_208 hP hD hS => ?_)
                      obtain rfl := e_208
                      obtain ⟨b_208, hb_208, eb_208⟩ := MT_12 hp_202 gT_202
                      refine tp (y := nI b_208) eb_208 ?_
                      generalize hq_208 : upd u_202 13 1 = n_208 at hP hD
                      have g8_208 : n_208 8 = nI n := by rw [← hq_208]; exact g8_202
                      have g13_208 : ¬ n_208 13 = 0 := by rw [← hq_208, pk_us]; decide
                      have gT_208 : MT n_208 y n (tE y n p) := by rw [← hq_208]; exact MT_up gT_202 (by omega)
                      have g16_208 : n_208 16 = nI m := by rw [← hq_208]; exact g16_202
                      have g17_208 : n_208 17 = v 17 + 1 := by rw [← hq_208]; exact g17_202
                      have g9_208 : ∀ j, j < 9 → n_208 j = v j := fun j hj => by rw [← hq_208, pk_un (by omega)]; exact g9_202 j hj
                      have hm_208 : m ≤ tE y n p := hm_202
                      have hp_208 : tE y n p ≤ n := hp_202
                      refine lv_istore (lv' := [(4, .int (nI b_208)), (3, .int 2), (2, .int (if isW y n p 10 then 1 else 0)), (1, .int (wkF y n p)), (0, .ref (a 0))]) F.1 F.2.1 dX6_readItem_211 hl (by decide) rfl (fun ls hl => ?_)
                      refine lv_aload_n F.1 F.2.1 dX6_readItem_213 rfl (lv_at hl 4 rfl) ?_
                      refine lv_iconst (v := 0) F.1 F.2.1 dX6_readItem_214 (by decide) ?_
                      refine lv_iconst (v := 4) F.1 F.2.1 dX6_readItem_215 (by decide) ?_
                      refine iV (rest := []) (wsp := fun _ => oM a (upd n_208 13 1) :: ai ct (a 5) 120 y :: (a 6, .inl (ct 3, 7, .inr (.inr (.inr (.inr (fun j => some (kS K j))))))) :: [ai ct (a 7) 480 it]) F (kX6_numberN l dC dI ct a n_208 y n (tE y n p) (by omega) gT_208 4 (Or.inl g13_208)) gX6_readItem_X6_number rfl ⟨rfl, rfl⟩ nmX6_number ⟨Nat.le_of_ble_eq_true rfl, Nat.le_of_ble_eq_true rfl⟩ eT_b (fun _ _ _ => trivial) hK hP hD hS hA 0 rfl rfl rfl [0, 1] (by decide) rfl rfl rfl hl.1 (Nat.le_of_ble_eq_true rfl) dX6_readItem_216 ⟨Nat.zero_le _, Nat.zero_le _⟩ (fun _ => rfl) (fun _ => rfl) [a 0, a 5, a 6, a 7] rfl (fun _ => rfl) (fun r_216 u_216 H locs e_216 hP hD hS => ?_)
                      obtain rfl := e_216
                      obtain ⟨b_216, hb_216, eb_216⟩ := MT_12 hp_208 gT_208
                      refine tp (y := nI b_216) eb_216 ?_
                      generalize hq_216 : upd n_208 13 1 = n_216 at hP hD
                      have g8_216 : n_216 8 = nI n := by rw [← hq_216]; exact g8_208
                      have g13_216 : ¬ n_216 13 = 0 := by rw [← hq_216, pk_us]; decide
                      have gT_216 : MT n_216 y n (tE y n p) := by rw [← hq_216]; exact MT_up gT_208 (by omega)
                      have g16_216 : n_216 16 = nI m := by rw [← hq_216]; exact g16_208
                      have g17_216 : n_216 17 = v 17 + 1 := by rw [← hq_216]; exact g17_208
                      have g9_216 : ∀ j, j < 9 → n_216 j = v j := fun j hj => by rw [← hq_216, pk_un (by omega)]; exact g9_208 j hj
                      have hm_216 : m ≤ 121 := by omega
                      have hp_216 : tE y n p ≤ n := hp_208
                      refine lv_istore (lv' := [(5, .int (nI b_216)), (4, .int (nI b_208)), (3, .int 2), (2, .int (if isW y n p 10 then 1 else 0)), (1, .int (wkF y n p)), (0, .ref (a 0))]) F.1 F.2.1 dX6_readItem_219 hl (by decide) rfl (fun ls hl => ?_)
                      refine lv_aload_n F.1 F.2.1 dX6_readItem_221 rfl (lv_at hl 5 rfl) ?_
                      refine lv_iload F.1 F.2.1 dX6_readItem_222 (lv_at hl 1 rfl) ?_
                      refine lv_iload_n F.1 F.2.1 dX6_readItem_224 rfl (lv_at hl 2 rfl) ?_
                      refine lv_iload F.1 F.2.1 dX6_readItem_225 (lv_at hl 0 rfl) ?_
                      refine lv_iadd F.1 F.2.1 dX6_readItem_227 ?_
                      refine tp (y := nI (2 + b_216)) (ad2 (a := 2) (b := b_216) (c := 2 + b_216) rfl rfl rfl) ?_
                      refine iS (rest := [.ref (a 0)]) (wsp := fun _ => oM a n_216 :: ai ct (a 5) 120 y :: (a 6, .inl (ct 3, 7, .inr (.inr (.inr (.inr (fun j => some (kS K j))))))) :: [ai ct (a 7) 480 it]) F (kX6_at l dC dI ct b_208 (2 + b_216) (22 + 17 * b_208 + b_216) (by omega)) gX6_readItem_X6_at rfl ⟨rfl, rfl⟩ nmX6_at ⟨Nat.le_of_ble_eq_true rfl, Nat.le_of_ble_eq_true rfl⟩ eT_b (fun _ _ _ => trivial) hK hP hD hS hA [] (by decide) rfl rfl rfl hl.1 (Nat.le_of_ble_eq_true rfl) dX6_readItem_228 ⟨Nat.zero_le _, Nat.zero_le _⟩ (fun _ => rfl) (fun _ => rfl) [a 0, a 5, a 6, a 7] rfl (fun _ => rfl) (fun r_228 u_228 H locs e_228 hP hD hS => ?_)
                      obtain rfl := e_228
                      refine lv_aload_n F.1 F.2.1 dX6_readItem_231 rfl (lv_at hl 5 rfl) ?_
                      refine lv_iconst (v := 0) F.1 F.2.1 dX6_readItem_232 (by decide) ?_
                      refine lv_iload_n F.1 F.2.1 dX6_readItem_233 rfl (lv_at hl 3 rfl) ?_
                      refine lv_if_eq (tgt := 242) F.1 F.2.1 dX6_readItem_234 (by decide) (fun c_234 => ?_) (fun c_234 => ?_)
                      · have c_234 : ¬ (isW y n p 10) := b01f rfl c_234
                        refine lv_bipush (v := 99) F.1 F.2.1 dX6_readItem_242 (by decide) ?_
                        refine iV (rest := [.int (nI (22 + 17 * b_208 + b_216)), .ref (a 0)]) (wsp := fun _ => oM a (upd n_216 13 1) :: ai ct (a 5) 120 y :: (a 6, .inl (ct 3, 7, .inr (.inr (.inr (.inr (fun j => some (kS K j))))))) :: [ai ct (a 7) 480 it]) F (kX6_numberN l dC dI ct a n_216 y n (tE y n p) (by omega) gT_216 99 (Or.inl g13_216)) gX6_readItem_X6_number rfl ⟨rfl, rfl⟩ nmX6_number ⟨Nat.le_of_ble_eq_true rfl, Nat.le_of_ble_eq_true rfl⟩ eT_b (fun _ _ _ => trivial) hK hP hD hS hA 0 rfl rfl rfl [0, 1] (by decide) rfl rfl rfl hl.1 (Nat.le_of_ble_eq_true rfl) dX6_readItem_244 ⟨Nat.zero_le _, Nat.zero_le _⟩ (fun _ => rfl) (fun _ => rfl) [a 0, a 5, a 6, a 7] rfl (fun _ => rfl) (fun r_244 u_244 H locs e_244 hP hD hS => ?_)
                        obtain rfl := e_244
                        obtain ⟨b_244, hb_244, eb_244⟩ := MT_12 hp_216 gT_216
                        refine tp (y := nI b_244) eb_244 ?_
                        generalize hq_244 : upd n_216 13 1 = n_244 at hP hD
                        have g8_244 : n_244 8 = nI n := by rw [← hq_244]; exact g8_216
                        have g13_244 : ¬ n_244 13 = 0 := by rw [← hq_244, pk_us]; decide
                        have gT_244 : MT n_244 y n (tE y n p) := by rw [← hq_244]; exact MT_up gT_216 (by omega)
                        have g16_244 : n_244 16 = nI m := by rw [← hq_244]; exact g16_216
                        have g17_244 : n_244 17 = v 17 + 1 := by rw [← hq_244]; exact g17_216
                        have g9_244 : ∀ j, j < 9 → n_244 j = v j := fun j hj => by rw [← hq_244, pk_un (by omega)]; exact g9_216 j hj
                        have hm_244 : m ≤ 121 := by omega
                        have hp_244 : tE y n p ≤ n := hp_216
                        refine vV (rest := []) (wsp := fun _ => oM a (upd n_244 16 (nI (m + 1))) :: ai ct (a 5) 120 y :: (a 6, .inl (ct 3, 7, .inr (.inr (.inr (.inr (fun j => some (kS K j))))))) :: [ai ct (a 7) 480 (upd (upd it (2 * m) (nI (22 + 17 * b_208 + b_216))) (2 * m + 1) (nI b_244))]) F (kX6_row l dC dI ct a n_244 it m (nI (22 + 17 * b_208 + b_216)) (nI b_244) g16_244 (by omega)) gX6_readItem_X6_row rfl ⟨rfl, rfl⟩ nmX6_row ⟨Nat.le_of_ble_eq_true rfl, Nat.le_of_ble_eq_true rfl⟩ eT_b (fun _ _ _ => trivial) hK hP hD hS hA 0 rfl rfl rfl [0, 3] (by decide) rfl rfl rfl hl.1 (Nat.le_of_ble_eq_true rfl) dX6_readItem_247 ⟨Nat.zero_le _, Nat.zero_le _⟩ (fun _ => rfl) (fun _ => rfl) [a 0, a 5, a 6, a 7] rfl (fun _ => rfl) (fun u_247 H locs e_247 hP hD hS => ?_)
                        generalize hq_247 : upd n_244 16 (nI (m + 1)) = v_247 at hP hD
                        generalize hi_247 : upd (upd it (2 * m) (nI (22 + 17 * b_208 + b_216))) (2 * m + 1) (nI b_244) = it_247 at hP hD
                        have g8_247 : v_247 8 = nI n := by rw [← hq_247]; exact g8_244
                        have g13_247 : ¬ v_247 13 = 0 := by rw [← hq_247]; exact g13_244
                        have gT_247 : MT v_247 y n (tE y n p) := by rw [← hq_247]; exact MT_up gT_244 (by omega)
                        have g16_247 : v_247 16 = nI (m + 1) := by rw [← hq_247]; exact pk_us
                        have g17_247 : v_247 17 = v 17 + 1 := by rw [← hq_247]; exact g17_244
                        have g9_247 : ∀ j, j < 9 → v_247 j = v j := fun j hj => by rw [← hq_247, pk_un (by omega)]; exact g9_244 j hj
                        have hp_247 : tE y n p ≤ n := hp_244
                        have hm_247 : m + 1 ≤ 122 := by omega
                        exact rtV (v_247, it_247) F hr hlk hP hS rfl (RI_bad (r := (0, tE y n p, f)) (by rw [itF, if_neg (Int32.not_le.mpr c_16), if_neg w45, if_pos c_162, tlH_0, if_neg w208]) rfl g8_247 g17_247 g9_247 g13_247 gT_247.1) dX6_readItem_250
                      · exact absurd (if_neg c_147) c_234
                  · exact absurd c_184 (by rw [if_pos c_162]; decide)
            · have c_147 : isW y n p 10 := b01t rfl c_147
              refine lv_bipush (v := 12) F.1 F.2.1 dX6_readItem_150 (by decide) ?_
              refine lv_goto (tgt := 171) F.1 F.2.1 dX6_readItem_152 (by decide) ?_
              refine lv_istore_n (lv' := [(3, .int 12), (2, .int (if isW y n p 10 then 1 else 0)), (1, .int (wkF y n p)), (0, .ref (a 0))]) F.1 F.2.1 dX6_readItem_171 rfl hl (by decide) rfl (fun ls hl => ?_)
              refine lv_aload_n F.1 F.2.1 dX6_readItem_172 rfl (lv_at hl 3 rfl) ?_
              refine lv_iload_n F.1 F.2.1 dX6_readItem_173 rfl (lv_at hl 1 rfl) ?_
              refine lv_if_ne (tgt := 197) F.1 F.2.1 dX6_readItem_174 (by decide) (fun c_174 => ?_) (fun c_174 => ?_)
              · have c_174 : isW y n p 10 := b01t rfl c_174
                refine lv_iconst (v := 1) F.1 F.2.1 dX6_readItem_197 (by decide) ?_
                refine lv_goto (tgt := 202) F.1 F.2.1 dX6_readItem_198 (by decide) ?_
                refine vV (rest := []) (wsp := fun u_202 => oM a u_202 :: ai ct (a 5) 120 y :: (a 6, .inl (ct 3, 7, .inr (.inr (.inr (.inr (fun j => some (kS K j))))))) :: [ai ct (a 7) 480 it]) F (kX6_mustY l dC dI ct a v0 y n p g8_0 hn hp_0 hy gT_0 g13_0) gX6_readItem_X6_must rfl ⟨rfl, rfl⟩ nmX6_must ⟨Nat.le_of_ble_eq_true rfl, Nat.le_of_ble_eq_true rfl⟩ eT_b (fun _ _ _ => trivial) hK hP hD hS hA 0 rfl rfl rfl [0, 1] (by decide) rfl rfl rfl hl.1 (Nat.le_of_ble_eq_true rfl) dX6_readItem_202 ⟨Nat.zero_le _, Nat.zero_le _⟩ (fun _ => rfl) (fun _ => rfl) [a 0, a 5, a 6, a 7] rfl (fun _ => rfl) (fun u_202 H locs e_202 hP hD hS => ?_)
                have hlt_202 : p < tE y n p := isW_lt hp_0 c_147
                have hp_202 : tE y n p ≤ n := tE_n hp_0
                have g8_202 := (e_202.2 8 (Or.inl (by omega))).trans g8_0
                have g13_202 := (e_202.2 13 (Or.inr (by omega))).trans g13_0
                have gT_202 := e_202.1
                have g16_202 := (e_202.2 16 (Or.inr (by omega))).trans g16_0
                have g17_202 := (e_202.2 17 (Or.inr (by omega))).trans g17_0
                have g9_202 : ∀ j, j < 9 → u_202 j = v j := fun j hj => (e_202.2 j (Or.inl hj)).trans (g9_0 j hj)
                have hm_202 : m ≤ tE y n p := by omega
                refine lv_aload_n F.1 F.2.1 dX6_readItem_205 rfl (lv_at hl 3 rfl) ?_
                refine lv_iconst (v := 0) F.1 F.2.1 dX6_readItem_206 (by decide) ?_
                refine lv_iconst (v := 1) F.1 F.2.1 dX6_readItem_207 (by decide) ?_
                by_cases w208 : nuP y n (tE y n p) 1
                · skip
                  refine iV (rest := []) (wsp := fun u_208 => oM a u_208 :: ai ct (a 5) 120 y :: (a 6, .inl (ct 3, 7, .inr (.inr (.inr (.inr (fun j => some (kS K j))))))) :: [ai ct (a 7) 480 it]) F (kX6_numberY l dC dI ct a u_202 y n (tE y n p) g8_202 hn hp_202 hy gT_202 1 g13_202 w208) gX6_readItem_X6_number rfl ⟨rfl, rfl⟩ nmX6_number ⟨Nat.le_of_ble_eq_true rfl, Nat.le_of_ble_eq_true rfl⟩ eT_b (fun _ _ _ => trivial) hK hP hD hS hA 0 rfl rfl rfl [0, 1] (by decide) rfl rfl rfl hl.1 (Nat.le_of_ble_eq_true rfl) dX6_readItem_208 ⟨Nat.zero_le _, Nat.zero_le _⟩ (fun _ => rfl) (fun _ => rfl) [a 0, a 5, a 6, a 7] rfl (fun _ => rfl) (fun r_208 u_208 H locs e_208 hP hD hS => ?_)
                  obtain ⟨a_208, E_208⟩ := e_208
                  obtain ⟨sd, hvsd, evsd⟩ := nu_n (M := 1) hp_202 w208 (by omega)
                  refine tp (y := nI sd) (a_208.trans evsd) ?_
                  have hlt_208 : tE y n p < tE y n (tE y n p) := nuP_lt hp_202 w208
                  have hp_208 : tE y n (tE y n p) ≤ n := tE_n hp_202
                  have g8_208 := (E_208.2 8 (Or.inl (by omega))).trans g8_202
                  have g13_208 := (E_208.2 13 (Or.inr (by omega))).trans g13_202
                  have gT_208 := E_208.1
                  have g16_208 := (E_208.2 16 (Or.inr (by omega))).trans g16_202
                  have g17_208 := (E_208.2 17 (Or.inr (by omega))).trans g17_202
                  have g9_208 : ∀ j, j < 9 → u_208 j = v j := fun j hj => (E_208.2 j (Or.inl hj)).trans (g9_202 j hj)
                  have hm_208 : m ≤ tE y n (tE y n p) := by omega
                  refine lv_istore (lv' := [(4, .int (nI sd)), (3, .int 12), (2, .int (if isW y n p 10 then 1 else 0)), (1, .int (wkF y n p)), (0, .ref (a 0))]) F.1 F.2.1 dX6_readItem_211 hl (by decide) rfl (fun ls hl => ?_)
                  refine lv_aload_n F.1 F.2.1 dX6_readItem_213 rfl (lv_at hl 4 rfl) ?_
                  refine lv_iconst (v := 0) F.1 F.2.1 dX6_readItem_214 (by decide) ?_
                  refine lv_iconst (v := 4) F.1 F.2.1 dX6_readItem_215 (by decide) ?_
                  by_cases w216 : nuP y n (tE y n (tE y n p)) 4
                  · skip
                    refine iV (rest := []) (wsp := fun u_216 => oM a u_216 :: ai ct (a 5) 120 y :: (a 6, .inl (ct 3, 7, .inr (.inr (.inr (.inr (fun j => some (kS K j))))))) :: [ai ct (a 7) 480 it]) F (kX6_numberY l dC dI ct a u_208 y n (tE y n (tE y n p)) g8_208 hn hp_208 hy gT_208 4 g13_208 w216) gX6_readItem_X6_number rfl ⟨rfl, rfl⟩ nmX6_number ⟨Nat.le_of_ble_eq_true rfl, Nat.le_of_ble_eq_true rfl⟩ eT_b (fun _ _ _ => trivial) hK hP hD hS hA 0 rfl rfl rfl [0, 1] (by decide) rfl rfl rfl hl.1 (Nat.le_of_ble_eq_true rfl) dX6_readItem_216 ⟨Nat.zero_le _, Nat.zero_le _⟩ (fun _ => rfl) (fun _ => rfl) [a 0, a 5, a 6, a 7] rfl (fun _ => rfl) (fun r_216 u_216 H locs e_216 hP hD hS => ?_)
                    obtain ⟨a_216, E_216⟩ := e_216
                    obtain ⟨th, hvth, evth⟩ := nu_n (M := 4) hp_208 w216 (by omega)
                    refine tp (y := nI th) (a_216.trans evth) ?_
                    have hlt_216 : tE y n (tE y n p) < tE y n (tE y n (tE y n p)) := nuP_lt hp_208 w216
                    have hp_216 : tE y n (tE y n (tE y n p)) ≤ n := tE_n hp_208
                    have g8_216 := (E_216.2 8 (Or.inl (by omega))).trans g8_208
                    have g13_216 := (E_216.2 13 (Or.inr (by omega))).trans g13_208
                    have gT_216 := E_216.1
                    have g16_216 := (E_216.2 16 (Or.inr (by omega))).trans g16_208
                    have g17_216 := (E_216.2 17 (Or.inr (by omega))).trans g17_208
                    have g9_216 : ∀ j, j < 9 → u_216 j = v j := fun j hj => (E_216.2 j (Or.inl hj)).trans (g9_208 j hj)
                    have hm_216 : m ≤ tE y n (tE y n (tE y n p)) := by omega
                    refine lv_istore (lv' := [(5, .int (nI th)), (4, .int (nI sd)), (3, .int 12), (2, .int (if isW y n p 10 then 1 else 0)), (1, .int (wkF y n p)), (0, .ref (a 0))]) F.1 F.2.1 dX6_readItem_219 hl (by decide) rfl (fun ls hl => ?_)
                    refine lv_aload_n F.1 F.2.1 dX6_readItem_221 rfl (lv_at hl 5 rfl) ?_
                    refine lv_iload F.1 F.2.1 dX6_readItem_222 (lv_at hl 1 rfl) ?_
                    refine lv_iload_n F.1 F.2.1 dX6_readItem_224 rfl (lv_at hl 2 rfl) ?_
                    refine lv_iload F.1 F.2.1 dX6_readItem_225 (lv_at hl 0 rfl) ?_
                    refine lv_iadd F.1 F.2.1 dX6_readItem_227 ?_
                    refine tp (y := nI (12 + th)) (ad2 (a := 12) (b := th) (c := 12 + th) rfl rfl rfl) ?_
                    refine iS (rest := [.ref (a 0)]) (wsp := fun _ => oM a u_216 :: ai ct (a 5) 120 y :: (a 6, .inl (ct 3, 7, .inr (.inr (.inr (.inr (fun j => some (kS K j))))))) :: [ai ct (a 7) 480 it]) F (kX6_at l dC dI ct sd (12 + th) (32 + 17 * sd + th) (by omega)) gX6_readItem_X6_at rfl ⟨rfl, rfl⟩ nmX6_at ⟨Nat.le_of_ble_eq_true rfl, Nat.le_of_ble_eq_true rfl⟩ eT_b (fun _ _ _ => trivial) hK hP hD hS hA [] (by decide) rfl rfl rfl hl.1 (Nat.le_of_ble_eq_true rfl) dX6_readItem_228 ⟨Nat.zero_le _, Nat.zero_le _⟩ (fun _ => rfl) (fun _ => rfl) [a 0, a 5, a 6, a 7] rfl (fun _ => rfl) (fun r_228 u_228 H locs e_228 hP hD hS => ?_)
                    obtain rfl := e_228
                    refine lv_aload_n F.1 F.2.1 dX6_readItem_231 rfl (lv_at hl 5 rfl) ?_
                    refine lv_iconst (v := 0) F.1 F.2.1 dX6_readItem_232 (by decide) ?_
                    refine lv_iload_n F.1 F.2.1 dX6_readItem_233 rfl (lv_at hl 3 rfl) ?_
                    refine lv_if_eq (tgt := 242) F.1 F.2.1 dX6_readItem_234 (by decide) (fun c_234 => ?_) (fun c_234 => ?_)
                    · exact absurd c_234 (by rw [if_pos c_147]; decide)
                    · have c_234 : isW y n p 10 := b01t rfl c_234
                      refine lv_bipush (v := 20) F.1 F.2.1 dX6_readItem_237 (by decide) ?_
                      refine lv_goto (tgt := 244) F.1 F.2.1 dX6_readItem_239 (by decide) ?_
                      by_cases w244 : nuP y n (tE y n (tE y n (tE y n p))) 20
                      · skip
                        refine iV (rest := [.int (nI (32 + 17 * sd + th)), .ref (a 0)]) (wsp := fun u_244 => oM a u_244 :: ai ct (a 5) 120 y :: (a 6, .inl (ct 3, 7, .inr (.inr (.inr (.inr (fun j => some (kS K j))))))) :: [ai ct (a 7) 480 it]) F (kX6_numberY l dC dI ct a u_216 y n (tE y n (tE y n (tE y n p))) g8_216 hn hp_216 hy gT_216 20 g13_216 w244) gX6_readItem_X6_number rfl ⟨rfl, rfl⟩ nmX6_number ⟨Nat.le_of_ble_eq_true rfl, Nat.le_of_ble_eq_true rfl⟩ eT_b (fun _ _ _ => trivial) hK hP hD hS hA 0 rfl rfl rfl [0, 1] (by decide) rfl rfl rfl hl.1 (Nat.le_of_ble_eq_true rfl) dX6_readItem_244 ⟨Nat.zero_le _, Nat.zero_le _⟩ (fun _ => rfl) (fun _ => rfl) [a 0, a 5, a 6, a 7] rfl (fun _ => rfl) (fun r_244 u_244 H locs e_244 hP hD hS => ?_)
                        obtain ⟨a_244, E_244⟩ := e_244
                        obtain ⟨nm, hvnm, evnm⟩ := nu_n (M := 20) hp_216 w244 (by omega)
                        refine tp (y := nI nm) (a_244.trans evnm) ?_
                        have hlt_244 : tE y n (tE y n (tE y n p)) < tE y n (tE y n (tE y n (tE y n p))) := nuP_lt hp_216 w244
                        have hp_244 : tE y n (tE y n (tE y n (tE y n p))) ≤ n := tE_n hp_216
                        have g8_244 := (E_244.2 8 (Or.inl (by omega))).trans g8_216
                        have g13_244 := (E_244.2 13 (Or.inr (by omega))).trans g13_216
                        have gT_244 := E_244.1
                        have g16_244 := (E_244.2 16 (Or.inr (by omega))).trans g16_216
                        have g17_244 := (E_244.2 17 (Or.inr (by omega))).trans g17_216
                        have g9_244 : ∀ j, j < 9 → u_244 j = v j := fun j hj => (E_244.2 j (Or.inl hj)).trans (g9_216 j hj)
                        have hm_244 : m ≤ tE y n (tE y n (tE y n (tE y n p))) := by omega
                        refine vV (rest := []) (wsp := fun _ => oM a (upd u_244 16 (nI (m + 1))) :: ai ct (a 5) 120 y :: (a 6, .inl (ct 3, 7, .inr (.inr (.inr (.inr (fun j => some (kS K j))))))) :: [ai ct (a 7) 480 (upd (upd it (2 * m) (nI (32 + 17 * sd + th))) (2 * m + 1) (nI nm))]) F (kX6_row l dC dI ct a u_244 it m (nI (32 + 17 * sd + th)) (nI nm) g16_244 (by omega)) gX6_readItem_X6_row rfl ⟨rfl, rfl⟩ nmX6_row ⟨Nat.le_of_ble_eq_true rfl, Nat.le_of_ble_eq_true rfl⟩ eT_b (fun _ _ _ => trivial) hK hP hD hS hA 0 rfl rfl rfl [0, 3] (by decide) rfl rfl rfl hl.1 (Nat.le_of_ble_eq_true rfl) dX6_readItem_247 ⟨Nat.zero_le _, Nat.zero_le _⟩ (fun _ => rfl) (fun _ => rfl) [a 0, a 5, a 6, a 7] rfl (fun _ => rfl) (fun u_247 H locs e_247 hP hD hS => ?_)
                        generalize hq_247 : upd u_244 16 (nI (m + 1)) = v_247 at hP hD
                        generalize hi_247 : upd (upd it (2 * m) (nI (32 + 17 * sd + th))) (2 * m + 1) (nI nm) = it_247 at hP hD
                        have g8_247 : v_247 8 = nI n := by rw [← hq_247]; exact g8_244
                        have g13_247 : v_247 13 = 0 := by rw [← hq_247]; exact g13_244
                        have gT_247 : MT v_247 y n (tE y n (tE y n (tE y n (tE y n p)))) := by rw [← hq_247]; exact MT_up gT_244 (by omega)
                        have g16_247 : v_247 16 = nI (m + 1) := by rw [← hq_247]; exact pk_us
                        have g17_247 : v_247 17 = v 17 + 1 := by rw [← hq_247]; exact g17_244
                        have g9_247 : ∀ j, j < 9 → v_247 j = v j := fun j hj => by rw [← hq_247, pk_un (by omega)]; exact g9_244 j hj
                        have hp_247 : tE y n (tE y n (tE y n (tE y n p))) ≤ n := hp_244
                        have hm_247 : m + 1 ≤ tE y n (tE y n (tE y n (tE y n p))) := by omega
                        have gap_247 : apU it_247 (m + 1) f0 = upd f (32 + 17 * sd + th) (nI nm) := by rw [← hi_247, apU_S f0 (by omega), hap]
                        have gro_247 : RwO it_247 (m + 1) := by rw [← hi_247]; exact RwO_S hro (by omega)
                        exact rtV (v_247, it_247) F hr hlk hP hS rfl (RI_ok (r := (1, tE y n (tE y n (tE y n (tE y n p))), upd f (32 + 17 * sd + th) (nI nm))) (m + 1) (by rw [itF, if_neg (Int32.not_le.mpr c_16), if_neg w45, if_neg (isW_no (i := 10) (by omega) (by omega) (by omega) c_147), if_neg (isW_no (i := 10) (by omega) (by omega) (by omega) c_147), if_pos c_147, tlH_2, if_pos w208, if_pos w216, if_pos w244] <;> simp only [evsd, show tn (nI sd) = sd from nI_clamp (by omega), i20, evth, show tn (nI th) = th from nI_clamp (by omega), i20, evnm, show tn (nI nm) = nm from nI_clamp (by omega), i20]) rfl g8_247 g17_247 g9_247 g13_247 gT_247 g16_247 hm_247 gap_247 gro_247) dX6_readItem_250
                      · skip
                        refine iV (rest := [.int (nI (32 + 17 * sd + th)), .ref (a 0)]) (wsp := fun _ => oM a (upd u_216 13 1) :: ai ct (a 5) 120 y :: (a 6, .inl (ct 3, 7, .inr (.inr (.inr (.inr (fun j => some (kS K j))))))) :: [ai ct (a 7) 480 it]) F (kX6_numberN l dC dI ct a u_216 y n (tE y n (tE y n (tE y n p))) (by omega) gT_216 20 (Or.inr w244)) gX6_readItem_X6_number rfl ⟨rfl, rfl⟩ nmX6_number ⟨Nat.le_of_ble_eq_true rfl, Nat.le_of_ble_eq_true rfl⟩ eT_b (fun _ _ _ => trivial) hK hP hD hS hA 0 rfl rfl rfl [0, 1] (by decide) rfl rfl rfl hl.1 (Nat.le_of_ble_eq_true rfl) dX6_readItem_244 ⟨Nat.zero_le _, Nat.zero_le _⟩ (fun _ => rfl) (fun _ => rfl) [a 0, a 5, a 6, a 7] rfl (fun _ => rfl) (fun r_244 u_244 H locs e_244 hP hD hS => ?_)
                        obtain rfl := e_244
                        obtain ⟨b_244, hb_244, eb_244⟩ := MT_12 hp_216 gT_216
                        refine tp (y := nI b_244) eb_244 ?_
                        generalize hq_244 : upd u_216 13 1 = n_244 at hP hD
                        have g8_244 : n_244 8 = nI n := by rw [← hq_244]; exact g8_216
                        have g13_244 : ¬ n_244 13 = 0 := by rw [← hq_244, pk_us]; decide
                        have gT_244 : MT n_244 y n (tE y n (tE y n (tE y n p))) := by rw [← hq_244]; exact MT_up gT_216 (by omega)
                        have g16_244 : n_244 16 = nI m := by rw [← hq_244]; exact g16_216
                        have g17_244 : n_244 17 = v 17 + 1 := by rw [← hq_244]; exact g17_216
                        have g9_244 : ∀ j, j < 9 → n_244 j = v j := fun j hj => by rw [← hq_244, pk_un (by omega)]; exact g9_216 j hj
                        have hm_244 : m ≤ tE y n (tE y n (tE y n p)) := hm_216
                        have hp_244 : tE y n (tE y n (tE y n p)) ≤ n := hp_216
                        refine vV (rest := []) (wsp := fun _ => oM a (upd n_244 16 (nI (m + 1))) :: ai ct (a 5) 120 y :: (a 6, .inl (ct 3, 7, .inr (.inr (.inr (.inr (fun j => some (kS K j))))))) :: [ai ct (a 7) 480 (upd (upd it (2 * m) (nI (32 + 17 * sd + th))) (2 * m + 1) (nI b_244))]) F (kX6_row l dC dI ct a n_244 it m (nI (32 + 17 * sd + th)) (nI b_244) g16_244 (by omega)) gX6_readItem_X6_row rfl ⟨rfl, rfl⟩ nmX6_row ⟨Nat.le_of_ble_eq_true rfl, Nat.le_of_ble_eq_true rfl⟩ eT_b (fun _ _ _ => trivial) hK hP hD hS hA 0 rfl rfl rfl [0, 3] (by decide) rfl rfl rfl hl.1 (Nat.le_of_ble_eq_true rfl) dX6_readItem_247 ⟨Nat.zero_le _, Nat.zero_le _⟩ (fun _ => rfl) (fun _ => rfl) [a 0, a 5, a 6, a 7] rfl (fun _ => rfl) (fun u_247 H locs e_247 hP hD hS => ?_)
                        generalize hq_247 : upd n_244 16 (nI (m + 1)) = v_247 at hP hD
                        generalize hi_247 : upd (upd it (2 * m) (nI (32 + 17 * sd + th))) (2 * m + 1) (nI b_244) = it_247 at hP hD
                        have g8_247 : v_247 8 = nI n := by rw [← hq_247]; exact g8_244
                        have g13_247 : ¬ v_247 13 = 0 := by rw [← hq_247]; exact g13_244
                        have gT_247 : MT v_247 y n (tE y n (tE y n (tE y n p))) := by rw [← hq_247]; exact MT_up gT_244 (by omega)
                        have g16_247 : v_247 16 = nI (m + 1) := by rw [← hq_247]; exact pk_us
                        have g17_247 : v_247 17 = v 17 + 1 := by rw [← hq_247]; exact g17_244
                        have g9_247 : ∀ j, j < 9 → v_247 j = v j := fun j hj => by rw [← hq_247, pk_un (by omega)]; exact g9_244 j hj
                        have hp_247 : tE y n (tE y n (tE y n p)) ≤ n := hp_244
                        have hm_247 : m + 1 ≤ 122 := by omega
                        exact rtV (v_247, it_247) F hr hlk hP hS rfl (RI_bad (r := (0, tE y n (tE y n (tE y n p)), f)) (by rw [itF, if_neg (Int32.not_le.mpr c_16), if_neg w45, if_neg (isW_no (i := 10) (by omega) (by omega) (by omega) c_147), if_neg (isW_no (i := 10) (by omega) (by omega) (by omega) c_147), if_pos c_147, tlH_2, if_pos w208, if_pos w216, if_neg w244] <;> simp only [evsd, show tn (nI sd) = sd from nI_clamp (by omega), i20, evth, show tn (nI th) = th from nI_clamp (by omega), i20]) rfl g8_247 g17_247 g9_247 g13_247 gT_247.1) dX6_readItem_250
                  · skip
                    refine iV (rest := []) (wsp := fun _ => oM a (upd u_208 13 1) :: ai ct (a 5) 120 y :: (a 6, .inl (ct 3, 7, .inr (.inr (.inr (.inr (fun j => some (kS K j))))))) :: [ai ct (a 7) 480 it]) F (kX6_numberN l dC dI ct a u_208 y n (tE y n (tE y n p)) (by omega) gT_208 4 (Or.inr w216)) gX6_readItem_X6_number rfl ⟨rfl, rfl⟩ nmX6_number ⟨Nat.le_of_ble_eq_true rfl, Nat.le_of_ble_eq_true rfl⟩ eT_b (fun _ _ _ => trivial) hK hP hD hS hA 0 rfl rfl rfl [0, 1] (by decide) rfl rfl rfl hl.1 (Nat.le_of_ble_eq_true rfl) dX6_readItem_216 ⟨Nat.zero_le _, Nat.zero_le _⟩ (fun _ => rfl) (fun _ => rfl) [a 0, a 5, a 6, a 7] rfl (fun _ => rfl) (fun r_216 u_216 H locs e_216 hP hD hS => ?_)
                    obtain rfl := e_216
                    obtain ⟨b_216, hb_216, eb_216⟩ := MT_12 hp_208 gT_208
                    refine tp (y := nI b_216) eb_216 ?_
                    generalize hq_216 : upd u_208 13 1 = n_216 at hP hD
                    have g8_216 : n_216 8 = nI n := by rw [← hq_216]; exact g8_208
                    have g13_216 : ¬ n_216 13 = 0 := by rw [← hq_216, pk_us]; decide
                    have gT_216 : MT n_216 y n (tE y n (tE y n p)) := by rw [← hq_216]; exact MT_up gT_208 (by omega)
                    have g16_216 : n_216 16 = nI m := by rw [← hq_216]; exact g16_208
                    have g17_216 : n_216 17 = v 17 + 1 := by rw [← hq_216]; exact g17_208
                    have g9_216 : ∀ j, j < 9 → n_216 j = v j := fun j hj => by rw [← hq_216, pk_un (by omega)]; exact g9_208 j hj
                    have hm_216 : m ≤ tE y n (tE y n p) := hm_208
                    have hp_216 : tE y n (tE y n p) ≤ n := hp_208
                    refine lv_istore (lv' := [(5, .int (nI b_216)), (4, .int (nI sd)), (3, .int 12), (2, .int (if isW y n p 10 then 1 else 0)), (1, .int (wkF y n p)), (0, .ref (a 0))]) F.1 F.2.1 dX6_readItem_219 hl (by decide) rfl (fun ls hl => ?_)
                    refine lv_aload_n F.1 F.2.1 dX6_readItem_221 rfl (lv_at hl 5 rfl) ?_
                    refine lv_iload F.1 F.2.1 dX6_readItem_222 (lv_at hl 1 rfl) ?_
                    refine lv_iload_n F.1 F.2.1 dX6_readItem_224 rfl (lv_at hl 2 rfl) ?_
                    refine lv_iload F.1 F.2.1 dX6_readItem_225 (lv_at hl 0 rfl) ?_
                    refine lv_iadd F.1 F.2.1 dX6_readItem_227 ?_
                    refine tp (y := nI (12 + b_216)) (ad2 (a := 12) (b := b_216) (c := 12 + b_216) rfl rfl rfl) ?_
                    refine iS (rest := [.ref (a 0)]) (wsp := fun _ => oM a n_216 :: ai ct (a 5) 120 y :: (a 6, .inl (ct 3, 7, .inr (.inr (.inr (.inr (fun j => some (kS K j))))))) :: [ai ct (a 7) 480 it]) F (kX6_at l dC dI ct sd (12 + b_216) (32 + 17 * sd + b_216) (by omega)) gX6_readItem_X6_at rfl ⟨rfl, rfl⟩ nmX6_at ⟨Nat.le_of_ble_eq_true rfl, Nat.le_of_ble_eq_true rfl⟩ eT_b (fun _ _ _ => trivial) hK hP hD hS hA [] (by decide) rfl rfl rfl hl.1 (Nat.le_of_ble_eq_true rfl) dX6_readItem_228 ⟨Nat.zero_le _, Nat.zero_le _⟩ (fun _ => rfl) (fun _ => rfl) [a 0, a 5, a 6, a 7] rfl (fun _ => rfl) (fun r_228 u_228 H locs e_228 hP hD hS => ?_)
                    obtain rfl := e_228
                    refine lv_aload_n F.1 F.2.1 dX6_readItem_231 rfl (lv_at hl 5 rfl) ?_
                    refine lv_iconst (v := 0) F.1 F.2.1 dX6_readItem_232 (by decide) ?_
                    refine lv_iload_n F.1 F.2.1 dX6_readItem_233 rfl (lv_at hl 3 rfl) ?_
                    refine lv_if_eq (tgt := 242) F.1 F.2.1 dX6_readItem_234 (by decide) (fun c_234 => ?_) (fun c_234 => ?_)
                    · exact absurd c_234 (by rw [if_pos c_147]; decide)
                    · have c_234 : isW y n p 10 := b01t rfl c_234
                      refine lv_bipush (v := 20) F.1 F.2.1 dX6_readItem_237 (by decide) ?_
                      refine lv_goto (tgt := 244) F.1 F.2.1 dX6_readItem_239 (by decide) ?_
                      refine iV (rest := [.int (nI (32 + 17 * sd + b_216)), .ref (a 0)]) (wsp := fun _ => oM a (upd n_216 13 1) :: ai ct (a 5) 120 y :: (a 6, .inl (ct 3, 7, .inr (.inr (.inr (.inr (fun j => some (kS K j))))))) :: [ai ct (a 7) 480 it]) F (kX6_numberN l dC dI ct a n_216 y n (tE y n (tE y n p)) (by omega) gT_216 20 (Or.inl g13_216)) gX6_readItem_X6_number rfl ⟨rfl, rfl⟩ nmX6_number ⟨Nat.le_of_ble_eq_true rfl, Nat.le_of_ble_eq_true rfl⟩ eT_b (fun _ _ _ => trivial) hK hP hD hS hA 0 rfl rfl rfl [0, 1] (by decide) rfl rfl rfl hl.1 (Nat.le_of_ble_eq_true rfl) dX6_readItem_244 ⟨Nat.zero_le _, Nat.zero_le _⟩ (fun _ => rfl) (fun _ => rfl) [a 0, a 5, a 6, a 7] rfl (fun _ => rfl) (fun r_244 u_244 H locs e_244 hP hD hS => ?_)
                      obtain rfl := e_244
                      obtain ⟨b_244, hb_244, eb_244⟩ := MT_12 hp_216 gT_216
                      refine tp (y := nI b_244) eb_244 ?_
                      generalize hq_244 : upd n_216 13 1 = n_244 at hP hD
                      have g8_244 : n_244 8 = nI n := by rw [← hq_244]; exact g8_216
                      have g13_244 : ¬ n_244 13 = 0 := by rw [← hq_244, pk_us]; decide
                      have gT_244 : MT n_244 y n (tE y n (tE y n p)) := by rw [← hq_244]; exact MT_up gT_216 (by omega)
                      have g16_244 : n_244 16 = nI m := by rw [← hq_244]; exact g16_216
                      have g17_244 : n_244 17 = v 17 + 1 := by rw [← hq_244]; exact g17_216
                      have g9_244 : ∀ j, j < 9 → n_244 j = v j := fun j hj => by rw [← hq_244, pk_un (by omega)]; exact g9_216 j hj
                      have hm_244 : m ≤ 121 := by omega
                      have hp_244 : tE y n (tE y n p) ≤ n := hp_216
                      refine vV (rest := []) (wsp := fun _ => oM a (upd n_244 16 (nI (m + 1))) :: ai ct (a 5) 120 y :: (a 6, .inl (ct 3, 7, .inr (.inr (.inr (.inr (fun j => some (kS K j))))))) :: [ai ct (a 7) 480 (upd (upd it (2 * m) (nI (32 + 17 * sd + b_216))) (2 * m + 1) (nI b_244))]) F (kX6_row l dC dI ct a n_244 it m (nI (32 + 17 * sd + b_216)) (nI b_244) g16_244 (by omega)) gX6_readItem_X6_row rfl ⟨rfl, rfl⟩ nmX6_row ⟨Nat.le_of_ble_eq_true rfl, Nat.le_of_ble_eq_true rfl⟩ eT_b (fun _ _ _ => trivial) hK hP hD hS hA 0 rfl rfl rfl [0, 3] (by decide) rfl rfl rfl hl.1 (Nat.le_of_ble_eq_true rfl) dX6_readItem_247 ⟨Nat.zero_le _, Nat.zero_le _⟩ (fun _ => rfl) (fun _ => rfl) [a 0, a 5, a 6, a 7] rfl (fun _ => rfl) (fun u_247 H locs e_247 hP hD hS => ?_)
                      generalize hq_247 : upd n_244 16 (nI (m + 1)) = v_247 at hP hD
                      generalize hi_247 : upd (upd it (2 * m) (nI (32 + 17 * sd + b_216))) (2 * m + 1) (nI b_244) = it_247 at hP hD
                      have g8_247 : v_247 8 = nI n := by rw [← hq_247]; exact g8_244
                      have g13_247 : ¬ v_247 13 = 0 := by rw [← hq_247]; exact g13_244
                      have gT_247 : MT v_247 y n (tE y n (tE y n p)) := by rw [← hq_247]; exact MT_up gT_244 (by omega)
                      have g16_247 : v_247 16 = nI (m + 1) := by rw [← hq_247]; exact pk_us
                      have g17_247 : v_247 17 = v 17 + 1 := by rw [← hq_247]; exact g17_244
                      have g9_247 : ∀ j, j < 9 → v_247 j = v j := fun j hj => by rw [← hq_247, pk_un (by omega)]; exact g9_244 j hj
                      have hp_247 : tE y n (tE y n p) ≤ n := hp_244
                      have hm_247 : m + 1 ≤ 122 := by omega
                      exact rtV (v_247, it_247) F hr hlk hP hS rfl (RI_bad (r := (0, tE y n (tE y n p), f)) (by rw [itF, if_neg (Int32.not_le.mpr c_16), if_neg w45, if_neg (isW_no (i := 10) (by omega) (by omega) (by omega) c_147), if_neg (isW_no (i := 10) (by omega) (by omega) (by omega) c_147), if_pos c_147, tlH_2, if_pos w208, if_neg w216] <;> simp only [evsd, show tn (nI sd) = sd from nI_clamp (by omega), i20]) rfl g8_247 g17_247 g9_247 g13_247 gT_247.1) dX6_readItem_250
                · skip
                  refine iV (rest := []) (wsp := fun _ => oM a (upd u_202 13 1) :: ai ct (a 5) 120 y :: (a 6, .inl (ct 3, 7, .inr (.inr (.inr (.inr (fun j => some (kS K j))))))) :: [ai ct (a 7) 480 it]) F (kX6_numberN l dC dI ct a u_202 y n (tE y n p) (by omega) gT_202 1 (Or.inr w208)) gX6_readItem_X6_number rfl ⟨rfl, rfl⟩ nmX6_number ⟨Nat.le_of_ble_eq_true rfl, Nat.le_of_ble_eq_true rfl⟩ eT_b (fun _ _ _ => trivial) hK hP hD hS hA 0 rfl rfl rfl [0, 1] (by decide) rfl rfl rfl hl.1 (Nat.le_of_ble_eq_true rfl) dX6_readItem_208 ⟨Nat.zero_le _, Nat.zero_le _⟩ (fun _ => rfl) (fun _ => rfl) [a 0, a 5, a 6, a 7] rfl (fun _ => rfl) (fun r_208 u_208 H locs e_208 hP hD hS => ?_)
                  obtain rfl := e_208
                  obtain ⟨b_208, hb_208, eb_208⟩ := MT_12 hp_202 gT_202
                  refine tp (y := nI b_208) eb_208 ?_
                  generalize hq_208 : upd u_202 13 1 = n_208 at hP hD
                  have g8_208 : n_208 8 = nI n := by rw [← hq_208]; exact g8_202
                  have g13_208 : ¬ n_208 13 = 0 := by rw [← hq_208, pk_us]; decide
                  have gT_208 : MT n_208 y n (tE y n p) := by rw [← hq_208]; exact MT_up gT_202 (by omega)
                  have g16_208 : n_208 16 = nI m := by rw [← hq_208]; exact g16_202
                  have g17_208 : n_208 17 = v 17 + 1 := by rw [← hq_208]; exact g17_202
                  have g9_208 : ∀ j, j < 9 → n_208 j = v j := fun j hj => by rw [← hq_208, pk_un (by omega)]; exact g9_202 j hj
                  have hm_208 : m ≤ tE y n p := hm_202
                  have hp_208 : tE y n p ≤ n := hp_202
                  refine lv_istore (lv' := [(4, .int (nI b_208)), (3, .int 12), (2, .int (if isW y n p 10 then 1 else 0)), (1, .int (wkF y n p)), (0, .ref (a 0))]) F.1 F.2.1 dX6_readItem_211 hl (by decide) rfl (fun ls hl => ?_)
                  refine lv_aload_n F.1 F.2.1 dX6_readItem_213 rfl (lv_at hl 4 rfl) ?_
                  refine lv_iconst (v := 0) F.1 F.2.1 dX6_readItem_214 (by decide) ?_
                  refine lv_iconst (v := 4) F.1 F.2.1 dX6_readItem_215 (by decide) ?_
                  refine iV (rest := []) (wsp := fun _ => oM a (upd n_208 13 1) :: ai ct (a 5) 120 y :: (a 6, .inl (ct 3, 7, .inr (.inr (.inr (.inr (fun j => some (kS K j))))))) :: [ai ct (a 7) 480 it]) F (kX6_numberN l dC dI ct a n_208 y n (tE y n p) (by omega) gT_208 4 (Or.inl g13_208)) gX6_readItem_X6_number rfl ⟨rfl, rfl⟩ nmX6_number ⟨Nat.le_of_ble_eq_true rfl, Nat.le_of_ble_eq_true rfl⟩ eT_b (fun _ _ _ => trivial) hK hP hD hS hA 0 rfl rfl rfl [0, 1] (by decide) rfl rfl rfl hl.1 (Nat.le_of_ble_eq_true rfl) dX6_readItem_216 ⟨Nat.zero_le _, Nat.zero_le _⟩ (fun _ => rfl) (fun _ => rfl) [a 0, a 5, a 6, a 7] rfl (fun _ => rfl) (fun r_216 u_216 H locs e_216 hP hD hS => ?_)
                  obtain rfl := e_216
                  obtain ⟨b_216, hb_216, eb_216⟩ := MT_12 hp_208 gT_208
                  refine tp (y := nI b_216) eb_216 ?_
                  generalize hq_216 : upd n_208 13 1 = n_216 at hP hD
                  have g8_216 : n_216 8 = nI n := by rw [← hq_216]; exact g8_208
                  have g13_216 : ¬ n_216 13 = 0 := by rw [← hq_216, pk_us]; decide
                  have gT_216 : MT n_216 y n (tE y n p) := by rw [← hq_216]; exact MT_up gT_208 (by omega)
                  have g16_216 : n_216 16 = nI m := by rw [← hq_216]; exact g16_208
                  have g17_216 : n_216 17 = v 17 + 1 := by rw [← hq_216]; exact g17_208
                  have g9_216 : ∀ j, j < 9 → n_216 j = v j := fun j hj => by rw [← hq_216, pk_un (by omega)]; exact g9_208 j hj
                  have hm_216 : m ≤ 121 := by omega
                  have hp_216 : tE y n p ≤ n := hp_208
                  refine lv_istore (lv' := [(5, .int (nI b_216)), (4, .int (nI b_208)), (3, .int 12), (2, .int (if isW y n p 10 then 1 else 0)), (1, .int (wkF y n p)), (0, .ref (a 0))]) F.1 F.2.1 dX6_readItem_219 hl (by decide) rfl (fun ls hl => ?_)
                  refine lv_aload_n F.1 F.2.1 dX6_readItem_221 rfl (lv_at hl 5 rfl) ?_
                  refine lv_iload F.1 F.2.1 dX6_readItem_222 (lv_at hl 1 rfl) ?_
                  refine lv_iload_n F.1 F.2.1 dX6_readItem_224 rfl (lv_at hl 2 rfl) ?_
                  refine lv_iload F.1 F.2.1 dX6_readItem_225 (lv_at hl 0 rfl) ?_
                  refine lv_iadd F.1 F.2.1 dX6_readItem_227 ?_
                  refine tp (y := nI (12 + b_216)) (ad2 (a := 12) (b := b_216) (c := 12 + b_216) rfl rfl rfl) ?_
                  refine iS (rest := [.ref (a 0)]) (wsp := fun _ => oM a n_216 :: ai ct (a 5) 120 y :: (a 6, .inl (ct 3, 7, .inr (.inr (.inr (.inr (fun j => some (kS K j))))))) :: [ai ct (a 7) 480 it]) F (kX6_at l dC dI ct b_208 (12 + b_216) (32 + 17 * b_208 + b_216) (by omega)) gX6_readItem_X6_at rfl ⟨rfl, rfl⟩ nmX6_at ⟨Nat.le_of_ble_eq_true rfl, Nat.le_of_ble_eq_true rfl⟩ eT_b (fun _ _ _ => trivial) hK hP hD hS hA [] (by decide) rfl rfl rfl hl.1 (Nat.le_of_ble_eq_true rfl) dX6_readItem_228 ⟨Nat.zero_le _, Nat.zero_le _⟩ (fun _ => rfl) (fun _ => rfl) [a 0, a 5, a 6, a 7] rfl (fun _ => rfl) (fun r_228 u_228 H locs e_228 hP hD hS => ?_)
                  obtain rfl := e_228
                  refine lv_aload_n F.1 F.2.1 dX6_readItem_231 rfl (lv_at hl 5 rfl) ?_
                  refine lv_iconst (v := 0) F.1 F.2.1 dX6_readItem_232 (by decide) ?_
                  refine lv_iload_n F.1 F.2.1 dX6_readItem_233 rfl (lv_at hl 3 rfl) ?_
                  refine lv_if_eq (tgt := 242) F.1 F.2.1 dX6_readItem_234 (by decide) (fun c_234 => ?_) (fun c_234 => ?_)
                  · exact absurd c_234 (by rw [if_pos c_147]; decide)
                  · have c_234 : isW y n p 10 := b01t rfl c_234
                    refine lv_bipush (v := 20) F.1 F.2.1 dX6_readItem_237 (by decide) ?_
                    refine lv_goto (tgt := 244) F.1 F.2.1 dX6_readItem_239 (by decide) ?_
                    refine iV (rest := [.int (nI (32 + 17 * b_208 + b_216)), .ref (a 0)]) (wsp := fun _ => oM a (upd n_216 13 1) :: ai ct (a 5) 120 y :: (a 6, .inl (ct 3, 7, .inr (.inr (.inr (.inr (fun j => some (kS K j))))))) :: [ai ct (a 7) 480 it]) F (kX6_numberN l dC dI ct a n_216 y n (tE y n p) (by omega) gT_216 20 (Or.inl g13_216)) gX6_readItem_X6_number rfl ⟨rfl, rfl⟩ nmX6_number ⟨Nat.le_of_ble_eq_true rfl, Nat.le_of_ble_eq_true rfl⟩ eT_b (fun _ _ _ => trivial) hK hP hD hS hA 0 rfl rfl rfl [0, 1] (by decide) rfl rfl rfl hl.1 (Nat.le_of_ble_eq_true rfl) dX6_readItem_244 ⟨Nat.zero_le _, Nat.zero_le _⟩ (fun _ => rfl) (fun _ => rfl) [a 0, a 5, a 6, a 7] rfl (fun _ => rfl) (fun r_244 u_244 H locs e_244 hP hD hS => ?_)
                    obtain rfl := e_244
                    obtain ⟨b_244, hb_244, eb_244⟩ := MT_12 hp_216 gT_216
                    refine tp (y := nI b_244) eb_244 ?_
                    generalize hq_244 : upd n_216 13 1 = n_244 at hP hD
                    have g8_244 : n_244 8 = nI n := by rw [← hq_244]; exact g8_216
                    have g13_244 : ¬ n_244 13 = 0 := by rw [← hq_244, pk_us]; decide
                    have gT_244 : MT n_244 y n (tE y n p) := by rw [← hq_244]; exact MT_up gT_216 (by omega)
                    have g16_244 : n_244 16 = nI m := by rw [← hq_244]; exact g16_216
                    have g17_244 : n_244 17 = v 17 + 1 := by rw [← hq_244]; exact g17_216
                    have g9_244 : ∀ j, j < 9 → n_244 j = v j := fun j hj => by rw [← hq_244, pk_un (by omega)]; exact g9_216 j hj
                    have hm_244 : m ≤ 121 := by omega
                    have hp_244 : tE y n p ≤ n := hp_216
                    refine vV (rest := []) (wsp := fun _ => oM a (upd n_244 16 (nI (m + 1))) :: ai ct (a 5) 120 y :: (a 6, .inl (ct 3, 7, .inr (.inr (.inr (.inr (fun j => some (kS K j))))))) :: [ai ct (a 7) 480 (upd (upd it (2 * m) (nI (32 + 17 * b_208 + b_216))) (2 * m + 1) (nI b_244))]) F (kX6_row l dC dI ct a n_244 it m (nI (32 + 17 * b_208 + b_216)) (nI b_244) g16_244 (by omega)) gX6_readItem_X6_row rfl ⟨rfl, rfl⟩ nmX6_row ⟨Nat.le_of_ble_eq_true rfl, Nat.le_of_ble_eq_true rfl⟩ eT_b (fun _ _ _ => trivial) hK hP hD hS hA 0 rfl rfl rfl [0, 3] (by decide) rfl rfl rfl hl.1 (Nat.le_of_ble_eq_true rfl) dX6_readItem_247 ⟨Nat.zero_le _, Nat.zero_le _⟩ (fun _ => rfl) (fun _ => rfl) [a 0, a 5, a 6, a 7] rfl (fun _ => rfl) (fun u_247 H locs e_247 hP hD hS => ?_)
                    generalize hq_247 : upd n_244 16 (nI (m + 1)) = v_247 at hP hD
                    generalize hi_247 : upd (upd it (2 * m) (nI (32 + 17 * b_208 + b_216))) (2 * m + 1) (nI b_244) = it_247 at hP hD
                    have g8_247 : v_247 8 = nI n := by rw [← hq_247]; exact g8_244
                    have g13_247 : ¬ v_247 13 = 0 := by rw [← hq_247]; exact g13_244
                    have gT_247 : MT v_247 y n (tE y n p) := by rw [← hq_247]; exact MT_up gT_244 (by omega)
                    have g16_247 : v_247 16 = nI (m + 1) := by rw [← hq_247]; exact pk_us
                    have g17_247 : v_247 17 = v 17 + 1 := by rw [← hq_247]; exact g17_244
                    have g9_247 : ∀ j, j < 9 → v_247 j = v j := fun j hj => by rw [← hq_247, pk_un (by omega)]; exact g9_244 j hj
                    have hp_247 : tE y n p ≤ n := hp_244
                    have hm_247 : m + 1 ≤ 122 := by omega
                    exact rtV (v_247, it_247) F hr hlk hP hS rfl (RI_bad (r := (0, tE y n p, f)) (by rw [itF, if_neg (Int32.not_le.mpr c_16), if_neg w45, if_neg (isW_no (i := 10) (by omega) (by omega) (by omega) c_147), if_neg (isW_no (i := 10) (by omega) (by omega) (by omega) c_147), if_pos c_147, tlH_2, if_neg w208]) rfl g8_247 g17_247 g9_247 g13_247 gT_247.1) dX6_readItem_250
              · exact absurd c_174 (by rw [if_pos c_147]; decide)
          · exact absurd rfl c_120
      · exact absurd rfl c_48
  · refine lv_aload_n F.1 F.2.1 dX6_readItem_19 rfl (lv_at hl 1 rfl) ?_
    refine lv_iconst (v := 1) F.1 F.2.1 dX6_readItem_20 (by decide) ?_
    refine vV (rest := []) (wsp := fun u_21 => oM a u_21 :: ai ct (a 5) 120 y :: (a 6, .inl (ct 3, 7, .inr (.inr (.inr (.inr (fun j => some (kS K j))))))) :: [ai ct (a 7) 480 it]) F (kX6_mustY l dC dI ct a v0 y n p g8_0 hn hp_0 hy gT_0 g13_0) gX6_readItem_X6_must rfl ⟨rfl, rfl⟩ nmX6_must ⟨Nat.le_of_ble_eq_true rfl, Nat.le_of_ble_eq_true rfl⟩ eT_b (fun _ _ _ => trivial) hK hP hD hS hA 0 rfl rfl rfl [0, 1] (by decide) rfl rfl rfl hl.1 (Nat.le_of_ble_eq_true rfl) dX6_readItem_21 ⟨Nat.zero_le _, Nat.zero_le _⟩ (fun _ => rfl) (fun _ => rfl) [a 0, a 5, a 6, a 7] rfl (fun _ => rfl) (fun u_21 H locs e_21 hP hD hS => ?_)
    have hlt_21 : p < tE y n p := wk_lt hp_0 (Int32.not_lt.mp c_16)
    have hp_21 : tE y n p ≤ n := tE_n hp_0
    have g8_21 := (e_21.2 8 (Or.inl (by omega))).trans g8_0
    have g13_21 := (e_21.2 13 (Or.inr (by omega))).trans g13_0
    have gT_21 := e_21.1
    have g16_21 := (e_21.2 16 (Or.inr (by omega))).trans g16_0
    have g17_21 := (e_21.2 17 (Or.inr (by omega))).trans g17_0
    have g9_21 : ∀ j, j < 9 → u_21 j = v j := fun j hj => (e_21.2 j (Or.inl hj)).trans (g9_0 j hj)
    have hm_21 : m ≤ tE y n p := by omega
    refine lv_aload_n F.1 F.2.1 dX6_readItem_24 rfl (lv_at hl 1 rfl) ?_
    refine lv_bipush (v := 15) F.1 F.2.1 dX6_readItem_25 (by decide) ?_
    refine lv_aload_n F.1 F.2.1 dX6_readItem_27 rfl (lv_at hl 1 rfl) ?_
    refine lv_iconst (v := 0) F.1 F.2.1 dX6_readItem_28 (by decide) ?_
    refine lv_iconst (v := 4) F.1 F.2.1 dX6_readItem_29 (by decide) ?_
    by_cases w30 : nuP y n (tE y n p) 4
    · skip
      refine iV (rest := [.int 15, .ref (a 0)]) (wsp := fun u_30 => oM a u_30 :: ai ct (a 5) 120 y :: (a 6, .inl (ct 3, 7, .inr (.inr (.inr (.inr (fun j => some (kS K j))))))) :: [ai ct (a 7) 480 it]) F (kX6_numberY l dC dI ct a u_21 y n (tE y n p) g8_21 hn hp_21 hy gT_21 4 g13_21 w30) gX6_readItem_X6_number rfl ⟨rfl, rfl⟩ nmX6_number ⟨Nat.le_of_ble_eq_true rfl, Nat.le_of_ble_eq_true rfl⟩ eT_b (fun _ _ _ => trivial) hK hP hD hS hA 0 rfl rfl rfl [0, 1] (by decide) rfl rfl rfl hl.1 (Nat.le_of_ble_eq_true rfl) dX6_readItem_30 ⟨Nat.zero_le _, Nat.zero_le _⟩ (fun _ => rfl) (fun _ => rfl) [a 0, a 5, a 6, a 7] rfl (fun _ => rfl) (fun r_30 u_30 H locs e_30 hP hD hS => ?_)
      obtain ⟨a_30, E_30⟩ := e_30
      obtain ⟨w, hvw, evw⟩ := nu_n (M := 4) hp_21 w30 (by omega)
      refine tp (y := nI w) (a_30.trans evw) ?_
      have hlt_30 : tE y n p < tE y n (tE y n p) := nuP_lt hp_21 w30
      have hp_30 : tE y n (tE y n p) ≤ n := tE_n hp_21
      have g8_30 := (E_30.2 8 (Or.inl (by omega))).trans g8_21
      have g13_30 := (E_30.2 13 (Or.inr (by omega))).trans g13_21
      have gT_30 := E_30.1
      have g16_30 := (E_30.2 16 (Or.inr (by omega))).trans g16_21
      have g17_30 := (E_30.2 17 (Or.inr (by omega))).trans g17_21
      have g9_30 : ∀ j, j < 9 → u_30 j = v j := fun j hj => (E_30.2 j (Or.inl hj)).trans (g9_21 j hj)
      have hm_30 : m ≤ tE y n (tE y n p) := by omega
      refine lv_iadd F.1 F.2.1 dX6_readItem_33 ?_
      refine tp (y := nI (15 + w)) (ad2 (a := 15) (b := w) (c := 15 + w) rfl rfl rfl) ?_
      refine lv_iload_n F.1 F.2.1 dX6_readItem_34 rfl (lv_at hl 0 rfl) ?_
      refine vV (rest := []) (wsp := fun _ => oM a (upd u_30 16 (nI (m + 1))) :: ai ct (a 5) 120 y :: (a 6, .inl (ct 3, 7, .inr (.inr (.inr (.inr (fun j => some (kS K j))))))) :: [ai ct (a 7) 480 (upd (upd it (2 * m) (nI (15 + w))) (2 * m + 1) (wkF y n p))]) F (kX6_row l dC dI ct a u_30 it m (nI (15 + w)) (wkF y n p) g16_30 (by omega)) gX6_readItem_X6_row rfl ⟨rfl, rfl⟩ nmX6_row ⟨Nat.le_of_ble_eq_true rfl, Nat.le_of_ble_eq_true rfl⟩ eT_b (fun _ _ _ => trivial) hK hP hD hS hA 0 rfl rfl rfl [0, 3] (by decide) rfl rfl rfl hl.1 (Nat.le_of_ble_eq_true rfl) dX6_readItem_35 ⟨Nat.zero_le _, Nat.zero_le _⟩ (fun _ => rfl) (fun _ => rfl) [a 0, a 5, a 6, a 7] rfl (fun _ => rfl) (fun u_35 H locs e_35 hP hD hS => ?_)
      generalize hq_35 : upd u_30 16 (nI (m + 1)) = v_35 at hP hD
      generalize hi_35 : upd (upd it (2 * m) (nI (15 + w))) (2 * m + 1) (wkF y n p) = it_35 at hP hD
      have g8_35 : v_35 8 = nI n := by rw [← hq_35]; exact g8_30
      have g13_35 : v_35 13 = 0 := by rw [← hq_35]; exact g13_30
      have gT_35 : MT v_35 y n (tE y n (tE y n p)) := by rw [← hq_35]; exact MT_up gT_30 (by omega)
      have g16_35 : v_35 16 = nI (m + 1) := by rw [← hq_35]; exact pk_us
      have g17_35 : v_35 17 = v 17 + 1 := by rw [← hq_35]; exact g17_30
      have g9_35 : ∀ j, j < 9 → v_35 j = v j := fun j hj => by rw [← hq_35, pk_un (by omega)]; exact g9_30 j hj
      have hp_35 : tE y n (tE y n p) ≤ n := hp_30
      have hm_35 : m + 1 ≤ tE y n (tE y n p) := by omega
      have gap_35 : apU it_35 (m + 1) f0 = upd f (15 + w) (wkF y n p) := by rw [← hi_35, apU_S f0 (by omega), hap]
      have gro_35 : RwO it_35 (m + 1) := by rw [← hi_35]; exact RwO_S hro (by omega)
      refine lv_goto (tgt := 250) F.1 F.2.1 dX6_readItem_38 (by decide) ?_
      exact rtV (v_35, it_35) F hr hlk hP hS rfl (RI_ok (r := (1, tE y n (tE y n p), upd f (15 + w) (wkF y n p))) (m + 1) (by rw [itF, if_pos (Int32.not_lt.mp c_16), tlK, if_pos w30] <;> simp only [evw, show tn (nI w) = w from nI_clamp (by omega), i20]) rfl g8_35 g17_35 g9_35 g13_35 gT_35 g16_35 hm_35 gap_35 gro_35) dX6_readItem_250
    · skip
      refine iV (rest := [.int 15, .ref (a 0)]) (wsp := fun _ => oM a (upd u_21 13 1) :: ai ct (a 5) 120 y :: (a 6, .inl (ct 3, 7, .inr (.inr (.inr (.inr (fun j => some (kS K j))))))) :: [ai ct (a 7) 480 it]) F (kX6_numberN l dC dI ct a u_21 y n (tE y n p) (by omega) gT_21 4 (Or.inr w30)) gX6_readItem_X6_number rfl ⟨rfl, rfl⟩ nmX6_number ⟨Nat.le_of_ble_eq_true rfl, Nat.le_of_ble_eq_true rfl⟩ eT_b (fun _ _ _ => trivial) hK hP hD hS hA 0 rfl rfl rfl [0, 1] (by decide) rfl rfl rfl hl.1 (Nat.le_of_ble_eq_true rfl) dX6_readItem_30 ⟨Nat.zero_le _, Nat.zero_le _⟩ (fun _ => rfl) (fun _ => rfl) [a 0, a 5, a 6, a 7] rfl (fun _ => rfl) (fun r_30 u_30 H locs e_30 hP hD hS => ?_)
      obtain rfl := e_30
      obtain ⟨b_30, hb_30, eb_30⟩ := MT_12 hp_21 gT_21
      refine tp (y := nI b_30) eb_30 ?_
      generalize hq_30 : upd u_21 13 1 = n_30 at hP hD
      have g8_30 : n_30 8 = nI n := by rw [← hq_30]; exact g8_21
      have g13_30 : ¬ n_30 13 = 0 := by rw [← hq_30, pk_us]; decide
      have gT_30 : MT n_30 y n (tE y n p) := by rw [← hq_30]; exact MT_up gT_21 (by omega)
      have g16_30 : n_30 16 = nI m := by rw [← hq_30]; exact g16_21
      have g17_30 : n_30 17 = v 17 + 1 := by rw [← hq_30]; exact g17_21
      have g9_30 : ∀ j, j < 9 → n_30 j = v j := fun j hj => by rw [← hq_30, pk_un (by omega)]; exact g9_21 j hj
      have hm_30 : m ≤ tE y n p := hm_21
      have hp_30 : tE y n p ≤ n := hp_21
      refine lv_iadd F.1 F.2.1 dX6_readItem_33 ?_
      refine tp (y := nI (15 + b_30)) (ad2 (a := 15) (b := b_30) (c := 15 + b_30) rfl rfl rfl) ?_
      refine lv_iload_n F.1 F.2.1 dX6_readItem_34 rfl (lv_at hl 0 rfl) ?_
      refine vV (rest := []) (wsp := fun _ => oM a (upd n_30 16 (nI (m + 1))) :: ai ct (a 5) 120 y :: (a 6, .inl (ct 3, 7, .inr (.inr (.inr (.inr (fun j => some (kS K j))))))) :: [ai ct (a 7) 480 (upd (upd it (2 * m) (nI (15 + b_30))) (2 * m + 1) (wkF y n p))]) F (kX6_row l dC dI ct a n_30 it m (nI (15 + b_30)) (wkF y n p) g16_30 (by omega)) gX6_readItem_X6_row rfl ⟨rfl, rfl⟩ nmX6_row ⟨Nat.le_of_ble_eq_true rfl, Nat.le_of_ble_eq_true rfl⟩ eT_b (fun _ _ _ => trivial) hK hP hD hS hA 0 rfl rfl rfl [0, 3] (by decide) rfl rfl rfl hl.1 (Nat.le_of_ble_eq_true rfl) dX6_readItem_35 ⟨Nat.zero_le _, Nat.zero_le _⟩ (fun _ => rfl) (fun _ => rfl) [a 0, a 5, a 6, a 7] rfl (fun _ => rfl) (fun u_35 H locs e_35 hP hD hS => ?_)
      generalize hq_35 : upd n_30 16 (nI (m + 1)) = v_35 at hP hD
      generalize hi_35 : upd (upd it (2 * m) (nI (15 + b_30))) (2 * m + 1) (wkF y n p) = it_35 at hP hD
      have g8_35 : v_35 8 = nI n := by rw [← hq_35]; exact g8_30
      have g13_35 : ¬ v_35 13 = 0 := by rw [← hq_35]; exact g13_30
      have gT_35 : MT v_35 y n (tE y n p) := by rw [← hq_35]; exact MT_up gT_30 (by omega)
      have g16_35 : v_35 16 = nI (m + 1) := by rw [← hq_35]; exact pk_us
      have g17_35 : v_35 17 = v 17 + 1 := by rw [← hq_35]; exact g17_30
      have g9_35 : ∀ j, j < 9 → v_35 j = v j := fun j hj => by rw [← hq_35, pk_un (by omega)]; exact g9_30 j hj
      have hp_35 : tE y n p ≤ n := hp_30
      have hm_35 : m + 1 ≤ 122 := by omega
      refine lv_goto (tgt := 250) F.1 F.2.1 dX6_readItem_38 (by decide) ?_
      exact rtV (v_35, it_35) F hr hlk hP hS rfl (RI_bad (r := (0, tE y n p, f)) (by rw [itF, if_pos (Int32.not_lt.mp c_16), tlK, if_neg w30]) rfl g8_35 g17_35 g9_35 g13_35 gT_35.1) dX6_readItem_250
