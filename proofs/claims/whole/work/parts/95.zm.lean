def rmX2_tellStock : Room := { frames := 4, cells := 0, slots := 0, locals := 83 }
theorem nmX2_tellStock : NmV yX2_tellStock RX2 2 := by unfold NmV; decide +kernel
set_option maxHeartbeats 4000000 in
set_option maxRecDepth 100000 in
theorem kX2_tellStock (l : Launch) (dC : Nat → ClassId) (dI : Nat → Nat → Nat) (ct : Nat → ClassId) (K : Nat → Nat) (sc ty : Nat) (e : Nat → Nat) (y f : Nat → Int32) (n : Nat) (t4 : Int32) (p : Nat) (hn : n ≤ 120) (hp : p ≤ n) (w : Int32) : MI (S := Nat × Int32 × (Nat → Int32)) l yX2_tellStock wsX2_tellStock rmX2_tellStock dC dI ct (EQ K ct rfS [sc, ty, e 0, e 1, e 2, e 3, e 4, e 5, e 6]) [.ref sc, .ref (e 0), .int w] ((sc, .inr (2, [.ref ty, .int (nI n), .int (nI (tK y n p)), .int (nI (tB y n p)), .int (nI (tE y n p)), .int (tW y n p t4)])) :: ai ct ty 120 y :: wB ct e f) (fun u => (sc, .inr (2, [.ref ty, .int (nI n), .int (nI (tK y n u.1)), .int (nI (tB y n u.1)), .int (nI (tE y n u.1)), .int (tW y n u.1 u.2.1)])) :: ai ct ty 120 y :: wB ct e u.2.2) (fun r u => (r, u.1, u.2.2) = tlH y n f p w) := by
  refine MI.ofz (cc := cX2_tellStock) (maxL := 6) (ret := (some .boolean)) (by decide) rfl (Nat.le_of_ble_eq_true rfl) ?_
  intro pg en z mi below meth cd A F hr hlk hin hK hP hD hA hS hAz hE ls hl
  have hz := EQ_z (pre := (sc, .inr (2, [.ref ty, .int (nI n), .int (nI (tK y n p)), .int (nI (tB y n p)), .int (nI (tE y n p)), .int (tW y n p t4)])) :: ai ct ty 120 y :: wB ct e f) (show EQ K ct rfS (List.map Prod.fst ((sc, .inr (2, [.ref ty, .int (nI n), .int (nI (tK y n p)), .int (nI (tB y n p)), .int (nI (tE y n p)), .int (tW y n p t4)])) :: ai ct ty 120 y :: wB ct e f)) z from hE) hAz
  have F : CallFix pg mi cd cX2_tellStock 6 z _ wsX2_tellStock RX2 := F
  have hl : lv_has ls 6 [(0, .ref sc), (1, .ref (e 0)), (2, .int w)] := hl
  refine lv_aload_n F.1 F.2.1 dX2_tellStock_0 rfl (lv_at hl 0 rfl) ?_
  refine lv_iconst (v := 1) F.1 F.2.1 dX2_tellStock_1 (by decide) ?_
  refine iV (rest := []) (wsp := fun u_2 => (sc, .inr (2, [.ref ty, .int (nI n), .int (nI (tK y n u_2.1)), .int (nI (tB y n u_2.1)), .int (nI (tE y n u_2.1)), .int (tW y n u_2.1 u_2.2)])) :: ai ct ty 120 y :: wB ct e f) F (kX2_takeNumber l dC dI ct sc ty y n t4 p hn (by omega) 1) gX2_tellStock_X2_takeNumber rfl ⟨rfl, rfl⟩ nmX2_takeNumber ⟨Nat.le_of_ble_eq_true rfl, Nat.le_of_ble_eq_true rfl⟩ eT_b (fun _ _ _ => trivial) hK hP hD hS hA 0 rfl rfl rfl [0, 1] (by decide) rfl rfl rfl hl.1 (Nat.le_of_ble_eq_true rfl) dX2_tellStock_2 ⟨Nat.zero_le _, Nat.zero_le _⟩ (fun _ => rfl) (fun _ => rfl) [sc, ty, e 0, e 1, e 2, e 3, e 4, e 5, e 6] rfl (fun _ => rfl) (fun r_2 u_2 H locs e_2 hP hD hS => ?_)
  obtain ⟨p_2, t_2⟩ := u_2
  obtain ⟨a_2, b_2⟩ := e_2
  dsimp only at hP hD b_2
  by_cases w2 : nuP y n p 1
  · skip
    have b_2 := (b_2.trans (if_pos w2)).symm
    subst b_2
    obtain ⟨v, hvv, evv⟩ := nu_n (M := 1) hp w2 (by omega)
    have hp_2 : tE y n p ≤ n := (tE_le (y := y) hp).2.2.1
    refine tp (y := nI v) (a_2.trans ((if_pos w2).trans evv)) ?_
    refine lv_istore_n (lv' := [(3, .int (nI v)), (0, .ref sc), (1, .ref (e 0)), (2, .int w)]) F.1 F.2.1 dX2_tellStock_5 rfl hl (by decide) rfl (fun ls hl => ?_)
    refine lv_iload_n F.1 F.2.1 dX2_tellStock_6 rfl (lv_at hl 0 rfl) ?_
    refine lv_if_ge (tgt := 14) F.1 F.2.1 dX2_tellStock_7 (by decide) (fun c_7 => ?_) (fun c_7 => ?_)
    · refine lv_aload_n F.1 F.2.1 dX2_tellStock_14 rfl (lv_at hl 1 rfl) ?_
      refine lv_iconst (v := 4) F.1 F.2.1 dX2_tellStock_15 (by decide) ?_
      refine iV (rest := []) (wsp := fun u_16 => (sc, .inr (2, [.ref ty, .int (nI n), .int (nI (tK y n u_16.1)), .int (nI (tB y n u_16.1)), .int (nI (tE y n u_16.1)), .int (tW y n u_16.1 u_16.2)])) :: ai ct ty 120 y :: wB ct e f) F (kX2_takeNumber l dC dI ct sc ty y n t_2 (tE y n p) hn (by omega) 4) gX2_tellStock_X2_takeNumber rfl ⟨rfl, rfl⟩ nmX2_takeNumber ⟨Nat.le_of_ble_eq_true rfl, Nat.le_of_ble_eq_true rfl⟩ eT_b (fun _ _ _ => trivial) hK hP hD hS hA 0 rfl rfl rfl [0, 1] (by decide) rfl rfl rfl hl.1 (Nat.le_of_ble_eq_true rfl) dX2_tellStock_16 ⟨Nat.zero_le _, Nat.zero_le _⟩ (fun _ => rfl) (fun _ => rfl) [sc, ty, e 0, e 1, e 2, e 3, e 4, e 5, e 6] rfl (fun _ => rfl) (fun r_16 u_16 H locs e_16 hP hD hS => ?_)
      obtain ⟨p_16, t_16⟩ := u_16
      obtain ⟨a_16, b_16⟩ := e_16
      dsimp only at hP hD b_16
      by_cases w16 : nuP y n (tE y n p) 4
      · skip
        have b_16 := (b_16.trans (if_pos w16)).symm
        subst b_16
        obtain ⟨v1, hvv1, evv1⟩ := nu_n (M := 4) hp_2 w16 (by omega)
        have hp_16 : tE y n (tE y n p) ≤ n := (tE_le (y := y) hp_2).2.2.1
        refine tp (y := nI v1) (a_16.trans ((if_pos w16).trans evv1)) ?_
        refine lv_istore (lv' := [(4, .int (nI v1)), (3, .int (nI v)), (0, .ref sc), (1, .ref (e 0)), (2, .int w)]) F.1 F.2.1 dX2_tellStock_19 hl (by decide) rfl (fun ls hl => ?_)
        refine lv_iload F.1 F.2.1 dX2_tellStock_21 (lv_at hl 0 rfl) ?_
        refine lv_if_ge (tgt := 30) F.1 F.2.1 dX2_tellStock_23 (by decide) (fun c_23 => ?_) (fun c_23 => ?_)
        · refine lv_aload_n F.1 F.2.1 dX2_tellStock_30 rfl (lv_at hl 2 rfl) ?_
          refine lv_iload_n F.1 F.2.1 dX2_tellStock_31 rfl (lv_at hl 4 rfl) ?_
          refine iSN (host := "HedgeHeaps") (ws := (sc, .inr (2, [.ref ty, .int (nI n), .int (nI (tK y n (tE y n (tE y n p)))), .int (nI (tB y n (tE y n (tE y n p)))), .int (nI (tE y n (tE y n (tE y n p)))), .int (tW y n (tE y n (tE y n p)) t_16)])) :: ai ct ty 120 y :: wB ct e f) (rest := [.ref sc]) F (kX5_mostOf l dC dI ct w) gX2_tellStock_X5_mostOf_n133 rfl ⟨rfl, rfl⟩ hE.2.2.2.2.2.2.2.2 (List.mem_of_getElem? (i := 37) (by decide +kernel)) (List.mem_of_getElem? (i := 36) (by decide +kernel)) nmX5_mostOf ⟨Nat.le_of_ble_eq_true rfl, Nat.le_of_ble_eq_true rfl⟩ hK hP hD hS hA rfl rfl hl.1 (Nat.le_of_ble_eq_true rfl) dX2_tellStock_32 ⟨Nat.zero_le _, Nat.zero_le _⟩ [sc, ty, e 0, e 1, e 2, e 3, e 4, e 5, e 6] rfl (fun r_32 H locs e_32 hP hD hS => ?_)
          obtain rfl := e_32
          refine iV (rest := []) (wsp := fun u_35 => (sc, .inr (2, [.ref ty, .int (nI n), .int (nI (tK y n u_35.1)), .int (nI (tB y n u_35.1)), .int (nI (tE y n u_35.1)), .int (tW y n u_35.1 u_35.2)])) :: ai ct ty 120 y :: wB ct e f) F (kX2_takeNumber l dC dI ct sc ty y n t_16 (tE y n (tE y n p)) hn (by omega) (if w = 2 then 20 else 99)) gX2_tellStock_X2_takeNumber rfl ⟨rfl, rfl⟩ nmX2_takeNumber ⟨Nat.le_of_ble_eq_true rfl, Nat.le_of_ble_eq_true rfl⟩ eT_b (fun _ _ _ => trivial) hK hP hD hS hA 0 rfl rfl rfl [0, 1] (by decide) rfl rfl rfl hl.1 (Nat.le_of_ble_eq_true rfl) dX2_tellStock_35 ⟨Nat.zero_le _, Nat.zero_le _⟩ (fun _ => rfl) (fun _ => rfl) [sc, ty, e 0, e 1, e 2, e 3, e 4, e 5, e 6] rfl (fun _ => rfl) (fun r_35 u_35 H locs e_35 hP hD hS => ?_)
          obtain ⟨p_35, t_35⟩ := u_35
          obtain ⟨a_35, b_35⟩ := e_35
          dsimp only at hP hD b_35
          by_cases w35 : nuP y n (tE y n (tE y n p)) (if w = 2 then 20 else 99)
          · skip
            have b_35 := (b_35.trans (if_pos w35)).symm
            subst b_35
            obtain ⟨v2, hvv2, evv2⟩ := nu_w hp_16 w35
            have hp_35 : tE y n (tE y n (tE y n p)) ≤ n := (tE_le (y := y) hp_16).2.2.1
            refine tp (y := nI v2) (a_35.trans ((if_pos w35).trans evv2)) ?_
            refine lv_istore (lv' := [(5, .int (nI v2)), (4, .int (nI v1)), (3, .int (nI v)), (0, .ref sc), (1, .ref (e 0)), (2, .int w)]) F.1 F.2.1 dX2_tellStock_38 hl (by decide) rfl (fun ls hl => ?_)
            refine lv_iload F.1 F.2.1 dX2_tellStock_40 (lv_at hl 0 rfl) ?_
            refine lv_if_ge (tgt := 47) F.1 F.2.1 dX2_tellStock_42 (by decide) (fun c_42 => ?_) (fun c_42 => ?_)
            · refine lv_aload_n F.1 F.2.1 dX2_tellStock_47 rfl (lv_at hl 4 rfl) ?_
              refine lv_iload_n F.1 F.2.1 dX2_tellStock_48 rfl (lv_at hl 5 rfl) ?_
              refine rV (rest := []) (wsp := fun _ => (sc, .inr (2, [.ref ty, .int (nI n), .int (nI (tK y n (tE y n (tE y n (tE y n p))))), .int (nI (tB y n (tE y n (tE y n (tE y n p))))), .int (nI (tE y n (tE y n (tE y n (tE y n p))))), .int (tW y n (tE y n (tE y n (tE y n p))) t_35)])) :: ai ct ty 120 y :: wB ct e f) F (kX1_stock l dC dI ct e f w) gX2_tellStock_X1_stock rfl ⟨rfl, rfl⟩ nmX1_stock ⟨Nat.le_of_ble_eq_true rfl, Nat.le_of_ble_eq_true rfl⟩ eT_b (fun _ _ _ => trivial) hK hP hD hS hA 2 rfl rfl rfl [2, 3, 4, 5, 6, 7, 8] (by decide) rfl rfl rfl hl.1 (Nat.le_of_ble_eq_true rfl) dX2_tellStock_49 ⟨Nat.zero_le _, Nat.zero_le _⟩ (fun _ => rfl) (fun _ => rfl) [sc, ty, e 0, e 1, e 2, e 3, e 4, e 5, e 6] rfl (fun _ => rfl) (fun r_49 u_49 H locs e_49 hP hD hS => ?_)
              by_cases w0 : w = 0
              · obtain rfl := e_49.trans (if_pos w0)
                refine lv_iload_n F.1 F.2.1 dX2_tellStock_52 rfl (lv_at hl 2 rfl) ?_
                refine lv_iconst (v := 5) F.1 F.2.1 dX2_tellStock_53 (by decide) ?_
                refine lv_imul F.1 F.2.1 dX2_tellStock_54 ?_
                refine tp (y := nI (v * 5)) (ml2 (a := v) (b := 5) (c := v * 5) rfl rfl rfl) ?_
                refine lv_iload F.1 F.2.1 dX2_tellStock_55 (lv_at hl 1 rfl) ?_
                refine lv_iadd F.1 F.2.1 dX2_tellStock_57 ?_
                refine tp (y := nI (v * 5 + v1)) (ad2 (a := v * 5) (b := v1) (c := v * 5 + v1) rfl rfl rfl) ?_
                refine lv_iload F.1 F.2.1 dX2_tellStock_58 (lv_at hl 0 rfl) ?_
                refine ast (ws' := (sc, .inr (2, [.ref ty, .int (nI n), .int (nI (tK y n (tE y n (tE y n (tE y n p))))), .int (nI (tB y n (tE y n (tE y n (tE y n p))))), .int (nI (tE y n (tE y n (tE y n (tE y n p))))), .int (tW y n (tE y n (tE y n (tE y n p))) t_35)])) :: ai ct ty 120 y :: wB ct e (upd f (22 + 17 * v + v1) (nI v2))) F hK hP hD hS 4 0 rfl rfl (v * 5 + v1) rfl (by omega) (by decide) dX2_tellStock_60 (weq.c (weq.c (wq_home ct e f (by omega) (by omega)))) (fun H locs hP hD hS => ?_)
                refine lv_iconst (v := 1) F.1 F.2.1 dX2_tellStock_61 (by decide) ?_
                exact rtZ (tE y n (tE y n (tE y n p)), t_35, (upd f (22 + 17 * v + v1) (nI v2))) F hr hlk hP hS rfl (by rw [tlH, if_pos w2, if_pos w16, if_pos w35] <;> simp only [fldE (fld_0 w0), evv, show tn (nI v) = v from nI_clamp (by omega), evv1, show tn (nI v1) = v1 from nI_clamp (by omega), evv2, show tn (nI v2) = v2 from nI_clamp (by omega)]) (Or.inr rfl) dX2_tellStock_62
              by_cases w1 : w = 1
              · obtain rfl := e_49.trans ((if_neg w0).trans (if_pos w1))
                refine lv_iload_n F.1 F.2.1 dX2_tellStock_52 rfl (lv_at hl 2 rfl) ?_
                refine lv_iconst (v := 5) F.1 F.2.1 dX2_tellStock_53 (by decide) ?_
                refine lv_imul F.1 F.2.1 dX2_tellStock_54 ?_
                refine tp (y := nI (v * 5)) (ml2 (a := v) (b := 5) (c := v * 5) rfl rfl rfl) ?_
                refine lv_iload F.1 F.2.1 dX2_tellStock_55 (lv_at hl 1 rfl) ?_
                refine lv_iadd F.1 F.2.1 dX2_tellStock_57 ?_
                refine tp (y := nI (v * 5 + v1)) (ad2 (a := v * 5) (b := v1) (c := v * 5 + v1) rfl rfl rfl) ?_
                refine lv_iload F.1 F.2.1 dX2_tellStock_58 (lv_at hl 0 rfl) ?_
                refine ast (ws' := (sc, .inr (2, [.ref ty, .int (nI n), .int (nI (tK y n (tE y n (tE y n (tE y n p))))), .int (nI (tB y n (tE y n (tE y n (tE y n p))))), .int (nI (tE y n (tE y n (tE y n (tE y n p))))), .int (tW y n (tE y n (tE y n (tE y n p))) t_35)])) :: ai ct ty 120 y :: wB ct e (upd f (27 + 17 * v + v1) (nI v2))) F hK hP hD hS 5 0 rfl rfl (v * 5 + v1) rfl (by omega) (by decide) dX2_tellStock_60 (weq.c (weq.c (wq_heap ct e f (by omega) (by omega)))) (fun H locs hP hD hS => ?_)
                refine lv_iconst (v := 1) F.1 F.2.1 dX2_tellStock_61 (by decide) ?_
                exact rtZ (tE y n (tE y n (tE y n p)), t_35, (upd f (27 + 17 * v + v1) (nI v2))) F hr hlk hP hS rfl (by rw [tlH, if_pos w2, if_pos w16, if_pos w35] <;> simp only [fldE (fld_1 w1), evv, show tn (nI v) = v from nI_clamp (by omega), evv1, show tn (nI v1) = v1 from nI_clamp (by omega), evv2, show tn (nI v2) = v2 from nI_clamp (by omega)]) (Or.inr rfl) dX2_tellStock_62
              obtain rfl := e_49.trans ((if_neg w0).trans (if_neg w1))
              refine lv_iload_n F.1 F.2.1 dX2_tellStock_52 rfl (lv_at hl 2 rfl) ?_
              refine lv_iconst (v := 5) F.1 F.2.1 dX2_tellStock_53 (by decide) ?_
              refine lv_imul F.1 F.2.1 dX2_tellStock_54 ?_
              refine tp (y := nI (v * 5)) (ml2 (a := v) (b := 5) (c := v * 5) rfl rfl rfl) ?_
              refine lv_iload F.1 F.2.1 dX2_tellStock_55 (lv_at hl 1 rfl) ?_
              refine lv_iadd F.1 F.2.1 dX2_tellStock_57 ?_
              refine tp (y := nI (v * 5 + v1)) (ad2 (a := v * 5) (b := v1) (c := v * 5 + v1) rfl rfl rfl) ?_
              refine lv_iload F.1 F.2.1 dX2_tellStock_58 (lv_at hl 0 rfl) ?_
              refine ast (ws' := (sc, .inr (2, [.ref ty, .int (nI n), .int (nI (tK y n (tE y n (tE y n (tE y n p))))), .int (nI (tB y n (tE y n (tE y n (tE y n p))))), .int (nI (tE y n (tE y n (tE y n (tE y n p))))), .int (tW y n (tE y n (tE y n (tE y n p))) t_35)])) :: ai ct ty 120 y :: wB ct e (upd f (32 + 17 * v + v1) (nI v2))) F hK hP hD hS 6 0 rfl rfl (v * 5 + v1) rfl (by omega) (by decide) dX2_tellStock_60 (weq.c (weq.c (wq_worth ct e f (by omega) (by omega)))) (fun H locs hP hD hS => ?_)
              refine lv_iconst (v := 1) F.1 F.2.1 dX2_tellStock_61 (by decide) ?_
              exact rtZ (tE y n (tE y n (tE y n p)), t_35, (upd f (32 + 17 * v + v1) (nI v2))) F hr hlk hP hS rfl (by rw [tlH, if_pos w2, if_pos w16, if_pos w35] <;> simp only [fldE (fld_2 w0 w1), evv, show tn (nI v) = v from nI_clamp (by omega), evv1, show tn (nI v1) = v1 from nI_clamp (by omega), evv2, show tn (nI v2) = v2 from nI_clamp (by omega)]) (Or.inr rfl) dX2_tellStock_62
            · exact absurd (nI_pos' (by omega)) c_42
          · skip
            have b_35 := (b_35.trans (if_neg w35)).symm
            subst b_35
            refine tp (y := -1) (a_35.trans (if_neg w35)) ?_
            refine lv_istore (lv' := [(5, .int (-1)), (4, .int (nI v1)), (3, .int (nI v)), (0, .ref sc), (1, .ref (e 0)), (2, .int w)]) F.1 F.2.1 dX2_tellStock_38 hl (by decide) rfl (fun ls hl => ?_)
            refine lv_iload F.1 F.2.1 dX2_tellStock_40 (lv_at hl 0 rfl) ?_
            refine lv_if_ge (tgt := 47) F.1 F.2.1 dX2_tellStock_42 (by decide) (fun c_42 => ?_) (fun c_42 => ?_)
            · exact absurd c_42 (by decide)
            · refine lv_iconst (v := 0) F.1 F.2.1 dX2_tellStock_45 (by decide) ?_
              exact rtZ (tE y n (tE y n p), t_35, f) F hr hlk hP hS rfl (by rw [tlH, if_pos w2, if_pos w16, if_neg w35] <;> simp only [evv, show tn (nI v) = v from nI_clamp (by omega), evv1, show tn (nI v1) = v1 from nI_clamp (by omega)]) (Or.inl rfl) dX2_tellStock_46
        · exact absurd (nI_pos' (by omega)) c_23
      · skip
        have b_16 := (b_16.trans (if_neg w16)).symm
        subst b_16
        refine tp (y := -1) (a_16.trans (if_neg w16)) ?_
        refine lv_istore (lv' := [(4, .int (-1)), (3, .int (nI v)), (0, .ref sc), (1, .ref (e 0)), (2, .int w)]) F.1 F.2.1 dX2_tellStock_19 hl (by decide) rfl (fun ls hl => ?_)
        refine lv_iload F.1 F.2.1 dX2_tellStock_21 (lv_at hl 0 rfl) ?_
        refine lv_if_ge (tgt := 30) F.1 F.2.1 dX2_tellStock_23 (by decide) (fun c_23 => ?_) (fun c_23 => ?_)
        · exact absurd c_23 (by decide)
        · refine lv_iconst (v := (-1)) F.1 F.2.1 dX2_tellStock_26 (by decide) ?_
          refine lv_goto (tgt := 38) F.1 F.2.1 dX2_tellStock_27 (by decide) ?_
          refine lv_istore (lv' := [(5, .int (-1)), (4, .int (-1)), (3, .int (nI v)), (0, .ref sc), (1, .ref (e 0)), (2, .int w)]) F.1 F.2.1 dX2_tellStock_38 hl (by decide) rfl (fun ls hl => ?_)
          refine lv_iload F.1 F.2.1 dX2_tellStock_40 (lv_at hl 0 rfl) ?_
          refine lv_if_ge (tgt := 47) F.1 F.2.1 dX2_tellStock_42 (by decide) (fun c_42 => ?_) (fun c_42 => ?_)
          · exact absurd c_42 (by decide)
          · refine lv_iconst (v := 0) F.1 F.2.1 dX2_tellStock_45 (by decide) ?_
            exact rtZ (tE y n p, t_16, f) F hr hlk hP hS rfl (by rw [tlH, if_pos w2, if_neg w16] <;> simp only [evv, show tn (nI v) = v from nI_clamp (by omega)]) (Or.inl rfl) dX2_tellStock_46
    · exact absurd (nI_pos' (by omega)) c_7
  · skip
    have b_2 := (b_2.trans (if_neg w2)).symm
    subst b_2
    refine tp (y := -1) (a_2.trans (if_neg w2)) ?_
    refine lv_istore_n (lv' := [(3, .int (-1)), (0, .ref sc), (1, .ref (e 0)), (2, .int w)]) F.1 F.2.1 dX2_tellStock_5 rfl hl (by decide) rfl (fun ls hl => ?_)
    refine lv_iload_n F.1 F.2.1 dX2_tellStock_6 rfl (lv_at hl 0 rfl) ?_
    refine lv_if_ge (tgt := 14) F.1 F.2.1 dX2_tellStock_7 (by decide) (fun c_7 => ?_) (fun c_7 => ?_)
    · exact absurd c_7 (by decide)
    · refine lv_iconst (v := (-1)) F.1 F.2.1 dX2_tellStock_10 (by decide) ?_
      refine lv_goto (tgt := 19) F.1 F.2.1 dX2_tellStock_11 (by decide) ?_
      refine lv_istore (lv' := [(4, .int (-1)), (3, .int (-1)), (0, .ref sc), (1, .ref (e 0)), (2, .int w)]) F.1 F.2.1 dX2_tellStock_19 hl (by decide) rfl (fun ls hl => ?_)
      refine lv_iload F.1 F.2.1 dX2_tellStock_21 (lv_at hl 0 rfl) ?_
      refine lv_if_ge (tgt := 30) F.1 F.2.1 dX2_tellStock_23 (by decide) (fun c_23 => ?_) (fun c_23 => ?_)
      · exact absurd c_23 (by decide)
      · refine lv_iconst (v := (-1)) F.1 F.2.1 dX2_tellStock_26 (by decide) ?_
        refine lv_goto (tgt := 38) F.1 F.2.1 dX2_tellStock_27 (by decide) ?_
        refine lv_istore (lv' := [(5, .int (-1)), (4, .int (-1)), (3, .int (-1)), (0, .ref sc), (1, .ref (e 0)), (2, .int w)]) F.1 F.2.1 dX2_tellStock_38 hl (by decide) rfl (fun ls hl => ?_)
        refine lv_iload F.1 F.2.1 dX2_tellStock_40 (lv_at hl 0 rfl) ?_
        refine lv_if_ge (tgt := 47) F.1 F.2.1 dX2_tellStock_42 (by decide) (fun c_42 => ?_) (fun c_42 => ?_)
        · exact absurd c_42 (by decide)
        · refine lv_iconst (v := 0) F.1 F.2.1 dX2_tellStock_45 (by decide) ?_
          exact rtZ (p, t_2, f) F hr hlk hP hS rfl (by rw [tlH, if_neg w2]) (Or.inl rfl) dX2_tellStock_46

def rmX2_tellItem : Room := { frames := 7, cells := 0, slots := 0, locals := 152 }
theorem nmX2_tellItem : NmV yX2_tellItem RX2 1 := by unfold NmV; decide +kernel
set_option maxHeartbeats 4000000 in
set_option maxRecDepth 100000 in
theorem kX2_tellItem (l : Launch) (dC : Nat → ClassId) (dI : Nat → Nat → Nat) (ct : Nat → ClassId) (K : Nat → Nat) (sc ty : Nat) (e : Nat → Nat) (y f : Nat → Int32) (n : Nat) (t4 : Int32) (p : Nat) (hn : n ≤ 120) (hp : p ≤ n) : MI (S := Nat × Int32 × (Nat → Int32)) l yX2_tellItem wsX2_tellItem rmX2_tellItem dC dI ct (EQ K ct rfS [sc, ty, e 0, e 1, e 2, e 3, e 4, e 5, e 6]) [.ref sc, .ref (e 0)] ((sc, .inr (2, [.ref ty, .int (nI n), .int (nI (tK y n p)), .int (nI (tB y n p)), .int (nI (tE y n p)), .int (tW y n p t4)])) :: ai ct ty 120 y :: wB ct e f) (fun u => (sc, .inr (2, [.ref ty, .int (nI n), .int (nI (tK y n u.1)), .int (nI (tB y n u.1)), .int (nI (tE y n u.1)), .int (tW y n u.1 u.2.1)])) :: ai ct ty 120 y :: wB ct e u.2.2) (fun r u => (r, u.1, u.2.2) = itF y n f p) := by
  refine MI.ofz (cc := cX2_tellItem) (maxL := 3) (ret := (some .boolean)) (by decide) rfl (Nat.le_of_ble_eq_true rfl) ?_
  intro pg en z mi below meth cd A F hr hlk hin hK hP hD hA hS hAz hE ls hl
  have hz := EQ_z (pre := (sc, .inr (2, [.ref ty, .int (nI n), .int (nI (tK y n p)), .int (nI (tB y n p)), .int (nI (tE y n p)), .int (tW y n p t4)])) :: ai ct ty 120 y :: wB ct e f) (show EQ K ct rfS (List.map Prod.fst ((sc, .inr (2, [.ref ty, .int (nI n), .int (nI (tK y n p)), .int (nI (tB y n p)), .int (nI (tE y n p)), .int (tW y n p t4)])) :: ai ct ty 120 y :: wB ct e f)) z from hE) hAz
  have F : CallFix pg mi cd cX2_tellItem 3 z _ wsX2_tellItem RX2 := F
  have hl : lv_has ls 3 [(0, .ref sc), (1, .ref (e 0))] := hl
  have hp_0 : tE y n p ≤ n := tE_n hp
  refine lv_aload_n F.1 F.2.1 dX2_tellItem_0 rfl (lv_at hl 0 rfl) ?_
  refine iV (rest := []) (wsp := fun _ => (sc, .inr (2, [.ref ty, .int (nI n), .int (nI (tK y n p)), .int (nI (tB y n p)), .int (nI (tE y n p)), .int (tW y n p t4)])) :: ai ct ty 120 y :: wB ct e f) F (kX2_wordOfKind l dC dI ct K sc ty y n t4 p hn (by omega)) gX2_tellItem_X2_wordOfKind rfl ⟨rfl, rfl⟩ nmX2_wordOfKind ⟨Nat.le_of_ble_eq_true rfl, Nat.le_of_ble_eq_true rfl⟩ EQ_b (EQ_call hE hS hz [0, 1] rfl) hK hP hD hS hA 0 rfl rfl rfl [0, 1] (by decide) rfl rfl rfl hl.1 (Nat.le_of_ble_eq_true rfl) dX2_tellItem_1 ⟨Nat.zero_le _, Nat.zero_le _⟩ (fun _ => rfl) (fun _ => rfl) [sc, ty, e 0, e 1, e 2, e 3, e 4, e 5, e 6] rfl (fun _ => rfl) (fun r_1 u_1 H locs e_1 hP hD hS => ?_)
  obtain rfl := e_1
  refine lv_istore_n (lv' := [(2, .int (wkF y n p)), (0, .ref sc), (1, .ref (e 0))]) F.1 F.2.1 dX2_tellItem_4 rfl hl (by decide) rfl (fun ls hl => ?_)
  refine lv_iload_n F.1 F.2.1 dX2_tellItem_5 rfl (lv_at hl 0 rfl) ?_
  refine lv_if_lt (tgt := 20) F.1 F.2.1 dX2_tellItem_6 (by decide) (fun c_6 => ?_) (fun c_6 => ?_)
  · refine lv_aload_n F.1 F.2.1 dX2_tellItem_20 rfl (lv_at hl 1 rfl) ?_
    refine va_ldcS F.1 F.2.1 (tx := "side") (q := kS K 7) F.2.2.2.1 (hE.2.2.2.1 ("HedgeHeaps$Script", 78, "side", 7) (List.mem_of_getElem? (i := 7) rfl)) dX2_tellItem_21 ?_
    refine iV (rest := []) (wsp := fun u_23 => (sc, .inr (2, [.ref ty, .int (nI n), .int (nI (tK y n u_23.1)), .int (nI (tB y n u_23.1)), .int (nI (tE y n u_23.1)), .int (tW y n u_23.1 u_23.2)])) :: ai ct ty 120 y :: wB ct e f) F (kX2_takeWord l dC dI ct K rfS sc ty y n t4 p hn (by omega) 7 (by decide)) gX2_tellItem_X2_takeWord rfl ⟨rfl, rfl⟩ nmX2_takeWord ⟨Nat.le_of_ble_eq_true rfl, Nat.le_of_ble_eq_true rfl⟩ EQ_b (EQ_call hE hS hz [0, 1] rfl) hK hP hD hS hA 0 rfl rfl rfl [0, 1] (by decide) rfl rfl rfl hl.1 (Nat.le_of_ble_eq_true rfl) dX2_tellItem_23 ⟨Nat.zero_le _, Nat.zero_le _⟩ (fun _ => rfl) (fun _ => rfl) [sc, ty, e 0, e 1, e 2, e 3, e 4, e 5, e 6] rfl (fun _ => rfl) (fun r_23 u_23 H locs e_23 hP hD hS => ?_)
    obtain ⟨p_23, t_23⟩ := u_23
    obtain ⟨a_23, b_23⟩ := e_23
    dsimp only at hP hD b_23
    by_cases w23 : isW y n p 7
    · skip
      have b_23 := (b_23.trans (if_pos w23)).symm
      subst b_23
      have hp_23 : tE y n p ≤ n := (tE_le (y := y) hp).2.2.1
      refine tp (y := 1) (a_23.trans (if_pos w23)) ?_
      refine lv_if_eq (tgt := 35) F.1 F.2.1 dX2_tellItem_26 (by decide) (fun c_26 => ?_) (fun c_26 => ?_)
      · exact absurd c_26 (by decide)
      · refine lv_aload_n F.1 F.2.1 dX2_tellItem_29 rfl (lv_at hl 1 rfl) ?_
        refine lv_aload_n F.1 F.2.1 dX2_tellItem_30 rfl (lv_at hl 2 rfl) ?_
        refine iV (rest := []) (wsp := fun u_31 => (sc, .inr (2, [.ref ty, .int (nI n), .int (nI (tK y n u_31.1)), .int (nI (tB y n u_31.1)), .int (nI (tE y n u_31.1)), .int (tW y n u_31.1 u_31.2.1)])) :: ai ct ty 120 y :: wB ct e u_31.2.2) F (kX2_tellSide l dC dI ct K sc ty e y f n t_23 (tE y n p) hn (by omega)) gX2_tellItem_X2_tellSide rfl ⟨rfl, rfl⟩ nmX2_tellSide ⟨Nat.le_of_ble_eq_true rfl, Nat.le_of_ble_eq_true rfl⟩ EQ_b (EQ_call hE hS hz [0, 1, 2, 3, 4, 5, 6, 7, 8] rfl) hK hP hD hS hA 0 rfl rfl rfl [0, 1, 2, 3, 4, 5, 6, 7, 8] (by decide) rfl rfl rfl hl.1 (Nat.le_of_ble_eq_true rfl) dX2_tellItem_31 ⟨Nat.zero_le _, Nat.zero_le _⟩ (fun _ => rfl) (fun _ => rfl) [sc, ty, e 0, e 1, e 2, e 3, e 4, e 5, e 6] rfl (fun _ => rfl) (fun r_31 u_31 H locs e_31 hP hD hS => ?_)
        exact rtZ (u_31.1, u_31.2.1, u_31.2.2) F hr hlk hP hS rfl (by rw [itF, if_neg (Int32.not_le.mpr c_6), if_pos w23]; exact e_31) (by have q := tlS01 y n f (tE y n p); rw [← e_31] at q; exact q) dX2_tellItem_34
    · skip
      have b_23 := (b_23.trans (if_neg w23)).symm
      subst b_23
      refine tp (y := 0) (a_23.trans (if_neg w23)) ?_
      refine lv_if_eq (tgt := 35) F.1 F.2.1 dX2_tellItem_26 (by decide) (fun c_26 => ?_) (fun c_26 => ?_)
      · refine lv_aload_n F.1 F.2.1 dX2_tellItem_35 rfl (lv_at hl 1 rfl) ?_
        refine va_ldcS F.1 F.2.1 (tx := "home") (q := kS K 8) F.2.2.2.1 (hE.2.2.2.1 ("HedgeHeaps$Script", 86, "home", 8) (List.mem_of_getElem? (i := 8) rfl)) dX2_tellItem_36 ?_
        refine iV (rest := []) (wsp := fun u_38 => (sc, .inr (2, [.ref ty, .int (nI n), .int (nI (tK y n u_38.1)), .int (nI (tB y n u_38.1)), .int (nI (tE y n u_38.1)), .int (tW y n u_38.1 u_38.2)])) :: ai ct ty 120 y :: wB ct e f) F (kX2_takeWord l dC dI ct K rfS sc ty y n t_23 p hn (by omega) 8 (by decide)) gX2_tellItem_X2_takeWord rfl ⟨rfl, rfl⟩ nmX2_takeWord ⟨Nat.le_of_ble_eq_true rfl, Nat.le_of_ble_eq_true rfl⟩ EQ_b (EQ_call hE hS hz [0, 1] rfl) hK hP hD hS hA 0 rfl rfl rfl [0, 1] (by decide) rfl rfl rfl hl.1 (Nat.le_of_ble_eq_true rfl) dX2_tellItem_38 ⟨Nat.zero_le _, Nat.zero_le _⟩ (fun _ => rfl) (fun _ => rfl) [sc, ty, e 0, e 1, e 2, e 3, e 4, e 5, e 6] rfl (fun _ => rfl) (fun r_38 u_38 H locs e_38 hP hD hS => ?_)
        obtain ⟨p_38, t_38⟩ := u_38
        obtain ⟨a_38, b_38⟩ := e_38
        dsimp only at hP hD b_38
        by_cases w38 : isW y n p 8
        · skip
          have b_38 := (b_38.trans (if_pos w38)).symm
          subst b_38
          have hp_38 : tE y n p ≤ n := (tE_le (y := y) hp).2.2.1
          refine tp (y := 1) (a_38.trans (if_pos w38)) ?_
          refine lv_if_eq (tgt := 51) F.1 F.2.1 dX2_tellItem_41 (by decide) (fun c_41 => ?_) (fun c_41 => ?_)
          · exact absurd c_41 (by decide)
          · refine lv_aload_n F.1 F.2.1 dX2_tellItem_44 rfl (lv_at hl 1 rfl) ?_
            refine lv_aload_n F.1 F.2.1 dX2_tellItem_45 rfl (lv_at hl 2 rfl) ?_
            refine lv_iconst (v := 0) F.1 F.2.1 dX2_tellItem_46 (by decide) ?_
            refine iV (rest := []) (wsp := fun u_47 => (sc, .inr (2, [.ref ty, .int (nI n), .int (nI (tK y n u_47.1)), .int (nI (tB y n u_47.1)), .int (nI (tE y n u_47.1)), .int (tW y n u_47.1 u_47.2.1)])) :: ai ct ty 120 y :: wB ct e u_47.2.2) F (kX2_tellStock l dC dI ct K sc ty e y f n t_38 (tE y n p) hn (by omega) 0) gX2_tellItem_X2_tellStock rfl ⟨rfl, rfl⟩ nmX2_tellStock ⟨Nat.le_of_ble_eq_true rfl, Nat.le_of_ble_eq_true rfl⟩ EQ_b (EQ_call hE hS hz [0, 1, 2, 3, 4, 5, 6, 7, 8] rfl) hK hP hD hS hA 0 rfl rfl rfl [0, 1, 2, 3, 4, 5, 6, 7, 8] (by decide) rfl rfl rfl hl.1 (Nat.le_of_ble_eq_true rfl) dX2_tellItem_47 ⟨Nat.zero_le _, Nat.zero_le _⟩ (fun _ => rfl) (fun _ => rfl) [sc, ty, e 0, e 1, e 2, e 3, e 4, e 5, e 6] rfl (fun _ => rfl) (fun r_47 u_47 H locs e_47 hP hD hS => ?_)
            exact rtZ (u_47.1, u_47.2.1, u_47.2.2) F hr hlk hP hS rfl (by rw [itF, if_neg (Int32.not_le.mpr c_6), if_neg w23, if_pos w38]; exact e_47) (by have q := tlH01 y n f (tE y n p) 0; rw [← e_47] at q; exact q) dX2_tellItem_50
        · skip
          have b_38 := (b_38.trans (if_neg w38)).symm
          subst b_38
          refine tp (y := 0) (a_38.trans (if_neg w38)) ?_
          refine lv_if_eq (tgt := 51) F.1 F.2.1 dX2_tellItem_41 (by decide) (fun c_41 => ?_) (fun c_41 => ?_)
          · refine lv_aload_n F.1 F.2.1 dX2_tellItem_51 rfl (lv_at hl 1 rfl) ?_
            refine va_ldcS F.1 F.2.1 (tx := "heap") (q := kS K 9) F.2.2.2.1 (hE.2.2.2.1 ("HedgeHeaps$Script", 91, "heap", 9) (List.mem_of_getElem? (i := 9) rfl)) dX2_tellItem_52 ?_
            refine iV (rest := []) (wsp := fun u_54 => (sc, .inr (2, [.ref ty, .int (nI n), .int (nI (tK y n u_54.1)), .int (nI (tB y n u_54.1)), .int (nI (tE y n u_54.1)), .int (tW y n u_54.1 u_54.2)])) :: ai ct ty 120 y :: wB ct e f) F (kX2_takeWord l dC dI ct K rfS sc ty y n t_38 p hn (by omega) 9 (by decide)) gX2_tellItem_X2_takeWord rfl ⟨rfl, rfl⟩ nmX2_takeWord ⟨Nat.le_of_ble_eq_true rfl, Nat.le_of_ble_eq_true rfl⟩ EQ_b (EQ_call hE hS hz [0, 1] rfl) hK hP hD hS hA 0 rfl rfl rfl [0, 1] (by decide) rfl rfl rfl hl.1 (Nat.le_of_ble_eq_true rfl) dX2_tellItem_54 ⟨Nat.zero_le _, Nat.zero_le _⟩ (fun _ => rfl) (fun _ => rfl) [sc, ty, e 0, e 1, e 2, e 3, e 4, e 5, e 6] rfl (fun _ => rfl) (fun r_54 u_54 H locs e_54 hP hD hS => ?_)
            obtain ⟨p_54, t_54⟩ := u_54
            obtain ⟨a_54, b_54⟩ := e_54
            dsimp only at hP hD b_54
            by_cases w54 : isW y n p 9
            · skip
              have b_54 := (b_54.trans (if_pos w54)).symm
              subst b_54
              have hp_54 : tE y n p ≤ n := (tE_le (y := y) hp).2.2.1
              refine tp (y := 1) (a_54.trans (if_pos w54)) ?_
              refine lv_if_eq (tgt := 67) F.1 F.2.1 dX2_tellItem_57 (by decide) (fun c_57 => ?_) (fun c_57 => ?_)
              · exact absurd c_57 (by decide)
              · refine lv_aload_n F.1 F.2.1 dX2_tellItem_60 rfl (lv_at hl 1 rfl) ?_
                refine lv_aload_n F.1 F.2.1 dX2_tellItem_61 rfl (lv_at hl 2 rfl) ?_
                refine lv_iconst (v := 1) F.1 F.2.1 dX2_tellItem_62 (by decide) ?_
                refine iV (rest := []) (wsp := fun u_63 => (sc, .inr (2, [.ref ty, .int (nI n), .int (nI (tK y n u_63.1)), .int (nI (tB y n u_63.1)), .int (nI (tE y n u_63.1)), .int (tW y n u_63.1 u_63.2.1)])) :: ai ct ty 120 y :: wB ct e u_63.2.2) F (kX2_tellStock l dC dI ct K sc ty e y f n t_54 (tE y n p) hn (by omega) 1) gX2_tellItem_X2_tellStock rfl ⟨rfl, rfl⟩ nmX2_tellStock ⟨Nat.le_of_ble_eq_true rfl, Nat.le_of_ble_eq_true rfl⟩ EQ_b (EQ_call hE hS hz [0, 1, 2, 3, 4, 5, 6, 7, 8] rfl) hK hP hD hS hA 0 rfl rfl rfl [0, 1, 2, 3, 4, 5, 6, 7, 8] (by decide) rfl rfl rfl hl.1 (Nat.le_of_ble_eq_true rfl) dX2_tellItem_63 ⟨Nat.zero_le _, Nat.zero_le _⟩ (fun _ => rfl) (fun _ => rfl) [sc, ty, e 0, e 1, e 2, e 3, e 4, e 5, e 6] rfl (fun _ => rfl) (fun r_63 u_63 H locs e_63 hP hD hS => ?_)
                exact rtZ (u_63.1, u_63.2.1, u_63.2.2) F hr hlk hP hS rfl (by rw [itF, if_neg (Int32.not_le.mpr c_6), if_neg w23, if_neg w38, if_pos w54]; exact e_63) (by have q := tlH01 y n f (tE y n p) 1; rw [← e_63] at q; exact q) dX2_tellItem_66
            · skip
              have b_54 := (b_54.trans (if_neg w54)).symm
              subst b_54
              refine tp (y := 0) (a_54.trans (if_neg w54)) ?_
              refine lv_if_eq (tgt := 67) F.1 F.2.1 dX2_tellItem_57 (by decide) (fun c_57 => ?_) (fun c_57 => ?_)
              · refine lv_aload_n F.1 F.2.1 dX2_tellItem_67 rfl (lv_at hl 1 rfl) ?_
                refine va_ldcS F.1 F.2.1 (tx := "worth") (q := kS K 10) F.2.2.2.1 (hE.2.2.2.1 ("HedgeHeaps$Script", 93, "worth", 10) (List.mem_of_getElem? (i := 10) rfl)) dX2_tellItem_68 ?_
                refine iV (rest := []) (wsp := fun u_70 => (sc, .inr (2, [.ref ty, .int (nI n), .int (nI (tK y n u_70.1)), .int (nI (tB y n u_70.1)), .int (nI (tE y n u_70.1)), .int (tW y n u_70.1 u_70.2)])) :: ai ct ty 120 y :: wB ct e f) F (kX2_takeWord l dC dI ct K rfS sc ty y n t_54 p hn (by omega) 10 (by decide)) gX2_tellItem_X2_takeWord rfl ⟨rfl, rfl⟩ nmX2_takeWord ⟨Nat.le_of_ble_eq_true rfl, Nat.le_of_ble_eq_true rfl⟩ EQ_b (EQ_call hE hS hz [0, 1] rfl) hK hP hD hS hA 0 rfl rfl rfl [0, 1] (by decide) rfl rfl rfl hl.1 (Nat.le_of_ble_eq_true rfl) dX2_tellItem_70 ⟨Nat.zero_le _, Nat.zero_le _⟩ (fun _ => rfl) (fun _ => rfl) [sc, ty, e 0, e 1, e 2, e 3, e 4, e 5, e 6] rfl (fun _ => rfl) (fun r_70 u_70 H locs e_70 hP hD hS => ?_)
                obtain ⟨p_70, t_70⟩ := u_70
                obtain ⟨a_70, b_70⟩ := e_70
                dsimp only at hP hD b_70
                by_cases w70 : isW y n p 10
                · skip
                  have b_70 := (b_70.trans (if_pos w70)).symm
                  subst b_70
                  have hp_70 : tE y n p ≤ n := (tE_le (y := y) hp).2.2.1
                  refine tp (y := 1) (a_70.trans (if_pos w70)) ?_
                  refine lv_if_eq (tgt := 83) F.1 F.2.1 dX2_tellItem_73 (by decide) (fun c_73 => ?_) (fun c_73 => ?_)
                  · exact absurd c_73 (by decide)
                  · refine lv_aload_n F.1 F.2.1 dX2_tellItem_76 rfl (lv_at hl 1 rfl) ?_
                    refine lv_aload_n F.1 F.2.1 dX2_tellItem_77 rfl (lv_at hl 2 rfl) ?_
                    refine lv_iconst (v := 2) F.1 F.2.1 dX2_tellItem_78 (by decide) ?_
                    refine iV (rest := []) (wsp := fun u_79 => (sc, .inr (2, [.ref ty, .int (nI n), .int (nI (tK y n u_79.1)), .int (nI (tB y n u_79.1)), .int (nI (tE y n u_79.1)), .int (tW y n u_79.1 u_79.2.1)])) :: ai ct ty 120 y :: wB ct e u_79.2.2) F (kX2_tellStock l dC dI ct K sc ty e y f n t_70 (tE y n p) hn (by omega) 2) gX2_tellItem_X2_tellStock rfl ⟨rfl, rfl⟩ nmX2_tellStock ⟨Nat.le_of_ble_eq_true rfl, Nat.le_of_ble_eq_true rfl⟩ EQ_b (EQ_call hE hS hz [0, 1, 2, 3, 4, 5, 6, 7, 8] rfl) hK hP hD hS hA 0 rfl rfl rfl [0, 1, 2, 3, 4, 5, 6, 7, 8] (by decide) rfl rfl rfl hl.1 (Nat.le_of_ble_eq_true rfl) dX2_tellItem_79 ⟨Nat.zero_le _, Nat.zero_le _⟩ (fun _ => rfl) (fun _ => rfl) [sc, ty, e 0, e 1, e 2, e 3, e 4, e 5, e 6] rfl (fun _ => rfl) (fun r_79 u_79 H locs e_79 hP hD hS => ?_)
                    exact rtZ (u_79.1, u_79.2.1, u_79.2.2) F hr hlk hP hS rfl (by rw [itF, if_neg (Int32.not_le.mpr c_6), if_neg w23, if_neg w38, if_neg w54, if_pos w70]; exact e_79) (by have q := tlH01 y n f (tE y n p) 2; rw [← e_79] at q; exact q) dX2_tellItem_82
                · skip
                  have b_70 := (b_70.trans (if_neg w70)).symm
                  subst b_70
                  refine tp (y := 0) (a_70.trans (if_neg w70)) ?_
                  refine lv_if_eq (tgt := 83) F.1 F.2.1 dX2_tellItem_73 (by decide) (fun c_73 => ?_) (fun c_73 => ?_)
                  · refine lv_aload_n F.1 F.2.1 dX2_tellItem_83 rfl (lv_at hl 1 rfl) ?_
                    refine va_ldcS F.1 F.2.1 (tx := "frost") (q := kS K 11) F.2.2.2.1 (hE.2.2.2.1 ("HedgeHeaps$Script", 95, "frost", 11) (List.mem_of_getElem? (i := 11) rfl)) dX2_tellItem_84 ?_
                    refine iV (rest := []) (wsp := fun u_86 => (sc, .inr (2, [.ref ty, .int (nI n), .int (nI (tK y n u_86.1)), .int (nI (tB y n u_86.1)), .int (nI (tE y n u_86.1)), .int (tW y n u_86.1 u_86.2)])) :: ai ct ty 120 y :: wB ct e f) F (kX2_takeWord l dC dI ct K rfS sc ty y n t_70 p hn (by omega) 11 (by decide)) gX2_tellItem_X2_takeWord rfl ⟨rfl, rfl⟩ nmX2_takeWord ⟨Nat.le_of_ble_eq_true rfl, Nat.le_of_ble_eq_true rfl⟩ EQ_b (EQ_call hE hS hz [0, 1] rfl) hK hP hD hS hA 0 rfl rfl rfl [0, 1] (by decide) rfl rfl rfl hl.1 (Nat.le_of_ble_eq_true rfl) dX2_tellItem_86 ⟨Nat.zero_le _, Nat.zero_le _⟩ (fun _ => rfl) (fun _ => rfl) [sc, ty, e 0, e 1, e 2, e 3, e 4, e 5, e 6] rfl (fun _ => rfl) (fun r_86 u_86 H locs e_86 hP hD hS => ?_)
                    obtain ⟨p_86, t_86⟩ := u_86
                    obtain ⟨a_86, b_86⟩ := e_86
                    dsimp only at hP hD b_86
                    by_cases w86 : isW y n p 11
                    · skip
                      have b_86 := (b_86.trans (if_pos w86)).symm
                      subst b_86
                      have hp_86 : tE y n p ≤ n := (tE_le (y := y) hp).2.2.1
                      refine tp (y := 1) (a_86.trans (if_pos w86)) ?_
                      refine lv_if_eq (tgt := 104) F.1 F.2.1 dX2_tellItem_89 (by decide) (fun c_89 => ?_) (fun c_89 => ?_)
                      · exact absurd c_89 (by decide)
                      · refine lv_aload_n F.1 F.2.1 dX2_tellItem_92 rfl (lv_at hl 1 rfl) ?_
                        refine lv_aload_n F.1 F.2.1 dX2_tellItem_93 rfl (lv_at hl 2 rfl) ?_
                        refine iV (rest := []) (wsp := fun u_94 => (sc, .inr (2, [.ref ty, .int (nI n), .int (nI (tK y n u_94.1)), .int (nI (tB y n u_94.1)), .int (nI (tE y n u_94.1)), .int (tW y n u_94.1 u_94.2.1)])) :: ai ct ty 120 y :: wB ct e u_94.2.2) F (kX2_tellFrost l dC dI ct sc ty e y f n t_86 (tE y n p) hn (by omega)) gX2_tellItem_X2_tellFrost rfl ⟨rfl, rfl⟩ nmX2_tellFrost ⟨Nat.le_of_ble_eq_true rfl, Nat.le_of_ble_eq_true rfl⟩ eT_b (fun _ _ _ => trivial) hK hP hD hS hA 0 rfl rfl rfl [0, 1, 2, 3, 4, 5, 6, 7, 8] (by decide) rfl rfl rfl hl.1 (Nat.le_of_ble_eq_true rfl) dX2_tellItem_94 ⟨Nat.zero_le _, Nat.zero_le _⟩ (fun _ => rfl) (fun _ => rfl) [sc, ty, e 0, e 1, e 2, e 3, e 4, e 5, e 6] rfl (fun _ => rfl) (fun r_94 u_94 H locs e_94 hP hD hS => ?_)
                        have f01 := tlF01 y n f (tE y n p)
                        rw [← e_94] at f01
                        have f01 : r_94 = 0 ∨ r_94 = 1 := f01
                        rcases f01 with rfl | rfl
                        · skip
                          refine lv_if_eq (tgt := 104) F.1 F.2.1 dX2_tellItem_97 (by decide) (fun c_97 => ?_) (fun c_97 => ?_)
                          · refine lv_iconst (v := 0) F.1 F.2.1 dX2_tellItem_104 (by decide) ?_
                            exact rtZ (u_94.1, u_94.2.1, u_94.2.2) F hr hlk hP hS rfl (by rw [itF, if_neg (Int32.not_le.mpr c_6), if_neg w23, if_neg w38, if_neg w54, if_neg w70, if_pos w86]; exact e_94) (Or.inl rfl) dX2_tellItem_105
                          · exact absurd rfl c_97
                        · skip
                          refine lv_if_eq (tgt := 104) F.1 F.2.1 dX2_tellItem_97 (by decide) (fun c_97 => ?_) (fun c_97 => ?_)
                          · exact absurd c_97 (by decide)
                          · refine lv_iconst (v := 1) F.1 F.2.1 dX2_tellItem_100 (by decide) ?_
                            refine lv_goto (tgt := 105) F.1 F.2.1 dX2_tellItem_101 (by decide) ?_
                            exact rtZ (u_94.1, u_94.2.1, u_94.2.2) F hr hlk hP hS rfl (by rw [itF, if_neg (Int32.not_le.mpr c_6), if_neg w23, if_neg w38, if_neg w54, if_neg w70, if_pos w86]; exact e_94) (Or.inr rfl) dX2_tellItem_105
                    · skip
                      have b_86 := (b_86.trans (if_neg w86)).symm
                      subst b_86
                      refine tp (y := 0) (a_86.trans (if_neg w86)) ?_
                      refine lv_if_eq (tgt := 104) F.1 F.2.1 dX2_tellItem_89 (by decide) (fun c_89 => ?_) (fun c_89 => ?_)
                      · refine lv_iconst (v := 0) F.1 F.2.1 dX2_tellItem_104 (by decide) ?_
                        exact rtZ (p, t_86, f) F hr hlk hP hS rfl (by rw [itF, if_neg (Int32.not_le.mpr c_6), if_neg w23, if_neg w38, if_neg w54, if_neg w70, if_neg w86]) (Or.inl rfl) dX2_tellItem_105
                      · exact absurd rfl c_89
                  · exact absurd rfl c_73
              · exact absurd rfl c_57
          · exact absurd rfl c_41
      · exact absurd rfl c_26
  · refine lv_aload_n F.1 F.2.1 dX2_tellItem_9 rfl (lv_at hl 1 rfl) ?_
    refine vV (rest := []) (wsp := fun _ => (sc, .inr (2, [.ref ty, .int (nI n), .int (nI (tK y n (tE y n p))), .int (nI (tB y n (tE y n p))), .int (nI (tE y n (tE y n p))), .int (tW y n (tE y n p) (tW y n p t4))])) :: ai ct ty 120 y :: wB ct e f) F (kX2_advance l dC dI ct sc ty y n (nI (tK y n p)) (nI (tB y n p)) (tW y n p t4) (tE y n p) hn (by omega)) gX2_tellItem_X2_advance rfl ⟨rfl, rfl⟩ nmX2_advance ⟨Nat.le_of_ble_eq_true rfl, Nat.le_of_ble_eq_true rfl⟩ eT_b (fun _ _ _ => trivial) hK hP hD hS hA 0 rfl rfl rfl [0, 1] (by decide) rfl rfl rfl hl.1 (Nat.le_of_ble_eq_true rfl) dX2_tellItem_10 ⟨Nat.zero_le _, Nat.zero_le _⟩ (fun _ => rfl) (fun _ => rfl) [sc, ty, e 0, e 1, e 2, e 3, e 4, e 5, e 6] rfl (fun _ => rfl) (fun u_10 H locs e_10 hP hD hS => ?_)
    have hp_10 : tE y n p ≤ n := tE_n hp
    refine lv_aload_n F.1 F.2.1 dX2_tellItem_13 rfl (lv_at hl 1 rfl) ?_
    refine lv_aload_n F.1 F.2.1 dX2_tellItem_14 rfl (lv_at hl 2 rfl) ?_
    refine lv_iload_n F.1 F.2.1 dX2_tellItem_15 rfl (lv_at hl 0 rfl) ?_
    refine iV (rest := []) (wsp := fun u_16 => (sc, .inr (2, [.ref ty, .int (nI n), .int (nI (tK y n u_16.1)), .int (nI (tB y n u_16.1)), .int (nI (tE y n u_16.1)), .int (tW y n u_16.1 u_16.2.1)])) :: ai ct ty 120 y :: wB ct e u_16.2.2) F (kX2_tellKind l dC dI ct sc ty e y f n (tW y n p t4) (tE y n p) hn (by omega) (wkF y n p)) gX2_tellItem_X2_tellKind rfl ⟨rfl, rfl⟩ nmX2_tellKind ⟨Nat.le_of_ble_eq_true rfl, Nat.le_of_ble_eq_true rfl⟩ eT_b (fun _ _ _ => trivial) hK hP hD hS hA 0 rfl rfl rfl [0, 1, 2, 3, 4, 5, 6, 7, 8] (by decide) rfl rfl rfl hl.1 (Nat.le_of_ble_eq_true rfl) dX2_tellItem_16 ⟨Nat.zero_le _, Nat.zero_le _⟩ (fun _ => rfl) (fun _ => rfl) [sc, ty, e 0, e 1, e 2, e 3, e 4, e 5, e 6] rfl (fun _ => rfl) (fun r_16 u_16 H locs e_16 hP hD hS => ?_)
    exact rtZ (u_16.1, u_16.2.1, u_16.2.2) F hr hlk hP hS rfl (by rw [itF, if_pos (Int32.not_lt.mp c_6)]; exact e_16) (by have q := tlK01 y n f (tE y n p) (wkF y n p); rw [← e_16] at q; exact q) dX2_tellItem_19
