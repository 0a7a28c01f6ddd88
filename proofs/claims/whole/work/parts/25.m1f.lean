def rmX6_night : Room := { frames := 7, cells := 0, slots := 0, locals := 156 }
theorem nmX6_night : NmV yX6_night RX6 0 := by unfold NmV; decide +kernel
theorem hiX6_night_6 : ∀ w ∈ u_ws RX6 TX6 22, w ∈ wsX6_night := by decide +kernel
set_option maxHeartbeats 4000000 in
set_option maxRecDepth 100000 in
theorem kX6_night (l : Launch) (dC : Nat → ClassId) (dI : Nat → Nat → Nat) (ct : Nat → ClassId) (a : Nat → Nat) (v f : Nat → Int32) (hG : Gd f) : MI (S := Unit) l yX6_night wsX6_night rmX6_night dC dI ct eT [.ref (a 0)] (oM a v :: [ai ct (a 1) 210 f]) (fun _ => oM a v :: [ai ct (a 1) 210 (nite f)]) (fun r _ => r = deed f (tnF f)) := by
  refine MI.of (cc := cX6_night) (maxL := 4) (ret := (some .int)) (by decide) rfl (Nat.le_of_ble_eq_true rfl) ?_
  intro pg en z mi below meth cd A F hr hlk hin hK hP hD hA hS hE ls hl
  have F : CallFix pg mi cd cX6_night 4 z _ wsX6_night RX6 := F
  have hl : lv_has ls 4 [(0, .ref (a 0))] := hl
  have hs := tn_lt f
  have hN := hG.1
  refine lv_aload_n F.1 F.2.1 dX6_night_0 rfl (lv_at hl 0 rfl) ?_
  refine gf F hK hP 0 rfl rfl hiX6_night_6 0 (by decide) (List.mem_of_getElem? (i := 1) rfl) rfl dX6_night_1 ?_
  refine lv_iconst (v := 0) F.1 F.2.1 dX6_night_4 (by decide) ?_
  refine al (v := f 0) F hK hP 1 0 rfl rfl 0 rfl (by omega) (by decide) rfl dX6_night_5 ?_
  refine tp (y := nI (nN f)) hN ?_
  refine lv_iconst (v := 2) F.1 F.2.1 dX6_night_6 (by decide) ?_
  refine lv_irem F.1 F.2.1 dX6_night_7 (by decide) ?_
  refine tp (y := nI (tnF f)) (pk_rem (d := 2) (nN_lt f) (by decide) (by decide)) ?_
  refine lv_istore_n (lv' := [(1, .int (nI (tnF f))), (0, .ref (a 0))]) F.1 F.2.1 dX6_night_8 rfl hl (by decide) rfl (fun ls hl => ?_)
  refine lv_aload_n F.1 F.2.1 dX6_night_9 rfl (lv_at hl 1 rfl) ?_
  refine lv_iload_n F.1 F.2.1 dX6_night_10 rfl (lv_at hl 0 rfl) ?_
  refine iV (rest := []) (wsp := fun _ => oM a v :: [ai ct (a 1) 210 f]) F (kX6_wouldDo l dC dI ct a v f (tnF f) (by omega)) gX6_night_X6_wouldDo rfl ⟨rfl, rfl⟩ nmX6_wouldDo ⟨Nat.le_of_ble_eq_true rfl, Nat.le_of_ble_eq_true rfl⟩ eT_b (fun _ _ _ => trivial) hK hP hD hS hA 0 rfl rfl rfl [0, 1] (by decide) rfl rfl rfl hl.1 (Nat.le_of_ble_eq_true rfl) dX6_night_11 ⟨Nat.zero_le _, Nat.zero_le _⟩ (fun _ => rfl) (fun _ => rfl) [a 0, a 1] rfl (fun _ => rfl) (fun r_11 u_11 H locs e_11 hP hD hS => ?_)
  obtain rfl := e_11
  refine lv_istore_n (lv' := [(2, .int (deed f (tnF f))), (1, .int (nI (tnF f))), (0, .ref (a 0))]) F.1 F.2.1 dX6_night_14 rfl hl (by decide) rfl (fun ls hl => ?_)
  refine lv_aload_n F.1 F.2.1 dX6_night_15 rfl (lv_at hl 2 rfl) ?_
  refine lv_iload_n F.1 F.2.1 dX6_night_16 rfl (lv_at hl 1 rfl) ?_
  refine lv_iload_n F.1 F.2.1 dX6_night_17 rfl (lv_at hl 0 rfl) ?_
  refine vV (rest := []) (wsp := fun _ => oM a v :: [ai ct (a 1) 210 (wbF f (tnF f) (deed f (tnF f)))]) F (kX6_writeBook l dC dI ct a v f (tnF f) (deed f (tnF f)) hN (by omega)) gX6_night_X6_writeBook rfl ⟨rfl, rfl⟩ nmX6_writeBook ⟨Nat.le_of_ble_eq_true rfl, Nat.le_of_ble_eq_true rfl⟩ eT_b (fun _ _ _ => trivial) hK hP hD hS hA 0 rfl rfl rfl [0, 1] (by decide) rfl rfl rfl hl.1 (Nat.le_of_ble_eq_true rfl) dX6_night_18 ⟨Nat.zero_le _, Nat.zero_le _⟩ (fun _ => rfl) (fun _ => rfl) [a 0, a 1] rfl (fun _ => rfl) (fun u_18 H locs e_18 hP hD hS => ?_)
  refine lv_iload_n F.1 F.2.1 dX6_night_21 rfl (lv_at hl 0 rfl) ?_
  refine lv_iconst (v := 1) F.1 F.2.1 dX6_night_22 (by decide) ?_
  refine lv_icmp_ne (tgt := 67) F.1 F.2.1 dX6_night_23 (by decide) (fun c_23 => ?_) (fun c_23 => ?_)
  · refine lv_iload_n F.1 F.2.1 dX6_night_67 rfl (lv_at hl 0 rfl) ?_
    refine lv_iconst (v := 2) F.1 F.2.1 dX6_night_68 (by decide) ?_
    refine lv_icmp_ne (tgt := 105) F.1 F.2.1 dX6_night_69 (by decide) (fun c_69 => ?_) (fun c_69 => ?_)
    · refine lv_iload_n F.1 F.2.1 dX6_night_105 rfl (lv_at hl 0 rfl) ?_
      refine lv_iconst (v := 3) F.1 F.2.1 dX6_night_106 (by decide) ?_
      refine lv_icmp_ne (tgt := 116) F.1 F.2.1 dX6_night_107 (by decide) (fun c_107 => ?_) (fun c_107 => ?_)
      · have eq_116 : wbF f (tnF f) (deed f (tnF f)) = actF (wbF f (tnF f) (deed f (tnF f))) (tnF f) (deed f (tnF f)) := ((if_neg c_23).trans ((if_neg c_69).trans (if_neg c_107))).symm
        rw [eq_116] at hP hD
        refine lv_aload_n F.1 F.2.1 dX6_night_116 rfl (lv_at hl 2 rfl) ?_
        refine lv_iconst (v := 0) F.1 F.2.1 dX6_night_117 (by decide) ?_
        refine vV (rest := []) (wsp := fun _ => oM a v :: [ai ct (a 1) 210 (birU (actF (wbF f (tnF f) (deed f (tnF f))) (tnF f) (deed f (tnF f))) 0 5)]) F (kX6_birds l dC dI ct a v (actF (wbF f (tnF f) (deed f (tnF f))) (tnF f) (deed f (tnF f))) 0 (by omega)) gX6_night_X6_birds rfl ⟨rfl, rfl⟩ nmX6_birds ⟨Nat.le_of_ble_eq_true rfl, Nat.le_of_ble_eq_true rfl⟩ eT_b (fun _ _ _ => trivial) hK hP hD hS hA 0 rfl rfl rfl [0, 1] (by decide) rfl rfl rfl hl.1 (Nat.le_of_ble_eq_true rfl) dX6_night_118 ⟨Nat.zero_le _, Nat.zero_le _⟩ (fun _ => rfl) (fun _ => rfl) [a 0, a 1] rfl (fun _ => rfl) (fun u_118 H locs e_118 hP hD hS => ?_)
        refine lv_aload_n F.1 F.2.1 dX6_night_121 rfl (lv_at hl 2 rfl) ?_
        refine lv_iconst (v := 1) F.1 F.2.1 dX6_night_122 (by decide) ?_
        refine vV (rest := []) (wsp := fun _ => oM a v :: [ai ct (a 1) 210 (birU (birU (actF (wbF f (tnF f) (deed f (tnF f))) (tnF f) (deed f (tnF f))) 0 5) 1 5)]) F (kX6_birds l dC dI ct a v (birU (actF (wbF f (tnF f) (deed f (tnF f))) (tnF f) (deed f (tnF f))) 0 5) 1 (by omega)) gX6_night_X6_birds rfl ⟨rfl, rfl⟩ nmX6_birds ⟨Nat.le_of_ble_eq_true rfl, Nat.le_of_ble_eq_true rfl⟩ eT_b (fun _ _ _ => trivial) hK hP hD hS hA 0 rfl rfl rfl [0, 1] (by decide) rfl rfl rfl hl.1 (Nat.le_of_ble_eq_true rfl) dX6_night_123 ⟨Nat.zero_le _, Nat.zero_le _⟩ (fun _ => rfl) (fun _ => rfl) [a 0, a 1] rfl (fun _ => rfl) (fun u_123 H locs e_123 hP hD hS => ?_)
        refine lv_aload_n F.1 F.2.1 dX6_night_126 rfl (lv_at hl 2 rfl) ?_
        refine gf F hK hP 0 rfl rfl hiX6_night_6 0 (by decide) (List.mem_of_getElem? (i := 1) rfl) rfl dX6_night_127 ?_
        refine lv_iconst (v := 0) F.1 F.2.1 dX6_night_130 (by decide) ?_
        refine lv_dup2_11 F.1 F.2.1 dX6_night_131 rfl rfl ?_
        refine al (v := (birU (birU (actF (wbF f (tnF f) (deed f (tnF f))) (tnF f) (deed f (tnF f))) 0 5) 1 5) 0) F hK hP 1 0 rfl rfl 0 rfl (by omega) (by decide) rfl dX6_night_132 ?_
        refine lv_iconst (v := 1) F.1 F.2.1 dX6_night_133 (by decide) ?_
        refine lv_iadd F.1 F.2.1 dX6_night_134 ?_
        refine ast (ws' := oM a v :: [ai ct (a 1) 210 (upd (birU (birU (actF (wbF f (tnF f) (deed f (tnF f))) (tnF f) (deed f (tnF f))) 0 5) 1 5) 0 (((birU (birU (actF (wbF f (tnF f) (deed f (tnF f))) (tnF f) (deed f (tnF f))) 0 5) 1 5) 0) + 1))]) F hK hP hD hS 1 0 rfl rfl 0 rfl (by omega) (by decide) dX6_night_135 (weq.rf _) (fun H locs hP hD hS => ?_)
        refine lv_iload_n F.1 F.2.1 dX6_night_136 rfl (lv_at hl 0 rfl) ?_
        exact rtI () F hr hlk hP hS rfl (by simp [c_23, c_69, c_107]) dX6_night_137
      · refine lv_aload_n F.1 F.2.1 dX6_night_110 rfl (lv_at hl 2 rfl) ?_
        refine lv_iload_n F.1 F.2.1 dX6_night_111 rfl (lv_at hl 1 rfl) ?_
        refine lv_iload_n F.1 F.2.1 dX6_night_112 rfl (lv_at hl 1 rfl) ?_
        refine vV (rest := []) (wsp := fun _ => oM a v :: [ai ct (a 1) 210 (goU (wbF f (tnF f) (deed f (tnF f))) (tnF f) (tnF f) 5)]) F (kX6_goesHome l dC dI ct a v (wbF f (tnF f) (deed f (tnF f))) (tnF f) (tnF f) (by omega) (by omega)) gX6_night_X6_goesHome rfl ⟨rfl, rfl⟩ nmX6_goesHome ⟨Nat.le_of_ble_eq_true rfl, Nat.le_of_ble_eq_true rfl⟩ eT_b (fun _ _ _ => trivial) hK hP hD hS hA 0 rfl rfl rfl [0, 1] (by decide) rfl rfl rfl hl.1 (Nat.le_of_ble_eq_true rfl) dX6_night_113 ⟨Nat.zero_le _, Nat.zero_le _⟩ (fun _ => rfl) (fun _ => rfl) [a 0, a 1] rfl (fun _ => rfl) (fun u_113 H locs e_113 hP hD hS => ?_)
        have eq_116 : goU (wbF f (tnF f) (deed f (tnF f))) (tnF f) (tnF f) 5 = actF (wbF f (tnF f) (deed f (tnF f))) (tnF f) (deed f (tnF f)) := ((if_neg c_23).trans ((if_neg c_69).trans (if_pos c_107))).symm
        rw [eq_116] at hP hD
        refine lv_aload_n F.1 F.2.1 dX6_night_116 rfl (lv_at hl 2 rfl) ?_
        refine lv_iconst (v := 0) F.1 F.2.1 dX6_night_117 (by decide) ?_
        refine vV (rest := []) (wsp := fun _ => oM a v :: [ai ct (a 1) 210 (birU (actF (wbF f (tnF f) (deed f (tnF f))) (tnF f) (deed f (tnF f))) 0 5)]) F (kX6_birds l dC dI ct a v (actF (wbF f (tnF f) (deed f (tnF f))) (tnF f) (deed f (tnF f))) 0 (by omega)) gX6_night_X6_birds rfl ⟨rfl, rfl⟩ nmX6_birds ⟨Nat.le_of_ble_eq_true rfl, Nat.le_of_ble_eq_true rfl⟩ eT_b (fun _ _ _ => trivial) hK hP hD hS hA 0 rfl rfl rfl [0, 1] (by decide) rfl rfl rfl hl.1 (Nat.le_of_ble_eq_true rfl) dX6_night_118 ⟨Nat.zero_le _, Nat.zero_le _⟩ (fun _ => rfl) (fun _ => rfl) [a 0, a 1] rfl (fun _ => rfl) (fun u_118 H locs e_118 hP hD hS => ?_)
        refine lv_aload_n F.1 F.2.1 dX6_night_121 rfl (lv_at hl 2 rfl) ?_
        refine lv_iconst (v := 1) F.1 F.2.1 dX6_night_122 (by decide) ?_
        refine vV (rest := []) (wsp := fun _ => oM a v :: [ai ct (a 1) 210 (birU (birU (actF (wbF f (tnF f) (deed f (tnF f))) (tnF f) (deed f (tnF f))) 0 5) 1 5)]) F (kX6_birds l dC dI ct a v (birU (actF (wbF f (tnF f) (deed f (tnF f))) (tnF f) (deed f (tnF f))) 0 5) 1 (by omega)) gX6_night_X6_birds rfl ⟨rfl, rfl⟩ nmX6_birds ⟨Nat.le_of_ble_eq_true rfl, Nat.le_of_ble_eq_true rfl⟩ eT_b (fun _ _ _ => trivial) hK hP hD hS hA 0 rfl rfl rfl [0, 1] (by decide) rfl rfl rfl hl.1 (Nat.le_of_ble_eq_true rfl) dX6_night_123 ⟨Nat.zero_le _, Nat.zero_le _⟩ (fun _ => rfl) (fun _ => rfl) [a 0, a 1] rfl (fun _ => rfl) (fun u_123 H locs e_123 hP hD hS => ?_)
        refine lv_aload_n F.1 F.2.1 dX6_night_126 rfl (lv_at hl 2 rfl) ?_
        refine gf F hK hP 0 rfl rfl hiX6_night_6 0 (by decide) (List.mem_of_getElem? (i := 1) rfl) rfl dX6_night_127 ?_
        refine lv_iconst (v := 0) F.1 F.2.1 dX6_night_130 (by decide) ?_
        refine lv_dup2_11 F.1 F.2.1 dX6_night_131 rfl rfl ?_
        refine al (v := (birU (birU (actF (wbF f (tnF f) (deed f (tnF f))) (tnF f) (deed f (tnF f))) 0 5) 1 5) 0) F hK hP 1 0 rfl rfl 0 rfl (by omega) (by decide) rfl dX6_night_132 ?_
        refine lv_iconst (v := 1) F.1 F.2.1 dX6_night_133 (by decide) ?_
        refine lv_iadd F.1 F.2.1 dX6_night_134 ?_
        refine ast (ws' := oM a v :: [ai ct (a 1) 210 (upd (birU (birU (actF (wbF f (tnF f) (deed f (tnF f))) (tnF f) (deed f (tnF f))) 0 5) 1 5) 0 (((birU (birU (actF (wbF f (tnF f) (deed f (tnF f))) (tnF f) (deed f (tnF f))) 0 5) 1 5) 0) + 1))]) F hK hP hD hS 1 0 rfl rfl 0 rfl (by omega) (by decide) dX6_night_135 (weq.rf _) (fun H locs hP hD hS => ?_)
        refine lv_iload_n F.1 F.2.1 dX6_night_136 rfl (lv_at hl 0 rfl) ?_
        exact rtI () F hr hlk hP hS rfl (by simp [c_23, c_69, c_107]) dX6_night_137
    · refine lv_aload_n F.1 F.2.1 dX6_night_72 rfl (lv_at hl 2 rfl) ?_
      refine lv_iload_n F.1 F.2.1 dX6_night_73 rfl (lv_at hl 1 rfl) ?_
      refine iV (rest := []) (wsp := fun _ => oM a v :: [ai ct (a 1) 210 (wbF f (tnF f) (deed f (tnF f)))]) F (kX6_dearest l dC dI ct a v (wbF f (tnF f) (deed f (tnF f))) (tnF f) (by omega)) gX6_night_X6_dearest rfl ⟨rfl, rfl⟩ nmX6_dearest ⟨Nat.le_of_ble_eq_true rfl, Nat.le_of_ble_eq_true rfl⟩ eT_b (fun _ _ _ => trivial) hK hP hD hS hA 0 rfl rfl rfl [0, 1] (by decide) rfl rfl rfl hl.1 (Nat.le_of_ble_eq_true rfl) dX6_night_74 ⟨Nat.zero_le _, Nat.zero_le _⟩ (fun _ => rfl) (fun _ => rfl) [a 0, a 1] rfl (fun _ => rfl) (fun r_74 u_74 H locs e_74 hP hD hS => ?_)
      obtain rfl := e_74
      obtain ⟨t, ht, et⟩ := hG.2 c_69
      refine tp (y := nI t) et ?_
      refine lv_istore_n (lv' := [(3, .int (nI t)), (2, .int (deed f (tnF f))), (1, .int (nI (tnF f))), (0, .ref (a 0))]) F.1 F.2.1 dX6_night_77 rfl hl (by decide) rfl (fun ls hl => ?_)
      refine lv_aload_n F.1 F.2.1 dX6_night_78 rfl (lv_at hl 3 rfl) ?_
      refine gf F hK hP 0 rfl rfl hiX6_night_6 0 (by decide) (List.mem_of_getElem? (i := 1) rfl) rfl dX6_night_79 ?_
      refine lv_iload_n F.1 F.2.1 dX6_night_82 rfl (lv_at hl 2 rfl) ?_
      refine lv_bipush (v := 7) F.1 F.2.1 dX6_night_83 (by decide) ?_
      refine lv_iload_n F.1 F.2.1 dX6_night_85 rfl (lv_at hl 0 rfl) ?_
      refine lv_iadd F.1 F.2.1 dX6_night_86 ?_
      refine tp (y := nI (7 + t)) (ad2 (a := 7) (b := t) (c := 7 + t) rfl rfl rfl) ?_
      refine iS (rest := [.ref (a 1)]) (wsp := fun _ => oM a v :: [ai ct (a 1) 210 (wbF f (tnF f) (deed f (tnF f)))]) F (kX6_at l dC dI ct (tnF f) (7 + t) (27 + 17 * (tnF f) + t) (by omega)) gX6_night_X6_at rfl ⟨rfl, rfl⟩ nmX6_at ⟨Nat.le_of_ble_eq_true rfl, Nat.le_of_ble_eq_true rfl⟩ eT_b (fun _ _ _ => trivial) hK hP hD hS hA [] (by decide) rfl rfl rfl hl.1 (Nat.le_of_ble_eq_true rfl) dX6_night_87 ⟨Nat.zero_le _, Nat.zero_le _⟩ (fun _ => rfl) (fun _ => rfl) [a 0, a 1] rfl (fun _ => rfl) (fun r_87 u_87 H locs e_87 hP hD hS => ?_)
      obtain rfl := e_87
      refine lv_dup2_11 F.1 F.2.1 dX6_night_90 rfl rfl ?_
      refine al (v := (wbF f (tnF f) (deed f (tnF f))) (27 + 17 * (tnF f) + t)) F hK hP 1 0 rfl rfl (27 + 17 * (tnF f) + t) rfl (by omega) (by decide) rfl dX6_night_91 ?_
      refine lv_iconst (v := 1) F.1 F.2.1 dX6_night_92 (by decide) ?_
      refine lv_isub F.1 F.2.1 dX6_night_93 ?_
      refine ast (ws' := oM a v :: [ai ct (a 1) 210 (upd (wbF f (tnF f) (deed f (tnF f))) (27 + 17 * (tnF f) + t) (((wbF f (tnF f) (deed f (tnF f))) (27 + 17 * (tnF f) + t)) - 1))]) F hK hP hD hS 1 0 rfl rfl (27 + 17 * (tnF f) + t) rfl (by omega) (by decide) dX6_night_94 (weq.rf _) (fun H locs hP hD hS => ?_)
      refine lv_aload_n F.1 F.2.1 dX6_night_95 rfl (lv_at hl 3 rfl) ?_
      refine lv_iload_n F.1 F.2.1 dX6_night_96 rfl (lv_at hl 2 rfl) ?_
      refine lv_iload_n F.1 F.2.1 dX6_night_97 rfl (lv_at hl 0 rfl) ?_
      refine lv_iconst (v := 1) F.1 F.2.1 dX6_night_98 (by decide) ?_
      refine vV (rest := []) (wsp := fun _ => oM a v :: [ai ct (a 1) 210 (comeH (upd (wbF f (tnF f) (deed f (tnF f))) (27 + 17 * (tnF f) + t) (((wbF f (tnF f) (deed f (tnF f))) (27 + 17 * (tnF f) + t)) - 1)) (tnF f) t 1)]) F (kX6_comesHome l dC dI ct a v (upd (wbF f (tnF f) (deed f (tnF f))) (27 + 17 * (tnF f) + t) (((wbF f (tnF f) (deed f (tnF f))) (27 + 17 * (tnF f) + t)) - 1)) (tnF f) t 1 (by omega) (by omega)) gX6_night_X6_comesHome rfl ⟨rfl, rfl⟩ nmX6_comesHome ⟨Nat.le_of_ble_eq_true rfl, Nat.le_of_ble_eq_true rfl⟩ eT_b (fun _ _ _ => trivial) hK hP hD hS hA 0 rfl rfl rfl [0, 1] (by decide) rfl rfl rfl hl.1 (Nat.le_of_ble_eq_true rfl) dX6_night_99 ⟨Nat.zero_le _, Nat.zero_le _⟩ (fun _ => rfl) (fun _ => rfl) [a 0, a 1] rfl (fun _ => rfl) (fun u_99 H locs e_99 hP hD hS => ?_)
      refine lv_goto (tgt := 116) F.1 F.2.1 dX6_night_102 (by decide) ?_
      have eq_116 : comeH (upd (wbF f (tnF f) (deed f (tnF f))) (27 + 17 * (tnF f) + t) (((wbF f (tnF f) (deed f (tnF f))) (27 + 17 * (tnF f) + t)) - 1)) (tnF f) t 1 = actF (wbF f (tnF f) (deed f (tnF f))) (tnF f) (deed f (tnF f)) := (by rw [show actF (wbF f (tnF f) (deed f (tnF f))) (tnF f) (deed f (tnF f)) = lesF (wbF f (tnF f) (deed f (tnF f))) (tnF f) (deaU (wbF f (tnF f) (deed f (tnF f))) (tnF f) 5).1.toNatClampNeg from (if_neg c_23).trans (if_pos c_69), et, nI_clamp (by omega)]; rfl)
      rw [eq_116] at hP hD
      refine lv_aload_n F.1 F.2.1 dX6_night_116 rfl (lv_at hl 3 rfl) ?_
      refine lv_iconst (v := 0) F.1 F.2.1 dX6_night_117 (by decide) ?_
      refine vV (rest := []) (wsp := fun _ => oM a v :: [ai ct (a 1) 210 (birU (actF (wbF f (tnF f) (deed f (tnF f))) (tnF f) (deed f (tnF f))) 0 5)]) F (kX6_birds l dC dI ct a v (actF (wbF f (tnF f) (deed f (tnF f))) (tnF f) (deed f (tnF f))) 0 (by omega)) gX6_night_X6_birds rfl ⟨rfl, rfl⟩ nmX6_birds ⟨Nat.le_of_ble_eq_true rfl, Nat.le_of_ble_eq_true rfl⟩ eT_b (fun _ _ _ => trivial) hK hP hD hS hA 0 rfl rfl rfl [0, 1] (by decide) rfl rfl rfl hl.1 (Nat.le_of_ble_eq_true rfl) dX6_night_118 ⟨Nat.zero_le _, Nat.zero_le _⟩ (fun _ => rfl) (fun _ => rfl) [a 0, a 1] rfl (fun _ => rfl) (fun u_118 H locs e_118 hP hD hS => ?_)
      refine lv_aload_n F.1 F.2.1 dX6_night_121 rfl (lv_at hl 3 rfl) ?_
      refine lv_iconst (v := 1) F.1 F.2.1 dX6_night_122 (by decide) ?_
      refine vV (rest := []) (wsp := fun _ => oM a v :: [ai ct (a 1) 210 (birU (birU (actF (wbF f (tnF f) (deed f (tnF f))) (tnF f) (deed f (tnF f))) 0 5) 1 5)]) F (kX6_birds l dC dI ct a v (birU (actF (wbF f (tnF f) (deed f (tnF f))) (tnF f) (deed f (tnF f))) 0 5) 1 (by omega)) gX6_night_X6_birds rfl ⟨rfl, rfl⟩ nmX6_birds ⟨Nat.le_of_ble_eq_true rfl, Nat.le_of_ble_eq_true rfl⟩ eT_b (fun _ _ _ => trivial) hK hP hD hS hA 0 rfl rfl rfl [0, 1] (by decide) rfl rfl rfl hl.1 (Nat.le_of_ble_eq_true rfl) dX6_night_123 ⟨Nat.zero_le _, Nat.zero_le _⟩ (fun _ => rfl) (fun _ => rfl) [a 0, a 1] rfl (fun _ => rfl) (fun u_123 H locs e_123 hP hD hS => ?_)
      refine lv_aload_n F.1 F.2.1 dX6_night_126 rfl (lv_at hl 3 rfl) ?_
      refine gf F hK hP 0 rfl rfl hiX6_night_6 0 (by decide) (List.mem_of_getElem? (i := 1) rfl) rfl dX6_night_127 ?_
      refine lv_iconst (v := 0) F.1 F.2.1 dX6_night_130 (by decide) ?_
      refine lv_dup2_11 F.1 F.2.1 dX6_night_131 rfl rfl ?_
      refine al (v := (birU (birU (actF (wbF f (tnF f) (deed f (tnF f))) (tnF f) (deed f (tnF f))) 0 5) 1 5) 0) F hK hP 1 0 rfl rfl 0 rfl (by omega) (by decide) rfl dX6_night_132 ?_
      refine lv_iconst (v := 1) F.1 F.2.1 dX6_night_133 (by decide) ?_
      refine lv_iadd F.1 F.2.1 dX6_night_134 ?_
      refine ast (ws' := oM a v :: [ai ct (a 1) 210 (upd (birU (birU (actF (wbF f (tnF f) (deed f (tnF f))) (tnF f) (deed f (tnF f))) 0 5) 1 5) 0 (((birU (birU (actF (wbF f (tnF f) (deed f (tnF f))) (tnF f) (deed f (tnF f))) 0 5) 1 5) 0) + 1))]) F hK hP hD hS 1 0 rfl rfl 0 rfl (by omega) (by decide) dX6_night_135 (weq.rf _) (fun H locs hP hD hS => ?_)
      refine lv_iload_n F.1 F.2.1 dX6_night_136 rfl (lv_at hl 1 rfl) ?_
      exact rtI () F hr hlk hP hS rfl (by simp [c_23, c_69]) dX6_night_137
  · refine lv_aload_n F.1 F.2.1 dX6_night_26 rfl (lv_at hl 2 rfl) ?_
    refine lv_iload_n F.1 F.2.1 dX6_night_27 rfl (lv_at hl 1 rfl) ?_
    refine lv_iconst (v := 1) F.1 F.2.1 dX6_night_28 (by decide) ?_
    refine lv_iload_n F.1 F.2.1 dX6_night_29 rfl (lv_at hl 1 rfl) ?_
    refine lv_isub F.1 F.2.1 dX6_night_30 ?_
    refine tp (y := nI (1 - tnF f)) (sb2 (a := 1) (b := tnF f) (c := 1 - tnF f) rfl rfl (by omega)) ?_
    refine vV (rest := []) (wsp := fun _ => oM a v :: [ai ct (a 1) 210 (goU (wbF f (tnF f) (deed f (tnF f))) (tnF f) (1 - tnF f) 5)]) F (kX6_goesHome l dC dI ct a v (wbF f (tnF f) (deed f (tnF f))) (tnF f) (1 - tnF f) (by omega) (by omega)) gX6_night_X6_goesHome rfl ⟨rfl, rfl⟩ nmX6_goesHome ⟨Nat.le_of_ble_eq_true rfl, Nat.le_of_ble_eq_true rfl⟩ eT_b (fun _ _ _ => trivial) hK hP hD hS hA 0 rfl rfl rfl [0, 1] (by decide) rfl rfl rfl hl.1 (Nat.le_of_ble_eq_true rfl) dX6_night_31 ⟨Nat.zero_le _, Nat.zero_le _⟩ (fun _ => rfl) (fun _ => rfl) [a 0, a 1] rfl (fun _ => rfl) (fun u_31 H locs e_31 hP hD hS => ?_)
    refine lv_aload_n F.1 F.2.1 dX6_night_34 rfl (lv_at hl 2 rfl) ?_
    refine lv_iconst (v := 1) F.1 F.2.1 dX6_night_35 (by decide) ?_
    refine lv_iload_n F.1 F.2.1 dX6_night_36 rfl (lv_at hl 1 rfl) ?_
    refine lv_isub F.1 F.2.1 dX6_night_37 ?_
    refine tp (y := nI (1 - tnF f)) (sb2 (a := 1) (b := tnF f) (c := 1 - tnF f) rfl rfl (by omega)) ?_
    refine lv_iload_n F.1 F.2.1 dX6_night_38 rfl (lv_at hl 1 rfl) ?_
    refine vV (rest := []) (wsp := fun _ => oM a v :: [ai ct (a 1) 210 (goU (goU (wbF f (tnF f) (deed f (tnF f))) (tnF f) (1 - tnF f) 5) (1 - tnF f) (tnF f) 5)]) F (kX6_goesHome l dC dI ct a v (goU (wbF f (tnF f) (deed f (tnF f))) (tnF f) (1 - tnF f) 5) (1 - tnF f) (tnF f) (by omega) (by omega)) gX6_night_X6_goesHome rfl ⟨rfl, rfl⟩ nmX6_goesHome ⟨Nat.le_of_ble_eq_true rfl, Nat.le_of_ble_eq_true rfl⟩ eT_b (fun _ _ _ => trivial) hK hP hD hS hA 0 rfl rfl rfl [0, 1] (by decide) rfl rfl rfl hl.1 (Nat.le_of_ble_eq_true rfl) dX6_night_39 ⟨Nat.zero_le _, Nat.zero_le _⟩ (fun _ => rfl) (fun _ => rfl) [a 0, a 1] rfl (fun _ => rfl) (fun u_39 H locs e_39 hP hD hS => ?_)
    refine lv_aload_n F.1 F.2.1 dX6_night_42 rfl (lv_at hl 2 rfl) ?_
    refine lv_iload_n F.1 F.2.1 dX6_night_43 rfl (lv_at hl 1 rfl) ?_
    refine vV (rest := []) (wsp := fun _ => oM a v :: [ai ct (a 1) 210 (truF (goU (goU (wbF f (tnF f) (deed f (tnF f))) (tnF f) (1 - tnF f) 5) (1 - tnF f) (tnF f) 5) (tnF f))]) F (kX6_trusts l dC dI ct a v (goU (goU (wbF f (tnF f) (deed f (tnF f))) (tnF f) (1 - tnF f) 5) (1 - tnF f) (tnF f) 5) (tnF f) (by omega)) gX6_night_X6_trusts rfl ⟨rfl, rfl⟩ nmX6_trusts ⟨Nat.le_of_ble_eq_true rfl, Nat.le_of_ble_eq_true rfl⟩ eT_b (fun _ _ _ => trivial) hK hP hD hS hA 0 rfl rfl rfl [0, 1] (by decide) rfl rfl rfl hl.1 (Nat.le_of_ble_eq_true rfl) dX6_night_44 ⟨Nat.zero_le _, Nat.zero_le _⟩ (fun _ => rfl) (fun _ => rfl) [a 0, a 1] rfl (fun _ => rfl) (fun u_44 H locs e_44 hP hD hS => ?_)
    refine lv_aload_n F.1 F.2.1 dX6_night_47 rfl (lv_at hl 2 rfl) ?_
    refine lv_iconst (v := 1) F.1 F.2.1 dX6_night_48 (by decide) ?_
    refine lv_iload_n F.1 F.2.1 dX6_night_49 rfl (lv_at hl 1 rfl) ?_
    refine lv_isub F.1 F.2.1 dX6_night_50 ?_
    refine tp (y := nI (1 - tnF f)) (sb2 (a := 1) (b := tnF f) (c := 1 - tnF f) rfl rfl (by omega)) ?_
    refine vV (rest := []) (wsp := fun _ => oM a v :: [ai ct (a 1) 210 (truF (truF (goU (goU (wbF f (tnF f) (deed f (tnF f))) (tnF f) (1 - tnF f) 5) (1 - tnF f) (tnF f) 5) (tnF f)) (1 - tnF f))]) F (kX6_trusts l dC dI ct a v (truF (goU (goU (wbF f (tnF f) (deed f (tnF f))) (tnF f) (1 - tnF f) 5) (1 - tnF f) (tnF f) 5) (tnF f)) (1 - tnF f) (by omega)) gX6_night_X6_trusts rfl ⟨rfl, rfl⟩ nmX6_trusts ⟨Nat.le_of_ble_eq_true rfl, Nat.le_of_ble_eq_true rfl⟩ eT_b (fun _ _ _ => trivial) hK hP hD hS hA 0 rfl rfl rfl [0, 1] (by decide) rfl rfl rfl hl.1 (Nat.le_of_ble_eq_true rfl) dX6_night_51 ⟨Nat.zero_le _, Nat.zero_le _⟩ (fun _ => rfl) (fun _ => rfl) [a 0, a 1] rfl (fun _ => rfl) (fun u_51 H locs e_51 hP hD hS => ?_)
    refine lv_aload_n F.1 F.2.1 dX6_night_54 rfl (lv_at hl 2 rfl) ?_
    refine gf F hK hP 0 rfl rfl hiX6_night_6 0 (by decide) (List.mem_of_getElem? (i := 1) rfl) rfl dX6_night_55 ?_
    refine lv_iconst (v := 2) F.1 F.2.1 dX6_night_58 (by decide) ?_
    refine lv_dup2_11 F.1 F.2.1 dX6_night_59 rfl rfl ?_
    refine al (v := (truF (truF (goU (goU (wbF f (tnF f) (deed f (tnF f))) (tnF f) (1 - tnF f) 5) (1 - tnF f) (tnF f) 5) (tnF f)) (1 - tnF f)) 2) F hK hP 1 0 rfl rfl 2 rfl (by omega) (by decide) rfl dX6_night_60 ?_
    refine lv_iconst (v := 1) F.1 F.2.1 dX6_night_61 (by decide) ?_
    refine lv_iadd F.1 F.2.1 dX6_night_62 ?_
    refine ast (ws' := oM a v :: [ai ct (a 1) 210 (upd (truF (truF (goU (goU (wbF f (tnF f) (deed f (tnF f))) (tnF f) (1 - tnF f) 5) (1 - tnF f) (tnF f) 5) (tnF f)) (1 - tnF f)) 2 (((truF (truF (goU (goU (wbF f (tnF f) (deed f (tnF f))) (tnF f) (1 - tnF f) 5) (1 - tnF f) (tnF f) 5) (tnF f)) (1 - tnF f)) 2) + 1))]) F hK hP hD hS 1 0 rfl rfl 2 rfl (by omega) (by decide) dX6_night_63 (weq.rf _) (fun H locs hP hD hS => ?_)
    refine lv_goto (tgt := 116) F.1 F.2.1 dX6_night_64 (by decide) ?_
    have eq_116 : upd (truF (truF (goU (goU (wbF f (tnF f) (deed f (tnF f))) (tnF f) (1 - tnF f) 5) (1 - tnF f) (tnF f) 5) (tnF f)) (1 - tnF f)) 2 (((truF (truF (goU (goU (wbF f (tnF f) (deed f (tnF f))) (tnF f) (1 - tnF f) 5) (1 - tnF f) (tnF f) 5) (tnF f)) (1 - tnF f)) 2) + 1) = actF (wbF f (tnF f) (deed f (tnF f))) (tnF f) (deed f (tnF f)) := (if_pos c_23).symm
    rw [eq_116] at hP hD
    refine lv_aload_n F.1 F.2.1 dX6_night_116 rfl (lv_at hl 2 rfl) ?_
    refine lv_iconst (v := 0) F.1 F.2.1 dX6_night_117 (by decide) ?_
    refine vV (rest := []) (wsp := fun _ => oM a v :: [ai ct (a 1) 210 (birU (actF (wbF f (tnF f) (deed f (tnF f))) (tnF f) (deed f (tnF f))) 0 5)]) F (kX6_birds l dC dI ct a v (actF (wbF f (tnF f) (deed f (tnF f))) (tnF f) (deed f (tnF f))) 0 (by omega)) gX6_night_X6_birds rfl ⟨rfl, rfl⟩ nmX6_birds ⟨Nat.le_of_ble_eq_true rfl, Nat.le_of_ble_eq_true rfl⟩ eT_b (fun _ _ _ => trivial) hK hP hD hS hA 0 rfl rfl rfl [0, 1] (by decide) rfl rfl rfl hl.1 (Nat.le_of_ble_eq_true rfl) dX6_night_118 ⟨Nat.zero_le _, Nat.zero_le _⟩ (fun _ => rfl) (fun _ => rfl) [a 0, a 1] rfl (fun _ => rfl) (fun u_118 H locs e_118 hP hD hS => ?_)
    refine lv_aload_n F.1 F.2.1 dX6_night_121 rfl (lv_at hl 2 rfl) ?_
    refine lv_iconst (v := 1) F.1 F.2.1 dX6_night_122 (by decide) ?_
    refine vV (rest := []) (wsp := fun _ => oM a v :: [ai ct (a 1) 210 (birU (birU (actF (wbF f (tnF f) (deed f (tnF f))) (tnF f) (deed f (tnF f))) 0 5) 1 5)]) F (kX6_birds l dC dI ct a v (birU (actF (wbF f (tnF f) (deed f (tnF f))) (tnF f) (deed f (tnF f))) 0 5) 1 (by omega)) gX6_night_X6_birds rfl ⟨rfl, rfl⟩ nmX6_birds ⟨Nat.le_of_ble_eq_true rfl, Nat.le_of_ble_eq_true rfl⟩ eT_b (fun _ _ _ => trivial) hK hP hD hS hA 0 rfl rfl rfl [0, 1] (by decide) rfl rfl rfl hl.1 (Nat.le_of_ble_eq_true rfl) dX6_night_123 ⟨Nat.zero_le _, Nat.zero_le _⟩ (fun _ => rfl) (fun _ => rfl) [a 0, a 1] rfl (fun _ => rfl) (fun u_123 H locs e_123 hP hD hS => ?_)
    refine lv_aload_n F.1 F.2.1 dX6_night_126 rfl (lv_at hl 2 rfl) ?_
    refine gf F hK hP 0 rfl rfl hiX6_night_6 0 (by decide) (List.mem_of_getElem? (i := 1) rfl) rfl dX6_night_127 ?_
    refine lv_iconst (v := 0) F.1 F.2.1 dX6_night_130 (by decide) ?_
    refine lv_dup2_11 F.1 F.2.1 dX6_night_131 rfl rfl ?_
    refine al (v := (birU (birU (actF (wbF f (tnF f) (deed f (tnF f))) (tnF f) (deed f (tnF f))) 0 5) 1 5) 0) F hK hP 1 0 rfl rfl 0 rfl (by omega) (by decide) rfl dX6_night_132 ?_
    refine lv_iconst (v := 1) F.1 F.2.1 dX6_night_133 (by decide) ?_
    refine lv_iadd F.1 F.2.1 dX6_night_134 ?_
    refine ast (ws' := oM a v :: [ai ct (a 1) 210 (upd (birU (birU (actF (wbF f (tnF f) (deed f (tnF f))) (tnF f) (deed f (tnF f))) 0 5) 1 5) 0 (((birU (birU (actF (wbF f (tnF f) (deed f (tnF f))) (tnF f) (deed f (tnF f))) 0 5) 1 5) 0) + 1))]) F hK hP hD hS 1 0 rfl rfl 0 rfl (by omega) (by decide) dX6_night_135 (weq.rf _) (fun H locs hP hD hS => ?_)
    refine lv_iload_n F.1 F.2.1 dX6_night_136 rfl (lv_at hl 0 rfl) ?_
    exact rtI () F hr hlk hP hS rfl (by simp [c_23]) dX6_night_137

def rmX6_nightsGo : Room := { frames := 8, cells := 0, slots := 0, locals := 179 }
theorem nmX6_nightsGo : NmV yX6_nightsGo RX6 1 := by unfold NmV; decide +kernel
set_option maxHeartbeats 4000000 in
set_option maxRecDepth 100000 in
theorem kX6_nightsGo (l : Launch) (dC : Nat → ClassId) (dI : Nat → Nat → Nat) (ct : Nat → ClassId) (a : Nat → Nat) (v f : Nat → Int32) (n : Nat) (hn : n < 2147483648) (hG : ∀ k, k < n → Gd (ngU f k)) : MI (S := Unit) l yX6_nightsGo wsX6_nightsGo rmX6_nightsGo dC dI ct eT [.ref (a 0), .int (nI n)] (oM a v :: [ai ct (a 1) 210 f]) (fun _ => oM a v :: [ai ct (a 1) 210 (ngU f n)]) (fun r _ => r = tkU f n) := by
  refine MI.of (cc := cX6_nightsGo) (maxL := 4) (ret := (some .int)) (by decide) rfl (Nat.le_of_ble_eq_true rfl) ?_
  intro pg en z mi below meth cd A F hr hlk hin hK hP hD hA hS hE ls hl
  have F : CallFix pg mi cd cX6_nightsGo 4 z _ wsX6_nightsGo RX6 := F
  have hl : lv_has ls 4 [(0, .ref (a 0)), (1, .int (nI n))] := hl
  refine lv_iconst (v := 0) F.1 F.2.1 dX6_nightsGo_0 (by decide) ?_
  refine lv_istore_n (lv' := [(2, .int 0), (0, .ref (a 0)), (1, .int (nI n))]) F.1 F.2.1 dX6_nightsGo_1 rfl hl (by decide) rfl (fun ls hl => ?_)
  refine lv_iconst (v := 0) F.1 F.2.1 dX6_nightsGo_2 (by decide) ?_
  refine lv_istore_n (lv' := [(3, .int 0), (2, .int 0), (0, .ref (a 0)), (1, .int (nI n))]) F.1 F.2.1 dX6_nightsGo_3 rfl hl (by decide) rfl (fun ls hl => ?_)
  refine loopN (I := fun k H locs ls => va_P (dC, dI) vwCl (oM a v :: [ai ct (a 1) 210 (ngU f k)]) H ∧ va_D A (oM a v :: [ai ct (a 1) 210 (ngU f k)]) ∧ va_S A z.heap H locs ∧ lv_has ls 4 [(3, .int (nI k)), (2, .int (tkU f k)), (0, .ref (a 0)), (1, .int (nI n))]) n 0 (by omega) ⟨hP, hD, hS, lv_sub hl [0, 1, 2, 3] rfl⟩ (fun H locs ls hI => ?_) (fun k hk_k H locs ls hI ih_4 => ?_)
  · obtain ⟨hP, hD, hS, hl⟩ := hI
    refine lv_iload_n F.1 F.2.1 dX6_nightsGo_4 rfl (lv_at hl 0 rfl) ?_
    refine lv_iload_n F.1 F.2.1 dX6_nightsGo_5 rfl (lv_at hl 3 rfl) ?_
    refine lv_icmp_ge (tgt := 31) F.1 F.2.1 dX6_nightsGo_6 (by decide) (fun c_6 => ?_) (fun c_6 => ?_)
    · refine lv_iload_n F.1 F.2.1 dX6_nightsGo_31 rfl (lv_at hl 1 rfl) ?_
      exact rtI () F hr hlk hP hS rfl (by simp [c_6, Int32.not_lt.mpr c_6]) dX6_nightsGo_32
    · exact absurd (nI_le (Nat.le_refl _) hn) c_6
  · obtain ⟨hP, hD, hS, hl⟩ := hI
    refine lv_iload_n F.1 F.2.1 dX6_nightsGo_4 rfl (lv_at hl 0 rfl) ?_
    refine lv_iload_n F.1 F.2.1 dX6_nightsGo_5 rfl (lv_at hl 3 rfl) ?_
    refine lv_icmp_ge (tgt := 31) F.1 F.2.1 dX6_nightsGo_6 (by decide) (fun c_6 => ?_) (fun c_6 => ?_)
    · exact absurd c_6 (nI_ge hk_k hn)
    · refine lv_iload_n F.1 F.2.1 dX6_nightsGo_9 rfl (lv_at hl 1 rfl) ?_
      refine lv_aload_n F.1 F.2.1 dX6_nightsGo_10 rfl (lv_at hl 2 rfl) ?_
      refine iV (rest := [.int (tkU f k)]) (wsp := fun _ => oM a v :: [ai ct (a 1) 210 (nite (ngU f k))]) F (kX6_night l dC dI ct a v (ngU f k) (hG k hk_k)) gX6_nightsGo_X6_night rfl ⟨rfl, rfl⟩ nmX6_night ⟨Nat.le_of_ble_eq_true rfl, Nat.le_of_ble_eq_true rfl⟩ eT_b (fun _ _ _ => trivial) hK hP hD hS hA 0 rfl rfl rfl [0, 1] (by decide) rfl rfl rfl hl.1 (Nat.le_of_ble_eq_true rfl) dX6_nightsGo_11 ⟨Nat.zero_le _, Nat.zero_le _⟩ (fun _ => rfl) (fun _ => rfl) [a 0, a 1] rfl (fun _ => rfl) (fun r_11 u_11 H locs e_11 hP hD hS => ?_)
      obtain rfl := e_11
      refine lv_iconst (v := 1) F.1 F.2.1 dX6_nightsGo_14 (by decide) ?_
      refine lv_icmp_ne (tgt := 22) F.1 F.2.1 dX6_nightsGo_15 (by decide) (fun c_15 => ?_) (fun c_15 => ?_)
      · refine lv_iconst (v := 0) F.1 F.2.1 dX6_nightsGo_22 (by decide) ?_
        refine lv_iadd F.1 F.2.1 dX6_nightsGo_23 ?_
        refine lv_istore_n (lv' := [(2, .int ((tkU f k) + 0)), (3, .int (nI k)), (0, .ref (a 0)), (1, .int (nI n))]) F.1 F.2.1 dX6_nightsGo_24 rfl hl (by decide) rfl (fun ls hl => ?_)
        refine lv_iinc (v := nI (k + 1)) (lv' := [(3, .int (nI (k + 1))), (2, .int ((tkU f k) + 0)), (0, .ref (a 0)), (1, .int (nI n))]) F.1 F.2.1 dX6_nightsGo_25 hl (k := 1) rfl (by rw [show Int32.ofInt 1 = nI 1 from rfl, nI_add]) (by decide) rfl (fun ls hl => ?_)
        refine lv_goto (tgt := 4) F.1 F.2.1 dX6_nightsGo_28 (by decide) ?_
        have eb : tkU f (k + 1) = tkU f k + 0 := congrArg (tkU f k + ·) (if_neg c_15)
        exact ih_4 _ _ _ ⟨hP, hD, hS, lv_sub hl [0, 1, 2, 3] (by rw [eb]; rfl)⟩
      · refine lv_iconst (v := 1) F.1 F.2.1 dX6_nightsGo_18 (by decide) ?_
        refine lv_goto (tgt := 23) F.1 F.2.1 dX6_nightsGo_19 (by decide) ?_
        refine lv_iadd F.1 F.2.1 dX6_nightsGo_23 ?_
        refine lv_istore_n (lv' := [(2, .int ((tkU f k) + 1)), (3, .int (nI k)), (0, .ref (a 0)), (1, .int (nI n))]) F.1 F.2.1 dX6_nightsGo_24 rfl hl (by decide) rfl (fun ls hl => ?_)
        refine lv_iinc (v := nI (k + 1)) (lv' := [(3, .int (nI (k + 1))), (2, .int ((tkU f k) + 1)), (0, .ref (a 0)), (1, .int (nI n))]) F.1 F.2.1 dX6_nightsGo_25 hl (k := 1) rfl (by rw [show Int32.ofInt 1 = nI 1 from rfl, nI_add]) (by decide) rfl (fun ls hl => ?_)
        refine lv_goto (tgt := 4) F.1 F.2.1 dX6_nightsGo_28 (by decide) ?_
        have eb : tkU f (k + 1) = tkU f k + 1 := congrArg (tkU f k + ·) (if_pos c_15)
        exact ih_4 _ _ _ ⟨hP, hD, hS, lv_sub hl [0, 1, 2, 3] (by rw [eb]; rfl)⟩
