def rmX6_bits : Room := { frames := 0, cells := 0, slots := 0, locals := 0 }
theorem nmX6_bits : NmV yX6_bits RX6 1 := by unfold NmV; decide +kernel
set_option maxHeartbeats 4000000 in
set_option maxRecDepth 100000 in
theorem kX6_bits (l : Launch) (dC : Nat → ClassId) (dI : Nat → Nat → Nat) (ct : Nat → ClassId) (w : Int32) (y : Nat) (hx : y < 16777216) (hw : w = nI y) : MI (S := Unit) l yX6_bits wsX6_bits rmX6_bits dC dI ct eT [.int w] ([] : va_W) (fun _ => ([] : va_W)) (fun r _ => r = bcF w) := by
  refine MI.of (cc := cX6_bits) (maxL := 3) (ret := (some .int)) (by decide) rfl (Nat.le_of_ble_eq_true rfl) ?_
  intro pg en z mi below meth cd A F hr hlk hin hK hP hD hA hS hE ls hl
  have F : CallFix pg mi cd cX6_bits 3 z _ wsX6_bits RX6 := F
  have hl : lv_has ls 3 [(0, .int w)] := hl
  refine lv_iconst (v := 0) F.1 F.2.1 dX6_bits_0 (by decide) ?_
  refine lv_istore_n (lv' := [(1, .int 0), (0, .int w)]) F.1 F.2.1 dX6_bits_1 rfl hl (by decide) rfl (fun ls hl => ?_)
  refine lv_iload_n F.1 F.2.1 dX6_bits_2 rfl (lv_at hl 1 rfl) ?_
  refine tp (y := nI y) hw ?_
  refine lv_istore_n (lv' := [(2, .int (nI y)), (1, .int 0), (0, .int w)]) F.1 F.2.1 dX6_bits_3 rfl hl (by decide) rfl (fun ls hl => ?_)
  refine loopM (σ := Nat × Nat) (I := fun x H locs ls => va_P (dC, dI) vwCl ([] : va_W) H ∧ va_D A ([] : va_W) ∧ va_S A z.heap H locs ∧ lv_has ls 3 [(1, .int (nI x.1)), (2, .int (nI x.2)), (0, .int w)] ∧ x.2 < 16777216 ∧ x.1 + pcN x.2 = pcN y) (fun x => pcN x.2) ((0 : Nat), y) ⟨hP, hD, hS, lv_sub hl [1, 0, 2] rfl, ⟨hx, Nat.zero_add _⟩⟩ (fun x H locs ls hI ih_4 => ?_)
  obtain ⟨hP, hD, hS, hl, hx1, hx2⟩ := hI
  refine lv_iload_n F.1 F.2.1 dX6_bits_4 rfl (lv_at hl 1 rfl) ?_
  refine lv_if_eq (tgt := 20) F.1 F.2.1 dX6_bits_5 (by decide) (fun c_5 => ?_) (fun c_5 => ?_)
  · refine lv_iload_n F.1 F.2.1 dX6_bits_20 rfl (lv_at hl 0 rfl) ?_
    exact rtI () F hr hlk hP hS rfl (by have e0 : x.2 = 0 := nI_of_eq (b := 0) c_5 (by omega) (by omega); rw [e0, pc_0] at hx2; rw [hw, bcF_pc hx, ← hx2]; rfl) dX6_bits_21
  · refine lv_iinc (v := nI (x.1 + 1)) (lv' := [(1, .int (nI (x.1 + 1))), (2, .int (nI x.2)), (0, .int w)]) F.1 F.2.1 dX6_bits_8 hl (k := 0) rfl (by rw [show Int32.ofInt 1 = nI 1 from rfl, nI_add]) (by decide) rfl (fun ls hl => ?_)
    refine lv_iload_n F.1 F.2.1 dX6_bits_11 rfl (lv_at hl 1 rfl) ?_
    refine lv_iload_n F.1 F.2.1 dX6_bits_12 rfl (lv_at hl 1 rfl) ?_
    refine lv_iconst (v := 1) F.1 F.2.1 dX6_bits_13 (by decide) ?_
    have hpo : 0 < x.2 := Nat.pos_of_ne_zero (fun q => c_5 (by rw [q]; rfl))
    refine lv_isub F.1 F.2.1 dX6_bits_14 ?_
    refine tp (y := nI (x.2 - 1)) (sb2 (a := x.2) (b := 1) (c := x.2 - 1) rfl rfl (by omega)) ?_
    refine lv_iand F.1 F.2.1 dX6_bits_15 ?_
    refine tp (y := nI (x.2 &&& (x.2 - 1))) (nI_and _ _) ?_
    refine lv_istore_n (lv' := [(2, .int (nI (x.2 &&& (x.2 - 1)))), (1, .int (nI (x.1 + 1))), (0, .int w)]) F.1 F.2.1 dX6_bits_16 rfl hl (by decide) rfl (fun ls hl => ?_)
    refine lv_goto (tgt := 4) F.1 F.2.1 dX6_bits_17 (by decide) ?_
    have hs := pc_step hx1 (fun q => c_5 (by rw [q]; rfl))
    exact ih_4 (x.1 + 1, x.2 &&& (x.2 - 1)) _ _ _ (show pcN (x.2 &&& (x.2 - 1)) < pcN x.2 by omega) ⟨hP, hD, hS, lv_sub hl [1, 0, 2] rfl, ⟨hs.2, (show x.1 + 1 + pcN (x.2 &&& (x.2 - 1)) = pcN y by omega)⟩⟩

def rmX6_known : Room := { frames := 6, cells := 0, slots := 0, locals := 149 }
theorem nmX6_known : NmV yX6_known RX6 1 := by unfold NmV; decide +kernel
set_option maxHeartbeats 4000000 in
set_option maxRecDepth 100000 in
theorem kX6_known (l : Launch) (dC : Nat → ClassId) (dI : Nat → Nat → Nat) (ct : Nat → ClassId) (a : Nat → Nat) (v f c : Nat → Int32) (x1 : Int32) (hRg : Rg f) : MI (S := (Nat → Int32) × (Nat → Int32)) l yX6_known wsX6_known rmX6_known dC dI ct eT [.ref (a 0), .int x1] (oM a v :: ai ct (a 1) 210 f :: [ai ct (a 4) 8 c]) (fun u => oM a v :: ai ct (a 1) 210 u.1 :: [ai ct (a 4) 8 u.2]) (fun r u => (r, u.1, u.2) = sKnown f c x1) := by
  refine MI.of (cc := cX6_known) (maxL := 6) (ret := (some .int)) (by decide) rfl (Nat.le_of_ble_eq_true rfl) ?_
  intro pg en z mi below meth cd A F hr hlk hin hK hP hD hA hS hE ls hl
  have F : CallFix pg mi cd cX6_known 6 z _ wsX6_known RX6 := F
  have hl : lv_has ls 6 [(0, .ref (a 0)), (1, .int x1)] := hl
  refine lv_iload_n F.1 F.2.1 dX6_known_0 rfl (lv_at hl 1 rfl) ?_
  refine iS (rest := []) (wsp := fun _ => oM a v :: ai ct (a 1) 210 f :: [ai ct (a 4) 8 c]) F (kX6_isSide l dC dI ct x1) gX6_known_X6_isSide rfl ⟨rfl, rfl⟩ nmX6_isSide ⟨Nat.le_of_ble_eq_true rfl, Nat.le_of_ble_eq_true rfl⟩ eT_b (fun _ _ _ => trivial) hK hP hD hS hA [] (by decide) rfl rfl rfl hl.1 (Nat.le_of_ble_eq_true rfl) dX6_known_1 ⟨Nat.zero_le _, Nat.zero_le _⟩ (fun _ => rfl) (fun _ => rfl) [a 0, a 1, a 4] rfl (fun _ => rfl) (fun r_1 u_1 H locs e_1 hP hD hS => ?_)
  obtain rfl := e_1
  refine lv_if_ne (tgt := 14) F.1 F.2.1 dX6_known_4 (by decide) (fun c_4 => ?_) (fun c_4 => ?_)
  · have c_4 : 0 ≤ x1 ∧ x1 ≤ 1 := b01t rfl c_4
    obtain ⟨s, hs, rfl⟩ := gS_n c_4
    refine lv_iconst (v := (-1)) F.1 F.2.1 dX6_known_14 (by decide) ?_
    refine lv_istore_n (lv' := [(2, .int (-1)), (0, .ref (a 0)), (1, .int (nI s))]) F.1 F.2.1 dX6_known_15 rfl hl (by decide) rfl (fun ls hl => ?_)
    refine lv_iconst (v := 0) F.1 F.2.1 dX6_known_16 (by decide) ?_
    refine lv_istore_n (lv' := [(3, .int 0), (2, .int (-1)), (0, .ref (a 0)), (1, .int (nI s))]) F.1 F.2.1 dX6_known_17 rfl hl (by decide) rfl (fun ls hl => ?_)
    refine lv_iconst (v := 0) F.1 F.2.1 dX6_known_18 (by decide) ?_
    refine lv_istore (lv' := [(4, .int 0), (3, .int 0), (2, .int (-1)), (0, .ref (a 0)), (1, .int (nI s))]) F.1 F.2.1 dX6_known_19 hl (by decide) rfl (fun ls hl => ?_)
    refine loopN (I := fun k H locs ls => va_P (dC, dI) vwCl (oM a v :: ai ct (a 1) 210 f :: [ai ct (a 4) 8 c]) H ∧ va_D A (oM a v :: ai ct (a 1) 210 f :: [ai ct (a 4) 8 c]) ∧ va_S A z.heap H locs ∧ lv_has ls 6 [(4, .int (nI k)), (3, .int ((knU f s k).2)), (2, .int ((knU f s k).1)), (0, .ref (a 0)), (1, .int (nI s))]) 5 0 (by omega) ⟨hP, hD, hS, lv_sub hl [0, 1, 2, 3, 4] rfl⟩ (fun H locs ls hI => ?_) (fun k hk_k H locs ls hI ih_21 => ?_)
    · obtain ⟨hP, hD, hS, hl⟩ := hI
      refine lv_iload F.1 F.2.1 dX6_known_21 (lv_at hl 0 rfl) ?_
      refine lv_iconst (v := 5) F.1 F.2.1 dX6_known_23 (by decide) ?_
      refine lv_icmp_ge (tgt := 70) F.1 F.2.1 dX6_known_24 (by decide) (fun c_24 => ?_) (fun c_24 => ?_)
      · refine lv_iload_n F.1 F.2.1 dX6_known_70 rfl (lv_at hl 2 rfl) ?_
        exact rtI (f, c) F hr hlk hP hS rfl (Eq.trans (by rw [show tn (nI s) = s from nI_clamp (by omega)]; try exact rfl) (if_pos c_4).symm) dX6_known_71
      · exact absurd (nI_le (Nat.le_refl _) (by decide)) c_24
    · obtain ⟨hP, hD, hS, hl⟩ := hI
      refine lv_iload F.1 F.2.1 dX6_known_21 (lv_at hl 0 rfl) ?_
      refine lv_iconst (v := 5) F.1 F.2.1 dX6_known_23 (by decide) ?_
      refine lv_icmp_ge (tgt := 70) F.1 F.2.1 dX6_known_24 (by decide) (fun c_24 => ?_) (fun c_24 => ?_)
      · exact absurd c_24 (nI_ge hk_k (by decide))
      · refine lv_aload_n F.1 F.2.1 dX6_known_27 rfl (lv_at hl 3 rfl) ?_
        refine lv_iload_n F.1 F.2.1 dX6_known_28 rfl (lv_at hl 4 rfl) ?_
        refine lv_iload_n F.1 F.2.1 dX6_known_29 rfl (lv_at hl 4 rfl) ?_
        refine lv_bipush (v := 12) F.1 F.2.1 dX6_known_30 (by decide) ?_
        refine lv_iload F.1 F.2.1 dX6_known_32 (lv_at hl 0 rfl) ?_
        refine lv_iadd F.1 F.2.1 dX6_known_34 ?_
        refine tp (y := nI (12 + k)) (ad2 (a := 12) (b := k) (c := 12 + k) rfl rfl rfl) ?_
        refine iS (rest := [.int (nI s), .ref (a 0)]) (wsp := fun _ => oM a v :: ai ct (a 1) 210 f :: [ai ct (a 4) 8 c]) F (kX6_at l dC dI ct s (12 + k) (32 + 17 * s + k) (by omega)) gX6_known_X6_at rfl ⟨rfl, rfl⟩ nmX6_at ⟨Nat.le_of_ble_eq_true rfl, Nat.le_of_ble_eq_true rfl⟩ eT_b (fun _ _ _ => trivial) hK hP hD hS hA [] (by decide) rfl rfl rfl hl.1 (Nat.le_of_ble_eq_true rfl) dX6_known_35 ⟨Nat.zero_le _, Nat.zero_le _⟩ (fun _ => rfl) (fun _ => rfl) [a 0, a 1, a 4] rfl (fun _ => rfl) (fun r_35 u_35 H locs e_35 hP hD hS => ?_)
        obtain rfl := e_35
        refine lv_bipush (v := 20) F.1 F.2.1 dX6_known_38 (by decide) ?_
        refine iV (rest := []) (wsp := fun _ => oM a v :: ai ct (a 1) 210 f :: [ai ct (a 4) 8 c]) F (kX6_fitting l dC dI ct a v f s (32 + 17 * s + k) 20 (by omega) (by omega) (by omega) (by omega) (fun v hv => hRg.worth hs (show k < 5 by omega) ⟨v, hv, rfl⟩)) gX6_known_X6_fitting rfl ⟨rfl, rfl⟩ nmX6_fitting ⟨Nat.le_of_ble_eq_true rfl, Nat.le_of_ble_eq_true rfl⟩ eT_b (fun _ _ _ => trivial) hK hP hD hS hA 0 rfl rfl rfl [0, 1] (by decide) rfl rfl rfl hl.1 (Nat.le_of_ble_eq_true rfl) dX6_known_40 ⟨Nat.zero_le _, Nat.zero_le _⟩ (fun _ => rfl) (fun _ => rfl) [a 0, a 1, a 4] rfl (fun _ => rfl) (fun r_40 u_40 H locs e_40 hP hD hS => ?_)
        obtain rfl := e_40
        obtain ⟨x0, hx0, ex0⟩ := fiN f s (32 + 17 * s + k) 21 (by omega)
        refine iS (rest := []) (wsp := fun _ => oM a v :: ai ct (a 1) 210 f :: [ai ct (a 4) 8 c]) F (kX6_bits l dC dI ct (fiU f s (32 + 17 * s + k) (20 + 1)) x0 (by omega) ex0) gX6_known_X6_bits rfl ⟨rfl, rfl⟩ nmX6_bits ⟨Nat.le_of_ble_eq_true rfl, Nat.le_of_ble_eq_true rfl⟩ eT_b (fun _ _ _ => trivial) hK hP hD hS hA [] (by decide) rfl rfl rfl hl.1 (Nat.le_of_ble_eq_true rfl) dX6_known_43 ⟨Nat.zero_le _, Nat.zero_le _⟩ (fun _ => rfl) (fun _ => rfl) [a 0, a 1, a 4] rfl (fun _ => rfl) (fun r_43 u_43 H locs e_43 hP hD hS => ?_)
        obtain rfl := e_43
        refine tp (y := bcK f s k) rfl ?_
        refine lv_istore (lv' := [(5, .int (bcK f s k)), (4, .int (nI k)), (3, .int ((knU f s k).2)), (2, .int ((knU f s k).1)), (0, .ref (a 0)), (1, .int (nI s))]) F.1 F.2.1 dX6_known_46 hl (by decide) rfl (fun ls hl => ?_)
        refine lv_iload_n F.1 F.2.1 dX6_known_48 rfl (lv_at hl 3 rfl) ?_
        refine lv_if_lt (tgt := 58) F.1 F.2.1 dX6_known_49 (by decide) (fun c_49 => ?_) (fun c_49 => ?_)
        · refine lv_iload F.1 F.2.1 dX6_known_58 (lv_at hl 1 rfl) ?_
          refine lv_istore_n (lv' := [(2, .int (nI k)), (5, .int (bcK f s k)), (4, .int (nI k)), (3, .int ((knU f s k).2)), (0, .ref (a 0)), (1, .int (nI s))]) F.1 F.2.1 dX6_known_60 rfl hl (by decide) rfl (fun ls hl => ?_)
          refine lv_iload F.1 F.2.1 dX6_known_61 (lv_at hl 1 rfl) ?_
          refine lv_istore_n (lv' := [(3, .int (bcK f s k)), (2, .int (nI k)), (5, .int (bcK f s k)), (4, .int (nI k)), (0, .ref (a 0)), (1, .int (nI s))]) F.1 F.2.1 dX6_known_63 rfl hl (by decide) rfl (fun ls hl => ?_)
          refine lv_iinc (v := nI (k + 1)) (lv' := [(4, .int (nI (k + 1))), (3, .int (bcK f s k)), (2, .int (nI k)), (5, .int (bcK f s k)), (0, .ref (a 0)), (1, .int (nI s))]) F.1 F.2.1 dX6_known_64 hl (k := 3) rfl (by rw [show Int32.ofInt 1 = nI 1 from rfl, nI_add]) (by decide) rfl (fun ls hl => ?_)
          refine lv_goto (tgt := 21) F.1 F.2.1 dX6_known_67 (by decide) ?_
          have eb : knU f s (k + 1) = (nI k, bcK f s k) := if_pos (Or.inl c_49)
          exact ih_21 _ _ _ ⟨hP, hD, hS, lv_sub hl [0, 1, 2, 4, 5] (by rw [eb]; rfl)⟩
        · refine lv_iload F.1 F.2.1 dX6_known_52 (lv_at hl 0 rfl) ?_
          refine lv_iload_n F.1 F.2.1 dX6_known_54 rfl (lv_at hl 2 rfl) ?_
          refine lv_icmp_ge (tgt := 64) F.1 F.2.1 dX6_known_55 (by decide) (fun c_55 => ?_) (fun c_55 => ?_)
          · refine lv_iinc (v := nI (k + 1)) (lv' := [(4, .int (nI (k + 1))), (5, .int (bcK f s k)), (3, .int ((knU f s k).2)), (2, .int ((knU f s k).1)), (0, .ref (a 0)), (1, .int (nI s))]) F.1 F.2.1 dX6_known_64 hl (k := 1) rfl (by rw [show Int32.ofInt 1 = nI 1 from rfl, nI_add]) (by decide) rfl (fun ls hl => ?_)
            refine lv_goto (tgt := 21) F.1 F.2.1 dX6_known_67 (by decide) ?_
            have eb : knU f s (k + 1) = knU f s k := if_neg (fun q => q.elim c_49 (fun w => Int32.not_lt.mpr c_55 w))
            exact ih_21 _ _ _ ⟨hP, hD, hS, lv_sub hl [0, 2, 3, 4, 5] (by rw [eb]; rfl)⟩
          · refine lv_iload F.1 F.2.1 dX6_known_58 (lv_at hl 1 rfl) ?_
            refine lv_istore_n (lv' := [(2, .int (nI k)), (5, .int (bcK f s k)), (4, .int (nI k)), (3, .int ((knU f s k).2)), (0, .ref (a 0)), (1, .int (nI s))]) F.1 F.2.1 dX6_known_60 rfl hl (by decide) rfl (fun ls hl => ?_)
            refine lv_iload F.1 F.2.1 dX6_known_61 (lv_at hl 1 rfl) ?_
            refine lv_istore_n (lv' := [(3, .int (bcK f s k)), (2, .int (nI k)), (5, .int (bcK f s k)), (4, .int (nI k)), (0, .ref (a 0)), (1, .int (nI s))]) F.1 F.2.1 dX6_known_63 rfl hl (by decide) rfl (fun ls hl => ?_)
            refine lv_iinc (v := nI (k + 1)) (lv' := [(4, .int (nI (k + 1))), (3, .int (bcK f s k)), (2, .int (nI k)), (5, .int (bcK f s k)), (0, .ref (a 0)), (1, .int (nI s))]) F.1 F.2.1 dX6_known_64 hl (k := 3) rfl (by rw [show Int32.ofInt 1 = nI 1 from rfl, nI_add]) (by decide) rfl (fun ls hl => ?_)
            refine lv_goto (tgt := 21) F.1 F.2.1 dX6_known_67 (by decide) ?_
            have eb : knU f s (k + 1) = (nI k, bcK f s k) := if_pos (Or.inr (Int32.not_le.mp c_55))
            exact ih_21 _ _ _ ⟨hP, hD, hS, lv_sub hl [0, 1, 2, 4, 5] (by rw [eb]; rfl)⟩
  · have c_4 : ¬ (0 ≤ x1 ∧ x1 ≤ 1) := b01f rfl c_4
    refine lv_aload_n F.1 F.2.1 dX6_known_7 rfl (lv_at hl 0 rfl) ?_
    refine lv_ldc (v := (-1000001)) F.1 F.2.1 F.2.2.2.1 (F.2.2.2.2 _ (List.mem_of_getElem? (i := 1) rfl)) dX6_known_8 ?_
    refine iV (rest := []) (wsp := fun _ => oM a v :: ai ct (a 1) 210 f :: [ai ct (a 4) 8 (fnd c 1)]) F (kX6_finding l dC dI ct a v c (-1000001) 1 (by decide) (by decide) (by decide)) gX6_known_X6_finding rfl ⟨rfl, rfl⟩ nmX6_finding ⟨Nat.le_of_ble_eq_true rfl, Nat.le_of_ble_eq_true rfl⟩ eT_b (fun _ _ _ => trivial) hK hP hD hS hA 0 rfl rfl rfl [0, 2] (by decide) rfl rfl rfl hl.1 (Nat.le_of_ble_eq_true rfl) dX6_known_10 ⟨Nat.zero_le _, Nat.zero_le _⟩ (fun _ => rfl) (fun _ => rfl) [a 0, a 1, a 4] rfl (fun _ => rfl) (fun r_10 u_10 H locs e_10 hP hD hS => ?_)
    obtain rfl := e_10
    exact rtI (f, (fnd c 1)) F hr hlk hP hS rfl ((if_neg (fun q => c_4 q)).symm) dX6_known_13
