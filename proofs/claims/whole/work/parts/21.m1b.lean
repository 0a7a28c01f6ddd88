def rmX6_priceBy : Room := { frames := 2, cells := 0, slots := 0, locals := 42 }
theorem nmX6_priceBy : NmV yX6_priceBy RX6 4 := by unfold NmV; decide +kernel
theorem hiX6_priceBy_6 : ∀ w ∈ u_ws RX6 TX6 22, w ∈ wsX6_priceBy := by decide +kernel
set_option maxHeartbeats 4000000 in
set_option maxRecDepth 100000 in
theorem kX6_priceBy (l : Launch) (dC : Nat → ClassId) (dI : Nat → Nat → Nat) (ct : Nat → ClassId) (a : Nat → Nat) (v f : Nat → Int32) (t : Nat) (n w fr : Int32) (ht : t < 5) : MI (S := Unit) l yX6_priceBy wsX6_priceBy rmX6_priceBy dC dI ct eT [.ref (a 0), .int (nI t), .int n, .int w, .int fr] (oM a v :: [ai ct (a 1) 210 f]) (fun _ => oM a v :: [ai ct (a 1) 210 f]) (fun r _ => r = prc (f (15 + t)) w fr n) := by
  refine MI.of (cc := cX6_priceBy) (maxL := 6) (ret := (some .int)) (by decide) rfl (Nat.le_of_ble_eq_true rfl) ?_
  intro pg en z mi below meth cd A F hr hlk hin hK hP hD hA hS hE ls hl
  have F : CallFix pg mi cd cX6_priceBy 6 z _ wsX6_priceBy RX6 := F
  have hl : lv_has ls 6 [(0, .ref (a 0)), (1, .int (nI t)), (2, .int n), (3, .int w), (4, .int fr)] := hl
  refine lv_aload_n F.1 F.2.1 dX6_priceBy_0 rfl (lv_at hl 0 rfl) ?_
  refine gf F hK hP 0 rfl rfl hiX6_priceBy_6 0 (by decide) (List.mem_of_getElem? (i := 1) rfl) rfl dX6_priceBy_1 ?_
  refine lv_bipush (v := 15) F.1 F.2.1 dX6_priceBy_4 (by decide) ?_
  refine lv_iload_n F.1 F.2.1 dX6_priceBy_6 rfl (lv_at hl 1 rfl) ?_
  refine lv_iadd F.1 F.2.1 dX6_priceBy_7 ?_
  refine tp (y := nI (15 + t)) (ad2 (a := 15) (b := t) (c := 15 + t) rfl rfl rfl) ?_
  refine al (v := f (15 + t)) F hK hP 1 0 rfl rfl (15 + t) rfl (by omega) (by decide) rfl dX6_priceBy_8 ?_
  refine lv_istore (lv' := [(5, .int (f (15 + t))), (0, .ref (a 0)), (1, .int (nI t)), (2, .int n), (3, .int w), (4, .int fr)]) F.1 F.2.1 dX6_priceBy_9 hl (by decide) rfl (fun ls hl => ?_)
  refine lv_iload F.1 F.2.1 dX6_priceBy_11 (lv_at hl 0 rfl) ?_
  refine lv_iconst (v := 5) F.1 F.2.1 dX6_priceBy_13 (by decide) ?_
  refine iS (rest := []) (wsp := fun _ => oM a v :: [ai ct (a 1) 210 f]) F (kX6_isUnder l dC dI ct (f (15 + t)) 5) gX6_priceBy_X6_isUnder rfl ⟨rfl, rfl⟩ nmX6_isUnder ⟨Nat.le_of_ble_eq_true rfl, Nat.le_of_ble_eq_true rfl⟩ eT_b (fun _ _ _ => trivial) hK hP hD hS hA [] (by decide) rfl rfl rfl hl.1 (Nat.le_of_ble_eq_true rfl) dX6_priceBy_14 ⟨Nat.zero_le _, Nat.zero_le _⟩ (fun _ => rfl) (fun _ => rfl) [a 0, a 1] rfl (fun _ => rfl) (fun r_14 u_14 H locs e_14 hP hD hS => ?_)
  obtain rfl := e_14
  refine tp (y := if f (15 + t) = 5 ∨ f (15 + t) = 6 then 1 else 0) (un5 _) ?_
  refine lv_if_eq (tgt := 51) F.1 F.2.1 dX6_priceBy_17 (by decide) (fun c_17 => ?_) (fun c_17 => ?_)
  · have c_17 : ¬ (f (15 + t) = 5 ∨ f (15 + t) = 6) := b01f rfl c_17
    refine lv_iload_n F.1 F.2.1 dX6_priceBy_51 rfl (lv_at hl 3 rfl) ?_
    refine lv_iload_n F.1 F.2.1 dX6_priceBy_52 rfl (lv_at hl 4 rfl) ?_
    refine lv_iload F.1 F.2.1 dX6_priceBy_53 (lv_at hl 0 rfl) ?_
    refine lv_iconst (v := 4) F.1 F.2.1 dX6_priceBy_55 (by decide) ?_
    refine lv_icmp_ne (tgt := 66) F.1 F.2.1 dX6_priceBy_56 (by decide) (fun c_56 => ?_) (fun c_56 => ?_)
    · refine lv_iload F.1 F.2.1 dX6_priceBy_66 (lv_at hl 0 rfl) ?_
      refine lv_iconst (v := 2) F.1 F.2.1 dX6_priceBy_68 (by decide) ?_
      refine lv_icmp_ne (tgt := 77) F.1 F.2.1 dX6_priceBy_69 (by decide) (fun c_69 => ?_) (fun c_69 => ?_)
      · refine lv_iconst (v := 0) F.1 F.2.1 dX6_priceBy_77 (by decide) ?_
        refine lv_iadd F.1 F.2.1 dX6_priceBy_78 ?_
        refine lv_imul F.1 F.2.1 dX6_priceBy_79 ?_
        exact rtI () F hr hlk hP hS rfl (by unfold prc; rw [if_neg c_17, if_neg c_56, if_neg c_69]) dX6_priceBy_80
      · refine lv_iload F.1 F.2.1 dX6_priceBy_72 (lv_at hl 5 rfl) ?_
        refine lv_goto (tgt := 78) F.1 F.2.1 dX6_priceBy_74 (by decide) ?_
        refine lv_iadd F.1 F.2.1 dX6_priceBy_78 ?_
        refine lv_imul F.1 F.2.1 dX6_priceBy_79 ?_
        exact rtI () F hr hlk hP hS rfl (by unfold prc; rw [if_neg c_17, if_neg c_56, if_pos c_69]) dX6_priceBy_80
    · refine lv_iconst (v := 2) F.1 F.2.1 dX6_priceBy_59 (by decide) ?_
      refine lv_iload F.1 F.2.1 dX6_priceBy_60 (lv_at hl 5 rfl) ?_
      refine lv_imul F.1 F.2.1 dX6_priceBy_62 ?_
      refine lv_goto (tgt := 78) F.1 F.2.1 dX6_priceBy_63 (by decide) ?_
      refine lv_iadd F.1 F.2.1 dX6_priceBy_78 ?_
      refine lv_imul F.1 F.2.1 dX6_priceBy_79 ?_
      exact rtI () F hr hlk hP hS rfl (by unfold prc; rw [if_neg c_17, if_pos c_56]) dX6_priceBy_80
  · have c_17 : f (15 + t) = 5 ∨ f (15 + t) = 6 := b01t rfl c_17
    refine lv_iload_n F.1 F.2.1 dX6_priceBy_20 rfl (lv_at hl 3 rfl) ?_
    refine lv_if_ne (tgt := 28) F.1 F.2.1 dX6_priceBy_21 (by decide) (fun c_21 => ?_) (fun c_21 => ?_)
    · refine lv_iload_n F.1 F.2.1 dX6_priceBy_28 rfl (lv_at hl 4 rfl) ?_
      refine lv_iload_n F.1 F.2.1 dX6_priceBy_29 rfl (lv_at hl 3 rfl) ?_
      refine lv_iconst (v := 1) F.1 F.2.1 dX6_priceBy_30 (by decide) ?_
      refine lv_isub F.1 F.2.1 dX6_priceBy_31 ?_
      refine lv_iload_n F.1 F.2.1 dX6_priceBy_32 rfl (lv_at hl 4 rfl) ?_
      refine lv_iconst (v := 2) F.1 F.2.1 dX6_priceBy_33 (by decide) ?_
      refine lv_idiv F.1 F.2.1 dX6_priceBy_34 (by decide) ?_
      refine lv_imul F.1 F.2.1 dX6_priceBy_35 ?_
      refine lv_iadd F.1 F.2.1 dX6_priceBy_36 ?_
      refine lv_iload F.1 F.2.1 dX6_priceBy_37 (lv_at hl 0 rfl) ?_
      refine lv_bipush (v := 6) F.1 F.2.1 dX6_priceBy_39 (by decide) ?_
      refine lv_icmp_ne (tgt := 48) F.1 F.2.1 dX6_priceBy_41 (by decide) (fun c_41 => ?_) (fun c_41 => ?_)
      · refine lv_iconst (v := 0) F.1 F.2.1 dX6_priceBy_48 (by decide) ?_
        refine lv_iadd F.1 F.2.1 dX6_priceBy_49 ?_
        exact rtI () F hr hlk hP hS rfl (by unfold prc; rw [if_pos c_17, if_neg c_21, if_neg c_41]) dX6_priceBy_50
      · refine lv_iconst (v := 3) F.1 F.2.1 dX6_priceBy_44 (by decide) ?_
        refine lv_goto (tgt := 49) F.1 F.2.1 dX6_priceBy_45 (by decide) ?_
        refine lv_iadd F.1 F.2.1 dX6_priceBy_49 ?_
        exact rtI () F hr hlk hP hS rfl (by unfold prc; rw [if_pos c_17, if_neg c_21, if_pos c_41]) dX6_priceBy_50
    · refine lv_iconst (v := 0) F.1 F.2.1 dX6_priceBy_24 (by decide) ?_
      refine lv_goto (tgt := 50) F.1 F.2.1 dX6_priceBy_25 (by decide) ?_
      exact rtI () F hr hlk hP hS rfl (by unfold prc; rw [if_pos c_17, if_pos c_21]) dX6_priceBy_50

def rmX6_priceFor : Room := { frames := 3, cells := 0, slots := 0, locals := 67 }
theorem nmX6_priceFor : NmV yX6_priceFor RX6 3 := by unfold NmV; decide +kernel
theorem hiX6_priceFor_6 : ∀ w ∈ u_ws RX6 TX6 22, w ∈ wsX6_priceFor := by decide +kernel
set_option maxHeartbeats 4000000 in
set_option maxRecDepth 100000 in
theorem kX6_priceFor (l : Launch) (dC : Nat → ClassId) (dI : Nat → Nat → Nat) (ct : Nat → ClassId) (a : Nat → Nat) (v f : Nat → Int32) (s t : Nat) (n : Int32) (hs : s < 2) (ht : t < 5) : MI (S := Unit) l yX6_priceFor wsX6_priceFor rmX6_priceFor dC dI ct eT [.ref (a 0), .int (nI s), .int (nI t), .int n] (oM a v :: [ai ct (a 1) 210 f]) (fun _ => oM a v :: [ai ct (a 1) 210 f]) (fun r _ => r = pF f s t n) := by
  refine MI.of (cc := cX6_priceFor) (maxL := 4) (ret := (some .int)) (by decide) rfl (Nat.le_of_ble_eq_true rfl) ?_
  intro pg en z mi below meth cd A F hr hlk hin hK hP hD hA hS hE ls hl
  have F : CallFix pg mi cd cX6_priceFor 4 z _ wsX6_priceFor RX6 := F
  have hl : lv_has ls 4 [(0, .ref (a 0)), (1, .int (nI s)), (2, .int (nI t)), (3, .int n)] := hl
  refine lv_aload_n F.1 F.2.1 dX6_priceFor_0 rfl (lv_at hl 0 rfl) ?_
  refine lv_iload_n F.1 F.2.1 dX6_priceFor_1 rfl (lv_at hl 2 rfl) ?_
  refine lv_iload_n F.1 F.2.1 dX6_priceFor_2 rfl (lv_at hl 3 rfl) ?_
  refine lv_aload_n F.1 F.2.1 dX6_priceFor_3 rfl (lv_at hl 0 rfl) ?_
  refine lv_iload_n F.1 F.2.1 dX6_priceFor_4 rfl (lv_at hl 1 rfl) ?_
  refine lv_bipush (v := 12) F.1 F.2.1 dX6_priceFor_5 (by decide) ?_
  refine lv_iload_n F.1 F.2.1 dX6_priceFor_7 rfl (lv_at hl 2 rfl) ?_
  refine lv_iadd F.1 F.2.1 dX6_priceFor_8 ?_
  refine tp (y := nI (12 + t)) (ad2 (a := 12) (b := t) (c := 12 + t) rfl rfl rfl) ?_
  refine iV (rest := [.int n, .int (nI t), .ref (a 0)]) (wsp := fun _ => oM a v :: [ai ct (a 1) 210 f]) F (kX6_sideIs l dC dI ct a v f s (12 + t) (32 + 17 * s + t) (by omega) (by omega)) gX6_priceFor_X6_sideIs rfl ⟨rfl, rfl⟩ nmX6_sideIs ⟨Nat.le_of_ble_eq_true rfl, Nat.le_of_ble_eq_true rfl⟩ eT_b (fun _ _ _ => trivial) hK hP hD hS hA 0 rfl rfl rfl [0, 1] (by decide) rfl rfl rfl hl.1 (Nat.le_of_ble_eq_true rfl) dX6_priceFor_9 ⟨Nat.zero_le _, Nat.zero_le _⟩ (fun _ => rfl) (fun _ => rfl) [a 0, a 1] rfl (fun _ => rfl) (fun r_9 u_9 H locs e_9 hP hD hS => ?_)
  obtain rfl := e_9
  refine lv_aload_n F.1 F.2.1 dX6_priceFor_12 rfl (lv_at hl 0 rfl) ?_
  refine gf F hK hP 0 rfl rfl hiX6_priceFor_6 0 (by decide) (List.mem_of_getElem? (i := 1) rfl) rfl dX6_priceFor_13 ?_
  refine lv_iconst (v := 1) F.1 F.2.1 dX6_priceFor_16 (by decide) ?_
  refine al (v := f 1) F hK hP 1 0 rfl rfl 1 rfl (by omega) (by decide) rfl dX6_priceFor_17 ?_
  refine iV (rest := []) (wsp := fun _ => oM a v :: [ai ct (a 1) 210 f]) F (kX6_priceBy l dC dI ct a v f t n (f (32 + 17 * s + t)) (f 1) (by omega)) gX6_priceFor_X6_priceBy rfl ⟨rfl, rfl⟩ nmX6_priceBy ⟨Nat.le_of_ble_eq_true rfl, Nat.le_of_ble_eq_true rfl⟩ eT_b (fun _ _ _ => trivial) hK hP hD hS hA 0 rfl rfl rfl [0, 1] (by decide) rfl rfl rfl hl.1 (Nat.le_of_ble_eq_true rfl) dX6_priceFor_18 ⟨Nat.zero_le _, Nat.zero_le _⟩ (fun _ => rfl) (fun _ => rfl) [a 0, a 1] rfl (fun _ => rfl) (fun r_18 u_18 H locs e_18 hP hD hS => ?_)
  obtain rfl := e_18
  exact rtI () F hr hlk hP hS rfl rfl dX6_priceFor_21

def rmX6_valueFor : Room := { frames := 4, cells := 0, slots := 0, locals := 90 }
theorem nmX6_valueFor : NmV yX6_valueFor RX6 2 := by unfold NmV; decide +kernel
set_option maxHeartbeats 4000000 in
set_option maxRecDepth 100000 in
theorem kX6_valueFor (l : Launch) (dC : Nat → ClassId) (dI : Nat → Nat → Nat) (ct : Nat → ClassId) (a : Nat → Nat) (v f : Nat → Int32) (s h : Nat) (hs : s < 2) (hh : h < 2) : MI (S := Unit) l yX6_valueFor wsX6_valueFor rmX6_valueFor dC dI ct eT [.ref (a 0), .int (nI s), .int (nI h)] (oM a v :: [ai ct (a 1) 210 f]) (fun _ => oM a v :: [ai ct (a 1) 210 f]) (fun r _ => r = valU f s h 5) := by
  refine MI.of (cc := cX6_valueFor) (maxL := 5) (ret := (some .int)) (by decide) rfl (Nat.le_of_ble_eq_true rfl) ?_
  intro pg en z mi below meth cd A F hr hlk hin hK hP hD hA hS hE ls hl
  have F : CallFix pg mi cd cX6_valueFor 5 z _ wsX6_valueFor RX6 := F
  have hl : lv_has ls 5 [(0, .ref (a 0)), (1, .int (nI s)), (2, .int (nI h))] := hl
  refine lv_iconst (v := 0) F.1 F.2.1 dX6_valueFor_0 (by decide) ?_
  refine lv_istore_n (lv' := [(3, .int 0), (0, .ref (a 0)), (1, .int (nI s)), (2, .int (nI h))]) F.1 F.2.1 dX6_valueFor_1 rfl hl (by decide) rfl (fun ls hl => ?_)
  refine lv_iconst (v := 0) F.1 F.2.1 dX6_valueFor_2 (by decide) ?_
  refine lv_istore (lv' := [(4, .int 0), (3, .int 0), (0, .ref (a 0)), (1, .int (nI s)), (2, .int (nI h))]) F.1 F.2.1 dX6_valueFor_3 hl (by decide) rfl (fun ls hl => ?_)
  refine loopN (I := fun k H locs ls => va_P (dC, dI) vwCl (oM a v :: [ai ct (a 1) 210 f]) H ∧ va_D A (oM a v :: [ai ct (a 1) 210 f]) ∧ va_S A z.heap H locs ∧ lv_has ls 5 [(4, .int (nI k)), (3, .int (valU f s h k)), (0, .ref (a 0)), (1, .int (nI s)), (2, .int (nI h))]) 5 0 (by omega) ⟨hP, hD, hS, lv_sub hl [0, 1, 2, 3, 4] rfl⟩ (fun H locs ls hI => ?_) (fun k hk_k H locs ls hI ih_5 => ?_)
  · obtain ⟨hP, hD, hS, hl⟩ := hI
    refine lv_iload F.1 F.2.1 dX6_valueFor_5 (lv_at hl 0 rfl) ?_
    refine lv_iconst (v := 5) F.1 F.2.1 dX6_valueFor_7 (by decide) ?_
    refine lv_icmp_ge (tgt := 37) F.1 F.2.1 dX6_valueFor_8 (by decide) (fun c_8 => ?_) (fun c_8 => ?_)
    · refine lv_iload_n F.1 F.2.1 dX6_valueFor_37 rfl (lv_at hl 1 rfl) ?_
      exact rtI () F hr hlk hP hS rfl (by simp [c_8, Int32.not_lt.mpr c_8]) dX6_valueFor_38
    · exact absurd (nI_le (Nat.le_refl _) (by decide)) c_8
  · obtain ⟨hP, hD, hS, hl⟩ := hI
    refine lv_iload F.1 F.2.1 dX6_valueFor_5 (lv_at hl 0 rfl) ?_
    refine lv_iconst (v := 5) F.1 F.2.1 dX6_valueFor_7 (by decide) ?_
    refine lv_icmp_ge (tgt := 37) F.1 F.2.1 dX6_valueFor_8 (by decide) (fun c_8 => ?_) (fun c_8 => ?_)
    · exact absurd c_8 (nI_ge hk_k (by decide))
    · refine lv_iload_n F.1 F.2.1 dX6_valueFor_11 rfl (lv_at hl 1 rfl) ?_
      refine lv_aload_n F.1 F.2.1 dX6_valueFor_12 rfl (lv_at hl 2 rfl) ?_
      refine lv_iload_n F.1 F.2.1 dX6_valueFor_13 rfl (lv_at hl 3 rfl) ?_
      refine lv_iload F.1 F.2.1 dX6_valueFor_14 (lv_at hl 0 rfl) ?_
      refine lv_aload_n F.1 F.2.1 dX6_valueFor_16 rfl (lv_at hl 2 rfl) ?_
      refine lv_iload_n F.1 F.2.1 dX6_valueFor_17 rfl (lv_at hl 4 rfl) ?_
      refine lv_bipush (v := 7) F.1 F.2.1 dX6_valueFor_18 (by decide) ?_
      refine lv_iload F.1 F.2.1 dX6_valueFor_20 (lv_at hl 0 rfl) ?_
      refine lv_iadd F.1 F.2.1 dX6_valueFor_22 ?_
      refine tp (y := nI (7 + k)) (ad2 (a := 7) (b := k) (c := 7 + k) rfl rfl rfl) ?_
      refine iV (rest := [.int (nI k), .int (nI s), .ref (a 0), .int (valU f s h k)]) (wsp := fun _ => oM a v :: [ai ct (a 1) 210 f]) F (kX6_sideIs l dC dI ct a v f h (7 + k) (27 + 17 * h + k) (by omega) (by omega)) gX6_valueFor_X6_sideIs rfl ⟨rfl, rfl⟩ nmX6_sideIs ⟨Nat.le_of_ble_eq_true rfl, Nat.le_of_ble_eq_true rfl⟩ eT_b (fun _ _ _ => trivial) hK hP hD hS hA 0 rfl rfl rfl [0, 1] (by decide) rfl rfl rfl hl.1 (Nat.le_of_ble_eq_true rfl) dX6_valueFor_23 ⟨Nat.zero_le _, Nat.zero_le _⟩ (fun _ => rfl) (fun _ => rfl) [a 0, a 1] rfl (fun _ => rfl) (fun r_23 u_23 H locs e_23 hP hD hS => ?_)
      obtain rfl := e_23
      refine iV (rest := [.int (valU f s h k)]) (wsp := fun _ => oM a v :: [ai ct (a 1) 210 f]) F (kX6_priceFor l dC dI ct a v f s k (f (27 + 17 * h + k)) (by omega) (by omega)) gX6_valueFor_X6_priceFor rfl ⟨rfl, rfl⟩ nmX6_priceFor ⟨Nat.le_of_ble_eq_true rfl, Nat.le_of_ble_eq_true rfl⟩ eT_b (fun _ _ _ => trivial) hK hP hD hS hA 0 rfl rfl rfl [0, 1] (by decide) rfl rfl rfl hl.1 (Nat.le_of_ble_eq_true rfl) dX6_valueFor_26 ⟨Nat.zero_le _, Nat.zero_le _⟩ (fun _ => rfl) (fun _ => rfl) [a 0, a 1] rfl (fun _ => rfl) (fun r_26 u_26 H locs e_26 hP hD hS => ?_)
      obtain rfl := e_26
      refine lv_iadd F.1 F.2.1 dX6_valueFor_29 ?_
      refine lv_istore_n (lv' := [(3, .int ((valU f s h k) + (pF f s k (f (27 + 17 * h + k))))), (4, .int (nI k)), (0, .ref (a 0)), (1, .int (nI s)), (2, .int (nI h))]) F.1 F.2.1 dX6_valueFor_30 rfl hl (by decide) rfl (fun ls hl => ?_)
      refine lv_iinc (v := nI (k + 1)) (lv' := [(4, .int (nI (k + 1))), (3, .int ((valU f s h k) + (pF f s k (f (27 + 17 * h + k))))), (0, .ref (a 0)), (1, .int (nI s)), (2, .int (nI h))]) F.1 F.2.1 dX6_valueFor_31 hl (k := 1) rfl (by rw [show Int32.ofInt 1 = nI 1 from rfl, nI_add]) (by decide) rfl (fun ls hl => ?_)
      refine lv_goto (tgt := 5) F.1 F.2.1 dX6_valueFor_34 (by decide) ?_
      exact ih_5 _ _ _ ⟨hP, hD, hS, lv_sub hl [0, 1, 2, 3, 4] rfl⟩

def rmX6_allOf : Room := { frames := 4, cells := 0, slots := 0, locals := 90 }
theorem nmX6_allOf : NmV yX6_allOf RX6 1 := by unfold NmV; decide +kernel
set_option maxHeartbeats 4000000 in
set_option maxRecDepth 100000 in
theorem kX6_allOf (l : Launch) (dC : Nat → ClassId) (dI : Nat → Nat → Nat) (ct : Nat → ClassId) (a : Nat → Nat) (v f : Nat → Int32) (s : Nat) (hs : s < 2) : MI (S := Unit) l yX6_allOf wsX6_allOf rmX6_allOf dC dI ct eT [.ref (a 0), .int (nI s)] (oM a v :: [ai ct (a 1) 210 f]) (fun _ => oM a v :: [ai ct (a 1) 210 f]) (fun r _ => r = allU f s 5) := by
  refine MI.of (cc := cX6_allOf) (maxL := 4) (ret := (some .int)) (by decide) rfl (Nat.le_of_ble_eq_true rfl) ?_
  intro pg en z mi below meth cd A F hr hlk hin hK hP hD hA hS hE ls hl
  have F : CallFix pg mi cd cX6_allOf 4 z _ wsX6_allOf RX6 := F
  have hl : lv_has ls 4 [(0, .ref (a 0)), (1, .int (nI s))] := hl
  refine lv_iconst (v := 0) F.1 F.2.1 dX6_allOf_0 (by decide) ?_
  refine lv_istore_n (lv' := [(2, .int 0), (0, .ref (a 0)), (1, .int (nI s))]) F.1 F.2.1 dX6_allOf_1 rfl hl (by decide) rfl (fun ls hl => ?_)
  refine lv_iconst (v := 0) F.1 F.2.1 dX6_allOf_2 (by decide) ?_
  refine lv_istore_n (lv' := [(3, .int 0), (2, .int 0), (0, .ref (a 0)), (1, .int (nI s))]) F.1 F.2.1 dX6_allOf_3 rfl hl (by decide) rfl (fun ls hl => ?_)
  refine loopN (I := fun k H locs ls => va_P (dC, dI) vwCl (oM a v :: [ai ct (a 1) 210 f]) H ∧ va_D A (oM a v :: [ai ct (a 1) 210 f]) ∧ va_S A z.heap H locs ∧ lv_has ls 4 [(3, .int (nI k)), (2, .int (allU f s k)), (0, .ref (a 0)), (1, .int (nI s))]) 5 0 (by omega) ⟨hP, hD, hS, lv_sub hl [0, 1, 2, 3] rfl⟩ (fun H locs ls hI => ?_) (fun k hk_k H locs ls hI ih_4 => ?_)
  · obtain ⟨hP, hD, hS, hl⟩ := hI
    refine lv_iload_n F.1 F.2.1 dX6_allOf_4 rfl (lv_at hl 0 rfl) ?_
    refine lv_iconst (v := 5) F.1 F.2.1 dX6_allOf_5 (by decide) ?_
    refine lv_icmp_ge (tgt := 42) F.1 F.2.1 dX6_allOf_6 (by decide) (fun c_6 => ?_) (fun c_6 => ?_)
    · refine lv_iload_n F.1 F.2.1 dX6_allOf_42 rfl (lv_at hl 1 rfl) ?_
      exact rtI () F hr hlk hP hS rfl (by simp [c_6, Int32.not_lt.mpr c_6]) dX6_allOf_43
    · exact absurd (nI_le (Nat.le_refl _) (by decide)) c_6
  · obtain ⟨hP, hD, hS, hl⟩ := hI
    refine lv_iload_n F.1 F.2.1 dX6_allOf_4 rfl (lv_at hl 0 rfl) ?_
    refine lv_iconst (v := 5) F.1 F.2.1 dX6_allOf_5 (by decide) ?_
    refine lv_icmp_ge (tgt := 42) F.1 F.2.1 dX6_allOf_6 (by decide) (fun c_6 => ?_) (fun c_6 => ?_)
    · exact absurd c_6 (nI_ge hk_k (by decide))
    · refine lv_iload_n F.1 F.2.1 dX6_allOf_9 rfl (lv_at hl 1 rfl) ?_
      refine lv_aload_n F.1 F.2.1 dX6_allOf_10 rfl (lv_at hl 2 rfl) ?_
      refine lv_iload_n F.1 F.2.1 dX6_allOf_11 rfl (lv_at hl 3 rfl) ?_
      refine lv_iload_n F.1 F.2.1 dX6_allOf_12 rfl (lv_at hl 0 rfl) ?_
      refine lv_aload_n F.1 F.2.1 dX6_allOf_13 rfl (lv_at hl 2 rfl) ?_
      refine lv_iload_n F.1 F.2.1 dX6_allOf_14 rfl (lv_at hl 3 rfl) ?_
      refine lv_iconst (v := 2) F.1 F.2.1 dX6_allOf_15 (by decide) ?_
      refine lv_iload_n F.1 F.2.1 dX6_allOf_16 rfl (lv_at hl 0 rfl) ?_
      refine lv_iadd F.1 F.2.1 dX6_allOf_17 ?_
      refine tp (y := nI (2 + k)) (ad2 (a := 2) (b := k) (c := 2 + k) rfl rfl rfl) ?_
      refine iV (rest := [.int (nI k), .int (nI s), .ref (a 0), .int (allU f s k)]) (wsp := fun _ => oM a v :: [ai ct (a 1) 210 f]) F (kX6_sideIs l dC dI ct a v f s (2 + k) (22 + 17 * s + k) (by omega) (by omega)) gX6_allOf_X6_sideIs rfl ⟨rfl, rfl⟩ nmX6_sideIs ⟨Nat.le_of_ble_eq_true rfl, Nat.le_of_ble_eq_true rfl⟩ eT_b (fun _ _ _ => trivial) hK hP hD hS hA 0 rfl rfl rfl [0, 1] (by decide) rfl rfl rfl hl.1 (Nat.le_of_ble_eq_true rfl) dX6_allOf_18 ⟨Nat.zero_le _, Nat.zero_le _⟩ (fun _ => rfl) (fun _ => rfl) [a 0, a 1] rfl (fun _ => rfl) (fun r_18 u_18 H locs e_18 hP hD hS => ?_)
      obtain rfl := e_18
      refine lv_aload_n F.1 F.2.1 dX6_allOf_21 rfl (lv_at hl 2 rfl) ?_
      refine lv_iload_n F.1 F.2.1 dX6_allOf_22 rfl (lv_at hl 3 rfl) ?_
      refine lv_bipush (v := 7) F.1 F.2.1 dX6_allOf_23 (by decide) ?_
      refine lv_iload_n F.1 F.2.1 dX6_allOf_25 rfl (lv_at hl 0 rfl) ?_
      refine lv_iadd F.1 F.2.1 dX6_allOf_26 ?_
      refine tp (y := nI (7 + k)) (ad2 (a := 7) (b := k) (c := 7 + k) rfl rfl rfl) ?_
      refine iV (rest := [.int (f (22 + 17 * s + k)), .int (nI k), .int (nI s), .ref (a 0), .int (allU f s k)]) (wsp := fun _ => oM a v :: [ai ct (a 1) 210 f]) F (kX6_sideIs l dC dI ct a v f s (7 + k) (27 + 17 * s + k) (by omega) (by omega)) gX6_allOf_X6_sideIs rfl ⟨rfl, rfl⟩ nmX6_sideIs ⟨Nat.le_of_ble_eq_true rfl, Nat.le_of_ble_eq_true rfl⟩ eT_b (fun _ _ _ => trivial) hK hP hD hS hA 0 rfl rfl rfl [0, 1] (by decide) rfl rfl rfl hl.1 (Nat.le_of_ble_eq_true rfl) dX6_allOf_27 ⟨Nat.zero_le _, Nat.zero_le _⟩ (fun _ => rfl) (fun _ => rfl) [a 0, a 1] rfl (fun _ => rfl) (fun r_27 u_27 H locs e_27 hP hD hS => ?_)
      obtain rfl := e_27
      refine lv_iadd F.1 F.2.1 dX6_allOf_30 ?_
      refine iV (rest := [.int (allU f s k)]) (wsp := fun _ => oM a v :: [ai ct (a 1) 210 f]) F (kX6_priceFor l dC dI ct a v f s k ((f (22 + 17 * s + k)) + (f (27 + 17 * s + k))) (by omega) (by omega)) gX6_allOf_X6_priceFor rfl ⟨rfl, rfl⟩ nmX6_priceFor ⟨Nat.le_of_ble_eq_true rfl, Nat.le_of_ble_eq_true rfl⟩ eT_b (fun _ _ _ => trivial) hK hP hD hS hA 0 rfl rfl rfl [0, 1] (by decide) rfl rfl rfl hl.1 (Nat.le_of_ble_eq_true rfl) dX6_allOf_31 ⟨Nat.zero_le _, Nat.zero_le _⟩ (fun _ => rfl) (fun _ => rfl) [a 0, a 1] rfl (fun _ => rfl) (fun r_31 u_31 H locs e_31 hP hD hS => ?_)
      obtain rfl := e_31
      refine lv_iadd F.1 F.2.1 dX6_allOf_34 ?_
      refine lv_istore_n (lv' := [(2, .int ((allU f s k) + (pF f s k ((f (22 + 17 * s + k)) + (f (27 + 17 * s + k)))))), (3, .int (nI k)), (0, .ref (a 0)), (1, .int (nI s))]) F.1 F.2.1 dX6_allOf_35 rfl hl (by decide) rfl (fun ls hl => ?_)
      refine lv_iinc (v := nI (k + 1)) (lv' := [(3, .int (nI (k + 1))), (2, .int ((allU f s k) + (pF f s k ((f (22 + 17 * s + k)) + (f (27 + 17 * s + k)))))), (0, .ref (a 0)), (1, .int (nI s))]) F.1 F.2.1 dX6_allOf_36 hl (k := 1) rfl (by rw [show Int32.ofInt 1 = nI 1 from rfl, nI_add]) (by decide) rfl (fun ls hl => ?_)
      refine lv_goto (tgt := 4) F.1 F.2.1 dX6_allOf_39 (by decide) ?_
      exact ih_4 _ _ _ ⟨hP, hD, hS, lv_sub hl [0, 1, 2, 3] rfl⟩

def rmX6_eatenOf : Room := { frames := 1, cells := 0, slots := 0, locals := 21 }
theorem nmX6_eatenOf : NmV yX6_eatenOf RX6 2 := by unfold NmV; decide +kernel
theorem hiX6_eatenOf_6 : ∀ w ∈ u_ws RX6 TX6 22, w ∈ wsX6_eatenOf := by decide +kernel
set_option maxHeartbeats 4000000 in
set_option maxRecDepth 100000 in
theorem kX6_eatenOf (l : Launch) (dC : Nat → ClassId) (dI : Nat → Nat → Nat) (ct : Nat → ClassId) (a : Nat → Nat) (v f : Nat → Int32) (t : Nat) (n : Int32) (ht : t < 5) : MI (S := Unit) l yX6_eatenOf wsX6_eatenOf rmX6_eatenOf dC dI ct eT [.ref (a 0), .int (nI t), .int n] (oM a v :: [ai ct (a 1) 210 f]) (fun _ => oM a v :: [ai ct (a 1) 210 f]) (fun r _ => r = eat (f (15 + t)) (f 1) n) := by
  refine MI.of (cc := cX6_eatenOf) (maxL := 4) (ret := (some .int)) (by decide) rfl (Nat.le_of_ble_eq_true rfl) ?_
  intro pg en z mi below meth cd A F hr hlk hin hK hP hD hA hS hE ls hl
  have F : CallFix pg mi cd cX6_eatenOf 4 z _ wsX6_eatenOf RX6 := F
  have hl : lv_has ls 4 [(0, .ref (a 0)), (1, .int (nI t)), (2, .int n)] := hl
  refine lv_aload_n F.1 F.2.1 dX6_eatenOf_0 rfl (lv_at hl 0 rfl) ?_
  refine gf F hK hP 0 rfl rfl hiX6_eatenOf_6 0 (by decide) (List.mem_of_getElem? (i := 1) rfl) rfl dX6_eatenOf_1 ?_
  refine lv_bipush (v := 15) F.1 F.2.1 dX6_eatenOf_4 (by decide) ?_
  refine lv_iload_n F.1 F.2.1 dX6_eatenOf_6 rfl (lv_at hl 1 rfl) ?_
  refine lv_iadd F.1 F.2.1 dX6_eatenOf_7 ?_
  refine tp (y := nI (15 + t)) (ad2 (a := 15) (b := t) (c := 15 + t) rfl rfl rfl) ?_
  refine al (v := f (15 + t)) F hK hP 1 0 rfl rfl (15 + t) rfl (by omega) (by decide) rfl dX6_eatenOf_8 ?_
  refine lv_istore_n (lv' := [(3, .int (f (15 + t))), (0, .ref (a 0)), (1, .int (nI t)), (2, .int n)]) F.1 F.2.1 dX6_eatenOf_9 rfl hl (by decide) rfl (fun ls hl => ?_)
  refine lv_iload_n F.1 F.2.1 dX6_eatenOf_10 rfl (lv_at hl 0 rfl) ?_
  refine lv_iconst (v := 3) F.1 F.2.1 dX6_eatenOf_11 (by decide) ?_
  refine lv_icmp_ne (tgt := 35) F.1 F.2.1 dX6_eatenOf_12 (by decide) (fun c_12 => ?_) (fun c_12 => ?_)
  · refine lv_iload_n F.1 F.2.1 dX6_eatenOf_35 rfl (lv_at hl 0 rfl) ?_
    refine lv_iconst (v := 1) F.1 F.2.1 dX6_eatenOf_36 (by decide) ?_
    refine lv_icmp_ne (tgt := 48) F.1 F.2.1 dX6_eatenOf_37 (by decide) (fun c_37 => ?_) (fun c_37 => ?_)
    · refine lv_iconst (v := 0) F.1 F.2.1 dX6_eatenOf_48 (by decide) ?_
      exact rtI () F hr hlk hP hS rfl (by simp [eat, c_12, c_37]) dX6_eatenOf_49
    · refine lv_iload_n F.1 F.2.1 dX6_eatenOf_40 rfl (lv_at hl 3 rfl) ?_
      refine lv_iconst (v := 1) F.1 F.2.1 dX6_eatenOf_41 (by decide) ?_
      refine va_mmin F.1 F.2.1 (F.2.2.1.trans hl.1.symm) F.2.2.2.1 (F.2.2.2.2 _ (List.mem_of_getElem? (i := 2) rfl)) (F.2.2.2.2 _ (List.mem_of_getElem? (i := 3) rfl)) (F.2.2.2.2 _ (List.mem_of_getElem? (i := 4) rfl)) (F.2.2.2.2 _ (List.mem_of_getElem? (i := 5) rfl)) (Nat.le_of_ble_eq_true rfl) (Nat.le_of_ble_eq_true rfl) (Nat.zero_le _) (Nat.zero_le _) dX6_eatenOf_42 ?_
      refine tp (y := mn n 1) rfl ?_
      refine lv_goto (tgt := 49) F.1 F.2.1 dX6_eatenOf_45 (by decide) ?_
      exact rtI () F hr hlk hP hS rfl (by simp [eat, c_12, c_37]) dX6_eatenOf_49
  · refine lv_aload_n F.1 F.2.1 dX6_eatenOf_15 rfl (lv_at hl 1 rfl) ?_
    refine gf F hK hP 0 rfl rfl hiX6_eatenOf_6 0 (by decide) (List.mem_of_getElem? (i := 1) rfl) rfl dX6_eatenOf_16 ?_
    refine lv_iconst (v := 1) F.1 F.2.1 dX6_eatenOf_19 (by decide) ?_
    refine al (v := f 1) F hK hP 1 0 rfl rfl 1 rfl (by omega) (by decide) rfl dX6_eatenOf_20 ?_
    refine lv_iconst (v := 4) F.1 F.2.1 dX6_eatenOf_21 (by decide) ?_
    refine lv_icmp_le (tgt := 29) F.1 F.2.1 dX6_eatenOf_22 (by decide) (fun c_22 => ?_) (fun c_22 => ?_)
    · refine lv_iload_n F.1 F.2.1 dX6_eatenOf_29 rfl (lv_at hl 3 rfl) ?_
      refine lv_iconst (v := 2) F.1 F.2.1 dX6_eatenOf_30 (by decide) ?_
      refine va_mmin F.1 F.2.1 (F.2.2.1.trans hl.1.symm) F.2.2.2.1 (F.2.2.2.2 _ (List.mem_of_getElem? (i := 2) rfl)) (F.2.2.2.2 _ (List.mem_of_getElem? (i := 3) rfl)) (F.2.2.2.2 _ (List.mem_of_getElem? (i := 4) rfl)) (F.2.2.2.2 _ (List.mem_of_getElem? (i := 5) rfl)) (Nat.le_of_ble_eq_true rfl) (Nat.le_of_ble_eq_true rfl) (Nat.zero_le _) (Nat.zero_le _) dX6_eatenOf_31 ?_
      refine tp (y := mn n 2) rfl ?_
      exact rtI () F hr hlk hP hS rfl (by simp [eat, c_12, c_22, Int32.not_lt.mpr c_22]) dX6_eatenOf_34
    · refine lv_iconst (v := 0) F.1 F.2.1 dX6_eatenOf_25 (by decide) ?_
      refine lv_goto (tgt := 34) F.1 F.2.1 dX6_eatenOf_26 (by decide) ?_
      exact rtI () F hr hlk hP hS rfl (by simp [eat, c_12, c_22, Int32.not_le.mp c_22]) dX6_eatenOf_34

def rmX6_sum : Room := { frames := 2, cells := 0, slots := 0, locals := 43 }
theorem nmX6_sum : NmV yX6_sum RX6 2 := by unfold NmV; decide +kernel
set_option maxHeartbeats 4000000 in
set_option maxRecDepth 100000 in
theorem kX6_sum (l : Launch) (dC : Nat → ClassId) (dI : Nat → Nat → Nat) (ct : Nat → ClassId) (a : Nat → Nat) (v f : Nat → Int32) (s j b : Nat) (hi : 20 + 17 * s + j = b) (hb : b + 5 ≤ 210) : MI (S := Unit) l yX6_sum wsX6_sum rmX6_sum dC dI ct eT [.ref (a 0), .int (nI s), .int (nI j)] (oM a v :: [ai ct (a 1) 210 f]) (fun _ => oM a v :: [ai ct (a 1) 210 f]) (fun r _ => r = sumU f b 5) := by
  refine MI.of (cc := cX6_sum) (maxL := 5) (ret := (some .int)) (by decide) rfl (Nat.le_of_ble_eq_true rfl) ?_
  intro pg en z mi below meth cd A F hr hlk hin hK hP hD hA hS hE ls hl
  have F : CallFix pg mi cd cX6_sum 5 z _ wsX6_sum RX6 := F
  have hl : lv_has ls 5 [(0, .ref (a 0)), (1, .int (nI s)), (2, .int (nI j))] := hl
  refine lv_iconst (v := 0) F.1 F.2.1 dX6_sum_0 (by decide) ?_
  refine lv_istore_n (lv' := [(3, .int 0), (0, .ref (a 0)), (1, .int (nI s)), (2, .int (nI j))]) F.1 F.2.1 dX6_sum_1 rfl hl (by decide) rfl (fun ls hl => ?_)
  refine lv_iconst (v := 0) F.1 F.2.1 dX6_sum_2 (by decide) ?_
  refine lv_istore (lv' := [(4, .int 0), (3, .int 0), (0, .ref (a 0)), (1, .int (nI s)), (2, .int (nI j))]) F.1 F.2.1 dX6_sum_3 hl (by decide) rfl (fun ls hl => ?_)
  refine loopN (I := fun k H locs ls => va_P (dC, dI) vwCl (oM a v :: [ai ct (a 1) 210 f]) H ∧ va_D A (oM a v :: [ai ct (a 1) 210 f]) ∧ va_S A z.heap H locs ∧ lv_has ls 5 [(4, .int (nI k)), (3, .int (sumU f b k)), (0, .ref (a 0)), (1, .int (nI s)), (2, .int (nI j))]) 5 0 (by omega) ⟨hP, hD, hS, lv_sub hl [0, 1, 2, 3, 4] rfl⟩ (fun H locs ls hI => ?_) (fun k hk_k H locs ls hI ih_5 => ?_)
  · obtain ⟨hP, hD, hS, hl⟩ := hI
    refine lv_iload F.1 F.2.1 dX6_sum_5 (lv_at hl 0 rfl) ?_
    refine lv_iconst (v := 5) F.1 F.2.1 dX6_sum_7 (by decide) ?_
    refine lv_icmp_ge (tgt := 29) F.1 F.2.1 dX6_sum_8 (by decide) (fun c_8 => ?_) (fun c_8 => ?_)
    · refine lv_iload_n F.1 F.2.1 dX6_sum_29 rfl (lv_at hl 1 rfl) ?_
      exact rtI () F hr hlk hP hS rfl (by simp [c_8, Int32.not_lt.mpr c_8]) dX6_sum_30
    · exact absurd (nI_le (Nat.le_refl _) (by decide)) c_8
  · obtain ⟨hP, hD, hS, hl⟩ := hI
    refine lv_iload F.1 F.2.1 dX6_sum_5 (lv_at hl 0 rfl) ?_
    refine lv_iconst (v := 5) F.1 F.2.1 dX6_sum_7 (by decide) ?_
    refine lv_icmp_ge (tgt := 29) F.1 F.2.1 dX6_sum_8 (by decide) (fun c_8 => ?_) (fun c_8 => ?_)
    · exact absurd c_8 (nI_ge hk_k (by decide))
    · refine lv_iload_n F.1 F.2.1 dX6_sum_11 rfl (lv_at hl 1 rfl) ?_
      refine lv_aload_n F.1 F.2.1 dX6_sum_12 rfl (lv_at hl 2 rfl) ?_
      refine lv_iload_n F.1 F.2.1 dX6_sum_13 rfl (lv_at hl 3 rfl) ?_
      refine lv_iload_n F.1 F.2.1 dX6_sum_14 rfl (lv_at hl 4 rfl) ?_
      refine lv_iload F.1 F.2.1 dX6_sum_15 (lv_at hl 0 rfl) ?_
      refine lv_iadd F.1 F.2.1 dX6_sum_17 ?_
      refine tp (y := nI (j + k)) (ad2 (a := j) (b := k) (c := j + k) rfl rfl rfl) ?_
      refine iV (rest := [.int (sumU f b k)]) (wsp := fun _ => oM a v :: [ai ct (a 1) 210 f]) F (kX6_sideIs l dC dI ct a v f s (j + k) (b + k) (by omega) (by omega)) gX6_sum_X6_sideIs rfl ⟨rfl, rfl⟩ nmX6_sideIs ⟨Nat.le_of_ble_eq_true rfl, Nat.le_of_ble_eq_true rfl⟩ eT_b (fun _ _ _ => trivial) hK hP hD hS hA 0 rfl rfl rfl [0, 1] (by decide) rfl rfl rfl hl.1 (Nat.le_of_ble_eq_true rfl) dX6_sum_18 ⟨Nat.zero_le _, Nat.zero_le _⟩ (fun _ => rfl) (fun _ => rfl) [a 0, a 1] rfl (fun _ => rfl) (fun r_18 u_18 H locs e_18 hP hD hS => ?_)
      obtain rfl := e_18
      refine lv_iadd F.1 F.2.1 dX6_sum_21 ?_
      refine lv_istore_n (lv' := [(3, .int ((sumU f b k) + (f (b + k)))), (4, .int (nI k)), (0, .ref (a 0)), (1, .int (nI s)), (2, .int (nI j))]) F.1 F.2.1 dX6_sum_22 rfl hl (by decide) rfl (fun ls hl => ?_)
      refine lv_iinc (v := nI (k + 1)) (lv' := [(4, .int (nI (k + 1))), (3, .int ((sumU f b k) + (f (b + k)))), (0, .ref (a 0)), (1, .int (nI s)), (2, .int (nI j))]) F.1 F.2.1 dX6_sum_23 hl (k := 1) rfl (by rw [show Int32.ofInt 1 = nI 1 from rfl, nI_add]) (by decide) rfl (fun ls hl => ?_)
      refine lv_goto (tgt := 5) F.1 F.2.1 dX6_sum_26 (by decide) ?_
      exact ih_5 _ _ _ ⟨hP, hD, hS, lv_sub hl [0, 1, 2, 3, 4] rfl⟩

def rmX6_isEmpty : Room := { frames := 3, cells := 0, slots := 0, locals := 67 }
theorem nmX6_isEmpty : NmV yX6_isEmpty RX6 1 := by unfold NmV; decide +kernel
set_option maxHeartbeats 4000000 in
set_option maxRecDepth 100000 in
theorem kX6_isEmpty (l : Launch) (dC : Nat → ClassId) (dI : Nat → Nat → Nat) (ct : Nat → ClassId) (a : Nat → Nat) (v f : Nat → Int32) (s : Nat) (hs : s < 2) : MI (S := Unit) l yX6_isEmpty wsX6_isEmpty rmX6_isEmpty dC dI ct eT [.ref (a 0), .int (nI s)] (oM a v :: [ai ct (a 1) 210 f]) (fun _ => oM a v :: [ai ct (a 1) 210 f]) (fun r _ => r = if sumU f (27 + 17 * s) 5 = 0 then 1 else 0) := by
  refine MI.of (cc := cX6_isEmpty) (maxL := 2) (ret := (some .boolean)) (by decide) rfl (Nat.le_of_ble_eq_true rfl) ?_
  intro pg en z mi below meth cd A F hr hlk hin hK hP hD hA hS hE ls hl
  have F : CallFix pg mi cd cX6_isEmpty 2 z _ wsX6_isEmpty RX6 := F
  have hl : lv_has ls 2 [(0, .ref (a 0)), (1, .int (nI s))] := hl
  refine lv_aload_n F.1 F.2.1 dX6_isEmpty_0 rfl (lv_at hl 0 rfl) ?_
  refine lv_iload_n F.1 F.2.1 dX6_isEmpty_1 rfl (lv_at hl 1 rfl) ?_
  refine lv_bipush (v := 7) F.1 F.2.1 dX6_isEmpty_2 (by decide) ?_
  refine iV (rest := []) (wsp := fun _ => oM a v :: [ai ct (a 1) 210 f]) F (kX6_sum l dC dI ct a v f s 7 (27 + 17 * s) (by omega) (by omega)) gX6_isEmpty_X6_sum rfl ⟨rfl, rfl⟩ nmX6_sum ⟨Nat.le_of_ble_eq_true rfl, Nat.le_of_ble_eq_true rfl⟩ eT_b (fun _ _ _ => trivial) hK hP hD hS hA 0 rfl rfl rfl [0, 1] (by decide) rfl rfl rfl hl.1 (Nat.le_of_ble_eq_true rfl) dX6_isEmpty_4 ⟨Nat.zero_le _, Nat.zero_le _⟩ (fun _ => rfl) (fun _ => rfl) [a 0, a 1] rfl (fun _ => rfl) (fun r_4 u_4 H locs e_4 hP hD hS => ?_)
  obtain rfl := e_4
  refine lv_if_ne (tgt := 14) F.1 F.2.1 dX6_isEmpty_7 (by decide) (fun c_7 => ?_) (fun c_7 => ?_)
  · refine lv_iconst (v := 0) F.1 F.2.1 dX6_isEmpty_14 (by decide) ?_
    exact rtZ () F hr hlk hP hS rfl (by simp [c_7]) (Or.inl rfl) dX6_isEmpty_15
  · refine lv_iconst (v := 1) F.1 F.2.1 dX6_isEmpty_10 (by decide) ?_
    refine lv_goto (tgt := 15) F.1 F.2.1 dX6_isEmpty_11 (by decide) ?_
    exact rtZ () F hr hlk hP hS rfl (by simp [c_7]) (Or.inr rfl) dX6_isEmpty_15
