def rmX3_isMissing : Room := { frames := 0, cells := 0, slots := 0, locals := 0 }
theorem nmX3_isMissing : NmV yX3_isMissing RX3 0 := by unfold NmV; decide +kernel
theorem hiX3_isMissing_3 : ∀ w ∈ u_ws RX3 TX3 3, w ∈ wsX3_isMissing := by decide +kernel
set_option maxHeartbeats 4000000 in
set_option maxRecDepth 100000 in
theorem kX3_isMissing (l : Launch) (dC : Nat → ClassId) (dI : Nat → Nat → Nat) (ct : Nat → ClassId) (q na : Nat) (wb wz : Int32) : MI (S := Unit) l yX3_isMissing wsX3_isMissing rmX3_isMissing dC dI ct eT [.ref q] ([(q, .inr (3, [.ref na, .int wb, .int wz]))]) (fun _ => [(q, .inr (3, [.ref na, .int wb, .int wz]))]) (fun r _ => r = if wb = 0 then 1 else 0) := by
  refine MI.of (cc := cX3_isMissing) (maxL := 1) (ret := (some .boolean)) (by decide) rfl (Nat.le_of_ble_eq_true rfl) ?_
  intro pg en z mi below meth cd A F hr hlk hin hK hP hD hA hS hE ls hl
  have F : CallFix pg mi cd cX3_isMissing 1 z _ wsX3_isMissing RX3 := F
  have hl : lv_has ls 1 [(0, .ref q)] := hl
  refine lv_aload_n F.1 F.2.1 dX3_isMissing_0 rfl (lv_at hl 0 rfl) ?_
  refine gf F hK hP 0 rfl rfl hiX3_isMissing_3 1 (by decide) (List.mem_of_getElem? (i := 1) rfl) rfl dX3_isMissing_1 ?_
  refine lv_if_ne (tgt := 11) F.1 F.2.1 dX3_isMissing_4 (by decide) (fun c_4 => ?_) (fun c_4 => ?_)
  · refine lv_iconst (v := 0) F.1 F.2.1 dX3_isMissing_11 (by decide) ?_
    exact rtZ () F hr hlk hP hS rfl ((if_neg c_4).symm) (Or.inl rfl) dX3_isMissing_12
  · refine lv_iconst (v := 1) F.1 F.2.1 dX3_isMissing_7 (by decide) ?_
    refine lv_goto (tgt := 12) F.1 F.2.1 dX3_isMissing_8 (by decide) ?_
    exact rtZ () F hr hlk hP hS rfl ((if_pos c_4).symm) (Or.inr rfl) dX3_isMissing_12

def rmX3_begin : Room := { frames := 1, cells := 0, slots := 0, locals := 23 }
theorem nmX3_begin : NmV yX3_begin RX3 2 := by unfold NmV; decide +kernel
theorem hiX3_begin_3 : ∀ w ∈ u_ws RX3 TX3 3, w ∈ wsX3_begin := by decide +kernel
set_option maxHeartbeats 4000000 in
set_option maxRecDepth 100000 in
theorem kX3_begin (l : Launch) (dC : Nat → ClassId) (dI : Nat → Nat → Nat) (ct : Nat → ClassId) (q na : Nat) (wb wz : Int32) (n : Nat → Int32) (b k : Int32) : MI (S := Unit) l yX3_begin wsX3_begin rmX3_begin dC dI ct eT [.ref q, .int b, .int k] ((q, .inr (3, [.ref na, .int wb, .int wz])) :: [ai ct na 40 n]) (fun _ => (q, .inr (3, [.ref na, .int b, .int (if b = 0 then 0 else k)])) :: [ai ct na 40 (fun _ => 0)]) (fun r _ => r = if b = 0 then 0 else k) := by
  refine MI.of (cc := cX3_begin) (maxL := 3) (ret := (some .int)) (by decide) rfl (Nat.le_of_ble_eq_true rfl) ?_
  intro pg en z mi below meth cd A F hr hlk hin hK hP hD hA hS hE ls hl
  have F : CallFix pg mi cd cX3_begin 3 z _ wsX3_begin RX3 := F
  have hl : lv_has ls 3 [(0, .ref q), (1, .int b), (2, .int k)] := hl
  refine lv_aload_n F.1 F.2.1 dX3_begin_0 rfl (lv_at hl 0 rfl) ?_
  refine lv_iload_n F.1 F.2.1 dX3_begin_1 rfl (lv_at hl 1 rfl) ?_
  refine pf (ws' := (q, .inr (3, [.ref na, .int b, .int wz])) :: [ai ct na 40 n]) F hK hP hD hS 0 rfl rfl hiX3_begin_3 tyX3 tyX3_ok nmX3 1 (by decide) (List.mem_of_getElem? (i := 1) rfl) rfl rfl rfl (Nat.le_of_ble_eq_true rfl) dX3_begin_2 (weq.rf _) (fun H locs hP hD hS => ?_)
  refine lv_aload_n F.1 F.2.1 dX3_begin_5 rfl (lv_at hl 0 rfl) ?_
  refine lv_iload_n F.1 F.2.1 dX3_begin_6 rfl (lv_at hl 1 rfl) ?_
  refine lv_if_ne (tgt := 14) F.1 F.2.1 dX3_begin_7 (by decide) (fun c_7 => ?_) (fun c_7 => ?_)
  · refine lv_iload_n F.1 F.2.1 dX3_begin_14 rfl (lv_at hl 2 rfl) ?_
    refine tp (y := if b = 0 then 0 else k) ((if_neg c_7).symm) ?_
    refine pf (ws' := (q, .inr (3, [.ref na, .int b, .int (if b = 0 then 0 else k)])) :: [ai ct na 40 n]) F hK hP hD hS 0 rfl rfl hiX3_begin_3 tyX3 tyX3_ok nmX3 2 (by decide) (List.mem_of_getElem? (i := 2) rfl) rfl rfl rfl (Nat.le_of_ble_eq_true rfl) dX3_begin_15 (weq.rf _) (fun H locs hP hD hS => ?_)
    refine lv_aload_n F.1 F.2.1 dX3_begin_18 rfl (lv_at hl 0 rfl) ?_
    refine gf F hK hP 0 rfl rfl hiX3_begin_3 0 (by decide) (List.mem_of_getElem? (i := 3) rfl) rfl dX3_begin_19 ?_
    refine lv_iconst (v := 0) F.1 F.2.1 dX3_begin_22 (by decide) ?_
    refine vS (rest := []) (wsp := fun _ => (q, .inr (3, [.ref na, .int b, .int (if b = 0 then 0 else k)])) :: [ai ct na 40 (fun _ => 0)]) F (kJ7_fill_53178 l dC dI ct na 40 n 0 (by decide)) gX3_begin_J7_fill_53178 rfl ⟨rfl, rfl⟩ nmJ7_fill_53178 ⟨Nat.le_of_ble_eq_true rfl, Nat.le_of_ble_eq_true rfl⟩ eT_b (fun _ _ _ => trivial) hK hP hD hS hA [1] (by decide) rfl rfl rfl hl.1 (Nat.le_of_ble_eq_true rfl) dX3_begin_23 ⟨Nat.zero_le _, Nat.zero_le _⟩ (fun _ => rfl) (fun _ => rfl) [q, na] rfl (fun _ => rfl) (fun u_23 H locs e_23 hP hD hS => ?_)
    refine lv_aload_n F.1 F.2.1 dX3_begin_26 rfl (lv_at hl 0 rfl) ?_
    refine gf F hK hP 0 rfl rfl hiX3_begin_3 2 (by decide) (List.mem_of_getElem? (i := 2) rfl) rfl dX3_begin_27 ?_
    exact rtI () F hr hlk hP hS rfl rfl dX3_begin_30
  · refine lv_iconst (v := 0) F.1 F.2.1 dX3_begin_10 (by decide) ?_
    refine tp (y := if b = 0 then 0 else k) ((if_pos c_7).symm) ?_
    refine lv_goto (tgt := 15) F.1 F.2.1 dX3_begin_11 (by decide) ?_
    refine pf (ws' := (q, .inr (3, [.ref na, .int b, .int (if b = 0 then 0 else k)])) :: [ai ct na 40 n]) F hK hP hD hS 0 rfl rfl hiX3_begin_3 tyX3 tyX3_ok nmX3 2 (by decide) (List.mem_of_getElem? (i := 2) rfl) rfl rfl rfl (Nat.le_of_ble_eq_true rfl) dX3_begin_15 (weq.rf _) (fun H locs hP hD hS => ?_)
    refine lv_aload_n F.1 F.2.1 dX3_begin_18 rfl (lv_at hl 0 rfl) ?_
    refine gf F hK hP 0 rfl rfl hiX3_begin_3 0 (by decide) (List.mem_of_getElem? (i := 3) rfl) rfl dX3_begin_19 ?_
    refine lv_iconst (v := 0) F.1 F.2.1 dX3_begin_22 (by decide) ?_
    refine vS (rest := []) (wsp := fun _ => (q, .inr (3, [.ref na, .int b, .int (if b = 0 then 0 else k)])) :: [ai ct na 40 (fun _ => 0)]) F (kJ7_fill_53178 l dC dI ct na 40 n 0 (by decide)) gX3_begin_J7_fill_53178 rfl ⟨rfl, rfl⟩ nmJ7_fill_53178 ⟨Nat.le_of_ble_eq_true rfl, Nat.le_of_ble_eq_true rfl⟩ eT_b (fun _ _ _ => trivial) hK hP hD hS hA [1] (by decide) rfl rfl rfl hl.1 (Nat.le_of_ble_eq_true rfl) dX3_begin_23 ⟨Nat.zero_le _, Nat.zero_le _⟩ (fun _ => rfl) (fun _ => rfl) [q, na] rfl (fun _ => rfl) (fun u_23 H locs e_23 hP hD hS => ?_)
    refine lv_aload_n F.1 F.2.1 dX3_begin_26 rfl (lv_at hl 0 rfl) ?_
    refine gf F hK hP 0 rfl rfl hiX3_begin_3 2 (by decide) (List.mem_of_getElem? (i := 2) rfl) rfl dX3_begin_27 ?_
    exact rtI () F hr hlk hP hS rfl rfl dX3_begin_30

def rmX3_put : Room := { frames := 0, cells := 0, slots := 0, locals := 0 }
theorem nmX3_put : NmV yX3_put RX3 2 := by unfold NmV; decide +kernel
theorem hiX3_put_3 : ∀ w ∈ u_ws RX3 TX3 3, w ∈ wsX3_put := by decide +kernel
set_option maxHeartbeats 4000000 in
set_option maxRecDepth 100000 in
theorem kX3_put (l : Launch) (dC : Nat → ClassId) (dI : Nat → Nat → Nat) (ct : Nat → ClassId) (q na : Nat) (wb wz : Int32) (n : Nat → Int32) (j : Nat) (w : Int32) (hj : j < 40) : MV (S := Unit) l yX3_put wsX3_put rmX3_put dC dI ct eT [.ref q, .int (nI j), .int w] ((q, .inr (3, [.ref na, .int wb, .int wz])) :: [ai ct na 40 n]) (fun _ => (q, .inr (3, [.ref na, .int wb, .int wz])) :: [ai ct na 40 (upd n j (cutF w wb))]) (fun _ => True) := by
  refine MV.of (cc := cX3_put) (maxL := 3) (ret := none) (by decide) rfl (Nat.le_of_ble_eq_true rfl) ?_
  intro pg en z mi below meth cd A F hr hlk hin hK hP hD hA hS hE ls hl
  have F : CallFix pg mi cd cX3_put 3 z _ wsX3_put RX3 := F
  have hl : lv_has ls 3 [(0, .ref q), (1, .int (nI j)), (2, .int w)] := hl
  refine lv_aload_n F.1 F.2.1 dX3_put_0 rfl (lv_at hl 0 rfl) ?_
  refine gf F hK hP 0 rfl rfl hiX3_put_3 1 (by decide) (List.mem_of_getElem? (i := 1) rfl) rfl dX3_put_1 ?_
  by_cases k4_8 : wb = 8
  · refine tp k4_8 ?_
    refine lv_lookup (x := 8) (tgt := 32) F.1 F.2.1 dX3_put_4 (by decide) rfl (by decide) ?_
    refine lv_aload_n F.1 F.2.1 dX3_put_32 rfl (lv_at hl 0 rfl) ?_
    refine gf F hK hP 0 rfl rfl hiX3_put_3 0 (by decide) (List.mem_of_getElem? (i := 2) rfl) rfl dX3_put_33 ?_
    refine lv_iload_n F.1 F.2.1 dX3_put_36 rfl (lv_at hl 1 rfl) ?_
    refine lv_iload_n F.1 F.2.1 dX3_put_37 rfl (lv_at hl 2 rfl) ?_
    refine lv_i2b F.1 F.2.1 dX3_put_38 rfl ?_
    refine tp (y := cutF w wb) (by unfold cutF; rw [if_pos k4_8]) ?_
    refine ast (ws' := (q, .inr (3, [.ref na, .int wb, .int wz])) :: [ai ct na 40 (upd n j (cutF w wb))]) F hK hP hD hS 1 0 rfl rfl j rfl (by omega) (by decide) dX3_put_39 (weq.rf _) (fun H locs hP hD hS => ?_)
    refine lv_goto (tgt := 61) F.1 F.2.1 dX3_put_40 (by decide) ?_
    exact rtV () F hr hlk hP hS rfl trivial dX3_put_61
  by_cases k4_16 : wb = 16
  · refine tp k4_16 ?_
    refine lv_lookup (x := 16) (tgt := 43) F.1 F.2.1 dX3_put_4 (by decide) rfl (by decide) ?_
    refine lv_aload_n F.1 F.2.1 dX3_put_43 rfl (lv_at hl 0 rfl) ?_
    refine gf F hK hP 0 rfl rfl hiX3_put_3 0 (by decide) (List.mem_of_getElem? (i := 2) rfl) rfl dX3_put_44 ?_
    refine lv_iload_n F.1 F.2.1 dX3_put_47 rfl (lv_at hl 1 rfl) ?_
    refine lv_iload_n F.1 F.2.1 dX3_put_48 rfl (lv_at hl 2 rfl) ?_
    refine lv_i2s F.1 F.2.1 dX3_put_49 rfl ?_
    refine tp (y := cutF w wb) (by unfold cutF; rw [if_neg k4_8, if_pos k4_16]) ?_
    refine ast (ws' := (q, .inr (3, [.ref na, .int wb, .int wz])) :: [ai ct na 40 (upd n j (cutF w wb))]) F hK hP hD hS 1 0 rfl rfl j rfl (by omega) (by decide) dX3_put_50 (weq.rf _) (fun H locs hP hD hS => ?_)
    refine lv_goto (tgt := 61) F.1 F.2.1 dX3_put_51 (by decide) ?_
    exact rtV () F hr hlk hP hS rfl trivial dX3_put_61
  refine lv_lookup (tgt := 54) (off := 50) F.1 F.2.1 dX3_put_4 (by decide) (by show (if (8 : Int) = Int32.toInt wb then (28 : Int) else if (16 : Int) = Int32.toInt wb then (39 : Int) else (50 : Int)) = _; rw [if_neg (ti_ne k4_8), if_neg (ti_ne k4_16)]) (by decide) ?_
  refine lv_aload_n F.1 F.2.1 dX3_put_54 rfl (lv_at hl 0 rfl) ?_
  refine gf F hK hP 0 rfl rfl hiX3_put_3 0 (by decide) (List.mem_of_getElem? (i := 2) rfl) rfl dX3_put_55 ?_
  refine lv_iload_n F.1 F.2.1 dX3_put_58 rfl (lv_at hl 1 rfl) ?_
  refine lv_iload_n F.1 F.2.1 dX3_put_59 rfl (lv_at hl 2 rfl) ?_
  refine tp (y := cutF w wb) (by unfold cutF; rw [if_neg k4_8, if_neg k4_16]) ?_
  refine ast (ws' := (q, .inr (3, [.ref na, .int wb, .int wz])) :: [ai ct na 40 (upd n j (cutF w wb))]) F hK hP hD hS 1 0 rfl rfl j rfl (by omega) (by decide) dX3_put_60 (weq.rf _) (fun H locs hP hD hS => ?_)
  exact rtV () F hr hlk hP hS rfl trivial dX3_put_61

def rmX3_has : Room := { frames := 0, cells := 0, slots := 0, locals := 0 }
theorem nmX3_has : NmV yX3_has RX3 2 := by unfold NmV; decide +kernel
theorem hiX3_has_3 : ∀ w ∈ u_ws RX3 TX3 3, w ∈ wsX3_has := by decide +kernel
set_option maxHeartbeats 4000000 in
set_option maxRecDepth 100000 in
theorem kX3_has (l : Launch) (dC : Nat → ClassId) (dI : Nat → Nat → Nat) (ct : Nat → ClassId) (q na : Nat) (wb wz : Int32) (j k : Int32) : MI (S := Unit) l yX3_has wsX3_has rmX3_has dC dI ct eT [.ref q, .int j, .int k] ([(q, .inr (3, [.ref na, .int wb, .int wz]))]) (fun _ => [(q, .inr (3, [.ref na, .int wb, .int wz]))]) (fun r _ => r = if 0 ≤ j ∧ 0 ≤ k ∧ j ≤ wz ∧ k ≤ wz - j then 1 else 0) := by
  refine MI.of (cc := cX3_has) (maxL := 3) (ret := (some .boolean)) (by decide) rfl (Nat.le_of_ble_eq_true rfl) ?_
  intro pg en z mi below meth cd A F hr hlk hin hK hP hD hA hS hE ls hl
  have F : CallFix pg mi cd cX3_has 3 z _ wsX3_has RX3 := F
  have hl : lv_has ls 3 [(0, .ref q), (1, .int j), (2, .int k)] := hl
  refine lv_iload_n F.1 F.2.1 dX3_has_0 rfl (lv_at hl 1 rfl) ?_
  refine lv_if_lt (tgt := 30) F.1 F.2.1 dX3_has_1 (by decide) (fun c_1 => ?_) (fun c_1 => ?_)
  · refine lv_iconst (v := 0) F.1 F.2.1 dX3_has_30 (by decide) ?_
    exact rtZ () F hr hlk hP hS rfl ((if_neg (fun q => Int32.not_lt.mpr q.1 c_1)).symm) (Or.inl rfl) dX3_has_31
  · refine lv_iload_n F.1 F.2.1 dX3_has_4 rfl (lv_at hl 2 rfl) ?_
    refine lv_if_lt (tgt := 30) F.1 F.2.1 dX3_has_5 (by decide) (fun c_5 => ?_) (fun c_5 => ?_)
    · refine lv_iconst (v := 0) F.1 F.2.1 dX3_has_30 (by decide) ?_
      exact rtZ () F hr hlk hP hS rfl ((if_neg (fun q => Int32.not_lt.mpr q.2.1 c_5)).symm) (Or.inl rfl) dX3_has_31
    · refine lv_iload_n F.1 F.2.1 dX3_has_8 rfl (lv_at hl 1 rfl) ?_
      refine lv_aload_n F.1 F.2.1 dX3_has_9 rfl (lv_at hl 0 rfl) ?_
      refine gf F hK hP 0 rfl rfl hiX3_has_3 2 (by decide) (List.mem_of_getElem? (i := 1) rfl) rfl dX3_has_10 ?_
      refine lv_icmp_gt (tgt := 30) F.1 F.2.1 dX3_has_13 (by decide) (fun c_13 => ?_) (fun c_13 => ?_)
      · refine lv_iconst (v := 0) F.1 F.2.1 dX3_has_30 (by decide) ?_
        exact rtZ () F hr hlk hP hS rfl ((if_neg (fun q => Int32.not_lt.mpr q.2.2.1 c_13)).symm) (Or.inl rfl) dX3_has_31
      · refine lv_iload_n F.1 F.2.1 dX3_has_16 rfl (lv_at hl 2 rfl) ?_
        refine lv_aload_n F.1 F.2.1 dX3_has_17 rfl (lv_at hl 0 rfl) ?_
        refine gf F hK hP 0 rfl rfl hiX3_has_3 2 (by decide) (List.mem_of_getElem? (i := 1) rfl) rfl dX3_has_18 ?_
        refine lv_iload_n F.1 F.2.1 dX3_has_21 rfl (lv_at hl 1 rfl) ?_
        refine lv_isub F.1 F.2.1 dX3_has_22 ?_
        refine lv_icmp_gt (tgt := 30) F.1 F.2.1 dX3_has_23 (by decide) (fun c_23 => ?_) (fun c_23 => ?_)
        · refine lv_iconst (v := 0) F.1 F.2.1 dX3_has_30 (by decide) ?_
          exact rtZ () F hr hlk hP hS rfl ((if_neg (fun q => Int32.not_lt.mpr q.2.2.2 c_23)).symm) (Or.inl rfl) dX3_has_31
        · refine lv_iconst (v := 1) F.1 F.2.1 dX3_has_26 (by decide) ?_
          refine lv_goto (tgt := 31) F.1 F.2.1 dX3_has_27 (by decide) ?_
          exact rtZ () F hr hlk hP hS rfl ((if_pos ⟨Int32.not_lt.mp c_1, Int32.not_lt.mp c_5, Int32.not_lt.mp c_13, Int32.not_lt.mp c_23⟩).symm) (Or.inr rfl) dX3_has_31

def rmX5_sheet : Room := { frames := 2, cells := 0, slots := 0, locals := 45 }
theorem nmX5_sheet : NmV yX5_sheet RX5 3 := by unfold NmV; decide +kernel
theorem hiX5_sheet_5 : ∀ w ∈ u_ws RX5 TX5 7, w ∈ wsX5_sheet := by decide +kernel
set_option maxHeartbeats 4000000 in
set_option maxRecDepth 100000 in
theorem kX5_sheet (l : Launch) (dC : Nat → ClassId) (dI : Nat → Nat → Nat) (ct : Nat → ClassId) (x st kt sc sh fo : Nat) (tr q : Nat → Nat) (ik : Int32) (wd sz nm c : Nat → Int32) (x1 x2 x3 : Int32) : MI (S := (Nat → Int32) × (Nat → Int32) × (Nat → Int32) × (Nat → Int32)) l yX5_sheet wsX5_sheet rmX5_sheet dC dI ct eT [.ref x, .int x1, .int x2, .int x3] ((x, .inr (5, [.ref st, .ref kt, .int ik, .ref (tr 0), .ref sc, .ref sh, .ref fo])) :: ai ct fo 7 (fun j => c (j + 1)) :: wS ct sh q wd sz nm) (fun u => (x, .inr (5, [.ref st, .ref kt, .int ik, .ref (tr 0), .ref sc, .ref sh, .ref fo])) :: ai ct fo 7 (fun j => u.2.2.2 (j + 1)) :: wS ct sh q u.1 u.2.1 u.2.2.1) (fun r u => (r, u.1, u.2.1, u.2.2.1, u.2.2.2) = sSheet wd sz nm c x1 x2 x3) := by
  refine MI.of (cc := cX5_sheet) (maxL := 4) (ret := (some .int)) (by decide) rfl (Nat.le_of_ble_eq_true rfl) ?_
  intro pg en z mi below meth cd A F hr hlk hin hK hP hD hA hS hE ls hl
  have F : CallFix pg mi cd cX5_sheet 4 z _ wsX5_sheet RX5 := F
  have hl : lv_has ls 4 [(0, .ref x), (1, .int x1), (2, .int x2), (3, .int x3)] := hl
  refine lv_iload_n F.1 F.2.1 dX5_sheet_0 rfl (lv_at hl 1 rfl) ?_
  refine iS (rest := []) (wsp := fun _ => (x, .inr (5, [.ref st, .ref kt, .int ik, .ref (tr 0), .ref sc, .ref sh, .ref fo])) :: ai ct fo 7 (fun j => c (j + 1)) :: (sh, .inl (ct 2, 4, .inr (.inr (.inr (.inr (fun j => some (q j))))))) :: (q 0, .inr (3, [.ref (q 4), .int (wd 0), .int (sz 0)])) :: (q 1, .inr (3, [.ref (q 5), .int (wd 1), .int (sz 1)])) :: (q 2, .inr (3, [.ref (q 6), .int (wd 2), .int (sz 2)])) :: (q 3, .inr (3, [.ref (q 7), .int (wd 3), .int (sz 3)])) :: ai ct (q 4) 40 (fun j => nm (40 * 0 + j)) :: ai ct (q 5) 40 (fun j => nm (40 * 1 + j)) :: ai ct (q 6) 40 (fun j => nm (40 * 2 + j)) :: [ai ct (q 7) 40 (fun j => nm (40 * 3 + j))]) F (kX5_isSheet l dC dI ct x1) gX5_sheet_X5_isSheet rfl ⟨rfl, rfl⟩ nmX5_isSheet ⟨Nat.le_of_ble_eq_true rfl, Nat.le_of_ble_eq_true rfl⟩ eT_b (fun _ _ _ => trivial) hK hP hD hS hA [] (by decide) rfl rfl rfl hl.1 (Nat.le_of_ble_eq_true rfl) dX5_sheet_1 ⟨Nat.zero_le _, Nat.zero_le _⟩ (fun _ => rfl) (fun _ => rfl) [x, fo, sh, q 0, q 1, q 2, q 3, q 4, q 5, q 6, q 7] rfl (fun _ => rfl) (fun r_1 u_1 H locs e_1 hP hD hS => ?_)
  obtain rfl := e_1
  refine lv_if_eq (tgt := 29) F.1 F.2.1 dX5_sheet_4 (by decide) (fun c_4 => ?_) (fun c_4 => ?_)
  · have c_4 : ¬ (0 ≤ x1 ∧ x1 ≤ 3) := b01f rfl c_4
    refine lv_aload_n F.1 F.2.1 dX5_sheet_29 rfl (lv_at hl 0 rfl) ?_
    refine lv_iconst (v := 0) F.1 F.2.1 dX5_sheet_30 (by decide) ?_
    refine iV (rest := []) (wsp := fun _ => (x, .inr (5, [.ref st, .ref kt, .int ik, .ref (tr 0), .ref sc, .ref sh, .ref fo])) :: ai ct fo 7 (fun j => (fnd c 1) (j + 1)) :: (sh, .inl (ct 2, 4, .inr (.inr (.inr (.inr (fun j => some (q j))))))) :: (q 0, .inr (3, [.ref (q 4), .int (wd 0), .int (sz 0)])) :: (q 1, .inr (3, [.ref (q 5), .int (wd 1), .int (sz 1)])) :: (q 2, .inr (3, [.ref (q 6), .int (wd 2), .int (sz 2)])) :: (q 3, .inr (3, [.ref (q 7), .int (wd 3), .int (sz 3)])) :: ai ct (q 4) 40 (fun j => nm (40 * 0 + j)) :: ai ct (q 5) 40 (fun j => nm (40 * 1 + j)) :: ai ct (q 6) 40 (fun j => nm (40 * 2 + j)) :: [ai ct (q 7) 40 (fun j => nm (40 * 3 + j))]) F (kX5_finding l dC dI ct x st kt sc sh fo tr ik c 0 1 (-1000001) (by decide) (by decide) (by decide)) gX5_sheet_X5_finding rfl ⟨rfl, rfl⟩ nmX5_finding ⟨Nat.le_of_ble_eq_true rfl, Nat.le_of_ble_eq_true rfl⟩ eT_b (fun _ _ _ => trivial) hK hP hD hS hA 0 rfl rfl rfl [0, 1] (by decide) rfl rfl rfl hl.1 (Nat.le_of_ble_eq_true rfl) dX5_sheet_31 ⟨Nat.zero_le _, Nat.zero_le _⟩ (fun _ => rfl) (fun _ => rfl) [x, fo, sh, q 0, q 1, q 2, q 3, q 4, q 5, q 6, q 7] rfl (fun _ => rfl) (fun r_31 u_31 H locs e_31 hP hD hS => ?_)
    obtain rfl := e_31
    exact rtI (wd, sz, nm, (fnd c 1)) F hr hlk hP hS rfl ((if_neg (fun q => c_4 q.1)).symm) dX5_sheet_34
  · have c_4 : 0 ≤ x1 ∧ x1 ≤ 3 := b01t rfl c_4
    obtain ⟨s, hs, rfl⟩ := gH_n c_4
    refine lv_iload_n F.1 F.2.1 dX5_sheet_7 rfl (lv_at hl 2 rfl) ?_
    refine lv_if_eq (tgt := 35) F.1 F.2.1 dX5_sheet_8 (by decide) (fun c_8 => ?_) (fun c_8 => ?_)
    · refine lv_iload_n F.1 F.2.1 dX5_sheet_35 rfl (lv_at hl 3 rfl) ?_
      refine lv_if_ge (tgt := 46) F.1 F.2.1 dX5_sheet_36 (by decide) (fun c_36 => ?_) (fun c_36 => ?_)
      · refine lv_iload_n F.1 F.2.1 dX5_sheet_46 rfl (lv_at hl 3 rfl) ?_
        refine lv_bipush (v := 40) F.1 F.2.1 dX5_sheet_47 (by decide) ?_
        refine lv_icmp_le (tgt := 58) F.1 F.2.1 dX5_sheet_49 (by decide) (fun c_49 => ?_) (fun c_49 => ?_)
        · rcases (show s = 0 ∨ s = 1 ∨ s = 2 ∨ s = 3 by omega) with rfl | rfl | rfl | rfl
          · skip
            refine lv_aload_n F.1 F.2.1 dX5_sheet_58 rfl (lv_at hl 0 rfl) ?_
            refine gf F hK hP 0 rfl rfl hiX5_sheet_5 5 (by decide) (List.mem_of_getElem? (i := 1) rfl) rfl dX5_sheet_59 ?_
            refine lv_iload_n F.1 F.2.1 dX5_sheet_62 rfl (lv_at hl 1 rfl) ?_
            refine alr F hK hP 2 2 rfl rfl rfl 0 rfl (by omega) (by decide) rfl dX5_sheet_63 ?_
            refine lv_iload_n F.1 F.2.1 dX5_sheet_64 rfl (lv_at hl 2 rfl) ?_
            refine lv_iload_n F.1 F.2.1 dX5_sheet_65 rfl (lv_at hl 3 rfl) ?_
            refine iV (rest := []) (wsp := fun _ => (x, .inr (5, [.ref st, .ref kt, .int ik, .ref (tr 0), .ref sc, .ref sh, .ref fo])) :: ai ct fo 7 (fun j => c (j + 1)) :: (sh, .inl (ct 2, 4, .inr (.inr (.inr (.inr (fun j => some (q j))))))) :: ((q 0), .inr (3, [.ref (q 4), .int x2, .int (if x2 = 0 then 0 else x3)])) :: (q 1, .inr (3, [.ref (q 5), .int (wd 1), .int (sz 1)])) :: (q 2, .inr (3, [.ref (q 6), .int (wd 2), .int (sz 2)])) :: (q 3, .inr (3, [.ref (q 7), .int (wd 3), .int (sz 3)])) :: ai ct (q 4) 40 (fun _ => 0) :: ai ct (q 5) 40 (fun j => nm (40 * 1 + j)) :: ai ct (q 6) 40 (fun j => nm (40 * 2 + j)) :: [ai ct (q 7) 40 (fun j => nm (40 * 3 + j))]) F (kX3_begin l dC dI ct (q 0) (q 4) (wd 0) (sz 0) (fun j => nm (40 * 0 + j)) x2 x3) gX5_sheet_X3_begin rfl ⟨rfl, rfl⟩ nmX3_begin ⟨Nat.le_of_ble_eq_true rfl, Nat.le_of_ble_eq_true rfl⟩ eT_b (fun _ _ _ => trivial) hK hP hD hS hA 3 rfl rfl rfl [3, 7] (by decide) rfl rfl rfl hl.1 (Nat.le_of_ble_eq_true rfl) dX5_sheet_66 ⟨Nat.zero_le _, Nat.zero_le _⟩ (fun _ => rfl) (fun _ => rfl) [x, fo, sh, q 0, q 1, q 2, q 3, q 4, q 5, q 6, q 7] rfl (fun _ => rfl) (fun r_66 u_66 H locs e_66 hP hD hS => ?_)
            obtain rfl := e_66
            have hq := (weq.c (x := (x, .inr (5, [.ref st, .ref kt, .int ik, .ref (tr 0), .ref sc, .ref sh, .ref fo]))) (weq.c (x := ai ct fo 7 (fun j => c (j + 1))) (wS_mk (ct := ct) (sh := sh) (q := q) (wd := (upd wd 0 x2)) (sz := (upd sz 0 (if x2 = 0 then 0 else x3))) (nm := (zN nm 0 40)) ⟨rfl, rfl, rfl, rfl⟩ ⟨rfl, rfl, rfl, rfl⟩ (fun j hj => zN_in nm 0 hj) (fun j hj => zN_out nm (by decide) hj) (fun j hj => zN_out nm (by decide) hj) (fun j hj => zN_out nm (by decide) hj))))
            have hP := hq.P hP
            have hD := hq.D hD
            exact rtI ((upd wd 0 x2), (upd sz 0 (if x2 = 0 then 0 else x3)), (zN nm 0 40), c) F hr hlk hP hS rfl (Eq.trans (by rw [if_neg (Int32.not_lt.mpr c_36), if_neg (Int32.not_lt.mpr c_49), show tn (nI 0) = 0 from rfl]; rfl) (if_pos ⟨c_4, Or.inl c_8⟩).symm) dX5_sheet_69
          · skip
            refine lv_aload_n F.1 F.2.1 dX5_sheet_58 rfl (lv_at hl 0 rfl) ?_
            refine gf F hK hP 0 rfl rfl hiX5_sheet_5 5 (by decide) (List.mem_of_getElem? (i := 1) rfl) rfl dX5_sheet_59 ?_
            refine lv_iload_n F.1 F.2.1 dX5_sheet_62 rfl (lv_at hl 1 rfl) ?_
            refine alr F hK hP 2 2 rfl rfl rfl 1 rfl (by omega) (by decide) rfl dX5_sheet_63 ?_
            refine lv_iload_n F.1 F.2.1 dX5_sheet_64 rfl (lv_at hl 2 rfl) ?_
            refine lv_iload_n F.1 F.2.1 dX5_sheet_65 rfl (lv_at hl 3 rfl) ?_
            refine iV (rest := []) (wsp := fun _ => (x, .inr (5, [.ref st, .ref kt, .int ik, .ref (tr 0), .ref sc, .ref sh, .ref fo])) :: ai ct fo 7 (fun j => c (j + 1)) :: (sh, .inl (ct 2, 4, .inr (.inr (.inr (.inr (fun j => some (q j))))))) :: (q 0, .inr (3, [.ref (q 4), .int (wd 0), .int (sz 0)])) :: ((q 1), .inr (3, [.ref (q 5), .int x2, .int (if x2 = 0 then 0 else x3)])) :: (q 2, .inr (3, [.ref (q 6), .int (wd 2), .int (sz 2)])) :: (q 3, .inr (3, [.ref (q 7), .int (wd 3), .int (sz 3)])) :: ai ct (q 4) 40 (fun j => nm (40 * 0 + j)) :: ai ct (q 5) 40 (fun _ => 0) :: ai ct (q 6) 40 (fun j => nm (40 * 2 + j)) :: [ai ct (q 7) 40 (fun j => nm (40 * 3 + j))]) F (kX3_begin l dC dI ct (q 1) (q 5) (wd 1) (sz 1) (fun j => nm (40 * 1 + j)) x2 x3) gX5_sheet_X3_begin rfl ⟨rfl, rfl⟩ nmX3_begin ⟨Nat.le_of_ble_eq_true rfl, Nat.le_of_ble_eq_true rfl⟩ eT_b (fun _ _ _ => trivial) hK hP hD hS hA 4 rfl rfl rfl [4, 8] (by decide) rfl rfl rfl hl.1 (Nat.le_of_ble_eq_true rfl) dX5_sheet_66 ⟨Nat.zero_le _, Nat.zero_le _⟩ (fun _ => rfl) (fun _ => rfl) [x, fo, sh, q 0, q 1, q 2, q 3, q 4, q 5, q 6, q 7] rfl (fun _ => rfl) (fun r_66 u_66 H locs e_66 hP hD hS => ?_)
            obtain rfl := e_66
            have hq := (weq.c (x := (x, .inr (5, [.ref st, .ref kt, .int ik, .ref (tr 0), .ref sc, .ref sh, .ref fo]))) (weq.c (x := ai ct fo 7 (fun j => c (j + 1))) (wS_mk (ct := ct) (sh := sh) (q := q) (wd := (upd wd 1 x2)) (sz := (upd sz 1 (if x2 = 0 then 0 else x3))) (nm := (zN nm 1 40)) ⟨rfl, rfl, rfl, rfl⟩ ⟨rfl, rfl, rfl, rfl⟩ (fun j hj => zN_out nm (by decide) hj) (fun j hj => zN_in nm 1 hj) (fun j hj => zN_out nm (by decide) hj) (fun j hj => zN_out nm (by decide) hj))))
            have hP := hq.P hP
            have hD := hq.D hD
            exact rtI ((upd wd 1 x2), (upd sz 1 (if x2 = 0 then 0 else x3)), (zN nm 1 40), c) F hr hlk hP hS rfl (Eq.trans (by rw [if_neg (Int32.not_lt.mpr c_36), if_neg (Int32.not_lt.mpr c_49), show tn (nI 1) = 1 from rfl]; rfl) (if_pos ⟨c_4, Or.inl c_8⟩).symm) dX5_sheet_69
          · skip
            refine lv_aload_n F.1 F.2.1 dX5_sheet_58 rfl (lv_at hl 0 rfl) ?_
            refine gf F hK hP 0 rfl rfl hiX5_sheet_5 5 (by decide) (List.mem_of_getElem? (i := 1) rfl) rfl dX5_sheet_59 ?_
            refine lv_iload_n F.1 F.2.1 dX5_sheet_62 rfl (lv_at hl 1 rfl) ?_
            refine alr F hK hP 2 2 rfl rfl rfl 2 rfl (by omega) (by decide) rfl dX5_sheet_63 ?_
            refine lv_iload_n F.1 F.2.1 dX5_sheet_64 rfl (lv_at hl 2 rfl) ?_
            refine lv_iload_n F.1 F.2.1 dX5_sheet_65 rfl (lv_at hl 3 rfl) ?_
            refine iV (rest := []) (wsp := fun _ => (x, .inr (5, [.ref st, .ref kt, .int ik, .ref (tr 0), .ref sc, .ref sh, .ref fo])) :: ai ct fo 7 (fun j => c (j + 1)) :: (sh, .inl (ct 2, 4, .inr (.inr (.inr (.inr (fun j => some (q j))))))) :: (q 0, .inr (3, [.ref (q 4), .int (wd 0), .int (sz 0)])) :: (q 1, .inr (3, [.ref (q 5), .int (wd 1), .int (sz 1)])) :: ((q 2), .inr (3, [.ref (q 6), .int x2, .int (if x2 = 0 then 0 else x3)])) :: (q 3, .inr (3, [.ref (q 7), .int (wd 3), .int (sz 3)])) :: ai ct (q 4) 40 (fun j => nm (40 * 0 + j)) :: ai ct (q 5) 40 (fun j => nm (40 * 1 + j)) :: ai ct (q 6) 40 (fun _ => 0) :: [ai ct (q 7) 40 (fun j => nm (40 * 3 + j))]) F (kX3_begin l dC dI ct (q 2) (q 6) (wd 2) (sz 2) (fun j => nm (40 * 2 + j)) x2 x3) gX5_sheet_X3_begin rfl ⟨rfl, rfl⟩ nmX3_begin ⟨Nat.le_of_ble_eq_true rfl, Nat.le_of_ble_eq_true rfl⟩ eT_b (fun _ _ _ => trivial) hK hP hD hS hA 5 rfl rfl rfl [5, 9] (by decide) rfl rfl rfl hl.1 (Nat.le_of_ble_eq_true rfl) dX5_sheet_66 ⟨Nat.zero_le _, Nat.zero_le _⟩ (fun _ => rfl) (fun _ => rfl) [x, fo, sh, q 0, q 1, q 2, q 3, q 4, q 5, q 6, q 7] rfl (fun _ => rfl) (fun r_66 u_66 H locs e_66 hP hD hS => ?_)
            obtain rfl := e_66
            have hq := (weq.c (x := (x, .inr (5, [.ref st, .ref kt, .int ik, .ref (tr 0), .ref sc, .ref sh, .ref fo]))) (weq.c (x := ai ct fo 7 (fun j => c (j + 1))) (wS_mk (ct := ct) (sh := sh) (q := q) (wd := (upd wd 2 x2)) (sz := (upd sz 2 (if x2 = 0 then 0 else x3))) (nm := (zN nm 2 40)) ⟨rfl, rfl, rfl, rfl⟩ ⟨rfl, rfl, rfl, rfl⟩ (fun j hj => zN_out nm (by decide) hj) (fun j hj => zN_out nm (by decide) hj) (fun j hj => zN_in nm 2 hj) (fun j hj => zN_out nm (by decide) hj))))
            have hP := hq.P hP
            have hD := hq.D hD
            exact rtI ((upd wd 2 x2), (upd sz 2 (if x2 = 0 then 0 else x3)), (zN nm 2 40), c) F hr hlk hP hS rfl (Eq.trans (by rw [if_neg (Int32.not_lt.mpr c_36), if_neg (Int32.not_lt.mpr c_49), show tn (nI 2) = 2 from rfl]; rfl) (if_pos ⟨c_4, Or.inl c_8⟩).symm) dX5_sheet_69
          · skip
            refine lv_aload_n F.1 F.2.1 dX5_sheet_58 rfl (lv_at hl 0 rfl) ?_
            refine gf F hK hP 0 rfl rfl hiX5_sheet_5 5 (by decide) (List.mem_of_getElem? (i := 1) rfl) rfl dX5_sheet_59 ?_
            refine lv_iload_n F.1 F.2.1 dX5_sheet_62 rfl (lv_at hl 1 rfl) ?_
            refine alr F hK hP 2 2 rfl rfl rfl 3 rfl (by omega) (by decide) rfl dX5_sheet_63 ?_
            refine lv_iload_n F.1 F.2.1 dX5_sheet_64 rfl (lv_at hl 2 rfl) ?_
            refine lv_iload_n F.1 F.2.1 dX5_sheet_65 rfl (lv_at hl 3 rfl) ?_
            refine iV (rest := []) (wsp := fun _ => (x, .inr (5, [.ref st, .ref kt, .int ik, .ref (tr 0), .ref sc, .ref sh, .ref fo])) :: ai ct fo 7 (fun j => c (j + 1)) :: (sh, .inl (ct 2, 4, .inr (.inr (.inr (.inr (fun j => some (q j))))))) :: (q 0, .inr (3, [.ref (q 4), .int (wd 0), .int (sz 0)])) :: (q 1, .inr (3, [.ref (q 5), .int (wd 1), .int (sz 1)])) :: (q 2, .inr (3, [.ref (q 6), .int (wd 2), .int (sz 2)])) :: ((q 3), .inr (3, [.ref (q 7), .int x2, .int (if x2 = 0 then 0 else x3)])) :: ai ct (q 4) 40 (fun j => nm (40 * 0 + j)) :: ai ct (q 5) 40 (fun j => nm (40 * 1 + j)) :: ai ct (q 6) 40 (fun j => nm (40 * 2 + j)) :: [ai ct (q 7) 40 (fun _ => 0)]) F (kX3_begin l dC dI ct (q 3) (q 7) (wd 3) (sz 3) (fun j => nm (40 * 3 + j)) x2 x3) gX5_sheet_X3_begin rfl ⟨rfl, rfl⟩ nmX3_begin ⟨Nat.le_of_ble_eq_true rfl, Nat.le_of_ble_eq_true rfl⟩ eT_b (fun _ _ _ => trivial) hK hP hD hS hA 6 rfl rfl rfl [6, 10] (by decide) rfl rfl rfl hl.1 (Nat.le_of_ble_eq_true rfl) dX5_sheet_66 ⟨Nat.zero_le _, Nat.zero_le _⟩ (fun _ => rfl) (fun _ => rfl) [x, fo, sh, q 0, q 1, q 2, q 3, q 4, q 5, q 6, q 7] rfl (fun _ => rfl) (fun r_66 u_66 H locs e_66 hP hD hS => ?_)
            obtain rfl := e_66
            have hq := (weq.c (x := (x, .inr (5, [.ref st, .ref kt, .int ik, .ref (tr 0), .ref sc, .ref sh, .ref fo]))) (weq.c (x := ai ct fo 7 (fun j => c (j + 1))) (wS_mk (ct := ct) (sh := sh) (q := q) (wd := (upd wd 3 x2)) (sz := (upd sz 3 (if x2 = 0 then 0 else x3))) (nm := (zN nm 3 40)) ⟨rfl, rfl, rfl, rfl⟩ ⟨rfl, rfl, rfl, rfl⟩ (fun j hj => zN_out nm (by decide) hj) (fun j hj => zN_out nm (by decide) hj) (fun j hj => zN_out nm (by decide) hj) (fun j hj => zN_in nm 3 hj))))
            have hP := hq.P hP
            have hD := hq.D hD
            exact rtI ((upd wd 3 x2), (upd sz 3 (if x2 = 0 then 0 else x3)), (zN nm 3 40), c) F hr hlk hP hS rfl (Eq.trans (by rw [if_neg (Int32.not_lt.mpr c_36), if_neg (Int32.not_lt.mpr c_49), show tn (nI 3) = 3 from rfl]; rfl) (if_pos ⟨c_4, Or.inl c_8⟩).symm) dX5_sheet_69
        · refine lv_aload_n F.1 F.2.1 dX5_sheet_52 rfl (lv_at hl 0 rfl) ?_
          refine lv_iconst (v := 0) F.1 F.2.1 dX5_sheet_53 (by decide) ?_
          refine iV (rest := []) (wsp := fun _ => (x, .inr (5, [.ref st, .ref kt, .int ik, .ref (tr 0), .ref sc, .ref sh, .ref fo])) :: ai ct fo 7 (fun j => (fnd c 1) (j + 1)) :: (sh, .inl (ct 2, 4, .inr (.inr (.inr (.inr (fun j => some (q j))))))) :: (q 0, .inr (3, [.ref (q 4), .int (wd 0), .int (sz 0)])) :: (q 1, .inr (3, [.ref (q 5), .int (wd 1), .int (sz 1)])) :: (q 2, .inr (3, [.ref (q 6), .int (wd 2), .int (sz 2)])) :: (q 3, .inr (3, [.ref (q 7), .int (wd 3), .int (sz 3)])) :: ai ct (q 4) 40 (fun j => nm (40 * 0 + j)) :: ai ct (q 5) 40 (fun j => nm (40 * 1 + j)) :: ai ct (q 6) 40 (fun j => nm (40 * 2 + j)) :: [ai ct (q 7) 40 (fun j => nm (40 * 3 + j))]) F (kX5_finding l dC dI ct x st kt sc sh fo tr ik c 0 1 (-1000001) (by decide) (by decide) (by decide)) gX5_sheet_X5_finding rfl ⟨rfl, rfl⟩ nmX5_finding ⟨Nat.le_of_ble_eq_true rfl, Nat.le_of_ble_eq_true rfl⟩ eT_b (fun _ _ _ => trivial) hK hP hD hS hA 0 rfl rfl rfl [0, 1] (by decide) rfl rfl rfl hl.1 (Nat.le_of_ble_eq_true rfl) dX5_sheet_54 ⟨Nat.zero_le _, Nat.zero_le _⟩ (fun _ => rfl) (fun _ => rfl) [x, fo, sh, q 0, q 1, q 2, q 3, q 4, q 5, q 6, q 7] rfl (fun _ => rfl) (fun r_54 u_54 H locs e_54 hP hD hS => ?_)
          obtain rfl := e_54
          exact rtI (wd, sz, nm, (fnd c 1)) F hr hlk hP hS rfl (Eq.trans (by rw [if_neg (Int32.not_lt.mpr c_36), if_pos (Int32.not_le.mp c_49)]; rfl) (if_pos ⟨c_4, Or.inl c_8⟩).symm) dX5_sheet_57
      · refine lv_aload_n F.1 F.2.1 dX5_sheet_39 rfl (lv_at hl 0 rfl) ?_
        refine lv_bipush (v := 6) F.1 F.2.1 dX5_sheet_40 (by decide) ?_
        refine iV (rest := []) (wsp := fun _ => (x, .inr (5, [.ref st, .ref kt, .int ik, .ref (tr 0), .ref sc, .ref sh, .ref fo])) :: ai ct fo 7 (fun j => (fnd c 7) (j + 1)) :: (sh, .inl (ct 2, 4, .inr (.inr (.inr (.inr (fun j => some (q j))))))) :: (q 0, .inr (3, [.ref (q 4), .int (wd 0), .int (sz 0)])) :: (q 1, .inr (3, [.ref (q 5), .int (wd 1), .int (sz 1)])) :: (q 2, .inr (3, [.ref (q 6), .int (wd 2), .int (sz 2)])) :: (q 3, .inr (3, [.ref (q 7), .int (wd 3), .int (sz 3)])) :: ai ct (q 4) 40 (fun j => nm (40 * 0 + j)) :: ai ct (q 5) 40 (fun j => nm (40 * 1 + j)) :: ai ct (q 6) 40 (fun j => nm (40 * 2 + j)) :: [ai ct (q 7) 40 (fun j => nm (40 * 3 + j))]) F (kX5_finding l dC dI ct x st kt sc sh fo tr ik c 6 7 (-1000007) (by decide) (by decide) (by decide)) gX5_sheet_X5_finding rfl ⟨rfl, rfl⟩ nmX5_finding ⟨Nat.le_of_ble_eq_true rfl, Nat.le_of_ble_eq_true rfl⟩ eT_b (fun _ _ _ => trivial) hK hP hD hS hA 0 rfl rfl rfl [0, 1] (by decide) rfl rfl rfl hl.1 (Nat.le_of_ble_eq_true rfl) dX5_sheet_42 ⟨Nat.zero_le _, Nat.zero_le _⟩ (fun _ => rfl) (fun _ => rfl) [x, fo, sh, q 0, q 1, q 2, q 3, q 4, q 5, q 6, q 7] rfl (fun _ => rfl) (fun r_42 u_42 H locs e_42 hP hD hS => ?_)
        obtain rfl := e_42
        exact rtI (wd, sz, nm, (fnd c 7)) F hr hlk hP hS rfl (Eq.trans (by rw [if_pos (Int32.not_le.mp c_36)]; rfl) (if_pos ⟨c_4, Or.inl c_8⟩).symm) dX5_sheet_45
    · refine lv_iload_n F.1 F.2.1 dX5_sheet_11 rfl (lv_at hl 2 rfl) ?_
      refine lv_bipush (v := 8) F.1 F.2.1 dX5_sheet_12 (by decide) ?_
      refine lv_icmp_eq (tgt := 35) F.1 F.2.1 dX5_sheet_14 (by decide) (fun c_14 => ?_) (fun c_14 => ?_)
      · refine lv_iload_n F.1 F.2.1 dX5_sheet_35 rfl (lv_at hl 3 rfl) ?_
        refine lv_if_ge (tgt := 46) F.1 F.2.1 dX5_sheet_36 (by decide) (fun c_36 => ?_) (fun c_36 => ?_)
        · refine lv_iload_n F.1 F.2.1 dX5_sheet_46 rfl (lv_at hl 3 rfl) ?_
          refine lv_bipush (v := 40) F.1 F.2.1 dX5_sheet_47 (by decide) ?_
          refine lv_icmp_le (tgt := 58) F.1 F.2.1 dX5_sheet_49 (by decide) (fun c_49 => ?_) (fun c_49 => ?_)
          · rcases (show s = 0 ∨ s = 1 ∨ s = 2 ∨ s = 3 by omega) with rfl | rfl | rfl | rfl
            · skip
              refine lv_aload_n F.1 F.2.1 dX5_sheet_58 rfl (lv_at hl 0 rfl) ?_
              refine gf F hK hP 0 rfl rfl hiX5_sheet_5 5 (by decide) (List.mem_of_getElem? (i := 1) rfl) rfl dX5_sheet_59 ?_
              refine lv_iload_n F.1 F.2.1 dX5_sheet_62 rfl (lv_at hl 1 rfl) ?_
              refine alr F hK hP 2 2 rfl rfl rfl 0 rfl (by omega) (by decide) rfl dX5_sheet_63 ?_
              refine lv_iload_n F.1 F.2.1 dX5_sheet_64 rfl (lv_at hl 2 rfl) ?_
              refine lv_iload_n F.1 F.2.1 dX5_sheet_65 rfl (lv_at hl 3 rfl) ?_
              refine iV (rest := []) (wsp := fun _ => (x, .inr (5, [.ref st, .ref kt, .int ik, .ref (tr 0), .ref sc, .ref sh, .ref fo])) :: ai ct fo 7 (fun j => c (j + 1)) :: (sh, .inl (ct 2, 4, .inr (.inr (.inr (.inr (fun j => some (q j))))))) :: ((q 0), .inr (3, [.ref (q 4), .int x2, .int (if x2 = 0 then 0 else x3)])) :: (q 1, .inr (3, [.ref (q 5), .int (wd 1), .int (sz 1)])) :: (q 2, .inr (3, [.ref (q 6), .int (wd 2), .int (sz 2)])) :: (q 3, .inr (3, [.ref (q 7), .int (wd 3), .int (sz 3)])) :: ai ct (q 4) 40 (fun _ => 0) :: ai ct (q 5) 40 (fun j => nm (40 * 1 + j)) :: ai ct (q 6) 40 (fun j => nm (40 * 2 + j)) :: [ai ct (q 7) 40 (fun j => nm (40 * 3 + j))]) F (kX3_begin l dC dI ct (q 0) (q 4) (wd 0) (sz 0) (fun j => nm (40 * 0 + j)) x2 x3) gX5_sheet_X3_begin rfl ⟨rfl, rfl⟩ nmX3_begin ⟨Nat.le_of_ble_eq_true rfl, Nat.le_of_ble_eq_true rfl⟩ eT_b (fun _ _ _ => trivial) hK hP hD hS hA 3 rfl rfl rfl [3, 7] (by decide) rfl rfl rfl hl.1 (Nat.le_of_ble_eq_true rfl) dX5_sheet_66 ⟨Nat.zero_le _, Nat.zero_le _⟩ (fun _ => rfl) (fun _ => rfl) [x, fo, sh, q 0, q 1, q 2, q 3, q 4, q 5, q 6, q 7] rfl (fun _ => rfl) (fun r_66 u_66 H locs e_66 hP hD hS => ?_)
              obtain rfl := e_66
              have hq := (weq.c (x := (x, .inr (5, [.ref st, .ref kt, .int ik, .ref (tr 0), .ref sc, .ref sh, .ref fo]))) (weq.c (x := ai ct fo 7 (fun j => c (j + 1))) (wS_mk (ct := ct) (sh := sh) (q := q) (wd := (upd wd 0 x2)) (sz := (upd sz 0 (if x2 = 0 then 0 else x3))) (nm := (zN nm 0 40)) ⟨rfl, rfl, rfl, rfl⟩ ⟨rfl, rfl, rfl, rfl⟩ (fun j hj => zN_in nm 0 hj) (fun j hj => zN_out nm (by decide) hj) (fun j hj => zN_out nm (by decide) hj) (fun j hj => zN_out nm (by decide) hj))))
              have hP := hq.P hP
              have hD := hq.D hD
              exact rtI ((upd wd 0 x2), (upd sz 0 (if x2 = 0 then 0 else x3)), (zN nm 0 40), c) F hr hlk hP hS rfl (Eq.trans (by rw [if_neg (Int32.not_lt.mpr c_36), if_neg (Int32.not_lt.mpr c_49), show tn (nI 0) = 0 from rfl]; rfl) (if_pos ⟨c_4, Or.inr (Or.inl c_14)⟩).symm) dX5_sheet_69
            · skip
              refine lv_aload_n F.1 F.2.1 dX5_sheet_58 rfl (lv_at hl 0 rfl) ?_
              refine gf F hK hP 0 rfl rfl hiX5_sheet_5 5 (by decide) (List.mem_of_getElem? (i := 1) rfl) rfl dX5_sheet_59 ?_
              refine lv_iload_n F.1 F.2.1 dX5_sheet_62 rfl (lv_at hl 1 rfl) ?_
              refine alr F hK hP 2 2 rfl rfl rfl 1 rfl (by omega) (by decide) rfl dX5_sheet_63 ?_
              refine lv_iload_n F.1 F.2.1 dX5_sheet_64 rfl (lv_at hl 2 rfl) ?_
              refine lv_iload_n F.1 F.2.1 dX5_sheet_65 rfl (lv_at hl 3 rfl) ?_
              refine iV (rest := []) (wsp := fun _ => (x, .inr (5, [.ref st, .ref kt, .int ik, .ref (tr 0), .ref sc, .ref sh, .ref fo])) :: ai ct fo 7 (fun j => c (j + 1)) :: (sh, .inl (ct 2, 4, .inr (.inr (.inr (.inr (fun j => some (q j))))))) :: (q 0, .inr (3, [.ref (q 4), .int (wd 0), .int (sz 0)])) :: ((q 1), .inr (3, [.ref (q 5), .int x2, .int (if x2 = 0 then 0 else x3)])) :: (q 2, .inr (3, [.ref (q 6), .int (wd 2), .int (sz 2)])) :: (q 3, .inr (3, [.ref (q 7), .int (wd 3), .int (sz 3)])) :: ai ct (q 4) 40 (fun j => nm (40 * 0 + j)) :: ai ct (q 5) 40 (fun _ => 0) :: ai ct (q 6) 40 (fun j => nm (40 * 2 + j)) :: [ai ct (q 7) 40 (fun j => nm (40 * 3 + j))]) F (kX3_begin l dC dI ct (q 1) (q 5) (wd 1) (sz 1) (fun j => nm (40 * 1 + j)) x2 x3) gX5_sheet_X3_begin rfl ⟨rfl, rfl⟩ nmX3_begin ⟨Nat.le_of_ble_eq_true rfl, Nat.le_of_ble_eq_true rfl⟩ eT_b (fun _ _ _ => trivial) hK hP hD hS hA 4 rfl rfl rfl [4, 8] (by decide) rfl rfl rfl hl.1 (Nat.le_of_ble_eq_true rfl) dX5_sheet_66 ⟨Nat.zero_le _, Nat.zero_le _⟩ (fun _ => rfl) (fun _ => rfl) [x, fo, sh, q 0, q 1, q 2, q 3, q 4, q 5, q 6, q 7] rfl (fun _ => rfl) (fun r_66 u_66 H locs e_66 hP hD hS => ?_)
              obtain rfl := e_66
              have hq := (weq.c (x := (x, .inr (5, [.ref st, .ref kt, .int ik, .ref (tr 0), .ref sc, .ref sh, .ref fo]))) (weq.c (x := ai ct fo 7 (fun j => c (j + 1))) (wS_mk (ct := ct) (sh := sh) (q := q) (wd := (upd wd 1 x2)) (sz := (upd sz 1 (if x2 = 0 then 0 else x3))) (nm := (zN nm 1 40)) ⟨rfl, rfl, rfl, rfl⟩ ⟨rfl, rfl, rfl, rfl⟩ (fun j hj => zN_out nm (by decide) hj) (fun j hj => zN_in nm 1 hj) (fun j hj => zN_out nm (by decide) hj) (fun j hj => zN_out nm (by decide) hj))))
              have hP := hq.P hP
              have hD := hq.D hD
              exact rtI ((upd wd 1 x2), (upd sz 1 (if x2 = 0 then 0 else x3)), (zN nm 1 40), c) F hr hlk hP hS rfl (Eq.trans (by rw [if_neg (Int32.not_lt.mpr c_36), if_neg (Int32.not_lt.mpr c_49), show tn (nI 1) = 1 from rfl]; rfl) (if_pos ⟨c_4, Or.inr (Or.inl c_14)⟩).symm) dX5_sheet_69
            · skip
              refine lv_aload_n F.1 F.2.1 dX5_sheet_58 rfl (lv_at hl 0 rfl) ?_
              refine gf F hK hP 0 rfl rfl hiX5_sheet_5 5 (by decide) (List.mem_of_getElem? (i := 1) rfl) rfl dX5_sheet_59 ?_
              refine lv_iload_n F.1 F.2.1 dX5_sheet_62 rfl (lv_at hl 1 rfl) ?_
              refine alr F hK hP 2 2 rfl rfl rfl 2 rfl (by omega) (by decide) rfl dX5_sheet_63 ?_
              refine lv_iload_n F.1 F.2.1 dX5_sheet_64 rfl (lv_at hl 2 rfl) ?_
              refine lv_iload_n F.1 F.2.1 dX5_sheet_65 rfl (lv_at hl 3 rfl) ?_
              refine iV (rest := []) (wsp := fun _ => (x, .inr (5, [.ref st, .ref kt, .int ik, .ref (tr 0), .ref sc, .ref sh, .ref fo])) :: ai ct fo 7 (fun j => c (j + 1)) :: (sh, .inl (ct 2, 4, .inr (.inr (.inr (.inr (fun j => some (q j))))))) :: (q 0, .inr (3, [.ref (q 4), .int (wd 0), .int (sz 0)])) :: (q 1, .inr (3, [.ref (q 5), .int (wd 1), .int (sz 1)])) :: ((q 2), .inr (3, [.ref (q 6), .int x2, .int (if x2 = 0 then 0 else x3)])) :: (q 3, .inr (3, [.ref (q 7), .int (wd 3), .int (sz 3)])) :: ai ct (q 4) 40 (fun j => nm (40 * 0 + j)) :: ai ct (q 5) 40 (fun j => nm (40 * 1 + j)) :: ai ct (q 6) 40 (fun _ => 0) :: [ai ct (q 7) 40 (fun j => nm (40 * 3 + j))]) F (kX3_begin l dC dI ct (q 2) (q 6) (wd 2) (sz 2) (fun j => nm (40 * 2 + j)) x2 x3) gX5_sheet_X3_begin rfl ⟨rfl, rfl⟩ nmX3_begin ⟨Nat.le_of_ble_eq_true rfl, Nat.le_of_ble_eq_true rfl⟩ eT_b (fun _ _ _ => trivial) hK hP hD hS hA 5 rfl rfl rfl [5, 9] (by decide) rfl rfl rfl hl.1 (Nat.le_of_ble_eq_true rfl) dX5_sheet_66 ⟨Nat.zero_le _, Nat.zero_le _⟩ (fun _ => rfl) (fun _ => rfl) [x, fo, sh, q 0, q 1, q 2, q 3, q 4, q 5, q 6, q 7] rfl (fun _ => rfl) (fun r_66 u_66 H locs e_66 hP hD hS => ?_)
              obtain rfl := e_66
              have hq := (weq.c (x := (x, .inr (5, [.ref st, .ref kt, .int ik, .ref (tr 0), .ref sc, .ref sh, .ref fo]))) (weq.c (x := ai ct fo 7 (fun j => c (j + 1))) (wS_mk (ct := ct) (sh := sh) (q := q) (wd := (upd wd 2 x2)) (sz := (upd sz 2 (if x2 = 0 then 0 else x3))) (nm := (zN nm 2 40)) ⟨rfl, rfl, rfl, rfl⟩ ⟨rfl, rfl, rfl, rfl⟩ (fun j hj => zN_out nm (by decide) hj) (fun j hj => zN_out nm (by decide) hj) (fun j hj => zN_in nm 2 hj) (fun j hj => zN_out nm (by decide) hj))))
              have hP := hq.P hP
              have hD := hq.D hD
              exact rtI ((upd wd 2 x2), (upd sz 2 (if x2 = 0 then 0 else x3)), (zN nm 2 40), c) F hr hlk hP hS rfl (Eq.trans (by rw [if_neg (Int32.not_lt.mpr c_36), if_neg (Int32.not_lt.mpr c_49), show tn (nI 2) = 2 from rfl]; rfl) (if_pos ⟨c_4, Or.inr (Or.inl c_14)⟩).symm) dX5_sheet_69
            · skip
              refine lv_aload_n F.1 F.2.1 dX5_sheet_58 rfl (lv_at hl 0 rfl) ?_
              refine gf F hK hP 0 rfl rfl hiX5_sheet_5 5 (by decide) (List.mem_of_getElem? (i := 1) rfl) rfl dX5_sheet_59 ?_
              refine lv_iload_n F.1 F.2.1 dX5_sheet_62 rfl (lv_at hl 1 rfl) ?_
              refine alr F hK hP 2 2 rfl rfl rfl 3 rfl (by omega) (by decide) rfl dX5_sheet_63 ?_
              refine lv_iload_n F.1 F.2.1 dX5_sheet_64 rfl (lv_at hl 2 rfl) ?_
              refine lv_iload_n F.1 F.2.1 dX5_sheet_65 rfl (lv_at hl 3 rfl) ?_
              refine iV (rest := []) (wsp := fun _ => (x, .inr (5, [.ref st, .ref kt, .int ik, .ref (tr 0), .ref sc, .ref sh, .ref fo])) :: ai ct fo 7 (fun j => c (j + 1)) :: (sh, .inl (ct 2, 4, .inr (.inr (.inr (.inr (fun j => some (q j))))))) :: (q 0, .inr (3, [.ref (q 4), .int (wd 0), .int (sz 0)])) :: (q 1, .inr (3, [.ref (q 5), .int (wd 1), .int (sz 1)])) :: (q 2, .inr (3, [.ref (q 6), .int (wd 2), .int (sz 2)])) :: ((q 3), .inr (3, [.ref (q 7), .int x2, .int (if x2 = 0 then 0 else x3)])) :: ai ct (q 4) 40 (fun j => nm (40 * 0 + j)) :: ai ct (q 5) 40 (fun j => nm (40 * 1 + j)) :: ai ct (q 6) 40 (fun j => nm (40 * 2 + j)) :: [ai ct (q 7) 40 (fun _ => 0)]) F (kX3_begin l dC dI ct (q 3) (q 7) (wd 3) (sz 3) (fun j => nm (40 * 3 + j)) x2 x3) gX5_sheet_X3_begin rfl ⟨rfl, rfl⟩ nmX3_begin ⟨Nat.le_of_ble_eq_true rfl, Nat.le_of_ble_eq_true rfl⟩ eT_b (fun _ _ _ => trivial) hK hP hD hS hA 6 rfl rfl rfl [6, 10] (by decide) rfl rfl rfl hl.1 (Nat.le_of_ble_eq_true rfl) dX5_sheet_66 ⟨Nat.zero_le _, Nat.zero_le _⟩ (fun _ => rfl) (fun _ => rfl) [x, fo, sh, q 0, q 1, q 2, q 3, q 4, q 5, q 6, q 7] rfl (fun _ => rfl) (fun r_66 u_66 H locs e_66 hP hD hS => ?_)
              obtain rfl := e_66
              have hq := (weq.c (x := (x, .inr (5, [.ref st, .ref kt, .int ik, .ref (tr 0), .ref sc, .ref sh, .ref fo]))) (weq.c (x := ai ct fo 7 (fun j => c (j + 1))) (wS_mk (ct := ct) (sh := sh) (q := q) (wd := (upd wd 3 x2)) (sz := (upd sz 3 (if x2 = 0 then 0 else x3))) (nm := (zN nm 3 40)) ⟨rfl, rfl, rfl, rfl⟩ ⟨rfl, rfl, rfl, rfl⟩ (fun j hj => zN_out nm (by decide) hj) (fun j hj => zN_out nm (by decide) hj) (fun j hj => zN_out nm (by decide) hj) (fun j hj => zN_in nm 3 hj))))
              have hP := hq.P hP
              have hD := hq.D hD
              exact rtI ((upd wd 3 x2), (upd sz 3 (if x2 = 0 then 0 else x3)), (zN nm 3 40), c) F hr hlk hP hS rfl (Eq.trans (by rw [if_neg (Int32.not_lt.mpr c_36), if_neg (Int32.not_lt.mpr c_49), show tn (nI 3) = 3 from rfl]; rfl) (if_pos ⟨c_4, Or.inr (Or.inl c_14)⟩).symm) dX5_sheet_69
          · refine lv_aload_n F.1 F.2.1 dX5_sheet_52 rfl (lv_at hl 0 rfl) ?_
            refine lv_iconst (v := 0) F.1 F.2.1 dX5_sheet_53 (by decide) ?_
            refine iV (rest := []) (wsp := fun _ => (x, .inr (5, [.ref st, .ref kt, .int ik, .ref (tr 0), .ref sc, .ref sh, .ref fo])) :: ai ct fo 7 (fun j => (fnd c 1) (j + 1)) :: (sh, .inl (ct 2, 4, .inr (.inr (.inr (.inr (fun j => some (q j))))))) :: (q 0, .inr (3, [.ref (q 4), .int (wd 0), .int (sz 0)])) :: (q 1, .inr (3, [.ref (q 5), .int (wd 1), .int (sz 1)])) :: (q 2, .inr (3, [.ref (q 6), .int (wd 2), .int (sz 2)])) :: (q 3, .inr (3, [.ref (q 7), .int (wd 3), .int (sz 3)])) :: ai ct (q 4) 40 (fun j => nm (40 * 0 + j)) :: ai ct (q 5) 40 (fun j => nm (40 * 1 + j)) :: ai ct (q 6) 40 (fun j => nm (40 * 2 + j)) :: [ai ct (q 7) 40 (fun j => nm (40 * 3 + j))]) F (kX5_finding l dC dI ct x st kt sc sh fo tr ik c 0 1 (-1000001) (by decide) (by decide) (by decide)) gX5_sheet_X5_finding rfl ⟨rfl, rfl⟩ nmX5_finding ⟨Nat.le_of_ble_eq_true rfl, Nat.le_of_ble_eq_true rfl⟩ eT_b (fun _ _ _ => trivial) hK hP hD hS hA 0 rfl rfl rfl [0, 1] (by decide) rfl rfl rfl hl.1 (Nat.le_of_ble_eq_true rfl) dX5_sheet_54 ⟨Nat.zero_le _, Nat.zero_le _⟩ (fun _ => rfl) (fun _ => rfl) [x, fo, sh, q 0, q 1, q 2, q 3, q 4, q 5, q 6, q 7] rfl (fun _ => rfl) (fun r_54 u_54 H locs e_54 hP hD hS => ?_)
            obtain rfl := e_54
            exact rtI (wd, sz, nm, (fnd c 1)) F hr hlk hP hS rfl (Eq.trans (by rw [if_neg (Int32.not_lt.mpr c_36), if_pos (Int32.not_le.mp c_49)]; rfl) (if_pos ⟨c_4, Or.inr (Or.inl c_14)⟩).symm) dX5_sheet_57
        · refine lv_aload_n F.1 F.2.1 dX5_sheet_39 rfl (lv_at hl 0 rfl) ?_
          refine lv_bipush (v := 6) F.1 F.2.1 dX5_sheet_40 (by decide) ?_
          refine iV (rest := []) (wsp := fun _ => (x, .inr (5, [.ref st, .ref kt, .int ik, .ref (tr 0), .ref sc, .ref sh, .ref fo])) :: ai ct fo 7 (fun j => (fnd c 7) (j + 1)) :: (sh, .inl (ct 2, 4, .inr (.inr (.inr (.inr (fun j => some (q j))))))) :: (q 0, .inr (3, [.ref (q 4), .int (wd 0), .int (sz 0)])) :: (q 1, .inr (3, [.ref (q 5), .int (wd 1), .int (sz 1)])) :: (q 2, .inr (3, [.ref (q 6), .int (wd 2), .int (sz 2)])) :: (q 3, .inr (3, [.ref (q 7), .int (wd 3), .int (sz 3)])) :: ai ct (q 4) 40 (fun j => nm (40 * 0 + j)) :: ai ct (q 5) 40 (fun j => nm (40 * 1 + j)) :: ai ct (q 6) 40 (fun j => nm (40 * 2 + j)) :: [ai ct (q 7) 40 (fun j => nm (40 * 3 + j))]) F (kX5_finding l dC dI ct x st kt sc sh fo tr ik c 6 7 (-1000007) (by decide) (by decide) (by decide)) gX5_sheet_X5_finding rfl ⟨rfl, rfl⟩ nmX5_finding ⟨Nat.le_of_ble_eq_true rfl, Nat.le_of_ble_eq_true rfl⟩ eT_b (fun _ _ _ => trivial) hK hP hD hS hA 0 rfl rfl rfl [0, 1] (by decide) rfl rfl rfl hl.1 (Nat.le_of_ble_eq_true rfl) dX5_sheet_42 ⟨Nat.zero_le _, Nat.zero_le _⟩ (fun _ => rfl) (fun _ => rfl) [x, fo, sh, q 0, q 1, q 2, q 3, q 4, q 5, q 6, q 7] rfl (fun _ => rfl) (fun r_42 u_42 H locs e_42 hP hD hS => ?_)
          obtain rfl := e_42
          exact rtI (wd, sz, nm, (fnd c 7)) F hr hlk hP hS rfl (Eq.trans (by rw [if_pos (Int32.not_le.mp c_36)]; rfl) (if_pos ⟨c_4, Or.inr (Or.inl c_14)⟩).symm) dX5_sheet_45
      · refine lv_iload_n F.1 F.2.1 dX5_sheet_17 rfl (lv_at hl 2 rfl) ?_
        refine lv_bipush (v := 16) F.1 F.2.1 dX5_sheet_18 (by decide) ?_
        refine lv_icmp_eq (tgt := 35) F.1 F.2.1 dX5_sheet_20 (by decide) (fun c_20 => ?_) (fun c_20 => ?_)
        · refine lv_iload_n F.1 F.2.1 dX5_sheet_35 rfl (lv_at hl 3 rfl) ?_
          refine lv_if_ge (tgt := 46) F.1 F.2.1 dX5_sheet_36 (by decide) (fun c_36 => ?_) (fun c_36 => ?_)
          · refine lv_iload_n F.1 F.2.1 dX5_sheet_46 rfl (lv_at hl 3 rfl) ?_
            refine lv_bipush (v := 40) F.1 F.2.1 dX5_sheet_47 (by decide) ?_
            refine lv_icmp_le (tgt := 58) F.1 F.2.1 dX5_sheet_49 (by decide) (fun c_49 => ?_) (fun c_49 => ?_)
            · rcases (show s = 0 ∨ s = 1 ∨ s = 2 ∨ s = 3 by omega) with rfl | rfl | rfl | rfl
              · skip
                refine lv_aload_n F.1 F.2.1 dX5_sheet_58 rfl (lv_at hl 0 rfl) ?_
                refine gf F hK hP 0 rfl rfl hiX5_sheet_5 5 (by decide) (List.mem_of_getElem? (i := 1) rfl) rfl dX5_sheet_59 ?_
                refine lv_iload_n F.1 F.2.1 dX5_sheet_62 rfl (lv_at hl 1 rfl) ?_
                refine alr F hK hP 2 2 rfl rfl rfl 0 rfl (by omega) (by decide) rfl dX5_sheet_63 ?_
                refine lv_iload_n F.1 F.2.1 dX5_sheet_64 rfl (lv_at hl 2 rfl) ?_
                refine lv_iload_n F.1 F.2.1 dX5_sheet_65 rfl (lv_at hl 3 rfl) ?_
                refine iV (rest := []) (wsp := fun _ => (x, .inr (5, [.ref st, .ref kt, .int ik, .ref (tr 0), .ref sc, .ref sh, .ref fo])) :: ai ct fo 7 (fun j => c (j + 1)) :: (sh, .inl (ct 2, 4, .inr (.inr (.inr (.inr (fun j => some (q j))))))) :: ((q 0), .inr (3, [.ref (q 4), .int x2, .int (if x2 = 0 then 0 else x3)])) :: (q 1, .inr (3, [.ref (q 5), .int (wd 1), .int (sz 1)])) :: (q 2, .inr (3, [.ref (q 6), .int (wd 2), .int (sz 2)])) :: (q 3, .inr (3, [.ref (q 7), .int (wd 3), .int (sz 3)])) :: ai ct (q 4) 40 (fun _ => 0) :: ai ct (q 5) 40 (fun j => nm (40 * 1 + j)) :: ai ct (q 6) 40 (fun j => nm (40 * 2 + j)) :: [ai ct (q 7) 40 (fun j => nm (40 * 3 + j))]) F (kX3_begin l dC dI ct (q 0) (q 4) (wd 0) (sz 0) (fun j => nm (40 * 0 + j)) x2 x3) gX5_sheet_X3_begin rfl ⟨rfl, rfl⟩ nmX3_begin ⟨Nat.le_of_ble_eq_true rfl, Nat.le_of_ble_eq_true rfl⟩ eT_b (fun _ _ _ => trivial) hK hP hD hS hA 3 rfl rfl rfl [3, 7] (by decide) rfl rfl rfl hl.1 (Nat.le_of_ble_eq_true rfl) dX5_sheet_66 ⟨Nat.zero_le _, Nat.zero_le _⟩ (fun _ => rfl) (fun _ => rfl) [x, fo, sh, q 0, q 1, q 2, q 3, q 4, q 5, q 6, q 7] rfl (fun _ => rfl) (fun r_66 u_66 H locs e_66 hP hD hS => ?_)
                obtain rfl := e_66
                have hq := (weq.c (x := (x, .inr (5, [.ref st, .ref kt, .int ik, .ref (tr 0), .ref sc, .ref sh, .ref fo]))) (weq.c (x := ai ct fo 7 (fun j => c (j + 1))) (wS_mk (ct := ct) (sh := sh) (q := q) (wd := (upd wd 0 x2)) (sz := (upd sz 0 (if x2 = 0 then 0 else x3))) (nm := (zN nm 0 40)) ⟨rfl, rfl, rfl, rfl⟩ ⟨rfl, rfl, rfl, rfl⟩ (fun j hj => zN_in nm 0 hj) (fun j hj => zN_out nm (by decide) hj) (fun j hj => zN_out nm (by decide) hj) (fun j hj => zN_out nm (by decide) hj))))
                have hP := hq.P hP
                have hD := hq.D hD
                exact rtI ((upd wd 0 x2), (upd sz 0 (if x2 = 0 then 0 else x3)), (zN nm 0 40), c) F hr hlk hP hS rfl (Eq.trans (by rw [if_neg (Int32.not_lt.mpr c_36), if_neg (Int32.not_lt.mpr c_49), show tn (nI 0) = 0 from rfl]; rfl) (if_pos ⟨c_4, Or.inr (Or.inr (Or.inl c_20))⟩).symm) dX5_sheet_69
              · skip
                refine lv_aload_n F.1 F.2.1 dX5_sheet_58 rfl (lv_at hl 0 rfl) ?_
                refine gf F hK hP 0 rfl rfl hiX5_sheet_5 5 (by decide) (List.mem_of_getElem? (i := 1) rfl) rfl dX5_sheet_59 ?_
                refine lv_iload_n F.1 F.2.1 dX5_sheet_62 rfl (lv_at hl 1 rfl) ?_
                refine alr F hK hP 2 2 rfl rfl rfl 1 rfl (by omega) (by decide) rfl dX5_sheet_63 ?_
                refine lv_iload_n F.1 F.2.1 dX5_sheet_64 rfl (lv_at hl 2 rfl) ?_
                refine lv_iload_n F.1 F.2.1 dX5_sheet_65 rfl (lv_at hl 3 rfl) ?_
                refine iV (rest := []) (wsp := fun _ => (x, .inr (5, [.ref st, .ref kt, .int ik, .ref (tr 0), .ref sc, .ref sh, .ref fo])) :: ai ct fo 7 (fun j => c (j + 1)) :: (sh, .inl (ct 2, 4, .inr (.inr (.inr (.inr (fun j => some (q j))))))) :: (q 0, .inr (3, [.ref (q 4), .int (wd 0), .int (sz 0)])) :: ((q 1), .inr (3, [.ref (q 5), .int x2, .int (if x2 = 0 then 0 else x3)])) :: (q 2, .inr (3, [.ref (q 6), .int (wd 2), .int (sz 2)])) :: (q 3, .inr (3, [.ref (q 7), .int (wd 3), .int (sz 3)])) :: ai ct (q 4) 40 (fun j => nm (40 * 0 + j)) :: ai ct (q 5) 40 (fun _ => 0) :: ai ct (q 6) 40 (fun j => nm (40 * 2 + j)) :: [ai ct (q 7) 40 (fun j => nm (40 * 3 + j))]) F (kX3_begin l dC dI ct (q 1) (q 5) (wd 1) (sz 1) (fun j => nm (40 * 1 + j)) x2 x3) gX5_sheet_X3_begin rfl ⟨rfl, rfl⟩ nmX3_begin ⟨Nat.le_of_ble_eq_true rfl, Nat.le_of_ble_eq_true rfl⟩ eT_b (fun _ _ _ => trivial) hK hP hD hS hA 4 rfl rfl rfl [4, 8] (by decide) rfl rfl rfl hl.1 (Nat.le_of_ble_eq_true rfl) dX5_sheet_66 ⟨Nat.zero_le _, Nat.zero_le _⟩ (fun _ => rfl) (fun _ => rfl) [x, fo, sh, q 0, q 1, q 2, q 3, q 4, q 5, q 6, q 7] rfl (fun _ => rfl) (fun r_66 u_66 H locs e_66 hP hD hS => ?_)
                obtain rfl := e_66
                have hq := (weq.c (x := (x, .inr (5, [.ref st, .ref kt, .int ik, .ref (tr 0), .ref sc, .ref sh, .ref fo]))) (weq.c (x := ai ct fo 7 (fun j => c (j + 1))) (wS_mk (ct := ct) (sh := sh) (q := q) (wd := (upd wd 1 x2)) (sz := (upd sz 1 (if x2 = 0 then 0 else x3))) (nm := (zN nm 1 40)) ⟨rfl, rfl, rfl, rfl⟩ ⟨rfl, rfl, rfl, rfl⟩ (fun j hj => zN_out nm (by decide) hj) (fun j hj => zN_in nm 1 hj) (fun j hj => zN_out nm (by decide) hj) (fun j hj => zN_out nm (by decide) hj))))
                have hP := hq.P hP
                have hD := hq.D hD
                exact rtI ((upd wd 1 x2), (upd sz 1 (if x2 = 0 then 0 else x3)), (zN nm 1 40), c) F hr hlk hP hS rfl (Eq.trans (by rw [if_neg (Int32.not_lt.mpr c_36), if_neg (Int32.not_lt.mpr c_49), show tn (nI 1) = 1 from rfl]; rfl) (if_pos ⟨c_4, Or.inr (Or.inr (Or.inl c_20))⟩).symm) dX5_sheet_69
              · skip
                refine lv_aload_n F.1 F.2.1 dX5_sheet_58 rfl (lv_at hl 0 rfl) ?_
                refine gf F hK hP 0 rfl rfl hiX5_sheet_5 5 (by decide) (List.mem_of_getElem? (i := 1) rfl) rfl dX5_sheet_59 ?_
                refine lv_iload_n F.1 F.2.1 dX5_sheet_62 rfl (lv_at hl 1 rfl) ?_
                refine alr F hK hP 2 2 rfl rfl rfl 2 rfl (by omega) (by decide) rfl dX5_sheet_63 ?_
                refine lv_iload_n F.1 F.2.1 dX5_sheet_64 rfl (lv_at hl 2 rfl) ?_
                refine lv_iload_n F.1 F.2.1 dX5_sheet_65 rfl (lv_at hl 3 rfl) ?_
                refine iV (rest := []) (wsp := fun _ => (x, .inr (5, [.ref st, .ref kt, .int ik, .ref (tr 0), .ref sc, .ref sh, .ref fo])) :: ai ct fo 7 (fun j => c (j + 1)) :: (sh, .inl (ct 2, 4, .inr (.inr (.inr (.inr (fun j => some (q j))))))) :: (q 0, .inr (3, [.ref (q 4), .int (wd 0), .int (sz 0)])) :: (q 1, .inr (3, [.ref (q 5), .int (wd 1), .int (sz 1)])) :: ((q 2), .inr (3, [.ref (q 6), .int x2, .int (if x2 = 0 then 0 else x3)])) :: (q 3, .inr (3, [.ref (q 7), .int (wd 3), .int (sz 3)])) :: ai ct (q 4) 40 (fun j => nm (40 * 0 + j)) :: ai ct (q 5) 40 (fun j => nm (40 * 1 + j)) :: ai ct (q 6) 40 (fun _ => 0) :: [ai ct (q 7) 40 (fun j => nm (40 * 3 + j))]) F (kX3_begin l dC dI ct (q 2) (q 6) (wd 2) (sz 2) (fun j => nm (40 * 2 + j)) x2 x3) gX5_sheet_X3_begin rfl ⟨rfl, rfl⟩ nmX3_begin ⟨Nat.le_of_ble_eq_true rfl, Nat.le_of_ble_eq_true rfl⟩ eT_b (fun _ _ _ => trivial) hK hP hD hS hA 5 rfl rfl rfl [5, 9] (by decide) rfl rfl rfl hl.1 (Nat.le_of_ble_eq_true rfl) dX5_sheet_66 ⟨Nat.zero_le _, Nat.zero_le _⟩ (fun _ => rfl) (fun _ => rfl) [x, fo, sh, q 0, q 1, q 2, q 3, q 4, q 5, q 6, q 7] rfl (fun _ => rfl) (fun r_66 u_66 H locs e_66 hP hD hS => ?_)
                obtain rfl := e_66
                have hq := (weq.c (x := (x, .inr (5, [.ref st, .ref kt, .int ik, .ref (tr 0), .ref sc, .ref sh, .ref fo]))) (weq.c (x := ai ct fo 7 (fun j => c (j + 1))) (wS_mk (ct := ct) (sh := sh) (q := q) (wd := (upd wd 2 x2)) (sz := (upd sz 2 (if x2 = 0 then 0 else x3))) (nm := (zN nm 2 40)) ⟨rfl, rfl, rfl, rfl⟩ ⟨rfl, rfl, rfl, rfl⟩ (fun j hj => zN_out nm (by decide) hj) (fun j hj => zN_out nm (by decide) hj) (fun j hj => zN_in nm 2 hj) (fun j hj => zN_out nm (by decide) hj))))
                have hP := hq.P hP
                have hD := hq.D hD
                exact rtI ((upd wd 2 x2), (upd sz 2 (if x2 = 0 then 0 else x3)), (zN nm 2 40), c) F hr hlk hP hS rfl (Eq.trans (by rw [if_neg (Int32.not_lt.mpr c_36), if_neg (Int32.not_lt.mpr c_49), show tn (nI 2) = 2 from rfl]; rfl) (if_pos ⟨c_4, Or.inr (Or.inr (Or.inl c_20))⟩).symm) dX5_sheet_69
              · skip
                refine lv_aload_n F.1 F.2.1 dX5_sheet_58 rfl (lv_at hl 0 rfl) ?_
                refine gf F hK hP 0 rfl rfl hiX5_sheet_5 5 (by decide) (List.mem_of_getElem? (i := 1) rfl) rfl dX5_sheet_59 ?_
                refine lv_iload_n F.1 F.2.1 dX5_sheet_62 rfl (lv_at hl 1 rfl) ?_
                refine alr F hK hP 2 2 rfl rfl rfl 3 rfl (by omega) (by decide) rfl dX5_sheet_63 ?_
                refine lv_iload_n F.1 F.2.1 dX5_sheet_64 rfl (lv_at hl 2 rfl) ?_
                refine lv_iload_n F.1 F.2.1 dX5_sheet_65 rfl (lv_at hl 3 rfl) ?_
                refine iV (rest := []) (wsp := fun _ => (x, .inr (5, [.ref st, .ref kt, .int ik, .ref (tr 0), .ref sc, .ref sh, .ref fo])) :: ai ct fo 7 (fun j => c (j + 1)) :: (sh, .inl (ct 2, 4, .inr (.inr (.inr (.inr (fun j => some (q j))))))) :: (q 0, .inr (3, [.ref (q 4), .int (wd 0), .int (sz 0)])) :: (q 1, .inr (3, [.ref (q 5), .int (wd 1), .int (sz 1)])) :: (q 2, .inr (3, [.ref (q 6), .int (wd 2), .int (sz 2)])) :: ((q 3), .inr (3, [.ref (q 7), .int x2, .int (if x2 = 0 then 0 else x3)])) :: ai ct (q 4) 40 (fun j => nm (40 * 0 + j)) :: ai ct (q 5) 40 (fun j => nm (40 * 1 + j)) :: ai ct (q 6) 40 (fun j => nm (40 * 2 + j)) :: [ai ct (q 7) 40 (fun _ => 0)]) F (kX3_begin l dC dI ct (q 3) (q 7) (wd 3) (sz 3) (fun j => nm (40 * 3 + j)) x2 x3) gX5_sheet_X3_begin rfl ⟨rfl, rfl⟩ nmX3_begin ⟨Nat.le_of_ble_eq_true rfl, Nat.le_of_ble_eq_true rfl⟩ eT_b (fun _ _ _ => trivial) hK hP hD hS hA 6 rfl rfl rfl [6, 10] (by decide) rfl rfl rfl hl.1 (Nat.le_of_ble_eq_true rfl) dX5_sheet_66 ⟨Nat.zero_le _, Nat.zero_le _⟩ (fun _ => rfl) (fun _ => rfl) [x, fo, sh, q 0, q 1, q 2, q 3, q 4, q 5, q 6, q 7] rfl (fun _ => rfl) (fun r_66 u_66 H locs e_66 hP hD hS => ?_)
                obtain rfl := e_66
                have hq := (weq.c (x := (x, .inr (5, [.ref st, .ref kt, .int ik, .ref (tr 0), .ref sc, .ref sh, .ref fo]))) (weq.c (x := ai ct fo 7 (fun j => c (j + 1))) (wS_mk (ct := ct) (sh := sh) (q := q) (wd := (upd wd 3 x2)) (sz := (upd sz 3 (if x2 = 0 then 0 else x3))) (nm := (zN nm 3 40)) ⟨rfl, rfl, rfl, rfl⟩ ⟨rfl, rfl, rfl, rfl⟩ (fun j hj => zN_out nm (by decide) hj) (fun j hj => zN_out nm (by decide) hj) (fun j hj => zN_out nm (by decide) hj) (fun j hj => zN_in nm 3 hj))))
                have hP := hq.P hP
                have hD := hq.D hD
                exact rtI ((upd wd 3 x2), (upd sz 3 (if x2 = 0 then 0 else x3)), (zN nm 3 40), c) F hr hlk hP hS rfl (Eq.trans (by rw [if_neg (Int32.not_lt.mpr c_36), if_neg (Int32.not_lt.mpr c_49), show tn (nI 3) = 3 from rfl]; rfl) (if_pos ⟨c_4, Or.inr (Or.inr (Or.inl c_20))⟩).symm) dX5_sheet_69
            · refine lv_aload_n F.1 F.2.1 dX5_sheet_52 rfl (lv_at hl 0 rfl) ?_
              refine lv_iconst (v := 0) F.1 F.2.1 dX5_sheet_53 (by decide) ?_
              refine iV (rest := []) (wsp := fun _ => (x, .inr (5, [.ref st, .ref kt, .int ik, .ref (tr 0), .ref sc, .ref sh, .ref fo])) :: ai ct fo 7 (fun j => (fnd c 1) (j + 1)) :: (sh, .inl (ct 2, 4, .inr (.inr (.inr (.inr (fun j => some (q j))))))) :: (q 0, .inr (3, [.ref (q 4), .int (wd 0), .int (sz 0)])) :: (q 1, .inr (3, [.ref (q 5), .int (wd 1), .int (sz 1)])) :: (q 2, .inr (3, [.ref (q 6), .int (wd 2), .int (sz 2)])) :: (q 3, .inr (3, [.ref (q 7), .int (wd 3), .int (sz 3)])) :: ai ct (q 4) 40 (fun j => nm (40 * 0 + j)) :: ai ct (q 5) 40 (fun j => nm (40 * 1 + j)) :: ai ct (q 6) 40 (fun j => nm (40 * 2 + j)) :: [ai ct (q 7) 40 (fun j => nm (40 * 3 + j))]) F (kX5_finding l dC dI ct x st kt sc sh fo tr ik c 0 1 (-1000001) (by decide) (by decide) (by decide)) gX5_sheet_X5_finding rfl ⟨rfl, rfl⟩ nmX5_finding ⟨Nat.le_of_ble_eq_true rfl, Nat.le_of_ble_eq_true rfl⟩ eT_b (fun _ _ _ => trivial) hK hP hD hS hA 0 rfl rfl rfl [0, 1] (by decide) rfl rfl rfl hl.1 (Nat.le_of_ble_eq_true rfl) dX5_sheet_54 ⟨Nat.zero_le _, Nat.zero_le _⟩ (fun _ => rfl) (fun _ => rfl) [x, fo, sh, q 0, q 1, q 2, q 3, q 4, q 5, q 6, q 7] rfl (fun _ => rfl) (fun r_54 u_54 H locs e_54 hP hD hS => ?_)
              obtain rfl := e_54
              exact rtI (wd, sz, nm, (fnd c 1)) F hr hlk hP hS rfl (Eq.trans (by rw [if_neg (Int32.not_lt.mpr c_36), if_pos (Int32.not_le.mp c_49)]; rfl) (if_pos ⟨c_4, Or.inr (Or.inr (Or.inl c_20))⟩).symm) dX5_sheet_57
          · refine lv_aload_n F.1 F.2.1 dX5_sheet_39 rfl (lv_at hl 0 rfl) ?_
            refine lv_bipush (v := 6) F.1 F.2.1 dX5_sheet_40 (by decide) ?_
            refine iV (rest := []) (wsp := fun _ => (x, .inr (5, [.ref st, .ref kt, .int ik, .ref (tr 0), .ref sc, .ref sh, .ref fo])) :: ai ct fo 7 (fun j => (fnd c 7) (j + 1)) :: (sh, .inl (ct 2, 4, .inr (.inr (.inr (.inr (fun j => some (q j))))))) :: (q 0, .inr (3, [.ref (q 4), .int (wd 0), .int (sz 0)])) :: (q 1, .inr (3, [.ref (q 5), .int (wd 1), .int (sz 1)])) :: (q 2, .inr (3, [.ref (q 6), .int (wd 2), .int (sz 2)])) :: (q 3, .inr (3, [.ref (q 7), .int (wd 3), .int (sz 3)])) :: ai ct (q 4) 40 (fun j => nm (40 * 0 + j)) :: ai ct (q 5) 40 (fun j => nm (40 * 1 + j)) :: ai ct (q 6) 40 (fun j => nm (40 * 2 + j)) :: [ai ct (q 7) 40 (fun j => nm (40 * 3 + j))]) F (kX5_finding l dC dI ct x st kt sc sh fo tr ik c 6 7 (-1000007) (by decide) (by decide) (by decide)) gX5_sheet_X5_finding rfl ⟨rfl, rfl⟩ nmX5_finding ⟨Nat.le_of_ble_eq_true rfl, Nat.le_of_ble_eq_true rfl⟩ eT_b (fun _ _ _ => trivial) hK hP hD hS hA 0 rfl rfl rfl [0, 1] (by decide) rfl rfl rfl hl.1 (Nat.le_of_ble_eq_true rfl) dX5_sheet_42 ⟨Nat.zero_le _, Nat.zero_le _⟩ (fun _ => rfl) (fun _ => rfl) [x, fo, sh, q 0, q 1, q 2, q 3, q 4, q 5, q 6, q 7] rfl (fun _ => rfl) (fun r_42 u_42 H locs e_42 hP hD hS => ?_)
            obtain rfl := e_42
            exact rtI (wd, sz, nm, (fnd c 7)) F hr hlk hP hS rfl (Eq.trans (by rw [if_pos (Int32.not_le.mp c_36)]; rfl) (if_pos ⟨c_4, Or.inr (Or.inr (Or.inl c_20))⟩).symm) dX5_sheet_45
        · refine lv_iload_n F.1 F.2.1 dX5_sheet_23 rfl (lv_at hl 2 rfl) ?_
          refine lv_bipush (v := 32) F.1 F.2.1 dX5_sheet_24 (by decide) ?_
          refine lv_icmp_eq (tgt := 35) F.1 F.2.1 dX5_sheet_26 (by decide) (fun c_26 => ?_) (fun c_26 => ?_)
          · refine lv_iload_n F.1 F.2.1 dX5_sheet_35 rfl (lv_at hl 3 rfl) ?_
            refine lv_if_ge (tgt := 46) F.1 F.2.1 dX5_sheet_36 (by decide) (fun c_36 => ?_) (fun c_36 => ?_)
            · refine lv_iload_n F.1 F.2.1 dX5_sheet_46 rfl (lv_at hl 3 rfl) ?_
              refine lv_bipush (v := 40) F.1 F.2.1 dX5_sheet_47 (by decide) ?_
              refine lv_icmp_le (tgt := 58) F.1 F.2.1 dX5_sheet_49 (by decide) (fun c_49 => ?_) (fun c_49 => ?_)
              · rcases (show s = 0 ∨ s = 1 ∨ s = 2 ∨ s = 3 by omega) with rfl | rfl | rfl | rfl
                · skip
                  refine lv_aload_n F.1 F.2.1 dX5_sheet_58 rfl (lv_at hl 0 rfl) ?_
                  refine gf F hK hP 0 rfl rfl hiX5_sheet_5 5 (by decide) (List.mem_of_getElem? (i := 1) rfl) rfl dX5_sheet_59 ?_
                  refine lv_iload_n F.1 F.2.1 dX5_sheet_62 rfl (lv_at hl 1 rfl) ?_
                  refine alr F hK hP 2 2 rfl rfl rfl 0 rfl (by omega) (by decide) rfl dX5_sheet_63 ?_
                  refine lv_iload_n F.1 F.2.1 dX5_sheet_64 rfl (lv_at hl 2 rfl) ?_
                  refine lv_iload_n F.1 F.2.1 dX5_sheet_65 rfl (lv_at hl 3 rfl) ?_
                  refine iV (rest := []) (wsp := fun _ => (x, .inr (5, [.ref st, .ref kt, .int ik, .ref (tr 0), .ref sc, .ref sh, .ref fo])) :: ai ct fo 7 (fun j => c (j + 1)) :: (sh, .inl (ct 2, 4, .inr (.inr (.inr (.inr (fun j => some (q j))))))) :: ((q 0), .inr (3, [.ref (q 4), .int x2, .int (if x2 = 0 then 0 else x3)])) :: (q 1, .inr (3, [.ref (q 5), .int (wd 1), .int (sz 1)])) :: (q 2, .inr (3, [.ref (q 6), .int (wd 2), .int (sz 2)])) :: (q 3, .inr (3, [.ref (q 7), .int (wd 3), .int (sz 3)])) :: ai ct (q 4) 40 (fun _ => 0) :: ai ct (q 5) 40 (fun j => nm (40 * 1 + j)) :: ai ct (q 6) 40 (fun j => nm (40 * 2 + j)) :: [ai ct (q 7) 40 (fun j => nm (40 * 3 + j))]) F (kX3_begin l dC dI ct (q 0) (q 4) (wd 0) (sz 0) (fun j => nm (40 * 0 + j)) x2 x3) gX5_sheet_X3_begin rfl ⟨rfl, rfl⟩ nmX3_begin ⟨Nat.le_of_ble_eq_true rfl, Nat.le_of_ble_eq_true rfl⟩ eT_b (fun _ _ _ => trivial) hK hP hD hS hA 3 rfl rfl rfl [3, 7] (by decide) rfl rfl rfl hl.1 (Nat.le_of_ble_eq_true rfl) dX5_sheet_66 ⟨Nat.zero_le _, Nat.zero_le _⟩ (fun _ => rfl) (fun _ => rfl) [x, fo, sh, q 0, q 1, q 2, q 3, q 4, q 5, q 6, q 7] rfl (fun _ => rfl) (fun r_66 u_66 H locs e_66 hP hD hS => ?_)
                  obtain rfl := e_66
                  have hq := (weq.c (x := (x, .inr (5, [.ref st, .ref kt, .int ik, .ref (tr 0), .ref sc, .ref sh, .ref fo]))) (weq.c (x := ai ct fo 7 (fun j => c (j + 1))) (wS_mk (ct := ct) (sh := sh) (q := q) (wd := (upd wd 0 x2)) (sz := (upd sz 0 (if x2 = 0 then 0 else x3))) (nm := (zN nm 0 40)) ⟨rfl, rfl, rfl, rfl⟩ ⟨rfl, rfl, rfl, rfl⟩ (fun j hj => zN_in nm 0 hj) (fun j hj => zN_out nm (by decide) hj) (fun j hj => zN_out nm (by decide) hj) (fun j hj => zN_out nm (by decide) hj))))
                  have hP := hq.P hP
                  have hD := hq.D hD
                  exact rtI ((upd wd 0 x2), (upd sz 0 (if x2 = 0 then 0 else x3)), (zN nm 0 40), c) F hr hlk hP hS rfl (Eq.trans (by rw [if_neg (Int32.not_lt.mpr c_36), if_neg (Int32.not_lt.mpr c_49), show tn (nI 0) = 0 from rfl]; rfl) (if_pos ⟨c_4, Or.inr (Or.inr (Or.inr c_26))⟩).symm) dX5_sheet_69
                · skip
                  refine lv_aload_n F.1 F.2.1 dX5_sheet_58 rfl (lv_at hl 0 rfl) ?_
                  refine gf F hK hP 0 rfl rfl hiX5_sheet_5 5 (by decide) (List.mem_of_getElem? (i := 1) rfl) rfl dX5_sheet_59 ?_
                  refine lv_iload_n F.1 F.2.1 dX5_sheet_62 rfl (lv_at hl 1 rfl) ?_
                  refine alr F hK hP 2 2 rfl rfl rfl 1 rfl (by omega) (by decide) rfl dX5_sheet_63 ?_
                  refine lv_iload_n F.1 F.2.1 dX5_sheet_64 rfl (lv_at hl 2 rfl) ?_
                  refine lv_iload_n F.1 F.2.1 dX5_sheet_65 rfl (lv_at hl 3 rfl) ?_
                  refine iV (rest := []) (wsp := fun _ => (x, .inr (5, [.ref st, .ref kt, .int ik, .ref (tr 0), .ref sc, .ref sh, .ref fo])) :: ai ct fo 7 (fun j => c (j + 1)) :: (sh, .inl (ct 2, 4, .inr (.inr (.inr (.inr (fun j => some (q j))))))) :: (q 0, .inr (3, [.ref (q 4), .int (wd 0), .int (sz 0)])) :: ((q 1), .inr (3, [.ref (q 5), .int x2, .int (if x2 = 0 then 0 else x3)])) :: (q 2, .inr (3, [.ref (q 6), .int (wd 2), .int (sz 2)])) :: (q 3, .inr (3, [.ref (q 7), .int (wd 3), .int (sz 3)])) :: ai ct (q 4) 40 (fun j => nm (40 * 0 + j)) :: ai ct (q 5) 40 (fun _ => 0) :: ai ct (q 6) 40 (fun j => nm (40 * 2 + j)) :: [ai ct (q 7) 40 (fun j => nm (40 * 3 + j))]) F (kX3_begin l dC dI ct (q 1) (q 5) (wd 1) (sz 1) (fun j => nm (40 * 1 + j)) x2 x3) gX5_sheet_X3_begin rfl ⟨rfl, rfl⟩ nmX3_begin ⟨Nat.le_of_ble_eq_true rfl, Nat.le_of_ble_eq_true rfl⟩ eT_b (fun _ _ _ => trivial) hK hP hD hS hA 4 rfl rfl rfl [4, 8] (by decide) rfl rfl rfl hl.1 (Nat.le_of_ble_eq_true rfl) dX5_sheet_66 ⟨Nat.zero_le _, Nat.zero_le _⟩ (fun _ => rfl) (fun _ => rfl) [x, fo, sh, q 0, q 1, q 2, q 3, q 4, q 5, q 6, q 7] rfl (fun _ => rfl) (fun r_66 u_66 H locs e_66 hP hD hS => ?_)
                  obtain rfl := e_66
                  have hq := (weq.c (x := (x, .inr (5, [.ref st, .ref kt, .int ik, .ref (tr 0), .ref sc, .ref sh, .ref fo]))) (weq.c (x := ai ct fo 7 (fun j => c (j + 1))) (wS_mk (ct := ct) (sh := sh) (q := q) (wd := (upd wd 1 x2)) (sz := (upd sz 1 (if x2 = 0 then 0 else x3))) (nm := (zN nm 1 40)) ⟨rfl, rfl, rfl, rfl⟩ ⟨rfl, rfl, rfl, rfl⟩ (fun j hj => zN_out nm (by decide) hj) (fun j hj => zN_in nm 1 hj) (fun j hj => zN_out nm (by decide) hj) (fun j hj => zN_out nm (by decide) hj))))
                  have hP := hq.P hP
                  have hD := hq.D hD
                  exact rtI ((upd wd 1 x2), (upd sz 1 (if x2 = 0 then 0 else x3)), (zN nm 1 40), c) F hr hlk hP hS rfl (Eq.trans (by rw [if_neg (Int32.not_lt.mpr c_36), if_neg (Int32.not_lt.mpr c_49), show tn (nI 1) = 1 from rfl]; rfl) (if_pos ⟨c_4, Or.inr (Or.inr (Or.inr c_26))⟩).symm) dX5_sheet_69
                · skip
                  refine lv_aload_n F.1 F.2.1 dX5_sheet_58 rfl (lv_at hl 0 rfl) ?_
                  refine gf F hK hP 0 rfl rfl hiX5_sheet_5 5 (by decide) (List.mem_of_getElem? (i := 1) rfl) rfl dX5_sheet_59 ?_
                  refine lv_iload_n F.1 F.2.1 dX5_sheet_62 rfl (lv_at hl 1 rfl) ?_
                  refine alr F hK hP 2 2 rfl rfl rfl 2 rfl (by omega) (by decide) rfl dX5_sheet_63 ?_
                  refine lv_iload_n F.1 F.2.1 dX5_sheet_64 rfl (lv_at hl 2 rfl) ?_
                  refine lv_iload_n F.1 F.2.1 dX5_sheet_65 rfl (lv_at hl 3 rfl) ?_
                  refine iV (rest := []) (wsp := fun _ => (x, .inr (5, [.ref st, .ref kt, .int ik, .ref (tr 0), .ref sc, .ref sh, .ref fo])) :: ai ct fo 7 (fun j => c (j + 1)) :: (sh, .inl (ct 2, 4, .inr (.inr (.inr (.inr (fun j => some (q j))))))) :: (q 0, .inr (3, [.ref (q 4), .int (wd 0), .int (sz 0)])) :: (q 1, .inr (3, [.ref (q 5), .int (wd 1), .int (sz 1)])) :: ((q 2), .inr (3, [.ref (q 6), .int x2, .int (if x2 = 0 then 0 else x3)])) :: (q 3, .inr (3, [.ref (q 7), .int (wd 3), .int (sz 3)])) :: ai ct (q 4) 40 (fun j => nm (40 * 0 + j)) :: ai ct (q 5) 40 (fun j => nm (40 * 1 + j)) :: ai ct (q 6) 40 (fun _ => 0) :: [ai ct (q 7) 40 (fun j => nm (40 * 3 + j))]) F (kX3_begin l dC dI ct (q 2) (q 6) (wd 2) (sz 2) (fun j => nm (40 * 2 + j)) x2 x3) gX5_sheet_X3_begin rfl ⟨rfl, rfl⟩ nmX3_begin ⟨Nat.le_of_ble_eq_true rfl, Nat.le_of_ble_eq_true rfl⟩ eT_b (fun _ _ _ => trivial) hK hP hD hS hA 5 rfl rfl rfl [5, 9] (by decide) rfl rfl rfl hl.1 (Nat.le_of_ble_eq_true rfl) dX5_sheet_66 ⟨Nat.zero_le _, Nat.zero_le _⟩ (fun _ => rfl) (fun _ => rfl) [x, fo, sh, q 0, q 1, q 2, q 3, q 4, q 5, q 6, q 7] rfl (fun _ => rfl) (fun r_66 u_66 H locs e_66 hP hD hS => ?_)
                  obtain rfl := e_66
                  have hq := (weq.c (x := (x, .inr (5, [.ref st, .ref kt, .int ik, .ref (tr 0), .ref sc, .ref sh, .ref fo]))) (weq.c (x := ai ct fo 7 (fun j => c (j + 1))) (wS_mk (ct := ct) (sh := sh) (q := q) (wd := (upd wd 2 x2)) (sz := (upd sz 2 (if x2 = 0 then 0 else x3))) (nm := (zN nm 2 40)) ⟨rfl, rfl, rfl, rfl⟩ ⟨rfl, rfl, rfl, rfl⟩ (fun j hj => zN_out nm (by decide) hj) (fun j hj => zN_out nm (by decide) hj) (fun j hj => zN_in nm 2 hj) (fun j hj => zN_out nm (by decide) hj))))
                  have hP := hq.P hP
                  have hD := hq.D hD
                  exact rtI ((upd wd 2 x2), (upd sz 2 (if x2 = 0 then 0 else x3)), (zN nm 2 40), c) F hr hlk hP hS rfl (Eq.trans (by rw [if_neg (Int32.not_lt.mpr c_36), if_neg (Int32.not_lt.mpr c_49), show tn (nI 2) = 2 from rfl]; rfl) (if_pos ⟨c_4, Or.inr (Or.inr (Or.inr c_26))⟩).symm) dX5_sheet_69
                · skip
                  refine lv_aload_n F.1 F.2.1 dX5_sheet_58 rfl (lv_at hl 0 rfl) ?_
                  refine gf F hK hP 0 rfl rfl hiX5_sheet_5 5 (by decide) (List.mem_of_getElem? (i := 1) rfl) rfl dX5_sheet_59 ?_
                  refine lv_iload_n F.1 F.2.1 dX5_sheet_62 rfl (lv_at hl 1 rfl) ?_
                  refine alr F hK hP 2 2 rfl rfl rfl 3 rfl (by omega) (by decide) rfl dX5_sheet_63 ?_
                  refine lv_iload_n F.1 F.2.1 dX5_sheet_64 rfl (lv_at hl 2 rfl) ?_
                  refine lv_iload_n F.1 F.2.1 dX5_sheet_65 rfl (lv_at hl 3 rfl) ?_
                  refine iV (rest := []) (wsp := fun _ => (x, .inr (5, [.ref st, .ref kt, .int ik, .ref (tr 0), .ref sc, .ref sh, .ref fo])) :: ai ct fo 7 (fun j => c (j + 1)) :: (sh, .inl (ct 2, 4, .inr (.inr (.inr (.inr (fun j => some (q j))))))) :: (q 0, .inr (3, [.ref (q 4), .int (wd 0), .int (sz 0)])) :: (q 1, .inr (3, [.ref (q 5), .int (wd 1), .int (sz 1)])) :: (q 2, .inr (3, [.ref (q 6), .int (wd 2), .int (sz 2)])) :: ((q 3), .inr (3, [.ref (q 7), .int x2, .int (if x2 = 0 then 0 else x3)])) :: ai ct (q 4) 40 (fun j => nm (40 * 0 + j)) :: ai ct (q 5) 40 (fun j => nm (40 * 1 + j)) :: ai ct (q 6) 40 (fun j => nm (40 * 2 + j)) :: [ai ct (q 7) 40 (fun _ => 0)]) F (kX3_begin l dC dI ct (q 3) (q 7) (wd 3) (sz 3) (fun j => nm (40 * 3 + j)) x2 x3) gX5_sheet_X3_begin rfl ⟨rfl, rfl⟩ nmX3_begin ⟨Nat.le_of_ble_eq_true rfl, Nat.le_of_ble_eq_true rfl⟩ eT_b (fun _ _ _ => trivial) hK hP hD hS hA 6 rfl rfl rfl [6, 10] (by decide) rfl rfl rfl hl.1 (Nat.le_of_ble_eq_true rfl) dX5_sheet_66 ⟨Nat.zero_le _, Nat.zero_le _⟩ (fun _ => rfl) (fun _ => rfl) [x, fo, sh, q 0, q 1, q 2, q 3, q 4, q 5, q 6, q 7] rfl (fun _ => rfl) (fun r_66 u_66 H locs e_66 hP hD hS => ?_)
                  obtain rfl := e_66
                  have hq := (weq.c (x := (x, .inr (5, [.ref st, .ref kt, .int ik, .ref (tr 0), .ref sc, .ref sh, .ref fo]))) (weq.c (x := ai ct fo 7 (fun j => c (j + 1))) (wS_mk (ct := ct) (sh := sh) (q := q) (wd := (upd wd 3 x2)) (sz := (upd sz 3 (if x2 = 0 then 0 else x3))) (nm := (zN nm 3 40)) ⟨rfl, rfl, rfl, rfl⟩ ⟨rfl, rfl, rfl, rfl⟩ (fun j hj => zN_out nm (by decide) hj) (fun j hj => zN_out nm (by decide) hj) (fun j hj => zN_out nm (by decide) hj) (fun j hj => zN_in nm 3 hj))))
                  have hP := hq.P hP
                  have hD := hq.D hD
                  exact rtI ((upd wd 3 x2), (upd sz 3 (if x2 = 0 then 0 else x3)), (zN nm 3 40), c) F hr hlk hP hS rfl (Eq.trans (by rw [if_neg (Int32.not_lt.mpr c_36), if_neg (Int32.not_lt.mpr c_49), show tn (nI 3) = 3 from rfl]; rfl) (if_pos ⟨c_4, Or.inr (Or.inr (Or.inr c_26))⟩).symm) dX5_sheet_69
              · refine lv_aload_n F.1 F.2.1 dX5_sheet_52 rfl (lv_at hl 0 rfl) ?_
                refine lv_iconst (v := 0) F.1 F.2.1 dX5_sheet_53 (by decide) ?_
                refine iV (rest := []) (wsp := fun _ => (x, .inr (5, [.ref st, .ref kt, .int ik, .ref (tr 0), .ref sc, .ref sh, .ref fo])) :: ai ct fo 7 (fun j => (fnd c 1) (j + 1)) :: (sh, .inl (ct 2, 4, .inr (.inr (.inr (.inr (fun j => some (q j))))))) :: (q 0, .inr (3, [.ref (q 4), .int (wd 0), .int (sz 0)])) :: (q 1, .inr (3, [.ref (q 5), .int (wd 1), .int (sz 1)])) :: (q 2, .inr (3, [.ref (q 6), .int (wd 2), .int (sz 2)])) :: (q 3, .inr (3, [.ref (q 7), .int (wd 3), .int (sz 3)])) :: ai ct (q 4) 40 (fun j => nm (40 * 0 + j)) :: ai ct (q 5) 40 (fun j => nm (40 * 1 + j)) :: ai ct (q 6) 40 (fun j => nm (40 * 2 + j)) :: [ai ct (q 7) 40 (fun j => nm (40 * 3 + j))]) F (kX5_finding l dC dI ct x st kt sc sh fo tr ik c 0 1 (-1000001) (by decide) (by decide) (by decide)) gX5_sheet_X5_finding rfl ⟨rfl, rfl⟩ nmX5_finding ⟨Nat.le_of_ble_eq_true rfl, Nat.le_of_ble_eq_true rfl⟩ eT_b (fun _ _ _ => trivial) hK hP hD hS hA 0 rfl rfl rfl [0, 1] (by decide) rfl rfl rfl hl.1 (Nat.le_of_ble_eq_true rfl) dX5_sheet_54 ⟨Nat.zero_le _, Nat.zero_le _⟩ (fun _ => rfl) (fun _ => rfl) [x, fo, sh, q 0, q 1, q 2, q 3, q 4, q 5, q 6, q 7] rfl (fun _ => rfl) (fun r_54 u_54 H locs e_54 hP hD hS => ?_)
                obtain rfl := e_54
                exact rtI (wd, sz, nm, (fnd c 1)) F hr hlk hP hS rfl (Eq.trans (by rw [if_neg (Int32.not_lt.mpr c_36), if_pos (Int32.not_le.mp c_49)]; rfl) (if_pos ⟨c_4, Or.inr (Or.inr (Or.inr c_26))⟩).symm) dX5_sheet_57
            · refine lv_aload_n F.1 F.2.1 dX5_sheet_39 rfl (lv_at hl 0 rfl) ?_
              refine lv_bipush (v := 6) F.1 F.2.1 dX5_sheet_40 (by decide) ?_
              refine iV (rest := []) (wsp := fun _ => (x, .inr (5, [.ref st, .ref kt, .int ik, .ref (tr 0), .ref sc, .ref sh, .ref fo])) :: ai ct fo 7 (fun j => (fnd c 7) (j + 1)) :: (sh, .inl (ct 2, 4, .inr (.inr (.inr (.inr (fun j => some (q j))))))) :: (q 0, .inr (3, [.ref (q 4), .int (wd 0), .int (sz 0)])) :: (q 1, .inr (3, [.ref (q 5), .int (wd 1), .int (sz 1)])) :: (q 2, .inr (3, [.ref (q 6), .int (wd 2), .int (sz 2)])) :: (q 3, .inr (3, [.ref (q 7), .int (wd 3), .int (sz 3)])) :: ai ct (q 4) 40 (fun j => nm (40 * 0 + j)) :: ai ct (q 5) 40 (fun j => nm (40 * 1 + j)) :: ai ct (q 6) 40 (fun j => nm (40 * 2 + j)) :: [ai ct (q 7) 40 (fun j => nm (40 * 3 + j))]) F (kX5_finding l dC dI ct x st kt sc sh fo tr ik c 6 7 (-1000007) (by decide) (by decide) (by decide)) gX5_sheet_X5_finding rfl ⟨rfl, rfl⟩ nmX5_finding ⟨Nat.le_of_ble_eq_true rfl, Nat.le_of_ble_eq_true rfl⟩ eT_b (fun _ _ _ => trivial) hK hP hD hS hA 0 rfl rfl rfl [0, 1] (by decide) rfl rfl rfl hl.1 (Nat.le_of_ble_eq_true rfl) dX5_sheet_42 ⟨Nat.zero_le _, Nat.zero_le _⟩ (fun _ => rfl) (fun _ => rfl) [x, fo, sh, q 0, q 1, q 2, q 3, q 4, q 5, q 6, q 7] rfl (fun _ => rfl) (fun r_42 u_42 H locs e_42 hP hD hS => ?_)
              obtain rfl := e_42
              exact rtI (wd, sz, nm, (fnd c 7)) F hr hlk hP hS rfl (Eq.trans (by rw [if_pos (Int32.not_le.mp c_36)]; rfl) (if_pos ⟨c_4, Or.inr (Or.inr (Or.inr c_26))⟩).symm) dX5_sheet_45
          · refine lv_aload_n F.1 F.2.1 dX5_sheet_29 rfl (lv_at hl 0 rfl) ?_
            refine lv_iconst (v := 0) F.1 F.2.1 dX5_sheet_30 (by decide) ?_
            refine iV (rest := []) (wsp := fun _ => (x, .inr (5, [.ref st, .ref kt, .int ik, .ref (tr 0), .ref sc, .ref sh, .ref fo])) :: ai ct fo 7 (fun j => (fnd c 1) (j + 1)) :: (sh, .inl (ct 2, 4, .inr (.inr (.inr (.inr (fun j => some (q j))))))) :: (q 0, .inr (3, [.ref (q 4), .int (wd 0), .int (sz 0)])) :: (q 1, .inr (3, [.ref (q 5), .int (wd 1), .int (sz 1)])) :: (q 2, .inr (3, [.ref (q 6), .int (wd 2), .int (sz 2)])) :: (q 3, .inr (3, [.ref (q 7), .int (wd 3), .int (sz 3)])) :: ai ct (q 4) 40 (fun j => nm (40 * 0 + j)) :: ai ct (q 5) 40 (fun j => nm (40 * 1 + j)) :: ai ct (q 6) 40 (fun j => nm (40 * 2 + j)) :: [ai ct (q 7) 40 (fun j => nm (40 * 3 + j))]) F (kX5_finding l dC dI ct x st kt sc sh fo tr ik c 0 1 (-1000001) (by decide) (by decide) (by decide)) gX5_sheet_X5_finding rfl ⟨rfl, rfl⟩ nmX5_finding ⟨Nat.le_of_ble_eq_true rfl, Nat.le_of_ble_eq_true rfl⟩ eT_b (fun _ _ _ => trivial) hK hP hD hS hA 0 rfl rfl rfl [0, 1] (by decide) rfl rfl rfl hl.1 (Nat.le_of_ble_eq_true rfl) dX5_sheet_31 ⟨Nat.zero_le _, Nat.zero_le _⟩ (fun _ => rfl) (fun _ => rfl) [x, fo, sh, q 0, q 1, q 2, q 3, q 4, q 5, q 6, q 7] rfl (fun _ => rfl) (fun r_31 u_31 H locs e_31 hP hD hS => ?_)
            obtain rfl := e_31
            exact rtI (wd, sz, nm, (fnd c 1)) F hr hlk hP hS rfl ((if_neg (fun q => q.2.elim c_8 (fun q => q.elim c_14 (fun q => q.elim c_20 c_26)))).symm) dX5_sheet_34

def rmX5_write : Room := { frames := 2, cells := 0, slots := 0, locals := 42 }
theorem nmX5_write : NmV yX5_write RX5 3 := by unfold NmV; decide +kernel
theorem hiX5_write_3 : ∀ w ∈ u_ws RX3 TX3 3, w ∈ wsX5_write := by decide +kernel
theorem hiX5_write_5 : ∀ w ∈ u_ws RX5 TX5 7, w ∈ wsX5_write := by decide +kernel
set_option maxHeartbeats 4000000 in
set_option maxRecDepth 100000 in
theorem kX5_write (l : Launch) (dC : Nat → ClassId) (dI : Nat → Nat → Nat) (ct : Nat → ClassId) (x st kt sc sh fo : Nat) (tr q : Nat → Nat) (ik : Int32) (wd sz nm c : Nat → Int32) (x1 x2 x3 : Int32) (hZ : RZ sz) : MI (S := (Nat → Int32) × (Nat → Int32) × (Nat → Int32) × (Nat → Int32)) l yX5_write wsX5_write rmX5_write dC dI ct eT [.ref x, .int x1, .int x2, .int x3] ((x, .inr (5, [.ref st, .ref kt, .int ik, .ref (tr 0), .ref sc, .ref sh, .ref fo])) :: ai ct fo 7 (fun j => c (j + 1)) :: wS ct sh q wd sz nm) (fun u => (x, .inr (5, [.ref st, .ref kt, .int ik, .ref (tr 0), .ref sc, .ref sh, .ref fo])) :: ai ct fo 7 (fun j => u.2.2.2 (j + 1)) :: wS ct sh q u.1 u.2.1 u.2.2.1) (fun r u => (r, u.1, u.2.1, u.2.2.1, u.2.2.2) = sWrite wd sz nm c x1 x2 x3) := by
  refine MI.of (cc := cX5_write) (maxL := 4) (ret := (some .int)) (by decide) rfl (Nat.le_of_ble_eq_true rfl) ?_
  intro pg en z mi below meth cd A F hr hlk hin hK hP hD hA hS hE ls hl
  have F : CallFix pg mi cd cX5_write 4 z _ wsX5_write RX5 := F
  have hl : lv_has ls 4 [(0, .ref x), (1, .int x1), (2, .int x2), (3, .int x3)] := hl
  refine lv_iload_n F.1 F.2.1 dX5_write_0 rfl (lv_at hl 1 rfl) ?_
  refine iS (rest := []) (wsp := fun _ => (x, .inr (5, [.ref st, .ref kt, .int ik, .ref (tr 0), .ref sc, .ref sh, .ref fo])) :: ai ct fo 7 (fun j => c (j + 1)) :: (sh, .inl (ct 2, 4, .inr (.inr (.inr (.inr (fun j => some (q j))))))) :: (q 0, .inr (3, [.ref (q 4), .int (wd 0), .int (sz 0)])) :: (q 1, .inr (3, [.ref (q 5), .int (wd 1), .int (sz 1)])) :: (q 2, .inr (3, [.ref (q 6), .int (wd 2), .int (sz 2)])) :: (q 3, .inr (3, [.ref (q 7), .int (wd 3), .int (sz 3)])) :: ai ct (q 4) 40 (fun j => nm (40 * 0 + j)) :: ai ct (q 5) 40 (fun j => nm (40 * 1 + j)) :: ai ct (q 6) 40 (fun j => nm (40 * 2 + j)) :: [ai ct (q 7) 40 (fun j => nm (40 * 3 + j))]) F (kX5_isSheet l dC dI ct x1) gX5_write_X5_isSheet rfl ⟨rfl, rfl⟩ nmX5_isSheet ⟨Nat.le_of_ble_eq_true rfl, Nat.le_of_ble_eq_true rfl⟩ eT_b (fun _ _ _ => trivial) hK hP hD hS hA [] (by decide) rfl rfl rfl hl.1 (Nat.le_of_ble_eq_true rfl) dX5_write_1 ⟨Nat.zero_le _, Nat.zero_le _⟩ (fun _ => rfl) (fun _ => rfl) [x, fo, sh, q 0, q 1, q 2, q 3, q 4, q 5, q 6, q 7] rfl (fun _ => rfl) (fun r_1 u_1 H locs e_1 hP hD hS => ?_)
  obtain rfl := e_1
  refine lv_if_ne (tgt := 13) F.1 F.2.1 dX5_write_4 (by decide) (fun c_4 => ?_) (fun c_4 => ?_)
  · have c_4 : 0 ≤ x1 ∧ x1 ≤ 3 := b01t rfl c_4
    obtain ⟨s, hs, rfl⟩ := gH_n c_4
    rcases (show s = 0 ∨ s = 1 ∨ s = 2 ∨ s = 3 by omega) with rfl | rfl | rfl | rfl
    · skip
      refine lv_aload_n F.1 F.2.1 dX5_write_13 rfl (lv_at hl 0 rfl) ?_
      refine gf F hK hP 0 rfl rfl hiX5_write_5 5 (by decide) (List.mem_of_getElem? (i := 1) rfl) rfl dX5_write_14 ?_
      refine lv_iload_n F.1 F.2.1 dX5_write_17 rfl (lv_at hl 1 rfl) ?_
      refine alr F hK hP 2 2 rfl rfl rfl 0 rfl (by omega) (by decide) rfl dX5_write_18 ?_
      refine iV (rest := []) (wsp := fun _ => (x, .inr (5, [.ref st, .ref kt, .int ik, .ref (tr 0), .ref sc, .ref sh, .ref fo])) :: ai ct fo 7 (fun j => c (j + 1)) :: (sh, .inl (ct 2, 4, .inr (.inr (.inr (.inr (fun j => some (q j))))))) :: ((q 0), .inr (3, [.ref (q 4), .int (wd 0), .int (sz 0)])) :: (q 1, .inr (3, [.ref (q 5), .int (wd 1), .int (sz 1)])) :: (q 2, .inr (3, [.ref (q 6), .int (wd 2), .int (sz 2)])) :: (q 3, .inr (3, [.ref (q 7), .int (wd 3), .int (sz 3)])) :: ai ct (q 4) 40 (fun j => nm (40 * 0 + j)) :: ai ct (q 5) 40 (fun j => nm (40 * 1 + j)) :: ai ct (q 6) 40 (fun j => nm (40 * 2 + j)) :: [ai ct (q 7) 40 (fun j => nm (40 * 3 + j))]) F (kX3_isMissing l dC dI ct (q 0) (q 4) (wd 0) (sz 0)) gX5_write_X3_isMissing rfl ⟨rfl, rfl⟩ nmX3_isMissing ⟨Nat.le_of_ble_eq_true rfl, Nat.le_of_ble_eq_true rfl⟩ eT_b (fun _ _ _ => trivial) hK hP hD hS hA 3 rfl rfl rfl [3] (by decide) rfl rfl rfl hl.1 (Nat.le_of_ble_eq_true rfl) dX5_write_19 ⟨Nat.zero_le _, Nat.zero_le _⟩ (fun _ => rfl) (fun _ => rfl) [x, fo, sh, q 0, q 1, q 2, q 3, q 4, q 5, q 6, q 7] rfl (fun _ => rfl) (fun r_19 u_19 H locs e_19 hP hD hS => ?_)
      obtain rfl := e_19
      refine lv_if_eq (tgt := 31) F.1 F.2.1 dX5_write_22 (by decide) (fun c_22 => ?_) (fun c_22 => ?_)
      · have c_22 : ¬ ((wd 0) = 0) := b01f rfl c_22
        refine lv_iload_n F.1 F.2.1 dX5_write_31 rfl (lv_at hl 2 rfl) ?_
        refine lv_iconst (v := 0) F.1 F.2.1 dX5_write_32 (by decide) ?_
        refine lv_aload_n F.1 F.2.1 dX5_write_33 rfl (lv_at hl 0 rfl) ?_
        refine gf F hK hP 0 rfl rfl hiX5_write_5 5 (by decide) (List.mem_of_getElem? (i := 1) rfl) rfl dX5_write_34 ?_
        refine lv_iload_n F.1 F.2.1 dX5_write_37 rfl (lv_at hl 1 rfl) ?_
        refine alr F hK hP 2 2 rfl rfl rfl 0 rfl (by omega) (by decide) rfl dX5_write_38 ?_
        refine gf F hK hP 3 rfl rfl hiX5_write_3 2 (by decide) (List.mem_of_getElem? (i := 2) rfl) rfl dX5_write_39 ?_
        refine lv_iconst (v := 1) F.1 F.2.1 dX5_write_42 (by decide) ?_
        refine lv_isub F.1 F.2.1 dX5_write_43 ?_
        refine iS (rest := []) (wsp := fun _ => (x, .inr (5, [.ref st, .ref kt, .int ik, .ref (tr 0), .ref sc, .ref sh, .ref fo])) :: ai ct fo 7 (fun j => c (j + 1)) :: (sh, .inl (ct 2, 4, .inr (.inr (.inr (.inr (fun j => some (q j))))))) :: ((q 0), .inr (3, [.ref (q 4), .int (wd 0), .int (sz 0)])) :: (q 1, .inr (3, [.ref (q 5), .int (wd 1), .int (sz 1)])) :: (q 2, .inr (3, [.ref (q 6), .int (wd 2), .int (sz 2)])) :: (q 3, .inr (3, [.ref (q 7), .int (wd 3), .int (sz 3)])) :: ai ct (q 4) 40 (fun j => nm (40 * 0 + j)) :: ai ct (q 5) 40 (fun j => nm (40 * 1 + j)) :: ai ct (q 6) 40 (fun j => nm (40 * 2 + j)) :: [ai ct (q 7) 40 (fun j => nm (40 * 3 + j))]) F (kX5_isIn l dC dI ct x2 0 ((sz 0) - 1)) gX5_write_X5_isIn rfl ⟨rfl, rfl⟩ nmX5_isIn ⟨Nat.le_of_ble_eq_true rfl, Nat.le_of_ble_eq_true rfl⟩ eT_b (fun _ _ _ => trivial) hK hP hD hS hA [] (by decide) rfl rfl rfl hl.1 (Nat.le_of_ble_eq_true rfl) dX5_write_44 ⟨Nat.zero_le _, Nat.zero_le _⟩ (fun _ => rfl) (fun _ => rfl) [x, fo, sh, q 0, q 1, q 2, q 3, q 4, q 5, q 6, q 7] rfl (fun _ => rfl) (fun r_44 u_44 H locs e_44 hP hD hS => ?_)
        obtain rfl := e_44
        refine lv_if_ne (tgt := 56) F.1 F.2.1 dX5_write_47 (by decide) (fun c_47 => ?_) (fun c_47 => ?_)
        · have c_47 : 0 ≤ x2 ∧ x2 ≤ ((sz 0) - 1) := b01t rfl c_47
          obtain ⟨m, hm, em⟩ := hZ 0 (by decide)
          have q44 := c_47
          rw [em] at q44
          obtain ⟨j, hj, rfl⟩ := ix_n q44 hm
          refine lv_aload_n F.1 F.2.1 dX5_write_56 rfl (lv_at hl 0 rfl) ?_
          refine gf F hK hP 0 rfl rfl hiX5_write_5 5 (by decide) (List.mem_of_getElem? (i := 1) rfl) rfl dX5_write_57 ?_
          refine lv_iload_n F.1 F.2.1 dX5_write_60 rfl (lv_at hl 1 rfl) ?_
          refine alr F hK hP 2 2 rfl rfl rfl 0 rfl (by omega) (by decide) rfl dX5_write_61 ?_
          refine lv_iload_n F.1 F.2.1 dX5_write_62 rfl (lv_at hl 2 rfl) ?_
          refine lv_iload_n F.1 F.2.1 dX5_write_63 rfl (lv_at hl 3 rfl) ?_
          refine vV (rest := []) (wsp := fun _ => (x, .inr (5, [.ref st, .ref kt, .int ik, .ref (tr 0), .ref sc, .ref sh, .ref fo])) :: ai ct fo 7 (fun j => c (j + 1)) :: (sh, .inl (ct 2, 4, .inr (.inr (.inr (.inr (fun j => some (q j))))))) :: ((q 0), .inr (3, [.ref (q 4), .int (wd 0), .int (sz 0)])) :: (q 1, .inr (3, [.ref (q 5), .int (wd 1), .int (sz 1)])) :: (q 2, .inr (3, [.ref (q 6), .int (wd 2), .int (sz 2)])) :: (q 3, .inr (3, [.ref (q 7), .int (wd 3), .int (sz 3)])) :: ai ct (q 4) 40 (upd (fun j => nm (40 * 0 + j)) j (cutF x3 (wd 0))) :: ai ct (q 5) 40 (fun j => nm (40 * 1 + j)) :: ai ct (q 6) 40 (fun j => nm (40 * 2 + j)) :: [ai ct (q 7) 40 (fun j => nm (40 * 3 + j))]) F (kX3_put l dC dI ct (q 0) (q 4) (wd 0) (sz 0) (fun j => nm (40 * 0 + j)) j x3 (by omega)) gX5_write_X3_put rfl ⟨rfl, rfl⟩ nmX3_put ⟨Nat.le_of_ble_eq_true rfl, Nat.le_of_ble_eq_true rfl⟩ eT_b (fun _ _ _ => trivial) hK hP hD hS hA 3 rfl rfl rfl [3, 7] (by decide) rfl rfl rfl hl.1 (Nat.le_of_ble_eq_true rfl) dX5_write_64 ⟨Nat.zero_le _, Nat.zero_le _⟩ (fun _ => rfl) (fun _ => rfl) [x, fo, sh, q 0, q 1, q 2, q 3, q 4, q 5, q 6, q 7] rfl (fun _ => rfl) (fun u_64 H locs e_64 hP hD hS => ?_)
          refine lv_iconst (v := 1) F.1 F.2.1 dX5_write_67 (by decide) ?_
          have hq := (weq.c (x := (x, .inr (5, [.ref st, .ref kt, .int ik, .ref (tr 0), .ref sc, .ref sh, .ref fo]))) (weq.c (x := ai ct fo 7 (fun j => c (j + 1))) (wS_mk (ct := ct) (sh := sh) (q := q) (wd := wd) (sz := sz) (nm := (upd nm (40 * 0 + j) (cutF x3 (wd 0)))) ⟨rfl, rfl, rfl, rfl⟩ ⟨rfl, rfl, rfl, rfl⟩ (fun j hj => up_in nm 0) (fun j hj => up_out nm (by decide) (by omega) hj) (fun j hj => up_out nm (by decide) (by omega) hj) (fun j hj => up_out nm (by decide) (by omega) hj))))
          have hP := hq.P hP
          have hD := hq.D hD
          exact rtI (wd, sz, (upd nm (40 * 0 + j) (cutF x3 (wd 0))), c) F hr hlk hP hS rfl (Eq.trans (by rw [show tn (nI 0) = 0 from rfl]; unfold kWrite; rw [if_neg c_22, if_pos c_47, show tn (nI j) = j from nI_clamp (by omega)]) (if_pos c_4).symm) dX5_write_68
        · have c_47 : ¬ (0 ≤ x2 ∧ x2 ≤ ((sz 0) - 1)) := b01f rfl c_47
          refine lv_aload_n F.1 F.2.1 dX5_write_50 rfl (lv_at hl 0 rfl) ?_
          refine lv_iconst (v := 0) F.1 F.2.1 dX5_write_51 (by decide) ?_
          refine iV (rest := []) (wsp := fun _ => (x, .inr (5, [.ref st, .ref kt, .int ik, .ref (tr 0), .ref sc, .ref sh, .ref fo])) :: ai ct fo 7 (fun j => (fnd c 1) (j + 1)) :: (sh, .inl (ct 2, 4, .inr (.inr (.inr (.inr (fun j => some (q j))))))) :: ((q 0), .inr (3, [.ref (q 4), .int (wd 0), .int (sz 0)])) :: (q 1, .inr (3, [.ref (q 5), .int (wd 1), .int (sz 1)])) :: (q 2, .inr (3, [.ref (q 6), .int (wd 2), .int (sz 2)])) :: (q 3, .inr (3, [.ref (q 7), .int (wd 3), .int (sz 3)])) :: ai ct (q 4) 40 (fun j => nm (40 * 0 + j)) :: ai ct (q 5) 40 (fun j => nm (40 * 1 + j)) :: ai ct (q 6) 40 (fun j => nm (40 * 2 + j)) :: [ai ct (q 7) 40 (fun j => nm (40 * 3 + j))]) F (kX5_finding l dC dI ct x st kt sc sh fo tr ik c 0 1 (-1000001) (by decide) (by decide) (by decide)) gX5_write_X5_finding rfl ⟨rfl, rfl⟩ nmX5_finding ⟨Nat.le_of_ble_eq_true rfl, Nat.le_of_ble_eq_true rfl⟩ eT_b (fun _ _ _ => trivial) hK hP hD hS hA 0 rfl rfl rfl [0, 1] (by decide) rfl rfl rfl hl.1 (Nat.le_of_ble_eq_true rfl) dX5_write_52 ⟨Nat.zero_le _, Nat.zero_le _⟩ (fun _ => rfl) (fun _ => rfl) [x, fo, sh, q 0, q 1, q 2, q 3, q 4, q 5, q 6, q 7] rfl (fun _ => rfl) (fun r_52 u_52 H locs e_52 hP hD hS => ?_)
          obtain rfl := e_52
          exact rtI (wd, sz, nm, (fnd c 1)) F hr hlk hP hS rfl (Eq.trans (by rw [show tn (nI 0) = 0 from rfl]; unfold kWrite; rw [if_neg c_22, if_neg c_47]; rfl) (if_pos c_4).symm) dX5_write_55
      · have c_22 : (wd 0) = 0 := b01t rfl c_22
        refine lv_aload_n F.1 F.2.1 dX5_write_25 rfl (lv_at hl 0 rfl) ?_
        refine lv_iconst (v := 5) F.1 F.2.1 dX5_write_26 (by decide) ?_
        refine iV (rest := []) (wsp := fun _ => (x, .inr (5, [.ref st, .ref kt, .int ik, .ref (tr 0), .ref sc, .ref sh, .ref fo])) :: ai ct fo 7 (fun j => (fnd c 6) (j + 1)) :: (sh, .inl (ct 2, 4, .inr (.inr (.inr (.inr (fun j => some (q j))))))) :: ((q 0), .inr (3, [.ref (q 4), .int (wd 0), .int (sz 0)])) :: (q 1, .inr (3, [.ref (q 5), .int (wd 1), .int (sz 1)])) :: (q 2, .inr (3, [.ref (q 6), .int (wd 2), .int (sz 2)])) :: (q 3, .inr (3, [.ref (q 7), .int (wd 3), .int (sz 3)])) :: ai ct (q 4) 40 (fun j => nm (40 * 0 + j)) :: ai ct (q 5) 40 (fun j => nm (40 * 1 + j)) :: ai ct (q 6) 40 (fun j => nm (40 * 2 + j)) :: [ai ct (q 7) 40 (fun j => nm (40 * 3 + j))]) F (kX5_finding l dC dI ct x st kt sc sh fo tr ik c 5 6 (-1000006) (by decide) (by decide) (by decide)) gX5_write_X5_finding rfl ⟨rfl, rfl⟩ nmX5_finding ⟨Nat.le_of_ble_eq_true rfl, Nat.le_of_ble_eq_true rfl⟩ eT_b (fun _ _ _ => trivial) hK hP hD hS hA 0 rfl rfl rfl [0, 1] (by decide) rfl rfl rfl hl.1 (Nat.le_of_ble_eq_true rfl) dX5_write_27 ⟨Nat.zero_le _, Nat.zero_le _⟩ (fun _ => rfl) (fun _ => rfl) [x, fo, sh, q 0, q 1, q 2, q 3, q 4, q 5, q 6, q 7] rfl (fun _ => rfl) (fun r_27 u_27 H locs e_27 hP hD hS => ?_)
        obtain rfl := e_27
        exact rtI (wd, sz, nm, (fnd c 6)) F hr hlk hP hS rfl (Eq.trans (by rw [show tn (nI 0) = 0 from rfl]; unfold kWrite; rw [if_pos c_22]; rfl) (if_pos c_4).symm) dX5_write_30
    · skip
      refine lv_aload_n F.1 F.2.1 dX5_write_13 rfl (lv_at hl 0 rfl) ?_
      refine gf F hK hP 0 rfl rfl hiX5_write_5 5 (by decide) (List.mem_of_getElem? (i := 1) rfl) rfl dX5_write_14 ?_
      refine lv_iload_n F.1 F.2.1 dX5_write_17 rfl (lv_at hl 1 rfl) ?_
      refine alr F hK hP 2 2 rfl rfl rfl 1 rfl (by omega) (by decide) rfl dX5_write_18 ?_
      refine iV (rest := []) (wsp := fun _ => (x, .inr (5, [.ref st, .ref kt, .int ik, .ref (tr 0), .ref sc, .ref sh, .ref fo])) :: ai ct fo 7 (fun j => c (j + 1)) :: (sh, .inl (ct 2, 4, .inr (.inr (.inr (.inr (fun j => some (q j))))))) :: (q 0, .inr (3, [.ref (q 4), .int (wd 0), .int (sz 0)])) :: ((q 1), .inr (3, [.ref (q 5), .int (wd 1), .int (sz 1)])) :: (q 2, .inr (3, [.ref (q 6), .int (wd 2), .int (sz 2)])) :: (q 3, .inr (3, [.ref (q 7), .int (wd 3), .int (sz 3)])) :: ai ct (q 4) 40 (fun j => nm (40 * 0 + j)) :: ai ct (q 5) 40 (fun j => nm (40 * 1 + j)) :: ai ct (q 6) 40 (fun j => nm (40 * 2 + j)) :: [ai ct (q 7) 40 (fun j => nm (40 * 3 + j))]) F (kX3_isMissing l dC dI ct (q 1) (q 5) (wd 1) (sz 1)) gX5_write_X3_isMissing rfl ⟨rfl, rfl⟩ nmX3_isMissing ⟨Nat.le_of_ble_eq_true rfl, Nat.le_of_ble_eq_true rfl⟩ eT_b (fun _ _ _ => trivial) hK hP hD hS hA 4 rfl rfl rfl [4] (by decide) rfl rfl rfl hl.1 (Nat.le_of_ble_eq_true rfl) dX5_write_19 ⟨Nat.zero_le _, Nat.zero_le _⟩ (fun _ => rfl) (fun _ => rfl) [x, fo, sh, q 0, q 1, q 2, q 3, q 4, q 5, q 6, q 7] rfl (fun _ => rfl) (fun r_19 u_19 H locs e_19 hP hD hS => ?_)
      obtain rfl := e_19
      refine lv_if_eq (tgt := 31) F.1 F.2.1 dX5_write_22 (by decide) (fun c_22 => ?_) (fun c_22 => ?_)
      · have c_22 : ¬ ((wd 1) = 0) := b01f rfl c_22
        refine lv_iload_n F.1 F.2.1 dX5_write_31 rfl (lv_at hl 2 rfl) ?_
        refine lv_iconst (v := 0) F.1 F.2.1 dX5_write_32 (by decide) ?_
        refine lv_aload_n F.1 F.2.1 dX5_write_33 rfl (lv_at hl 0 rfl) ?_
        refine gf F hK hP 0 rfl rfl hiX5_write_5 5 (by decide) (List.mem_of_getElem? (i := 1) rfl) rfl dX5_write_34 ?_
        refine lv_iload_n F.1 F.2.1 dX5_write_37 rfl (lv_at hl 1 rfl) ?_
        refine alr F hK hP 2 2 rfl rfl rfl 1 rfl (by omega) (by decide) rfl dX5_write_38 ?_
        refine gf F hK hP 4 rfl rfl hiX5_write_3 2 (by decide) (List.mem_of_getElem? (i := 2) rfl) rfl dX5_write_39 ?_
        refine lv_iconst (v := 1) F.1 F.2.1 dX5_write_42 (by decide) ?_
        refine lv_isub F.1 F.2.1 dX5_write_43 ?_
        refine iS (rest := []) (wsp := fun _ => (x, .inr (5, [.ref st, .ref kt, .int ik, .ref (tr 0), .ref sc, .ref sh, .ref fo])) :: ai ct fo 7 (fun j => c (j + 1)) :: (sh, .inl (ct 2, 4, .inr (.inr (.inr (.inr (fun j => some (q j))))))) :: (q 0, .inr (3, [.ref (q 4), .int (wd 0), .int (sz 0)])) :: ((q 1), .inr (3, [.ref (q 5), .int (wd 1), .int (sz 1)])) :: (q 2, .inr (3, [.ref (q 6), .int (wd 2), .int (sz 2)])) :: (q 3, .inr (3, [.ref (q 7), .int (wd 3), .int (sz 3)])) :: ai ct (q 4) 40 (fun j => nm (40 * 0 + j)) :: ai ct (q 5) 40 (fun j => nm (40 * 1 + j)) :: ai ct (q 6) 40 (fun j => nm (40 * 2 + j)) :: [ai ct (q 7) 40 (fun j => nm (40 * 3 + j))]) F (kX5_isIn l dC dI ct x2 0 ((sz 1) - 1)) gX5_write_X5_isIn rfl ⟨rfl, rfl⟩ nmX5_isIn ⟨Nat.le_of_ble_eq_true rfl, Nat.le_of_ble_eq_true rfl⟩ eT_b (fun _ _ _ => trivial) hK hP hD hS hA [] (by decide) rfl rfl rfl hl.1 (Nat.le_of_ble_eq_true rfl) dX5_write_44 ⟨Nat.zero_le _, Nat.zero_le _⟩ (fun _ => rfl) (fun _ => rfl) [x, fo, sh, q 0, q 1, q 2, q 3, q 4, q 5, q 6, q 7] rfl (fun _ => rfl) (fun r_44 u_44 H locs e_44 hP hD hS => ?_)
        obtain rfl := e_44
        refine lv_if_ne (tgt := 56) F.1 F.2.1 dX5_write_47 (by decide) (fun c_47 => ?_) (fun c_47 => ?_)
        · have c_47 : 0 ≤ x2 ∧ x2 ≤ ((sz 1) - 1) := b01t rfl c_47
          obtain ⟨m, hm, em⟩ := hZ 1 (by decide)
          have q44 := c_47
          rw [em] at q44
          obtain ⟨j, hj, rfl⟩ := ix_n q44 hm
          refine lv_aload_n F.1 F.2.1 dX5_write_56 rfl (lv_at hl 0 rfl) ?_
          refine gf F hK hP 0 rfl rfl hiX5_write_5 5 (by decide) (List.mem_of_getElem? (i := 1) rfl) rfl dX5_write_57 ?_
          refine lv_iload_n F.1 F.2.1 dX5_write_60 rfl (lv_at hl 1 rfl) ?_
          refine alr F hK hP 2 2 rfl rfl rfl 1 rfl (by omega) (by decide) rfl dX5_write_61 ?_
          refine lv_iload_n F.1 F.2.1 dX5_write_62 rfl (lv_at hl 2 rfl) ?_
          refine lv_iload_n F.1 F.2.1 dX5_write_63 rfl (lv_at hl 3 rfl) ?_
          refine vV (rest := []) (wsp := fun _ => (x, .inr (5, [.ref st, .ref kt, .int ik, .ref (tr 0), .ref sc, .ref sh, .ref fo])) :: ai ct fo 7 (fun j => c (j + 1)) :: (sh, .inl (ct 2, 4, .inr (.inr (.inr (.inr (fun j => some (q j))))))) :: (q 0, .inr (3, [.ref (q 4), .int (wd 0), .int (sz 0)])) :: ((q 1), .inr (3, [.ref (q 5), .int (wd 1), .int (sz 1)])) :: (q 2, .inr (3, [.ref (q 6), .int (wd 2), .int (sz 2)])) :: (q 3, .inr (3, [.ref (q 7), .int (wd 3), .int (sz 3)])) :: ai ct (q 4) 40 (fun j => nm (40 * 0 + j)) :: ai ct (q 5) 40 (upd (fun j => nm (40 * 1 + j)) j (cutF x3 (wd 1))) :: ai ct (q 6) 40 (fun j => nm (40 * 2 + j)) :: [ai ct (q 7) 40 (fun j => nm (40 * 3 + j))]) F (kX3_put l dC dI ct (q 1) (q 5) (wd 1) (sz 1) (fun j => nm (40 * 1 + j)) j x3 (by omega)) gX5_write_X3_put rfl ⟨rfl, rfl⟩ nmX3_put ⟨Nat.le_of_ble_eq_true rfl, Nat.le_of_ble_eq_true rfl⟩ eT_b (fun _ _ _ => trivial) hK hP hD hS hA 4 rfl rfl rfl [4, 8] (by decide) rfl rfl rfl hl.1 (Nat.le_of_ble_eq_true rfl) dX5_write_64 ⟨Nat.zero_le _, Nat.zero_le _⟩ (fun _ => rfl) (fun _ => rfl) [x, fo, sh, q 0, q 1, q 2, q 3, q 4, q 5, q 6, q 7] rfl (fun _ => rfl) (fun u_64 H locs e_64 hP hD hS => ?_)
          refine lv_iconst (v := 1) F.1 F.2.1 dX5_write_67 (by decide) ?_
          have hq := (weq.c (x := (x, .inr (5, [.ref st, .ref kt, .int ik, .ref (tr 0), .ref sc, .ref sh, .ref fo]))) (weq.c (x := ai ct fo 7 (fun j => c (j + 1))) (wS_mk (ct := ct) (sh := sh) (q := q) (wd := wd) (sz := sz) (nm := (upd nm (40 * 1 + j) (cutF x3 (wd 1)))) ⟨rfl, rfl, rfl, rfl⟩ ⟨rfl, rfl, rfl, rfl⟩ (fun j hj => up_out nm (by decide) (by omega) hj) (fun j hj => up_in nm 1) (fun j hj => up_out nm (by decide) (by omega) hj) (fun j hj => up_out nm (by decide) (by omega) hj))))
          have hP := hq.P hP
          have hD := hq.D hD
          exact rtI (wd, sz, (upd nm (40 * 1 + j) (cutF x3 (wd 1))), c) F hr hlk hP hS rfl (Eq.trans (by rw [show tn (nI 1) = 1 from rfl]; unfold kWrite; rw [if_neg c_22, if_pos c_47, show tn (nI j) = j from nI_clamp (by omega)]) (if_pos c_4).symm) dX5_write_68
        · have c_47 : ¬ (0 ≤ x2 ∧ x2 ≤ ((sz 1) - 1)) := b01f rfl c_47
          refine lv_aload_n F.1 F.2.1 dX5_write_50 rfl (lv_at hl 0 rfl) ?_
          refine lv_iconst (v := 0) F.1 F.2.1 dX5_write_51 (by decide) ?_
          refine iV (rest := []) (wsp := fun _ => (x, .inr (5, [.ref st, .ref kt, .int ik, .ref (tr 0), .ref sc, .ref sh, .ref fo])) :: ai ct fo 7 (fun j => (fnd c 1) (j + 1)) :: (sh, .inl (ct 2, 4, .inr (.inr (.inr (.inr (fun j => some (q j))))))) :: (q 0, .inr (3, [.ref (q 4), .int (wd 0), .int (sz 0)])) :: ((q 1), .inr (3, [.ref (q 5), .int (wd 1), .int (sz 1)])) :: (q 2, .inr (3, [.ref (q 6), .int (wd 2), .int (sz 2)])) :: (q 3, .inr (3, [.ref (q 7), .int (wd 3), .int (sz 3)])) :: ai ct (q 4) 40 (fun j => nm (40 * 0 + j)) :: ai ct (q 5) 40 (fun j => nm (40 * 1 + j)) :: ai ct (q 6) 40 (fun j => nm (40 * 2 + j)) :: [ai ct (q 7) 40 (fun j => nm (40 * 3 + j))]) F (kX5_finding l dC dI ct x st kt sc sh fo tr ik c 0 1 (-1000001) (by decide) (by decide) (by decide)) gX5_write_X5_finding rfl ⟨rfl, rfl⟩ nmX5_finding ⟨Nat.le_of_ble_eq_true rfl, Nat.le_of_ble_eq_true rfl⟩ eT_b (fun _ _ _ => trivial) hK hP hD hS hA 0 rfl rfl rfl [0, 1] (by decide) rfl rfl rfl hl.1 (Nat.le_of_ble_eq_true rfl) dX5_write_52 ⟨Nat.zero_le _, Nat.zero_le _⟩ (fun _ => rfl) (fun _ => rfl) [x, fo, sh, q 0, q 1, q 2, q 3, q 4, q 5, q 6, q 7] rfl (fun _ => rfl) (fun r_52 u_52 H locs e_52 hP hD hS => ?_)
          obtain rfl := e_52
          exact rtI (wd, sz, nm, (fnd c 1)) F hr hlk hP hS rfl (Eq.trans (by rw [show tn (nI 1) = 1 from rfl]; unfold kWrite; rw [if_neg c_22, if_neg c_47]; rfl) (if_pos c_4).symm) dX5_write_55
      · have c_22 : (wd 1) = 0 := b01t rfl c_22
        refine lv_aload_n F.1 F.2.1 dX5_write_25 rfl (lv_at hl 0 rfl) ?_
        refine lv_iconst (v := 5) F.1 F.2.1 dX5_write_26 (by decide) ?_
        refine iV (rest := []) (wsp := fun _ => (x, .inr (5, [.ref st, .ref kt, .int ik, .ref (tr 0), .ref sc, .ref sh, .ref fo])) :: ai ct fo 7 (fun j => (fnd c 6) (j + 1)) :: (sh, .inl (ct 2, 4, .inr (.inr (.inr (.inr (fun j => some (q j))))))) :: (q 0, .inr (3, [.ref (q 4), .int (wd 0), .int (sz 0)])) :: ((q 1), .inr (3, [.ref (q 5), .int (wd 1), .int (sz 1)])) :: (q 2, .inr (3, [.ref (q 6), .int (wd 2), .int (sz 2)])) :: (q 3, .inr (3, [.ref (q 7), .int (wd 3), .int (sz 3)])) :: ai ct (q 4) 40 (fun j => nm (40 * 0 + j)) :: ai ct (q 5) 40 (fun j => nm (40 * 1 + j)) :: ai ct (q 6) 40 (fun j => nm (40 * 2 + j)) :: [ai ct (q 7) 40 (fun j => nm (40 * 3 + j))]) F (kX5_finding l dC dI ct x st kt sc sh fo tr ik c 5 6 (-1000006) (by decide) (by decide) (by decide)) gX5_write_X5_finding rfl ⟨rfl, rfl⟩ nmX5_finding ⟨Nat.le_of_ble_eq_true rfl, Nat.le_of_ble_eq_true rfl⟩ eT_b (fun _ _ _ => trivial) hK hP hD hS hA 0 rfl rfl rfl [0, 1] (by decide) rfl rfl rfl hl.1 (Nat.le_of_ble_eq_true rfl) dX5_write_27 ⟨Nat.zero_le _, Nat.zero_le _⟩ (fun _ => rfl) (fun _ => rfl) [x, fo, sh, q 0, q 1, q 2, q 3, q 4, q 5, q 6, q 7] rfl (fun _ => rfl) (fun r_27 u_27 H locs e_27 hP hD hS => ?_)
        obtain rfl := e_27
        exact rtI (wd, sz, nm, (fnd c 6)) F hr hlk hP hS rfl (Eq.trans (by rw [show tn (nI 1) = 1 from rfl]; unfold kWrite; rw [if_pos c_22]; rfl) (if_pos c_4).symm) dX5_write_30
    · skip
      refine lv_aload_n F.1 F.2.1 dX5_write_13 rfl (lv_at hl 0 rfl) ?_
      refine gf F hK hP 0 rfl rfl hiX5_write_5 5 (by decide) (List.mem_of_getElem? (i := 1) rfl) rfl dX5_write_14 ?_
      refine lv_iload_n F.1 F.2.1 dX5_write_17 rfl (lv_at hl 1 rfl) ?_
      refine alr F hK hP 2 2 rfl rfl rfl 2 rfl (by omega) (by decide) rfl dX5_write_18 ?_
      refine iV (rest := []) (wsp := fun _ => (x, .inr (5, [.ref st, .ref kt, .int ik, .ref (tr 0), .ref sc, .ref sh, .ref fo])) :: ai ct fo 7 (fun j => c (j + 1)) :: (sh, .inl (ct 2, 4, .inr (.inr (.inr (.inr (fun j => some (q j))))))) :: (q 0, .inr (3, [.ref (q 4), .int (wd 0), .int (sz 0)])) :: (q 1, .inr (3, [.ref (q 5), .int (wd 1), .int (sz 1)])) :: ((q 2), .inr (3, [.ref (q 6), .int (wd 2), .int (sz 2)])) :: (q 3, .inr (3, [.ref (q 7), .int (wd 3), .int (sz 3)])) :: ai ct (q 4) 40 (fun j => nm (40 * 0 + j)) :: ai ct (q 5) 40 (fun j => nm (40 * 1 + j)) :: ai ct (q 6) 40 (fun j => nm (40 * 2 + j)) :: [ai ct (q 7) 40 (fun j => nm (40 * 3 + j))]) F (kX3_isMissing l dC dI ct (q 2) (q 6) (wd 2) (sz 2)) gX5_write_X3_isMissing rfl ⟨rfl, rfl⟩ nmX3_isMissing ⟨Nat.le_of_ble_eq_true rfl, Nat.le_of_ble_eq_true rfl⟩ eT_b (fun _ _ _ => trivial) hK hP hD hS hA 5 rfl rfl rfl [5] (by decide) rfl rfl rfl hl.1 (Nat.le_of_ble_eq_true rfl) dX5_write_19 ⟨Nat.zero_le _, Nat.zero_le _⟩ (fun _ => rfl) (fun _ => rfl) [x, fo, sh, q 0, q 1, q 2, q 3, q 4, q 5, q 6, q 7] rfl (fun _ => rfl) (fun r_19 u_19 H locs e_19 hP hD hS => ?_)
      obtain rfl := e_19
      refine lv_if_eq (tgt := 31) F.1 F.2.1 dX5_write_22 (by decide) (fun c_22 => ?_) (fun c_22 => ?_)
      · have c_22 : ¬ ((wd 2) = 0) := b01f rfl c_22
        refine lv_iload_n F.1 F.2.1 dX5_write_31 rfl (lv_at hl 2 rfl) ?_
        refine lv_iconst (v := 0) F.1 F.2.1 dX5_write_32 (by decide) ?_
        refine lv_aload_n F.1 F.2.1 dX5_write_33 rfl (lv_at hl 0 rfl) ?_
        refine gf F hK hP 0 rfl rfl hiX5_write_5 5 (by decide) (List.mem_of_getElem? (i := 1) rfl) rfl dX5_write_34 ?_
        refine lv_iload_n F.1 F.2.1 dX5_write_37 rfl (lv_at hl 1 rfl) ?_
        refine alr F hK hP 2 2 rfl rfl rfl 2 rfl (by omega) (by decide) rfl dX5_write_38 ?_
        refine gf F hK hP 5 rfl rfl hiX5_write_3 2 (by decide) (List.mem_of_getElem? (i := 2) rfl) rfl dX5_write_39 ?_
        refine lv_iconst (v := 1) F.1 F.2.1 dX5_write_42 (by decide) ?_
        refine lv_isub F.1 F.2.1 dX5_write_43 ?_
        refine iS (rest := []) (wsp := fun _ => (x, .inr (5, [.ref st, .ref kt, .int ik, .ref (tr 0), .ref sc, .ref sh, .ref fo])) :: ai ct fo 7 (fun j => c (j + 1)) :: (sh, .inl (ct 2, 4, .inr (.inr (.inr (.inr (fun j => some (q j))))))) :: (q 0, .inr (3, [.ref (q 4), .int (wd 0), .int (sz 0)])) :: (q 1, .inr (3, [.ref (q 5), .int (wd 1), .int (sz 1)])) :: ((q 2), .inr (3, [.ref (q 6), .int (wd 2), .int (sz 2)])) :: (q 3, .inr (3, [.ref (q 7), .int (wd 3), .int (sz 3)])) :: ai ct (q 4) 40 (fun j => nm (40 * 0 + j)) :: ai ct (q 5) 40 (fun j => nm (40 * 1 + j)) :: ai ct (q 6) 40 (fun j => nm (40 * 2 + j)) :: [ai ct (q 7) 40 (fun j => nm (40 * 3 + j))]) F (kX5_isIn l dC dI ct x2 0 ((sz 2) - 1)) gX5_write_X5_isIn rfl ⟨rfl, rfl⟩ nmX5_isIn ⟨Nat.le_of_ble_eq_true rfl, Nat.le_of_ble_eq_true rfl⟩ eT_b (fun _ _ _ => trivial) hK hP hD hS hA [] (by decide) rfl rfl rfl hl.1 (Nat.le_of_ble_eq_true rfl) dX5_write_44 ⟨Nat.zero_le _, Nat.zero_le _⟩ (fun _ => rfl) (fun _ => rfl) [x, fo, sh, q 0, q 1, q 2, q 3, q 4, q 5, q 6, q 7] rfl (fun _ => rfl) (fun r_44 u_44 H locs e_44 hP hD hS => ?_)
        obtain rfl := e_44
        refine lv_if_ne (tgt := 56) F.1 F.2.1 dX5_write_47 (by decide) (fun c_47 => ?_) (fun c_47 => ?_)
        · have c_47 : 0 ≤ x2 ∧ x2 ≤ ((sz 2) - 1) := b01t rfl c_47
          obtain ⟨m, hm, em⟩ := hZ 2 (by decide)
          have q44 := c_47
          rw [em] at q44
          obtain ⟨j, hj, rfl⟩ := ix_n q44 hm
          refine lv_aload_n F.1 F.2.1 dX5_write_56 rfl (lv_at hl 0 rfl) ?_
          refine gf F hK hP 0 rfl rfl hiX5_write_5 5 (by decide) (List.mem_of_getElem? (i := 1) rfl) rfl dX5_write_57 ?_
          refine lv_iload_n F.1 F.2.1 dX5_write_60 rfl (lv_at hl 1 rfl) ?_
          refine alr F hK hP 2 2 rfl rfl rfl 2 rfl (by omega) (by decide) rfl dX5_write_61 ?_
          refine lv_iload_n F.1 F.2.1 dX5_write_62 rfl (lv_at hl 2 rfl) ?_
          refine lv_iload_n F.1 F.2.1 dX5_write_63 rfl (lv_at hl 3 rfl) ?_
          refine vV (rest := []) (wsp := fun _ => (x, .inr (5, [.ref st, .ref kt, .int ik, .ref (tr 0), .ref sc, .ref sh, .ref fo])) :: ai ct fo 7 (fun j => c (j + 1)) :: (sh, .inl (ct 2, 4, .inr (.inr (.inr (.inr (fun j => some (q j))))))) :: (q 0, .inr (3, [.ref (q 4), .int (wd 0), .int (sz 0)])) :: (q 1, .inr (3, [.ref (q 5), .int (wd 1), .int (sz 1)])) :: ((q 2), .inr (3, [.ref (q 6), .int (wd 2), .int (sz 2)])) :: (q 3, .inr (3, [.ref (q 7), .int (wd 3), .int (sz 3)])) :: ai ct (q 4) 40 (fun j => nm (40 * 0 + j)) :: ai ct (q 5) 40 (fun j => nm (40 * 1 + j)) :: ai ct (q 6) 40 (upd (fun j => nm (40 * 2 + j)) j (cutF x3 (wd 2))) :: [ai ct (q 7) 40 (fun j => nm (40 * 3 + j))]) F (kX3_put l dC dI ct (q 2) (q 6) (wd 2) (sz 2) (fun j => nm (40 * 2 + j)) j x3 (by omega)) gX5_write_X3_put rfl ⟨rfl, rfl⟩ nmX3_put ⟨Nat.le_of_ble_eq_true rfl, Nat.le_of_ble_eq_true rfl⟩ eT_b (fun _ _ _ => trivial) hK hP hD hS hA 5 rfl rfl rfl [5, 9] (by decide) rfl rfl rfl hl.1 (Nat.le_of_ble_eq_true rfl) dX5_write_64 ⟨Nat.zero_le _, Nat.zero_le _⟩ (fun _ => rfl) (fun _ => rfl) [x, fo, sh, q 0, q 1, q 2, q 3, q 4, q 5, q 6, q 7] rfl (fun _ => rfl) (fun u_64 H locs e_64 hP hD hS => ?_)
          refine lv_iconst (v := 1) F.1 F.2.1 dX5_write_67 (by decide) ?_
          have hq := (weq.c (x := (x, .inr (5, [.ref st, .ref kt, .int ik, .ref (tr 0), .ref sc, .ref sh, .ref fo]))) (weq.c (x := ai ct fo 7 (fun j => c (j + 1))) (wS_mk (ct := ct) (sh := sh) (q := q) (wd := wd) (sz := sz) (nm := (upd nm (40 * 2 + j) (cutF x3 (wd 2)))) ⟨rfl, rfl, rfl, rfl⟩ ⟨rfl, rfl, rfl, rfl⟩ (fun j hj => up_out nm (by decide) (by omega) hj) (fun j hj => up_out nm (by decide) (by omega) hj) (fun j hj => up_in nm 2) (fun j hj => up_out nm (by decide) (by omega) hj))))
          have hP := hq.P hP
          have hD := hq.D hD
          exact rtI (wd, sz, (upd nm (40 * 2 + j) (cutF x3 (wd 2))), c) F hr hlk hP hS rfl (Eq.trans (by rw [show tn (nI 2) = 2 from rfl]; unfold kWrite; rw [if_neg c_22, if_pos c_47, show tn (nI j) = j from nI_clamp (by omega)]) (if_pos c_4).symm) dX5_write_68
        · have c_47 : ¬ (0 ≤ x2 ∧ x2 ≤ ((sz 2) - 1)) := b01f rfl c_47
          refine lv_aload_n F.1 F.2.1 dX5_write_50 rfl (lv_at hl 0 rfl) ?_
          refine lv_iconst (v := 0) F.1 F.2.1 dX5_write_51 (by decide) ?_
          refine iV (rest := []) (wsp := fun _ => (x, .inr (5, [.ref st, .ref kt, .int ik, .ref (tr 0), .ref sc, .ref sh, .ref fo])) :: ai ct fo 7 (fun j => (fnd c 1) (j + 1)) :: (sh, .inl (ct 2, 4, .inr (.inr (.inr (.inr (fun j => some (q j))))))) :: (q 0, .inr (3, [.ref (q 4), .int (wd 0), .int (sz 0)])) :: (q 1, .inr (3, [.ref (q 5), .int (wd 1), .int (sz 1)])) :: ((q 2), .inr (3, [.ref (q 6), .int (wd 2), .int (sz 2)])) :: (q 3, .inr (3, [.ref (q 7), .int (wd 3), .int (sz 3)])) :: ai ct (q 4) 40 (fun j => nm (40 * 0 + j)) :: ai ct (q 5) 40 (fun j => nm (40 * 1 + j)) :: ai ct (q 6) 40 (fun j => nm (40 * 2 + j)) :: [ai ct (q 7) 40 (fun j => nm (40 * 3 + j))]) F (kX5_finding l dC dI ct x st kt sc sh fo tr ik c 0 1 (-1000001) (by decide) (by decide) (by decide)) gX5_write_X5_finding rfl ⟨rfl, rfl⟩ nmX5_finding ⟨Nat.le_of_ble_eq_true rfl, Nat.le_of_ble_eq_true rfl⟩ eT_b (fun _ _ _ => trivial) hK hP hD hS hA 0 rfl rfl rfl [0, 1] (by decide) rfl rfl rfl hl.1 (Nat.le_of_ble_eq_true rfl) dX5_write_52 ⟨Nat.zero_le _, Nat.zero_le _⟩ (fun _ => rfl) (fun _ => rfl) [x, fo, sh, q 0, q 1, q 2, q 3, q 4, q 5, q 6, q 7] rfl (fun _ => rfl) (fun r_52 u_52 H locs e_52 hP hD hS => ?_)
          obtain rfl := e_52
          exact rtI (wd, sz, nm, (fnd c 1)) F hr hlk hP hS rfl (Eq.trans (by rw [show tn (nI 2) = 2 from rfl]; unfold kWrite; rw [if_neg c_22, if_neg c_47]; rfl) (if_pos c_4).symm) dX5_write_55
      · have c_22 : (wd 2) = 0 := b01t rfl c_22
        refine lv_aload_n F.1 F.2.1 dX5_write_25 rfl (lv_at hl 0 rfl) ?_
        refine lv_iconst (v := 5) F.1 F.2.1 dX5_write_26 (by decide) ?_
        refine iV (rest := []) (wsp := fun _ => (x, .inr (5, [.ref st, .ref kt, .int ik, .ref (tr 0), .ref sc, .ref sh, .ref fo])) :: ai ct fo 7 (fun j => (fnd c 6) (j + 1)) :: (sh, .inl (ct 2, 4, .inr (.inr (.inr (.inr (fun j => some (q j))))))) :: (q 0, .inr (3, [.ref (q 4), .int (wd 0), .int (sz 0)])) :: (q 1, .inr (3, [.ref (q 5), .int (wd 1), .int (sz 1)])) :: ((q 2), .inr (3, [.ref (q 6), .int (wd 2), .int (sz 2)])) :: (q 3, .inr (3, [.ref (q 7), .int (wd 3), .int (sz 3)])) :: ai ct (q 4) 40 (fun j => nm (40 * 0 + j)) :: ai ct (q 5) 40 (fun j => nm (40 * 1 + j)) :: ai ct (q 6) 40 (fun j => nm (40 * 2 + j)) :: [ai ct (q 7) 40 (fun j => nm (40 * 3 + j))]) F (kX5_finding l dC dI ct x st kt sc sh fo tr ik c 5 6 (-1000006) (by decide) (by decide) (by decide)) gX5_write_X5_finding rfl ⟨rfl, rfl⟩ nmX5_finding ⟨Nat.le_of_ble_eq_true rfl, Nat.le_of_ble_eq_true rfl⟩ eT_b (fun _ _ _ => trivial) hK hP hD hS hA 0 rfl rfl rfl [0, 1] (by decide) rfl rfl rfl hl.1 (Nat.le_of_ble_eq_true rfl) dX5_write_27 ⟨Nat.zero_le _, Nat.zero_le _⟩ (fun _ => rfl) (fun _ => rfl) [x, fo, sh, q 0, q 1, q 2, q 3, q 4, q 5, q 6, q 7] rfl (fun _ => rfl) (fun r_27 u_27 H locs e_27 hP hD hS => ?_)
        obtain rfl := e_27
        exact rtI (wd, sz, nm, (fnd c 6)) F hr hlk hP hS rfl (Eq.trans (by rw [show tn (nI 2) = 2 from rfl]; unfold kWrite; rw [if_pos c_22]; rfl) (if_pos c_4).symm) dX5_write_30
    · skip
      refine lv_aload_n F.1 F.2.1 dX5_write_13 rfl (lv_at hl 0 rfl) ?_
      refine gf F hK hP 0 rfl rfl hiX5_write_5 5 (by decide) (List.mem_of_getElem? (i := 1) rfl) rfl dX5_write_14 ?_
      refine lv_iload_n F.1 F.2.1 dX5_write_17 rfl (lv_at hl 1 rfl) ?_
      refine alr F hK hP 2 2 rfl rfl rfl 3 rfl (by omega) (by decide) rfl dX5_write_18 ?_
      refine iV (rest := []) (wsp := fun _ => (x, .inr (5, [.ref st, .ref kt, .int ik, .ref (tr 0), .ref sc, .ref sh, .ref fo])) :: ai ct fo 7 (fun j => c (j + 1)) :: (sh, .inl (ct 2, 4, .inr (.inr (.inr (.inr (fun j => some (q j))))))) :: (q 0, .inr (3, [.ref (q 4), .int (wd 0), .int (sz 0)])) :: (q 1, .inr (3, [.ref (q 5), .int (wd 1), .int (sz 1)])) :: (q 2, .inr (3, [.ref (q 6), .int (wd 2), .int (sz 2)])) :: ((q 3), .inr (3, [.ref (q 7), .int (wd 3), .int (sz 3)])) :: ai ct (q 4) 40 (fun j => nm (40 * 0 + j)) :: ai ct (q 5) 40 (fun j => nm (40 * 1 + j)) :: ai ct (q 6) 40 (fun j => nm (40 * 2 + j)) :: [ai ct (q 7) 40 (fun j => nm (40 * 3 + j))]) F (kX3_isMissing l dC dI ct (q 3) (q 7) (wd 3) (sz 3)) gX5_write_X3_isMissing rfl ⟨rfl, rfl⟩ nmX3_isMissing ⟨Nat.le_of_ble_eq_true rfl, Nat.le_of_ble_eq_true rfl⟩ eT_b (fun _ _ _ => trivial) hK hP hD hS hA 6 rfl rfl rfl [6] (by decide) rfl rfl rfl hl.1 (Nat.le_of_ble_eq_true rfl) dX5_write_19 ⟨Nat.zero_le _, Nat.zero_le _⟩ (fun _ => rfl) (fun _ => rfl) [x, fo, sh, q 0, q 1, q 2, q 3, q 4, q 5, q 6, q 7] rfl (fun _ => rfl) (fun r_19 u_19 H locs e_19 hP hD hS => ?_)
      obtain rfl := e_19
      refine lv_if_eq (tgt := 31) F.1 F.2.1 dX5_write_22 (by decide) (fun c_22 => ?_) (fun c_22 => ?_)
      · have c_22 : ¬ ((wd 3) = 0) := b01f rfl c_22
        refine lv_iload_n F.1 F.2.1 dX5_write_31 rfl (lv_at hl 2 rfl) ?_
        refine lv_iconst (v := 0) F.1 F.2.1 dX5_write_32 (by decide) ?_
        refine lv_aload_n F.1 F.2.1 dX5_write_33 rfl (lv_at hl 0 rfl) ?_
        refine gf F hK hP 0 rfl rfl hiX5_write_5 5 (by decide) (List.mem_of_getElem? (i := 1) rfl) rfl dX5_write_34 ?_
        refine lv_iload_n F.1 F.2.1 dX5_write_37 rfl (lv_at hl 1 rfl) ?_
        refine alr F hK hP 2 2 rfl rfl rfl 3 rfl (by omega) (by decide) rfl dX5_write_38 ?_
        refine gf F hK hP 6 rfl rfl hiX5_write_3 2 (by decide) (List.mem_of_getElem? (i := 2) rfl) rfl dX5_write_39 ?_
        refine lv_iconst (v := 1) F.1 F.2.1 dX5_write_42 (by decide) ?_
        refine lv_isub F.1 F.2.1 dX5_write_43 ?_
        refine iS (rest := []) (wsp := fun _ => (x, .inr (5, [.ref st, .ref kt, .int ik, .ref (tr 0), .ref sc, .ref sh, .ref fo])) :: ai ct fo 7 (fun j => c (j + 1)) :: (sh, .inl (ct 2, 4, .inr (.inr (.inr (.inr (fun j => some (q j))))))) :: (q 0, .inr (3, [.ref (q 4), .int (wd 0), .int (sz 0)])) :: (q 1, .inr (3, [.ref (q 5), .int (wd 1), .int (sz 1)])) :: (q 2, .inr (3, [.ref (q 6), .int (wd 2), .int (sz 2)])) :: ((q 3), .inr (3, [.ref (q 7), .int (wd 3), .int (sz 3)])) :: ai ct (q 4) 40 (fun j => nm (40 * 0 + j)) :: ai ct (q 5) 40 (fun j => nm (40 * 1 + j)) :: ai ct (q 6) 40 (fun j => nm (40 * 2 + j)) :: [ai ct (q 7) 40 (fun j => nm (40 * 3 + j))]) F (kX5_isIn l dC dI ct x2 0 ((sz 3) - 1)) gX5_write_X5_isIn rfl ⟨rfl, rfl⟩ nmX5_isIn ⟨Nat.le_of_ble_eq_true rfl, Nat.le_of_ble_eq_true rfl⟩ eT_b (fun _ _ _ => trivial) hK hP hD hS hA [] (by decide) rfl rfl rfl hl.1 (Nat.le_of_ble_eq_true rfl) dX5_write_44 ⟨Nat.zero_le _, Nat.zero_le _⟩ (fun _ => rfl) (fun _ => rfl) [x, fo, sh, q 0, q 1, q 2, q 3, q 4, q 5, q 6, q 7] rfl (fun _ => rfl) (fun r_44 u_44 H locs e_44 hP hD hS => ?_)
        obtain rfl := e_44
        refine lv_if_ne (tgt := 56) F.1 F.2.1 dX5_write_47 (by decide) (fun c_47 => ?_) (fun c_47 => ?_)
        · have c_47 : 0 ≤ x2 ∧ x2 ≤ ((sz 3) - 1) := b01t rfl c_47
          obtain ⟨m, hm, em⟩ := hZ 3 (by decide)
          have q44 := c_47
          rw [em] at q44
          obtain ⟨j, hj, rfl⟩ := ix_n q44 hm
          refine lv_aload_n F.1 F.2.1 dX5_write_56 rfl (lv_at hl 0 rfl) ?_
          refine gf F hK hP 0 rfl rfl hiX5_write_5 5 (by decide) (List.mem_of_getElem? (i := 1) rfl) rfl dX5_write_57 ?_
          refine lv_iload_n F.1 F.2.1 dX5_write_60 rfl (lv_at hl 1 rfl) ?_
          refine alr F hK hP 2 2 rfl rfl rfl 3 rfl (by omega) (by decide) rfl dX5_write_61 ?_
          refine lv_iload_n F.1 F.2.1 dX5_write_62 rfl (lv_at hl 2 rfl) ?_
          refine lv_iload_n F.1 F.2.1 dX5_write_63 rfl (lv_at hl 3 rfl) ?_
          refine vV (rest := []) (wsp := fun _ => (x, .inr (5, [.ref st, .ref kt, .int ik, .ref (tr 0), .ref sc, .ref sh, .ref fo])) :: ai ct fo 7 (fun j => c (j + 1)) :: (sh, .inl (ct 2, 4, .inr (.inr (.inr (.inr (fun j => some (q j))))))) :: (q 0, .inr (3, [.ref (q 4), .int (wd 0), .int (sz 0)])) :: (q 1, .inr (3, [.ref (q 5), .int (wd 1), .int (sz 1)])) :: (q 2, .inr (3, [.ref (q 6), .int (wd 2), .int (sz 2)])) :: ((q 3), .inr (3, [.ref (q 7), .int (wd 3), .int (sz 3)])) :: ai ct (q 4) 40 (fun j => nm (40 * 0 + j)) :: ai ct (q 5) 40 (fun j => nm (40 * 1 + j)) :: ai ct (q 6) 40 (fun j => nm (40 * 2 + j)) :: [ai ct (q 7) 40 (upd (fun j => nm (40 * 3 + j)) j (cutF x3 (wd 3)))]) F (kX3_put l dC dI ct (q 3) (q 7) (wd 3) (sz 3) (fun j => nm (40 * 3 + j)) j x3 (by omega)) gX5_write_X3_put rfl ⟨rfl, rfl⟩ nmX3_put ⟨Nat.le_of_ble_eq_true rfl, Nat.le_of_ble_eq_true rfl⟩ eT_b (fun _ _ _ => trivial) hK hP hD hS hA 6 rfl rfl rfl [6, 10] (by decide) rfl rfl rfl hl.1 (Nat.le_of_ble_eq_true rfl) dX5_write_64 ⟨Nat.zero_le _, Nat.zero_le _⟩ (fun _ => rfl) (fun _ => rfl) [x, fo, sh, q 0, q 1, q 2, q 3, q 4, q 5, q 6, q 7] rfl (fun _ => rfl) (fun u_64 H locs e_64 hP hD hS => ?_)
          refine lv_iconst (v := 1) F.1 F.2.1 dX5_write_67 (by decide) ?_
          have hq := (weq.c (x := (x, .inr (5, [.ref st, .ref kt, .int ik, .ref (tr 0), .ref sc, .ref sh, .ref fo]))) (weq.c (x := ai ct fo 7 (fun j => c (j + 1))) (wS_mk (ct := ct) (sh := sh) (q := q) (wd := wd) (sz := sz) (nm := (upd nm (40 * 3 + j) (cutF x3 (wd 3)))) ⟨rfl, rfl, rfl, rfl⟩ ⟨rfl, rfl, rfl, rfl⟩ (fun j hj => up_out nm (by decide) (by omega) hj) (fun j hj => up_out nm (by decide) (by omega) hj) (fun j hj => up_out nm (by decide) (by omega) hj) (fun j hj => up_in nm 3))))
          have hP := hq.P hP
          have hD := hq.D hD
          exact rtI (wd, sz, (upd nm (40 * 3 + j) (cutF x3 (wd 3))), c) F hr hlk hP hS rfl (Eq.trans (by rw [show tn (nI 3) = 3 from rfl]; unfold kWrite; rw [if_neg c_22, if_pos c_47, show tn (nI j) = j from nI_clamp (by omega)]) (if_pos c_4).symm) dX5_write_68
        · have c_47 : ¬ (0 ≤ x2 ∧ x2 ≤ ((sz 3) - 1)) := b01f rfl c_47
          refine lv_aload_n F.1 F.2.1 dX5_write_50 rfl (lv_at hl 0 rfl) ?_
          refine lv_iconst (v := 0) F.1 F.2.1 dX5_write_51 (by decide) ?_
          refine iV (rest := []) (wsp := fun _ => (x, .inr (5, [.ref st, .ref kt, .int ik, .ref (tr 0), .ref sc, .ref sh, .ref fo])) :: ai ct fo 7 (fun j => (fnd c 1) (j + 1)) :: (sh, .inl (ct 2, 4, .inr (.inr (.inr (.inr (fun j => some (q j))))))) :: (q 0, .inr (3, [.ref (q 4), .int (wd 0), .int (sz 0)])) :: (q 1, .inr (3, [.ref (q 5), .int (wd 1), .int (sz 1)])) :: (q 2, .inr (3, [.ref (q 6), .int (wd 2), .int (sz 2)])) :: ((q 3), .inr (3, [.ref (q 7), .int (wd 3), .int (sz 3)])) :: ai ct (q 4) 40 (fun j => nm (40 * 0 + j)) :: ai ct (q 5) 40 (fun j => nm (40 * 1 + j)) :: ai ct (q 6) 40 (fun j => nm (40 * 2 + j)) :: [ai ct (q 7) 40 (fun j => nm (40 * 3 + j))]) F (kX5_finding l dC dI ct x st kt sc sh fo tr ik c 0 1 (-1000001) (by decide) (by decide) (by decide)) gX5_write_X5_finding rfl ⟨rfl, rfl⟩ nmX5_finding ⟨Nat.le_of_ble_eq_true rfl, Nat.le_of_ble_eq_true rfl⟩ eT_b (fun _ _ _ => trivial) hK hP hD hS hA 0 rfl rfl rfl [0, 1] (by decide) rfl rfl rfl hl.1 (Nat.le_of_ble_eq_true rfl) dX5_write_52 ⟨Nat.zero_le _, Nat.zero_le _⟩ (fun _ => rfl) (fun _ => rfl) [x, fo, sh, q 0, q 1, q 2, q 3, q 4, q 5, q 6, q 7] rfl (fun _ => rfl) (fun r_52 u_52 H locs e_52 hP hD hS => ?_)
          obtain rfl := e_52
          exact rtI (wd, sz, nm, (fnd c 1)) F hr hlk hP hS rfl (Eq.trans (by rw [show tn (nI 3) = 3 from rfl]; unfold kWrite; rw [if_neg c_22, if_neg c_47]; rfl) (if_pos c_4).symm) dX5_write_55
      · have c_22 : (wd 3) = 0 := b01t rfl c_22
        refine lv_aload_n F.1 F.2.1 dX5_write_25 rfl (lv_at hl 0 rfl) ?_
        refine lv_iconst (v := 5) F.1 F.2.1 dX5_write_26 (by decide) ?_
        refine iV (rest := []) (wsp := fun _ => (x, .inr (5, [.ref st, .ref kt, .int ik, .ref (tr 0), .ref sc, .ref sh, .ref fo])) :: ai ct fo 7 (fun j => (fnd c 6) (j + 1)) :: (sh, .inl (ct 2, 4, .inr (.inr (.inr (.inr (fun j => some (q j))))))) :: (q 0, .inr (3, [.ref (q 4), .int (wd 0), .int (sz 0)])) :: (q 1, .inr (3, [.ref (q 5), .int (wd 1), .int (sz 1)])) :: (q 2, .inr (3, [.ref (q 6), .int (wd 2), .int (sz 2)])) :: ((q 3), .inr (3, [.ref (q 7), .int (wd 3), .int (sz 3)])) :: ai ct (q 4) 40 (fun j => nm (40 * 0 + j)) :: ai ct (q 5) 40 (fun j => nm (40 * 1 + j)) :: ai ct (q 6) 40 (fun j => nm (40 * 2 + j)) :: [ai ct (q 7) 40 (fun j => nm (40 * 3 + j))]) F (kX5_finding l dC dI ct x st kt sc sh fo tr ik c 5 6 (-1000006) (by decide) (by decide) (by decide)) gX5_write_X5_finding rfl ⟨rfl, rfl⟩ nmX5_finding ⟨Nat.le_of_ble_eq_true rfl, Nat.le_of_ble_eq_true rfl⟩ eT_b (fun _ _ _ => trivial) hK hP hD hS hA 0 rfl rfl rfl [0, 1] (by decide) rfl rfl rfl hl.1 (Nat.le_of_ble_eq_true rfl) dX5_write_27 ⟨Nat.zero_le _, Nat.zero_le _⟩ (fun _ => rfl) (fun _ => rfl) [x, fo, sh, q 0, q 1, q 2, q 3, q 4, q 5, q 6, q 7] rfl (fun _ => rfl) (fun r_27 u_27 H locs e_27 hP hD hS => ?_)
        obtain rfl := e_27
        exact rtI (wd, sz, nm, (fnd c 6)) F hr hlk hP hS rfl (Eq.trans (by rw [show tn (nI 3) = 3 from rfl]; unfold kWrite; rw [if_pos c_22]; rfl) (if_pos c_4).symm) dX5_write_30
  · have c_4 : ¬ (0 ≤ x1 ∧ x1 ≤ 3) := b01f rfl c_4
    refine lv_aload_n F.1 F.2.1 dX5_write_7 rfl (lv_at hl 0 rfl) ?_
    refine lv_iconst (v := 0) F.1 F.2.1 dX5_write_8 (by decide) ?_
    refine iV (rest := []) (wsp := fun _ => (x, .inr (5, [.ref st, .ref kt, .int ik, .ref (tr 0), .ref sc, .ref sh, .ref fo])) :: ai ct fo 7 (fun j => (fnd c 1) (j + 1)) :: (sh, .inl (ct 2, 4, .inr (.inr (.inr (.inr (fun j => some (q j))))))) :: (q 0, .inr (3, [.ref (q 4), .int (wd 0), .int (sz 0)])) :: (q 1, .inr (3, [.ref (q 5), .int (wd 1), .int (sz 1)])) :: (q 2, .inr (3, [.ref (q 6), .int (wd 2), .int (sz 2)])) :: (q 3, .inr (3, [.ref (q 7), .int (wd 3), .int (sz 3)])) :: ai ct (q 4) 40 (fun j => nm (40 * 0 + j)) :: ai ct (q 5) 40 (fun j => nm (40 * 1 + j)) :: ai ct (q 6) 40 (fun j => nm (40 * 2 + j)) :: [ai ct (q 7) 40 (fun j => nm (40 * 3 + j))]) F (kX5_finding l dC dI ct x st kt sc sh fo tr ik c 0 1 (-1000001) (by decide) (by decide) (by decide)) gX5_write_X5_finding rfl ⟨rfl, rfl⟩ nmX5_finding ⟨Nat.le_of_ble_eq_true rfl, Nat.le_of_ble_eq_true rfl⟩ eT_b (fun _ _ _ => trivial) hK hP hD hS hA 0 rfl rfl rfl [0, 1] (by decide) rfl rfl rfl hl.1 (Nat.le_of_ble_eq_true rfl) dX5_write_9 ⟨Nat.zero_le _, Nat.zero_le _⟩ (fun _ => rfl) (fun _ => rfl) [x, fo, sh, q 0, q 1, q 2, q 3, q 4, q 5, q 6, q 7] rfl (fun _ => rfl) (fun r_9 u_9 H locs e_9 hP hD hS => ?_)
    obtain rfl := e_9
    exact rtI (wd, sz, nm, (fnd c 1)) F hr hlk hP hS rfl ((if_neg c_4).symm) dX5_write_12
