def rmJ9_floorMod_7cf53 : Room := { frames := 0, cells := 0, slots := 0, locals := 0 }
theorem nmJ9_floorMod_7cf53 : NmV yJ9_floorMod_7cf53 RJ9 2 := by unfold NmV; decide +kernel
set_option maxHeartbeats 4000000 in
set_option maxRecDepth 100000 in
theorem kJ9_floorMod_7cf53 (l : Launch) (dC : Nat → ClassId) (dI : Nat → Nat → Nat) (ct : Nat → ClassId) (p q : Nat) (hp : p < 12) (hq : q < 13) : MI (S := Unit) l yJ9_floorMod_7cf53 wsJ9_floorMod_7cf53 rmJ9_floorMod_7cf53 dC dI ct eT [.int (nI p - nI q), .int 12] ([] : va_W) (fun _ => ([] : va_W)) (fun r _ => r = nI ((p + 12 - q) % 12)) := by
  refine MI.ofF (cc := cJ9_floorMod_7cf53) (maxL := 3) (ret := (some .int)) (by decide +kernel) rfl (Nat.le_of_ble_eq_true rfl) ?_
  intro pg en z mi below meth cd A F hr hlk hin hK hP hD hA hS hE ls hl
  have F : CallFix pg mi cd cJ9_floorMod_7cf53 3 z _ wsJ9_floorMod_7cf53 RJ9 := F
  have hl : lv_has ls 3 [(0, .int (nI p - nI q)), (1, .int 12)] := hl
  refine lv_iload_n F.1 F.2.1 dJ9_floorMod_7cf53_0 rfl (lv_at hl 0 rfl) ?_
  refine lv_iload_n F.1 F.2.1 dJ9_floorMod_7cf53_1 rfl (lv_at hl 1 rfl) ?_
  refine lv_irem F.1 F.2.1 dJ9_floorMod_7cf53_2 (by decide) ?_
  refine lv_istore_n (lv' := [(2, .int ((nI p - nI q) - (nI p - nI q) / 12 * 12)), (0, .int (nI p - nI q)), (1, .int 12)]) F.1 F.2.1 dJ9_floorMod_7cf53_3 rfl hl (by decide) rfl (fun ls hl => ?_)
  refine lv_iload_n F.1 F.2.1 dJ9_floorMod_7cf53_4 rfl (lv_at hl 1 rfl) ?_
  refine lv_iload_n F.1 F.2.1 dJ9_floorMod_7cf53_5 rfl (lv_at hl 2 rfl) ?_
  refine lv_ixor F.1 F.2.1 dJ9_floorMod_7cf53_6 ?_
  refine lv_if_ge (tgt := 18) F.1 F.2.1 dJ9_floorMod_7cf53_7 (by decide) (fun c_7 => ?_) (fun c_7 => ?_)
  · refine lv_iload_n F.1 F.2.1 dJ9_floorMod_7cf53_18 rfl (lv_at hl 0 rfl) ?_
    exact rtI () F hr hlk hP hS rfl (fm_a p hp q hq (Or.inr (Int32.not_lt.mpr c_7))) dJ9_floorMod_7cf53_19
  · refine lv_iload_n F.1 F.2.1 dJ9_floorMod_7cf53_10 rfl (lv_at hl 0 rfl) ?_
    refine lv_if_eq (tgt := 18) F.1 F.2.1 dJ9_floorMod_7cf53_11 (by decide) (fun c_11 => ?_) (fun c_11 => ?_)
    · refine lv_iload_n F.1 F.2.1 dJ9_floorMod_7cf53_18 rfl (lv_at hl 0 rfl) ?_
      exact rtI () F hr hlk hP hS rfl (fm_a p hp q hq (Or.inl c_11)) dJ9_floorMod_7cf53_19
    · refine lv_iload_n F.1 F.2.1 dJ9_floorMod_7cf53_14 rfl (lv_at hl 0 rfl) ?_
      refine lv_iload_n F.1 F.2.1 dJ9_floorMod_7cf53_15 rfl (lv_at hl 2 rfl) ?_
      refine lv_iadd F.1 F.2.1 dJ9_floorMod_7cf53_16 ?_
      exact rtI () F hr hlk hP hS rfl (fm_b p hp q hq c_11 (Int32.not_le.mp c_7)) dJ9_floorMod_7cf53_17

def rmX0_note : Room := { frames := 1, cells := 0, slots := 0, locals := 60 }
theorem nmX0_note : NmV yX0_note RX0 3 := by unfold NmV; decide +kernel
theorem hiX0_note_0 : ∀ w ∈ u_ws RX0 TX0 3, w ∈ wsX0_note := by decide +kernel
theorem hiX0_note_1 : ∀ w ∈ u_ws RX1 TX1 10, w ∈ wsX0_note := by decide +kernel
set_option maxHeartbeats 4000000 in
set_option maxRecDepth 100000 in
theorem kX0_note (l : Launch) (dC : Nat → ClassId) (dI : Nat → Nat → Nat) (ct : Nat → ClassId) (bk : Nat) (rw : Nat → Nat) (b : Nat → Nat) (f g : Nat → Int32) (nx sz s : Nat) (d : Int32) (hx : nx < 12) (hz : sz ≤ 12) (hs : s < 2) : MV (S := Unit) l yX0_note wsX0_note rmX0_note dC dI ct eT [.ref bk, .ref (b 0), .int (nI s), .int d] (wB ct b f ++ (wR ct bk rw (nI nx) (nI sz) g)) (fun _ => wB ct b f ++ (wR ct bk rw (nI ((nx + 1) % 12)) (nI (min 12 (sz + 1))) (noF g f nx s d))) (fun _ => True) := by
  refine MV.of (cc := cX0_note) (maxL := 5) (ret := none) (by decide) rfl (Nat.le_of_ble_eq_true rfl) ?_
  intro pg en z mi below meth cd A F hr hlk hin hK hP hD hA hS hE ls hl
  have F : CallFix pg mi cd cX0_note 5 z _ wsX0_note RX0 := F
  have hl : lv_has ls 5 [(0, .ref bk), (1, .ref (b 0)), (2, .int (nI s)), (3, .int d)] := hl
  refine lv_aload_n F.1 F.2.1 dX0_note_0 rfl (lv_at hl 0 rfl) ?_
  refine gf F hK hP 7 rfl rfl hiX0_note_0 0 (by decide) (List.mem_of_getElem? (i := 1) rfl) rfl dX0_note_1 ?_
  refine lv_aload_n F.1 F.2.1 dX0_note_4 rfl (lv_at hl 0 rfl) ?_
  refine gf F hK hP 7 rfl rfl hiX0_note_0 1 (by decide) (List.mem_of_getElem? (i := 2) rfl) rfl dX0_note_5 ?_
  refine alr F hK hP 8 1 rfl rfl rfl nx rfl (by omega) (by decide) rfl dX0_note_8 ?_
  refine lv_astore (lv' := [(4, .ref (rw nx)), (0, .ref bk), (1, .ref (b 0)), (2, .int (nI s)), (3, .int d)]) F.1 F.2.1 dX0_note_9 hl (by decide) rfl (fun ls hl => ?_)
  refine lv_aload_n F.1 F.2.1 dX0_note_11 rfl (lv_at hl 2 rfl) ?_
  refine gf F hK hP 0 rfl rfl hiX0_note_1 2 (by decide) (List.mem_of_getElem? (i := 3) rfl) rfl dX0_note_12 ?_
  refine lv_iconst (v := 0) F.1 F.2.1 dX0_note_15 (by decide) ?_
  refine lv_aload F.1 F.2.1 dX0_note_16 (lv_at hl 0 rfl) ?_
  refine lv_iconst (v := 0) F.1 F.2.1 dX0_note_18 (by decide) ?_
  refine lv_bipush (v := 10) F.1 F.2.1 dX0_note_19 (by decide) ?_
  refine cpy (ws' := wB ct b f ++ (wR ct bk rw (nI nx) (nI sz) (rcF g (fun j => f (27 + 17 * (j / 5) + j % 5)) nx 10))) F hl.1 (F.2.2.2.2 _ (List.mem_of_getElem? (i := 4) rfl)) (F.2.2.2.2 _ (List.mem_of_getElem? (i := 5) rfl)) (F.2.2.2.2 _ (List.mem_of_getElem? (i := 6) rfl)) (F.2.2.2.2 _ (List.mem_of_getElem? (i := 7) rfl)) hK hP hD hS 3 (nx + 9) 0 0 rfl (wR_at ct bk rw (nI nx) (nI sz) g (by omega)) rfl rfl (by decide) 0 0 10 rfl rfl rfl (by omega) (by omega) (Nat.le_of_ble_eq_true rfl) (by decide +kernel) dX0_note_21 (weq_ar (x := wB ct b f) (j := (nx + 2)) (show (nx + 9) = 7 + (nx + 2) by omega) (wq_rowc ct bk rw (nI nx) (nI sz) g _ (by omega) (by decide))) (fun H locs hP hD hS => ?_)
  refine lv_aload F.1 F.2.1 dX0_note_24 (lv_at hl 0 rfl) ?_
  refine lv_bipush (v := 10) F.1 F.2.1 dX0_note_26 (by decide) ?_
  refine lv_aload_n F.1 F.2.1 dX0_note_28 rfl (lv_at hl 2 rfl) ?_
  refine gf F hK hP 0 rfl rfl hiX0_note_1 6 (by decide) (List.mem_of_getElem? (i := 8) rfl) rfl dX0_note_29 ?_
  refine ast (ws' := wB ct b f ++ (wR ct bk rw (nI nx) (nI sz) (upd (rcF g (fun j => f (27 + 17 * (j / 5) + j % 5)) nx 10) (14 * nx + 10) (f 1)))) F hK hP hD hS (nx + 9) 0 (wR_at ct bk rw (nI nx) (nI sz) (rcF g (fun j => f (27 + 17 * (j / 5) + j % 5)) nx 10) (by omega)) rfl 10 rfl (by omega) (by decide) dX0_note_32 (weq_ar (x := wB ct b f) (j := (nx + 2)) (show (nx + 9) = 7 + (nx + 2) by omega) (wq_row ct bk rw (nI nx) (nI sz) (rcF g (fun j => f (27 + 17 * (j / 5) + j % 5)) nx 10) (by omega) (by omega))) (fun H locs hP hD hS => ?_)
  refine lv_aload F.1 F.2.1 dX0_note_33 (lv_at hl 0 rfl) ?_
  refine lv_bipush (v := 11) F.1 F.2.1 dX0_note_35 (by decide) ?_
  refine lv_aload_n F.1 F.2.1 dX0_note_37 rfl (lv_at hl 2 rfl) ?_
  refine gf F hK hP 0 rfl rfl hiX0_note_1 5 (by decide) (List.mem_of_getElem? (i := 9) rfl) rfl dX0_note_38 ?_
  refine lv_iload_n F.1 F.2.1 dX0_note_41 rfl (lv_at hl 3 rfl) ?_
  refine al (v := f (21 + 17 * s)) F hK hP 6 0 rfl rfl s rfl (by omega) (by decide) rfl dX0_note_42 ?_
  refine ast (ws' := wB ct b f ++ (wR ct bk rw (nI nx) (nI sz) (upd (upd (rcF g (fun j => f (27 + 17 * (j / 5) + j % 5)) nx 10) (14 * nx + 10) (f 1)) (14 * nx + 11) (f (21 + 17 * s))))) F hK hP hD hS (nx + 9) 0 (wR_at ct bk rw (nI nx) (nI sz) (upd (rcF g (fun j => f (27 + 17 * (j / 5) + j % 5)) nx 10) (14 * nx + 10) (f 1)) (by omega)) rfl 11 rfl (by omega) (by decide) dX0_note_43 (weq_ar (x := wB ct b f) (j := (nx + 2)) (show (nx + 9) = 7 + (nx + 2) by omega) (wq_row ct bk rw (nI nx) (nI sz) (upd (rcF g (fun j => f (27 + 17 * (j / 5) + j % 5)) nx 10) (14 * nx + 10) (f 1)) (by omega) (by omega))) (fun H locs hP hD hS => ?_)
  refine lv_aload F.1 F.2.1 dX0_note_44 (lv_at hl 0 rfl) ?_
  refine lv_bipush (v := 12) F.1 F.2.1 dX0_note_46 (by decide) ?_
  refine lv_iload_n F.1 F.2.1 dX0_note_48 rfl (lv_at hl 3 rfl) ?_
  refine ast (ws' := wB ct b f ++ (wR ct bk rw (nI nx) (nI sz) (upd (upd (upd (rcF g (fun j => f (27 + 17 * (j / 5) + j % 5)) nx 10) (14 * nx + 10) (f 1)) (14 * nx + 11) (f (21 + 17 * s))) (14 * nx + 12) (nI s)))) F hK hP hD hS (nx + 9) 0 (wR_at ct bk rw (nI nx) (nI sz) (upd (upd (rcF g (fun j => f (27 + 17 * (j / 5) + j % 5)) nx 10) (14 * nx + 10) (f 1)) (14 * nx + 11) (f (21 + 17 * s))) (by omega)) rfl 12 rfl (by omega) (by decide) dX0_note_49 (weq_ar (x := wB ct b f) (j := (nx + 2)) (show (nx + 9) = 7 + (nx + 2) by omega) (wq_row ct bk rw (nI nx) (nI sz) (upd (upd (rcF g (fun j => f (27 + 17 * (j / 5) + j % 5)) nx 10) (14 * nx + 10) (f 1)) (14 * nx + 11) (f (21 + 17 * s))) (by omega) (by omega))) (fun H locs hP hD hS => ?_)
  refine lv_aload F.1 F.2.1 dX0_note_50 (lv_at hl 0 rfl) ?_
  refine lv_bipush (v := 13) F.1 F.2.1 dX0_note_52 (by decide) ?_
  refine lv_iload_n F.1 F.2.1 dX0_note_54 rfl (lv_at hl 4 rfl) ?_
  refine ast (ws' := wB ct b f ++ (wR ct bk rw (nI nx) (nI sz) (upd (upd (upd (upd (rcF g (fun j => f (27 + 17 * (j / 5) + j % 5)) nx 10) (14 * nx + 10) (f 1)) (14 * nx + 11) (f (21 + 17 * s))) (14 * nx + 12) (nI s)) (14 * nx + 13) d))) F hK hP hD hS (nx + 9) 0 (wR_at ct bk rw (nI nx) (nI sz) (upd (upd (upd (rcF g (fun j => f (27 + 17 * (j / 5) + j % 5)) nx 10) (14 * nx + 10) (f 1)) (14 * nx + 11) (f (21 + 17 * s))) (14 * nx + 12) (nI s)) (by omega)) rfl 13 rfl (by omega) (by decide) dX0_note_55 (weq_ar (x := wB ct b f) (j := (nx + 2)) (show (nx + 9) = 7 + (nx + 2) by omega) (wq_row ct bk rw (nI nx) (nI sz) (upd (upd (upd (rcF g (fun j => f (27 + 17 * (j / 5) + j % 5)) nx 10) (14 * nx + 10) (f 1)) (14 * nx + 11) (f (21 + 17 * s))) (14 * nx + 12) (nI s)) (by omega) (by omega))) (fun H locs hP hD hS => ?_)
  refine lv_aload_n F.1 F.2.1 dX0_note_56 rfl (lv_at hl 1 rfl) ?_
  refine lv_aload_n F.1 F.2.1 dX0_note_57 rfl (lv_at hl 1 rfl) ?_
  refine gf F hK hP 7 rfl rfl hiX0_note_0 1 (by decide) (List.mem_of_getElem? (i := 2) rfl) rfl dX0_note_58 ?_
  refine lv_iconst (v := 1) F.1 F.2.1 dX0_note_61 (by decide) ?_
  refine lv_iadd F.1 F.2.1 dX0_note_62 ?_
  refine tp (y := nI (nx + 1)) (ad2 (a := nx) (b := 1) (c := nx + 1) rfl rfl rfl) ?_
  refine lv_bipush (v := 12) F.1 F.2.1 dX0_note_63 (by decide) ?_
  refine lv_irem F.1 F.2.1 dX0_note_65 (by decide) ?_
  refine tp (y := nI ((nx + 1) % 12)) (pk_rem (d := 12) (by omega) (by decide) (by decide)) ?_
  refine pf (ws' := wB ct b f ++ (wR ct bk rw (nI ((nx + 1) % 12)) (nI sz) (upd (upd (upd (upd (rcF g (fun j => f (27 + 17 * (j / 5) + j % 5)) nx 10) (14 * nx + 10) (f 1)) (14 * nx + 11) (f (21 + 17 * s))) (14 * nx + 12) (nI s)) (14 * nx + 13) d))) F hK hP hD hS 7 rfl rfl hiX0_note_0 tyX0 tyX0_ok nmX0 1 (by decide) (List.mem_of_getElem? (i := 2) rfl) rfl rfl rfl (Nat.le_of_ble_eq_true rfl) dX0_note_66 (weq.rf _) (fun H locs hP hD hS => ?_)
  refine lv_aload_n F.1 F.2.1 dX0_note_69 rfl (lv_at hl 1 rfl) ?_
  refine lv_bipush (v := 12) F.1 F.2.1 dX0_note_70 (by decide) ?_
  refine lv_aload_n F.1 F.2.1 dX0_note_72 rfl (lv_at hl 1 rfl) ?_
  refine gf F hK hP 7 rfl rfl hiX0_note_0 2 (by decide) (List.mem_of_getElem? (i := 10) rfl) rfl dX0_note_73 ?_
  refine lv_iconst (v := 1) F.1 F.2.1 dX0_note_76 (by decide) ?_
  refine lv_iadd F.1 F.2.1 dX0_note_77 ?_
  refine tp (y := nI (sz + 1)) (ad2 (a := sz) (b := 1) (c := sz + 1) rfl rfl rfl) ?_
  refine va_mmin F.1 F.2.1 (F.2.2.1.trans hl.1.symm) F.2.2.2.1 (F.2.2.2.2 _ (List.mem_of_getElem? (i := 11) rfl)) (F.2.2.2.2 _ (List.mem_of_getElem? (i := 12) rfl)) (F.2.2.2.2 _ (List.mem_of_getElem? (i := 13) rfl)) (F.2.2.2.2 _ (List.mem_of_getElem? (i := 14) rfl)) (Nat.le_of_ble_eq_true rfl) (Nat.le_of_ble_eq_true rfl) (Nat.zero_le _) (Nat.zero_le _) dX0_note_78 ?_
  refine tp (y := mn 12 (nI (sz + 1))) rfl ?_
  refine tp (y := nI (min 12 (sz + 1))) (mn_nI (a := 12) (b := sz + 1) (by omega) (by omega)) ?_
  refine pf (ws' := wB ct b f ++ (wR ct bk rw (nI ((nx + 1) % 12)) (nI (min 12 (sz + 1))) (upd (upd (upd (upd (rcF g (fun j => f (27 + 17 * (j / 5) + j % 5)) nx 10) (14 * nx + 10) (f 1)) (14 * nx + 11) (f (21 + 17 * s))) (14 * nx + 12) (nI s)) (14 * nx + 13) d))) F hK hP hD hS 7 rfl rfl hiX0_note_0 tyX0 tyX0_ok nmX0 2 (by decide) (List.mem_of_getElem? (i := 10) rfl) rfl rfl rfl (Nat.le_of_ble_eq_true rfl) dX0_note_81 (weq.rf _) (fun H locs hP hD hS => ?_)
  exact rtV () F hr hlk hP hS rfl trivial dX0_note_84

def rmX0_latest : Room := { frames := 1, cells := 0, slots := 0, locals := 22 }
theorem nmX0_latest : NmV yX0_latest RX0 1 := by unfold NmV; decide +kernel
theorem hiX0_latest_0 : ∀ w ∈ u_ws RX0 TX0 3, w ∈ wsX0_latest := by decide +kernel
set_option maxHeartbeats 4000000 in
set_option maxRecDepth 100000 in
theorem kX0_latest (l : Launch) (dC : Nat → ClassId) (dI : Nat → Nat → Nat) (ct : Nat → ClassId) (bk : Nat) (rw : Nat → Nat) (g : Nat → Int32) (nx sz i : Nat) (hx : nx < 12) (hi : i < 12) : MR (S := Unit) l yX0_latest wsX0_latest rmX0_latest dC dI ct eT [.ref bk, .int (nI i)] (wR ct bk rw (nI nx) (nI sz) g) (fun _ => wR ct bk rw (nI nx) (nI sz) g) (fun r _ => r = rw ((nx + 12 - (i + 1)) % 12)) := by
  refine MR.of (cc := cX0_latest) (maxL := 2) (ret := (some (.array .int))) (by decide) rfl (Nat.le_of_ble_eq_true rfl) ?_
  intro pg en z mi below meth cd A F hr hlk hin hK hP hD hA hS hE ls hl
  have F : CallFix pg mi cd cX0_latest 2 z _ wsX0_latest RX0 := F
  have hl : lv_has ls 2 [(0, .ref bk), (1, .int (nI i))] := hl
  refine lv_aload_n F.1 F.2.1 dX0_latest_0 rfl (lv_at hl 0 rfl) ?_
  refine gf F hK hP 0 rfl rfl hiX0_latest_0 0 (by decide) (List.mem_of_getElem? (i := 1) rfl) rfl dX0_latest_1 ?_
  refine lv_aload_n F.1 F.2.1 dX0_latest_4 rfl (lv_at hl 0 rfl) ?_
  refine gf F hK hP 0 rfl rfl hiX0_latest_0 1 (by decide) (List.mem_of_getElem? (i := 2) rfl) rfl dX0_latest_5 ?_
  refine lv_iconst (v := 1) F.1 F.2.1 dX0_latest_8 (by decide) ?_
  refine lv_isub F.1 F.2.1 dX0_latest_9 ?_
  refine lv_iload_n F.1 F.2.1 dX0_latest_10 rfl (lv_at hl 1 rfl) ?_
  refine lv_isub F.1 F.2.1 dX0_latest_11 ?_
  refine tp (y := nI nx - nI (i + 1)) (nI_sd nx hx i hi) ?_
  refine lv_bipush (v := 12) F.1 F.2.1 dX0_latest_12 (by decide) ?_
  refine iS (rest := [.ref (rw 12)]) (wsp := fun _ => wR ct bk rw (nI nx) (nI sz) g) F (kJ9_floorMod_7cf53 l dC dI ct nx (i + 1) (by omega) (by omega)) gX0_latest_J9_floorMod_7cf53 rfl ⟨rfl, rfl⟩ nmJ9_floorMod_7cf53 ⟨Nat.le_of_ble_eq_true rfl, Nat.le_of_ble_eq_true rfl⟩ eT_b (fun _ _ _ => trivial) hK hP hD hS hA [] (by decide) rfl rfl rfl hl.1 (Nat.le_of_ble_eq_true rfl) dX0_latest_14 ⟨Nat.zero_le _, Nat.zero_le _⟩ (fun _ => rfl) (fun _ => rfl) [bk, rw 12, rw 0, rw 1, rw 2, rw 3, rw 4, rw 5, rw 6, rw 7, rw 8, rw 9, rw 10, rw 11] rfl (fun _ => rfl) (fun r_14 u_14 H locs e_14 hP hD hS => ?_)
  obtain rfl := e_14
  refine alr F hK hP 1 1 rfl rfl rfl ((nx + 12 - (i + 1)) % 12) rfl (Nat.mod_lt _ (by decide)) (by decide) rfl dX0_latest_17 ?_
  exact rtR () F hr hlk hP hS rfl rfl dX0_latest_18

def rmX0_copyFrom : Room := { frames := 1, cells := 0, slots := 0, locals := 60 }
theorem nmX0_copyFrom : NmV yX0_copyFrom RX0 1 := by unfold NmV; decide +kernel
theorem hiX0_copyFrom_0 : ∀ w ∈ u_ws RX0 TX0 3, w ∈ wsX0_copyFrom := by decide +kernel
set_option maxHeartbeats 4000000 in
set_option maxRecDepth 100000 in
theorem kX0_copyFrom (l : Launch) (dC : Nat → ClassId) (dI : Nat → Nat → Nat) (ct : Nat → ClassId) (bk : Nat) (rw : Nat → Nat) (g : Nat → Int32) (nx sz : Nat) (bk2 : Nat) (rw2 : Nat → Nat) (g2 : Nat → Int32) (nx2 sz2 : Nat) : MV (S := Unit) l yX0_copyFrom wsX0_copyFrom rmX0_copyFrom dC dI ct eT [.ref bk, .ref bk2] (wR ct bk rw (nI nx) (nI sz) g ++ (wR ct bk2 rw2 (nI nx2) (nI sz2) g2)) (fun _ => wR ct bk rw (nI nx2) (nI sz2) (cpB g g2 12) ++ (wR ct bk2 rw2 (nI nx2) (nI sz2) g2)) (fun _ => True) := by
  refine MV.of (cc := cX0_copyFrom) (maxL := 3) (ret := none) (by decide) rfl (Nat.le_of_ble_eq_true rfl) ?_
  intro pg en z mi below meth cd A F hr hlk hin hK hP hD hA hS hE ls hl
  have F : CallFix pg mi cd cX0_copyFrom 3 z _ wsX0_copyFrom RX0 := F
  have hl : lv_has ls 3 [(0, .ref bk), (1, .ref bk2)] := hl
  rw [← cpB_0 g g2] at hP hD
  refine lv_iconst (v := 0) F.1 F.2.1 dX0_copyFrom_0 (by decide) ?_
  refine lv_istore_n (lv' := [(2, .int 0), (0, .ref bk), (1, .ref bk2)]) F.1 F.2.1 dX0_copyFrom_1 rfl hl (by decide) rfl (fun ls hl => ?_)
  refine loopN (I := fun i H locs ls => va_P (dC, dI) vwCl (wR ct bk rw (nI nx) (nI sz) (cpB g g2 i) ++ (wR ct bk2 rw2 (nI nx2) (nI sz2) g2)) H ∧ va_D A (wR ct bk rw (nI nx) (nI sz) (cpB g g2 i) ++ (wR ct bk2 rw2 (nI nx2) (nI sz2) g2)) ∧ va_S A z.heap H locs ∧ lv_has ls 3 [(2, .int (nI i)), (0, .ref bk), (1, .ref bk2)]) 12 0 (by omega) ⟨hP, hD, hS, lv_sub hl [0, 1, 2] rfl⟩ (fun H locs ls hI => ?_) (fun i hk_i H locs ls hI ih_2 => ?_)
  · obtain ⟨hP, hD, hS, hl⟩ := hI
    refine lv_iload_n F.1 F.2.1 dX0_copyFrom_2 rfl (lv_at hl 0 rfl) ?_
    refine lv_bipush (v := 12) F.1 F.2.1 dX0_copyFrom_3 (by decide) ?_
    refine lv_icmp_ge (tgt := 33) F.1 F.2.1 dX0_copyFrom_5 (by decide) (fun c_5 => ?_) (fun c_5 => ?_)
    · refine lv_aload_n F.1 F.2.1 dX0_copyFrom_33 rfl (lv_at hl 1 rfl) ?_
      refine lv_aload_n F.1 F.2.1 dX0_copyFrom_34 rfl (lv_at hl 2 rfl) ?_
      refine gf F hK hP 14 rfl rfl hiX0_copyFrom_0 1 (by decide) (List.mem_of_getElem? (i := 6) rfl) rfl dX0_copyFrom_35 ?_
      refine pf (ws' := wR ct bk rw (nI nx2) (nI sz) (cpB g g2 12) ++ (wR ct bk2 rw2 (nI nx2) (nI sz2) g2)) F hK hP hD hS 0 rfl rfl hiX0_copyFrom_0 tyX0 tyX0_ok nmX0 1 (by decide) (List.mem_of_getElem? (i := 6) rfl) rfl rfl rfl (Nat.le_of_ble_eq_true rfl) dX0_copyFrom_38 (weq.rf _) (fun H locs hP hD hS => ?_)
      refine lv_aload_n F.1 F.2.1 dX0_copyFrom_41 rfl (lv_at hl 1 rfl) ?_
      refine lv_aload_n F.1 F.2.1 dX0_copyFrom_42 rfl (lv_at hl 2 rfl) ?_
      refine gf F hK hP 14 rfl rfl hiX0_copyFrom_0 2 (by decide) (List.mem_of_getElem? (i := 7) rfl) rfl dX0_copyFrom_43 ?_
      refine pf (ws' := wR ct bk rw (nI nx2) (nI sz2) (cpB g g2 12) ++ (wR ct bk2 rw2 (nI nx2) (nI sz2) g2)) F hK hP hD hS 0 rfl rfl hiX0_copyFrom_0 tyX0 tyX0_ok nmX0 2 (by decide) (List.mem_of_getElem? (i := 7) rfl) rfl rfl rfl (Nat.le_of_ble_eq_true rfl) dX0_copyFrom_46 (weq.rf _) (fun H locs hP hD hS => ?_)
      exact rtV () F hr hlk hP hS rfl trivial dX0_copyFrom_49
    · exact absurd (nI_le (Nat.le_refl _) (by decide)) c_5
  · obtain ⟨hP, hD, hS, hl⟩ := hI
    refine lv_iload_n F.1 F.2.1 dX0_copyFrom_2 rfl (lv_at hl 0 rfl) ?_
    refine lv_bipush (v := 12) F.1 F.2.1 dX0_copyFrom_3 (by decide) ?_
    refine lv_icmp_ge (tgt := 33) F.1 F.2.1 dX0_copyFrom_5 (by decide) (fun c_5 => ?_) (fun c_5 => ?_)
    · exact absurd c_5 (nI_ge hk_i (by decide))
    · refine lv_aload_n F.1 F.2.1 dX0_copyFrom_8 rfl (lv_at hl 2 rfl) ?_
      refine gf F hK hP 14 rfl rfl hiX0_copyFrom_0 0 (by decide) (List.mem_of_getElem? (i := 1) rfl) rfl dX0_copyFrom_9 ?_
      refine lv_iload_n F.1 F.2.1 dX0_copyFrom_12 rfl (lv_at hl 0 rfl) ?_
      refine alr F hK hP 15 1 rfl rfl rfl i rfl (by omega) (by decide) rfl dX0_copyFrom_13 ?_
      refine lv_iconst (v := 0) F.1 F.2.1 dX0_copyFrom_14 (by decide) ?_
      refine lv_aload_n F.1 F.2.1 dX0_copyFrom_15 rfl (lv_at hl 1 rfl) ?_
      refine gf F hK hP 0 rfl rfl hiX0_copyFrom_0 0 (by decide) (List.mem_of_getElem? (i := 1) rfl) rfl dX0_copyFrom_16 ?_
      refine lv_iload_n F.1 F.2.1 dX0_copyFrom_19 rfl (lv_at hl 0 rfl) ?_
      refine alr F hK hP 1 1 rfl rfl rfl i rfl (by omega) (by decide) rfl dX0_copyFrom_20 ?_
      refine lv_iconst (v := 0) F.1 F.2.1 dX0_copyFrom_21 (by decide) ?_
      refine lv_bipush (v := 14) F.1 F.2.1 dX0_copyFrom_22 (by decide) ?_
      refine cpy (ws' := wR ct bk rw (nI nx) (nI sz) (cpB g g2 (i + 1)) ++ (wR ct bk2 rw2 (nI nx2) (nI sz2) g2)) F hl.1 (F.2.2.2.2 _ (List.mem_of_getElem? (i := 2) rfl)) (F.2.2.2.2 _ (List.mem_of_getElem? (i := 3) rfl)) (F.2.2.2.2 _ (List.mem_of_getElem? (i := 4) rfl)) (F.2.2.2.2 _ (List.mem_of_getElem? (i := 5) rfl)) hK hP hD hS (i + 16) (i + 2) 0 0 (wR_at ct bk2 rw2 (nI nx2) (nI sz2) g2 (by omega)) (wR_atp ct bk rw (nI nx) (nI sz) (cpB g g2 i) _ (by omega)) rfl rfl (by decide) 0 0 14 rfl rfl rfl (by omega) (by omega) (Nat.le_of_ble_eq_true rfl) (by decide +kernel) dX0_copyFrom_24 (weq_al (x := wR ct bk rw (nI nx) (nI sz) (cpB g g2 i)) (j := (i + 2)) (show (i + 2) < 14 by omega) (wq_cpb ct bk rw _ _ g g2 (by omega))) (fun H locs hP hD hS => ?_)
      refine lv_iinc (v := nI (i + 1)) (lv' := [(2, .int (nI (i + 1))), (0, .ref bk), (1, .ref bk2)]) F.1 F.2.1 dX0_copyFrom_27 hl (k := 0) rfl (by rw [show Int32.ofInt 1 = nI 1 from rfl, nI_add]) (by decide) rfl (fun ls hl => ?_)
      refine lv_goto (tgt := 2) F.1 F.2.1 dX0_copyFrom_30 (by decide) ?_
      exact ih_2 _ _ _ ⟨hP, hD, hS, lv_sub hl [0, 1, 2] rfl⟩
