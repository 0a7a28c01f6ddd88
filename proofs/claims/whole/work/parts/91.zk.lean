def rmX2_takeWord : Room := { frames := 5, cells := 0, slots := 0, locals := 107 }
theorem nmX2_takeWord : NmV yX2_takeWord RX2 1 := by unfold NmV; decide +kernel
set_option maxHeartbeats 4000000 in
set_option maxRecDepth 100000 in
theorem kX2_takeWord (l : Launch) (dC : Nat → ClassId) (dI : Nat → Nat → Nat) (ct : Nat → ClassId) (K : Nat → Nat) (rf : List (String × Nat × String × Nat)) (sc ty : Nat) (y : Nat → Int32) (n : Nat) (t4 : Int32) (p : Nat) (hn : n ≤ 120) (hp : p ≤ n) (i : Nat) (hi : i < 14) : MI (S := Nat × Int32) l yX2_takeWord wsX2_takeWord rmX2_takeWord dC dI ct (EQ K ct rfS [sc, ty]) [.ref sc, .ref (kS K i)] ((sc, .inr (2, [.ref ty, .int (nI n), .int (nI (tK y n p)), .int (nI (tB y n p)), .int (nI (tE y n p)), .int (tW y n p t4)])) :: [ai ct ty 120 y]) (fun u => (sc, .inr (2, [.ref ty, .int (nI n), .int (nI (tK y n u.1)), .int (nI (tB y n u.1)), .int (nI (tE y n u.1)), .int (tW y n u.1 u.2)])) :: [ai ct ty 120 y]) (fun r u => (r = if isW y n p i then 1 else 0) ∧ u.1 = if isW y n p i then tE y n p else p) := by
  refine MI.ofz (cc := cX2_takeWord) (maxL := 3) (ret := (some .boolean)) (by decide) rfl (Nat.le_of_ble_eq_true rfl) ?_
  intro pg en z mi below meth cd A F hr hlk hin hK hP hD hA hS hAz hE ls hl
  have hz := EQ_z (pre := (sc, .inr (2, [.ref ty, .int (nI n), .int (nI (tK y n p)), .int (nI (tB y n p)), .int (nI (tE y n p)), .int (tW y n p t4)])) :: [ai ct ty 120 y]) (show EQ K ct rfS (List.map Prod.fst ((sc, .inr (2, [.ref ty, .int (nI n), .int (nI (tK y n p)), .int (nI (tB y n p)), .int (nI (tE y n p)), .int (tW y n p t4)])) :: [ai ct ty 120 y])) z from hE) hAz
  have F : CallFix pg mi cd cX2_takeWord 3 z _ wsX2_takeWord RX2 := F
  have hl : lv_has ls 3 [(0, .ref sc), (1, .ref (kS K i))] := hl
  have hle := tE_le (y := y) hp
  refine lv_aload_n F.1 F.2.1 dX2_takeWord_0 rfl (lv_at hl 0 rfl) ?_
  refine lv_aload_n F.1 F.2.1 dX2_takeWord_1 rfl (lv_at hl 1 rfl) ?_
  refine iV (rest := []) (wsp := fun _ => (sc, .inr (2, [.ref ty, .int (nI n), .int (nI (tK y n p)), .int (nI (tB y n p)), .int (nI (tE y n p)), .int (tW y n p t4)])) :: [ai ct ty 120 y]) F (kX2_isWord l dC dI ct K rfS sc ty y n t4 p hn hp i hi) gX2_takeWord_X2_isWord rfl ⟨rfl, rfl⟩ nmX2_isWord ⟨Nat.le_of_ble_eq_true rfl, Nat.le_of_ble_eq_true rfl⟩ EQ_b (EQ_call hE hS hz [0, 1] rfl) hK hP hD hS hA 0 rfl rfl rfl [0, 1] (by decide) rfl rfl rfl hl.1 (Nat.le_of_ble_eq_true rfl) dX2_takeWord_2 ⟨Nat.zero_le _, Nat.zero_le _⟩ (fun _ => rfl) (fun _ => rfl) [sc, ty] rfl (fun _ => rfl) (fun r_2 u_2 H locs e_2 hP hD hS => ?_)
  obtain rfl := e_2
  refine lv_istore_n (lv' := [(2, .int (if isW y n p i then 1 else 0)), (0, .ref sc), (1, .ref (kS K i))]) F.1 F.2.1 dX2_takeWord_5 rfl hl (by decide) rfl (fun ls hl => ?_)
  refine lv_iload_n F.1 F.2.1 dX2_takeWord_6 rfl (lv_at hl 0 rfl) ?_
  refine lv_if_eq (tgt := 14) F.1 F.2.1 dX2_takeWord_7 (by decide) (fun c_7 => ?_) (fun c_7 => ?_)
  · have c_7 : ¬ (isW y n p i) := b01f rfl c_7
    refine lv_iload_n F.1 F.2.1 dX2_takeWord_14 rfl (lv_at hl 0 rfl) ?_
    exact rtZ (p, t4) F hr hlk hP hS rfl (⟨rfl, (if_neg c_7).symm⟩) (b01 _) dX2_takeWord_15
  · have c_7 : isW y n p i := b01t rfl c_7
    refine lv_aload_n F.1 F.2.1 dX2_takeWord_10 rfl (lv_at hl 1 rfl) ?_
    refine vV (rest := []) (wsp := fun _ => (sc, .inr (2, [.ref ty, .int (nI n), .int (nI (tK y n (tE y n p))), .int (nI (tB y n (tE y n p))), .int (nI (tE y n (tE y n p))), .int (tW y n (tE y n p) (tW y n p t4))])) :: [ai ct ty 120 y]) F (kX2_advance l dC dI ct sc ty y n (nI (tK y n p)) (nI (tB y n p)) (tW y n p t4) (tE y n p) hn (by omega)) gX2_takeWord_X2_advance rfl ⟨rfl, rfl⟩ nmX2_advance ⟨Nat.le_of_ble_eq_true rfl, Nat.le_of_ble_eq_true rfl⟩ eT_b (fun _ _ _ => trivial) hK hP hD hS hA 0 rfl rfl rfl [0, 1] (by decide) rfl rfl rfl hl.1 (Nat.le_of_ble_eq_true rfl) dX2_takeWord_11 ⟨Nat.zero_le _, Nat.zero_le _⟩ (fun _ => rfl) (fun _ => rfl) [sc, ty] rfl (fun _ => rfl) (fun u_11 H locs e_11 hP hD hS => ?_)
    refine lv_iload_n F.1 F.2.1 dX2_takeWord_14 rfl (lv_at hl 0 rfl) ?_
    exact rtZ (tE y n p, tW y n p t4) F hr hlk hP hS rfl (⟨rfl, (if_pos c_7).symm⟩) (b01 _) dX2_takeWord_15

def rmX2_takeNumber : Room := { frames := 3, cells := 0, slots := 0, locals := 61 }
theorem nmX2_takeNumber : NmV yX2_takeNumber RX2 1 := by unfold NmV; decide +kernel
theorem hiX2_takeNumber_2 : ∀ w ∈ u_ws RX2 TX2 6, w ∈ wsX2_takeNumber := by decide +kernel
set_option maxHeartbeats 4000000 in
set_option maxRecDepth 100000 in
theorem kX2_takeNumber (l : Launch) (dC : Nat → ClassId) (dI : Nat → Nat → Nat) (ct : Nat → ClassId) (sc ty : Nat) (y : Nat → Int32) (n : Nat) (t4 : Int32) (p : Nat) (hn : n ≤ 120) (hp : p ≤ n) (m : Int32) : MI (S := Nat × Int32) l yX2_takeNumber wsX2_takeNumber rmX2_takeNumber dC dI ct eT [.ref sc, .int m] ((sc, .inr (2, [.ref ty, .int (nI n), .int (nI (tK y n p)), .int (nI (tB y n p)), .int (nI (tE y n p)), .int (tW y n p t4)])) :: [ai ct ty 120 y]) (fun u => (sc, .inr (2, [.ref ty, .int (nI n), .int (nI (tK y n u.1)), .int (nI (tB y n u.1)), .int (nI (tE y n u.1)), .int (tW y n u.1 u.2)])) :: [ai ct ty 120 y]) (fun r u => (r = if nuP y n p m then tV y n p else -1) ∧ u.1 = if nuP y n p m then tE y n p else p) := by
  refine MI.of (cc := cX2_takeNumber) (maxL := 3) (ret := (some .int)) (by decide) rfl (Nat.le_of_ble_eq_true rfl) ?_
  intro pg en z mi below meth cd A F hr hlk hin hK hP hD hA hS hE ls hl
  have F : CallFix pg mi cd cX2_takeNumber 3 z _ wsX2_takeNumber RX2 := F
  have hl : lv_has ls 3 [(0, .ref sc), (1, .int m)] := hl
  have hle := tE_le (y := y) hp
  refine lv_aload_n F.1 F.2.1 dX2_takeNumber_0 rfl (lv_at hl 0 rfl) ?_
  refine gf F hK hP 0 rfl rfl hiX2_takeNumber_2 2 (by decide) (List.mem_of_getElem? (i := 1) rfl) rfl dX2_takeNumber_1 ?_
  refine lv_iconst (v := 2) F.1 F.2.1 dX2_takeNumber_4 (by decide) ?_
  refine lv_icmp_ne (tgt := 16) F.1 F.2.1 dX2_takeNumber_5 (by decide) (fun c_5 => ?_) (fun c_5 => ?_)
  · refine lv_iconst (v := (-1)) F.1 F.2.1 dX2_takeNumber_16 (by decide) ?_
    exact rtI (p, t4) F hr hlk hP hS rfl (⟨(if_neg (fun q => c_5 (by rw [q.1]; rfl))).symm, (if_neg (fun q => c_5 (by rw [q.1]; rfl))).symm⟩) dX2_takeNumber_17
  · have ek : tK y n p = 2 := nI_of_eq (b := 2) c_5 (by have := tK_le y n p; omega) (by omega)
    refine lv_aload_n F.1 F.2.1 dX2_takeNumber_8 rfl (lv_at hl 0 rfl) ?_
    refine gf F hK hP 0 rfl rfl hiX2_takeNumber_2 5 (by decide) (List.mem_of_getElem? (i := 2) rfl) rfl dX2_takeNumber_9 ?_
    refine lv_iload_n F.1 F.2.1 dX2_takeNumber_12 rfl (lv_at hl 1 rfl) ?_
    refine lv_icmp_le (tgt := 18) F.1 F.2.1 dX2_takeNumber_13 (by decide) (fun c_13 => ?_) (fun c_13 => ?_)
    · have et : tW y n p t4 = tV y n p := if_pos ek
      have hnu : nuP y n p m := ⟨ek, by rw [← et]; exact c_13⟩
      refine lv_aload_n F.1 F.2.1 dX2_takeNumber_18 rfl (lv_at hl 0 rfl) ?_
      refine gf F hK hP 0 rfl rfl hiX2_takeNumber_2 5 (by decide) (List.mem_of_getElem? (i := 2) rfl) rfl dX2_takeNumber_19 ?_
      refine tp (y := tV y n p) et ?_
      refine lv_istore_n (lv' := [(2, .int (tV y n p)), (0, .ref sc), (1, .int m)]) F.1 F.2.1 dX2_takeNumber_22 rfl hl (by decide) rfl (fun ls hl => ?_)
      refine lv_aload_n F.1 F.2.1 dX2_takeNumber_23 rfl (lv_at hl 1 rfl) ?_
      refine vV (rest := []) (wsp := fun _ => (sc, .inr (2, [.ref ty, .int (nI n), .int (nI (tK y n (tE y n p))), .int (nI (tB y n (tE y n p))), .int (nI (tE y n (tE y n p))), .int (tW y n (tE y n p) (tW y n p t4))])) :: [ai ct ty 120 y]) F (kX2_advance l dC dI ct sc ty y n (nI (tK y n p)) (nI (tB y n p)) (tW y n p t4) (tE y n p) hn (by omega)) gX2_takeNumber_X2_advance rfl ⟨rfl, rfl⟩ nmX2_advance ⟨Nat.le_of_ble_eq_true rfl, Nat.le_of_ble_eq_true rfl⟩ eT_b (fun _ _ _ => trivial) hK hP hD hS hA 0 rfl rfl rfl [0, 1] (by decide) rfl rfl rfl hl.1 (Nat.le_of_ble_eq_true rfl) dX2_takeNumber_24 ⟨Nat.zero_le _, Nat.zero_le _⟩ (fun _ => rfl) (fun _ => rfl) [sc, ty] rfl (fun _ => rfl) (fun u_24 H locs e_24 hP hD hS => ?_)
      refine lv_iload_n F.1 F.2.1 dX2_takeNumber_27 rfl (lv_at hl 0 rfl) ?_
      exact rtI (tE y n p, tW y n p t4) F hr hlk hP hS rfl (⟨(if_pos hnu).symm, (if_pos hnu).symm⟩) dX2_takeNumber_28
    · refine lv_iconst (v := (-1)) F.1 F.2.1 dX2_takeNumber_16 (by decide) ?_
      exact rtI (p, t4) F hr hlk hP hS rfl (⟨(if_neg (fun q => c_13 (by rw [show tW y n p t4 = tV y n p from if_pos ek]; exact q.2))).symm, (if_neg (fun q => c_13 (by rw [show tW y n p t4 = tV y n p from if_pos ek]; exact q.2))).symm⟩) dX2_takeNumber_17
