def rmX6_must : Room := { frames := 2, cells := 0, slots := 0, locals := 43 }
theorem nmX6_must : NmV yX6_must RX6 1 := by unfold NmV; decide +kernel
theorem hiX6_must_6 : ∀ w ∈ u_ws RX6 TX6 22, w ∈ wsX6_must := by decide +kernel
set_option maxHeartbeats 4000000 in
set_option maxRecDepth 100000 in
theorem kX6_mustY (l : Launch) (dC : Nat → ClassId) (dI : Nat → Nat → Nat) (ct : Nat → ClassId) (a : Nat → Nat) (v y : Nat → Int32) (n : Nat) (p : Nat) (h8 : v 8 = nI n) (hn : n ≤ 120) (hp : p ≤ n) (hy : ∀ j, j < n → by_ (y j)) (hT : MT v y n p) (h13 : v 13 = 0) : MV (S := (Nat → Int32)) l yX6_must wsX6_must rmX6_must dC dI ct eT [.ref (a 0), .int 1] (oM a v :: [ai ct (a 5) 120 y]) (fun u => oM a u :: [ai ct (a 5) 120 y]) (fun u => MT u y n (tE y n p) ∧ Fm u v) := by
  refine MV.of (cc := cX6_must) (maxL := 2) (ret := none) (by decide) rfl (Nat.le_of_ble_eq_true rfl) ?_
  intro pg en z mi below meth cd A F hr hlk hin hK hP hD hA hS hE ls hl
  have F : CallFix pg mi cd cX6_must 2 z _ wsX6_must RX6 := F
  have hl : lv_has ls 2 [(0, .ref (a 0)), (1, .int 1)] := hl
  have hpe : tE y n p ≤ n := tE_n hp
  refine lv_aload_n F.1 F.2.1 dX6_must_0 rfl (lv_at hl 0 rfl) ?_
  refine lv_aload_n F.1 F.2.1 dX6_must_1 rfl (lv_at hl 0 rfl) ?_
  refine gf F hK hP 0 rfl rfl hiX6_must_6 13 (by decide) (List.mem_of_getElem? (i := 1) rfl) rfl dX6_must_2 ?_
  refine tp (y := 0) h13 ?_
  refine lv_if_ne (tgt := 12) F.1 F.2.1 dX6_must_5 (by decide) (fun c_5 => ?_) (fun c_5 => ?_)
  · exact absurd rfl c_5
  · refine lv_iload_n F.1 F.2.1 dX6_must_8 rfl (lv_at hl 1 rfl) ?_
    refine lv_if_ne (tgt := 16) F.1 F.2.1 dX6_must_9 (by decide) (fun c_9 => ?_) (fun c_9 => ?_)
    · refine lv_iconst (v := 0) F.1 F.2.1 dX6_must_16 (by decide) ?_
      refine pf (ws' := oM a (upd v 13 0) :: [ai ct (a 5) 120 y]) F hK hP hD hS 0 rfl rfl hiX6_must_6 tyX6 tyX6_ok nmX6 13 (by decide) (List.mem_of_getElem? (i := 1) rfl) rfl rfl rfl (Nat.le_of_ble_eq_true rfl) dX6_must_17 (weq.rf _) (fun H locs hP hD hS => ?_)
      refine lv_aload_n F.1 F.2.1 dX6_must_20 rfl (lv_at hl 0 rfl) ?_
      refine gf F hK hP 0 rfl rfl hiX6_must_6 13 (by decide) (List.mem_of_getElem? (i := 1) rfl) rfl dX6_must_21 ?_
      refine tp (y := 0) pk_us ?_
      refine lv_if_ne (tgt := 31) F.1 F.2.1 dX6_must_24 (by decide) (fun c_24 => ?_) (fun c_24 => ?_)
      · exact absurd rfl c_24
      · refine lv_aload_n F.1 F.2.1 dX6_must_27 rfl (lv_at hl 0 rfl) ?_
        refine vV (rest := []) (wsp := fun u_28 => oM a u_28 :: [ai ct (a 5) 120 y]) F (kX6_next l dC dI ct a (upd v 13 0) y n (tE y n p) h8 hn hT.2.1 hpe hy) gX6_must_X6_next rfl ⟨rfl, rfl⟩ nmX6_next ⟨Nat.le_of_ble_eq_true rfl, Nat.le_of_ble_eq_true rfl⟩ eT_b (fun _ _ _ => trivial) hK hP hD hS hA 0 rfl rfl rfl [0, 1] (by decide) rfl rfl rfl hl.1 (Nat.le_of_ble_eq_true rfl) dX6_must_28 ⟨Nat.zero_le _, Nat.zero_le _⟩ (fun _ => rfl) (fun _ => rfl) [a 0, a 5] rfl (fun _ => rfl) (fun u_28 H locs e_28 hP hD hS => ?_)
        exact rtV u_28 F hr hlk hP hS rfl (⟨e_28.1, by have q := e_28.2; rw [show upd v 13 0 = v by rw [← h13]; exact upd_self v 13] at q; exact q⟩) dX6_must_31
    · exact absurd c_9 (by decide)

set_option maxHeartbeats 4000000 in
set_option maxRecDepth 100000 in
theorem kX6_mustN (l : Launch) (dC : Nat → ClassId) (dI : Nat → Nat → Nat) (ct : Nat → ClassId) (a : Nat → Nat) (v : Nat → Int32) (w : Int32) (hW : ¬ v 13 = 0 ∨ w = 0) : MV (S := Unit) l yX6_must wsX6_must rmX6_must dC dI ct eT [.ref (a 0), .int w] ([oM a v]) (fun _ => [oM a (upd v 13 1)]) (fun _ => True) := by
  refine MV.of (cc := cX6_must) (maxL := 2) (ret := none) (by decide) rfl (Nat.le_of_ble_eq_true rfl) ?_
  intro pg en z mi below meth cd A F hr hlk hin hK hP hD hA hS hE ls hl
  have F : CallFix pg mi cd cX6_must 2 z _ wsX6_must RX6 := F
  have hl : lv_has ls 2 [(0, .ref (a 0)), (1, .int w)] := hl
  refine lv_aload_n F.1 F.2.1 dX6_must_0 rfl (lv_at hl 0 rfl) ?_
  refine lv_aload_n F.1 F.2.1 dX6_must_1 rfl (lv_at hl 0 rfl) ?_
  refine gf F hK hP 0 rfl rfl hiX6_must_6 13 (by decide) (List.mem_of_getElem? (i := 1) rfl) rfl dX6_must_2 ?_
  refine lv_if_ne (tgt := 12) F.1 F.2.1 dX6_must_5 (by decide) (fun c_5 => ?_) (fun c_5 => ?_)
  · refine lv_iconst (v := 1) F.1 F.2.1 dX6_must_12 (by decide) ?_
    refine lv_goto (tgt := 17) F.1 F.2.1 dX6_must_13 (by decide) ?_
    refine pf (ws' := [oM a (upd v 13 1)]) F hK hP hD hS 0 rfl rfl hiX6_must_6 tyX6 tyX6_ok nmX6 13 (by decide) (List.mem_of_getElem? (i := 1) rfl) rfl rfl rfl (Nat.le_of_ble_eq_true rfl) dX6_must_17 (weq.rf _) (fun H locs hP hD hS => ?_)
    refine lv_aload_n F.1 F.2.1 dX6_must_20 rfl (lv_at hl 0 rfl) ?_
    refine gf F hK hP 0 rfl rfl hiX6_must_6 13 (by decide) (List.mem_of_getElem? (i := 1) rfl) rfl dX6_must_21 ?_
    refine tp (y := 1) pk_us ?_
    refine lv_if_ne (tgt := 31) F.1 F.2.1 dX6_must_24 (by decide) (fun c_24 => ?_) (fun c_24 => ?_)
    · exact rtV () F hr hlk hP hS rfl trivial dX6_must_31
    · exact absurd c_24 (by decide)
  · refine lv_iload_n F.1 F.2.1 dX6_must_8 rfl (lv_at hl 1 rfl) ?_
    refine lv_if_ne (tgt := 16) F.1 F.2.1 dX6_must_9 (by decide) (fun c_9 => ?_) (fun c_9 => ?_)
    · exact absurd (hW.resolve_left (fun q => q c_5)) c_9
    · refine lv_iconst (v := 1) F.1 F.2.1 dX6_must_12 (by decide) ?_
      refine lv_goto (tgt := 17) F.1 F.2.1 dX6_must_13 (by decide) ?_
      refine pf (ws' := [oM a (upd v 13 1)]) F hK hP hD hS 0 rfl rfl hiX6_must_6 tyX6 tyX6_ok nmX6 13 (by decide) (List.mem_of_getElem? (i := 1) rfl) rfl rfl rfl (Nat.le_of_ble_eq_true rfl) dX6_must_17 (weq.rf _) (fun H locs hP hD hS => ?_)
      refine lv_aload_n F.1 F.2.1 dX6_must_20 rfl (lv_at hl 0 rfl) ?_
      refine gf F hK hP 0 rfl rfl hiX6_must_6 13 (by decide) (List.mem_of_getElem? (i := 1) rfl) rfl dX6_must_21 ?_
      refine tp (y := 1) pk_us ?_
      refine lv_if_ne (tgt := 31) F.1 F.2.1 dX6_must_24 (by decide) (fun c_24 => ?_) (fun c_24 => ?_)
      · exact rtV () F hr hlk hP hS rfl trivial dX6_must_31
      · exact absurd c_24 (by decide)

def rmX6_number : Room := { frames := 3, cells := 0, slots := 0, locals := 64 }
theorem nmX6_number : NmV yX6_number RX6 2 := by unfold NmV; decide +kernel
theorem hiX6_number_6 : ∀ w ∈ u_ws RX6 TX6 22, w ∈ wsX6_number := by decide +kernel
set_option maxHeartbeats 4000000 in
set_option maxRecDepth 100000 in
theorem kX6_numberY (l : Launch) (dC : Nat → ClassId) (dI : Nat → Nat → Nat) (ct : Nat → ClassId) (a : Nat → Nat) (v y : Nat → Int32) (n : Nat) (p : Nat) (h8 : v 8 = nI n) (hn : n ≤ 120) (hp : p ≤ n) (hy : ∀ j, j < n → by_ (y j)) (hT : MT v y n p) (m : Int32) (h13 : v 13 = 0) (hu : nuP y n p m) : MI (S := (Nat → Int32)) l yX6_number wsX6_number rmX6_number dC dI ct eT [.ref (a 0), .int 0, .int m] (oM a v :: [ai ct (a 5) 120 y]) (fun u => oM a u :: [ai ct (a 5) 120 y]) (fun r u => r = tV y n p ∧ MT u y n (tE y n p) ∧ Fm u v) := by
  refine MI.of (cc := cX6_number) (maxL := 4) (ret := (some .int)) (by decide) rfl (Nat.le_of_ble_eq_true rfl) ?_
  intro pg en z mi below meth cd A F hr hlk hin hK hP hD hA hS hE ls hl
  have F : CallFix pg mi cd cX6_number 4 z _ wsX6_number RX6 := F
  have hl : lv_has ls 4 [(0, .ref (a 0)), (1, .int 0), (2, .int m)] := hl
  obtain ⟨q0, hq0, eq0⟩ := tV_n hp hu.1
  have e12 : v 12 = tV y n p := hT.2.2.2.trans (if_pos hu.1)
  have e11 : v 11 = 2 := hT.2.2.1.trans (by rw [hu.1]; rfl)
  refine lv_aload_n F.1 F.2.1 dX6_number_0 rfl (lv_at hl 0 rfl) ?_
  refine gf F hK hP 0 rfl rfl hiX6_number_6 12 (by decide) (List.mem_of_getElem? (i := 1) rfl) rfl dX6_number_1 ?_
  refine tp (y := tV y n p) e12 ?_
  refine lv_istore_n (lv' := [(3, .int (tV y n p)), (0, .ref (a 0)), (1, .int 0), (2, .int m)]) F.1 F.2.1 dX6_number_4 rfl hl (by decide) rfl (fun ls hl => ?_)
  refine lv_aload_n F.1 F.2.1 dX6_number_5 rfl (lv_at hl 1 rfl) ?_
  refine lv_aload_n F.1 F.2.1 dX6_number_6 rfl (lv_at hl 1 rfl) ?_
  refine gf F hK hP 0 rfl rfl hiX6_number_6 11 (by decide) (List.mem_of_getElem? (i := 2) rfl) rfl dX6_number_7 ?_
  refine tp (y := 2) e11 ?_
  refine lv_iconst (v := 2) F.1 F.2.1 dX6_number_10 (by decide) ?_
  refine lv_icmp_ne (tgt := 27) F.1 F.2.1 dX6_number_11 (by decide) (fun c_11 => ?_) (fun c_11 => ?_)
  · exact absurd rfl c_11
  · refine lv_iload_n F.1 F.2.1 dX6_number_14 rfl (lv_at hl 0 rfl) ?_
    refine lv_iload_n F.1 F.2.1 dX6_number_15 rfl (lv_at hl 2 rfl) ?_
    refine lv_iload_n F.1 F.2.1 dX6_number_16 rfl (lv_at hl 3 rfl) ?_
    refine iS (rest := [.ref (a 0)]) (wsp := fun _ => oM a v :: [ai ct (a 5) 120 y]) F (kX6_within l dC dI ct (tV y n p) 0 m) gX6_number_X6_within rfl ⟨rfl, rfl⟩ nmX6_within ⟨Nat.le_of_ble_eq_true rfl, Nat.le_of_ble_eq_true rfl⟩ eT_b (fun _ _ _ => trivial) hK hP hD hS hA [] (by decide) rfl rfl rfl hl.1 (Nat.le_of_ble_eq_true rfl) dX6_number_17 ⟨Nat.zero_le _, Nat.zero_le _⟩ (fun _ => rfl) (fun _ => rfl) [a 0, a 5] rfl (fun _ => rfl) (fun r_17 u_17 H locs e_17 hP hD hS => ?_)
    obtain rfl := e_17
    refine lv_if_eq (tgt := 27) F.1 F.2.1 dX6_number_20 (by decide) (fun c_20 => ?_) (fun c_20 => ?_)
    · exact absurd c_20 (by rw [if_pos ⟨by rw [eq0]; exact nI_pos' (by omega), hu.2⟩]; decide)
    · have c_20 : 0 ≤ (tV y n p) ∧ (tV y n p) ≤ m := b01t rfl c_20
      refine lv_iconst (v := 1) F.1 F.2.1 dX6_number_23 (by decide) ?_
      refine lv_goto (tgt := 28) F.1 F.2.1 dX6_number_24 (by decide) ?_
      refine vV (rest := []) (wsp := fun u_28 => oM a u_28 :: [ai ct (a 5) 120 y]) F (kX6_mustY l dC dI ct a v y n p h8 hn (by omega) hy hT h13) gX6_number_X6_must rfl ⟨rfl, rfl⟩ nmX6_must ⟨Nat.le_of_ble_eq_true rfl, Nat.le_of_ble_eq_true rfl⟩ eT_b (fun _ _ _ => trivial) hK hP hD hS hA 0 rfl rfl rfl [0, 1] (by decide) rfl rfl rfl hl.1 (Nat.le_of_ble_eq_true rfl) dX6_number_28 ⟨Nat.zero_le _, Nat.zero_le _⟩ (fun _ => rfl) (fun _ => rfl) [a 0, a 5] rfl (fun _ => rfl) (fun u_28 H locs e_28 hP hD hS => ?_)
      refine lv_iload_n F.1 F.2.1 dX6_number_31 rfl (lv_at hl 0 rfl) ?_
      exact rtI u_28 F hr hlk hP hS rfl (⟨rfl, e_28⟩) dX6_number_32

set_option maxHeartbeats 4000000 in
set_option maxRecDepth 100000 in
theorem kX6_numberN (l : Launch) (dC : Nat → ClassId) (dI : Nat → Nat → Nat) (ct : Nat → ClassId) (a : Nat → Nat) (v y : Nat → Int32) (n : Nat) (p : Nat) (hp : p ≤ n) (hT : MT v y n p) (m : Int32) (hW : ¬ v 13 = 0 ∨ ¬ nuP y n p m) : MI (S := Unit) l yX6_number wsX6_number rmX6_number dC dI ct eT [.ref (a 0), .int 0, .int m] (oM a v :: [ai ct (a 5) 120 y]) (fun _ => oM a (upd v 13 1) :: [ai ct (a 5) 120 y]) (fun r _ => r = v 12) := by
  refine MI.of (cc := cX6_number) (maxL := 4) (ret := (some .int)) (by decide) rfl (Nat.le_of_ble_eq_true rfl) ?_
  intro pg en z mi below meth cd A F hr hlk hin hK hP hD hA hS hE ls hl
  have F : CallFix pg mi cd cX6_number 4 z _ wsX6_number RX6 := F
  have hl : lv_has ls 4 [(0, .ref (a 0)), (1, .int 0), (2, .int m)] := hl
  have htk := tK_le y n p
  refine lv_aload_n F.1 F.2.1 dX6_number_0 rfl (lv_at hl 0 rfl) ?_
  refine gf F hK hP 0 rfl rfl hiX6_number_6 12 (by decide) (List.mem_of_getElem? (i := 1) rfl) rfl dX6_number_1 ?_
  refine lv_istore_n (lv' := [(3, .int (v 12)), (0, .ref (a 0)), (1, .int 0), (2, .int m)]) F.1 F.2.1 dX6_number_4 rfl hl (by decide) rfl (fun ls hl => ?_)
  refine lv_aload_n F.1 F.2.1 dX6_number_5 rfl (lv_at hl 1 rfl) ?_
  refine lv_aload_n F.1 F.2.1 dX6_number_6 rfl (lv_at hl 1 rfl) ?_
  refine gf F hK hP 0 rfl rfl hiX6_number_6 11 (by decide) (List.mem_of_getElem? (i := 2) rfl) rfl dX6_number_7 ?_
  refine tp (y := nI (min (tK y n p) 3)) hT.2.2.1 ?_
  refine lv_iconst (v := 2) F.1 F.2.1 dX6_number_10 (by decide) ?_
  refine lv_icmp_ne (tgt := 27) F.1 F.2.1 dX6_number_11 (by decide) (fun c_11 => ?_) (fun c_11 => ?_)
  · refine lv_iconst (v := 0) F.1 F.2.1 dX6_number_27 (by decide) ?_
    refine vV (rest := []) (wsp := fun _ => oM a (upd v 13 1) :: [ai ct (a 5) 120 y]) F (kX6_mustN l dC dI ct a v 0 (Or.inr rfl)) gX6_number_X6_must rfl ⟨rfl, rfl⟩ nmX6_must ⟨Nat.le_of_ble_eq_true rfl, Nat.le_of_ble_eq_true rfl⟩ eT_b (fun _ _ _ => trivial) hK hP hD hS hA 0 rfl rfl rfl [0] (by decide) rfl rfl rfl hl.1 (Nat.le_of_ble_eq_true rfl) dX6_number_28 ⟨Nat.zero_le _, Nat.zero_le _⟩ (fun _ => rfl) (fun _ => rfl) [a 0, a 5] rfl (fun _ => rfl) (fun u_28 H locs e_28 hP hD hS => ?_)
    refine lv_iload_n F.1 F.2.1 dX6_number_31 rfl (lv_at hl 0 rfl) ?_
    exact rtI () F hr hlk hP hS rfl rfl dX6_number_32
  · have ek : tK y n p = 2 := by have q := nI_of_eq (b := 2) c_11 (by omega) (by omega); omega
    refine lv_iload_n F.1 F.2.1 dX6_number_14 rfl (lv_at hl 0 rfl) ?_
    refine lv_iload_n F.1 F.2.1 dX6_number_15 rfl (lv_at hl 2 rfl) ?_
    refine lv_iload_n F.1 F.2.1 dX6_number_16 rfl (lv_at hl 3 rfl) ?_
    refine iS (rest := [.ref (a 0)]) (wsp := fun _ => oM a v :: [ai ct (a 5) 120 y]) F (kX6_within l dC dI ct (v 12) 0 m) gX6_number_X6_within rfl ⟨rfl, rfl⟩ nmX6_within ⟨Nat.le_of_ble_eq_true rfl, Nat.le_of_ble_eq_true rfl⟩ eT_b (fun _ _ _ => trivial) hK hP hD hS hA [] (by decide) rfl rfl rfl hl.1 (Nat.le_of_ble_eq_true rfl) dX6_number_17 ⟨Nat.zero_le _, Nat.zero_le _⟩ (fun _ => rfl) (fun _ => rfl) [a 0, a 5] rfl (fun _ => rfl) (fun r_17 u_17 H locs e_17 hP hD hS => ?_)
    obtain rfl := e_17
    refine lv_if_eq (tgt := 27) F.1 F.2.1 dX6_number_20 (by decide) (fun c_20 => ?_) (fun c_20 => ?_)
    · have c_20 : ¬ (0 ≤ (v 12) ∧ (v 12) ≤ m) := b01f rfl c_20
      refine lv_iconst (v := 0) F.1 F.2.1 dX6_number_27 (by decide) ?_
      refine vV (rest := []) (wsp := fun _ => oM a (upd v 13 1) :: [ai ct (a 5) 120 y]) F (kX6_mustN l dC dI ct a v 0 (Or.inr rfl)) gX6_number_X6_must rfl ⟨rfl, rfl⟩ nmX6_must ⟨Nat.le_of_ble_eq_true rfl, Nat.le_of_ble_eq_true rfl⟩ eT_b (fun _ _ _ => trivial) hK hP hD hS hA 0 rfl rfl rfl [0] (by decide) rfl rfl rfl hl.1 (Nat.le_of_ble_eq_true rfl) dX6_number_28 ⟨Nat.zero_le _, Nat.zero_le _⟩ (fun _ => rfl) (fun _ => rfl) [a 0, a 5] rfl (fun _ => rfl) (fun u_28 H locs e_28 hP hD hS => ?_)
      refine lv_iload_n F.1 F.2.1 dX6_number_31 rfl (lv_at hl 0 rfl) ?_
      exact rtI () F hr hlk hP hS rfl rfl dX6_number_32
    · have c_20 : 0 ≤ (v 12) ∧ (v 12) ≤ m := b01t rfl c_20
      refine lv_iconst (v := 1) F.1 F.2.1 dX6_number_23 (by decide) ?_
      refine lv_goto (tgt := 28) F.1 F.2.1 dX6_number_24 (by decide) ?_
      refine vV (rest := []) (wsp := fun _ => oM a (upd v 13 1) :: [ai ct (a 5) 120 y]) F (kX6_mustN l dC dI ct a v 1 (Or.inl (hW.resolve_right (fun q => q ⟨ek, by have z := hT.2.2.2.trans (if_pos ek); rw [← z]; exact c_20.2⟩)))) gX6_number_X6_must rfl ⟨rfl, rfl⟩ nmX6_must ⟨Nat.le_of_ble_eq_true rfl, Nat.le_of_ble_eq_true rfl⟩ eT_b (fun _ _ _ => trivial) hK hP hD hS hA 0 rfl rfl rfl [0] (by decide) rfl rfl rfl hl.1 (Nat.le_of_ble_eq_true rfl) dX6_number_28 ⟨Nat.zero_le _, Nat.zero_le _⟩ (fun _ => rfl) (fun _ => rfl) [a 0, a 5] rfl (fun _ => rfl) (fun u_28 H locs e_28 hP hD hS => ?_)
      refine lv_iload_n F.1 F.2.1 dX6_number_31 rfl (lv_at hl 0 rfl) ?_
      exact rtI () F hr hlk hP hS rfl rfl dX6_number_32

def rmX6_row : Room := { frames := 0, cells := 0, slots := 0, locals := 0 }
theorem nmX6_row : NmV yX6_row RX6 2 := by unfold NmV; decide +kernel
theorem hiX6_row_6 : ∀ w ∈ u_ws RX6 TX6 22, w ∈ wsX6_row := by decide +kernel
set_option maxHeartbeats 4000000 in
set_option maxRecDepth 100000 in
theorem kX6_row (l : Launch) (dC : Nat → ClassId) (dI : Nat → Nat → Nat) (ct : Nat → ClassId) (a : Nat → Nat) (v it : Nat → Int32) (m : Nat) (w x : Int32) (h16 : v 16 = nI m) (hm : m < 239) : MV (S := Unit) l yX6_row wsX6_row rmX6_row dC dI ct eT [.ref (a 0), .int w, .int x] (oM a v :: [ai ct (a 7) 480 it]) (fun _ => oM a (upd v 16 (nI (m + 1))) :: [ai ct (a 7) 480 (upd (upd it (2 * m) w) (2 * m + 1) x)]) (fun _ => True) := by
  refine MV.of (cc := cX6_row) (maxL := 3) (ret := none) (by decide) rfl (Nat.le_of_ble_eq_true rfl) ?_
  intro pg en z mi below meth cd A F hr hlk hin hK hP hD hA hS hE ls hl
  have F : CallFix pg mi cd cX6_row 3 z _ wsX6_row RX6 := F
  have hl : lv_has ls 3 [(0, .ref (a 0)), (1, .int w), (2, .int x)] := hl
  refine lv_aload_n F.1 F.2.1 dX6_row_0 rfl (lv_at hl 0 rfl) ?_
  refine gf F hK hP 0 rfl rfl hiX6_row_6 15 (by decide) (List.mem_of_getElem? (i := 1) rfl) rfl dX6_row_1 ?_
  refine lv_iconst (v := 2) F.1 F.2.1 dX6_row_4 (by decide) ?_
  refine lv_aload_n F.1 F.2.1 dX6_row_5 rfl (lv_at hl 0 rfl) ?_
  refine gf F hK hP 0 rfl rfl hiX6_row_6 16 (by decide) (List.mem_of_getElem? (i := 2) rfl) rfl dX6_row_6 ?_
  refine tp (y := nI m) h16 ?_
  refine lv_imul F.1 F.2.1 dX6_row_9 ?_
  refine tp (y := nI (2 * m)) (ml2 (a := 2) (b := m) (c := 2 * m) rfl rfl rfl) ?_
  refine lv_iload_n F.1 F.2.1 dX6_row_10 rfl (lv_at hl 1 rfl) ?_
  refine ast (ws' := oM a v :: [ai ct (a 7) 480 (upd it (2 * m) w)]) F hK hP hD hS 1 0 rfl rfl (2 * m) rfl (by omega) (by decide) dX6_row_11 (weq.rf _) (fun H locs hP hD hS => ?_)
  refine lv_aload_n F.1 F.2.1 dX6_row_12 rfl (lv_at hl 0 rfl) ?_
  refine gf F hK hP 0 rfl rfl hiX6_row_6 15 (by decide) (List.mem_of_getElem? (i := 1) rfl) rfl dX6_row_13 ?_
  refine lv_iconst (v := 2) F.1 F.2.1 dX6_row_16 (by decide) ?_
  refine lv_aload_n F.1 F.2.1 dX6_row_17 rfl (lv_at hl 0 rfl) ?_
  refine gf F hK hP 0 rfl rfl hiX6_row_6 16 (by decide) (List.mem_of_getElem? (i := 2) rfl) rfl dX6_row_18 ?_
  refine tp (y := nI m) h16 ?_
  refine lv_imul F.1 F.2.1 dX6_row_21 ?_
  refine tp (y := nI (2 * m)) (ml2 (a := 2) (b := m) (c := 2 * m) rfl rfl rfl) ?_
  refine lv_iconst (v := 1) F.1 F.2.1 dX6_row_22 (by decide) ?_
  refine lv_iadd F.1 F.2.1 dX6_row_23 ?_
  refine tp (y := nI (2 * m + 1)) (ad2 (a := 2 * m) (b := 1) (c := 2 * m + 1) rfl rfl rfl) ?_
  refine lv_iload_n F.1 F.2.1 dX6_row_24 rfl (lv_at hl 2 rfl) ?_
  refine ast (ws' := oM a v :: [ai ct (a 7) 480 (upd (upd it (2 * m) w) (2 * m + 1) x)]) F hK hP hD hS 1 0 rfl rfl (2 * m + 1) rfl (by omega) (by decide) dX6_row_25 (weq.rf _) (fun H locs hP hD hS => ?_)
  refine lv_aload_n F.1 F.2.1 dX6_row_26 rfl (lv_at hl 0 rfl) ?_
  refine lv_dup F.1 F.2.1 dX6_row_27 rfl ?_
  refine gf F hK hP 0 rfl rfl hiX6_row_6 16 (by decide) (List.mem_of_getElem? (i := 2) rfl) rfl dX6_row_28 ?_
  refine tp (y := nI m) h16 ?_
  refine lv_iconst (v := 1) F.1 F.2.1 dX6_row_31 (by decide) ?_
  refine lv_iadd F.1 F.2.1 dX6_row_32 ?_
  refine tp (y := nI (m + 1)) (ad2 (a := m) (b := 1) (c := m + 1) rfl rfl rfl) ?_
  refine pf (ws' := oM a (upd v 16 (nI (m + 1))) :: [ai ct (a 7) 480 (upd (upd it (2 * m) w) (2 * m + 1) x)]) F hK hP hD hS 0 rfl rfl hiX6_row_6 tyX6 tyX6_ok nmX6 16 (by decide) (List.mem_of_getElem? (i := 2) rfl) rfl rfl rfl (Nat.le_of_ble_eq_true rfl) dX6_row_33 (weq.rf _) (fun H locs hP hD hS => ?_)
  exact rtV () F hr hlk hP hS rfl trivial dX6_row_36

def rmX6_isNext : Room := { frames := 5, cells := 0, slots := 0, locals := 108 }
theorem nmX6_isNext : NmV yX6_isNext RX6 1 := by unfold NmV; decide +kernel
theorem hiX6_isNext_6 : ∀ w ∈ u_ws RX6 TX6 22, w ∈ wsX6_isNext := by decide +kernel
set_option maxHeartbeats 4000000 in
set_option maxRecDepth 100000 in
theorem kX6_isNextY (l : Launch) (dC : Nat → ClassId) (dI : Nat → Nat → Nat) (ct : Nat → ClassId) (K : Nat → Nat) (rf : List (String × Nat × String × Nat)) (a : Nat → Nat) (v y : Nat → Int32) (n : Nat) (p : Nat) (h8 : v 8 = nI n) (hn : n ≤ 120) (hp : p ≤ n) (hy : ∀ j, j < n → by_ (y j)) (hT : MT v y n p) (i : Nat) (hi : i < 14) (h13 : v 13 = 0) : MI (S := (Nat → Int32)) l yX6_isNext wsX6_isNext rmX6_isNext dC dI ct (EQ K ct rf [a 0, a 5]) [.ref (a 0), .ref (kS K i)] (oM a v :: [ai ct (a 5) 120 y]) (fun u => oM a u :: [ai ct (a 5) 120 y]) (fun r u => (r = if isW y n p i then 1 else 0) ∧ (isW y n p i → MT u y n (tE y n p) ∧ Fm u v) ∧ (¬ isW y n p i → u = v)) := by
  refine MI.ofz (cc := cX6_isNext) (maxL := 3) (ret := (some .boolean)) (by decide) rfl (Nat.le_of_ble_eq_true rfl) ?_
  intro pg en z mi below meth cd A F hr hlk hin hK hP hD hA hS hAz hE ls hl
  have hz := EQ_z (pre := oM a v :: [ai ct (a 5) 120 y]) (show EQ K ct rf (List.map Prod.fst (oM a v :: [ai ct (a 5) 120 y])) z from hE) hAz
  have F : CallFix pg mi cd cX6_isNext 3 z _ wsX6_isNext RX6 := F
  have hl : lv_has ls 3 [(0, .ref (a 0)), (1, .ref (kS K i))] := hl
  refine lv_aload_n F.1 F.2.1 dX6_isNext_0 rfl (lv_at hl 0 rfl) ?_
  refine gf F hK hP 0 rfl rfl hiX6_isNext_6 13 (by decide) (List.mem_of_getElem? (i := 1) rfl) rfl dX6_isNext_1 ?_
  refine tp (y := 0) h13 ?_
  refine lv_if_ne (tgt := 19) F.1 F.2.1 dX6_isNext_4 (by decide) (fun c_4 => ?_) (fun c_4 => ?_)
  · exact absurd rfl c_4
  · refine lv_aload_n F.1 F.2.1 dX6_isNext_7 rfl (lv_at hl 0 rfl) ?_
    refine lv_aload_n F.1 F.2.1 dX6_isNext_8 rfl (lv_at hl 1 rfl) ?_
    refine iV (rest := []) (wsp := fun _ => oM a v :: [ai ct (a 5) 120 y]) F (kX6_isWord l dC dI ct K rf a v y n p i hn (by omega) hT hi) gX6_isNext_X6_isWord rfl ⟨rfl, rfl⟩ nmX6_isWord ⟨Nat.le_of_ble_eq_true rfl, Nat.le_of_ble_eq_true rfl⟩ EQ_b (EQ_call hE hS hz [0, 1] rfl) hK hP hD hS hA 0 rfl rfl rfl [0, 1] (by decide) rfl rfl rfl hl.1 (Nat.le_of_ble_eq_true rfl) dX6_isNext_9 ⟨Nat.zero_le _, Nat.zero_le _⟩ (fun _ => rfl) (fun _ => rfl) [a 0, a 5] rfl (fun _ => rfl) (fun r_9 u_9 H locs e_9 hP hD hS => ?_)
    obtain rfl := e_9
    refine lv_if_eq (tgt := 19) F.1 F.2.1 dX6_isNext_12 (by decide) (fun c_12 => ?_) (fun c_12 => ?_)
    · have c_12 : ¬ (isW y n p i) := b01f rfl c_12
      refine lv_iconst (v := 0) F.1 F.2.1 dX6_isNext_19 (by decide) ?_
      refine lv_istore_n (lv' := [(2, .int 0), (0, .ref (a 0)), (1, .ref (kS K i))]) F.1 F.2.1 dX6_isNext_20 rfl hl (by decide) rfl (fun ls hl => ?_)
      refine lv_iload_n F.1 F.2.1 dX6_isNext_21 rfl (lv_at hl 0 rfl) ?_
      refine lv_if_eq (tgt := 30) F.1 F.2.1 dX6_isNext_22 (by decide) (fun c_22 => ?_) (fun c_22 => ?_)
      · refine lv_iload_n F.1 F.2.1 dX6_isNext_30 rfl (lv_at hl 0 rfl) ?_
        exact rtZ v F hr hlk hP hS rfl (⟨(if_neg c_12).symm, fun q => absurd q c_12, fun _ => rfl⟩) (Or.inl rfl) dX6_isNext_31
      · exact absurd rfl c_22
    · have c_12 : isW y n p i := b01t rfl c_12
      refine lv_iconst (v := 1) F.1 F.2.1 dX6_isNext_15 (by decide) ?_
      refine lv_goto (tgt := 20) F.1 F.2.1 dX6_isNext_16 (by decide) ?_
      refine lv_istore_n (lv' := [(2, .int 1), (0, .ref (a 0)), (1, .ref (kS K i))]) F.1 F.2.1 dX6_isNext_20 rfl hl (by decide) rfl (fun ls hl => ?_)
      refine lv_iload_n F.1 F.2.1 dX6_isNext_21 rfl (lv_at hl 0 rfl) ?_
      refine lv_if_eq (tgt := 30) F.1 F.2.1 dX6_isNext_22 (by decide) (fun c_22 => ?_) (fun c_22 => ?_)
      · exact absurd c_22 (by decide)
      · refine lv_aload_n F.1 F.2.1 dX6_isNext_25 rfl (lv_at hl 1 rfl) ?_
        refine lv_iconst (v := 1) F.1 F.2.1 dX6_isNext_26 (by decide) ?_
        refine vV (rest := []) (wsp := fun u_27 => oM a u_27 :: [ai ct (a 5) 120 y]) F (kX6_mustY l dC dI ct a v y n p h8 hn (by omega) hy hT h13) gX6_isNext_X6_must rfl ⟨rfl, rfl⟩ nmX6_must ⟨Nat.le_of_ble_eq_true rfl, Nat.le_of_ble_eq_true rfl⟩ eT_b (fun _ _ _ => trivial) hK hP hD hS hA 0 rfl rfl rfl [0, 1] (by decide) rfl rfl rfl hl.1 (Nat.le_of_ble_eq_true rfl) dX6_isNext_27 ⟨Nat.zero_le _, Nat.zero_le _⟩ (fun _ => rfl) (fun _ => rfl) [a 0, a 5] rfl (fun _ => rfl) (fun u_27 H locs e_27 hP hD hS => ?_)
        refine lv_iload_n F.1 F.2.1 dX6_isNext_30 rfl (lv_at hl 0 rfl) ?_
        exact rtZ u_27 F hr hlk hP hS rfl (⟨(if_pos c_12).symm, fun _ => e_27, fun q => absurd c_12 q⟩) (Or.inr rfl) dX6_isNext_31

set_option maxHeartbeats 4000000 in
set_option maxRecDepth 100000 in
theorem kX6_isNextN (l : Launch) (dC : Nat → ClassId) (dI : Nat → Nat → Nat) (ct : Nat → ClassId) (a : Nat → Nat) (v : Nat → Int32) (w : Nat) (h13 : ¬ v 13 = 0) : MI (S := Unit) l yX6_isNext wsX6_isNext rmX6_isNext dC dI ct eT [.ref (a 0), .ref w] ([oM a v]) (fun _ => [oM a v]) (fun r _ => r = 0) := by
  refine MI.of (cc := cX6_isNext) (maxL := 3) (ret := (some .boolean)) (by decide) rfl (Nat.le_of_ble_eq_true rfl) ?_
  intro pg en z mi below meth cd A F hr hlk hin hK hP hD hA hS hE ls hl
  have F : CallFix pg mi cd cX6_isNext 3 z _ wsX6_isNext RX6 := F
  have hl : lv_has ls 3 [(0, .ref (a 0)), (1, .ref w)] := hl
  refine lv_aload_n F.1 F.2.1 dX6_isNext_0 rfl (lv_at hl 0 rfl) ?_
  refine gf F hK hP 0 rfl rfl hiX6_isNext_6 13 (by decide) (List.mem_of_getElem? (i := 1) rfl) rfl dX6_isNext_1 ?_
  refine lv_if_ne (tgt := 19) F.1 F.2.1 dX6_isNext_4 (by decide) (fun c_4 => ?_) (fun c_4 => ?_)
  · refine lv_iconst (v := 0) F.1 F.2.1 dX6_isNext_19 (by decide) ?_
    refine lv_istore_n (lv' := [(2, .int 0), (0, .ref (a 0)), (1, .ref w)]) F.1 F.2.1 dX6_isNext_20 rfl hl (by decide) rfl (fun ls hl => ?_)
    refine lv_iload_n F.1 F.2.1 dX6_isNext_21 rfl (lv_at hl 0 rfl) ?_
    refine lv_if_eq (tgt := 30) F.1 F.2.1 dX6_isNext_22 (by decide) (fun c_22 => ?_) (fun c_22 => ?_)
    · refine lv_iload_n F.1 F.2.1 dX6_isNext_30 rfl (lv_at hl 0 rfl) ?_
      exact rtZ () F hr hlk hP hS rfl rfl (Or.inl rfl) dX6_isNext_31
    · exact absurd rfl c_22
  · exact absurd c_4 h13
