def rmX6_within : Room := { frames := 0, cells := 0, slots := 0, locals := 0 }
theorem nmX6_within : NmV yX6_within RX6 3 := by unfold NmV; decide +kernel
set_option maxHeartbeats 4000000 in
set_option maxRecDepth 100000 in
theorem kX6_within (l : Launch) (dC : Nat → ClassId) (dI : Nat → Nat → Nat) (ct : Nat → ClassId) (x lo hi : Int32) : MI (S := Unit) l yX6_within wsX6_within rmX6_within dC dI ct eT [.int x, .int lo, .int hi] ([] : va_W) (fun _ => ([] : va_W)) (fun r _ => r = if lo ≤ x ∧ x ≤ hi then 1 else 0) := by
  refine MI.of (cc := cX6_within) (maxL := 3) (ret := (some .boolean)) (by decide) rfl (Nat.le_of_ble_eq_true rfl) ?_
  intro pg en z mi below meth cd A F hr hlk hin hK hP hD hA hS hE ls hl
  have F : CallFix pg mi cd cX6_within 3 z _ wsX6_within RX6 := F
  have hl : lv_has ls 3 [(0, .int x), (1, .int lo), (2, .int hi)] := hl
  refine lv_iload_n F.1 F.2.1 dX6_within_0 rfl (lv_at hl 0 rfl) ?_
  refine lv_iload_n F.1 F.2.1 dX6_within_1 rfl (lv_at hl 1 rfl) ?_
  refine lv_icmp_lt (tgt := 14) F.1 F.2.1 dX6_within_2 (by decide) (fun c_2 => ?_) (fun c_2 => ?_)
  · refine lv_iconst (v := 0) F.1 F.2.1 dX6_within_14 (by decide) ?_
    exact rtZ () F hr hlk hP hS rfl (by simp [c_2, Int32.not_le.mpr c_2]) (Or.inl rfl) dX6_within_15
  · refine lv_iload_n F.1 F.2.1 dX6_within_5 rfl (lv_at hl 0 rfl) ?_
    refine lv_iload_n F.1 F.2.1 dX6_within_6 rfl (lv_at hl 2 rfl) ?_
    refine lv_icmp_gt (tgt := 14) F.1 F.2.1 dX6_within_7 (by decide) (fun c_7 => ?_) (fun c_7 => ?_)
    · refine lv_iconst (v := 0) F.1 F.2.1 dX6_within_14 (by decide) ?_
      exact rtZ () F hr hlk hP hS rfl (by simp [c_2, c_7, Int32.not_lt.mp c_2, Int32.not_le.mpr c_7]) (Or.inl rfl) dX6_within_15
    · refine lv_iconst (v := 1) F.1 F.2.1 dX6_within_10 (by decide) ?_
      refine lv_goto (tgt := 15) F.1 F.2.1 dX6_within_11 (by decide) ?_
      exact rtZ () F hr hlk hP hS rfl (by simp [c_2, c_7, Int32.not_lt.mp c_2, Int32.not_lt.mp c_7]) (Or.inr rfl) dX6_within_15

def rmX6_isThing : Room := { frames := 1, cells := 0, slots := 0, locals := 22 }
theorem nmX6_isThing : NmV yX6_isThing RX6 1 := by unfold NmV; decide +kernel
set_option maxHeartbeats 4000000 in
set_option maxRecDepth 100000 in
theorem kX6_isThing (l : Launch) (dC : Nat → ClassId) (dI : Nat → Nat → Nat) (ct : Nat → ClassId) (t : Int32) : MI (S := Unit) l yX6_isThing wsX6_isThing rmX6_isThing dC dI ct eT [.int t] ([] : va_W) (fun _ => ([] : va_W)) (fun r _ => r = if 0 ≤ t ∧ t ≤ 4 then 1 else 0) := by
  refine MI.of (cc := cX6_isThing) (maxL := 1) (ret := (some .boolean)) (by decide) rfl (Nat.le_of_ble_eq_true rfl) ?_
  intro pg en z mi below meth cd A F hr hlk hin hK hP hD hA hS hE ls hl
  have F : CallFix pg mi cd cX6_isThing 1 z _ wsX6_isThing RX6 := F
  have hl : lv_has ls 1 [(0, .int t)] := hl
  refine lv_iload_n F.1 F.2.1 dX6_isThing_0 rfl (lv_at hl 0 rfl) ?_
  refine lv_iconst (v := 0) F.1 F.2.1 dX6_isThing_1 (by decide) ?_
  refine lv_iconst (v := 4) F.1 F.2.1 dX6_isThing_2 (by decide) ?_
  refine iS (rest := []) (wsp := fun _ => ([] : va_W)) F (kX6_within l dC dI ct t 0 4) gX6_isThing_X6_within rfl ⟨rfl, rfl⟩ nmX6_within ⟨Nat.le_of_ble_eq_true rfl, Nat.le_of_ble_eq_true rfl⟩ eT_b (fun _ _ _ => trivial) hK hP hD hS hA [] (by decide) rfl rfl rfl hl.1 (Nat.le_of_ble_eq_true rfl) dX6_isThing_3 ⟨Nat.zero_le _, Nat.zero_le _⟩ (fun _ => rfl) (fun _ => rfl) [] rfl (fun _ => rfl) (fun r_3 u_3 H locs e_3 hP hD hS => ?_)
  obtain rfl := e_3
  exact rtZ () F hr hlk hP hS rfl rfl (b01 _) dX6_isThing_6

def rmX6_isSide : Room := { frames := 1, cells := 0, slots := 0, locals := 22 }
theorem nmX6_isSide : NmV yX6_isSide RX6 1 := by unfold NmV; decide +kernel
set_option maxHeartbeats 4000000 in
set_option maxRecDepth 100000 in
theorem kX6_isSide (l : Launch) (dC : Nat → ClassId) (dI : Nat → Nat → Nat) (ct : Nat → ClassId) (t : Int32) : MI (S := Unit) l yX6_isSide wsX6_isSide rmX6_isSide dC dI ct eT [.int t] ([] : va_W) (fun _ => ([] : va_W)) (fun r _ => r = if 0 ≤ t ∧ t ≤ 1 then 1 else 0) := by
  refine MI.of (cc := cX6_isSide) (maxL := 1) (ret := (some .boolean)) (by decide) rfl (Nat.le_of_ble_eq_true rfl) ?_
  intro pg en z mi below meth cd A F hr hlk hin hK hP hD hA hS hE ls hl
  have F : CallFix pg mi cd cX6_isSide 1 z _ wsX6_isSide RX6 := F
  have hl : lv_has ls 1 [(0, .int t)] := hl
  refine lv_iload_n F.1 F.2.1 dX6_isSide_0 rfl (lv_at hl 0 rfl) ?_
  refine lv_iconst (v := 0) F.1 F.2.1 dX6_isSide_1 (by decide) ?_
  refine lv_iconst (v := 1) F.1 F.2.1 dX6_isSide_2 (by decide) ?_
  refine iS (rest := []) (wsp := fun _ => ([] : va_W)) F (kX6_within l dC dI ct t 0 1) gX6_isSide_X6_within rfl ⟨rfl, rfl⟩ nmX6_within ⟨Nat.le_of_ble_eq_true rfl, Nat.le_of_ble_eq_true rfl⟩ eT_b (fun _ _ _ => trivial) hK hP hD hS hA [] (by decide) rfl rfl rfl hl.1 (Nat.le_of_ble_eq_true rfl) dX6_isSide_3 ⟨Nat.zero_le _, Nat.zero_le _⟩ (fun _ => rfl) (fun _ => rfl) [] rfl (fun _ => rfl) (fun r_3 u_3 H locs e_3 hP hD hS => ?_)
  obtain rfl := e_3
  exact rtZ () F hr hlk hP hS rfl rfl (b01 _) dX6_isSide_6

def rmX6_isKind : Room := { frames := 1, cells := 0, slots := 0, locals := 22 }
theorem nmX6_isKind : NmV yX6_isKind RX6 1 := by unfold NmV; decide +kernel
set_option maxHeartbeats 4000000 in
set_option maxRecDepth 100000 in
theorem kX6_isKind (l : Launch) (dC : Nat → ClassId) (dI : Nat → Nat → Nat) (ct : Nat → ClassId) (t : Int32) : MI (S := Unit) l yX6_isKind wsX6_isKind rmX6_isKind dC dI ct eT [.int t] ([] : va_W) (fun _ => ([] : va_W)) (fun r _ => r = if 0 ≤ t ∧ t ≤ 6 then 1 else 0) := by
  refine MI.of (cc := cX6_isKind) (maxL := 1) (ret := (some .boolean)) (by decide) rfl (Nat.le_of_ble_eq_true rfl) ?_
  intro pg en z mi below meth cd A F hr hlk hin hK hP hD hA hS hE ls hl
  have F : CallFix pg mi cd cX6_isKind 1 z _ wsX6_isKind RX6 := F
  have hl : lv_has ls 1 [(0, .int t)] := hl
  refine lv_iload_n F.1 F.2.1 dX6_isKind_0 rfl (lv_at hl 0 rfl) ?_
  refine lv_iconst (v := 0) F.1 F.2.1 dX6_isKind_1 (by decide) ?_
  refine lv_bipush (v := 6) F.1 F.2.1 dX6_isKind_2 (by decide) ?_
  refine iS (rest := []) (wsp := fun _ => ([] : va_W)) F (kX6_within l dC dI ct t 0 6) gX6_isKind_X6_within rfl ⟨rfl, rfl⟩ nmX6_within ⟨Nat.le_of_ble_eq_true rfl, Nat.le_of_ble_eq_true rfl⟩ eT_b (fun _ _ _ => trivial) hK hP hD hS hA [] (by decide) rfl rfl rfl hl.1 (Nat.le_of_ble_eq_true rfl) dX6_isKind_4 ⟨Nat.zero_le _, Nat.zero_le _⟩ (fun _ => rfl) (fun _ => rfl) [] rfl (fun _ => rfl) (fun r_4 u_4 H locs e_4 hP hD hS => ?_)
  obtain rfl := e_4
  exact rtZ () F hr hlk hP hS rfl rfl (b01 _) dX6_isKind_7

def rmX6_isSpot : Room := { frames := 1, cells := 0, slots := 0, locals := 22 }
theorem nmX6_isSpot : NmV yX6_isSpot RX6 1 := by unfold NmV; decide +kernel
set_option maxHeartbeats 4000000 in
set_option maxRecDepth 100000 in
theorem kX6_isSpot (l : Launch) (dC : Nat → ClassId) (dI : Nat → Nat → Nat) (ct : Nat → ClassId) (t : Int32) : MI (S := Unit) l yX6_isSpot wsX6_isSpot rmX6_isSpot dC dI ct eT [.int t] ([] : va_W) (fun _ => ([] : va_W)) (fun r _ => r = if 0 ≤ t ∧ t ≤ 9 then 1 else 0) := by
  refine MI.of (cc := cX6_isSpot) (maxL := 1) (ret := (some .boolean)) (by decide) rfl (Nat.le_of_ble_eq_true rfl) ?_
  intro pg en z mi below meth cd A F hr hlk hin hK hP hD hA hS hE ls hl
  have F : CallFix pg mi cd cX6_isSpot 1 z _ wsX6_isSpot RX6 := F
  have hl : lv_has ls 1 [(0, .int t)] := hl
  refine lv_iload_n F.1 F.2.1 dX6_isSpot_0 rfl (lv_at hl 0 rfl) ?_
  refine lv_iconst (v := 0) F.1 F.2.1 dX6_isSpot_1 (by decide) ?_
  refine lv_bipush (v := 9) F.1 F.2.1 dX6_isSpot_2 (by decide) ?_
  refine iS (rest := []) (wsp := fun _ => ([] : va_W)) F (kX6_within l dC dI ct t 0 9) gX6_isSpot_X6_within rfl ⟨rfl, rfl⟩ nmX6_within ⟨Nat.le_of_ble_eq_true rfl, Nat.le_of_ble_eq_true rfl⟩ eT_b (fun _ _ _ => trivial) hK hP hD hS hA [] (by decide) rfl rfl rfl hl.1 (Nat.le_of_ble_eq_true rfl) dX6_isSpot_4 ⟨Nat.zero_le _, Nat.zero_le _⟩ (fun _ => rfl) (fun _ => rfl) [] rfl (fun _ => rfl) (fun r_4 u_4 H locs e_4 hP hD hS => ?_)
  obtain rfl := e_4
  exact rtZ () F hr hlk hP hS rfl rfl (b01 _) dX6_isSpot_7

def rmX6_isSheet : Room := { frames := 1, cells := 0, slots := 0, locals := 22 }
theorem nmX6_isSheet : NmV yX6_isSheet RX6 1 := by unfold NmV; decide +kernel
set_option maxHeartbeats 4000000 in
set_option maxRecDepth 100000 in
theorem kX6_isSheet (l : Launch) (dC : Nat → ClassId) (dI : Nat → Nat → Nat) (ct : Nat → ClassId) (t : Int32) : MI (S := Unit) l yX6_isSheet wsX6_isSheet rmX6_isSheet dC dI ct eT [.int t] ([] : va_W) (fun _ => ([] : va_W)) (fun r _ => r = if 0 ≤ t ∧ t ≤ 3 then 1 else 0) := by
  refine MI.of (cc := cX6_isSheet) (maxL := 1) (ret := (some .boolean)) (by decide) rfl (Nat.le_of_ble_eq_true rfl) ?_
  intro pg en z mi below meth cd A F hr hlk hin hK hP hD hA hS hE ls hl
  have F : CallFix pg mi cd cX6_isSheet 1 z _ wsX6_isSheet RX6 := F
  have hl : lv_has ls 1 [(0, .int t)] := hl
  refine lv_iload_n F.1 F.2.1 dX6_isSheet_0 rfl (lv_at hl 0 rfl) ?_
  refine lv_iconst (v := 0) F.1 F.2.1 dX6_isSheet_1 (by decide) ?_
  refine lv_iconst (v := 3) F.1 F.2.1 dX6_isSheet_2 (by decide) ?_
  refine iS (rest := []) (wsp := fun _ => ([] : va_W)) F (kX6_within l dC dI ct t 0 3) gX6_isSheet_X6_within rfl ⟨rfl, rfl⟩ nmX6_within ⟨Nat.le_of_ble_eq_true rfl, Nat.le_of_ble_eq_true rfl⟩ eT_b (fun _ _ _ => trivial) hK hP hD hS hA [] (by decide) rfl rfl rfl hl.1 (Nat.le_of_ble_eq_true rfl) dX6_isSheet_3 ⟨Nat.zero_le _, Nat.zero_le _⟩ (fun _ => rfl) (fun _ => rfl) [] rfl (fun _ => rfl) (fun r_3 u_3 H locs e_3 hP hD hS => ?_)
  obtain rfl := e_3
  exact rtZ () F hr hlk hP hS rfl rfl (b01 _) dX6_isSheet_6

def rmX6_at : Room := { frames := 0, cells := 0, slots := 0, locals := 0 }
theorem nmX6_at : NmV yX6_at RX6 2 := by unfold NmV; decide +kernel
set_option maxHeartbeats 4000000 in
set_option maxRecDepth 100000 in
theorem kX6_at (l : Launch) (dC : Nat → ClassId) (dI : Nat → Nat → Nat) (ct : Nat → ClassId) (s j i : Nat) (hi : 20 + 17 * s + j = i) : MI (S := Unit) l yX6_at wsX6_at rmX6_at dC dI ct eT [.int (nI s), .int (nI j)] ([] : va_W) (fun _ => ([] : va_W)) (fun r _ => r = nI i) := by
  refine MI.of (cc := cX6_at) (maxL := 2) (ret := (some .int)) (by decide) rfl (Nat.le_of_ble_eq_true rfl) ?_
  intro pg en z mi below meth cd A F hr hlk hin hK hP hD hA hS hE ls hl
  have F : CallFix pg mi cd cX6_at 2 z _ wsX6_at RX6 := F
  have hl : lv_has ls 2 [(0, .int (nI s)), (1, .int (nI j))] := hl
  refine lv_bipush (v := 20) F.1 F.2.1 dX6_at_0 (by decide) ?_
  refine lv_bipush (v := 17) F.1 F.2.1 dX6_at_2 (by decide) ?_
  refine lv_iload_n F.1 F.2.1 dX6_at_4 rfl (lv_at hl 0 rfl) ?_
  refine lv_imul F.1 F.2.1 dX6_at_5 ?_
  refine tp (y := nI (17 * s)) (ml2 (a := 17) (b := s) (c := 17 * s) rfl rfl rfl) ?_
  refine lv_iadd F.1 F.2.1 dX6_at_6 ?_
  refine tp (y := nI (20 + 17 * s)) (ad2 (a := 20) (b := 17 * s) (c := 20 + 17 * s) rfl rfl rfl) ?_
  refine lv_iload_n F.1 F.2.1 dX6_at_7 rfl (lv_at hl 1 rfl) ?_
  refine lv_iadd F.1 F.2.1 dX6_at_8 ?_
  refine tp (y := nI (20 + 17 * s + j)) (ad2 (a := 20 + 17 * s) (b := j) (c := 20 + 17 * s + j) rfl rfl rfl) ?_
  exact rtI () F hr hlk hP hS rfl (by rw [hi]) dX6_at_9

def rmX6_sideIs : Room := { frames := 1, cells := 0, slots := 0, locals := 21 }
theorem nmX6_sideIs : NmV yX6_sideIs RX6 2 := by unfold NmV; decide +kernel
theorem hiX6_sideIs_6 : ∀ w ∈ u_ws RX6 TX6 22, w ∈ wsX6_sideIs := by decide +kernel
set_option maxHeartbeats 4000000 in
set_option maxRecDepth 100000 in
theorem kX6_sideIs (l : Launch) (dC : Nat → ClassId) (dI : Nat → Nat → Nat) (ct : Nat → ClassId) (a : Nat → Nat) (v f : Nat → Int32) (s j i : Nat) (hi : 20 + 17 * s + j = i) (hb : i < 210) : MI (S := Unit) l yX6_sideIs wsX6_sideIs rmX6_sideIs dC dI ct eT [.ref (a 0), .int (nI s), .int (nI j)] (oM a v :: [ai ct (a 1) 210 f]) (fun _ => oM a v :: [ai ct (a 1) 210 f]) (fun r _ => r = f i) := by
  refine MI.of (cc := cX6_sideIs) (maxL := 3) (ret := (some .int)) (by decide) rfl (Nat.le_of_ble_eq_true rfl) ?_
  intro pg en z mi below meth cd A F hr hlk hin hK hP hD hA hS hE ls hl
  have F : CallFix pg mi cd cX6_sideIs 3 z _ wsX6_sideIs RX6 := F
  have hl : lv_has ls 3 [(0, .ref (a 0)), (1, .int (nI s)), (2, .int (nI j))] := hl
  refine lv_aload_n F.1 F.2.1 dX6_sideIs_0 rfl (lv_at hl 0 rfl) ?_
  refine gf F hK hP 0 rfl rfl hiX6_sideIs_6 0 (by decide) (List.mem_of_getElem? (i := 1) rfl) rfl dX6_sideIs_1 ?_
  refine lv_iload_n F.1 F.2.1 dX6_sideIs_4 rfl (lv_at hl 1 rfl) ?_
  refine lv_iload_n F.1 F.2.1 dX6_sideIs_5 rfl (lv_at hl 2 rfl) ?_
  refine iS (rest := [.ref (a 1)]) (wsp := fun _ => oM a v :: [ai ct (a 1) 210 f]) F (kX6_at l dC dI ct s j i hi) gX6_sideIs_X6_at rfl ⟨rfl, rfl⟩ nmX6_at ⟨Nat.le_of_ble_eq_true rfl, Nat.le_of_ble_eq_true rfl⟩ eT_b (fun _ _ _ => trivial) hK hP hD hS hA [] (by decide) rfl rfl rfl hl.1 (Nat.le_of_ble_eq_true rfl) dX6_sideIs_6 ⟨Nat.zero_le _, Nat.zero_le _⟩ (fun _ => rfl) (fun _ => rfl) [a 0, a 1] rfl (fun _ => rfl) (fun r_6 u_6 H locs e_6 hP hD hS => ?_)
  obtain rfl := e_6
  refine al (v := f i) F hK hP 1 0 rfl rfl i rfl (by omega) (by decide) rfl dX6_sideIs_9 ?_
  exact rtI () F hr hlk hP hS rfl rfl dX6_sideIs_10

def rmX6_become : Room := { frames := 0, cells := 0, slots := 0, locals := 0 }
theorem nmX6_become : NmV yX6_become RX6 2 := by unfold NmV; decide +kernel
theorem hiX6_become_6 : ∀ w ∈ u_ws RX6 TX6 22, w ∈ wsX6_become := by decide +kernel
set_option maxHeartbeats 4000000 in
set_option maxRecDepth 100000 in
theorem kX6_become (l : Launch) (dC : Nat → ClassId) (dI : Nat → Nat → Nat) (ct : Nat → ClassId) (a : Nat → Nat) (v f : Nat → Int32) (i : Nat) (x : Int32) (hb : i < 210) : MI (S := Unit) l yX6_become wsX6_become rmX6_become dC dI ct eT [.ref (a 0), .int (nI i), .int x] (oM a v :: [ai ct (a 1) 210 f]) (fun _ => oM a v :: [ai ct (a 1) 210 (upd f i x)]) (fun r _ => r = f i) := by
  refine MI.of (cc := cX6_become) (maxL := 4) (ret := (some .int)) (by decide) rfl (Nat.le_of_ble_eq_true rfl) ?_
  intro pg en z mi below meth cd A F hr hlk hin hK hP hD hA hS hE ls hl
  have F : CallFix pg mi cd cX6_become 4 z _ wsX6_become RX6 := F
  have hl : lv_has ls 4 [(0, .ref (a 0)), (1, .int (nI i)), (2, .int x)] := hl
  refine lv_aload_n F.1 F.2.1 dX6_become_0 rfl (lv_at hl 0 rfl) ?_
  refine gf F hK hP 0 rfl rfl hiX6_become_6 0 (by decide) (List.mem_of_getElem? (i := 1) rfl) rfl dX6_become_1 ?_
  refine lv_iload_n F.1 F.2.1 dX6_become_4 rfl (lv_at hl 1 rfl) ?_
  refine al (v := f i) F hK hP 1 0 rfl rfl i rfl (by omega) (by decide) rfl dX6_become_5 ?_
  refine lv_istore_n (lv' := [(3, .int (f i)), (0, .ref (a 0)), (1, .int (nI i)), (2, .int x)]) F.1 F.2.1 dX6_become_6 rfl hl (by decide) rfl (fun ls hl => ?_)
  refine lv_aload_n F.1 F.2.1 dX6_become_7 rfl (lv_at hl 1 rfl) ?_
  refine gf F hK hP 0 rfl rfl hiX6_become_6 0 (by decide) (List.mem_of_getElem? (i := 1) rfl) rfl dX6_become_8 ?_
  refine lv_iload_n F.1 F.2.1 dX6_become_11 rfl (lv_at hl 2 rfl) ?_
  refine lv_iload_n F.1 F.2.1 dX6_become_12 rfl (lv_at hl 3 rfl) ?_
  refine ast (ws' := oM a v :: [ai ct (a 1) 210 (upd f i x)]) F hK hP hD hS 1 0 rfl rfl i rfl (by omega) (by decide) dX6_become_13 (weq.rf _) (fun H locs hP hD hS => ?_)
  refine lv_iload_n F.1 F.2.1 dX6_become_14 rfl (lv_at hl 0 rfl) ?_
  exact rtI () F hr hlk hP hS rfl rfl dX6_become_15

def rmX6_fieldOf : Room := { frames := 0, cells := 0, slots := 0, locals := 0 }
theorem nmX6_fieldOf : NmV yX6_fieldOf RX6 1 := by unfold NmV; decide +kernel
set_option maxHeartbeats 4000000 in
set_option maxRecDepth 100000 in
theorem kX6_fieldOf (l : Launch) (dC : Nat → ClassId) (dI : Nat → Nat → Nat) (ct : Nat → ClassId) (w : Int32) : MI (S := Unit) l yX6_fieldOf wsX6_fieldOf rmX6_fieldOf dC dI ct eT [.int w] ([] : va_W) (fun _ => ([] : va_W)) (fun r _ => r = if w = 0 then 2 else if w = 1 then 7 else 12) := by
  refine MI.of (cc := cX6_fieldOf) (maxL := 1) (ret := (some .int)) (by decide) rfl (Nat.le_of_ble_eq_true rfl) ?_
  intro pg en z mi below meth cd A F hr hlk hin hK hP hD hA hS hE ls hl
  have F : CallFix pg mi cd cX6_fieldOf 1 z _ wsX6_fieldOf RX6 := F
  have hl : lv_has ls 1 [(0, .int w)] := hl
  refine lv_iload_n F.1 F.2.1 dX6_fieldOf_0 rfl (lv_at hl 0 rfl) ?_
  refine lv_if_ne (tgt := 8) F.1 F.2.1 dX6_fieldOf_1 (by decide) (fun c_1 => ?_) (fun c_1 => ?_)
  · refine lv_iload_n F.1 F.2.1 dX6_fieldOf_8 rfl (lv_at hl 0 rfl) ?_
    refine lv_iconst (v := 1) F.1 F.2.1 dX6_fieldOf_9 (by decide) ?_
    refine lv_icmp_ne (tgt := 18) F.1 F.2.1 dX6_fieldOf_10 (by decide) (fun c_10 => ?_) (fun c_10 => ?_)
    · refine lv_bipush (v := 12) F.1 F.2.1 dX6_fieldOf_18 (by decide) ?_
      exact rtI () F hr hlk hP hS rfl (by simp [c_1, c_10]) dX6_fieldOf_20
    · refine lv_bipush (v := 7) F.1 F.2.1 dX6_fieldOf_13 (by decide) ?_
      refine lv_goto (tgt := 20) F.1 F.2.1 dX6_fieldOf_15 (by decide) ?_
      exact rtI () F hr hlk hP hS rfl (by simp [c_1, c_10]) dX6_fieldOf_20
  · refine lv_iconst (v := 2) F.1 F.2.1 dX6_fieldOf_4 (by decide) ?_
    refine lv_goto (tgt := 20) F.1 F.2.1 dX6_fieldOf_5 (by decide) ?_
    exact rtI () F hr hlk hP hS rfl (by simp [c_1]) dX6_fieldOf_20

def rmX6_above : Room := { frames := 0, cells := 0, slots := 0, locals := 0 }
theorem nmX6_above : NmV yX6_above RX6 1 := by unfold NmV; decide +kernel
set_option maxHeartbeats 4000000 in
set_option maxRecDepth 100000 in
theorem kX6_above (l : Launch) (dC : Nat → ClassId) (dI : Nat → Nat → Nat) (ct : Nat → ClassId) (w : Int32) : MI (S := Unit) l yX6_above wsX6_above rmX6_above dC dI ct eT [.int w] ([] : va_W) (fun _ => ([] : va_W)) (fun r _ => r = upK w) := by
  refine MI.of (cc := cX6_above) (maxL := 1) (ret := (some .int)) (by decide) rfl (Nat.le_of_ble_eq_true rfl) ?_
  intro pg en z mi below meth cd A F hr hlk hin hK hP hD hA hS hE ls hl
  have F : CallFix pg mi cd cX6_above 1 z _ wsX6_above RX6 := F
  have hl : lv_has ls 1 [(0, .int w)] := hl
  refine lv_iload_n F.1 F.2.1 dX6_above_0 rfl (lv_at hl 0 rfl) ?_
  refine lv_if_ne (tgt := 8) F.1 F.2.1 dX6_above_1 (by decide) (fun c_1 => ?_) (fun c_1 => ?_)
  · refine lv_iload_n F.1 F.2.1 dX6_above_8 rfl (lv_at hl 0 rfl) ?_
    refine lv_iconst (v := 3) F.1 F.2.1 dX6_above_9 (by decide) ?_
    refine lv_icmp_ne (tgt := 17) F.1 F.2.1 dX6_above_10 (by decide) (fun c_10 => ?_) (fun c_10 => ?_)
    · refine lv_iload_n F.1 F.2.1 dX6_above_17 rfl (lv_at hl 0 rfl) ?_
      refine lv_iconst (v := 4) F.1 F.2.1 dX6_above_18 (by decide) ?_
      refine lv_icmp_ne (tgt := 26) F.1 F.2.1 dX6_above_19 (by decide) (fun c_19 => ?_) (fun c_19 => ?_)
      · refine lv_iload_n F.1 F.2.1 dX6_above_26 rfl (lv_at hl 0 rfl) ?_
        refine lv_bipush (v := 6) F.1 F.2.1 dX6_above_27 (by decide) ?_
        refine lv_icmp_ne (tgt := 36) F.1 F.2.1 dX6_above_29 (by decide) (fun c_29 => ?_) (fun c_29 => ?_)
        · refine lv_iconst (v := 0) F.1 F.2.1 dX6_above_36 (by decide) ?_
          exact rtI () F hr hlk hP hS rfl (by simp [upK, c_1, c_10, c_19, c_29]) dX6_above_37
        · refine lv_iconst (v := 5) F.1 F.2.1 dX6_above_32 (by decide) ?_
          refine lv_goto (tgt := 37) F.1 F.2.1 dX6_above_33 (by decide) ?_
          exact rtI () F hr hlk hP hS rfl (by simp [upK, c_1, c_10, c_19, c_29]) dX6_above_37
      · refine lv_iconst (v := 2) F.1 F.2.1 dX6_above_22 (by decide) ?_
        refine lv_goto (tgt := 37) F.1 F.2.1 dX6_above_23 (by decide) ?_
        exact rtI () F hr hlk hP hS rfl (by simp [upK, c_1, c_10, c_19]) dX6_above_37
    · refine lv_iconst (v := 1) F.1 F.2.1 dX6_above_13 (by decide) ?_
      refine lv_goto (tgt := 37) F.1 F.2.1 dX6_above_14 (by decide) ?_
      exact rtI () F hr hlk hP hS rfl (by simp [upK, c_1, c_10]) dX6_above_37
  · refine lv_iconst (v := (-1)) F.1 F.2.1 dX6_above_4 (by decide) ?_
    refine lv_goto (tgt := 37) F.1 F.2.1 dX6_above_5 (by decide) ?_
    exact rtI () F hr hlk hP hS rfl (by simp [upK, c_1]) dX6_above_37

def rmX6_isUnder : Room := { frames := 1, cells := 0, slots := 0, locals := 20 }
theorem nmX6_isUnder : NmV yX6_isUnder RX6 2 := by unfold NmV; decide +kernel
set_option maxHeartbeats 4000000 in
set_option maxRecDepth 100000 in
theorem kX6_isUnder (l : Launch) (dC : Nat → ClassId) (dI : Nat → Nat → Nat) (ct : Nat → ClassId) (w o : Int32) : MI (S := Unit) l yX6_isUnder wsX6_isUnder rmX6_isUnder dC dI ct eT [.int w, .int o] ([] : va_W) (fun _ => ([] : va_W)) (fun r _ => r = un w o) := by
  refine MI.of (cc := cX6_isUnder) (maxL := 3) (ret := (some .boolean)) (by decide) rfl (Nat.le_of_ble_eq_true rfl) ?_
  intro pg en z mi below meth cd A F hr hlk hin hK hP hD hA hS hE ls hl
  have F : CallFix pg mi cd cX6_isUnder 3 z _ wsX6_isUnder RX6 := F
  have hl : lv_has ls 3 [(0, .int w), (1, .int o)] := hl
  refine lv_iload_n F.1 F.2.1 dX6_isUnder_0 rfl (lv_at hl 0 rfl) ?_
  refine lv_istore_n (lv' := [(2, .int w), (0, .int w), (1, .int o)]) F.1 F.2.1 dX6_isUnder_1 rfl hl (by decide) rfl (fun ls hl => ?_)
  refine loopM (σ := Nat × Int32) (I := fun x H locs ls => va_P (dC, dI) vwCl ([] : va_W) H ∧ va_D A ([] : va_W) ∧ va_S A z.heap H locs ∧ lv_has ls 3 [(2, .int x.2), (0, .int w), (1, .int o)] ∧ rk x.2 ≤ x.1 ∧ unF x.1 x.2 o = un w o) (fun x => x.1) ((4 : Nat), w) ⟨hP, hD, hS, lv_sub hl [0, 1, 2] rfl, ⟨rk4 w, rfl⟩⟩ (fun x H locs ls hI ih_2 => ?_)
  obtain ⟨hP, hD, hS, hl, hx1, hx2⟩ := hI
  refine lv_iload_n F.1 F.2.1 dX6_isUnder_2 rfl (lv_at hl 0 rfl) ?_
  refine lv_if_lt (tgt := 19) F.1 F.2.1 dX6_isUnder_3 (by decide) (fun c_3 => ?_) (fun c_3 => ?_)
  · refine lv_iload_n F.1 F.2.1 dX6_isUnder_19 rfl (lv_at hl 0 rfl) ?_
    refine lv_if_lt (tgt := 27) F.1 F.2.1 dX6_isUnder_20 (by decide) (fun c_20 => ?_) (fun c_20 => ?_)
    · refine lv_iconst (v := 0) F.1 F.2.1 dX6_isUnder_27 (by decide) ?_
      exact rtZ () F hr hlk hP hS rfl (unf_neg c_3 hx2) (Or.inl rfl) dX6_isUnder_28
    · exact absurd c_3 c_20
  · refine lv_iload_n F.1 F.2.1 dX6_isUnder_6 rfl (lv_at hl 0 rfl) ?_
    refine lv_iload_n F.1 F.2.1 dX6_isUnder_7 rfl (lv_at hl 2 rfl) ?_
    refine lv_icmp_eq (tgt := 19) F.1 F.2.1 dX6_isUnder_8 (by decide) (fun c_8 => ?_) (fun c_8 => ?_)
    · refine lv_iload_n F.1 F.2.1 dX6_isUnder_19 rfl (lv_at hl 0 rfl) ?_
      refine lv_if_lt (tgt := 27) F.1 F.2.1 dX6_isUnder_20 (by decide) (fun c_20 => ?_) (fun c_20 => ?_)
      · exact absurd c_20 c_3
      · refine lv_iconst (v := 1) F.1 F.2.1 dX6_isUnder_23 (by decide) ?_
        refine lv_goto (tgt := 28) F.1 F.2.1 dX6_isUnder_24 (by decide) ?_
        exact rtZ () F hr hlk hP hS rfl (unf_hit c_3 c_8 hx1 hx2) (Or.inr rfl) dX6_isUnder_28
    · refine lv_iload_n F.1 F.2.1 dX6_isUnder_11 rfl (lv_at hl 0 rfl) ?_
      refine iS (rest := []) (wsp := fun _ => ([] : va_W)) F (kX6_above l dC dI ct x.2) gX6_isUnder_X6_above rfl ⟨rfl, rfl⟩ nmX6_above ⟨Nat.le_of_ble_eq_true rfl, Nat.le_of_ble_eq_true rfl⟩ eT_b (fun _ _ _ => trivial) hK hP hD hS hA [] (by decide) rfl rfl rfl hl.1 (Nat.le_of_ble_eq_true rfl) dX6_isUnder_12 ⟨Nat.zero_le _, Nat.zero_le _⟩ (fun _ => rfl) (fun _ => rfl) [] rfl (fun _ => rfl) (fun r_12 u_12 H locs e_12 hP hD hS => ?_)
      obtain rfl := e_12
      refine lv_istore_n (lv' := [(2, .int (upK x.2)), (0, .int w), (1, .int o)]) F.1 F.2.1 dX6_isUnder_15 rfl hl (by decide) rfl (fun ls hl => ?_)
      refine lv_goto (tgt := 2) F.1 F.2.1 dX6_isUnder_16 (by decide) ?_
      have hm := rk_up c_3
      have hu := unF_up c_3 c_8 hx1
      exact ih_2 (x.1 - 1, upK x.2) _ _ _ (show x.1 - 1 < x.1 by omega) ⟨hP, hD, hS, lv_sub hl [0, 1, 2] rfl, ⟨(show rk (upK x.2) ≤ x.1 - 1 by omega), (hu.symm.trans hx2)⟩⟩

def rmX6_areGood : Room := { frames := 2, cells := 0, slots := 0, locals := 42 }
theorem nmX6_areGood : NmV yX6_areGood RX6 3 := by unfold NmV; decide +kernel
set_option maxHeartbeats 4000000 in
set_option maxRecDepth 100000 in
theorem kX6_areGood (l : Launch) (dC : Nat → ClassId) (dI : Nat → Nat → Nat) (ct : Nat → ClassId) (s t n : Int32) : MI (S := Unit) l yX6_areGood wsX6_areGood rmX6_areGood dC dI ct eT [.int s, .int t, .int n] ([] : va_W) (fun _ => ([] : va_W)) (fun r _ => r = if (0 ≤ s ∧ s ≤ 1) ∧ (0 ≤ t ∧ t ≤ 4) ∧ 1 ≤ n ∧ n ≤ 99 then 1 else 0) := by
  refine MI.of (cc := cX6_areGood) (maxL := 3) (ret := (some .boolean)) (by decide) rfl (Nat.le_of_ble_eq_true rfl) ?_
  intro pg en z mi below meth cd A F hr hlk hin hK hP hD hA hS hE ls hl
  have F : CallFix pg mi cd cX6_areGood 3 z _ wsX6_areGood RX6 := F
  have hl : lv_has ls 3 [(0, .int s), (1, .int t), (2, .int n)] := hl
  refine lv_iload_n F.1 F.2.1 dX6_areGood_0 rfl (lv_at hl 0 rfl) ?_
  refine iS (rest := []) (wsp := fun _ => ([] : va_W)) F (kX6_isSide l dC dI ct s) gX6_areGood_X6_isSide rfl ⟨rfl, rfl⟩ nmX6_isSide ⟨Nat.le_of_ble_eq_true rfl, Nat.le_of_ble_eq_true rfl⟩ eT_b (fun _ _ _ => trivial) hK hP hD hS hA [] (by decide) rfl rfl rfl hl.1 (Nat.le_of_ble_eq_true rfl) dX6_areGood_1 ⟨Nat.zero_le _, Nat.zero_le _⟩ (fun _ => rfl) (fun _ => rfl) [] rfl (fun _ => rfl) (fun r_1 u_1 H locs e_1 hP hD hS => ?_)
  obtain rfl := e_1
  refine lv_if_eq (tgt := 28) F.1 F.2.1 dX6_areGood_4 (by decide) (fun c_4 => ?_) (fun c_4 => ?_)
  · have c_4 : ¬ (0 ≤ s ∧ s ≤ 1) := b01f rfl c_4
    refine lv_iconst (v := 0) F.1 F.2.1 dX6_areGood_28 (by decide) ?_
    exact rtZ () F hr hlk hP hS rfl (by simp [c_4]) (Or.inl rfl) dX6_areGood_29
  · have c_4 : 0 ≤ s ∧ s ≤ 1 := b01t rfl c_4
    refine lv_iload_n F.1 F.2.1 dX6_areGood_7 rfl (lv_at hl 1 rfl) ?_
    refine iS (rest := []) (wsp := fun _ => ([] : va_W)) F (kX6_isThing l dC dI ct t) gX6_areGood_X6_isThing rfl ⟨rfl, rfl⟩ nmX6_isThing ⟨Nat.le_of_ble_eq_true rfl, Nat.le_of_ble_eq_true rfl⟩ eT_b (fun _ _ _ => trivial) hK hP hD hS hA [] (by decide) rfl rfl rfl hl.1 (Nat.le_of_ble_eq_true rfl) dX6_areGood_8 ⟨Nat.zero_le _, Nat.zero_le _⟩ (fun _ => rfl) (fun _ => rfl) [] rfl (fun _ => rfl) (fun r_8 u_8 H locs e_8 hP hD hS => ?_)
    obtain rfl := e_8
    refine lv_if_eq (tgt := 28) F.1 F.2.1 dX6_areGood_11 (by decide) (fun c_11 => ?_) (fun c_11 => ?_)
    · have c_11 : ¬ (0 ≤ t ∧ t ≤ 4) := b01f rfl c_11
      refine lv_iconst (v := 0) F.1 F.2.1 dX6_areGood_28 (by decide) ?_
      exact rtZ () F hr hlk hP hS rfl (by simp [c_4, c_11]) (Or.inl rfl) dX6_areGood_29
    · have c_11 : 0 ≤ t ∧ t ≤ 4 := b01t rfl c_11
      refine lv_iload_n F.1 F.2.1 dX6_areGood_14 rfl (lv_at hl 2 rfl) ?_
      refine lv_iconst (v := 1) F.1 F.2.1 dX6_areGood_15 (by decide) ?_
      refine lv_bipush (v := 99) F.1 F.2.1 dX6_areGood_16 (by decide) ?_
      refine iS (rest := []) (wsp := fun _ => ([] : va_W)) F (kX6_within l dC dI ct n 1 99) gX6_areGood_X6_within rfl ⟨rfl, rfl⟩ nmX6_within ⟨Nat.le_of_ble_eq_true rfl, Nat.le_of_ble_eq_true rfl⟩ eT_b (fun _ _ _ => trivial) hK hP hD hS hA [] (by decide) rfl rfl rfl hl.1 (Nat.le_of_ble_eq_true rfl) dX6_areGood_18 ⟨Nat.zero_le _, Nat.zero_le _⟩ (fun _ => rfl) (fun _ => rfl) [] rfl (fun _ => rfl) (fun r_18 u_18 H locs e_18 hP hD hS => ?_)
      obtain rfl := e_18
      refine lv_if_eq (tgt := 28) F.1 F.2.1 dX6_areGood_21 (by decide) (fun c_21 => ?_) (fun c_21 => ?_)
      · have c_21 : ¬ (1 ≤ n ∧ n ≤ 99) := b01f rfl c_21
        refine lv_iconst (v := 0) F.1 F.2.1 dX6_areGood_28 (by decide) ?_
        exact rtZ () F hr hlk hP hS rfl (by simp [c_4, c_11, c_21]) (Or.inl rfl) dX6_areGood_29
      · have c_21 : 1 ≤ n ∧ n ≤ 99 := b01t rfl c_21
        refine lv_iconst (v := 1) F.1 F.2.1 dX6_areGood_24 (by decide) ?_
        refine lv_goto (tgt := 29) F.1 F.2.1 dX6_areGood_25 (by decide) ?_
        exact rtZ () F hr hlk hP hS rfl (by simp [c_4, c_11, c_21]) (Or.inr rfl) dX6_areGood_29
