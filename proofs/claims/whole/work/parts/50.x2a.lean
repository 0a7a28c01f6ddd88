def rmX5_isIn : Room := { frames := 0, cells := 0, slots := 0, locals := 0 }
theorem nmX5_isIn : NmV yX5_isIn RX5 3 := by unfold NmV; decide +kernel
set_option maxHeartbeats 4000000 in
set_option maxRecDepth 100000 in
theorem kX5_isIn (l : Launch) (dC : Nat → ClassId) (dI : Nat → Nat → Nat) (ct : Nat → ClassId) (t lo hi : Int32) : MI (S := Unit) l yX5_isIn wsX5_isIn rmX5_isIn dC dI ct eT [.int t, .int lo, .int hi] ([] : va_W) (fun _ => ([] : va_W)) (fun r _ => r = if lo ≤ t ∧ t ≤ hi then 1 else 0) := by
  refine MI.of (cc := cX5_isIn) (maxL := 3) (ret := (some .boolean)) (by decide) rfl (Nat.le_of_ble_eq_true rfl) ?_
  intro pg en z mi below meth cd A F hr hlk hin hK hP hD hA hS hE ls hl
  have F : CallFix pg mi cd cX5_isIn 3 z _ wsX5_isIn RX5 := F
  have hl : lv_has ls 3 [(0, .int t), (1, .int lo), (2, .int hi)] := hl
  refine lv_iload_n F.1 F.2.1 dX5_isIn_0 rfl (lv_at hl 0 rfl) ?_
  refine lv_iload_n F.1 F.2.1 dX5_isIn_1 rfl (lv_at hl 1 rfl) ?_
  refine lv_icmp_lt (tgt := 14) F.1 F.2.1 dX5_isIn_2 (by decide) (fun c_2 => ?_) (fun c_2 => ?_)
  · refine lv_iconst (v := 0) F.1 F.2.1 dX5_isIn_14 (by decide) ?_
    exact rtZ () F hr hlk hP hS rfl (by simp [c_2, Int32.not_le.mpr c_2]) (Or.inl rfl) dX5_isIn_15
  · refine lv_iload_n F.1 F.2.1 dX5_isIn_5 rfl (lv_at hl 0 rfl) ?_
    refine lv_iload_n F.1 F.2.1 dX5_isIn_6 rfl (lv_at hl 2 rfl) ?_
    refine lv_icmp_gt (tgt := 14) F.1 F.2.1 dX5_isIn_7 (by decide) (fun c_7 => ?_) (fun c_7 => ?_)
    · refine lv_iconst (v := 0) F.1 F.2.1 dX5_isIn_14 (by decide) ?_
      exact rtZ () F hr hlk hP hS rfl (by simp [c_2, c_7, Int32.not_lt.mp c_2, Int32.not_le.mpr c_7]) (Or.inl rfl) dX5_isIn_15
    · refine lv_iconst (v := 1) F.1 F.2.1 dX5_isIn_10 (by decide) ?_
      refine lv_goto (tgt := 15) F.1 F.2.1 dX5_isIn_11 (by decide) ?_
      exact rtZ () F hr hlk hP hS rfl (by simp [c_2, c_7, Int32.not_lt.mp c_2, Int32.not_lt.mp c_7]) (Or.inr rfl) dX5_isIn_15

def rmX5_isThing : Room := { frames := 1, cells := 0, slots := 0, locals := 22 }
theorem nmX5_isThing : NmV yX5_isThing RX5 1 := by unfold NmV; decide +kernel
set_option maxHeartbeats 4000000 in
set_option maxRecDepth 100000 in
theorem kX5_isThing (l : Launch) (dC : Nat → ClassId) (dI : Nat → Nat → Nat) (ct : Nat → ClassId) (t : Int32) : MI (S := Unit) l yX5_isThing wsX5_isThing rmX5_isThing dC dI ct eT [.int t] ([] : va_W) (fun _ => ([] : va_W)) (fun r _ => r = if 0 ≤ t ∧ t ≤ 4 then 1 else 0) := by
  refine MI.of (cc := cX5_isThing) (maxL := 1) (ret := (some .boolean)) (by decide) rfl (Nat.le_of_ble_eq_true rfl) ?_
  intro pg en z mi below meth cd A F hr hlk hin hK hP hD hA hS hE ls hl
  have F : CallFix pg mi cd cX5_isThing 1 z _ wsX5_isThing RX5 := F
  have hl : lv_has ls 1 [(0, .int t)] := hl
  refine lv_iload_n F.1 F.2.1 dX5_isThing_0 rfl (lv_at hl 0 rfl) ?_
  refine lv_iconst (v := 0) F.1 F.2.1 dX5_isThing_1 (by decide) ?_
  refine lv_iconst (v := 4) F.1 F.2.1 dX5_isThing_2 (by decide) ?_
  refine iS (rest := []) (wsp := fun _ => ([] : va_W)) F (kX5_isIn l dC dI ct t 0 4) gX5_isThing_X5_isIn rfl ⟨rfl, rfl⟩ nmX5_isIn ⟨Nat.le_of_ble_eq_true rfl, Nat.le_of_ble_eq_true rfl⟩ eT_b (fun _ _ _ => trivial) hK hP hD hS hA [] (by decide) rfl rfl rfl hl.1 (Nat.le_of_ble_eq_true rfl) dX5_isThing_3 ⟨Nat.zero_le _, Nat.zero_le _⟩ (fun _ => rfl) (fun _ => rfl) [] rfl (fun _ => rfl) (fun r_3 u_3 H locs e_3 hP hD hS => ?_)
  obtain rfl := e_3
  exact rtZ () F hr hlk hP hS rfl rfl (b01 _) dX5_isThing_6

def rmX5_isSide : Room := { frames := 1, cells := 0, slots := 0, locals := 22 }
theorem nmX5_isSide : NmV yX5_isSide RX5 1 := by unfold NmV; decide +kernel
set_option maxHeartbeats 4000000 in
set_option maxRecDepth 100000 in
theorem kX5_isSide (l : Launch) (dC : Nat → ClassId) (dI : Nat → Nat → Nat) (ct : Nat → ClassId) (t : Int32) : MI (S := Unit) l yX5_isSide wsX5_isSide rmX5_isSide dC dI ct eT [.int t] ([] : va_W) (fun _ => ([] : va_W)) (fun r _ => r = if 0 ≤ t ∧ t ≤ 1 then 1 else 0) := by
  refine MI.of (cc := cX5_isSide) (maxL := 1) (ret := (some .boolean)) (by decide) rfl (Nat.le_of_ble_eq_true rfl) ?_
  intro pg en z mi below meth cd A F hr hlk hin hK hP hD hA hS hE ls hl
  have F : CallFix pg mi cd cX5_isSide 1 z _ wsX5_isSide RX5 := F
  have hl : lv_has ls 1 [(0, .int t)] := hl
  refine lv_iload_n F.1 F.2.1 dX5_isSide_0 rfl (lv_at hl 0 rfl) ?_
  refine lv_iconst (v := 0) F.1 F.2.1 dX5_isSide_1 (by decide) ?_
  refine lv_iconst (v := 1) F.1 F.2.1 dX5_isSide_2 (by decide) ?_
  refine iS (rest := []) (wsp := fun _ => ([] : va_W)) F (kX5_isIn l dC dI ct t 0 1) gX5_isSide_X5_isIn rfl ⟨rfl, rfl⟩ nmX5_isIn ⟨Nat.le_of_ble_eq_true rfl, Nat.le_of_ble_eq_true rfl⟩ eT_b (fun _ _ _ => trivial) hK hP hD hS hA [] (by decide) rfl rfl rfl hl.1 (Nat.le_of_ble_eq_true rfl) dX5_isSide_3 ⟨Nat.zero_le _, Nat.zero_le _⟩ (fun _ => rfl) (fun _ => rfl) [] rfl (fun _ => rfl) (fun r_3 u_3 H locs e_3 hP hD hS => ?_)
  obtain rfl := e_3
  exact rtZ () F hr hlk hP hS rfl rfl (b01 _) dX5_isSide_6

def rmX5_isKind : Room := { frames := 1, cells := 0, slots := 0, locals := 22 }
theorem nmX5_isKind : NmV yX5_isKind RX5 1 := by unfold NmV; decide +kernel
set_option maxHeartbeats 4000000 in
set_option maxRecDepth 100000 in
theorem kX5_isKind (l : Launch) (dC : Nat → ClassId) (dI : Nat → Nat → Nat) (ct : Nat → ClassId) (t : Int32) : MI (S := Unit) l yX5_isKind wsX5_isKind rmX5_isKind dC dI ct eT [.int t] ([] : va_W) (fun _ => ([] : va_W)) (fun r _ => r = if 0 ≤ t ∧ t ≤ 6 then 1 else 0) := by
  refine MI.of (cc := cX5_isKind) (maxL := 1) (ret := (some .boolean)) (by decide) rfl (Nat.le_of_ble_eq_true rfl) ?_
  intro pg en z mi below meth cd A F hr hlk hin hK hP hD hA hS hE ls hl
  have F : CallFix pg mi cd cX5_isKind 1 z _ wsX5_isKind RX5 := F
  have hl : lv_has ls 1 [(0, .int t)] := hl
  refine lv_iload_n F.1 F.2.1 dX5_isKind_0 rfl (lv_at hl 0 rfl) ?_
  refine lv_iconst (v := 0) F.1 F.2.1 dX5_isKind_1 (by decide) ?_
  refine lv_bipush (v := 6) F.1 F.2.1 dX5_isKind_2 (by decide) ?_
  refine iS (rest := []) (wsp := fun _ => ([] : va_W)) F (kX5_isIn l dC dI ct t 0 6) gX5_isKind_X5_isIn rfl ⟨rfl, rfl⟩ nmX5_isIn ⟨Nat.le_of_ble_eq_true rfl, Nat.le_of_ble_eq_true rfl⟩ eT_b (fun _ _ _ => trivial) hK hP hD hS hA [] (by decide) rfl rfl rfl hl.1 (Nat.le_of_ble_eq_true rfl) dX5_isKind_4 ⟨Nat.zero_le _, Nat.zero_le _⟩ (fun _ => rfl) (fun _ => rfl) [] rfl (fun _ => rfl) (fun r_4 u_4 H locs e_4 hP hD hS => ?_)
  obtain rfl := e_4
  exact rtZ () F hr hlk hP hS rfl rfl (b01 _) dX5_isKind_7

def rmX5_isSheet : Room := { frames := 1, cells := 0, slots := 0, locals := 22 }
theorem nmX5_isSheet : NmV yX5_isSheet RX5 1 := by unfold NmV; decide +kernel
set_option maxHeartbeats 4000000 in
set_option maxRecDepth 100000 in
theorem kX5_isSheet (l : Launch) (dC : Nat → ClassId) (dI : Nat → Nat → Nat) (ct : Nat → ClassId) (t : Int32) : MI (S := Unit) l yX5_isSheet wsX5_isSheet rmX5_isSheet dC dI ct eT [.int t] ([] : va_W) (fun _ => ([] : va_W)) (fun r _ => r = if 0 ≤ t ∧ t ≤ 3 then 1 else 0) := by
  refine MI.of (cc := cX5_isSheet) (maxL := 1) (ret := (some .boolean)) (by decide) rfl (Nat.le_of_ble_eq_true rfl) ?_
  intro pg en z mi below meth cd A F hr hlk hin hK hP hD hA hS hE ls hl
  have F : CallFix pg mi cd cX5_isSheet 1 z _ wsX5_isSheet RX5 := F
  have hl : lv_has ls 1 [(0, .int t)] := hl
  refine lv_iload_n F.1 F.2.1 dX5_isSheet_0 rfl (lv_at hl 0 rfl) ?_
  refine lv_iconst (v := 0) F.1 F.2.1 dX5_isSheet_1 (by decide) ?_
  refine lv_iconst (v := 3) F.1 F.2.1 dX5_isSheet_2 (by decide) ?_
  refine iS (rest := []) (wsp := fun _ => ([] : va_W)) F (kX5_isIn l dC dI ct t 0 3) gX5_isSheet_X5_isIn rfl ⟨rfl, rfl⟩ nmX5_isIn ⟨Nat.le_of_ble_eq_true rfl, Nat.le_of_ble_eq_true rfl⟩ eT_b (fun _ _ _ => trivial) hK hP hD hS hA [] (by decide) rfl rfl rfl hl.1 (Nat.le_of_ble_eq_true rfl) dX5_isSheet_3 ⟨Nat.zero_le _, Nat.zero_le _⟩ (fun _ => rfl) (fun _ => rfl) [] rfl (fun _ => rfl) (fun r_3 u_3 H locs e_3 hP hD hS => ?_)
  obtain rfl := e_3
  exact rtZ () F hr hlk hP hS rfl rfl (b01 _) dX5_isSheet_6

def rmX5_mostOf : Room := { frames := 0, cells := 0, slots := 0, locals := 0 }
theorem nmX5_mostOf : NmV yX5_mostOf RX5 1 := by unfold NmV; decide +kernel
set_option maxHeartbeats 4000000 in
set_option maxRecDepth 100000 in
theorem kX5_mostOf (l : Launch) (dC : Nat → ClassId) (dI : Nat → Nat → Nat) (ct : Nat → ClassId) (w : Int32) : MI (S := Unit) l yX5_mostOf wsX5_mostOf rmX5_mostOf dC dI ct eT [.int w] ([] : va_W) (fun _ => ([] : va_W)) (fun r _ => r = if w = 2 then 20 else 99) := by
  refine MI.of (cc := cX5_mostOf) (maxL := 1) (ret := (some .int)) (by decide) rfl (Nat.le_of_ble_eq_true rfl) ?_
  intro pg en z mi below meth cd A F hr hlk hin hK hP hD hA hS hE ls hl
  have F : CallFix pg mi cd cX5_mostOf 1 z _ wsX5_mostOf RX5 := F
  have hl : lv_has ls 1 [(0, .int w)] := hl
  refine lv_iload_n F.1 F.2.1 dX5_mostOf_0 rfl (lv_at hl 0 rfl) ?_
  refine lv_iconst (v := 2) F.1 F.2.1 dX5_mostOf_1 (by decide) ?_
  refine lv_icmp_ne (tgt := 10) F.1 F.2.1 dX5_mostOf_2 (by decide) (fun c_2 => ?_) (fun c_2 => ?_)
  · refine lv_bipush (v := 99) F.1 F.2.1 dX5_mostOf_10 (by decide) ?_
    exact rtI () F hr hlk hP hS rfl (by simp [c_2]) dX5_mostOf_12
  · refine lv_bipush (v := 20) F.1 F.2.1 dX5_mostOf_5 (by decide) ?_
    refine lv_goto (tgt := 12) F.1 F.2.1 dX5_mostOf_7 (by decide) ?_
    exact rtI () F hr hlk hP hS rfl (by simp [c_2]) dX5_mostOf_12

def rmX5_finding : Room := { frames := 0, cells := 0, slots := 0, locals := 0 }
theorem nmX5_finding : NmV yX5_finding RX5 1 := by unfold NmV; decide +kernel
theorem hiX5_finding_5 : ∀ w ∈ u_ws RX5 TX5 7, w ∈ wsX5_finding := by decide +kernel
set_option maxHeartbeats 4000000 in
set_option maxRecDepth 100000 in
theorem kX5_finding (l : Launch) (dC : Nat → ClassId) (dI : Nat → Nat → Nat) (ct : Nat → ClassId) (x st kt sc sh fo : Nat) (tr : Nat → Nat) (ik : Int32) (c : Nat → Int32) (q r : Nat) (w : Int32) (hw : (-1000001) - nI q = w) (hq1 : q + 1 = r) (h7 : q < 7) : MI (S := Unit) l yX5_finding wsX5_finding rmX5_finding dC dI ct eT [.ref x, .int (nI q)] ((x, .inr (5, [.ref st, .ref kt, .int ik, .ref (tr 0), .ref sc, .ref sh, .ref fo])) :: [ai ct fo 7 (fun j => c (j + 1))]) (fun _ => (x, .inr (5, [.ref st, .ref kt, .int ik, .ref (tr 0), .ref sc, .ref sh, .ref fo])) :: [ai ct fo 7 (fun j => (fnd c r) (j + 1))]) (fun r _ => r = w) := by
  refine MI.of (cc := cX5_finding) (maxL := 2) (ret := (some .int)) (by decide) rfl (Nat.le_of_ble_eq_true rfl) ?_
  intro pg en z mi below meth cd A F hr hlk hin hK hP hD hA hS hE ls hl
  have F : CallFix pg mi cd cX5_finding 2 z _ wsX5_finding RX5 := F
  have hl : lv_has ls 2 [(0, .ref x), (1, .int (nI q))] := hl
  refine lv_aload_n F.1 F.2.1 dX5_finding_0 rfl (lv_at hl 0 rfl) ?_
  refine gf F hK hP 0 rfl rfl hiX5_finding_5 6 (by decide) (List.mem_of_getElem? (i := 1) rfl) rfl dX5_finding_1 ?_
  refine lv_iload_n F.1 F.2.1 dX5_finding_4 rfl (lv_at hl 1 rfl) ?_
  refine lv_dup2_11 F.1 F.2.1 dX5_finding_5 rfl rfl ?_
  refine al (v := c (q + 1)) F hK hP 1 0 rfl rfl q rfl (by omega) (by decide) rfl dX5_finding_6 ?_
  refine lv_iconst (v := 1) F.1 F.2.1 dX5_finding_7 (by decide) ?_
  refine lv_iadd F.1 F.2.1 dX5_finding_8 ?_
  refine ast (ws' := (x, .inr (5, [.ref st, .ref kt, .int ik, .ref (tr 0), .ref sc, .ref sh, .ref fo])) :: [ai ct fo 7 (upd (fun j => c (j + 1)) q ((c (q + 1)) + 1))]) F hK hP hD hS 1 0 rfl rfl q rfl (by omega) (by decide) dX5_finding_9 (weq.rf _) (fun H locs hP hD hS => ?_)
  have hq := weq.c (x := (x, .inr (5, [.ref st, .ref kt, .int ik, .ref (tr 0), .ref sc, .ref sh, .ref fo]))) (fnd_x (ct := ct) (a := fo) (c := c) hq1)
  have hP := hq.P hP
  have hD := hq.D hD
  refine lv_ldcw (v := (-1000001)) F.1 F.2.1 F.2.2.2.1 (F.2.2.2.2 _ (List.mem_of_getElem? (i := 2) rfl)) dX5_finding_10 ?_
  refine lv_iload_n F.1 F.2.1 dX5_finding_13 rfl (lv_at hl 1 rfl) ?_
  refine lv_isub F.1 F.2.1 dX5_finding_14 ?_
  exact rtI () F hr hlk hP hS rfl hw dX5_finding_15

def rmX5_kind : Room := { frames := 2, cells := 0, slots := 0, locals := 42 }
theorem nmX5_kind : NmV yX5_kind RX5 2 := by unfold NmV; decide +kernel
theorem hiX5_kind_1 : ∀ w ∈ u_ws RX1 TX1 10, w ∈ wsX5_kind := by decide +kernel
theorem hiX5_kind_4 : ∀ w ∈ u_ws RX4 TX4 4, w ∈ wsX5_kind := by decide +kernel
theorem hiX5_kind_5 : ∀ w ∈ u_ws RX5 TX5 7, w ∈ wsX5_kind := by decide +kernel
set_option maxHeartbeats 4000000 in
set_option maxRecDepth 100000 in
theorem kX5_kind (l : Launch) (dC : Nat → ClassId) (dI : Nat → Nat → Nat) (ct : Nat → ClassId) (x st kt sc sh fo bk sp : Nat) (tr b : Nat → Nat) (ik zz : Int32) (f c : Nat → Int32) (x1 x2 : Int32) : MI (S := (Nat → Int32) × (Nat → Int32)) l yX5_kind wsX5_kind rmX5_kind dC dI ct eT [.ref x, .int x1, .int x2] ((x, .inr (5, [.ref st, .ref kt, .int ik, .ref (tr 0), .ref sc, .ref sh, .ref fo])) :: (st, .inr (4, [.ref (b 0), .ref bk, .ref sp, .int zz])) :: (wB ct b f ++ [ai ct fo 7 (fun j => c (j + 1))])) (fun u => (x, .inr (5, [.ref st, .ref kt, .int ik, .ref (tr 0), .ref sc, .ref sh, .ref fo])) :: (st, .inr (4, [.ref (b 0), .ref bk, .ref sp, .int zz])) :: (wB ct b u.1 ++ [ai ct fo 7 (fun j => u.2 (j + 1))])) (fun r u => (r, u.1, u.2) = sKind f c x1 x2) := by
  refine MI.of (cc := cX5_kind) (maxL := 4) (ret := (some .int)) (by decide) rfl (Nat.le_of_ble_eq_true rfl) ?_
  intro pg en z mi below meth cd A F hr hlk hin hK hP hD hA hS hE ls hl
  have F : CallFix pg mi cd cX5_kind 4 z _ wsX5_kind RX5 := F
  have hl : lv_has ls 4 [(0, .ref x), (1, .int x1), (2, .int x2)] := hl
  refine lv_iload_n F.1 F.2.1 dX5_kind_0 rfl (lv_at hl 1 rfl) ?_
  refine iS (rest := []) (wsp := fun _ => (x, .inr (5, [.ref st, .ref kt, .int ik, .ref (tr 0), .ref sc, .ref sh, .ref fo])) :: (st, .inr (4, [.ref (b 0), .ref bk, .ref sp, .int zz])) :: (wB ct b f ++ [ai ct fo 7 (fun j => c (j + 1))])) F (kX5_isThing l dC dI ct x1) gX5_kind_X5_isThing rfl ⟨rfl, rfl⟩ nmX5_isThing ⟨Nat.le_of_ble_eq_true rfl, Nat.le_of_ble_eq_true rfl⟩ eT_b (fun _ _ _ => trivial) hK hP hD hS hA [] (by decide) rfl rfl rfl hl.1 (Nat.le_of_ble_eq_true rfl) dX5_kind_1 ⟨Nat.zero_le _, Nat.zero_le _⟩ (fun _ => rfl) (fun _ => rfl) [x, st, b 0, b 1, b 2, b 3, b 4, b 5, b 6, fo] rfl (fun _ => rfl) (fun r_1 u_1 H locs e_1 hP hD hS => ?_)
  obtain rfl := e_1
  refine lv_if_eq (tgt := 14) F.1 F.2.1 dX5_kind_4 (by decide) (fun c_4 => ?_) (fun c_4 => ?_)
  · have c_4 : ¬ (0 ≤ x1 ∧ x1 ≤ 4) := b01f rfl c_4
    refine lv_aload_n F.1 F.2.1 dX5_kind_14 rfl (lv_at hl 0 rfl) ?_
    refine lv_iconst (v := 0) F.1 F.2.1 dX5_kind_15 (by decide) ?_
    refine iV (rest := []) (wsp := fun _ => (x, .inr (5, [.ref st, .ref kt, .int ik, .ref (tr 0), .ref sc, .ref sh, .ref fo])) :: (st, .inr (4, [.ref (b 0), .ref bk, .ref sp, .int zz])) :: (wB ct b f ++ [ai ct fo 7 (fun j => (fnd c 1) (j + 1))])) F (kX5_finding l dC dI ct x st kt sc sh fo tr ik c 0 1 (-1000001) (by decide) (by decide) (by decide)) gX5_kind_X5_finding rfl ⟨rfl, rfl⟩ nmX5_finding ⟨Nat.le_of_ble_eq_true rfl, Nat.le_of_ble_eq_true rfl⟩ eT_b (fun _ _ _ => trivial) hK hP hD hS hA 0 rfl rfl rfl [0, 9] (by decide) rfl rfl rfl hl.1 (Nat.le_of_ble_eq_true rfl) dX5_kind_16 ⟨Nat.zero_le _, Nat.zero_le _⟩ (fun _ => rfl) (fun _ => rfl) [x, st, b 0, b 1, b 2, b 3, b 4, b 5, b 6, fo] rfl (fun _ => rfl) (fun r_16 u_16 H locs e_16 hP hD hS => ?_)
    obtain rfl := e_16
    exact rtI (f, (fnd c 1)) F hr hlk hP hS rfl ((if_neg (fun q => c_4 q.1)).symm) dX5_kind_19
  · have c_4 : 0 ≤ x1 ∧ x1 ≤ 4 := b01t rfl c_4
    obtain ⟨t, ht, rfl⟩ := gT_n c_4
    refine lv_iload_n F.1 F.2.1 dX5_kind_7 rfl (lv_at hl 2 rfl) ?_
    refine iS (rest := []) (wsp := fun _ => (x, .inr (5, [.ref st, .ref kt, .int ik, .ref (tr 0), .ref sc, .ref sh, .ref fo])) :: (st, .inr (4, [.ref (b 0), .ref bk, .ref sp, .int zz])) :: (wB ct b f ++ [ai ct fo 7 (fun j => c (j + 1))])) F (kX5_isKind l dC dI ct x2) gX5_kind_X5_isKind rfl ⟨rfl, rfl⟩ nmX5_isKind ⟨Nat.le_of_ble_eq_true rfl, Nat.le_of_ble_eq_true rfl⟩ eT_b (fun _ _ _ => trivial) hK hP hD hS hA [] (by decide) rfl rfl rfl hl.1 (Nat.le_of_ble_eq_true rfl) dX5_kind_8 ⟨Nat.zero_le _, Nat.zero_le _⟩ (fun _ => rfl) (fun _ => rfl) [x, st, b 0, b 1, b 2, b 3, b 4, b 5, b 6, fo] rfl (fun _ => rfl) (fun r_8 u_8 H locs e_8 hP hD hS => ?_)
    obtain rfl := e_8
    refine lv_if_ne (tgt := 20) F.1 F.2.1 dX5_kind_11 (by decide) (fun c_11 => ?_) (fun c_11 => ?_)
    · have c_11 : 0 ≤ x2 ∧ x2 ≤ 6 := b01t rfl c_11
      refine lv_aload_n F.1 F.2.1 dX5_kind_20 rfl (lv_at hl 0 rfl) ?_
      refine gf F hK hP 0 rfl rfl hiX5_kind_5 0 (by decide) (List.mem_of_getElem? (i := 1) rfl) rfl dX5_kind_21 ?_
      refine gf F hK hP 1 rfl rfl hiX5_kind_4 0 (by decide) (List.mem_of_getElem? (i := 2) rfl) rfl dX5_kind_24 ?_
      refine gf F hK hP 2 rfl rfl hiX5_kind_1 0 (by decide) (List.mem_of_getElem? (i := 3) rfl) rfl dX5_kind_27 ?_
      refine lv_iload_n F.1 F.2.1 dX5_kind_30 rfl (lv_at hl 1 rfl) ?_
      refine al (v := f (15 + t)) F hK hP 3 0 rfl rfl t rfl (by omega) (by decide) rfl dX5_kind_31 ?_
      refine lv_istore_n (lv' := [(3, .int (f (15 + t))), (0, .ref x), (1, .int (nI t)), (2, .int x2)]) F.1 F.2.1 dX5_kind_32 rfl hl (by decide) rfl (fun ls hl => ?_)
      refine lv_aload_n F.1 F.2.1 dX5_kind_33 rfl (lv_at hl 1 rfl) ?_
      refine gf F hK hP 0 rfl rfl hiX5_kind_5 0 (by decide) (List.mem_of_getElem? (i := 1) rfl) rfl dX5_kind_34 ?_
      refine gf F hK hP 1 rfl rfl hiX5_kind_4 0 (by decide) (List.mem_of_getElem? (i := 2) rfl) rfl dX5_kind_37 ?_
      refine gf F hK hP 2 rfl rfl hiX5_kind_1 0 (by decide) (List.mem_of_getElem? (i := 3) rfl) rfl dX5_kind_40 ?_
      refine lv_iload_n F.1 F.2.1 dX5_kind_43 rfl (lv_at hl 2 rfl) ?_
      refine lv_iload_n F.1 F.2.1 dX5_kind_44 rfl (lv_at hl 3 rfl) ?_
      refine ast (ws' := (x, .inr (5, [.ref st, .ref kt, .int ik, .ref (tr 0), .ref sc, .ref sh, .ref fo])) :: (st, .inr (4, [.ref (b 0), .ref bk, .ref sp, .int zz])) :: (wB ct b (upd f (15 + t) x2) ++ [ai ct fo 7 (fun j => c (j + 1))])) F hK hP hD hS 3 0 rfl rfl t rfl (by omega) (by decide) dX5_kind_45 (weq.c (weq.c (weq_al (x := wB ct b f) (j := 1) (Nat.le_of_ble_eq_true rfl) (wq_kind ct b f (by omega))))) (fun H locs hP hD hS => ?_)
      refine lv_iload_n F.1 F.2.1 dX5_kind_46 rfl (lv_at hl 0 rfl) ?_
      exact rtI ((upd f (15 + t) x2), c) F hr hlk hP hS rfl (Eq.trans (by rw [show tn (nI t) = t from nI_clamp (by omega)]; try exact rfl) (if_pos ⟨c_4, c_11⟩).symm) dX5_kind_47
    · have c_11 : ¬ (0 ≤ x2 ∧ x2 ≤ 6) := b01f rfl c_11
      refine lv_aload_n F.1 F.2.1 dX5_kind_14 rfl (lv_at hl 0 rfl) ?_
      refine lv_iconst (v := 0) F.1 F.2.1 dX5_kind_15 (by decide) ?_
      refine iV (rest := []) (wsp := fun _ => (x, .inr (5, [.ref st, .ref kt, .int ik, .ref (tr 0), .ref sc, .ref sh, .ref fo])) :: (st, .inr (4, [.ref (b 0), .ref bk, .ref sp, .int zz])) :: (wB ct b f ++ [ai ct fo 7 (fun j => (fnd c 1) (j + 1))])) F (kX5_finding l dC dI ct x st kt sc sh fo tr ik c 0 1 (-1000001) (by decide) (by decide) (by decide)) gX5_kind_X5_finding rfl ⟨rfl, rfl⟩ nmX5_finding ⟨Nat.le_of_ble_eq_true rfl, Nat.le_of_ble_eq_true rfl⟩ eT_b (fun _ _ _ => trivial) hK hP hD hS hA 0 rfl rfl rfl [0, 9] (by decide) rfl rfl rfl hl.1 (Nat.le_of_ble_eq_true rfl) dX5_kind_16 ⟨Nat.zero_le _, Nat.zero_le _⟩ (fun _ => rfl) (fun _ => rfl) [x, st, b 0, b 1, b 2, b 3, b 4, b 5, b 6, fo] rfl (fun _ => rfl) (fun r_16 u_16 H locs e_16 hP hD hS => ?_)
      obtain rfl := e_16
      exact rtI (f, (fnd c 1)) F hr hlk hP hS rfl ((if_neg (fun q => c_11 q.2)).symm) dX5_kind_19

def rmX5_of : Room := { frames := 2, cells := 0, slots := 0, locals := 42 }
theorem nmX5_of : NmV yX5_of RX5 3 := by unfold NmV; decide +kernel
theorem hiX5_of_4 : ∀ w ∈ u_ws RX4 TX4 4, w ∈ wsX5_of := by decide +kernel
theorem hiX5_of_5 : ∀ w ∈ u_ws RX5 TX5 7, w ∈ wsX5_of := by decide +kernel
set_option maxHeartbeats 4000000 in
set_option maxRecDepth 100000 in
theorem kX5_of (l : Launch) (dC : Nat → ClassId) (dI : Nat → Nat → Nat) (ct : Nat → ClassId) (x st kt sc sh fo bk sp : Nat) (tr b : Nat → Nat) (ik zz : Int32) (f c : Nat → Int32) (x1 x2 x3 : Int32) : MI (S := (Nat → Int32) × (Nat → Int32)) l yX5_of wsX5_of rmX5_of dC dI ct eT [.ref x, .int x1, .int x2, .int x3] ((x, .inr (5, [.ref st, .ref kt, .int ik, .ref (tr 0), .ref sc, .ref sh, .ref fo])) :: (st, .inr (4, [.ref (b 0), .ref bk, .ref sp, .int zz])) :: (wB ct b f ++ [ai ct fo 7 (fun j => c (j + 1))])) (fun u => (x, .inr (5, [.ref st, .ref kt, .int ik, .ref (tr 0), .ref sc, .ref sh, .ref fo])) :: (st, .inr (4, [.ref (b 0), .ref bk, .ref sp, .int zz])) :: (wB ct b u.1 ++ [ai ct fo 7 (fun j => u.2 (j + 1))])) (fun r u => (r, u.1, u.2) = sOf f c x1 x2 x3) := by
  refine MI.of (cc := cX5_of) (maxL := 4) (ret := (some .int)) (by decide) rfl (Nat.le_of_ble_eq_true rfl) ?_
  intro pg en z mi below meth cd A F hr hlk hin hK hP hD hA hS hE ls hl
  have F : CallFix pg mi cd cX5_of 4 z _ wsX5_of RX5 := F
  have hl : lv_has ls 4 [(0, .ref x), (1, .int x1), (2, .int x2), (3, .int x3)] := hl
  refine lv_iload_n F.1 F.2.1 dX5_of_0 rfl (lv_at hl 1 rfl) ?_
  refine iS (rest := []) (wsp := fun _ => (x, .inr (5, [.ref st, .ref kt, .int ik, .ref (tr 0), .ref sc, .ref sh, .ref fo])) :: (st, .inr (4, [.ref (b 0), .ref bk, .ref sp, .int zz])) :: (wB ct b f ++ [ai ct fo 7 (fun j => c (j + 1))])) F (kX5_isSide l dC dI ct x1) gX5_of_X5_isSide rfl ⟨rfl, rfl⟩ nmX5_isSide ⟨Nat.le_of_ble_eq_true rfl, Nat.le_of_ble_eq_true rfl⟩ eT_b (fun _ _ _ => trivial) hK hP hD hS hA [] (by decide) rfl rfl rfl hl.1 (Nat.le_of_ble_eq_true rfl) dX5_of_1 ⟨Nat.zero_le _, Nat.zero_le _⟩ (fun _ => rfl) (fun _ => rfl) [x, st, b 0, b 1, b 2, b 3, b 4, b 5, b 6, fo] rfl (fun _ => rfl) (fun r_1 u_1 H locs e_1 hP hD hS => ?_)
  obtain rfl := e_1
  refine lv_if_eq (tgt := 23) F.1 F.2.1 dX5_of_4 (by decide) (fun c_4 => ?_) (fun c_4 => ?_)
  · have c_4 : ¬ (0 ≤ x1 ∧ x1 ≤ 1) := b01f rfl c_4
    refine lv_aload_n F.1 F.2.1 dX5_of_23 rfl (lv_at hl 0 rfl) ?_
    refine lv_iconst (v := 0) F.1 F.2.1 dX5_of_24 (by decide) ?_
    refine iV (rest := []) (wsp := fun _ => (x, .inr (5, [.ref st, .ref kt, .int ik, .ref (tr 0), .ref sc, .ref sh, .ref fo])) :: (st, .inr (4, [.ref (b 0), .ref bk, .ref sp, .int zz])) :: (wB ct b f ++ [ai ct fo 7 (fun j => (fnd c 1) (j + 1))])) F (kX5_finding l dC dI ct x st kt sc sh fo tr ik c 0 1 (-1000001) (by decide) (by decide) (by decide)) gX5_of_X5_finding rfl ⟨rfl, rfl⟩ nmX5_finding ⟨Nat.le_of_ble_eq_true rfl, Nat.le_of_ble_eq_true rfl⟩ eT_b (fun _ _ _ => trivial) hK hP hD hS hA 0 rfl rfl rfl [0, 9] (by decide) rfl rfl rfl hl.1 (Nat.le_of_ble_eq_true rfl) dX5_of_25 ⟨Nat.zero_le _, Nat.zero_le _⟩ (fun _ => rfl) (fun _ => rfl) [x, st, b 0, b 1, b 2, b 3, b 4, b 5, b 6, fo] rfl (fun _ => rfl) (fun r_25 u_25 H locs e_25 hP hD hS => ?_)
    obtain rfl := e_25
    exact rtI (f, (fnd c 1)) F hr hlk hP hS rfl ((if_neg (fun q => c_4 q.1)).symm) dX5_of_28
  · have c_4 : 0 ≤ x1 ∧ x1 ≤ 1 := b01t rfl c_4
    obtain ⟨s, hs, rfl⟩ := gS_n c_4
    refine lv_iload_n F.1 F.2.1 dX5_of_7 rfl (lv_at hl 2 rfl) ?_
    refine iS (rest := []) (wsp := fun _ => (x, .inr (5, [.ref st, .ref kt, .int ik, .ref (tr 0), .ref sc, .ref sh, .ref fo])) :: (st, .inr (4, [.ref (b 0), .ref bk, .ref sp, .int zz])) :: (wB ct b f ++ [ai ct fo 7 (fun j => c (j + 1))])) F (kX5_isThing l dC dI ct x2) gX5_of_X5_isThing rfl ⟨rfl, rfl⟩ nmX5_isThing ⟨Nat.le_of_ble_eq_true rfl, Nat.le_of_ble_eq_true rfl⟩ eT_b (fun _ _ _ => trivial) hK hP hD hS hA [] (by decide) rfl rfl rfl hl.1 (Nat.le_of_ble_eq_true rfl) dX5_of_8 ⟨Nat.zero_le _, Nat.zero_le _⟩ (fun _ => rfl) (fun _ => rfl) [x, st, b 0, b 1, b 2, b 3, b 4, b 5, b 6, fo] rfl (fun _ => rfl) (fun r_8 u_8 H locs e_8 hP hD hS => ?_)
    obtain rfl := e_8
    refine lv_if_eq (tgt := 23) F.1 F.2.1 dX5_of_11 (by decide) (fun c_11 => ?_) (fun c_11 => ?_)
    · have c_11 : ¬ (0 ≤ x2 ∧ x2 ≤ 4) := b01f rfl c_11
      refine lv_aload_n F.1 F.2.1 dX5_of_23 rfl (lv_at hl 0 rfl) ?_
      refine lv_iconst (v := 0) F.1 F.2.1 dX5_of_24 (by decide) ?_
      refine iV (rest := []) (wsp := fun _ => (x, .inr (5, [.ref st, .ref kt, .int ik, .ref (tr 0), .ref sc, .ref sh, .ref fo])) :: (st, .inr (4, [.ref (b 0), .ref bk, .ref sp, .int zz])) :: (wB ct b f ++ [ai ct fo 7 (fun j => (fnd c 1) (j + 1))])) F (kX5_finding l dC dI ct x st kt sc sh fo tr ik c 0 1 (-1000001) (by decide) (by decide) (by decide)) gX5_of_X5_finding rfl ⟨rfl, rfl⟩ nmX5_finding ⟨Nat.le_of_ble_eq_true rfl, Nat.le_of_ble_eq_true rfl⟩ eT_b (fun _ _ _ => trivial) hK hP hD hS hA 0 rfl rfl rfl [0, 9] (by decide) rfl rfl rfl hl.1 (Nat.le_of_ble_eq_true rfl) dX5_of_25 ⟨Nat.zero_le _, Nat.zero_le _⟩ (fun _ => rfl) (fun _ => rfl) [x, st, b 0, b 1, b 2, b 3, b 4, b 5, b 6, fo] rfl (fun _ => rfl) (fun r_25 u_25 H locs e_25 hP hD hS => ?_)
      obtain rfl := e_25
      exact rtI (f, (fnd c 1)) F hr hlk hP hS rfl ((if_neg (fun q => c_11 q.2.1)).symm) dX5_of_28
    · have c_11 : 0 ≤ x2 ∧ x2 ≤ 4 := b01t rfl c_11
      obtain ⟨t, ht, rfl⟩ := gT_n c_11
      refine lv_iload_n F.1 F.2.1 dX5_of_14 rfl (lv_at hl 3 rfl) ?_
      refine lv_iconst (v := 0) F.1 F.2.1 dX5_of_15 (by decide) ?_
      refine lv_iconst (v := 2) F.1 F.2.1 dX5_of_16 (by decide) ?_
      refine iS (rest := []) (wsp := fun _ => (x, .inr (5, [.ref st, .ref kt, .int ik, .ref (tr 0), .ref sc, .ref sh, .ref fo])) :: (st, .inr (4, [.ref (b 0), .ref bk, .ref sp, .int zz])) :: (wB ct b f ++ [ai ct fo 7 (fun j => c (j + 1))])) F (kX5_isIn l dC dI ct x3 0 2) gX5_of_X5_isIn rfl ⟨rfl, rfl⟩ nmX5_isIn ⟨Nat.le_of_ble_eq_true rfl, Nat.le_of_ble_eq_true rfl⟩ eT_b (fun _ _ _ => trivial) hK hP hD hS hA [] (by decide) rfl rfl rfl hl.1 (Nat.le_of_ble_eq_true rfl) dX5_of_17 ⟨Nat.zero_le _, Nat.zero_le _⟩ (fun _ => rfl) (fun _ => rfl) [x, st, b 0, b 1, b 2, b 3, b 4, b 5, b 6, fo] rfl (fun _ => rfl) (fun r_17 u_17 H locs e_17 hP hD hS => ?_)
      obtain rfl := e_17
      refine lv_if_ne (tgt := 29) F.1 F.2.1 dX5_of_20 (by decide) (fun c_20 => ?_) (fun c_20 => ?_)
      · have c_20 : 0 ≤ x3 ∧ x3 ≤ 2 := b01t rfl c_20
        refine lv_aload_n F.1 F.2.1 dX5_of_29 rfl (lv_at hl 0 rfl) ?_
        refine gf F hK hP 0 rfl rfl hiX5_of_5 0 (by decide) (List.mem_of_getElem? (i := 1) rfl) rfl dX5_of_30 ?_
        refine gf F hK hP 1 rfl rfl hiX5_of_4 0 (by decide) (List.mem_of_getElem? (i := 2) rfl) rfl dX5_of_33 ?_
        refine lv_iload_n F.1 F.2.1 dX5_of_36 rfl (lv_at hl 3 rfl) ?_
        refine rV (rest := []) (wsp := fun _ => (x, .inr (5, [.ref st, .ref kt, .int ik, .ref (tr 0), .ref sc, .ref sh, .ref fo])) :: (st, .inr (4, [.ref (b 0), .ref bk, .ref sp, .int zz])) :: (wB ct b f ++ [ai ct fo 7 (fun j => c (j + 1))])) F (kX1_stock l dC dI ct b f x3) gX5_of_X1_stock rfl ⟨rfl, rfl⟩ nmX1_stock ⟨Nat.le_of_ble_eq_true rfl, Nat.le_of_ble_eq_true rfl⟩ eT_b (fun _ _ _ => trivial) hK hP hD hS hA 2 rfl rfl rfl [2, 3, 4, 5, 6, 7, 8] (by decide) rfl rfl rfl hl.1 (Nat.le_of_ble_eq_true rfl) dX5_of_37 ⟨Nat.zero_le _, Nat.zero_le _⟩ (fun _ => rfl) (fun _ => rfl) [x, st, b 0, b 1, b 2, b 3, b 4, b 5, b 6, fo] rfl (fun _ => rfl) (fun r_37 u_37 H locs e_37 hP hD hS => ?_)
        by_cases w0 : x3 = 0
        · obtain rfl := e_37.trans (if_pos w0)
          refine lv_iload_n F.1 F.2.1 dX5_of_40 rfl (lv_at hl 1 rfl) ?_
          refine lv_iconst (v := 5) F.1 F.2.1 dX5_of_41 (by decide) ?_
          refine lv_imul F.1 F.2.1 dX5_of_42 ?_
          refine tp (y := nI (s * 5)) (ml2 (a := s) (b := 5) (c := s * 5) rfl rfl rfl) ?_
          refine lv_iload_n F.1 F.2.1 dX5_of_43 rfl (lv_at hl 2 rfl) ?_
          refine lv_iadd F.1 F.2.1 dX5_of_44 ?_
          refine tp (y := nI (s * 5 + t)) (ad2 (a := s * 5) (b := t) (c := s * 5 + t) rfl rfl rfl) ?_
          refine al (v := f (22 + 17 * s + t)) F hK hP 4 0 rfl rfl (s * 5 + t) rfl (by omega) (by decide) (congrArg f (ix5 (by omega))) dX5_of_45 ?_
          exact rtI (f, c) F hr hlk hP hS rfl (Eq.trans (by rw [show tn (nI s) = s from nI_clamp (by omega), show tn (nI t) = t from nI_clamp (by omega)]; try exact (by unfold kOf; rw [fldE (fld_0 w0)])) (if_pos ⟨c_4, c_11, c_20⟩).symm) dX5_of_46
        by_cases w1 : x3 = 1
        · obtain rfl := e_37.trans ((if_neg w0).trans (if_pos w1))
          refine lv_iload_n F.1 F.2.1 dX5_of_40 rfl (lv_at hl 1 rfl) ?_
          refine lv_iconst (v := 5) F.1 F.2.1 dX5_of_41 (by decide) ?_
          refine lv_imul F.1 F.2.1 dX5_of_42 ?_
          refine tp (y := nI (s * 5)) (ml2 (a := s) (b := 5) (c := s * 5) rfl rfl rfl) ?_
          refine lv_iload_n F.1 F.2.1 dX5_of_43 rfl (lv_at hl 2 rfl) ?_
          refine lv_iadd F.1 F.2.1 dX5_of_44 ?_
          refine tp (y := nI (s * 5 + t)) (ad2 (a := s * 5) (b := t) (c := s * 5 + t) rfl rfl rfl) ?_
          refine al (v := f (27 + 17 * s + t)) F hK hP 5 0 rfl rfl (s * 5 + t) rfl (by omega) (by decide) (congrArg f (ix5 (by omega))) dX5_of_45 ?_
          exact rtI (f, c) F hr hlk hP hS rfl (Eq.trans (by rw [show tn (nI s) = s from nI_clamp (by omega), show tn (nI t) = t from nI_clamp (by omega)]; try exact (by unfold kOf; rw [fldE (fld_1 w1)])) (if_pos ⟨c_4, c_11, c_20⟩).symm) dX5_of_46
        obtain rfl := e_37.trans ((if_neg w0).trans (if_neg w1))
        refine lv_iload_n F.1 F.2.1 dX5_of_40 rfl (lv_at hl 1 rfl) ?_
        refine lv_iconst (v := 5) F.1 F.2.1 dX5_of_41 (by decide) ?_
        refine lv_imul F.1 F.2.1 dX5_of_42 ?_
        refine tp (y := nI (s * 5)) (ml2 (a := s) (b := 5) (c := s * 5) rfl rfl rfl) ?_
        refine lv_iload_n F.1 F.2.1 dX5_of_43 rfl (lv_at hl 2 rfl) ?_
        refine lv_iadd F.1 F.2.1 dX5_of_44 ?_
        refine tp (y := nI (s * 5 + t)) (ad2 (a := s * 5) (b := t) (c := s * 5 + t) rfl rfl rfl) ?_
        refine al (v := f (32 + 17 * s + t)) F hK hP 6 0 rfl rfl (s * 5 + t) rfl (by omega) (by decide) (congrArg f (ix5 (by omega))) dX5_of_45 ?_
        exact rtI (f, c) F hr hlk hP hS rfl (Eq.trans (by rw [show tn (nI s) = s from nI_clamp (by omega), show tn (nI t) = t from nI_clamp (by omega)]; try exact (by unfold kOf; rw [fldE (fld_2 w0 w1)])) (if_pos ⟨c_4, c_11, c_20⟩).symm) dX5_of_46
      · have c_20 : ¬ (0 ≤ x3 ∧ x3 ≤ 2) := b01f rfl c_20
        refine lv_aload_n F.1 F.2.1 dX5_of_23 rfl (lv_at hl 0 rfl) ?_
        refine lv_iconst (v := 0) F.1 F.2.1 dX5_of_24 (by decide) ?_
        refine iV (rest := []) (wsp := fun _ => (x, .inr (5, [.ref st, .ref kt, .int ik, .ref (tr 0), .ref sc, .ref sh, .ref fo])) :: (st, .inr (4, [.ref (b 0), .ref bk, .ref sp, .int zz])) :: (wB ct b f ++ [ai ct fo 7 (fun j => (fnd c 1) (j + 1))])) F (kX5_finding l dC dI ct x st kt sc sh fo tr ik c 0 1 (-1000001) (by decide) (by decide) (by decide)) gX5_of_X5_finding rfl ⟨rfl, rfl⟩ nmX5_finding ⟨Nat.le_of_ble_eq_true rfl, Nat.le_of_ble_eq_true rfl⟩ eT_b (fun _ _ _ => trivial) hK hP hD hS hA 0 rfl rfl rfl [0, 9] (by decide) rfl rfl rfl hl.1 (Nat.le_of_ble_eq_true rfl) dX5_of_25 ⟨Nat.zero_le _, Nat.zero_le _⟩ (fun _ => rfl) (fun _ => rfl) [x, st, b 0, b 1, b 2, b 3, b 4, b 5, b 6, fo] rfl (fun _ => rfl) (fun r_25 u_25 H locs e_25 hP hD hS => ?_)
        obtain rfl := e_25
        exact rtI (f, (fnd c 1)) F hr hlk hP hS rfl ((if_neg (fun q => c_20 q.2.2)).symm) dX5_of_28

def rmX5_change : Room := { frames := 2, cells := 0, slots := 0, locals := 42 }
theorem nmX5_change : NmV yX5_change RX5 4 := by unfold NmV; decide +kernel
theorem hiX5_change_4 : ∀ w ∈ u_ws RX4 TX4 4, w ∈ wsX5_change := by decide +kernel
theorem hiX5_change_5 : ∀ w ∈ u_ws RX5 TX5 7, w ∈ wsX5_change := by decide +kernel
set_option maxHeartbeats 4000000 in
set_option maxRecDepth 100000 in
theorem kX5_change (l : Launch) (dC : Nat → ClassId) (dI : Nat → Nat → Nat) (ct : Nat → ClassId) (x st kt sc sh fo bk sp : Nat) (tr b : Nat → Nat) (ik zz : Int32) (f c : Nat → Int32) (x1 x2 x3 x4 : Int32) : MI (S := (Nat → Int32) × (Nat → Int32)) l yX5_change wsX5_change rmX5_change dC dI ct eT [.ref x, .int x1, .int x2, .int x3, .int x4] ((x, .inr (5, [.ref st, .ref kt, .int ik, .ref (tr 0), .ref sc, .ref sh, .ref fo])) :: (st, .inr (4, [.ref (b 0), .ref bk, .ref sp, .int zz])) :: (wB ct b f ++ [ai ct fo 7 (fun j => c (j + 1))])) (fun u => (x, .inr (5, [.ref st, .ref kt, .int ik, .ref (tr 0), .ref sc, .ref sh, .ref fo])) :: (st, .inr (4, [.ref (b 0), .ref bk, .ref sp, .int zz])) :: (wB ct b u.1 ++ [ai ct fo 7 (fun j => u.2 (j + 1))])) (fun r u => (r, u.1, u.2) = sChange f c x1 x2 x3 x4) := by
  refine MI.of (cc := cX5_change) (maxL := 7) (ret := (some .int)) (by decide) rfl (Nat.le_of_ble_eq_true rfl) ?_
  intro pg en z mi below meth cd A F hr hlk hin hK hP hD hA hS hE ls hl
  have F : CallFix pg mi cd cX5_change 7 z _ wsX5_change RX5 := F
  have hl : lv_has ls 7 [(0, .ref x), (1, .int x1), (2, .int x2), (3, .int x3), (4, .int x4)] := hl
  refine lv_iload_n F.1 F.2.1 dX5_change_0 rfl (lv_at hl 1 rfl) ?_
  refine iS (rest := []) (wsp := fun _ => (x, .inr (5, [.ref st, .ref kt, .int ik, .ref (tr 0), .ref sc, .ref sh, .ref fo])) :: (st, .inr (4, [.ref (b 0), .ref bk, .ref sp, .int zz])) :: (wB ct b f ++ [ai ct fo 7 (fun j => c (j + 1))])) F (kX5_isSide l dC dI ct x1) gX5_change_X5_isSide rfl ⟨rfl, rfl⟩ nmX5_isSide ⟨Nat.le_of_ble_eq_true rfl, Nat.le_of_ble_eq_true rfl⟩ eT_b (fun _ _ _ => trivial) hK hP hD hS hA [] (by decide) rfl rfl rfl hl.1 (Nat.le_of_ble_eq_true rfl) dX5_change_1 ⟨Nat.zero_le _, Nat.zero_le _⟩ (fun _ => rfl) (fun _ => rfl) [x, st, b 0, b 1, b 2, b 3, b 4, b 5, b 6, fo] rfl (fun _ => rfl) (fun r_1 u_1 H locs e_1 hP hD hS => ?_)
  obtain rfl := e_1
  refine lv_if_eq (tgt := 36) F.1 F.2.1 dX5_change_4 (by decide) (fun c_4 => ?_) (fun c_4 => ?_)
  · have c_4 : ¬ (0 ≤ x1 ∧ x1 ≤ 1) := b01f rfl c_4
    refine lv_aload_n F.1 F.2.1 dX5_change_36 rfl (lv_at hl 0 rfl) ?_
    refine lv_iconst (v := 0) F.1 F.2.1 dX5_change_37 (by decide) ?_
    refine iV (rest := []) (wsp := fun _ => (x, .inr (5, [.ref st, .ref kt, .int ik, .ref (tr 0), .ref sc, .ref sh, .ref fo])) :: (st, .inr (4, [.ref (b 0), .ref bk, .ref sp, .int zz])) :: (wB ct b f ++ [ai ct fo 7 (fun j => (fnd c 1) (j + 1))])) F (kX5_finding l dC dI ct x st kt sc sh fo tr ik c 0 1 (-1000001) (by decide) (by decide) (by decide)) gX5_change_X5_finding rfl ⟨rfl, rfl⟩ nmX5_finding ⟨Nat.le_of_ble_eq_true rfl, Nat.le_of_ble_eq_true rfl⟩ eT_b (fun _ _ _ => trivial) hK hP hD hS hA 0 rfl rfl rfl [0, 9] (by decide) rfl rfl rfl hl.1 (Nat.le_of_ble_eq_true rfl) dX5_change_38 ⟨Nat.zero_le _, Nat.zero_le _⟩ (fun _ => rfl) (fun _ => rfl) [x, st, b 0, b 1, b 2, b 3, b 4, b 5, b 6, fo] rfl (fun _ => rfl) (fun r_38 u_38 H locs e_38 hP hD hS => ?_)
    obtain rfl := e_38
    exact rtI (f, (fnd c 1)) F hr hlk hP hS rfl ((if_neg (fun q => c_4 q.1)).symm) dX5_change_41
  · have c_4 : 0 ≤ x1 ∧ x1 ≤ 1 := b01t rfl c_4
    obtain ⟨s, hs, rfl⟩ := gS_n c_4
    refine lv_iload_n F.1 F.2.1 dX5_change_7 rfl (lv_at hl 2 rfl) ?_
    refine iS (rest := []) (wsp := fun _ => (x, .inr (5, [.ref st, .ref kt, .int ik, .ref (tr 0), .ref sc, .ref sh, .ref fo])) :: (st, .inr (4, [.ref (b 0), .ref bk, .ref sp, .int zz])) :: (wB ct b f ++ [ai ct fo 7 (fun j => c (j + 1))])) F (kX5_isThing l dC dI ct x2) gX5_change_X5_isThing rfl ⟨rfl, rfl⟩ nmX5_isThing ⟨Nat.le_of_ble_eq_true rfl, Nat.le_of_ble_eq_true rfl⟩ eT_b (fun _ _ _ => trivial) hK hP hD hS hA [] (by decide) rfl rfl rfl hl.1 (Nat.le_of_ble_eq_true rfl) dX5_change_8 ⟨Nat.zero_le _, Nat.zero_le _⟩ (fun _ => rfl) (fun _ => rfl) [x, st, b 0, b 1, b 2, b 3, b 4, b 5, b 6, fo] rfl (fun _ => rfl) (fun r_8 u_8 H locs e_8 hP hD hS => ?_)
    obtain rfl := e_8
    refine lv_if_eq (tgt := 36) F.1 F.2.1 dX5_change_11 (by decide) (fun c_11 => ?_) (fun c_11 => ?_)
    · have c_11 : ¬ (0 ≤ x2 ∧ x2 ≤ 4) := b01f rfl c_11
      refine lv_aload_n F.1 F.2.1 dX5_change_36 rfl (lv_at hl 0 rfl) ?_
      refine lv_iconst (v := 0) F.1 F.2.1 dX5_change_37 (by decide) ?_
      refine iV (rest := []) (wsp := fun _ => (x, .inr (5, [.ref st, .ref kt, .int ik, .ref (tr 0), .ref sc, .ref sh, .ref fo])) :: (st, .inr (4, [.ref (b 0), .ref bk, .ref sp, .int zz])) :: (wB ct b f ++ [ai ct fo 7 (fun j => (fnd c 1) (j + 1))])) F (kX5_finding l dC dI ct x st kt sc sh fo tr ik c 0 1 (-1000001) (by decide) (by decide) (by decide)) gX5_change_X5_finding rfl ⟨rfl, rfl⟩ nmX5_finding ⟨Nat.le_of_ble_eq_true rfl, Nat.le_of_ble_eq_true rfl⟩ eT_b (fun _ _ _ => trivial) hK hP hD hS hA 0 rfl rfl rfl [0, 9] (by decide) rfl rfl rfl hl.1 (Nat.le_of_ble_eq_true rfl) dX5_change_38 ⟨Nat.zero_le _, Nat.zero_le _⟩ (fun _ => rfl) (fun _ => rfl) [x, st, b 0, b 1, b 2, b 3, b 4, b 5, b 6, fo] rfl (fun _ => rfl) (fun r_38 u_38 H locs e_38 hP hD hS => ?_)
      obtain rfl := e_38
      exact rtI (f, (fnd c 1)) F hr hlk hP hS rfl ((if_neg (fun q => c_11 q.2.1)).symm) dX5_change_41
    · have c_11 : 0 ≤ x2 ∧ x2 ≤ 4 := b01t rfl c_11
      obtain ⟨t, ht, rfl⟩ := gT_n c_11
      refine lv_iload_n F.1 F.2.1 dX5_change_14 rfl (lv_at hl 3 rfl) ?_
      refine lv_iconst (v := 0) F.1 F.2.1 dX5_change_15 (by decide) ?_
      refine lv_iconst (v := 2) F.1 F.2.1 dX5_change_16 (by decide) ?_
      refine iS (rest := []) (wsp := fun _ => (x, .inr (5, [.ref st, .ref kt, .int ik, .ref (tr 0), .ref sc, .ref sh, .ref fo])) :: (st, .inr (4, [.ref (b 0), .ref bk, .ref sp, .int zz])) :: (wB ct b f ++ [ai ct fo 7 (fun j => c (j + 1))])) F (kX5_isIn l dC dI ct x3 0 2) gX5_change_X5_isIn rfl ⟨rfl, rfl⟩ nmX5_isIn ⟨Nat.le_of_ble_eq_true rfl, Nat.le_of_ble_eq_true rfl⟩ eT_b (fun _ _ _ => trivial) hK hP hD hS hA [] (by decide) rfl rfl rfl hl.1 (Nat.le_of_ble_eq_true rfl) dX5_change_17 ⟨Nat.zero_le _, Nat.zero_le _⟩ (fun _ => rfl) (fun _ => rfl) [x, st, b 0, b 1, b 2, b 3, b 4, b 5, b 6, fo] rfl (fun _ => rfl) (fun r_17 u_17 H locs e_17 hP hD hS => ?_)
      obtain rfl := e_17
      refine lv_if_eq (tgt := 36) F.1 F.2.1 dX5_change_20 (by decide) (fun c_20 => ?_) (fun c_20 => ?_)
      · have c_20 : ¬ (0 ≤ x3 ∧ x3 ≤ 2) := b01f rfl c_20
        refine lv_aload_n F.1 F.2.1 dX5_change_36 rfl (lv_at hl 0 rfl) ?_
        refine lv_iconst (v := 0) F.1 F.2.1 dX5_change_37 (by decide) ?_
        refine iV (rest := []) (wsp := fun _ => (x, .inr (5, [.ref st, .ref kt, .int ik, .ref (tr 0), .ref sc, .ref sh, .ref fo])) :: (st, .inr (4, [.ref (b 0), .ref bk, .ref sp, .int zz])) :: (wB ct b f ++ [ai ct fo 7 (fun j => (fnd c 1) (j + 1))])) F (kX5_finding l dC dI ct x st kt sc sh fo tr ik c 0 1 (-1000001) (by decide) (by decide) (by decide)) gX5_change_X5_finding rfl ⟨rfl, rfl⟩ nmX5_finding ⟨Nat.le_of_ble_eq_true rfl, Nat.le_of_ble_eq_true rfl⟩ eT_b (fun _ _ _ => trivial) hK hP hD hS hA 0 rfl rfl rfl [0, 9] (by decide) rfl rfl rfl hl.1 (Nat.le_of_ble_eq_true rfl) dX5_change_38 ⟨Nat.zero_le _, Nat.zero_le _⟩ (fun _ => rfl) (fun _ => rfl) [x, st, b 0, b 1, b 2, b 3, b 4, b 5, b 6, fo] rfl (fun _ => rfl) (fun r_38 u_38 H locs e_38 hP hD hS => ?_)
        obtain rfl := e_38
        exact rtI (f, (fnd c 1)) F hr hlk hP hS rfl ((if_neg (fun q => c_20 q.2.2.1)).symm) dX5_change_41
      · have c_20 : 0 ≤ x3 ∧ x3 ≤ 2 := b01t rfl c_20
        refine lv_iload F.1 F.2.1 dX5_change_23 (lv_at hl 4 rfl) ?_
        refine lv_iconst (v := 0) F.1 F.2.1 dX5_change_25 (by decide) ?_
        refine lv_iload_n F.1 F.2.1 dX5_change_26 rfl (lv_at hl 3 rfl) ?_
        refine iS (rest := [.int 0, .int x4]) (wsp := fun _ => (x, .inr (5, [.ref st, .ref kt, .int ik, .ref (tr 0), .ref sc, .ref sh, .ref fo])) :: (st, .inr (4, [.ref (b 0), .ref bk, .ref sp, .int zz])) :: (wB ct b f ++ [ai ct fo 7 (fun j => c (j + 1))])) F (kX5_mostOf l dC dI ct x3) gX5_change_X5_mostOf rfl ⟨rfl, rfl⟩ nmX5_mostOf ⟨Nat.le_of_ble_eq_true rfl, Nat.le_of_ble_eq_true rfl⟩ eT_b (fun _ _ _ => trivial) hK hP hD hS hA [] (by decide) rfl rfl rfl hl.1 (Nat.le_of_ble_eq_true rfl) dX5_change_27 ⟨Nat.zero_le _, Nat.zero_le _⟩ (fun _ => rfl) (fun _ => rfl) [x, st, b 0, b 1, b 2, b 3, b 4, b 5, b 6, fo] rfl (fun _ => rfl) (fun r_27 u_27 H locs e_27 hP hD hS => ?_)
        obtain rfl := e_27
        refine iS (rest := []) (wsp := fun _ => (x, .inr (5, [.ref st, .ref kt, .int ik, .ref (tr 0), .ref sc, .ref sh, .ref fo])) :: (st, .inr (4, [.ref (b 0), .ref bk, .ref sp, .int zz])) :: (wB ct b f ++ [ai ct fo 7 (fun j => c (j + 1))])) F (kX5_isIn l dC dI ct x4 0 (if x3 = 2 then 20 else 99)) gX5_change_X5_isIn rfl ⟨rfl, rfl⟩ nmX5_isIn ⟨Nat.le_of_ble_eq_true rfl, Nat.le_of_ble_eq_true rfl⟩ eT_b (fun _ _ _ => trivial) hK hP hD hS hA [] (by decide) rfl rfl rfl hl.1 (Nat.le_of_ble_eq_true rfl) dX5_change_30 ⟨Nat.zero_le _, Nat.zero_le _⟩ (fun _ => rfl) (fun _ => rfl) [x, st, b 0, b 1, b 2, b 3, b 4, b 5, b 6, fo] rfl (fun _ => rfl) (fun r_30 u_30 H locs e_30 hP hD hS => ?_)
        obtain rfl := e_30
        refine lv_if_ne (tgt := 42) F.1 F.2.1 dX5_change_33 (by decide) (fun c_33 => ?_) (fun c_33 => ?_)
        · have c_33 : 0 ≤ x4 ∧ x4 ≤ (if x3 = 2 then 20 else 99) := b01t rfl c_33
          refine lv_aload_n F.1 F.2.1 dX5_change_42 rfl (lv_at hl 0 rfl) ?_
          refine gf F hK hP 0 rfl rfl hiX5_change_5 0 (by decide) (List.mem_of_getElem? (i := 1) rfl) rfl dX5_change_43 ?_
          refine gf F hK hP 1 rfl rfl hiX5_change_4 0 (by decide) (List.mem_of_getElem? (i := 2) rfl) rfl dX5_change_46 ?_
          refine lv_iload_n F.1 F.2.1 dX5_change_49 rfl (lv_at hl 3 rfl) ?_
          refine rV (rest := []) (wsp := fun _ => (x, .inr (5, [.ref st, .ref kt, .int ik, .ref (tr 0), .ref sc, .ref sh, .ref fo])) :: (st, .inr (4, [.ref (b 0), .ref bk, .ref sp, .int zz])) :: (wB ct b f ++ [ai ct fo 7 (fun j => c (j + 1))])) F (kX1_stock l dC dI ct b f x3) gX5_change_X1_stock rfl ⟨rfl, rfl⟩ nmX1_stock ⟨Nat.le_of_ble_eq_true rfl, Nat.le_of_ble_eq_true rfl⟩ eT_b (fun _ _ _ => trivial) hK hP hD hS hA 2 rfl rfl rfl [2, 3, 4, 5, 6, 7, 8] (by decide) rfl rfl rfl hl.1 (Nat.le_of_ble_eq_true rfl) dX5_change_50 ⟨Nat.zero_le _, Nat.zero_le _⟩ (fun _ => rfl) (fun _ => rfl) [x, st, b 0, b 1, b 2, b 3, b 4, b 5, b 6, fo] rfl (fun _ => rfl) (fun r_50 u_50 H locs e_50 hP hD hS => ?_)
          by_cases w0 : x3 = 0
          · obtain rfl := e_50.trans (if_pos w0)
            refine lv_astore (lv' := [(5, .ref (b 2)), (0, .ref x), (1, .int (nI s)), (2, .int (nI t)), (3, .int x3), (4, .int x4)]) F.1 F.2.1 dX5_change_53 hl (by decide) rfl (fun ls hl => ?_)
            refine lv_aload F.1 F.2.1 dX5_change_55 (lv_at hl 0 rfl) ?_
            refine lv_iload_n F.1 F.2.1 dX5_change_57 rfl (lv_at hl 2 rfl) ?_
            refine lv_iconst (v := 5) F.1 F.2.1 dX5_change_58 (by decide) ?_
            refine lv_imul F.1 F.2.1 dX5_change_59 ?_
            refine tp (y := nI (s * 5)) (ml2 (a := s) (b := 5) (c := s * 5) rfl rfl rfl) ?_
            refine lv_iload_n F.1 F.2.1 dX5_change_60 rfl (lv_at hl 3 rfl) ?_
            refine lv_iadd F.1 F.2.1 dX5_change_61 ?_
            refine tp (y := nI (s * 5 + t)) (ad2 (a := s * 5) (b := t) (c := s * 5 + t) rfl rfl rfl) ?_
            refine al (v := f (22 + 17 * s + t)) F hK hP 4 0 rfl rfl (s * 5 + t) rfl (by omega) (by decide) (congrArg f (ix5 (by omega))) dX5_change_62 ?_
            refine lv_istore (lv' := [(6, .int (f (22 + 17 * s + t))), (5, .ref (b 2)), (0, .ref x), (1, .int (nI s)), (2, .int (nI t)), (3, .int x3), (4, .int x4)]) F.1 F.2.1 dX5_change_63 hl (by decide) rfl (fun ls hl => ?_)
            refine lv_aload F.1 F.2.1 dX5_change_65 (lv_at hl 1 rfl) ?_
            refine lv_iload_n F.1 F.2.1 dX5_change_67 rfl (lv_at hl 3 rfl) ?_
            refine lv_iconst (v := 5) F.1 F.2.1 dX5_change_68 (by decide) ?_
            refine lv_imul F.1 F.2.1 dX5_change_69 ?_
            refine tp (y := nI (s * 5)) (ml2 (a := s) (b := 5) (c := s * 5) rfl rfl rfl) ?_
            refine lv_iload_n F.1 F.2.1 dX5_change_70 rfl (lv_at hl 4 rfl) ?_
            refine lv_iadd F.1 F.2.1 dX5_change_71 ?_
            refine tp (y := nI (s * 5 + t)) (ad2 (a := s * 5) (b := t) (c := s * 5 + t) rfl rfl rfl) ?_
            refine lv_iload F.1 F.2.1 dX5_change_72 (lv_at hl 6 rfl) ?_
            refine ast (ws' := (x, .inr (5, [.ref st, .ref kt, .int ik, .ref (tr 0), .ref sc, .ref sh, .ref fo])) :: (st, .inr (4, [.ref (b 0), .ref bk, .ref sp, .int zz])) :: (wB ct b (upd f (22 + 17 * s + t) x4) ++ [ai ct fo 7 (fun j => c (j + 1))])) F hK hP hD hS 4 0 rfl rfl (s * 5 + t) rfl (by omega) (by decide) dX5_change_74 (weq.c (weq.c (weq_al (x := wB ct b f) (j := 2) (Nat.le_of_ble_eq_true rfl) (wq_home ct b f (by omega) (by omega))))) (fun H locs hP hD hS => ?_)
            refine lv_iload F.1 F.2.1 dX5_change_75 (lv_at hl 0 rfl) ?_
            exact rtI ((upd f (22 + 17 * s + t) x4), c) F hr hlk hP hS rfl (Eq.trans (by rw [show tn (nI s) = s from nI_clamp (by omega), show tn (nI t) = t from nI_clamp (by omega)]; try exact (by unfold kChange; rw [fldE (fld_0 w0)])) (if_pos ⟨c_4, c_11, c_20, c_33⟩).symm) dX5_change_77
          by_cases w1 : x3 = 1
          · obtain rfl := e_50.trans ((if_neg w0).trans (if_pos w1))
            refine lv_astore (lv' := [(5, .ref (b 3)), (0, .ref x), (1, .int (nI s)), (2, .int (nI t)), (3, .int x3), (4, .int x4)]) F.1 F.2.1 dX5_change_53 hl (by decide) rfl (fun ls hl => ?_)
            refine lv_aload F.1 F.2.1 dX5_change_55 (lv_at hl 0 rfl) ?_
            refine lv_iload_n F.1 F.2.1 dX5_change_57 rfl (lv_at hl 2 rfl) ?_
            refine lv_iconst (v := 5) F.1 F.2.1 dX5_change_58 (by decide) ?_
            refine lv_imul F.1 F.2.1 dX5_change_59 ?_
            refine tp (y := nI (s * 5)) (ml2 (a := s) (b := 5) (c := s * 5) rfl rfl rfl) ?_
            refine lv_iload_n F.1 F.2.1 dX5_change_60 rfl (lv_at hl 3 rfl) ?_
            refine lv_iadd F.1 F.2.1 dX5_change_61 ?_
            refine tp (y := nI (s * 5 + t)) (ad2 (a := s * 5) (b := t) (c := s * 5 + t) rfl rfl rfl) ?_
            refine al (v := f (27 + 17 * s + t)) F hK hP 5 0 rfl rfl (s * 5 + t) rfl (by omega) (by decide) (congrArg f (ix5 (by omega))) dX5_change_62 ?_
            refine lv_istore (lv' := [(6, .int (f (27 + 17 * s + t))), (5, .ref (b 3)), (0, .ref x), (1, .int (nI s)), (2, .int (nI t)), (3, .int x3), (4, .int x4)]) F.1 F.2.1 dX5_change_63 hl (by decide) rfl (fun ls hl => ?_)
            refine lv_aload F.1 F.2.1 dX5_change_65 (lv_at hl 1 rfl) ?_
            refine lv_iload_n F.1 F.2.1 dX5_change_67 rfl (lv_at hl 3 rfl) ?_
            refine lv_iconst (v := 5) F.1 F.2.1 dX5_change_68 (by decide) ?_
            refine lv_imul F.1 F.2.1 dX5_change_69 ?_
            refine tp (y := nI (s * 5)) (ml2 (a := s) (b := 5) (c := s * 5) rfl rfl rfl) ?_
            refine lv_iload_n F.1 F.2.1 dX5_change_70 rfl (lv_at hl 4 rfl) ?_
            refine lv_iadd F.1 F.2.1 dX5_change_71 ?_
            refine tp (y := nI (s * 5 + t)) (ad2 (a := s * 5) (b := t) (c := s * 5 + t) rfl rfl rfl) ?_
            refine lv_iload F.1 F.2.1 dX5_change_72 (lv_at hl 6 rfl) ?_
            refine ast (ws' := (x, .inr (5, [.ref st, .ref kt, .int ik, .ref (tr 0), .ref sc, .ref sh, .ref fo])) :: (st, .inr (4, [.ref (b 0), .ref bk, .ref sp, .int zz])) :: (wB ct b (upd f (27 + 17 * s + t) x4) ++ [ai ct fo 7 (fun j => c (j + 1))])) F hK hP hD hS 5 0 rfl rfl (s * 5 + t) rfl (by omega) (by decide) dX5_change_74 (weq.c (weq.c (weq_al (x := wB ct b f) (j := 3) (Nat.le_of_ble_eq_true rfl) (wq_heap ct b f (by omega) (by omega))))) (fun H locs hP hD hS => ?_)
            refine lv_iload F.1 F.2.1 dX5_change_75 (lv_at hl 0 rfl) ?_
            exact rtI ((upd f (27 + 17 * s + t) x4), c) F hr hlk hP hS rfl (Eq.trans (by rw [show tn (nI s) = s from nI_clamp (by omega), show tn (nI t) = t from nI_clamp (by omega)]; try exact (by unfold kChange; rw [fldE (fld_1 w1)])) (if_pos ⟨c_4, c_11, c_20, c_33⟩).symm) dX5_change_77
          obtain rfl := e_50.trans ((if_neg w0).trans (if_neg w1))
          refine lv_astore (lv' := [(5, .ref (b 4)), (0, .ref x), (1, .int (nI s)), (2, .int (nI t)), (3, .int x3), (4, .int x4)]) F.1 F.2.1 dX5_change_53 hl (by decide) rfl (fun ls hl => ?_)
          refine lv_aload F.1 F.2.1 dX5_change_55 (lv_at hl 0 rfl) ?_
          refine lv_iload_n F.1 F.2.1 dX5_change_57 rfl (lv_at hl 2 rfl) ?_
          refine lv_iconst (v := 5) F.1 F.2.1 dX5_change_58 (by decide) ?_
          refine lv_imul F.1 F.2.1 dX5_change_59 ?_
          refine tp (y := nI (s * 5)) (ml2 (a := s) (b := 5) (c := s * 5) rfl rfl rfl) ?_
          refine lv_iload_n F.1 F.2.1 dX5_change_60 rfl (lv_at hl 3 rfl) ?_
          refine lv_iadd F.1 F.2.1 dX5_change_61 ?_
          refine tp (y := nI (s * 5 + t)) (ad2 (a := s * 5) (b := t) (c := s * 5 + t) rfl rfl rfl) ?_
          refine al (v := f (32 + 17 * s + t)) F hK hP 6 0 rfl rfl (s * 5 + t) rfl (by omega) (by decide) (congrArg f (ix5 (by omega))) dX5_change_62 ?_
          refine lv_istore (lv' := [(6, .int (f (32 + 17 * s + t))), (5, .ref (b 4)), (0, .ref x), (1, .int (nI s)), (2, .int (nI t)), (3, .int x3), (4, .int x4)]) F.1 F.2.1 dX5_change_63 hl (by decide) rfl (fun ls hl => ?_)
          refine lv_aload F.1 F.2.1 dX5_change_65 (lv_at hl 1 rfl) ?_
          refine lv_iload_n F.1 F.2.1 dX5_change_67 rfl (lv_at hl 3 rfl) ?_
          refine lv_iconst (v := 5) F.1 F.2.1 dX5_change_68 (by decide) ?_
          refine lv_imul F.1 F.2.1 dX5_change_69 ?_
          refine tp (y := nI (s * 5)) (ml2 (a := s) (b := 5) (c := s * 5) rfl rfl rfl) ?_
          refine lv_iload_n F.1 F.2.1 dX5_change_70 rfl (lv_at hl 4 rfl) ?_
          refine lv_iadd F.1 F.2.1 dX5_change_71 ?_
          refine tp (y := nI (s * 5 + t)) (ad2 (a := s * 5) (b := t) (c := s * 5 + t) rfl rfl rfl) ?_
          refine lv_iload F.1 F.2.1 dX5_change_72 (lv_at hl 6 rfl) ?_
          refine ast (ws' := (x, .inr (5, [.ref st, .ref kt, .int ik, .ref (tr 0), .ref sc, .ref sh, .ref fo])) :: (st, .inr (4, [.ref (b 0), .ref bk, .ref sp, .int zz])) :: (wB ct b (upd f (32 + 17 * s + t) x4) ++ [ai ct fo 7 (fun j => c (j + 1))])) F hK hP hD hS 6 0 rfl rfl (s * 5 + t) rfl (by omega) (by decide) dX5_change_74 (weq.c (weq.c (weq_al (x := wB ct b f) (j := 4) (Nat.le_of_ble_eq_true rfl) (wq_worth ct b f (by omega) (by omega))))) (fun H locs hP hD hS => ?_)
          refine lv_iload F.1 F.2.1 dX5_change_75 (lv_at hl 0 rfl) ?_
          exact rtI ((upd f (32 + 17 * s + t) x4), c) F hr hlk hP hS rfl (Eq.trans (by rw [show tn (nI s) = s from nI_clamp (by omega), show tn (nI t) = t from nI_clamp (by omega)]; try exact (by unfold kChange; rw [fldE (fld_2 w0 w1)])) (if_pos ⟨c_4, c_11, c_20, c_33⟩).symm) dX5_change_77
        · have c_33 : ¬ (0 ≤ x4 ∧ x4 ≤ (if x3 = 2 then 20 else 99)) := b01f rfl c_33
          refine lv_aload_n F.1 F.2.1 dX5_change_36 rfl (lv_at hl 0 rfl) ?_
          refine lv_iconst (v := 0) F.1 F.2.1 dX5_change_37 (by decide) ?_
          refine iV (rest := []) (wsp := fun _ => (x, .inr (5, [.ref st, .ref kt, .int ik, .ref (tr 0), .ref sc, .ref sh, .ref fo])) :: (st, .inr (4, [.ref (b 0), .ref bk, .ref sp, .int zz])) :: (wB ct b f ++ [ai ct fo 7 (fun j => (fnd c 1) (j + 1))])) F (kX5_finding l dC dI ct x st kt sc sh fo tr ik c 0 1 (-1000001) (by decide) (by decide) (by decide)) gX5_change_X5_finding rfl ⟨rfl, rfl⟩ nmX5_finding ⟨Nat.le_of_ble_eq_true rfl, Nat.le_of_ble_eq_true rfl⟩ eT_b (fun _ _ _ => trivial) hK hP hD hS hA 0 rfl rfl rfl [0, 9] (by decide) rfl rfl rfl hl.1 (Nat.le_of_ble_eq_true rfl) dX5_change_38 ⟨Nat.zero_le _, Nat.zero_le _⟩ (fun _ => rfl) (fun _ => rfl) [x, st, b 0, b 1, b 2, b 3, b 4, b 5, b 6, fo] rfl (fun _ => rfl) (fun r_38 u_38 H locs e_38 hP hD hS => ?_)
          obtain rfl := e_38
          exact rtI (f, (fnd c 1)) F hr hlk hP hS rfl ((if_neg (fun q => c_33 q.2.2.2)).symm) dX5_change_41

def rmX5_side : Room := { frames := 2, cells := 0, slots := 0, locals := 42 }
theorem nmX5_side : NmV yX5_side RX5 3 := by unfold NmV; decide +kernel
theorem hiX5_side_1 : ∀ w ∈ u_ws RX1 TX1 10, w ∈ wsX5_side := by decide +kernel
theorem hiX5_side_4 : ∀ w ∈ u_ws RX4 TX4 4, w ∈ wsX5_side := by decide +kernel
theorem hiX5_side_5 : ∀ w ∈ u_ws RX5 TX5 7, w ∈ wsX5_side := by decide +kernel
set_option maxHeartbeats 4000000 in
set_option maxRecDepth 100000 in
theorem kX5_side (l : Launch) (dC : Nat → ClassId) (dI : Nat → Nat → Nat) (ct : Nat → ClassId) (x st kt sc sh fo bk sp : Nat) (tr b : Nat → Nat) (ik zz : Int32) (f c : Nat → Int32) (x1 x2 x3 : Int32) : MI (S := (Nat → Int32) × (Nat → Int32)) l yX5_side wsX5_side rmX5_side dC dI ct eT [.ref x, .int x1, .int x2, .int x3] ((x, .inr (5, [.ref st, .ref kt, .int ik, .ref (tr 0), .ref sc, .ref sh, .ref fo])) :: (st, .inr (4, [.ref (b 0), .ref bk, .ref sp, .int zz])) :: (wB ct b f ++ [ai ct fo 7 (fun j => c (j + 1))])) (fun u => (x, .inr (5, [.ref st, .ref kt, .int ik, .ref (tr 0), .ref sc, .ref sh, .ref fo])) :: (st, .inr (4, [.ref (b 0), .ref bk, .ref sp, .int zz])) :: (wB ct b u.1 ++ [ai ct fo 7 (fun j => u.2 (j + 1))])) (fun r u => (r, u.1, u.2) = sSide f c x1 x2 x3) := by
  refine MI.of (cc := cX5_side) (maxL := 6) (ret := (some .int)) (by decide) rfl (Nat.le_of_ble_eq_true rfl) ?_
  intro pg en z mi below meth cd A F hr hlk hin hK hP hD hA hS hE ls hl
  have F : CallFix pg mi cd cX5_side 6 z _ wsX5_side RX5 := F
  have hl : lv_has ls 6 [(0, .ref x), (1, .int x1), (2, .int x2), (3, .int x3)] := hl
  refine lv_iload_n F.1 F.2.1 dX5_side_0 rfl (lv_at hl 1 rfl) ?_
  refine iS (rest := []) (wsp := fun _ => (x, .inr (5, [.ref st, .ref kt, .int ik, .ref (tr 0), .ref sc, .ref sh, .ref fo])) :: (st, .inr (4, [.ref (b 0), .ref bk, .ref sp, .int zz])) :: (wB ct b f ++ [ai ct fo 7 (fun j => c (j + 1))])) F (kX5_isSide l dC dI ct x1) gX5_side_X5_isSide rfl ⟨rfl, rfl⟩ nmX5_isSide ⟨Nat.le_of_ble_eq_true rfl, Nat.le_of_ble_eq_true rfl⟩ eT_b (fun _ _ _ => trivial) hK hP hD hS hA [] (by decide) rfl rfl rfl hl.1 (Nat.le_of_ble_eq_true rfl) dX5_side_1 ⟨Nat.zero_le _, Nat.zero_le _⟩ (fun _ => rfl) (fun _ => rfl) [x, st, b 0, b 1, b 2, b 3, b 4, b 5, b 6, fo] rfl (fun _ => rfl) (fun r_1 u_1 H locs e_1 hP hD hS => ?_)
  obtain rfl := e_1
  refine lv_if_eq (tgt := 35) F.1 F.2.1 dX5_side_4 (by decide) (fun c_4 => ?_) (fun c_4 => ?_)
  · have c_4 : ¬ (0 ≤ x1 ∧ x1 ≤ 1) := b01f rfl c_4
    refine lv_aload_n F.1 F.2.1 dX5_side_35 rfl (lv_at hl 0 rfl) ?_
    refine lv_iconst (v := 0) F.1 F.2.1 dX5_side_36 (by decide) ?_
    refine iV (rest := []) (wsp := fun _ => (x, .inr (5, [.ref st, .ref kt, .int ik, .ref (tr 0), .ref sc, .ref sh, .ref fo])) :: (st, .inr (4, [.ref (b 0), .ref bk, .ref sp, .int zz])) :: (wB ct b f ++ [ai ct fo 7 (fun j => (fnd c 1) (j + 1))])) F (kX5_finding l dC dI ct x st kt sc sh fo tr ik c 0 1 (-1000001) (by decide) (by decide) (by decide)) gX5_side_X5_finding rfl ⟨rfl, rfl⟩ nmX5_finding ⟨Nat.le_of_ble_eq_true rfl, Nat.le_of_ble_eq_true rfl⟩ eT_b (fun _ _ _ => trivial) hK hP hD hS hA 0 rfl rfl rfl [0, 9] (by decide) rfl rfl rfl hl.1 (Nat.le_of_ble_eq_true rfl) dX5_side_37 ⟨Nat.zero_le _, Nat.zero_le _⟩ (fun _ => rfl) (fun _ => rfl) [x, st, b 0, b 1, b 2, b 3, b 4, b 5, b 6, fo] rfl (fun _ => rfl) (fun r_37 u_37 H locs e_37 hP hD hS => ?_)
    obtain rfl := e_37
    exact rtI (f, (fnd c 1)) F hr hlk hP hS rfl ((if_neg (fun q => c_4 q.1)).symm) dX5_side_40
  · have c_4 : 0 ≤ x1 ∧ x1 ≤ 1 := b01t rfl c_4
    obtain ⟨s, hs, rfl⟩ := gS_n c_4
    refine lv_iload_n F.1 F.2.1 dX5_side_7 rfl (lv_at hl 2 rfl) ?_
    refine lv_iconst (v := 0) F.1 F.2.1 dX5_side_8 (by decide) ?_
    refine lv_iconst (v := 1) F.1 F.2.1 dX5_side_9 (by decide) ?_
    refine iS (rest := []) (wsp := fun _ => (x, .inr (5, [.ref st, .ref kt, .int ik, .ref (tr 0), .ref sc, .ref sh, .ref fo])) :: (st, .inr (4, [.ref (b 0), .ref bk, .ref sp, .int zz])) :: (wB ct b f ++ [ai ct fo 7 (fun j => c (j + 1))])) F (kX5_isIn l dC dI ct x2 0 1) gX5_side_X5_isIn rfl ⟨rfl, rfl⟩ nmX5_isIn ⟨Nat.le_of_ble_eq_true rfl, Nat.le_of_ble_eq_true rfl⟩ eT_b (fun _ _ _ => trivial) hK hP hD hS hA [] (by decide) rfl rfl rfl hl.1 (Nat.le_of_ble_eq_true rfl) dX5_side_10 ⟨Nat.zero_le _, Nat.zero_le _⟩ (fun _ => rfl) (fun _ => rfl) [x, st, b 0, b 1, b 2, b 3, b 4, b 5, b 6, fo] rfl (fun _ => rfl) (fun r_10 u_10 H locs e_10 hP hD hS => ?_)
    obtain rfl := e_10
    refine lv_if_eq (tgt := 35) F.1 F.2.1 dX5_side_13 (by decide) (fun c_13 => ?_) (fun c_13 => ?_)
    · have c_13 : ¬ (0 ≤ x2 ∧ x2 ≤ 1) := b01f rfl c_13
      refine lv_aload_n F.1 F.2.1 dX5_side_35 rfl (lv_at hl 0 rfl) ?_
      refine lv_iconst (v := 0) F.1 F.2.1 dX5_side_36 (by decide) ?_
      refine iV (rest := []) (wsp := fun _ => (x, .inr (5, [.ref st, .ref kt, .int ik, .ref (tr 0), .ref sc, .ref sh, .ref fo])) :: (st, .inr (4, [.ref (b 0), .ref bk, .ref sp, .int zz])) :: (wB ct b f ++ [ai ct fo 7 (fun j => (fnd c 1) (j + 1))])) F (kX5_finding l dC dI ct x st kt sc sh fo tr ik c 0 1 (-1000001) (by decide) (by decide) (by decide)) gX5_side_X5_finding rfl ⟨rfl, rfl⟩ nmX5_finding ⟨Nat.le_of_ble_eq_true rfl, Nat.le_of_ble_eq_true rfl⟩ eT_b (fun _ _ _ => trivial) hK hP hD hS hA 0 rfl rfl rfl [0, 9] (by decide) rfl rfl rfl hl.1 (Nat.le_of_ble_eq_true rfl) dX5_side_37 ⟨Nat.zero_le _, Nat.zero_le _⟩ (fun _ => rfl) (fun _ => rfl) [x, st, b 0, b 1, b 2, b 3, b 4, b 5, b 6, fo] rfl (fun _ => rfl) (fun r_37 u_37 H locs e_37 hP hD hS => ?_)
      obtain rfl := e_37
      exact rtI (f, (fnd c 1)) F hr hlk hP hS rfl ((if_neg (fun q => c_13 (q.2.elim (fun r => by rw [r.1]; decide) (fun r => by rw [r.1]; decide)))).symm) dX5_side_40
    · have c_13 : 0 ≤ x2 ∧ x2 ≤ 1 := b01t rfl c_13
      refine lv_iload_n F.1 F.2.1 dX5_side_16 rfl (lv_at hl 3 rfl) ?_
      refine lv_iconst (v := 0) F.1 F.2.1 dX5_side_17 (by decide) ?_
      refine lv_iload_n F.1 F.2.1 dX5_side_18 rfl (lv_at hl 2 rfl) ?_
      refine lv_if_ne (tgt := 27) F.1 F.2.1 dX5_side_19 (by decide) (fun c_19 => ?_) (fun c_19 => ?_)
      · have e1 := w01 c_13 c_19
        refine lv_bipush (v := 9) F.1 F.2.1 dX5_side_27 (by decide) ?_
        refine iS (rest := []) (wsp := fun _ => (x, .inr (5, [.ref st, .ref kt, .int ik, .ref (tr 0), .ref sc, .ref sh, .ref fo])) :: (st, .inr (4, [.ref (b 0), .ref bk, .ref sp, .int zz])) :: (wB ct b f ++ [ai ct fo 7 (fun j => c (j + 1))])) F (kX5_isIn l dC dI ct x3 0 9) gX5_side_X5_isIn rfl ⟨rfl, rfl⟩ nmX5_isIn ⟨Nat.le_of_ble_eq_true rfl, Nat.le_of_ble_eq_true rfl⟩ eT_b (fun _ _ _ => trivial) hK hP hD hS hA [] (by decide) rfl rfl rfl hl.1 (Nat.le_of_ble_eq_true rfl) dX5_side_29 ⟨Nat.zero_le _, Nat.zero_le _⟩ (fun _ => rfl) (fun _ => rfl) [x, st, b 0, b 1, b 2, b 3, b 4, b 5, b 6, fo] rfl (fun _ => rfl) (fun r_29 u_29 H locs e_29 hP hD hS => ?_)
        obtain rfl := e_29
        refine lv_if_ne (tgt := 41) F.1 F.2.1 dX5_side_32 (by decide) (fun c_32 => ?_) (fun c_32 => ?_)
        · have c_32 : 0 ≤ x3 ∧ x3 ≤ 9 := b01t rfl c_32
          refine lv_iload_n F.1 F.2.1 dX5_side_41 rfl (lv_at hl 2 rfl) ?_
          refine lv_if_ne (tgt := 58) F.1 F.2.1 dX5_side_42 (by decide) (fun c_42 => ?_) (fun c_42 => ?_)
          · refine lv_aload_n F.1 F.2.1 dX5_side_58 rfl (lv_at hl 0 rfl) ?_
            refine gf F hK hP 0 rfl rfl hiX5_side_5 0 (by decide) (List.mem_of_getElem? (i := 1) rfl) rfl dX5_side_59 ?_
            refine gf F hK hP 1 rfl rfl hiX5_side_4 0 (by decide) (List.mem_of_getElem? (i := 2) rfl) rfl dX5_side_62 ?_
            refine gf F hK hP 2 rfl rfl hiX5_side_1 5 (by decide) (List.mem_of_getElem? (i := 4) rfl) rfl dX5_side_65 ?_
            refine lv_astore (lv' := [(4, .ref (b 6)), (0, .ref x), (1, .int (nI s)), (2, .int x2), (3, .int x3)]) F.1 F.2.1 dX5_side_68 hl (by decide) rfl (fun ls hl => ?_)
            refine lv_aload F.1 F.2.1 dX5_side_70 (lv_at hl 0 rfl) ?_
            refine lv_iload_n F.1 F.2.1 dX5_side_72 rfl (lv_at hl 2 rfl) ?_
            refine al (v := f (21 + 17 * s)) F hK hP 8 0 rfl rfl s rfl (by omega) (by decide) rfl dX5_side_73 ?_
            refine lv_istore (lv' := [(5, .int (f (21 + 17 * s))), (4, .ref (b 6)), (0, .ref x), (1, .int (nI s)), (2, .int x2), (3, .int x3)]) F.1 F.2.1 dX5_side_74 hl (by decide) rfl (fun ls hl => ?_)
            refine lv_aload F.1 F.2.1 dX5_side_76 (lv_at hl 1 rfl) ?_
            refine lv_iload_n F.1 F.2.1 dX5_side_78 rfl (lv_at hl 3 rfl) ?_
            refine lv_iload_n F.1 F.2.1 dX5_side_79 rfl (lv_at hl 5 rfl) ?_
            refine ast (ws' := (x, .inr (5, [.ref st, .ref kt, .int ik, .ref (tr 0), .ref sc, .ref sh, .ref fo])) :: (st, .inr (4, [.ref (b 0), .ref bk, .ref sp, .int zz])) :: (wB ct b (upd f (21 + 17 * s) x3) ++ [ai ct fo 7 (fun j => c (j + 1))])) F hK hP hD hS 8 0 rfl rfl s rfl (by omega) (by decide) dX5_side_80 (weq.c (weq.c (weq_al (x := wB ct b f) (j := 6) (Nat.le_of_ble_eq_true rfl) (wq_trust ct b f (by omega))))) (fun H locs hP hD hS => ?_)
            refine lv_iload F.1 F.2.1 dX5_side_81 (lv_at hl 0 rfl) ?_
            exact rtI ((upd f (21 + 17 * s) x3), c) F hr hlk hP hS rfl (Eq.trans (by rw [show tn (nI s) = s from nI_clamp (by omega), e1]; exact kSide1 f c s x3) (if_pos ⟨c_4, Or.inr ⟨e1, c_32⟩⟩).symm) dX5_side_83
          · exact absurd c_42 c_19
        · have c_32 : ¬ (0 ≤ x3 ∧ x3 ≤ 9) := b01f rfl c_32
          refine lv_aload_n F.1 F.2.1 dX5_side_35 rfl (lv_at hl 0 rfl) ?_
          refine lv_iconst (v := 0) F.1 F.2.1 dX5_side_36 (by decide) ?_
          refine iV (rest := []) (wsp := fun _ => (x, .inr (5, [.ref st, .ref kt, .int ik, .ref (tr 0), .ref sc, .ref sh, .ref fo])) :: (st, .inr (4, [.ref (b 0), .ref bk, .ref sp, .int zz])) :: (wB ct b f ++ [ai ct fo 7 (fun j => (fnd c 1) (j + 1))])) F (kX5_finding l dC dI ct x st kt sc sh fo tr ik c 0 1 (-1000001) (by decide) (by decide) (by decide)) gX5_side_X5_finding rfl ⟨rfl, rfl⟩ nmX5_finding ⟨Nat.le_of_ble_eq_true rfl, Nat.le_of_ble_eq_true rfl⟩ eT_b (fun _ _ _ => trivial) hK hP hD hS hA 0 rfl rfl rfl [0, 9] (by decide) rfl rfl rfl hl.1 (Nat.le_of_ble_eq_true rfl) dX5_side_37 ⟨Nat.zero_le _, Nat.zero_le _⟩ (fun _ => rfl) (fun _ => rfl) [x, st, b 0, b 1, b 2, b 3, b 4, b 5, b 6, fo] rfl (fun _ => rfl) (fun r_37 u_37 H locs e_37 hP hD hS => ?_)
          obtain rfl := e_37
          exact rtI (f, (fnd c 1)) F hr hlk hP hS rfl ((if_neg (fun q => q.2.elim (fun r => c_19 r.1) (fun r => c_32 r.2))).symm) dX5_side_40
      · refine lv_bipush (v := 50) F.1 F.2.1 dX5_side_22 (by decide) ?_
        refine lv_goto (tgt := 29) F.1 F.2.1 dX5_side_24 (by decide) ?_
        refine iS (rest := []) (wsp := fun _ => (x, .inr (5, [.ref st, .ref kt, .int ik, .ref (tr 0), .ref sc, .ref sh, .ref fo])) :: (st, .inr (4, [.ref (b 0), .ref bk, .ref sp, .int zz])) :: (wB ct b f ++ [ai ct fo 7 (fun j => c (j + 1))])) F (kX5_isIn l dC dI ct x3 0 50) gX5_side_X5_isIn rfl ⟨rfl, rfl⟩ nmX5_isIn ⟨Nat.le_of_ble_eq_true rfl, Nat.le_of_ble_eq_true rfl⟩ eT_b (fun _ _ _ => trivial) hK hP hD hS hA [] (by decide) rfl rfl rfl hl.1 (Nat.le_of_ble_eq_true rfl) dX5_side_29 ⟨Nat.zero_le _, Nat.zero_le _⟩ (fun _ => rfl) (fun _ => rfl) [x, st, b 0, b 1, b 2, b 3, b 4, b 5, b 6, fo] rfl (fun _ => rfl) (fun r_29 u_29 H locs e_29 hP hD hS => ?_)
        obtain rfl := e_29
        refine lv_if_ne (tgt := 41) F.1 F.2.1 dX5_side_32 (by decide) (fun c_32 => ?_) (fun c_32 => ?_)
        · have c_32 : 0 ≤ x3 ∧ x3 ≤ 50 := b01t rfl c_32
          refine lv_iload_n F.1 F.2.1 dX5_side_41 rfl (lv_at hl 2 rfl) ?_
          refine lv_if_ne (tgt := 58) F.1 F.2.1 dX5_side_42 (by decide) (fun c_42 => ?_) (fun c_42 => ?_)
          · exact absurd c_19 c_42
          · refine lv_aload_n F.1 F.2.1 dX5_side_45 rfl (lv_at hl 0 rfl) ?_
            refine gf F hK hP 0 rfl rfl hiX5_side_5 0 (by decide) (List.mem_of_getElem? (i := 1) rfl) rfl dX5_side_46 ?_
            refine gf F hK hP 1 rfl rfl hiX5_side_4 0 (by decide) (List.mem_of_getElem? (i := 2) rfl) rfl dX5_side_49 ?_
            refine gf F hK hP 2 rfl rfl hiX5_side_1 4 (by decide) (List.mem_of_getElem? (i := 3) rfl) rfl dX5_side_52 ?_
            refine lv_goto (tgt := 68) F.1 F.2.1 dX5_side_55 (by decide) ?_
            refine lv_astore (lv' := [(4, .ref (b 5)), (0, .ref x), (1, .int (nI s)), (2, .int x2), (3, .int x3)]) F.1 F.2.1 dX5_side_68 hl (by decide) rfl (fun ls hl => ?_)
            refine lv_aload F.1 F.2.1 dX5_side_70 (lv_at hl 0 rfl) ?_
            refine lv_iload_n F.1 F.2.1 dX5_side_72 rfl (lv_at hl 2 rfl) ?_
            refine al (v := f (20 + 17 * s)) F hK hP 7 0 rfl rfl s rfl (by omega) (by decide) rfl dX5_side_73 ?_
            refine lv_istore (lv' := [(5, .int (f (20 + 17 * s))), (4, .ref (b 5)), (0, .ref x), (1, .int (nI s)), (2, .int x2), (3, .int x3)]) F.1 F.2.1 dX5_side_74 hl (by decide) rfl (fun ls hl => ?_)
            refine lv_aload F.1 F.2.1 dX5_side_76 (lv_at hl 1 rfl) ?_
            refine lv_iload_n F.1 F.2.1 dX5_side_78 rfl (lv_at hl 3 rfl) ?_
            refine lv_iload_n F.1 F.2.1 dX5_side_79 rfl (lv_at hl 5 rfl) ?_
            refine ast (ws' := (x, .inr (5, [.ref st, .ref kt, .int ik, .ref (tr 0), .ref sc, .ref sh, .ref fo])) :: (st, .inr (4, [.ref (b 0), .ref bk, .ref sp, .int zz])) :: (wB ct b (upd f (20 + 17 * s) x3) ++ [ai ct fo 7 (fun j => c (j + 1))])) F hK hP hD hS 7 0 rfl rfl s rfl (by omega) (by decide) dX5_side_80 (weq.c (weq.c (weq_al (x := wB ct b f) (j := 5) (Nat.le_of_ble_eq_true rfl) (wq_greed ct b f (by omega))))) (fun H locs hP hD hS => ?_)
            refine lv_iload F.1 F.2.1 dX5_side_81 (lv_at hl 0 rfl) ?_
            exact rtI ((upd f (20 + 17 * s) x3), c) F hr hlk hP hS rfl (Eq.trans (by rw [show tn (nI s) = s from nI_clamp (by omega), c_19]; exact kSide0 f c s x3) (if_pos ⟨c_4, Or.inl ⟨c_19, c_32⟩⟩).symm) dX5_side_83
        · have c_32 : ¬ (0 ≤ x3 ∧ x3 ≤ 50) := b01f rfl c_32
          refine lv_aload_n F.1 F.2.1 dX5_side_35 rfl (lv_at hl 0 rfl) ?_
          refine lv_iconst (v := 0) F.1 F.2.1 dX5_side_36 (by decide) ?_
          refine iV (rest := []) (wsp := fun _ => (x, .inr (5, [.ref st, .ref kt, .int ik, .ref (tr 0), .ref sc, .ref sh, .ref fo])) :: (st, .inr (4, [.ref (b 0), .ref bk, .ref sp, .int zz])) :: (wB ct b f ++ [ai ct fo 7 (fun j => (fnd c 1) (j + 1))])) F (kX5_finding l dC dI ct x st kt sc sh fo tr ik c 0 1 (-1000001) (by decide) (by decide) (by decide)) gX5_side_X5_finding rfl ⟨rfl, rfl⟩ nmX5_finding ⟨Nat.le_of_ble_eq_true rfl, Nat.le_of_ble_eq_true rfl⟩ eT_b (fun _ _ _ => trivial) hK hP hD hS hA 0 rfl rfl rfl [0, 9] (by decide) rfl rfl rfl hl.1 (Nat.le_of_ble_eq_true rfl) dX5_side_37 ⟨Nat.zero_le _, Nat.zero_le _⟩ (fun _ => rfl) (fun _ => rfl) [x, st, b 0, b 1, b 2, b 3, b 4, b 5, b 6, fo] rfl (fun _ => rfl) (fun r_37 u_37 H locs e_37 hP hD hS => ?_)
          obtain rfl := e_37
          exact rtI (f, (fnd c 1)) F hr hlk hP hS rfl ((if_neg (fun q => q.2.elim (fun r => c_32 r.2) (fun r => absurd (c_19.symm.trans r.1) (by decide)))).symm) dX5_side_40

def rmX5_frost : Room := { frames := 1, cells := 0, slots := 0, locals := 22 }
theorem nmX5_frost : NmV yX5_frost RX5 1 := by unfold NmV; decide +kernel
theorem hiX5_frost_1 : ∀ w ∈ u_ws RX1 TX1 10, w ∈ wsX5_frost := by decide +kernel
theorem hiX5_frost_4 : ∀ w ∈ u_ws RX4 TX4 4, w ∈ wsX5_frost := by decide +kernel
theorem hiX5_frost_5 : ∀ w ∈ u_ws RX5 TX5 7, w ∈ wsX5_frost := by decide +kernel
set_option maxHeartbeats 4000000 in
set_option maxRecDepth 100000 in
theorem kX5_frost (l : Launch) (dC : Nat → ClassId) (dI : Nat → Nat → Nat) (ct : Nat → ClassId) (x st kt sc sh fo bk sp : Nat) (tr b : Nat → Nat) (ik zz : Int32) (f c : Nat → Int32) (x1 : Int32) : MI (S := (Nat → Int32) × (Nat → Int32)) l yX5_frost wsX5_frost rmX5_frost dC dI ct eT [.ref x, .int x1] ((x, .inr (5, [.ref st, .ref kt, .int ik, .ref (tr 0), .ref sc, .ref sh, .ref fo])) :: (st, .inr (4, [.ref (b 0), .ref bk, .ref sp, .int zz])) :: (wB ct b f ++ [ai ct fo 7 (fun j => c (j + 1))])) (fun u => (x, .inr (5, [.ref st, .ref kt, .int ik, .ref (tr 0), .ref sc, .ref sh, .ref fo])) :: (st, .inr (4, [.ref (b 0), .ref bk, .ref sp, .int zz])) :: (wB ct b u.1 ++ [ai ct fo 7 (fun j => u.2 (j + 1))])) (fun r u => (r, u.1, u.2) = sFrost f c x1) := by
  refine MI.of (cc := cX5_frost) (maxL := 3) (ret := (some .int)) (by decide) rfl (Nat.le_of_ble_eq_true rfl) ?_
  intro pg en z mi below meth cd A F hr hlk hin hK hP hD hA hS hE ls hl
  have F : CallFix pg mi cd cX5_frost 3 z _ wsX5_frost RX5 := F
  have hl : lv_has ls 3 [(0, .ref x), (1, .int x1)] := hl
  refine lv_iload_n F.1 F.2.1 dX5_frost_0 rfl (lv_at hl 1 rfl) ?_
  refine lv_iconst (v := 0) F.1 F.2.1 dX5_frost_1 (by decide) ?_
  refine lv_bipush (v := 9) F.1 F.2.1 dX5_frost_2 (by decide) ?_
  refine iS (rest := []) (wsp := fun _ => (x, .inr (5, [.ref st, .ref kt, .int ik, .ref (tr 0), .ref sc, .ref sh, .ref fo])) :: (st, .inr (4, [.ref (b 0), .ref bk, .ref sp, .int zz])) :: (wB ct b f ++ [ai ct fo 7 (fun j => c (j + 1))])) F (kX5_isIn l dC dI ct x1 0 9) gX5_frost_X5_isIn rfl ⟨rfl, rfl⟩ nmX5_isIn ⟨Nat.le_of_ble_eq_true rfl, Nat.le_of_ble_eq_true rfl⟩ eT_b (fun _ _ _ => trivial) hK hP hD hS hA [] (by decide) rfl rfl rfl hl.1 (Nat.le_of_ble_eq_true rfl) dX5_frost_4 ⟨Nat.zero_le _, Nat.zero_le _⟩ (fun _ => rfl) (fun _ => rfl) [x, st, b 0, b 1, b 2, b 3, b 4, b 5, b 6, fo] rfl (fun _ => rfl) (fun r_4 u_4 H locs e_4 hP hD hS => ?_)
  obtain rfl := e_4
  refine lv_if_ne (tgt := 16) F.1 F.2.1 dX5_frost_7 (by decide) (fun c_7 => ?_) (fun c_7 => ?_)
  · have c_7 : 0 ≤ x1 ∧ x1 ≤ 9 := b01t rfl c_7
    refine lv_aload_n F.1 F.2.1 dX5_frost_16 rfl (lv_at hl 0 rfl) ?_
    refine gf F hK hP 0 rfl rfl hiX5_frost_5 0 (by decide) (List.mem_of_getElem? (i := 1) rfl) rfl dX5_frost_17 ?_
    refine gf F hK hP 1 rfl rfl hiX5_frost_4 0 (by decide) (List.mem_of_getElem? (i := 2) rfl) rfl dX5_frost_20 ?_
    refine gf F hK hP 2 rfl rfl hiX5_frost_1 6 (by decide) (List.mem_of_getElem? (i := 3) rfl) rfl dX5_frost_23 ?_
    refine lv_istore_n (lv' := [(2, .int (f 1)), (0, .ref x), (1, .int x1)]) F.1 F.2.1 dX5_frost_26 rfl hl (by decide) rfl (fun ls hl => ?_)
    refine lv_aload_n F.1 F.2.1 dX5_frost_27 rfl (lv_at hl 1 rfl) ?_
    refine gf F hK hP 0 rfl rfl hiX5_frost_5 0 (by decide) (List.mem_of_getElem? (i := 1) rfl) rfl dX5_frost_28 ?_
    refine gf F hK hP 1 rfl rfl hiX5_frost_4 0 (by decide) (List.mem_of_getElem? (i := 2) rfl) rfl dX5_frost_31 ?_
    refine lv_iload_n F.1 F.2.1 dX5_frost_34 rfl (lv_at hl 2 rfl) ?_
    refine pf (ws' := (x, .inr (5, [.ref st, .ref kt, .int ik, .ref (tr 0), .ref sc, .ref sh, .ref fo])) :: (st, .inr (4, [.ref (b 0), .ref bk, .ref sp, .int zz])) :: (wB ct b (upd f 1 x1) ++ [ai ct fo 7 (fun j => c (j + 1))])) F hK hP hD hS 2 rfl rfl hiX5_frost_1 tyX1 tyX1_ok nmX1 6 (by decide) (List.mem_of_getElem? (i := 3) rfl) rfl rfl rfl (Nat.le_of_ble_eq_true rfl) dX5_frost_35 (weq.c (weq.c (weq_al (x := wB ct b f) (j := 0) (Nat.le_of_ble_eq_true rfl) (wq_f1 ct b f _)))) (fun H locs hP hD hS => ?_)
    refine lv_iload_n F.1 F.2.1 dX5_frost_38 rfl (lv_at hl 0 rfl) ?_
    exact rtI ((upd f 1 x1), c) F hr hlk hP hS rfl (Eq.trans rfl (if_pos c_7).symm) dX5_frost_39
  · have c_7 : ¬ (0 ≤ x1 ∧ x1 ≤ 9) := b01f rfl c_7
    refine lv_aload_n F.1 F.2.1 dX5_frost_10 rfl (lv_at hl 0 rfl) ?_
    refine lv_iconst (v := 0) F.1 F.2.1 dX5_frost_11 (by decide) ?_
    refine iV (rest := []) (wsp := fun _ => (x, .inr (5, [.ref st, .ref kt, .int ik, .ref (tr 0), .ref sc, .ref sh, .ref fo])) :: (st, .inr (4, [.ref (b 0), .ref bk, .ref sp, .int zz])) :: (wB ct b f ++ [ai ct fo 7 (fun j => (fnd c 1) (j + 1))])) F (kX5_finding l dC dI ct x st kt sc sh fo tr ik c 0 1 (-1000001) (by decide) (by decide) (by decide)) gX5_frost_X5_finding rfl ⟨rfl, rfl⟩ nmX5_finding ⟨Nat.le_of_ble_eq_true rfl, Nat.le_of_ble_eq_true rfl⟩ eT_b (fun _ _ _ => trivial) hK hP hD hS hA 0 rfl rfl rfl [0, 9] (by decide) rfl rfl rfl hl.1 (Nat.le_of_ble_eq_true rfl) dX5_frost_12 ⟨Nat.zero_le _, Nat.zero_le _⟩ (fun _ => rfl) (fun _ => rfl) [x, st, b 0, b 1, b 2, b 3, b 4, b 5, b 6, fo] rfl (fun _ => rfl) (fun r_12 u_12 H locs e_12 hP hD hS => ?_)
    obtain rfl := e_12
    exact rtI (f, (fnd c 1)) F hr hlk hP hS rfl ((if_neg (fun q => c_7 q)).symm) dX5_frost_15
