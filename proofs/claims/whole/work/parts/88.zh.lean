def rmX2_isLetter : Room := { frames := 0, cells := 0, slots := 0, locals := 0 }
theorem nmX2_isLetter : NmV yX2_isLetter RX2 1 := by unfold NmV; decide +kernel
theorem hiX2_isLetter_2 : ∀ w ∈ u_ws RX2 TX2 6, w ∈ wsX2_isLetter := by decide +kernel
set_option maxHeartbeats 4000000 in
set_option maxRecDepth 100000 in
theorem kX2_isLetter (l : Launch) (dC : Nat → ClassId) (dI : Nat → Nat → Nat) (ct : Nat → ClassId) (sc ty : Nat) (y : Nat → Int32) (n : Nat) (t1 t2 t3 t4 : Int32) (q : Nat) (hq : q < 120) : MI (S := Unit) l yX2_isLetter wsX2_isLetter rmX2_isLetter dC dI ct eT [.ref sc, .int (nI q)] ((sc, .inr (2, [.ref ty, .int (nI n), .int t1, .int t2, .int t3, .int t4])) :: [ai ct ty 120 y]) (fun _ => (sc, .inr (2, [.ref ty, .int (nI n), .int t1, .int t2, .int t3, .int t4])) :: [ai ct ty 120 y]) (fun r _ => r = if 97 ≤ y q ∧ y q ≤ 122 then 1 else 0) := by
  refine MI.of (cc := cX2_isLetter) (maxL := 2) (ret := (some .boolean)) (by decide) rfl (Nat.le_of_ble_eq_true rfl) ?_
  intro pg en z mi below meth cd A F hr hlk hin hK hP hD hA hS hE ls hl
  have F : CallFix pg mi cd cX2_isLetter 2 z _ wsX2_isLetter RX2 := F
  have hl : lv_has ls 2 [(0, .ref sc), (1, .int (nI q))] := hl
  refine lv_aload_n F.1 F.2.1 dX2_isLetter_0 rfl (lv_at hl 0 rfl) ?_
  refine gf F hK hP 0 rfl rfl hiX2_isLetter_2 0 (by decide) (List.mem_of_getElem? (i := 1) rfl) rfl dX2_isLetter_1 ?_
  refine lv_iload_n F.1 F.2.1 dX2_isLetter_4 rfl (lv_at hl 1 rfl) ?_
  refine al (v := y q) F hK hP 1 0 rfl rfl q rfl (by omega) (by decide) rfl dX2_isLetter_5 ?_
  refine lv_bipush (v := 97) F.1 F.2.1 dX2_isLetter_6 (by decide) ?_
  refine lv_icmp_lt (tgt := 26) F.1 F.2.1 dX2_isLetter_8 (by decide) (fun c_8 => ?_) (fun c_8 => ?_)
  · refine lv_iconst (v := 0) F.1 F.2.1 dX2_isLetter_26 (by decide) ?_
    exact rtZ () F hr hlk hP hS rfl ((if_neg (fun q => Int32.not_lt.mpr q.1 c_8)).symm) (Or.inl rfl) dX2_isLetter_27
  · refine lv_aload_n F.1 F.2.1 dX2_isLetter_11 rfl (lv_at hl 0 rfl) ?_
    refine gf F hK hP 0 rfl rfl hiX2_isLetter_2 0 (by decide) (List.mem_of_getElem? (i := 1) rfl) rfl dX2_isLetter_12 ?_
    refine lv_iload_n F.1 F.2.1 dX2_isLetter_15 rfl (lv_at hl 1 rfl) ?_
    refine al (v := y q) F hK hP 1 0 rfl rfl q rfl (by omega) (by decide) rfl dX2_isLetter_16 ?_
    refine lv_bipush (v := 122) F.1 F.2.1 dX2_isLetter_17 (by decide) ?_
    refine lv_icmp_gt (tgt := 26) F.1 F.2.1 dX2_isLetter_19 (by decide) (fun c_19 => ?_) (fun c_19 => ?_)
    · refine lv_iconst (v := 0) F.1 F.2.1 dX2_isLetter_26 (by decide) ?_
      exact rtZ () F hr hlk hP hS rfl ((if_neg (fun q => Int32.not_lt.mpr q.2 c_19)).symm) (Or.inl rfl) dX2_isLetter_27
    · refine lv_iconst (v := 1) F.1 F.2.1 dX2_isLetter_22 (by decide) ?_
      refine lv_goto (tgt := 27) F.1 F.2.1 dX2_isLetter_23 (by decide) ?_
      exact rtZ () F hr hlk hP hS rfl ((if_pos ⟨Int32.not_lt.mp c_8, Int32.not_lt.mp c_19⟩).symm) (Or.inr rfl) dX2_isLetter_27

def rmX2_isDigit : Room := { frames := 0, cells := 0, slots := 0, locals := 0 }
theorem nmX2_isDigit : NmV yX2_isDigit RX2 1 := by unfold NmV; decide +kernel
theorem hiX2_isDigit_2 : ∀ w ∈ u_ws RX2 TX2 6, w ∈ wsX2_isDigit := by decide +kernel
set_option maxHeartbeats 4000000 in
set_option maxRecDepth 100000 in
theorem kX2_isDigit (l : Launch) (dC : Nat → ClassId) (dI : Nat → Nat → Nat) (ct : Nat → ClassId) (sc ty : Nat) (y : Nat → Int32) (n : Nat) (t1 t2 t3 t4 : Int32) (q : Nat) (hq : q < 120) : MI (S := Unit) l yX2_isDigit wsX2_isDigit rmX2_isDigit dC dI ct eT [.ref sc, .int (nI q)] ((sc, .inr (2, [.ref ty, .int (nI n), .int t1, .int t2, .int t3, .int t4])) :: [ai ct ty 120 y]) (fun _ => (sc, .inr (2, [.ref ty, .int (nI n), .int t1, .int t2, .int t3, .int t4])) :: [ai ct ty 120 y]) (fun r _ => r = if 48 ≤ y q ∧ y q ≤ 57 then 1 else 0) := by
  refine MI.of (cc := cX2_isDigit) (maxL := 2) (ret := (some .boolean)) (by decide) rfl (Nat.le_of_ble_eq_true rfl) ?_
  intro pg en z mi below meth cd A F hr hlk hin hK hP hD hA hS hE ls hl
  have F : CallFix pg mi cd cX2_isDigit 2 z _ wsX2_isDigit RX2 := F
  have hl : lv_has ls 2 [(0, .ref sc), (1, .int (nI q))] := hl
  refine lv_aload_n F.1 F.2.1 dX2_isDigit_0 rfl (lv_at hl 0 rfl) ?_
  refine gf F hK hP 0 rfl rfl hiX2_isDigit_2 0 (by decide) (List.mem_of_getElem? (i := 1) rfl) rfl dX2_isDigit_1 ?_
  refine lv_iload_n F.1 F.2.1 dX2_isDigit_4 rfl (lv_at hl 1 rfl) ?_
  refine al (v := y q) F hK hP 1 0 rfl rfl q rfl (by omega) (by decide) rfl dX2_isDigit_5 ?_
  refine lv_bipush (v := 48) F.1 F.2.1 dX2_isDigit_6 (by decide) ?_
  refine lv_icmp_lt (tgt := 26) F.1 F.2.1 dX2_isDigit_8 (by decide) (fun c_8 => ?_) (fun c_8 => ?_)
  · refine lv_iconst (v := 0) F.1 F.2.1 dX2_isDigit_26 (by decide) ?_
    exact rtZ () F hr hlk hP hS rfl ((if_neg (fun q => Int32.not_lt.mpr q.1 c_8)).symm) (Or.inl rfl) dX2_isDigit_27
  · refine lv_aload_n F.1 F.2.1 dX2_isDigit_11 rfl (lv_at hl 0 rfl) ?_
    refine gf F hK hP 0 rfl rfl hiX2_isDigit_2 0 (by decide) (List.mem_of_getElem? (i := 1) rfl) rfl dX2_isDigit_12 ?_
    refine lv_iload_n F.1 F.2.1 dX2_isDigit_15 rfl (lv_at hl 1 rfl) ?_
    refine al (v := y q) F hK hP 1 0 rfl rfl q rfl (by omega) (by decide) rfl dX2_isDigit_16 ?_
    refine lv_bipush (v := 57) F.1 F.2.1 dX2_isDigit_17 (by decide) ?_
    refine lv_icmp_gt (tgt := 26) F.1 F.2.1 dX2_isDigit_19 (by decide) (fun c_19 => ?_) (fun c_19 => ?_)
    · refine lv_iconst (v := 0) F.1 F.2.1 dX2_isDigit_26 (by decide) ?_
      exact rtZ () F hr hlk hP hS rfl ((if_neg (fun q => Int32.not_lt.mpr q.2 c_19)).symm) (Or.inl rfl) dX2_isDigit_27
    · refine lv_iconst (v := 1) F.1 F.2.1 dX2_isDigit_22 (by decide) ?_
      refine lv_goto (tgt := 27) F.1 F.2.1 dX2_isDigit_23 (by decide) ?_
      exact rtZ () F hr hlk hP hS rfl ((if_pos ⟨Int32.not_lt.mp c_8, Int32.not_lt.mp c_19⟩).symm) (Or.inr rfl) dX2_isDigit_27

def rmX2_readWord : Room := { frames := 1, cells := 0, slots := 0, locals := 21 }
theorem nmX2_readWord : NmV yX2_readWord RX2 0 := by unfold NmV; decide +kernel
theorem hiX2_readWord_2 : ∀ w ∈ u_ws RX2 TX2 6, w ∈ wsX2_readWord := by decide +kernel
set_option maxHeartbeats 4000000 in
set_option maxRecDepth 100000 in
theorem kX2_readWord (l : Launch) (dC : Nat → ClassId) (dI : Nat → Nat → Nat) (ct : Nat → ClassId) (sc ty : Nat) (y : Nat → Int32) (n : Nat) (t1 t2 t4 : Int32) (b : Nat) (hn : n ≤ 120) (hb : b ≤ n) : MV (S := Unit) l yX2_readWord wsX2_readWord rmX2_readWord dC dI ct eT [.ref sc] ((sc, .inr (2, [.ref ty, .int (nI n), .int t1, .int t2, .int (nI b), .int t4])) :: [ai ct ty 120 y]) (fun _ => (sc, .inr (2, [.ref ty, .int (nI n), .int 1, .int t2, .int (nI (rn (leB y) n b)), .int t4])) :: [ai ct ty 120 y]) (fun _ => True) := by
  refine MV.of (cc := cX2_readWord) (maxL := 1) (ret := none) (by decide) rfl (Nat.le_of_ble_eq_true rfl) ?_
  intro pg en z mi below meth cd A F hr hlk hin hK hP hD hA hS hE ls hl
  have F : CallFix pg mi cd cX2_readWord 1 z _ wsX2_readWord RX2 := F
  have hl : lv_has ls 1 [(0, .ref sc)] := hl
  obtain ⟨q, eq, hq1, hq2, hq3, hq4⟩ := rn_spec (P := leB y) (n := n) (p := b) hb
  refine lv_aload_n F.1 F.2.1 dX2_readWord_0 rfl (lv_at hl 0 rfl) ?_
  refine lv_iconst (v := 1) F.1 F.2.1 dX2_readWord_1 (by decide) ?_
  refine pf (ws' := (sc, .inr (2, [.ref ty, .int (nI n), .int 1, .int t2, .int (nI b), .int t4])) :: [ai ct ty 120 y]) F hK hP hD hS 0 rfl rfl hiX2_readWord_2 tyX2 tyX2_ok nmX2 2 (by decide) (List.mem_of_getElem? (i := 1) rfl) rfl rfl rfl (Nat.le_of_ble_eq_true rfl) dX2_readWord_2 (weq.rf _) (fun H locs hP hD hS => ?_)
  refine loopN (I := fun k H locs ls => va_P (dC, dI) vwCl ((sc, .inr (2, [.ref ty, .int (nI n), .int 1, .int t2, .int (nI (b + k)), .int t4])) :: [ai ct ty 120 y]) H ∧ va_D A ((sc, .inr (2, [.ref ty, .int (nI n), .int 1, .int t2, .int (nI (b + k)), .int t4])) :: [ai ct ty 120 y]) ∧ va_S A z.heap H locs ∧ lv_has ls 1 [(0, .ref sc)]) (q - b) 0 (by omega) ⟨hP, hD, hS, lv_sub hl [0] rfl⟩ (fun H locs ls hI => ?_) (fun k hk_k H locs ls hI ih_5 => ?_)
  · obtain ⟨hP, hD, hS, hl⟩ := hI
    rw [show b + (q - b) = q by omega] at hP hD
    refine lv_aload_n F.1 F.2.1 dX2_readWord_5 rfl (lv_at hl 0 rfl) ?_
    refine gf F hK hP 0 rfl rfl hiX2_readWord_2 4 (by decide) (List.mem_of_getElem? (i := 2) rfl) rfl dX2_readWord_6 ?_
    refine lv_aload_n F.1 F.2.1 dX2_readWord_9 rfl (lv_at hl 0 rfl) ?_
    refine gf F hK hP 0 rfl rfl hiX2_readWord_2 1 (by decide) (List.mem_of_getElem? (i := 3) rfl) rfl dX2_readWord_10 ?_
    refine lv_icmp_ge (tgt := 40) F.1 F.2.1 dX2_readWord_13 (by decide) (fun c_13 => ?_) (fun c_13 => ?_)
    · rw [← eq] at hP hD
      exact rtV () F hr hlk hP hS rfl trivial dX2_readWord_40
    · refine lv_aload_n F.1 F.2.1 dX2_readWord_16 rfl (lv_at hl 0 rfl) ?_
      refine lv_aload_n F.1 F.2.1 dX2_readWord_17 rfl (lv_at hl 0 rfl) ?_
      refine gf F hK hP 0 rfl rfl hiX2_readWord_2 4 (by decide) (List.mem_of_getElem? (i := 2) rfl) rfl dX2_readWord_18 ?_
      refine iV (rest := []) (wsp := fun _ => (sc, .inr (2, [.ref ty, .int (nI n), .int 1, .int t2, .int (nI q), .int t4])) :: [ai ct ty 120 y]) F (kX2_isLetter l dC dI ct sc ty y n 1 t2 (nI q) t4 q (by have := lt_nle2 c_13 (by omega); omega)) gX2_readWord_X2_isLetter rfl ⟨rfl, rfl⟩ nmX2_isLetter ⟨Nat.le_of_ble_eq_true rfl, Nat.le_of_ble_eq_true rfl⟩ eT_b (fun _ _ _ => trivial) hK hP hD hS hA 0 rfl rfl rfl [0, 1] (by decide) rfl rfl rfl hl.1 (Nat.le_of_ble_eq_true rfl) dX2_readWord_21 ⟨Nat.zero_le _, Nat.zero_le _⟩ (fun _ => rfl) (fun _ => rfl) [sc, ty] rfl (fun _ => rfl) (fun r_21 u_21 H locs e_21 hP hD hS => ?_)
      obtain rfl := e_21
      refine lv_if_eq (tgt := 40) F.1 F.2.1 dX2_readWord_24 (by decide) (fun c_24 => ?_) (fun c_24 => ?_)
      · have c_24 : ¬ (97 ≤ y q ∧ y q ≤ 122) := b01f rfl c_24
        rw [← eq] at hP hD
        exact rtV () F hr hlk hP hS rfl trivial dX2_readWord_40
      · exact absurd (if_neg (leB_no (hq4 (lt_nle2 c_13 (by omega))))) c_24
  · obtain ⟨hP, hD, hS, hl⟩ := hI
    refine lv_aload_n F.1 F.2.1 dX2_readWord_5 rfl (lv_at hl 0 rfl) ?_
    refine gf F hK hP 0 rfl rfl hiX2_readWord_2 4 (by decide) (List.mem_of_getElem? (i := 2) rfl) rfl dX2_readWord_6 ?_
    refine lv_aload_n F.1 F.2.1 dX2_readWord_9 rfl (lv_at hl 0 rfl) ?_
    refine gf F hK hP 0 rfl rfl hiX2_readWord_2 1 (by decide) (List.mem_of_getElem? (i := 3) rfl) rfl dX2_readWord_10 ?_
    refine lv_icmp_ge (tgt := 40) F.1 F.2.1 dX2_readWord_13 (by decide) (fun c_13 => ?_) (fun c_13 => ?_)
    · exact absurd c_13 (nI_ge (show b + k < n by omega) (by omega))
    · refine lv_aload_n F.1 F.2.1 dX2_readWord_16 rfl (lv_at hl 0 rfl) ?_
      refine lv_aload_n F.1 F.2.1 dX2_readWord_17 rfl (lv_at hl 0 rfl) ?_
      refine gf F hK hP 0 rfl rfl hiX2_readWord_2 4 (by decide) (List.mem_of_getElem? (i := 2) rfl) rfl dX2_readWord_18 ?_
      refine iV (rest := []) (wsp := fun _ => (sc, .inr (2, [.ref ty, .int (nI n), .int 1, .int t2, .int (nI (b + k)), .int t4])) :: [ai ct ty 120 y]) F (kX2_isLetter l dC dI ct sc ty y n 1 t2 (nI (b + k)) t4 (b + k) (by omega)) gX2_readWord_X2_isLetter rfl ⟨rfl, rfl⟩ nmX2_isLetter ⟨Nat.le_of_ble_eq_true rfl, Nat.le_of_ble_eq_true rfl⟩ eT_b (fun _ _ _ => trivial) hK hP hD hS hA 0 rfl rfl rfl [0, 1] (by decide) rfl rfl rfl hl.1 (Nat.le_of_ble_eq_true rfl) dX2_readWord_21 ⟨Nat.zero_le _, Nat.zero_le _⟩ (fun _ => rfl) (fun _ => rfl) [sc, ty] rfl (fun _ => rfl) (fun r_21 u_21 H locs e_21 hP hD hS => ?_)
      obtain rfl := e_21
      refine lv_if_eq (tgt := 40) F.1 F.2.1 dX2_readWord_24 (by decide) (fun c_24 => ?_) (fun c_24 => ?_)
      · exact absurd c_24 (by rw [if_pos (leB_yes (hq3 (b + k) (by omega) (by omega)))]; decide)
      · have c_24 : 97 ≤ y (b + k) ∧ y (b + k) ≤ 122 := b01t rfl c_24
        refine lv_aload_n F.1 F.2.1 dX2_readWord_27 rfl (lv_at hl 0 rfl) ?_
        refine lv_dup F.1 F.2.1 dX2_readWord_28 rfl ?_
        refine gf F hK hP 0 rfl rfl hiX2_readWord_2 4 (by decide) (List.mem_of_getElem? (i := 2) rfl) rfl dX2_readWord_29 ?_
        refine lv_iconst (v := 1) F.1 F.2.1 dX2_readWord_32 (by decide) ?_
        refine lv_iadd F.1 F.2.1 dX2_readWord_33 ?_
        refine tp (y := nI (b + k + 1)) (ad2 (a := b + k) (b := 1) (c := b + k + 1) rfl rfl rfl) ?_
        refine pf (ws' := (sc, .inr (2, [.ref ty, .int (nI n), .int 1, .int t2, .int (nI (b + k + 1)), .int t4])) :: [ai ct ty 120 y]) F hK hP hD hS 0 rfl rfl hiX2_readWord_2 tyX2 tyX2_ok nmX2 4 (by decide) (List.mem_of_getElem? (i := 2) rfl) rfl rfl rfl (Nat.le_of_ble_eq_true rfl) dX2_readWord_34 (weq.rf _) (fun H locs hP hD hS => ?_)
        refine lv_goto (tgt := 5) F.1 F.2.1 dX2_readWord_37 (by decide) ?_
        exact ih_5 _ _ _ ⟨hP, hD, hS, lv_sub hl [0] rfl⟩

def rmX2_readNumber : Room := { frames := 1, cells := 0, slots := 0, locals := 21 }
theorem nmX2_readNumber : NmV yX2_readNumber RX2 0 := by unfold NmV; decide +kernel
theorem hiX2_readNumber_2 : ∀ w ∈ u_ws RX2 TX2 6, w ∈ wsX2_readNumber := by decide +kernel
set_option maxHeartbeats 4000000 in
set_option maxRecDepth 100000 in
theorem kX2_readNumber (l : Launch) (dC : Nat → ClassId) (dI : Nat → Nat → Nat) (ct : Nat → ClassId) (sc ty : Nat) (y : Nat → Int32) (n : Nat) (t1 t2 t4 : Int32) (b : Nat) (hn : n ≤ 120) (hb : b ≤ n) : MV (S := Unit) l yX2_readNumber wsX2_readNumber rmX2_readNumber dC dI ct eT [.ref sc] ((sc, .inr (2, [.ref ty, .int (nI n), .int t1, .int t2, .int (nI b), .int t4])) :: [ai ct ty 120 y]) (fun _ => (sc, .inr (2, [.ref ty, .int (nI n), .int 2, .int t2, .int (nI (rn (dgB y) n b)), .int (nvU y b (rn (dgB y) n b - b))])) :: [ai ct ty 120 y]) (fun _ => True) := by
  refine MV.of (cc := cX2_readNumber) (maxL := 1) (ret := none) (by decide) rfl (Nat.le_of_ble_eq_true rfl) ?_
  intro pg en z mi below meth cd A F hr hlk hin hK hP hD hA hS hE ls hl
  have F : CallFix pg mi cd cX2_readNumber 1 z _ wsX2_readNumber RX2 := F
  have hl : lv_has ls 1 [(0, .ref sc)] := hl
  obtain ⟨q, eq, hq1, hq2, hq3, hq4⟩ := rn_spec (P := dgB y) (n := n) (p := b) hb
  refine lv_aload_n F.1 F.2.1 dX2_readNumber_0 rfl (lv_at hl 0 rfl) ?_
  refine lv_iconst (v := 2) F.1 F.2.1 dX2_readNumber_1 (by decide) ?_
  refine pf (ws' := (sc, .inr (2, [.ref ty, .int (nI n), .int 2, .int t2, .int (nI b), .int t4])) :: [ai ct ty 120 y]) F hK hP hD hS 0 rfl rfl hiX2_readNumber_2 tyX2 tyX2_ok nmX2 2 (by decide) (List.mem_of_getElem? (i := 1) rfl) rfl rfl rfl (Nat.le_of_ble_eq_true rfl) dX2_readNumber_2 (weq.rf _) (fun H locs hP hD hS => ?_)
  refine lv_aload_n F.1 F.2.1 dX2_readNumber_5 rfl (lv_at hl 0 rfl) ?_
  refine lv_iconst (v := 0) F.1 F.2.1 dX2_readNumber_6 (by decide) ?_
  refine pf (ws' := (sc, .inr (2, [.ref ty, .int (nI n), .int 2, .int t2, .int (nI b), .int 0])) :: [ai ct ty 120 y]) F hK hP hD hS 0 rfl rfl hiX2_readNumber_2 tyX2 tyX2_ok nmX2 5 (by decide) (List.mem_of_getElem? (i := 2) rfl) rfl rfl rfl (Nat.le_of_ble_eq_true rfl) dX2_readNumber_7 (weq.rf _) (fun H locs hP hD hS => ?_)
  refine loopN (I := fun k H locs ls => va_P (dC, dI) vwCl ((sc, .inr (2, [.ref ty, .int (nI n), .int 2, .int t2, .int (nI (b + k)), .int (nvU y b k)])) :: [ai ct ty 120 y]) H ∧ va_D A ((sc, .inr (2, [.ref ty, .int (nI n), .int 2, .int t2, .int (nI (b + k)), .int (nvU y b k)])) :: [ai ct ty 120 y]) ∧ va_S A z.heap H locs ∧ lv_has ls 1 [(0, .ref sc)]) (q - b) 0 (by omega) ⟨hP, hD, hS, lv_sub hl [0] rfl⟩ (fun H locs ls hI => ?_) (fun k hk_k H locs ls hI ih_10 => ?_)
  · obtain ⟨hP, hD, hS, hl⟩ := hI
    rw [show b + (q - b) = q by omega] at hP hD
    refine lv_aload_n F.1 F.2.1 dX2_readNumber_10 rfl (lv_at hl 0 rfl) ?_
    refine gf F hK hP 0 rfl rfl hiX2_readNumber_2 4 (by decide) (List.mem_of_getElem? (i := 3) rfl) rfl dX2_readNumber_11 ?_
    refine lv_aload_n F.1 F.2.1 dX2_readNumber_14 rfl (lv_at hl 0 rfl) ?_
    refine gf F hK hP 0 rfl rfl hiX2_readNumber_2 1 (by decide) (List.mem_of_getElem? (i := 4) rfl) rfl dX2_readNumber_15 ?_
    refine lv_icmp_ge (tgt := 75) F.1 F.2.1 dX2_readNumber_18 (by decide) (fun c_18 => ?_) (fun c_18 => ?_)
    · rw [← eq] at hP hD
      exact rtV () F hr hlk hP hS rfl trivial dX2_readNumber_75
    · refine lv_aload_n F.1 F.2.1 dX2_readNumber_21 rfl (lv_at hl 0 rfl) ?_
      refine lv_aload_n F.1 F.2.1 dX2_readNumber_22 rfl (lv_at hl 0 rfl) ?_
      refine gf F hK hP 0 rfl rfl hiX2_readNumber_2 4 (by decide) (List.mem_of_getElem? (i := 3) rfl) rfl dX2_readNumber_23 ?_
      refine iV (rest := []) (wsp := fun _ => (sc, .inr (2, [.ref ty, .int (nI n), .int 2, .int t2, .int (nI q), .int (nvU y b (q - b))])) :: [ai ct ty 120 y]) F (kX2_isDigit l dC dI ct sc ty y n 2 t2 (nI q) (nvU y b (q - b)) q (by have := lt_nle2 c_18 (by omega); omega)) gX2_readNumber_X2_isDigit rfl ⟨rfl, rfl⟩ nmX2_isDigit ⟨Nat.le_of_ble_eq_true rfl, Nat.le_of_ble_eq_true rfl⟩ eT_b (fun _ _ _ => trivial) hK hP hD hS hA 0 rfl rfl rfl [0, 1] (by decide) rfl rfl rfl hl.1 (Nat.le_of_ble_eq_true rfl) dX2_readNumber_26 ⟨Nat.zero_le _, Nat.zero_le _⟩ (fun _ => rfl) (fun _ => rfl) [sc, ty] rfl (fun _ => rfl) (fun r_26 u_26 H locs e_26 hP hD hS => ?_)
      obtain rfl := e_26
      refine lv_if_eq (tgt := 75) F.1 F.2.1 dX2_readNumber_29 (by decide) (fun c_29 => ?_) (fun c_29 => ?_)
      · have c_29 : ¬ (48 ≤ y q ∧ y q ≤ 57) := b01f rfl c_29
        rw [← eq] at hP hD
        exact rtV () F hr hlk hP hS rfl trivial dX2_readNumber_75
      · exact absurd (if_neg (dgB_no (hq4 (lt_nle2 c_18 (by omega))))) c_29
  · obtain ⟨hP, hD, hS, hl⟩ := hI
    refine lv_aload_n F.1 F.2.1 dX2_readNumber_10 rfl (lv_at hl 0 rfl) ?_
    refine gf F hK hP 0 rfl rfl hiX2_readNumber_2 4 (by decide) (List.mem_of_getElem? (i := 3) rfl) rfl dX2_readNumber_11 ?_
    refine lv_aload_n F.1 F.2.1 dX2_readNumber_14 rfl (lv_at hl 0 rfl) ?_
    refine gf F hK hP 0 rfl rfl hiX2_readNumber_2 1 (by decide) (List.mem_of_getElem? (i := 4) rfl) rfl dX2_readNumber_15 ?_
    refine lv_icmp_ge (tgt := 75) F.1 F.2.1 dX2_readNumber_18 (by decide) (fun c_18 => ?_) (fun c_18 => ?_)
    · exact absurd c_18 (nI_ge (show b + k < n by omega) (by omega))
    · refine lv_aload_n F.1 F.2.1 dX2_readNumber_21 rfl (lv_at hl 0 rfl) ?_
      refine lv_aload_n F.1 F.2.1 dX2_readNumber_22 rfl (lv_at hl 0 rfl) ?_
      refine gf F hK hP 0 rfl rfl hiX2_readNumber_2 4 (by decide) (List.mem_of_getElem? (i := 3) rfl) rfl dX2_readNumber_23 ?_
      refine iV (rest := []) (wsp := fun _ => (sc, .inr (2, [.ref ty, .int (nI n), .int 2, .int t2, .int (nI (b + k)), .int (nvU y b k)])) :: [ai ct ty 120 y]) F (kX2_isDigit l dC dI ct sc ty y n 2 t2 (nI (b + k)) (nvU y b k) (b + k) (by omega)) gX2_readNumber_X2_isDigit rfl ⟨rfl, rfl⟩ nmX2_isDigit ⟨Nat.le_of_ble_eq_true rfl, Nat.le_of_ble_eq_true rfl⟩ eT_b (fun _ _ _ => trivial) hK hP hD hS hA 0 rfl rfl rfl [0, 1] (by decide) rfl rfl rfl hl.1 (Nat.le_of_ble_eq_true rfl) dX2_readNumber_26 ⟨Nat.zero_le _, Nat.zero_le _⟩ (fun _ => rfl) (fun _ => rfl) [sc, ty] rfl (fun _ => rfl) (fun r_26 u_26 H locs e_26 hP hD hS => ?_)
      obtain rfl := e_26
      refine lv_if_eq (tgt := 75) F.1 F.2.1 dX2_readNumber_29 (by decide) (fun c_29 => ?_) (fun c_29 => ?_)
      · exact absurd c_29 (by rw [if_pos (dgB_yes (hq3 (b + k) (by omega) (by omega)))]; decide)
      · have c_29 : 48 ≤ y (b + k) ∧ y (b + k) ≤ 57 := b01t rfl c_29
        refine lv_aload_n F.1 F.2.1 dX2_readNumber_32 rfl (lv_at hl 0 rfl) ?_
        refine lv_sipush (v := 1000) F.1 F.2.1 dX2_readNumber_33 (by decide) ?_
        refine lv_bipush (v := 10) F.1 F.2.1 dX2_readNumber_36 (by decide) ?_
        refine lv_aload_n F.1 F.2.1 dX2_readNumber_38 rfl (lv_at hl 0 rfl) ?_
        refine gf F hK hP 0 rfl rfl hiX2_readNumber_2 5 (by decide) (List.mem_of_getElem? (i := 2) rfl) rfl dX2_readNumber_39 ?_
        refine lv_imul F.1 F.2.1 dX2_readNumber_42 ?_
        refine lv_aload_n F.1 F.2.1 dX2_readNumber_43 rfl (lv_at hl 0 rfl) ?_
        refine gf F hK hP 0 rfl rfl hiX2_readNumber_2 0 (by decide) (List.mem_of_getElem? (i := 5) rfl) rfl dX2_readNumber_44 ?_
        refine lv_aload_n F.1 F.2.1 dX2_readNumber_47 rfl (lv_at hl 0 rfl) ?_
        refine gf F hK hP 0 rfl rfl hiX2_readNumber_2 4 (by decide) (List.mem_of_getElem? (i := 3) rfl) rfl dX2_readNumber_48 ?_
        refine al (v := y (b + k)) F hK hP 1 0 rfl rfl (b + k) rfl (by omega) (by decide) rfl dX2_readNumber_51 ?_
        refine lv_iadd F.1 F.2.1 dX2_readNumber_52 ?_
        refine lv_bipush (v := 48) F.1 F.2.1 dX2_readNumber_53 (by decide) ?_
        refine lv_isub F.1 F.2.1 dX2_readNumber_55 ?_
        refine va_mmin F.1 F.2.1 (F.2.2.1.trans hl.1.symm) F.2.2.2.1 (F.2.2.2.2 _ (List.mem_of_getElem? (i := 6) rfl)) (F.2.2.2.2 _ (List.mem_of_getElem? (i := 7) rfl)) (F.2.2.2.2 _ (List.mem_of_getElem? (i := 8) rfl)) (F.2.2.2.2 _ (List.mem_of_getElem? (i := 9) rfl)) (Nat.le_of_ble_eq_true rfl) (Nat.le_of_ble_eq_true rfl) (Nat.zero_le _) (Nat.zero_le _) dX2_readNumber_56 ?_
        refine tp (y := mn 1000 (((10 * (nvU y b k)) + (y (b + k))) - 48)) rfl ?_
        refine pf (ws' := (sc, .inr (2, [.ref ty, .int (nI n), .int 2, .int t2, .int (nI (b + k)), .int (mn 1000 (((10 * (nvU y b k)) + (y (b + k))) - 48))])) :: [ai ct ty 120 y]) F hK hP hD hS 0 rfl rfl hiX2_readNumber_2 tyX2 tyX2_ok nmX2 5 (by decide) (List.mem_of_getElem? (i := 2) rfl) rfl rfl rfl (Nat.le_of_ble_eq_true rfl) dX2_readNumber_59 (weq.rf _) (fun H locs hP hD hS => ?_)
        refine lv_aload_n F.1 F.2.1 dX2_readNumber_62 rfl (lv_at hl 0 rfl) ?_
        refine lv_dup F.1 F.2.1 dX2_readNumber_63 rfl ?_
        refine gf F hK hP 0 rfl rfl hiX2_readNumber_2 4 (by decide) (List.mem_of_getElem? (i := 3) rfl) rfl dX2_readNumber_64 ?_
        refine lv_iconst (v := 1) F.1 F.2.1 dX2_readNumber_67 (by decide) ?_
        refine lv_iadd F.1 F.2.1 dX2_readNumber_68 ?_
        refine tp (y := nI (b + k + 1)) (ad2 (a := b + k) (b := 1) (c := b + k + 1) rfl rfl rfl) ?_
        refine pf (ws' := (sc, .inr (2, [.ref ty, .int (nI n), .int 2, .int t2, .int (nI (b + k + 1)), .int (mn 1000 (((10 * (nvU y b k)) + (y (b + k))) - 48))])) :: [ai ct ty 120 y]) F hK hP hD hS 0 rfl rfl hiX2_readNumber_2 tyX2 tyX2_ok nmX2 4 (by decide) (List.mem_of_getElem? (i := 3) rfl) rfl rfl rfl (Nat.le_of_ble_eq_true rfl) dX2_readNumber_69 (weq.rf _) (fun H locs hP hD hS => ?_)
        refine lv_goto (tgt := 10) F.1 F.2.1 dX2_readNumber_72 (by decide) ?_
        exact ih_10 _ _ _ ⟨hP, hD, hS, lv_sub hl [0] rfl⟩

def rmX2_advance : Room := { frames := 2, cells := 0, slots := 0, locals := 41 }
theorem nmX2_advance : NmV yX2_advance RX2 0 := by unfold NmV; decide +kernel
theorem hiX2_advance_2 : ∀ w ∈ u_ws RX2 TX2 6, w ∈ wsX2_advance := by decide +kernel
set_option maxHeartbeats 4000000 in
set_option maxRecDepth 100000 in
theorem kX2_advance (l : Launch) (dC : Nat → ClassId) (dI : Nat → Nat → Nat) (ct : Nat → ClassId) (sc ty : Nat) (y : Nat → Int32) (n : Nat) (t1 t2 t4 : Int32) (p : Nat) (hn : n ≤ 120) (hp : p ≤ n) : MV (S := Unit) l yX2_advance wsX2_advance rmX2_advance dC dI ct eT [.ref sc] ((sc, .inr (2, [.ref ty, .int (nI n), .int t1, .int t2, .int (nI p), .int t4])) :: [ai ct ty 120 y]) (fun _ => (sc, .inr (2, [.ref ty, .int (nI n), .int (nI (tK y n p)), .int (nI (tB y n p)), .int (nI (tE y n p)), .int (tW y n p t4)])) :: [ai ct ty 120 y]) (fun _ => True) := by
  refine MV.of (cc := cX2_advance) (maxL := 1) (ret := none) (by decide) rfl (Nat.le_of_ble_eq_true rfl) ?_
  intro pg en z mi below meth cd A F hr hlk hin hK hP hD hA hS hE ls hl
  have F : CallFix pg mi cd cX2_advance 1 z _ wsX2_advance RX2 := F
  have hl : lv_has ls 1 [(0, .ref sc)] := hl
  obtain ⟨b, eb, hb1, hb2, hb3, hb4⟩ := tB_spec (y := y) hp
  refine lv_aload_n F.1 F.2.1 dX2_advance_0 rfl (lv_at hl 0 rfl) ?_
  refine lv_aload_n F.1 F.2.1 dX2_advance_1 rfl (lv_at hl 0 rfl) ?_
  refine gf F hK hP 0 rfl rfl hiX2_advance_2 4 (by decide) (List.mem_of_getElem? (i := 1) rfl) rfl dX2_advance_2 ?_
  refine pf (ws' := (sc, .inr (2, [.ref ty, .int (nI n), .int t1, .int (nI p), .int (nI p), .int t4])) :: [ai ct ty 120 y]) F hK hP hD hS 0 rfl rfl hiX2_advance_2 tyX2 tyX2_ok nmX2 3 (by decide) (List.mem_of_getElem? (i := 2) rfl) rfl rfl rfl (Nat.le_of_ble_eq_true rfl) dX2_advance_5 (weq.rf _) (fun H locs hP hD hS => ?_)
  refine loopN (I := fun k H locs ls => va_P (dC, dI) vwCl ((sc, .inr (2, [.ref ty, .int (nI n), .int t1, .int (nI (p + k)), .int (nI p), .int t4])) :: [ai ct ty 120 y]) H ∧ va_D A ((sc, .inr (2, [.ref ty, .int (nI n), .int t1, .int (nI (p + k)), .int (nI p), .int t4])) :: [ai ct ty 120 y]) ∧ va_S A z.heap H locs ∧ lv_has ls 1 [(0, .ref sc)]) (b - p) 0 (by omega) ⟨hP, hD, hS, lv_sub hl [0] rfl⟩ (fun H locs ls hI => ?_) (fun k hk_k H locs ls hI ih_8 => ?_)
  · obtain ⟨hP, hD, hS, hl⟩ := hI
    rw [show p + (b - p) = b by omega] at hP hD
    refine lv_aload_n F.1 F.2.1 dX2_advance_8 rfl (lv_at hl 0 rfl) ?_
    refine gf F hK hP 0 rfl rfl hiX2_advance_2 3 (by decide) (List.mem_of_getElem? (i := 2) rfl) rfl dX2_advance_9 ?_
    refine lv_aload_n F.1 F.2.1 dX2_advance_12 rfl (lv_at hl 0 rfl) ?_
    refine gf F hK hP 0 rfl rfl hiX2_advance_2 1 (by decide) (List.mem_of_getElem? (i := 3) rfl) rfl dX2_advance_13 ?_
    refine lv_icmp_ge (tgt := 46) F.1 F.2.1 dX2_advance_16 (by decide) (fun c_16 => ?_) (fun c_16 => ?_)
    · refine lv_aload_n F.1 F.2.1 dX2_advance_46 rfl (lv_at hl 0 rfl) ?_
      refine lv_aload_n F.1 F.2.1 dX2_advance_47 rfl (lv_at hl 0 rfl) ?_
      refine gf F hK hP 0 rfl rfl hiX2_advance_2 3 (by decide) (List.mem_of_getElem? (i := 2) rfl) rfl dX2_advance_48 ?_
      refine pf (ws' := (sc, .inr (2, [.ref ty, .int (nI n), .int t1, .int (nI b), .int (nI b), .int t4])) :: [ai ct ty 120 y]) F hK hP hD hS 0 rfl rfl hiX2_advance_2 tyX2 tyX2_ok nmX2 4 (by decide) (List.mem_of_getElem? (i := 1) rfl) rfl rfl rfl (Nat.le_of_ble_eq_true rfl) dX2_advance_51 (weq.rf _) (fun H locs hP hD hS => ?_)
      refine lv_aload_n F.1 F.2.1 dX2_advance_54 rfl (lv_at hl 0 rfl) ?_
      refine gf F hK hP 0 rfl rfl hiX2_advance_2 3 (by decide) (List.mem_of_getElem? (i := 2) rfl) rfl dX2_advance_55 ?_
      refine lv_aload_n F.1 F.2.1 dX2_advance_58 rfl (lv_at hl 0 rfl) ?_
      refine gf F hK hP 0 rfl rfl hiX2_advance_2 1 (by decide) (List.mem_of_getElem? (i := 3) rfl) rfl dX2_advance_59 ?_
      refine lv_icmp_lt (tgt := 73) F.1 F.2.1 dX2_advance_62 (by decide) (fun c_62 => ?_) (fun c_62 => ?_)
      · have hbn : b < n := (nI_ltI (by omega) (by omega)).mp c_62
        refine lv_aload_n F.1 F.2.1 dX2_advance_73 rfl (lv_at hl 0 rfl) ?_
        refine lv_aload_n F.1 F.2.1 dX2_advance_74 rfl (lv_at hl 0 rfl) ?_
        refine gf F hK hP 0 rfl rfl hiX2_advance_2 3 (by decide) (List.mem_of_getElem? (i := 2) rfl) rfl dX2_advance_75 ?_
        refine iV (rest := []) (wsp := fun _ => (sc, .inr (2, [.ref ty, .int (nI n), .int t1, .int (nI b), .int (nI b), .int t4])) :: [ai ct ty 120 y]) F (kX2_isLetter l dC dI ct sc ty y n t1 (nI b) (nI b) t4 b (by omega)) gX2_advance_X2_isLetter rfl ⟨rfl, rfl⟩ nmX2_isLetter ⟨Nat.le_of_ble_eq_true rfl, Nat.le_of_ble_eq_true rfl⟩ eT_b (fun _ _ _ => trivial) hK hP hD hS hA 0 rfl rfl rfl [0, 1] (by decide) rfl rfl rfl hl.1 (Nat.le_of_ble_eq_true rfl) dX2_advance_78 ⟨Nat.zero_le _, Nat.zero_le _⟩ (fun _ => rfl) (fun _ => rfl) [sc, ty] rfl (fun _ => rfl) (fun r_78 u_78 H locs e_78 hP hD hS => ?_)
        obtain rfl := e_78
        refine lv_if_eq (tgt := 91) F.1 F.2.1 dX2_advance_81 (by decide) (fun c_81 => ?_) (fun c_81 => ?_)
        · have c_81 : ¬ (97 ≤ y b ∧ y b ≤ 122) := b01f rfl c_81
          refine lv_aload_n F.1 F.2.1 dX2_advance_91 rfl (lv_at hl 0 rfl) ?_
          refine lv_aload_n F.1 F.2.1 dX2_advance_92 rfl (lv_at hl 0 rfl) ?_
          refine gf F hK hP 0 rfl rfl hiX2_advance_2 3 (by decide) (List.mem_of_getElem? (i := 2) rfl) rfl dX2_advance_93 ?_
          refine iV (rest := []) (wsp := fun _ => (sc, .inr (2, [.ref ty, .int (nI n), .int t1, .int (nI b), .int (nI b), .int t4])) :: [ai ct ty 120 y]) F (kX2_isDigit l dC dI ct sc ty y n t1 (nI b) (nI b) t4 b (by omega)) gX2_advance_X2_isDigit rfl ⟨rfl, rfl⟩ nmX2_isDigit ⟨Nat.le_of_ble_eq_true rfl, Nat.le_of_ble_eq_true rfl⟩ eT_b (fun _ _ _ => trivial) hK hP hD hS hA 0 rfl rfl rfl [0, 1] (by decide) rfl rfl rfl hl.1 (Nat.le_of_ble_eq_true rfl) dX2_advance_96 ⟨Nat.zero_le _, Nat.zero_le _⟩ (fun _ => rfl) (fun _ => rfl) [sc, ty] rfl (fun _ => rfl) (fun r_96 u_96 H locs e_96 hP hD hS => ?_)
          obtain rfl := e_96
          refine lv_if_eq (tgt := 109) F.1 F.2.1 dX2_advance_99 (by decide) (fun c_99 => ?_) (fun c_99 => ?_)
          · have c_99 : ¬ (48 ≤ y b ∧ y b ≤ 57) := b01f rfl c_99
            refine lv_aload_n F.1 F.2.1 dX2_advance_109 rfl (lv_at hl 0 rfl) ?_
            refine lv_aload_n F.1 F.2.1 dX2_advance_110 rfl (lv_at hl 0 rfl) ?_
            refine gf F hK hP 0 rfl rfl hiX2_advance_2 0 (by decide) (List.mem_of_getElem? (i := 4) rfl) rfl dX2_advance_111 ?_
            refine lv_aload_n F.1 F.2.1 dX2_advance_114 rfl (lv_at hl 0 rfl) ?_
            refine gf F hK hP 0 rfl rfl hiX2_advance_2 3 (by decide) (List.mem_of_getElem? (i := 2) rfl) rfl dX2_advance_115 ?_
            refine al (v := y b) F hK hP 1 0 rfl rfl b rfl (by omega) (by decide) rfl dX2_advance_118 ?_
            refine lv_bipush (v := 59) F.1 F.2.1 dX2_advance_119 (by decide) ?_
            refine lv_icmp_ne (tgt := 128) F.1 F.2.1 dX2_advance_121 (by decide) (fun c_121 => ?_) (fun c_121 => ?_)
            · refine lv_iconst (v := 4) F.1 F.2.1 dX2_advance_128 (by decide) ?_
              refine pf (ws' := (sc, .inr (2, [.ref ty, .int (nI n), .int 4, .int (nI b), .int (nI b), .int t4])) :: [ai ct ty 120 y]) F hK hP hD hS 0 rfl rfl hiX2_advance_2 tyX2 tyX2_ok nmX2 2 (by decide) (List.mem_of_getElem? (i := 5) rfl) rfl rfl rfl (Nat.le_of_ble_eq_true rfl) dX2_advance_129 (weq.rf _) (fun H locs hP hD hS => ?_)
              refine lv_aload_n F.1 F.2.1 dX2_advance_132 rfl (lv_at hl 0 rfl) ?_
              refine lv_aload_n F.1 F.2.1 dX2_advance_133 rfl (lv_at hl 0 rfl) ?_
              refine gf F hK hP 0 rfl rfl hiX2_advance_2 3 (by decide) (List.mem_of_getElem? (i := 2) rfl) rfl dX2_advance_134 ?_
              refine lv_iconst (v := 1) F.1 F.2.1 dX2_advance_137 (by decide) ?_
              refine lv_iadd F.1 F.2.1 dX2_advance_138 ?_
              refine tp (y := nI (b + 1)) (ad2 (a := b) (b := 1) (c := b + 1) rfl rfl rfl) ?_
              refine pf (ws' := (sc, .inr (2, [.ref ty, .int (nI n), .int 4, .int (nI b), .int (nI (b + 1)), .int t4])) :: [ai ct ty 120 y]) F hK hP hD hS 0 rfl rfl hiX2_advance_2 tyX2 tyX2_ok nmX2 4 (by decide) (List.mem_of_getElem? (i := 1) rfl) rfl rfl rfl (Nat.le_of_ble_eq_true rfl) dX2_advance_139 (weq.rf _) (fun H locs hP hD hS => ?_)
              have t := tok3 eb hbn c_81 c_99
              rw [if_neg c_121] at t
              have hw : ((sc, .inr (2, [.ref ty, .int (nI n), .int 4, .int (nI b), .int (nI (b + 1)), .int t4])) :: [ai ct ty 120 y]) = (sc, .inr (2, [.ref ty, .int (nI n), .int (nI (tK y n p)), .int (nI (tB y n p)), .int (nI (tE y n p)), .int (tW y n p t4)])) :: [ai ct ty 120 y] := by rw [tW, t.1, t.2, eb, if_neg (by decide)]; try rfl
              rw [hw] at hP hD
              exact rtV () F hr hlk hP hS rfl trivial dX2_advance_142
            · refine lv_iconst (v := 3) F.1 F.2.1 dX2_advance_124 (by decide) ?_
              refine lv_goto (tgt := 129) F.1 F.2.1 dX2_advance_125 (by decide) ?_
              refine pf (ws' := (sc, .inr (2, [.ref ty, .int (nI n), .int 3, .int (nI b), .int (nI b), .int t4])) :: [ai ct ty 120 y]) F hK hP hD hS 0 rfl rfl hiX2_advance_2 tyX2 tyX2_ok nmX2 2 (by decide) (List.mem_of_getElem? (i := 5) rfl) rfl rfl rfl (Nat.le_of_ble_eq_true rfl) dX2_advance_129 (weq.rf _) (fun H locs hP hD hS => ?_)
              refine lv_aload_n F.1 F.2.1 dX2_advance_132 rfl (lv_at hl 0 rfl) ?_
              refine lv_aload_n F.1 F.2.1 dX2_advance_133 rfl (lv_at hl 0 rfl) ?_
              refine gf F hK hP 0 rfl rfl hiX2_advance_2 3 (by decide) (List.mem_of_getElem? (i := 2) rfl) rfl dX2_advance_134 ?_
              refine lv_iconst (v := 1) F.1 F.2.1 dX2_advance_137 (by decide) ?_
              refine lv_iadd F.1 F.2.1 dX2_advance_138 ?_
              refine tp (y := nI (b + 1)) (ad2 (a := b) (b := 1) (c := b + 1) rfl rfl rfl) ?_
              refine pf (ws' := (sc, .inr (2, [.ref ty, .int (nI n), .int 3, .int (nI b), .int (nI (b + 1)), .int t4])) :: [ai ct ty 120 y]) F hK hP hD hS 0 rfl rfl hiX2_advance_2 tyX2 tyX2_ok nmX2 4 (by decide) (List.mem_of_getElem? (i := 1) rfl) rfl rfl rfl (Nat.le_of_ble_eq_true rfl) dX2_advance_139 (weq.rf _) (fun H locs hP hD hS => ?_)
              have t := tok3 eb hbn c_81 c_99
              rw [if_pos c_121] at t
              have hw : ((sc, .inr (2, [.ref ty, .int (nI n), .int 3, .int (nI b), .int (nI (b + 1)), .int t4])) :: [ai ct ty 120 y]) = (sc, .inr (2, [.ref ty, .int (nI n), .int (nI (tK y n p)), .int (nI (tB y n p)), .int (nI (tE y n p)), .int (tW y n p t4)])) :: [ai ct ty 120 y] := by rw [tW, t.1, t.2, eb, if_neg (by decide)]; try rfl
              rw [hw] at hP hD
              exact rtV () F hr hlk hP hS rfl trivial dX2_advance_142
          · have c_99 : 48 ≤ y b ∧ y b ≤ 57 := b01t rfl c_99
            refine lv_aload_n F.1 F.2.1 dX2_advance_102 rfl (lv_at hl 0 rfl) ?_
            refine vV (rest := []) (wsp := fun _ => (sc, .inr (2, [.ref ty, .int (nI n), .int 2, .int (nI b), .int (nI (rn (dgB y) n b)), .int (nvU y b (rn (dgB y) n b - b))])) :: [ai ct ty 120 y]) F (kX2_readNumber l dC dI ct sc ty y n t1 (nI b) t4 b hn (by omega)) gX2_advance_X2_readNumber rfl ⟨rfl, rfl⟩ nmX2_readNumber ⟨Nat.le_of_ble_eq_true rfl, Nat.le_of_ble_eq_true rfl⟩ eT_b (fun _ _ _ => trivial) hK hP hD hS hA 0 rfl rfl rfl [0, 1] (by decide) rfl rfl rfl hl.1 (Nat.le_of_ble_eq_true rfl) dX2_advance_103 ⟨Nat.zero_le _, Nat.zero_le _⟩ (fun _ => rfl) (fun _ => rfl) [sc, ty] rfl (fun _ => rfl) (fun u_103 H locs e_103 hP hD hS => ?_)
            refine lv_goto (tgt := 142) F.1 F.2.1 dX2_advance_106 (by decide) ?_
            have t := tok2 eb hbn c_81 c_99
            have hw : ((sc, .inr (2, [.ref ty, .int (nI n), .int 2, .int (nI b), .int (nI (rn (dgB y) n b)), .int (nvU y b (rn (dgB y) n b - b))])) :: [ai ct ty 120 y]) = (sc, .inr (2, [.ref ty, .int (nI n), .int (nI (tK y n p)), .int (nI (tB y n p)), .int (nI (tE y n p)), .int (tW y n p t4)])) :: [ai ct ty 120 y] := by rw [tW, t.1, if_pos rfl, tV, t.2, eb]; try rfl
            rw [hw] at hP hD
            exact rtV () F hr hlk hP hS rfl trivial dX2_advance_142
        · have c_81 : 97 ≤ y b ∧ y b ≤ 122 := b01t rfl c_81
          refine lv_aload_n F.1 F.2.1 dX2_advance_84 rfl (lv_at hl 0 rfl) ?_
          refine vV (rest := []) (wsp := fun _ => (sc, .inr (2, [.ref ty, .int (nI n), .int 1, .int (nI b), .int (nI (rn (leB y) n b)), .int t4])) :: [ai ct ty 120 y]) F (kX2_readWord l dC dI ct sc ty y n t1 (nI b) t4 b hn (by omega)) gX2_advance_X2_readWord rfl ⟨rfl, rfl⟩ nmX2_readWord ⟨Nat.le_of_ble_eq_true rfl, Nat.le_of_ble_eq_true rfl⟩ eT_b (fun _ _ _ => trivial) hK hP hD hS hA 0 rfl rfl rfl [0, 1] (by decide) rfl rfl rfl hl.1 (Nat.le_of_ble_eq_true rfl) dX2_advance_85 ⟨Nat.zero_le _, Nat.zero_le _⟩ (fun _ => rfl) (fun _ => rfl) [sc, ty] rfl (fun _ => rfl) (fun u_85 H locs e_85 hP hD hS => ?_)
          refine lv_goto (tgt := 142) F.1 F.2.1 dX2_advance_88 (by decide) ?_
          have t := tok1 eb hbn c_81
          have hw : ((sc, .inr (2, [.ref ty, .int (nI n), .int 1, .int (nI b), .int (nI (rn (leB y) n b)), .int t4])) :: [ai ct ty 120 y]) = (sc, .inr (2, [.ref ty, .int (nI n), .int (nI (tK y n p)), .int (nI (tB y n p)), .int (nI (tE y n p)), .int (tW y n p t4)])) :: [ai ct ty 120 y] := by rw [tW, t.1, t.2, eb, if_neg (by decide)]; try rfl
          rw [hw] at hP hD
          exact rtV () F hr hlk hP hS rfl trivial dX2_advance_142
      · refine lv_aload_n F.1 F.2.1 dX2_advance_65 rfl (lv_at hl 0 rfl) ?_
        refine lv_iconst (v := 0) F.1 F.2.1 dX2_advance_66 (by decide) ?_
        refine pf (ws' := (sc, .inr (2, [.ref ty, .int (nI n), .int 0, .int (nI b), .int (nI b), .int t4])) :: [ai ct ty 120 y]) F hK hP hD hS 0 rfl rfl hiX2_advance_2 tyX2 tyX2_ok nmX2 2 (by decide) (List.mem_of_getElem? (i := 5) rfl) rfl rfl rfl (Nat.le_of_ble_eq_true rfl) dX2_advance_67 (weq.rf _) (fun H locs hP hD hS => ?_)
        refine lv_goto (tgt := 142) F.1 F.2.1 dX2_advance_70 (by decide) ?_
        have t := tok0 eb (le_nlt c_62 (by omega))
        have hw : ((sc, .inr (2, [.ref ty, .int (nI n), .int 0, .int (nI b), .int (nI b), .int t4])) :: [ai ct ty 120 y]) = (sc, .inr (2, [.ref ty, .int (nI n), .int (nI (tK y n p)), .int (nI (tB y n p)), .int (nI (tE y n p)), .int (tW y n p t4)])) :: [ai ct ty 120 y] := by rw [tW, t.1, t.2, eb, if_neg (by decide)]; try rfl
        rw [hw] at hP hD
        exact rtV () F hr hlk hP hS rfl trivial dX2_advance_142
    · refine lv_aload_n F.1 F.2.1 dX2_advance_19 rfl (lv_at hl 0 rfl) ?_
      refine gf F hK hP 0 rfl rfl hiX2_advance_2 0 (by decide) (List.mem_of_getElem? (i := 4) rfl) rfl dX2_advance_20 ?_
      refine lv_aload_n F.1 F.2.1 dX2_advance_23 rfl (lv_at hl 0 rfl) ?_
      refine gf F hK hP 0 rfl rfl hiX2_advance_2 3 (by decide) (List.mem_of_getElem? (i := 2) rfl) rfl dX2_advance_24 ?_
      refine al (v := y b) F hK hP 1 0 rfl rfl b rfl (by first | omega | (have := lt_nle2 c_16 (by omega); omega)) (by decide) rfl dX2_advance_27 ?_
      refine lv_bipush (v := 32) F.1 F.2.1 dX2_advance_28 (by decide) ?_
      refine lv_icmp_ne (tgt := 46) F.1 F.2.1 dX2_advance_30 (by decide) (fun c_30 => ?_) (fun c_30 => ?_)
      · refine lv_aload_n F.1 F.2.1 dX2_advance_46 rfl (lv_at hl 0 rfl) ?_
        refine lv_aload_n F.1 F.2.1 dX2_advance_47 rfl (lv_at hl 0 rfl) ?_
        refine gf F hK hP 0 rfl rfl hiX2_advance_2 3 (by decide) (List.mem_of_getElem? (i := 2) rfl) rfl dX2_advance_48 ?_
        refine pf (ws' := (sc, .inr (2, [.ref ty, .int (nI n), .int t1, .int (nI b), .int (nI b), .int t4])) :: [ai ct ty 120 y]) F hK hP hD hS 0 rfl rfl hiX2_advance_2 tyX2 tyX2_ok nmX2 4 (by decide) (List.mem_of_getElem? (i := 1) rfl) rfl rfl rfl (Nat.le_of_ble_eq_true rfl) dX2_advance_51 (weq.rf _) (fun H locs hP hD hS => ?_)
        refine lv_aload_n F.1 F.2.1 dX2_advance_54 rfl (lv_at hl 0 rfl) ?_
        refine gf F hK hP 0 rfl rfl hiX2_advance_2 3 (by decide) (List.mem_of_getElem? (i := 2) rfl) rfl dX2_advance_55 ?_
        refine lv_aload_n F.1 F.2.1 dX2_advance_58 rfl (lv_at hl 0 rfl) ?_
        refine gf F hK hP 0 rfl rfl hiX2_advance_2 1 (by decide) (List.mem_of_getElem? (i := 3) rfl) rfl dX2_advance_59 ?_
        refine lv_icmp_lt (tgt := 73) F.1 F.2.1 dX2_advance_62 (by decide) (fun c_62 => ?_) (fun c_62 => ?_)
        · have hbn : b < n := (nI_ltI (by omega) (by omega)).mp c_62
          refine lv_aload_n F.1 F.2.1 dX2_advance_73 rfl (lv_at hl 0 rfl) ?_
          refine lv_aload_n F.1 F.2.1 dX2_advance_74 rfl (lv_at hl 0 rfl) ?_
          refine gf F hK hP 0 rfl rfl hiX2_advance_2 3 (by decide) (List.mem_of_getElem? (i := 2) rfl) rfl dX2_advance_75 ?_
          refine iV (rest := []) (wsp := fun _ => (sc, .inr (2, [.ref ty, .int (nI n), .int t1, .int (nI b), .int (nI b), .int t4])) :: [ai ct ty 120 y]) F (kX2_isLetter l dC dI ct sc ty y n t1 (nI b) (nI b) t4 b (by omega)) gX2_advance_X2_isLetter rfl ⟨rfl, rfl⟩ nmX2_isLetter ⟨Nat.le_of_ble_eq_true rfl, Nat.le_of_ble_eq_true rfl⟩ eT_b (fun _ _ _ => trivial) hK hP hD hS hA 0 rfl rfl rfl [0, 1] (by decide) rfl rfl rfl hl.1 (Nat.le_of_ble_eq_true rfl) dX2_advance_78 ⟨Nat.zero_le _, Nat.zero_le _⟩ (fun _ => rfl) (fun _ => rfl) [sc, ty] rfl (fun _ => rfl) (fun r_78 u_78 H locs e_78 hP hD hS => ?_)
          obtain rfl := e_78
          refine lv_if_eq (tgt := 91) F.1 F.2.1 dX2_advance_81 (by decide) (fun c_81 => ?_) (fun c_81 => ?_)
          · have c_81 : ¬ (97 ≤ y b ∧ y b ≤ 122) := b01f rfl c_81
            refine lv_aload_n F.1 F.2.1 dX2_advance_91 rfl (lv_at hl 0 rfl) ?_
            refine lv_aload_n F.1 F.2.1 dX2_advance_92 rfl (lv_at hl 0 rfl) ?_
            refine gf F hK hP 0 rfl rfl hiX2_advance_2 3 (by decide) (List.mem_of_getElem? (i := 2) rfl) rfl dX2_advance_93 ?_
            refine iV (rest := []) (wsp := fun _ => (sc, .inr (2, [.ref ty, .int (nI n), .int t1, .int (nI b), .int (nI b), .int t4])) :: [ai ct ty 120 y]) F (kX2_isDigit l dC dI ct sc ty y n t1 (nI b) (nI b) t4 b (by omega)) gX2_advance_X2_isDigit rfl ⟨rfl, rfl⟩ nmX2_isDigit ⟨Nat.le_of_ble_eq_true rfl, Nat.le_of_ble_eq_true rfl⟩ eT_b (fun _ _ _ => trivial) hK hP hD hS hA 0 rfl rfl rfl [0, 1] (by decide) rfl rfl rfl hl.1 (Nat.le_of_ble_eq_true rfl) dX2_advance_96 ⟨Nat.zero_le _, Nat.zero_le _⟩ (fun _ => rfl) (fun _ => rfl) [sc, ty] rfl (fun _ => rfl) (fun r_96 u_96 H locs e_96 hP hD hS => ?_)
            obtain rfl := e_96
            refine lv_if_eq (tgt := 109) F.1 F.2.1 dX2_advance_99 (by decide) (fun c_99 => ?_) (fun c_99 => ?_)
            · have c_99 : ¬ (48 ≤ y b ∧ y b ≤ 57) := b01f rfl c_99
              refine lv_aload_n F.1 F.2.1 dX2_advance_109 rfl (lv_at hl 0 rfl) ?_
              refine lv_aload_n F.1 F.2.1 dX2_advance_110 rfl (lv_at hl 0 rfl) ?_
              refine gf F hK hP 0 rfl rfl hiX2_advance_2 0 (by decide) (List.mem_of_getElem? (i := 4) rfl) rfl dX2_advance_111 ?_
              refine lv_aload_n F.1 F.2.1 dX2_advance_114 rfl (lv_at hl 0 rfl) ?_
              refine gf F hK hP 0 rfl rfl hiX2_advance_2 3 (by decide) (List.mem_of_getElem? (i := 2) rfl) rfl dX2_advance_115 ?_
              refine al (v := y b) F hK hP 1 0 rfl rfl b rfl (by omega) (by decide) rfl dX2_advance_118 ?_
              refine lv_bipush (v := 59) F.1 F.2.1 dX2_advance_119 (by decide) ?_
              refine lv_icmp_ne (tgt := 128) F.1 F.2.1 dX2_advance_121 (by decide) (fun c_121 => ?_) (fun c_121 => ?_)
              · refine lv_iconst (v := 4) F.1 F.2.1 dX2_advance_128 (by decide) ?_
                refine pf (ws' := (sc, .inr (2, [.ref ty, .int (nI n), .int 4, .int (nI b), .int (nI b), .int t4])) :: [ai ct ty 120 y]) F hK hP hD hS 0 rfl rfl hiX2_advance_2 tyX2 tyX2_ok nmX2 2 (by decide) (List.mem_of_getElem? (i := 5) rfl) rfl rfl rfl (Nat.le_of_ble_eq_true rfl) dX2_advance_129 (weq.rf _) (fun H locs hP hD hS => ?_)
                refine lv_aload_n F.1 F.2.1 dX2_advance_132 rfl (lv_at hl 0 rfl) ?_
                refine lv_aload_n F.1 F.2.1 dX2_advance_133 rfl (lv_at hl 0 rfl) ?_
                refine gf F hK hP 0 rfl rfl hiX2_advance_2 3 (by decide) (List.mem_of_getElem? (i := 2) rfl) rfl dX2_advance_134 ?_
                refine lv_iconst (v := 1) F.1 F.2.1 dX2_advance_137 (by decide) ?_
                refine lv_iadd F.1 F.2.1 dX2_advance_138 ?_
                refine tp (y := nI (b + 1)) (ad2 (a := b) (b := 1) (c := b + 1) rfl rfl rfl) ?_
                refine pf (ws' := (sc, .inr (2, [.ref ty, .int (nI n), .int 4, .int (nI b), .int (nI (b + 1)), .int t4])) :: [ai ct ty 120 y]) F hK hP hD hS 0 rfl rfl hiX2_advance_2 tyX2 tyX2_ok nmX2 4 (by decide) (List.mem_of_getElem? (i := 1) rfl) rfl rfl rfl (Nat.le_of_ble_eq_true rfl) dX2_advance_139 (weq.rf _) (fun H locs hP hD hS => ?_)
                have t := tok3 eb hbn c_81 c_99
                rw [if_neg c_121] at t
                have hw : ((sc, .inr (2, [.ref ty, .int (nI n), .int 4, .int (nI b), .int (nI (b + 1)), .int t4])) :: [ai ct ty 120 y]) = (sc, .inr (2, [.ref ty, .int (nI n), .int (nI (tK y n p)), .int (nI (tB y n p)), .int (nI (tE y n p)), .int (tW y n p t4)])) :: [ai ct ty 120 y] := by rw [tW, t.1, t.2, eb, if_neg (by decide)]; try rfl
                rw [hw] at hP hD
                exact rtV () F hr hlk hP hS rfl trivial dX2_advance_142
              · refine lv_iconst (v := 3) F.1 F.2.1 dX2_advance_124 (by decide) ?_
                refine lv_goto (tgt := 129) F.1 F.2.1 dX2_advance_125 (by decide) ?_
                refine pf (ws' := (sc, .inr (2, [.ref ty, .int (nI n), .int 3, .int (nI b), .int (nI b), .int t4])) :: [ai ct ty 120 y]) F hK hP hD hS 0 rfl rfl hiX2_advance_2 tyX2 tyX2_ok nmX2 2 (by decide) (List.mem_of_getElem? (i := 5) rfl) rfl rfl rfl (Nat.le_of_ble_eq_true rfl) dX2_advance_129 (weq.rf _) (fun H locs hP hD hS => ?_)
                refine lv_aload_n F.1 F.2.1 dX2_advance_132 rfl (lv_at hl 0 rfl) ?_
                refine lv_aload_n F.1 F.2.1 dX2_advance_133 rfl (lv_at hl 0 rfl) ?_
                refine gf F hK hP 0 rfl rfl hiX2_advance_2 3 (by decide) (List.mem_of_getElem? (i := 2) rfl) rfl dX2_advance_134 ?_
                refine lv_iconst (v := 1) F.1 F.2.1 dX2_advance_137 (by decide) ?_
                refine lv_iadd F.1 F.2.1 dX2_advance_138 ?_
                refine tp (y := nI (b + 1)) (ad2 (a := b) (b := 1) (c := b + 1) rfl rfl rfl) ?_
                refine pf (ws' := (sc, .inr (2, [.ref ty, .int (nI n), .int 3, .int (nI b), .int (nI (b + 1)), .int t4])) :: [ai ct ty 120 y]) F hK hP hD hS 0 rfl rfl hiX2_advance_2 tyX2 tyX2_ok nmX2 4 (by decide) (List.mem_of_getElem? (i := 1) rfl) rfl rfl rfl (Nat.le_of_ble_eq_true rfl) dX2_advance_139 (weq.rf _) (fun H locs hP hD hS => ?_)
                have t := tok3 eb hbn c_81 c_99
                rw [if_pos c_121] at t
                have hw : ((sc, .inr (2, [.ref ty, .int (nI n), .int 3, .int (nI b), .int (nI (b + 1)), .int t4])) :: [ai ct ty 120 y]) = (sc, .inr (2, [.ref ty, .int (nI n), .int (nI (tK y n p)), .int (nI (tB y n p)), .int (nI (tE y n p)), .int (tW y n p t4)])) :: [ai ct ty 120 y] := by rw [tW, t.1, t.2, eb, if_neg (by decide)]; try rfl
                rw [hw] at hP hD
                exact rtV () F hr hlk hP hS rfl trivial dX2_advance_142
            · have c_99 : 48 ≤ y b ∧ y b ≤ 57 := b01t rfl c_99
              refine lv_aload_n F.1 F.2.1 dX2_advance_102 rfl (lv_at hl 0 rfl) ?_
              refine vV (rest := []) (wsp := fun _ => (sc, .inr (2, [.ref ty, .int (nI n), .int 2, .int (nI b), .int (nI (rn (dgB y) n b)), .int (nvU y b (rn (dgB y) n b - b))])) :: [ai ct ty 120 y]) F (kX2_readNumber l dC dI ct sc ty y n t1 (nI b) t4 b hn (by omega)) gX2_advance_X2_readNumber rfl ⟨rfl, rfl⟩ nmX2_readNumber ⟨Nat.le_of_ble_eq_true rfl, Nat.le_of_ble_eq_true rfl⟩ eT_b (fun _ _ _ => trivial) hK hP hD hS hA 0 rfl rfl rfl [0, 1] (by decide) rfl rfl rfl hl.1 (Nat.le_of_ble_eq_true rfl) dX2_advance_103 ⟨Nat.zero_le _, Nat.zero_le _⟩ (fun _ => rfl) (fun _ => rfl) [sc, ty] rfl (fun _ => rfl) (fun u_103 H locs e_103 hP hD hS => ?_)
              refine lv_goto (tgt := 142) F.1 F.2.1 dX2_advance_106 (by decide) ?_
              have t := tok2 eb hbn c_81 c_99
              have hw : ((sc, .inr (2, [.ref ty, .int (nI n), .int 2, .int (nI b), .int (nI (rn (dgB y) n b)), .int (nvU y b (rn (dgB y) n b - b))])) :: [ai ct ty 120 y]) = (sc, .inr (2, [.ref ty, .int (nI n), .int (nI (tK y n p)), .int (nI (tB y n p)), .int (nI (tE y n p)), .int (tW y n p t4)])) :: [ai ct ty 120 y] := by rw [tW, t.1, if_pos rfl, tV, t.2, eb]; try rfl
              rw [hw] at hP hD
              exact rtV () F hr hlk hP hS rfl trivial dX2_advance_142
          · have c_81 : 97 ≤ y b ∧ y b ≤ 122 := b01t rfl c_81
            refine lv_aload_n F.1 F.2.1 dX2_advance_84 rfl (lv_at hl 0 rfl) ?_
            refine vV (rest := []) (wsp := fun _ => (sc, .inr (2, [.ref ty, .int (nI n), .int 1, .int (nI b), .int (nI (rn (leB y) n b)), .int t4])) :: [ai ct ty 120 y]) F (kX2_readWord l dC dI ct sc ty y n t1 (nI b) t4 b hn (by omega)) gX2_advance_X2_readWord rfl ⟨rfl, rfl⟩ nmX2_readWord ⟨Nat.le_of_ble_eq_true rfl, Nat.le_of_ble_eq_true rfl⟩ eT_b (fun _ _ _ => trivial) hK hP hD hS hA 0 rfl rfl rfl [0, 1] (by decide) rfl rfl rfl hl.1 (Nat.le_of_ble_eq_true rfl) dX2_advance_85 ⟨Nat.zero_le _, Nat.zero_le _⟩ (fun _ => rfl) (fun _ => rfl) [sc, ty] rfl (fun _ => rfl) (fun u_85 H locs e_85 hP hD hS => ?_)
            refine lv_goto (tgt := 142) F.1 F.2.1 dX2_advance_88 (by decide) ?_
            have t := tok1 eb hbn c_81
            have hw : ((sc, .inr (2, [.ref ty, .int (nI n), .int 1, .int (nI b), .int (nI (rn (leB y) n b)), .int t4])) :: [ai ct ty 120 y]) = (sc, .inr (2, [.ref ty, .int (nI n), .int (nI (tK y n p)), .int (nI (tB y n p)), .int (nI (tE y n p)), .int (tW y n p t4)])) :: [ai ct ty 120 y] := by rw [tW, t.1, t.2, eb, if_neg (by decide)]; try rfl
            rw [hw] at hP hD
            exact rtV () F hr hlk hP hS rfl trivial dX2_advance_142
        · refine lv_aload_n F.1 F.2.1 dX2_advance_65 rfl (lv_at hl 0 rfl) ?_
          refine lv_iconst (v := 0) F.1 F.2.1 dX2_advance_66 (by decide) ?_
          refine pf (ws' := (sc, .inr (2, [.ref ty, .int (nI n), .int 0, .int (nI b), .int (nI b), .int t4])) :: [ai ct ty 120 y]) F hK hP hD hS 0 rfl rfl hiX2_advance_2 tyX2 tyX2_ok nmX2 2 (by decide) (List.mem_of_getElem? (i := 5) rfl) rfl rfl rfl (Nat.le_of_ble_eq_true rfl) dX2_advance_67 (weq.rf _) (fun H locs hP hD hS => ?_)
          refine lv_goto (tgt := 142) F.1 F.2.1 dX2_advance_70 (by decide) ?_
          have t := tok0 eb (le_nlt c_62 (by omega))
          have hw : ((sc, .inr (2, [.ref ty, .int (nI n), .int 0, .int (nI b), .int (nI b), .int t4])) :: [ai ct ty 120 y]) = (sc, .inr (2, [.ref ty, .int (nI n), .int (nI (tK y n p)), .int (nI (tB y n p)), .int (nI (tE y n p)), .int (tW y n p t4)])) :: [ai ct ty 120 y] := by rw [tW, t.1, t.2, eb, if_neg (by decide)]; try rfl
          rw [hw] at hP hD
          exact rtV () F hr hlk hP hS rfl trivial dX2_advance_142
      · exact absurd c_30 (hb4 (lt_nle2 c_16 (by omega)))
  · obtain ⟨hP, hD, hS, hl⟩ := hI
    refine lv_aload_n F.1 F.2.1 dX2_advance_8 rfl (lv_at hl 0 rfl) ?_
    refine gf F hK hP 0 rfl rfl hiX2_advance_2 3 (by decide) (List.mem_of_getElem? (i := 2) rfl) rfl dX2_advance_9 ?_
    refine lv_aload_n F.1 F.2.1 dX2_advance_12 rfl (lv_at hl 0 rfl) ?_
    refine gf F hK hP 0 rfl rfl hiX2_advance_2 1 (by decide) (List.mem_of_getElem? (i := 3) rfl) rfl dX2_advance_13 ?_
    refine lv_icmp_ge (tgt := 46) F.1 F.2.1 dX2_advance_16 (by decide) (fun c_16 => ?_) (fun c_16 => ?_)
    · exact absurd c_16 (nI_ge (show p + k < n by omega) (by omega))
    · refine lv_aload_n F.1 F.2.1 dX2_advance_19 rfl (lv_at hl 0 rfl) ?_
      refine gf F hK hP 0 rfl rfl hiX2_advance_2 0 (by decide) (List.mem_of_getElem? (i := 4) rfl) rfl dX2_advance_20 ?_
      refine lv_aload_n F.1 F.2.1 dX2_advance_23 rfl (lv_at hl 0 rfl) ?_
      refine gf F hK hP 0 rfl rfl hiX2_advance_2 3 (by decide) (List.mem_of_getElem? (i := 2) rfl) rfl dX2_advance_24 ?_
      refine al (v := y (p + k)) F hK hP 1 0 rfl rfl (p + k) rfl (by first | omega | (have := lt_nle2 c_16 (by omega); omega)) (by decide) rfl dX2_advance_27 ?_
      refine lv_bipush (v := 32) F.1 F.2.1 dX2_advance_28 (by decide) ?_
      refine lv_icmp_ne (tgt := 46) F.1 F.2.1 dX2_advance_30 (by decide) (fun c_30 => ?_) (fun c_30 => ?_)
      · exact absurd (hb3 (p + k) (by omega) (by omega)) c_30
      · refine lv_aload_n F.1 F.2.1 dX2_advance_33 rfl (lv_at hl 0 rfl) ?_
        refine lv_dup F.1 F.2.1 dX2_advance_34 rfl ?_
        refine gf F hK hP 0 rfl rfl hiX2_advance_2 3 (by decide) (List.mem_of_getElem? (i := 2) rfl) rfl dX2_advance_35 ?_
        refine lv_iconst (v := 1) F.1 F.2.1 dX2_advance_38 (by decide) ?_
        refine lv_iadd F.1 F.2.1 dX2_advance_39 ?_
        refine tp (y := nI (p + k + 1)) (ad2 (a := p + k) (b := 1) (c := p + k + 1) rfl rfl rfl) ?_
        refine pf (ws' := (sc, .inr (2, [.ref ty, .int (nI n), .int t1, .int (nI (p + k + 1)), .int (nI p), .int t4])) :: [ai ct ty 120 y]) F hK hP hD hS 0 rfl rfl hiX2_advance_2 tyX2 tyX2_ok nmX2 3 (by decide) (List.mem_of_getElem? (i := 2) rfl) rfl rfl rfl (Nat.le_of_ble_eq_true rfl) dX2_advance_40 (weq.rf _) (fun H locs hP hD hS => ?_)
        refine lv_goto (tgt := 8) F.1 F.2.1 dX2_advance_43 (by decide) ?_
        exact ih_8 _ _ _ ⟨hP, hD, hS, lv_sub hl [0] rfl⟩
