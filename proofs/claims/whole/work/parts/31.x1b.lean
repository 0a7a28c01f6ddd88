def rmX1_bringHome : Room := { frames := 2, cells := 0, slots := 0, locals := 45 }
theorem nmX1_bringHome : NmV yX1_bringHome RX1 2 := by unfold NmV; decide +kernel
theorem hiX1_bringHome_1 : ∀ w ∈ u_ws RX1 TX1 10, w ∈ wsX1_bringHome := by decide +kernel
set_option maxHeartbeats 4000000 in
set_option maxRecDepth 100000 in
theorem kX1_bringHome (l : Launch) (dC : Nat → ClassId) (dI : Nat → Nat → Nat) (ct : Nat → ClassId) (a : Nat → Nat) (f : Nat → Int32) (h s : Nat) (hh : h < 2) (hs : s < 2) : MV (S := Unit) l yX1_bringHome wsX1_bringHome rmX1_bringHome dC dI ct eT [.ref (a 0), .int (nI h), .int (nI s)] (wB ct a f) (fun _ => wB ct a (goU f h s 5)) (fun _ => True) := by
  refine MV.of (cc := cX1_bringHome) (maxL := 4) (ret := none) (by decide) rfl (Nat.le_of_ble_eq_true rfl) ?_
  intro pg en z mi below meth cd A F hr hlk hin hK hP hD hA hS hE ls hl
  have F : CallFix pg mi cd cX1_bringHome 4 z _ wsX1_bringHome RX1 := F
  have hl : lv_has ls 4 [(0, .ref (a 0)), (1, .int (nI h)), (2, .int (nI s))] := hl
  refine lv_iconst (v := 0) F.1 F.2.1 dX1_bringHome_0 (by decide) ?_
  refine lv_istore_n (lv' := [(3, .int 0), (0, .ref (a 0)), (1, .int (nI h)), (2, .int (nI s))]) F.1 F.2.1 dX1_bringHome_1 rfl hl (by decide) rfl (fun ls hl => ?_)
  refine loopN (I := fun k H locs ls => va_P (dC, dI) vwCl (wB ct a (goU f h s k)) H ∧ va_D A (wB ct a (goU f h s k)) ∧ va_S A z.heap H locs ∧ lv_has ls 4 [(3, .int (nI k)), (0, .ref (a 0)), (1, .int (nI h)), (2, .int (nI s))]) 5 0 (by omega) ⟨hP, hD, hS, lv_sub hl [0, 1, 2, 3] rfl⟩ (fun H locs ls hI => ?_) (fun k hk_k H locs ls hI ih_2 => ?_)
  · obtain ⟨hP, hD, hS, hl⟩ := hI
    refine lv_iload_n F.1 F.2.1 dX1_bringHome_2 rfl (lv_at hl 0 rfl) ?_
    refine lv_iconst (v := 5) F.1 F.2.1 dX1_bringHome_3 (by decide) ?_
    refine lv_icmp_ge (tgt := 40) F.1 F.2.1 dX1_bringHome_4 (by decide) (fun c_4 => ?_) (fun c_4 => ?_)
    · exact rtV () F hr hlk hP hS rfl trivial dX1_bringHome_40
    · exact absurd (nI_le (Nat.le_refl _) (by decide)) c_4
  · obtain ⟨hP, hD, hS, hl⟩ := hI
    refine lv_iload_n F.1 F.2.1 dX1_bringHome_2 rfl (lv_at hl 0 rfl) ?_
    refine lv_iconst (v := 5) F.1 F.2.1 dX1_bringHome_3 (by decide) ?_
    refine lv_icmp_ge (tgt := 40) F.1 F.2.1 dX1_bringHome_4 (by decide) (fun c_4 => ?_) (fun c_4 => ?_)
    · exact absurd c_4 (nI_ge hk_k (by decide))
    · refine lv_aload_n F.1 F.2.1 dX1_bringHome_7 rfl (lv_at hl 1 rfl) ?_
      refine lv_iload_n F.1 F.2.1 dX1_bringHome_8 rfl (lv_at hl 3 rfl) ?_
      refine lv_iload_n F.1 F.2.1 dX1_bringHome_9 rfl (lv_at hl 0 rfl) ?_
      refine lv_aload_n F.1 F.2.1 dX1_bringHome_10 rfl (lv_at hl 1 rfl) ?_
      refine gf F hK hP 0 rfl rfl hiX1_bringHome_1 2 (by decide) (List.mem_of_getElem? (i := 1) rfl) rfl dX1_bringHome_11 ?_
      refine lv_iload_n F.1 F.2.1 dX1_bringHome_14 rfl (lv_at hl 2 rfl) ?_
      refine lv_iconst (v := 5) F.1 F.2.1 dX1_bringHome_15 (by decide) ?_
      refine lv_imul F.1 F.2.1 dX1_bringHome_16 ?_
      refine tp (y := nI (h * 5)) (ml2 (a := h) (b := 5) (c := h * 5) rfl rfl rfl) ?_
      refine lv_iload_n F.1 F.2.1 dX1_bringHome_17 rfl (lv_at hl 0 rfl) ?_
      refine lv_iadd F.1 F.2.1 dX1_bringHome_18 ?_
      refine tp (y := nI (h * 5 + k)) (ad2 (a := h * 5) (b := k) (c := h * 5 + k) rfl rfl rfl) ?_
      refine al (v := (goU f h s k) (27 + 17 * h + k)) F hK hP 3 0 rfl rfl (h * 5 + k) rfl (by omega) (by decide) (congrArg (goU f h s k) (ix5 (by omega))) dX1_bringHome_19 ?_
      refine vV (rest := []) (wsp := fun _ => wB ct a (comeH (goU f h s k) s k ((goU f h s k) (27 + 17 * h + k)))) F (kX1_addHome l dC dI ct a (goU f h s k) s k ((goU f h s k) (27 + 17 * h + k)) (by omega) (by omega)) gX1_bringHome_X1_addHome rfl ⟨rfl, rfl⟩ nmX1_addHome ⟨Nat.le_of_ble_eq_true rfl, Nat.le_of_ble_eq_true rfl⟩ eT_b (fun _ _ _ => trivial) hK hP hD hS hA 0 rfl rfl rfl [0, 1, 2, 3, 4, 5, 6] (by decide) rfl rfl rfl hl.1 (Nat.le_of_ble_eq_true rfl) dX1_bringHome_20 ⟨Nat.zero_le _, Nat.zero_le _⟩ (fun _ => rfl) (fun _ => rfl) [a 0, a 1, a 2, a 3, a 4, a 5, a 6] rfl (fun _ => rfl) (fun u_20 H locs e_20 hP hD hS => ?_)
      refine lv_aload_n F.1 F.2.1 dX1_bringHome_23 rfl (lv_at hl 1 rfl) ?_
      refine gf F hK hP 0 rfl rfl hiX1_bringHome_1 2 (by decide) (List.mem_of_getElem? (i := 1) rfl) rfl dX1_bringHome_24 ?_
      refine lv_iload_n F.1 F.2.1 dX1_bringHome_27 rfl (lv_at hl 2 rfl) ?_
      refine lv_iconst (v := 5) F.1 F.2.1 dX1_bringHome_28 (by decide) ?_
      refine lv_imul F.1 F.2.1 dX1_bringHome_29 ?_
      refine tp (y := nI (h * 5)) (ml2 (a := h) (b := 5) (c := h * 5) rfl rfl rfl) ?_
      refine lv_iload_n F.1 F.2.1 dX1_bringHome_30 rfl (lv_at hl 0 rfl) ?_
      refine lv_iadd F.1 F.2.1 dX1_bringHome_31 ?_
      refine tp (y := nI (h * 5 + k)) (ad2 (a := h * 5) (b := k) (c := h * 5 + k) rfl rfl rfl) ?_
      refine lv_iconst (v := 0) F.1 F.2.1 dX1_bringHome_32 (by decide) ?_
      refine ast (ws' := wB ct a (upd (comeH (goU f h s k) s k ((goU f h s k) (27 + 17 * h + k))) (27 + 17 * h + k) 0)) F hK hP hD hS 3 0 rfl rfl (h * 5 + k) rfl (by omega) (by decide) dX1_bringHome_33 (wq_heap ct a (comeH (goU f h s k) s k ((goU f h s k) (27 + 17 * h + k))) (by omega) (by omega)) (fun H locs hP hD hS => ?_)
      refine lv_iinc (v := nI (k + 1)) (lv' := [(3, .int (nI (k + 1))), (0, .ref (a 0)), (1, .int (nI h)), (2, .int (nI s))]) F.1 F.2.1 dX1_bringHome_34 hl (k := 0) rfl (by rw [show Int32.ofInt 1 = nI 1 from rfl, nI_add]) (by decide) rfl (fun ls hl => ?_)
      refine lv_goto (tgt := 2) F.1 F.2.1 dX1_bringHome_37 (by decide) ?_
      have eb : upd (comeH (goU f h s k) s k ((goU f h s k) (27 + 17 * h + k))) (27 + 17 * h + k) 0 = goU f h s (k + 1) := go_x f h s k hh hs hk_k
      rw [eb] at hP hD
      exact ih_2 _ _ _ ⟨hP, hD, hS, lv_sub hl [0, 1, 2, 3] rfl⟩

def rmX1_trustMore : Room := { frames := 1, cells := 0, slots := 0, locals := 21 }
theorem nmX1_trustMore : NmV yX1_trustMore RX1 1 := by unfold NmV; decide +kernel
theorem hiX1_trustMore_1 : ∀ w ∈ u_ws RX1 TX1 10, w ∈ wsX1_trustMore := by decide +kernel
set_option maxHeartbeats 4000000 in
set_option maxRecDepth 100000 in
theorem kX1_trustMore (l : Launch) (dC : Nat → ClassId) (dI : Nat → Nat → Nat) (ct : Nat → ClassId) (a : Nat → Nat) (f : Nat → Int32) (s : Nat) (hs : s < 2) : MV (S := Unit) l yX1_trustMore wsX1_trustMore rmX1_trustMore dC dI ct eT [.ref (a 0), .int (nI s)] (wB ct a f) (fun _ => wB ct a (truF f s)) (fun _ => True) := by
  refine MV.of (cc := cX1_trustMore) (maxL := 2) (ret := none) (by decide) rfl (Nat.le_of_ble_eq_true rfl) ?_
  intro pg en z mi below meth cd A F hr hlk hin hK hP hD hA hS hE ls hl
  have F : CallFix pg mi cd cX1_trustMore 2 z _ wsX1_trustMore RX1 := F
  have hl : lv_has ls 2 [(0, .ref (a 0)), (1, .int (nI s))] := hl
  refine lv_aload_n F.1 F.2.1 dX1_trustMore_0 rfl (lv_at hl 0 rfl) ?_
  refine gf F hK hP 0 rfl rfl hiX1_trustMore_1 5 (by decide) (List.mem_of_getElem? (i := 1) rfl) rfl dX1_trustMore_1 ?_
  refine lv_iload_n F.1 F.2.1 dX1_trustMore_4 rfl (lv_at hl 1 rfl) ?_
  refine lv_bipush (v := 9) F.1 F.2.1 dX1_trustMore_5 (by decide) ?_
  refine lv_aload_n F.1 F.2.1 dX1_trustMore_7 rfl (lv_at hl 0 rfl) ?_
  refine gf F hK hP 0 rfl rfl hiX1_trustMore_1 5 (by decide) (List.mem_of_getElem? (i := 1) rfl) rfl dX1_trustMore_8 ?_
  refine lv_iload_n F.1 F.2.1 dX1_trustMore_11 rfl (lv_at hl 1 rfl) ?_
  refine al (v := f (21 + 17 * s)) F hK hP 6 0 rfl rfl s rfl (by omega) (by decide) rfl dX1_trustMore_12 ?_
  refine lv_iconst (v := 1) F.1 F.2.1 dX1_trustMore_13 (by decide) ?_
  refine lv_iadd F.1 F.2.1 dX1_trustMore_14 ?_
  refine va_mmin F.1 F.2.1 (F.2.2.1.trans hl.1.symm) F.2.2.2.1 (F.2.2.2.2 _ (List.mem_of_getElem? (i := 2) rfl)) (F.2.2.2.2 _ (List.mem_of_getElem? (i := 3) rfl)) (F.2.2.2.2 _ (List.mem_of_getElem? (i := 4) rfl)) (F.2.2.2.2 _ (List.mem_of_getElem? (i := 5) rfl)) (Nat.le_of_ble_eq_true rfl) (Nat.le_of_ble_eq_true rfl) (Nat.zero_le _) (Nat.zero_le _) dX1_trustMore_15 ?_
  refine tp (y := mn 9 ((f (21 + 17 * s)) + 1)) rfl ?_
  refine ast (ws' := wB ct a (upd f (21 + 17 * s) (mn 9 ((f (21 + 17 * s)) + 1)))) F hK hP hD hS 6 0 rfl rfl s rfl (by omega) (by decide) dX1_trustMore_18 (wq_trust ct a f (by omega)) (fun H locs hP hD hS => ?_)
  exact rtV () F hr hlk hP hS rfl trivial dX1_trustMore_19

def rmX1_turn : Room := { frames := 0, cells := 0, slots := 0, locals := 0 }
theorem nmX1_turn : NmV yX1_turn RX1 0 := by unfold NmV; decide +kernel
theorem hiX1_turn_1 : ∀ w ∈ u_ws RX1 TX1 10, w ∈ wsX1_turn := by decide +kernel
set_option maxHeartbeats 4000000 in
set_option maxRecDepth 100000 in
theorem kX1_turn (l : Launch) (dC : Nat → ClassId) (dI : Nat → Nat → Nat) (ct : Nat → ClassId) (a : Nat → Nat) (f : Nat → Int32) (hRg : Rg f) : MI (S := Unit) l yX1_turn wsX1_turn rmX1_turn dC dI ct eT [.ref (a 0)] (wB ct a f) (fun _ => wB ct a f) (fun r _ => r = nI (tnF f)) := by
  refine MI.of (cc := cX1_turn) (maxL := 1) (ret := (some .int)) (by decide) rfl (Nat.le_of_ble_eq_true rfl) ?_
  intro pg en z mi below meth cd A F hr hlk hin hK hP hD hA hS hE ls hl
  have F : CallFix pg mi cd cX1_turn 1 z _ wsX1_turn RX1 := F
  have hl : lv_has ls 1 [(0, .ref (a 0))] := hl
  refine lv_aload_n F.1 F.2.1 dX1_turn_0 rfl (lv_at hl 0 rfl) ?_
  refine gf F hK hP 0 rfl rfl hiX1_turn_1 7 (by decide) (List.mem_of_getElem? (i := 1) rfl) rfl dX1_turn_1 ?_
  refine lv_iconst (v := 1) F.1 F.2.1 dX1_turn_4 (by decide) ?_
  refine lv_iand F.1 F.2.1 dX1_turn_5 ?_
  exact rtI () F hr hlk hP hS rfl (turnF hRg) dX1_turn_6

def rmX1_isContent : Room := { frames := 2, cells := 0, slots := 0, locals := 48 }
theorem nmX1_isContent : NmV yX1_isContent RX1 1 := by unfold NmV; decide +kernel
theorem hiX1_isContent_1 : ∀ w ∈ u_ws RX1 TX1 10, w ∈ wsX1_isContent := by decide +kernel
set_option maxHeartbeats 4000000 in
set_option maxRecDepth 100000 in
theorem kX1_isContent (l : Launch) (dC : Nat → ClassId) (dI : Nat → Nat → Nat) (ct : Nat → ClassId) (a : Nat → Nat) (f : Nat → Int32) (s : Nat) (hs : s < 2) (hRg : Rg f) : MI (S := Unit) l yX1_isContent wsX1_isContent rmX1_isContent dC dI ct eT [.ref (a 0), .int (nI s)] (wB ct a f) (fun _ => wB ct a f) (fun r _ => r = if con f s then 1 else 0) := by
  refine MI.of (cc := cX1_isContent) (maxL := 3) (ret := (some .boolean)) (by decide) rfl (Nat.le_of_ble_eq_true rfl) ?_
  intro pg en z mi below meth cd A F hr hlk hin hK hP hD hA hS hE ls hl
  have F : CallFix pg mi cd cX1_isContent 3 z _ wsX1_isContent RX1 := F
  have hl : lv_has ls 3 [(0, .ref (a 0)), (1, .int (nI s))] := hl
  refine lv_iconst (v := 1) F.1 F.2.1 dX1_isContent_0 (by decide) ?_
  refine lv_iload_n F.1 F.2.1 dX1_isContent_1 rfl (lv_at hl 1 rfl) ?_
  refine lv_isub F.1 F.2.1 dX1_isContent_2 ?_
  refine tp (y := nI (1 - s)) (sb2 (a := 1) (b := s) (c := 1 - s) rfl rfl (by omega)) ?_
  refine lv_istore_n (lv' := [(2, .int (nI (1 - s))), (0, .ref (a 0)), (1, .int (nI s))]) F.1 F.2.1 dX1_isContent_3 rfl hl (by decide) rfl (fun ls hl => ?_)
  refine lv_aload_n F.1 F.2.1 dX1_isContent_4 rfl (lv_at hl 1 rfl) ?_
  refine lv_iload_n F.1 F.2.1 dX1_isContent_5 rfl (lv_at hl 0 rfl) ?_
  refine iV (rest := []) (wsp := fun _ => wB ct a f) F (kX1_heapCount l dC dI ct a f (1 - s) (by omega)) gX1_isContent_X1_heapCount rfl ⟨rfl, rfl⟩ nmX1_heapCount ⟨Nat.le_of_ble_eq_true rfl, Nat.le_of_ble_eq_true rfl⟩ eT_b (fun _ _ _ => trivial) hK hP hD hS hA 0 rfl rfl rfl [0, 1, 2, 3, 4, 5, 6] (by decide) rfl rfl rfl hl.1 (Nat.le_of_ble_eq_true rfl) dX1_isContent_6 ⟨Nat.zero_le _, Nat.zero_le _⟩ (fun _ => rfl) (fun _ => rfl) [a 0, a 1, a 2, a 3, a 4, a 5, a 6] rfl (fun _ => rfl) (fun r_6 u_6 H locs e_6 hP hD hS => ?_)
  obtain rfl := e_6
  refine lv_if_le (tgt := 38) F.1 F.2.1 dX1_isContent_9 (by decide) (fun c_9 => ?_) (fun c_9 => ?_)
  · have c_9 := (sum0 hRg (s := 1 - s) (by omega)).mp c_9
    refine lv_iconst (v := 0) F.1 F.2.1 dX1_isContent_38 (by decide) ?_
    exact rtZ () F hr hlk hP hS rfl ((if_neg (fun q => q.1 c_9)).symm) (Or.inl rfl) dX1_isContent_39
  · have c_9 := mt (sum0 hRg (s := 1 - s) (by omega)).mpr c_9
    refine lv_aload_n F.1 F.2.1 dX1_isContent_12 rfl (lv_at hl 1 rfl) ?_
    refine lv_iload_n F.1 F.2.1 dX1_isContent_13 rfl (lv_at hl 2 rfl) ?_
    refine lv_iload_n F.1 F.2.1 dX1_isContent_14 rfl (lv_at hl 0 rfl) ?_
    refine iV (rest := []) (wsp := fun _ => wB ct a f) F (kX1_heapValue l dC dI ct a f s (1 - s) (by omega) (by omega) hRg) gX1_isContent_X1_heapValue rfl ⟨rfl, rfl⟩ nmX1_heapValue ⟨Nat.le_of_ble_eq_true rfl, Nat.le_of_ble_eq_true rfl⟩ eT_b (fun _ _ _ => trivial) hK hP hD hS hA 0 rfl rfl rfl [0, 1, 2, 3, 4, 5, 6] (by decide) rfl rfl rfl hl.1 (Nat.le_of_ble_eq_true rfl) dX1_isContent_15 ⟨Nat.zero_le _, Nat.zero_le _⟩ (fun _ => rfl) (fun _ => rfl) [a 0, a 1, a 2, a 3, a 4, a 5, a 6] rfl (fun _ => rfl) (fun r_15 u_15 H locs e_15 hP hD hS => ?_)
    obtain rfl := e_15
    refine lv_aload_n F.1 F.2.1 dX1_isContent_18 rfl (lv_at hl 1 rfl) ?_
    refine lv_iload_n F.1 F.2.1 dX1_isContent_19 rfl (lv_at hl 2 rfl) ?_
    refine lv_iload_n F.1 F.2.1 dX1_isContent_20 rfl (lv_at hl 2 rfl) ?_
    refine iV (rest := [.int (valU f s (1 - s) 5)]) (wsp := fun _ => wB ct a f) F (kX1_heapValue l dC dI ct a f s s (by omega) (by omega) hRg) gX1_isContent_X1_heapValue rfl ⟨rfl, rfl⟩ nmX1_heapValue ⟨Nat.le_of_ble_eq_true rfl, Nat.le_of_ble_eq_true rfl⟩ eT_b (fun _ _ _ => trivial) hK hP hD hS hA 0 rfl rfl rfl [0, 1, 2, 3, 4, 5, 6] (by decide) rfl rfl rfl hl.1 (Nat.le_of_ble_eq_true rfl) dX1_isContent_21 ⟨Nat.zero_le _, Nat.zero_le _⟩ (fun _ => rfl) (fun _ => rfl) [a 0, a 1, a 2, a 3, a 4, a 5, a 6] rfl (fun _ => rfl) (fun r_21 u_21 H locs e_21 hP hD hS => ?_)
    obtain rfl := e_21
    refine lv_aload_n F.1 F.2.1 dX1_isContent_24 rfl (lv_at hl 1 rfl) ?_
    refine gf F hK hP 0 rfl rfl hiX1_isContent_1 4 (by decide) (List.mem_of_getElem? (i := 1) rfl) rfl dX1_isContent_25 ?_
    refine lv_iload_n F.1 F.2.1 dX1_isContent_28 rfl (lv_at hl 2 rfl) ?_
    refine al (v := f (20 + 17 * s)) F hK hP 5 0 rfl rfl s rfl (by omega) (by decide) rfl dX1_isContent_29 ?_
    refine lv_iadd F.1 F.2.1 dX1_isContent_30 ?_
    refine lv_icmp_lt (tgt := 38) F.1 F.2.1 dX1_isContent_31 (by decide) (fun c_31 => ?_) (fun c_31 => ?_)
    · refine lv_iconst (v := 0) F.1 F.2.1 dX1_isContent_38 (by decide) ?_
      exact rtZ () F hr hlk hP hS rfl ((if_neg (fun q => Int32.not_lt.mpr q.2 c_31)).symm) (Or.inl rfl) dX1_isContent_39
    · refine lv_iconst (v := 1) F.1 F.2.1 dX1_isContent_34 (by decide) ?_
      refine lv_goto (tgt := 39) F.1 F.2.1 dX1_isContent_35 (by decide) ?_
      exact rtZ () F hr hlk hP hS rfl ((if_pos ⟨c_9, Int32.not_lt.mp c_31⟩).symm) (Or.inr rfl) dX1_isContent_39

def rmX1_deedOf : Room := { frames := 3, cells := 0, slots := 0, locals := 70 }
theorem nmX1_deedOf : NmV yX1_deedOf RX1 1 := by unfold NmV; decide +kernel
theorem hiX1_deedOf_1 : ∀ w ∈ u_ws RX1 TX1 10, w ∈ wsX1_deedOf := by decide +kernel
set_option maxHeartbeats 4000000 in
set_option maxRecDepth 100000 in
theorem kX1_deedOf (l : Launch) (dC : Nat → ClassId) (dI : Nat → Nat → Nat) (ct : Nat → ClassId) (a : Nat → Nat) (f : Nat → Int32) (s : Nat) (hs : s < 2) (hRg : Rg f) : MI (S := Unit) l yX1_deedOf wsX1_deedOf rmX1_deedOf dC dI ct eT [.ref (a 0), .int (nI s)] (wB ct a f) (fun _ => wB ct a f) (fun r _ => r = deed f s) := by
  refine MI.of (cc := cX1_deedOf) (maxL := 3) (ret := (some .int)) (by decide) rfl (Nat.le_of_ble_eq_true rfl) ?_
  intro pg en z mi below meth cd A F hr hlk hin hK hP hD hA hS hE ls hl
  have F : CallFix pg mi cd cX1_deedOf 3 z _ wsX1_deedOf RX1 := F
  have hl : lv_has ls 3 [(0, .ref (a 0)), (1, .int (nI s))] := hl
  refine lv_aload_n F.1 F.2.1 dX1_deedOf_0 rfl (lv_at hl 0 rfl) ?_
  refine lv_iload_n F.1 F.2.1 dX1_deedOf_1 rfl (lv_at hl 1 rfl) ?_
  refine iV (rest := []) (wsp := fun _ => wB ct a f) F (kX1_heapCount l dC dI ct a f s (by omega)) gX1_deedOf_X1_heapCount rfl ⟨rfl, rfl⟩ nmX1_heapCount ⟨Nat.le_of_ble_eq_true rfl, Nat.le_of_ble_eq_true rfl⟩ eT_b (fun _ _ _ => trivial) hK hP hD hS hA 0 rfl rfl rfl [0, 1, 2, 3, 4, 5, 6] (by decide) rfl rfl rfl hl.1 (Nat.le_of_ble_eq_true rfl) dX1_deedOf_2 ⟨Nat.zero_le _, Nat.zero_le _⟩ (fun _ => rfl) (fun _ => rfl) [a 0, a 1, a 2, a 3, a 4, a 5, a 6] rfl (fun _ => rfl) (fun r_2 u_2 H locs e_2 hP hD hS => ?_)
  obtain rfl := e_2
  refine lv_if_le (tgt := 12) F.1 F.2.1 dX1_deedOf_5 (by decide) (fun c_5 => ?_) (fun c_5 => ?_)
  · have c_5 := (sum0 hRg hs).mp c_5
    refine lv_iconst (v := 0) F.1 F.2.1 dX1_deedOf_12 (by decide) ?_
    refine lv_istore_n (lv' := [(2, .int 0), (0, .ref (a 0)), (1, .int (nI s))]) F.1 F.2.1 dX1_deedOf_13 rfl hl (by decide) rfl (fun ls hl => ?_)
    refine lv_aload_n F.1 F.2.1 dX1_deedOf_14 rfl (lv_at hl 1 rfl) ?_
    refine gf F hK hP 0 rfl rfl hiX1_deedOf_1 5 (by decide) (List.mem_of_getElem? (i := 1) rfl) rfl dX1_deedOf_15 ?_
    refine lv_iload_n F.1 F.2.1 dX1_deedOf_18 rfl (lv_at hl 2 rfl) ?_
    refine al (v := f (21 + 17 * s)) F hK hP 6 0 rfl rfl s rfl (by omega) (by decide) rfl dX1_deedOf_19 ?_
    refine lv_if_ne (tgt := 33) F.1 F.2.1 dX1_deedOf_20 (by decide) (fun c_20 => ?_) (fun c_20 => ?_)
    · refine lv_aload_n F.1 F.2.1 dX1_deedOf_33 rfl (lv_at hl 1 rfl) ?_
      refine lv_iload_n F.1 F.2.1 dX1_deedOf_34 rfl (lv_at hl 2 rfl) ?_
      refine iV (rest := []) (wsp := fun _ => wB ct a f) F (kX1_isContent l dC dI ct a f s (by omega) hRg) gX1_deedOf_X1_isContent rfl ⟨rfl, rfl⟩ nmX1_isContent ⟨Nat.le_of_ble_eq_true rfl, Nat.le_of_ble_eq_true rfl⟩ eT_b (fun _ _ _ => trivial) hK hP hD hS hA 0 rfl rfl rfl [0, 1, 2, 3, 4, 5, 6] (by decide) rfl rfl rfl hl.1 (Nat.le_of_ble_eq_true rfl) dX1_deedOf_35 ⟨Nat.zero_le _, Nat.zero_le _⟩ (fun _ => rfl) (fun _ => rfl) [a 0, a 1, a 2, a 3, a 4, a 5, a 6] rfl (fun _ => rfl) (fun r_35 u_35 H locs e_35 hP hD hS => ?_)
      obtain rfl := e_35
      refine lv_if_eq (tgt := 43) F.1 F.2.1 dX1_deedOf_38 (by decide) (fun c_38 => ?_) (fun c_38 => ?_)
      · have c_38 : ¬ (con f s) := b01f rfl c_38
        refine lv_iload_n F.1 F.2.1 dX1_deedOf_43 rfl (lv_at hl 0 rfl) ?_
        refine lv_if_eq (tgt := 51) F.1 F.2.1 dX1_deedOf_44 (by decide) (fun c_44 => ?_) (fun c_44 => ?_)
        · refine lv_iconst (v := 0) F.1 F.2.1 dX1_deedOf_51 (by decide) ?_
          exact rtI () F hr hlk hP hS rfl (by unfold deed; rw [if_neg c_20, if_neg c_38, if_pos c_5]) dX1_deedOf_52
        · exact absurd rfl c_44
      · have c_38 : con f s := b01t rfl c_38
        refine lv_iconst (v := 1) F.1 F.2.1 dX1_deedOf_41 (by decide) ?_
        exact rtI () F hr hlk hP hS rfl (by unfold deed; rw [if_neg c_20, if_pos c_38]) dX1_deedOf_42
    · refine lv_iload_n F.1 F.2.1 dX1_deedOf_23 rfl (lv_at hl 0 rfl) ?_
      refine lv_if_eq (tgt := 31) F.1 F.2.1 dX1_deedOf_24 (by decide) (fun c_24 => ?_) (fun c_24 => ?_)
      · refine lv_iconst (v := 0) F.1 F.2.1 dX1_deedOf_31 (by decide) ?_
        exact rtI () F hr hlk hP hS rfl (by unfold deed; rw [if_pos c_20, if_pos c_5]) dX1_deedOf_32
      · exact absurd rfl c_24
  · have c_5 := mt (sum0 hRg hs).mpr c_5
    refine lv_iconst (v := 1) F.1 F.2.1 dX1_deedOf_8 (by decide) ?_
    refine lv_goto (tgt := 13) F.1 F.2.1 dX1_deedOf_9 (by decide) ?_
    refine lv_istore_n (lv' := [(2, .int 1), (0, .ref (a 0)), (1, .int (nI s))]) F.1 F.2.1 dX1_deedOf_13 rfl hl (by decide) rfl (fun ls hl => ?_)
    refine lv_aload_n F.1 F.2.1 dX1_deedOf_14 rfl (lv_at hl 1 rfl) ?_
    refine gf F hK hP 0 rfl rfl hiX1_deedOf_1 5 (by decide) (List.mem_of_getElem? (i := 1) rfl) rfl dX1_deedOf_15 ?_
    refine lv_iload_n F.1 F.2.1 dX1_deedOf_18 rfl (lv_at hl 2 rfl) ?_
    refine al (v := f (21 + 17 * s)) F hK hP 6 0 rfl rfl s rfl (by omega) (by decide) rfl dX1_deedOf_19 ?_
    refine lv_if_ne (tgt := 33) F.1 F.2.1 dX1_deedOf_20 (by decide) (fun c_20 => ?_) (fun c_20 => ?_)
    · refine lv_aload_n F.1 F.2.1 dX1_deedOf_33 rfl (lv_at hl 1 rfl) ?_
      refine lv_iload_n F.1 F.2.1 dX1_deedOf_34 rfl (lv_at hl 2 rfl) ?_
      refine iV (rest := []) (wsp := fun _ => wB ct a f) F (kX1_isContent l dC dI ct a f s (by omega) hRg) gX1_deedOf_X1_isContent rfl ⟨rfl, rfl⟩ nmX1_isContent ⟨Nat.le_of_ble_eq_true rfl, Nat.le_of_ble_eq_true rfl⟩ eT_b (fun _ _ _ => trivial) hK hP hD hS hA 0 rfl rfl rfl [0, 1, 2, 3, 4, 5, 6] (by decide) rfl rfl rfl hl.1 (Nat.le_of_ble_eq_true rfl) dX1_deedOf_35 ⟨Nat.zero_le _, Nat.zero_le _⟩ (fun _ => rfl) (fun _ => rfl) [a 0, a 1, a 2, a 3, a 4, a 5, a 6] rfl (fun _ => rfl) (fun r_35 u_35 H locs e_35 hP hD hS => ?_)
      obtain rfl := e_35
      refine lv_if_eq (tgt := 43) F.1 F.2.1 dX1_deedOf_38 (by decide) (fun c_38 => ?_) (fun c_38 => ?_)
      · have c_38 : ¬ (con f s) := b01f rfl c_38
        refine lv_iload_n F.1 F.2.1 dX1_deedOf_43 rfl (lv_at hl 0 rfl) ?_
        refine lv_if_eq (tgt := 51) F.1 F.2.1 dX1_deedOf_44 (by decide) (fun c_44 => ?_) (fun c_44 => ?_)
        · exact absurd c_44 (by decide)
        · refine lv_iconst (v := 2) F.1 F.2.1 dX1_deedOf_47 (by decide) ?_
          refine lv_goto (tgt := 52) F.1 F.2.1 dX1_deedOf_48 (by decide) ?_
          exact rtI () F hr hlk hP hS rfl (by unfold deed; rw [if_neg c_20, if_neg c_38, if_neg c_5]) dX1_deedOf_52
      · have c_38 : con f s := b01t rfl c_38
        refine lv_iconst (v := 1) F.1 F.2.1 dX1_deedOf_41 (by decide) ?_
        exact rtI () F hr hlk hP hS rfl (by unfold deed; rw [if_neg c_20, if_pos c_38]) dX1_deedOf_42
    · refine lv_iload_n F.1 F.2.1 dX1_deedOf_23 rfl (lv_at hl 0 rfl) ?_
      refine lv_if_eq (tgt := 31) F.1 F.2.1 dX1_deedOf_24 (by decide) (fun c_24 => ?_) (fun c_24 => ?_)
      · exact absurd c_24 (by decide)
      · refine lv_iconst (v := 3) F.1 F.2.1 dX1_deedOf_27 (by decide) ?_
        refine lv_goto (tgt := 32) F.1 F.2.1 dX1_deedOf_28 (by decide) ?_
        exact rtI () F hr hlk hP hS rfl (by unfold deed; rw [if_pos c_20, if_neg c_5]) dX1_deedOf_32

def rmX1_dearestLast : Room := { frames := 1, cells := 0, slots := 0, locals := 24 }
theorem nmX1_dearestLast : NmV yX1_dearestLast RX1 1 := by unfold NmV; decide +kernel
theorem hiX1_dearestLast_1 : ∀ w ∈ u_ws RX1 TX1 10, w ∈ wsX1_dearestLast := by decide +kernel
set_option maxHeartbeats 4000000 in
set_option maxRecDepth 100000 in
theorem kX1_dearestLast (l : Launch) (dC : Nat → ClassId) (dI : Nat → Nat → Nat) (ct : Nat → ClassId) (a : Nat → Nat) (f : Nat → Int32) (s : Nat) (hs : s < 2) : MI (S := Unit) l yX1_dearestLast wsX1_dearestLast rmX1_dearestLast dC dI ct eT [.ref (a 0), .int (nI s)] (wB ct a f) (fun _ => wB ct a f) (fun r _ => r = (deaU f s 5).1) := by
  refine MI.of (cc := cX1_dearestLast) (maxL := 7) (ret := (some .int)) (by decide) rfl (Nat.le_of_ble_eq_true rfl) ?_
  intro pg en z mi below meth cd A F hr hlk hin hK hP hD hA hS hE ls hl
  have F : CallFix pg mi cd cX1_dearestLast 7 z _ wsX1_dearestLast RX1 := F
  have hl : lv_has ls 7 [(0, .ref (a 0)), (1, .int (nI s))] := hl
  refine lv_iconst (v := (-1)) F.1 F.2.1 dX1_dearestLast_0 (by decide) ?_
  refine lv_istore_n (lv' := [(2, .int (-1)), (0, .ref (a 0)), (1, .int (nI s))]) F.1 F.2.1 dX1_dearestLast_1 rfl hl (by decide) rfl (fun ls hl => ?_)
  refine lv_iconst (v := 0) F.1 F.2.1 dX1_dearestLast_2 (by decide) ?_
  refine lv_istore_n (lv' := [(3, .int 0), (2, .int (-1)), (0, .ref (a 0)), (1, .int (nI s))]) F.1 F.2.1 dX1_dearestLast_3 rfl hl (by decide) rfl (fun ls hl => ?_)
  refine lv_iconst (v := 0) F.1 F.2.1 dX1_dearestLast_4 (by decide) ?_
  refine lv_istore (lv' := [(4, .int 0), (3, .int 0), (2, .int (-1)), (0, .ref (a 0)), (1, .int (nI s))]) F.1 F.2.1 dX1_dearestLast_5 hl (by decide) rfl (fun ls hl => ?_)
  refine loopN (I := fun k H locs ls => va_P (dC, dI) vwCl (wB ct a f) H ∧ va_D A (wB ct a f) ∧ va_S A z.heap H locs ∧ lv_has ls 7 [(4, .int (nI k)), (3, .int ((deaU f s k).2)), (2, .int ((deaU f s k).1)), (0, .ref (a 0)), (1, .int (nI s))]) 5 0 (by omega) ⟨hP, hD, hS, lv_sub hl [0, 1, 2, 3, 4] rfl⟩ (fun H locs ls hI => ?_) (fun k hk_k H locs ls hI ih_7 => ?_)
  · obtain ⟨hP, hD, hS, hl⟩ := hI
    refine lv_iload F.1 F.2.1 dX1_dearestLast_7 (lv_at hl 0 rfl) ?_
    refine lv_iconst (v := 5) F.1 F.2.1 dX1_dearestLast_9 (by decide) ?_
    refine lv_icmp_ge (tgt := 76) F.1 F.2.1 dX1_dearestLast_10 (by decide) (fun c_10 => ?_) (fun c_10 => ?_)
    · refine lv_iload_n F.1 F.2.1 dX1_dearestLast_76 rfl (lv_at hl 2 rfl) ?_
      exact rtI () F hr hlk hP hS rfl (by simp [c_10, Int32.not_lt.mpr c_10]) dX1_dearestLast_77
    · exact absurd (nI_le (Nat.le_refl _) (by decide)) c_10
  · obtain ⟨hP, hD, hS, hl⟩ := hI
    refine lv_iload F.1 F.2.1 dX1_dearestLast_7 (lv_at hl 0 rfl) ?_
    refine lv_iconst (v := 5) F.1 F.2.1 dX1_dearestLast_9 (by decide) ?_
    refine lv_icmp_ge (tgt := 76) F.1 F.2.1 dX1_dearestLast_10 (by decide) (fun c_10 => ?_) (fun c_10 => ?_)
    · exact absurd c_10 (nI_ge hk_k (by decide))
    · refine lv_aload_n F.1 F.2.1 dX1_dearestLast_13 rfl (lv_at hl 3 rfl) ?_
      refine gf F hK hP 0 rfl rfl hiX1_dearestLast_1 2 (by decide) (List.mem_of_getElem? (i := 1) rfl) rfl dX1_dearestLast_14 ?_
      refine lv_iload_n F.1 F.2.1 dX1_dearestLast_17 rfl (lv_at hl 4 rfl) ?_
      refine lv_iconst (v := 5) F.1 F.2.1 dX1_dearestLast_18 (by decide) ?_
      refine lv_imul F.1 F.2.1 dX1_dearestLast_19 ?_
      refine tp (y := nI (s * 5)) (ml2 (a := s) (b := 5) (c := s * 5) rfl rfl rfl) ?_
      refine lv_iload F.1 F.2.1 dX1_dearestLast_20 (lv_at hl 0 rfl) ?_
      refine lv_iadd F.1 F.2.1 dX1_dearestLast_22 ?_
      refine tp (y := nI (s * 5 + k)) (ad2 (a := s * 5) (b := k) (c := s * 5 + k) rfl rfl rfl) ?_
      refine al (v := f (27 + 17 * s + k)) F hK hP 3 0 rfl rfl (s * 5 + k) rfl (by omega) (by decide) (congrArg f (ix5 (by omega))) dX1_dearestLast_23 ?_
      refine lv_istore (lv' := [(5, .int (f (27 + 17 * s + k))), (4, .int (nI k)), (3, .int ((deaU f s k).2)), (2, .int ((deaU f s k).1)), (0, .ref (a 0)), (1, .int (nI s))]) F.1 F.2.1 dX1_dearestLast_24 hl (by decide) rfl (fun ls hl => ?_)
      refine lv_iload F.1 F.2.1 dX1_dearestLast_26 (lv_at hl 0 rfl) ?_
      refine lv_if_le (tgt := 70) F.1 F.2.1 dX1_dearestLast_28 (by decide) (fun c_28 => ?_) (fun c_28 => ?_)
      · refine lv_iinc (v := nI (k + 1)) (lv' := [(4, .int (nI (k + 1))), (5, .int (f (27 + 17 * s + k))), (3, .int ((deaU f s k).2)), (2, .int ((deaU f s k).1)), (0, .ref (a 0)), (1, .int (nI s))]) F.1 F.2.1 dX1_dearestLast_70 hl (k := 1) rfl (by rw [show Int32.ofInt 1 = nI 1 from rfl, nI_add]) (by decide) rfl (fun ls hl => ?_)
        refine lv_goto (tgt := 7) F.1 F.2.1 dX1_dearestLast_73 (by decide) ?_
        have eb : deaU f s (k + 1) = deaU f s k := if_neg (fun q => Int32.not_lt.mpr c_28 q.1)
        exact ih_7 _ _ _ ⟨hP, hD, hS, lv_sub hl [0, 2, 3, 4, 5] (by rw [eb]; rfl)⟩
      · refine lv_aload_n F.1 F.2.1 dX1_dearestLast_31 rfl (lv_at hl 4 rfl) ?_
        refine lv_iload_n F.1 F.2.1 dX1_dearestLast_32 rfl (lv_at hl 5 rfl) ?_
        refine lv_iload F.1 F.2.1 dX1_dearestLast_33 (lv_at hl 1 rfl) ?_
        refine lv_iload F.1 F.2.1 dX1_dearestLast_35 (lv_at hl 0 rfl) ?_
        refine iV (rest := []) (wsp := fun _ => wB ct a f) F (kX1_priceOf l dC dI ct a f s k (f (27 + 17 * s + k)) (by omega) (by omega) (pos_le c_28)) gX1_dearestLast_X1_priceOf rfl ⟨rfl, rfl⟩ nmX1_priceOf ⟨Nat.le_of_ble_eq_true rfl, Nat.le_of_ble_eq_true rfl⟩ eT_b (fun _ _ _ => trivial) hK hP hD hS hA 0 rfl rfl rfl [0, 1, 2, 3, 4, 5, 6] (by decide) rfl rfl rfl hl.1 (Nat.le_of_ble_eq_true rfl) dX1_dearestLast_37 ⟨Nat.zero_le _, Nat.zero_le _⟩ (fun _ => rfl) (fun _ => rfl) [a 0, a 1, a 2, a 3, a 4, a 5, a 6] rfl (fun _ => rfl) (fun r_37 u_37 H locs e_37 hP hD hS => ?_)
        obtain rfl := e_37
        refine lv_aload_n F.1 F.2.1 dX1_dearestLast_40 rfl (lv_at hl 4 rfl) ?_
        refine lv_iload_n F.1 F.2.1 dX1_dearestLast_41 rfl (lv_at hl 5 rfl) ?_
        refine lv_iload F.1 F.2.1 dX1_dearestLast_42 (lv_at hl 1 rfl) ?_
        refine lv_iload F.1 F.2.1 dX1_dearestLast_44 (lv_at hl 0 rfl) ?_
        refine lv_iconst (v := 1) F.1 F.2.1 dX1_dearestLast_46 (by decide) ?_
        refine lv_isub F.1 F.2.1 dX1_dearestLast_47 ?_
        refine iV (rest := [.int (pF f s k (f (27 + 17 * s + k)))]) (wsp := fun _ => wB ct a f) F (kX1_priceOf l dC dI ct a f s k ((f (27 + 17 * s + k)) - 1) (by omega) (by omega) (pos_pred c_28)) gX1_dearestLast_X1_priceOf rfl ⟨rfl, rfl⟩ nmX1_priceOf ⟨Nat.le_of_ble_eq_true rfl, Nat.le_of_ble_eq_true rfl⟩ eT_b (fun _ _ _ => trivial) hK hP hD hS hA 0 rfl rfl rfl [0, 1, 2, 3, 4, 5, 6] (by decide) rfl rfl rfl hl.1 (Nat.le_of_ble_eq_true rfl) dX1_dearestLast_48 ⟨Nat.zero_le _, Nat.zero_le _⟩ (fun _ => rfl) (fun _ => rfl) [a 0, a 1, a 2, a 3, a 4, a 5, a 6] rfl (fun _ => rfl) (fun r_48 u_48 H locs e_48 hP hD hS => ?_)
        obtain rfl := e_48
        refine lv_isub F.1 F.2.1 dX1_dearestLast_51 ?_
        refine lv_istore (lv' := [(6, .int ((pF f s k (f (27 + 17 * s + k))) - (pF f s k ((f (27 + 17 * s + k)) - 1)))), (5, .int (f (27 + 17 * s + k))), (4, .int (nI k)), (3, .int ((deaU f s k).2)), (2, .int ((deaU f s k).1)), (0, .ref (a 0)), (1, .int (nI s))]) F.1 F.2.1 dX1_dearestLast_52 hl (by decide) rfl (fun ls hl => ?_)
        refine lv_iload_n F.1 F.2.1 dX1_dearestLast_54 rfl (lv_at hl 4 rfl) ?_
        refine lv_if_lt (tgt := 64) F.1 F.2.1 dX1_dearestLast_55 (by decide) (fun c_55 => ?_) (fun c_55 => ?_)
        · refine lv_iload F.1 F.2.1 dX1_dearestLast_64 (lv_at hl 2 rfl) ?_
          refine lv_istore_n (lv' := [(2, .int (nI k)), (6, .int ((pF f s k (f (27 + 17 * s + k))) - (pF f s k ((f (27 + 17 * s + k)) - 1)))), (5, .int (f (27 + 17 * s + k))), (4, .int (nI k)), (3, .int ((deaU f s k).2)), (0, .ref (a 0)), (1, .int (nI s))]) F.1 F.2.1 dX1_dearestLast_66 rfl hl (by decide) rfl (fun ls hl => ?_)
          refine lv_iload F.1 F.2.1 dX1_dearestLast_67 (lv_at hl 1 rfl) ?_
          refine lv_istore_n (lv' := [(3, .int ((pF f s k (f (27 + 17 * s + k))) - (pF f s k ((f (27 + 17 * s + k)) - 1)))), (2, .int (nI k)), (6, .int ((pF f s k (f (27 + 17 * s + k))) - (pF f s k ((f (27 + 17 * s + k)) - 1)))), (5, .int (f (27 + 17 * s + k))), (4, .int (nI k)), (0, .ref (a 0)), (1, .int (nI s))]) F.1 F.2.1 dX1_dearestLast_69 rfl hl (by decide) rfl (fun ls hl => ?_)
          refine lv_iinc (v := nI (k + 1)) (lv' := [(4, .int (nI (k + 1))), (3, .int ((pF f s k (f (27 + 17 * s + k))) - (pF f s k ((f (27 + 17 * s + k)) - 1)))), (2, .int (nI k)), (6, .int ((pF f s k (f (27 + 17 * s + k))) - (pF f s k ((f (27 + 17 * s + k)) - 1)))), (5, .int (f (27 + 17 * s + k))), (0, .ref (a 0)), (1, .int (nI s))]) F.1 F.2.1 dX1_dearestLast_70 hl (k := 4) rfl (by rw [show Int32.ofInt 1 = nI 1 from rfl, nI_add]) (by decide) rfl (fun ls hl => ?_)
          refine lv_goto (tgt := 7) F.1 F.2.1 dX1_dearestLast_73 (by decide) ?_
          have eb : deaU f s (k + 1) = (nI k, oneF f s k) := if_pos ⟨Int32.not_le.mp c_28, Or.inl c_55⟩
          exact ih_7 _ _ _ ⟨hP, hD, hS, lv_sub hl [0, 1, 2, 5, 6] (by rw [eb]; rfl)⟩
        · refine lv_iload F.1 F.2.1 dX1_dearestLast_58 (lv_at hl 0 rfl) ?_
          refine lv_iload_n F.1 F.2.1 dX1_dearestLast_60 rfl (lv_at hl 3 rfl) ?_
          refine lv_icmp_le (tgt := 70) F.1 F.2.1 dX1_dearestLast_61 (by decide) (fun c_61 => ?_) (fun c_61 => ?_)
          · refine lv_iinc (v := nI (k + 1)) (lv' := [(4, .int (nI (k + 1))), (6, .int ((pF f s k (f (27 + 17 * s + k))) - (pF f s k ((f (27 + 17 * s + k)) - 1)))), (5, .int (f (27 + 17 * s + k))), (3, .int ((deaU f s k).2)), (2, .int ((deaU f s k).1)), (0, .ref (a 0)), (1, .int (nI s))]) F.1 F.2.1 dX1_dearestLast_70 hl (k := 2) rfl (by rw [show Int32.ofInt 1 = nI 1 from rfl, nI_add]) (by decide) rfl (fun ls hl => ?_)
            refine lv_goto (tgt := 7) F.1 F.2.1 dX1_dearestLast_73 (by decide) ?_
            have eb : deaU f s (k + 1) = deaU f s k := if_neg (fun q => q.2.elim c_55 (fun w => Int32.not_lt.mpr c_61 w))
            exact ih_7 _ _ _ ⟨hP, hD, hS, lv_sub hl [0, 3, 4, 5, 6] (by rw [eb]; rfl)⟩
          · refine lv_iload F.1 F.2.1 dX1_dearestLast_64 (lv_at hl 2 rfl) ?_
            refine lv_istore_n (lv' := [(2, .int (nI k)), (6, .int ((pF f s k (f (27 + 17 * s + k))) - (pF f s k ((f (27 + 17 * s + k)) - 1)))), (5, .int (f (27 + 17 * s + k))), (4, .int (nI k)), (3, .int ((deaU f s k).2)), (0, .ref (a 0)), (1, .int (nI s))]) F.1 F.2.1 dX1_dearestLast_66 rfl hl (by decide) rfl (fun ls hl => ?_)
            refine lv_iload F.1 F.2.1 dX1_dearestLast_67 (lv_at hl 1 rfl) ?_
            refine lv_istore_n (lv' := [(3, .int ((pF f s k (f (27 + 17 * s + k))) - (pF f s k ((f (27 + 17 * s + k)) - 1)))), (2, .int (nI k)), (6, .int ((pF f s k (f (27 + 17 * s + k))) - (pF f s k ((f (27 + 17 * s + k)) - 1)))), (5, .int (f (27 + 17 * s + k))), (4, .int (nI k)), (0, .ref (a 0)), (1, .int (nI s))]) F.1 F.2.1 dX1_dearestLast_69 rfl hl (by decide) rfl (fun ls hl => ?_)
            refine lv_iinc (v := nI (k + 1)) (lv' := [(4, .int (nI (k + 1))), (3, .int ((pF f s k (f (27 + 17 * s + k))) - (pF f s k ((f (27 + 17 * s + k)) - 1)))), (2, .int (nI k)), (6, .int ((pF f s k (f (27 + 17 * s + k))) - (pF f s k ((f (27 + 17 * s + k)) - 1)))), (5, .int (f (27 + 17 * s + k))), (0, .ref (a 0)), (1, .int (nI s))]) F.1 F.2.1 dX1_dearestLast_70 hl (k := 4) rfl (by rw [show Int32.ofInt 1 = nI 1 from rfl, nI_add]) (by decide) rfl (fun ls hl => ?_)
            refine lv_goto (tgt := 7) F.1 F.2.1 dX1_dearestLast_73 (by decide) ?_
            have eb : deaU f s (k + 1) = (nI k, oneF f s k) := if_pos ⟨Int32.not_le.mp c_28, Or.inr (Int32.not_le.mp c_61)⟩
            exact ih_7 _ _ _ ⟨hP, hD, hS, lv_sub hl [0, 1, 2, 5, 6] (by rw [eb]; rfl)⟩

def rmX1_takeOneAway : Room := { frames := 2, cells := 0, slots := 0, locals := 50 }
theorem nmX1_takeOneAway : NmV yX1_takeOneAway RX1 1 := by unfold NmV; decide +kernel
theorem hiX1_takeOneAway_1 : ∀ w ∈ u_ws RX1 TX1 10, w ∈ wsX1_takeOneAway := by decide +kernel
set_option maxHeartbeats 4000000 in
set_option maxRecDepth 100000 in
theorem kX1_takeOneAway (l : Launch) (dC : Nat → ClassId) (dI : Nat → Nat → Nat) (ct : Nat → ClassId) (a : Nat → Nat) (f : Nat → Int32) (s t : Nat) (hs : s < 2) (ht : t < 5) (et : (deaU f s 5).1 = nI t) : MV (S := Unit) l yX1_takeOneAway wsX1_takeOneAway rmX1_takeOneAway dC dI ct eT [.ref (a 0), .int (nI s)] (wB ct a f) (fun _ => wB ct a (lesF f s t)) (fun _ => True) := by
  refine MV.of (cc := cX1_takeOneAway) (maxL := 3) (ret := none) (by decide) rfl (Nat.le_of_ble_eq_true rfl) ?_
  intro pg en z mi below meth cd A F hr hlk hin hK hP hD hA hS hE ls hl
  have F : CallFix pg mi cd cX1_takeOneAway 3 z _ wsX1_takeOneAway RX1 := F
  have hl : lv_has ls 3 [(0, .ref (a 0)), (1, .int (nI s))] := hl
  refine lv_aload_n F.1 F.2.1 dX1_takeOneAway_0 rfl (lv_at hl 0 rfl) ?_
  refine lv_iload_n F.1 F.2.1 dX1_takeOneAway_1 rfl (lv_at hl 1 rfl) ?_
  refine iV (rest := []) (wsp := fun _ => wB ct a f) F (kX1_dearestLast l dC dI ct a f s (by omega)) gX1_takeOneAway_X1_dearestLast rfl ⟨rfl, rfl⟩ nmX1_dearestLast ⟨Nat.le_of_ble_eq_true rfl, Nat.le_of_ble_eq_true rfl⟩ eT_b (fun _ _ _ => trivial) hK hP hD hS hA 0 rfl rfl rfl [0, 1, 2, 3, 4, 5, 6] (by decide) rfl rfl rfl hl.1 (Nat.le_of_ble_eq_true rfl) dX1_takeOneAway_2 ⟨Nat.zero_le _, Nat.zero_le _⟩ (fun _ => rfl) (fun _ => rfl) [a 0, a 1, a 2, a 3, a 4, a 5, a 6] rfl (fun _ => rfl) (fun r_2 u_2 H locs e_2 hP hD hS => ?_)
  obtain rfl := e_2
  refine tp (y := nI t) et ?_
  refine lv_istore_n (lv' := [(2, .int (nI t)), (0, .ref (a 0)), (1, .int (nI s))]) F.1 F.2.1 dX1_takeOneAway_5 rfl hl (by decide) rfl (fun ls hl => ?_)
  refine lv_iload_n F.1 F.2.1 dX1_takeOneAway_6 rfl (lv_at hl 0 rfl) ?_
  refine lv_if_lt (tgt := 31) F.1 F.2.1 dX1_takeOneAway_7 (by decide) (fun c_7 => ?_) (fun c_7 => ?_)
  · exact absurd c_7 (nI_pos (by omega))
  · refine lv_aload_n F.1 F.2.1 dX1_takeOneAway_10 rfl (lv_at hl 1 rfl) ?_
    refine gf F hK hP 0 rfl rfl hiX1_takeOneAway_1 2 (by decide) (List.mem_of_getElem? (i := 1) rfl) rfl dX1_takeOneAway_11 ?_
    refine lv_iload_n F.1 F.2.1 dX1_takeOneAway_14 rfl (lv_at hl 2 rfl) ?_
    refine lv_iconst (v := 5) F.1 F.2.1 dX1_takeOneAway_15 (by decide) ?_
    refine lv_imul F.1 F.2.1 dX1_takeOneAway_16 ?_
    refine tp (y := nI (s * 5)) (ml2 (a := s) (b := 5) (c := s * 5) rfl rfl rfl) ?_
    refine lv_iload_n F.1 F.2.1 dX1_takeOneAway_17 rfl (lv_at hl 0 rfl) ?_
    refine lv_iadd F.1 F.2.1 dX1_takeOneAway_18 ?_
    refine tp (y := nI (s * 5 + t)) (ad2 (a := s * 5) (b := t) (c := s * 5 + t) rfl rfl rfl) ?_
    refine lv_dup2_11 F.1 F.2.1 dX1_takeOneAway_19 rfl rfl ?_
    refine al (v := f (27 + 17 * s + t)) F hK hP 3 0 rfl rfl (s * 5 + t) rfl (by omega) (by decide) (congrArg f (ix5 (by omega))) dX1_takeOneAway_20 ?_
    refine lv_iconst (v := 1) F.1 F.2.1 dX1_takeOneAway_21 (by decide) ?_
    refine lv_isub F.1 F.2.1 dX1_takeOneAway_22 ?_
    refine ast (ws' := wB ct a (upd f (27 + 17 * s + t) ((f (27 + 17 * s + t)) - 1))) F hK hP hD hS 3 0 rfl rfl (s * 5 + t) rfl (by omega) (by decide) dX1_takeOneAway_23 (wq_heap ct a f (by omega) (by omega)) (fun H locs hP hD hS => ?_)
    refine lv_aload_n F.1 F.2.1 dX1_takeOneAway_24 rfl (lv_at hl 1 rfl) ?_
    refine lv_iload_n F.1 F.2.1 dX1_takeOneAway_25 rfl (lv_at hl 2 rfl) ?_
    refine lv_iload_n F.1 F.2.1 dX1_takeOneAway_26 rfl (lv_at hl 0 rfl) ?_
    refine lv_iconst (v := 1) F.1 F.2.1 dX1_takeOneAway_27 (by decide) ?_
    refine vV (rest := []) (wsp := fun _ => wB ct a (comeH (upd f (27 + 17 * s + t) ((f (27 + 17 * s + t)) - 1)) s t 1)) F (kX1_addHome l dC dI ct a (upd f (27 + 17 * s + t) ((f (27 + 17 * s + t)) - 1)) s t 1 (by omega) (by omega)) gX1_takeOneAway_X1_addHome rfl ⟨rfl, rfl⟩ nmX1_addHome ⟨Nat.le_of_ble_eq_true rfl, Nat.le_of_ble_eq_true rfl⟩ eT_b (fun _ _ _ => trivial) hK hP hD hS hA 0 rfl rfl rfl [0, 1, 2, 3, 4, 5, 6] (by decide) rfl rfl rfl hl.1 (Nat.le_of_ble_eq_true rfl) dX1_takeOneAway_28 ⟨Nat.zero_le _, Nat.zero_le _⟩ (fun _ => rfl) (fun _ => rfl) [a 0, a 1, a 2, a 3, a 4, a 5, a 6] rfl (fun _ => rfl) (fun u_28 H locs e_28 hP hD hS => ?_)
    exact rtV () F hr hlk hP hS rfl trivial dX1_takeOneAway_31

def rmX1_changeHeaps : Room := { frames := 3, cells := 0, slots := 0, locals := 68 }
theorem nmX1_changeHeaps : NmV yX1_changeHeaps RX1 0 := by unfold NmV; decide +kernel
theorem hiX1_changeHeaps_1 : ∀ w ∈ u_ws RX1 TX1 10, w ∈ wsX1_changeHeaps := by decide +kernel
set_option maxHeartbeats 4000000 in
set_option maxRecDepth 100000 in
theorem kX1_changeHeaps (l : Launch) (dC : Nat → ClassId) (dI : Nat → Nat → Nat) (ct : Nat → ClassId) (a : Nat → Nat) (f : Nat → Int32) : MV (S := Unit) l yX1_changeHeaps wsX1_changeHeaps rmX1_changeHeaps dC dI ct eT [.ref (a 0)] (wB ct a f) (fun _ => wB ct a (chF f)) (fun _ => True) := by
  refine MV.of (cc := cX1_changeHeaps) (maxL := 1) (ret := none) (by decide) rfl (Nat.le_of_ble_eq_true rfl) ?_
  intro pg en z mi below meth cd A F hr hlk hin hK hP hD hA hS hE ls hl
  have F : CallFix pg mi cd cX1_changeHeaps 1 z _ wsX1_changeHeaps RX1 := F
  have hl : lv_has ls 1 [(0, .ref (a 0))] := hl
  refine lv_aload_n F.1 F.2.1 dX1_changeHeaps_0 rfl (lv_at hl 0 rfl) ?_
  refine lv_iconst (v := 0) F.1 F.2.1 dX1_changeHeaps_1 (by decide) ?_
  refine lv_iconst (v := 1) F.1 F.2.1 dX1_changeHeaps_2 (by decide) ?_
  refine vV (rest := []) (wsp := fun _ => wB ct a (goU f 0 1 5)) F (kX1_bringHome l dC dI ct a f 0 1 (by omega) (by omega)) gX1_changeHeaps_X1_bringHome rfl ⟨rfl, rfl⟩ nmX1_bringHome ⟨Nat.le_of_ble_eq_true rfl, Nat.le_of_ble_eq_true rfl⟩ eT_b (fun _ _ _ => trivial) hK hP hD hS hA 0 rfl rfl rfl [0, 1, 2, 3, 4, 5, 6] (by decide) rfl rfl rfl hl.1 (Nat.le_of_ble_eq_true rfl) dX1_changeHeaps_3 ⟨Nat.zero_le _, Nat.zero_le _⟩ (fun _ => rfl) (fun _ => rfl) [a 0, a 1, a 2, a 3, a 4, a 5, a 6] rfl (fun _ => rfl) (fun u_3 H locs e_3 hP hD hS => ?_)
  refine lv_aload_n F.1 F.2.1 dX1_changeHeaps_6 rfl (lv_at hl 0 rfl) ?_
  refine lv_iconst (v := 1) F.1 F.2.1 dX1_changeHeaps_7 (by decide) ?_
  refine lv_iconst (v := 0) F.1 F.2.1 dX1_changeHeaps_8 (by decide) ?_
  refine vV (rest := []) (wsp := fun _ => wB ct a (goU (goU f 0 1 5) 1 0 5)) F (kX1_bringHome l dC dI ct a (goU f 0 1 5) 1 0 (by omega) (by omega)) gX1_changeHeaps_X1_bringHome rfl ⟨rfl, rfl⟩ nmX1_bringHome ⟨Nat.le_of_ble_eq_true rfl, Nat.le_of_ble_eq_true rfl⟩ eT_b (fun _ _ _ => trivial) hK hP hD hS hA 0 rfl rfl rfl [0, 1, 2, 3, 4, 5, 6] (by decide) rfl rfl rfl hl.1 (Nat.le_of_ble_eq_true rfl) dX1_changeHeaps_9 ⟨Nat.zero_le _, Nat.zero_le _⟩ (fun _ => rfl) (fun _ => rfl) [a 0, a 1, a 2, a 3, a 4, a 5, a 6] rfl (fun _ => rfl) (fun u_9 H locs e_9 hP hD hS => ?_)
  refine lv_aload_n F.1 F.2.1 dX1_changeHeaps_12 rfl (lv_at hl 0 rfl) ?_
  refine lv_iconst (v := 0) F.1 F.2.1 dX1_changeHeaps_13 (by decide) ?_
  refine vV (rest := []) (wsp := fun _ => wB ct a (truF (goU (goU f 0 1 5) 1 0 5) 0)) F (kX1_trustMore l dC dI ct a (goU (goU f 0 1 5) 1 0 5) 0 (by omega)) gX1_changeHeaps_X1_trustMore rfl ⟨rfl, rfl⟩ nmX1_trustMore ⟨Nat.le_of_ble_eq_true rfl, Nat.le_of_ble_eq_true rfl⟩ eT_b (fun _ _ _ => trivial) hK hP hD hS hA 0 rfl rfl rfl [0, 1, 2, 3, 4, 5, 6] (by decide) rfl rfl rfl hl.1 (Nat.le_of_ble_eq_true rfl) dX1_changeHeaps_14 ⟨Nat.zero_le _, Nat.zero_le _⟩ (fun _ => rfl) (fun _ => rfl) [a 0, a 1, a 2, a 3, a 4, a 5, a 6] rfl (fun _ => rfl) (fun u_14 H locs e_14 hP hD hS => ?_)
  refine lv_aload_n F.1 F.2.1 dX1_changeHeaps_17 rfl (lv_at hl 0 rfl) ?_
  refine lv_iconst (v := 1) F.1 F.2.1 dX1_changeHeaps_18 (by decide) ?_
  refine vV (rest := []) (wsp := fun _ => wB ct a (truF (truF (goU (goU f 0 1 5) 1 0 5) 0) 1)) F (kX1_trustMore l dC dI ct a (truF (goU (goU f 0 1 5) 1 0 5) 0) 1 (by omega)) gX1_changeHeaps_X1_trustMore rfl ⟨rfl, rfl⟩ nmX1_trustMore ⟨Nat.le_of_ble_eq_true rfl, Nat.le_of_ble_eq_true rfl⟩ eT_b (fun _ _ _ => trivial) hK hP hD hS hA 0 rfl rfl rfl [0, 1, 2, 3, 4, 5, 6] (by decide) rfl rfl rfl hl.1 (Nat.le_of_ble_eq_true rfl) dX1_changeHeaps_19 ⟨Nat.zero_le _, Nat.zero_le _⟩ (fun _ => rfl) (fun _ => rfl) [a 0, a 1, a 2, a 3, a 4, a 5, a 6] rfl (fun _ => rfl) (fun u_19 H locs e_19 hP hD hS => ?_)
  refine lv_aload_n F.1 F.2.1 dX1_changeHeaps_22 rfl (lv_at hl 0 rfl) ?_
  refine lv_dup F.1 F.2.1 dX1_changeHeaps_23 rfl ?_
  refine gf F hK hP 0 rfl rfl hiX1_changeHeaps_1 8 (by decide) (List.mem_of_getElem? (i := 1) rfl) rfl dX1_changeHeaps_24 ?_
  refine lv_iconst (v := 1) F.1 F.2.1 dX1_changeHeaps_27 (by decide) ?_
  refine lv_iadd F.1 F.2.1 dX1_changeHeaps_28 ?_
  refine pf (ws' := wB ct a (upd (truF (truF (goU (goU f 0 1 5) 1 0 5) 0) 1) 2 (((truF (truF (goU (goU f 0 1 5) 1 0 5) 0) 1) 2) + 1))) F hK hP hD hS 0 rfl rfl hiX1_changeHeaps_1 tyX1 tyX1_ok nmX1 8 (by decide) (List.mem_of_getElem? (i := 1) rfl) rfl rfl rfl (Nat.le_of_ble_eq_true rfl) dX1_changeHeaps_29 (wq_f2 ct a (truF (truF (goU (goU f 0 1 5) 1 0 5) 0) 1) _) (fun H locs hP hD hS => ?_)
  exact rtV () F hr hlk hP hS rfl trivial dX1_changeHeaps_32
