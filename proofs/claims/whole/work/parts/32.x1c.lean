def rmX1_feedBirds : Room := { frames := 2, cells := 0, slots := 0, locals := 43 }
theorem nmX1_feedBirds : NmV yX1_feedBirds RX1 0 := by unfold NmV; decide +kernel
theorem hiX1_feedBirds_1 : ∀ w ∈ u_ws RX1 TX1 10, w ∈ wsX1_feedBirds := by decide +kernel
set_option maxHeartbeats 4000000 in
set_option maxRecDepth 100000 in
theorem kX1_feedBirds (l : Launch) (dC : Nat → ClassId) (dI : Nat → Nat → Nat) (ct : Nat → ClassId) (a : Nat → Nat) (f : Nat → Int32) : MV (S := Unit) l yX1_feedBirds wsX1_feedBirds rmX1_feedBirds dC dI ct eT [.ref (a 0)] (wB ct a f) (fun _ => wB ct a (birU (birU f 0 5) 1 5)) (fun _ => True) := by
  refine MV.of (cc := cX1_feedBirds) (maxL := 3) (ret := none) (by decide) rfl (Nat.le_of_ble_eq_true rfl) ?_
  intro pg en z mi below meth cd A F hr hlk hin hK hP hD hA hS hE ls hl
  have F : CallFix pg mi cd cX1_feedBirds 3 z _ wsX1_feedBirds RX1 := F
  have hl : lv_has ls 3 [(0, .ref (a 0))] := hl
  refine lv_iconst (v := 0) F.1 F.2.1 dX1_feedBirds_0 (by decide) ?_
  refine lv_istore_n (lv' := [(1, .int 0), (0, .ref (a 0))]) F.1 F.2.1 dX1_feedBirds_1 rfl hl (by decide) rfl (fun ls hl => ?_)
  refine loopN (I := fun k H locs ls => va_P (dC, dI) vwCl (wB ct a (brX f k)) H ∧ va_D A (wB ct a (brX f k)) ∧ va_S A z.heap H locs ∧ lv_has ls 3 [(1, .int (nI k)), (0, .ref (a 0))]) 10 0 (by omega) ⟨hP, hD, hS, lv_sub hl [0, 1] rfl⟩ (fun H locs ls hI => ?_) (fun k hk_k H locs ls hI ih_2 => ?_)
  · obtain ⟨hP, hD, hS, hl⟩ := hI
    refine lv_iload_n F.1 F.2.1 dX1_feedBirds_2 rfl (lv_at hl 0 rfl) ?_
    refine lv_bipush (v := 10) F.1 F.2.1 dX1_feedBirds_3 (by decide) ?_
    refine lv_icmp_ge (tgt := 48) F.1 F.2.1 dX1_feedBirds_5 (by decide) (fun c_5 => ?_) (fun c_5 => ?_)
    · have eq_48 : brX f 10 = birU (birU f 0 5) 1 5 := brX10 f 5 (by omega)
      rw [eq_48] at hP hD
      exact rtV () F hr hlk hP hS rfl trivial dX1_feedBirds_48
    · exact absurd (nI_le (Nat.le_refl _) (by decide)) c_5
  · obtain ⟨hP, hD, hS, hl⟩ := hI
    refine lv_iload_n F.1 F.2.1 dX1_feedBirds_2 rfl (lv_at hl 0 rfl) ?_
    refine lv_bipush (v := 10) F.1 F.2.1 dX1_feedBirds_3 (by decide) ?_
    refine lv_icmp_ge (tgt := 48) F.1 F.2.1 dX1_feedBirds_5 (by decide) (fun c_5 => ?_) (fun c_5 => ?_)
    · exact absurd c_5 (nI_ge hk_k (by decide))
    · refine lv_aload_n F.1 F.2.1 dX1_feedBirds_8 rfl (lv_at hl 1 rfl) ?_
      refine lv_iload_n F.1 F.2.1 dX1_feedBirds_9 rfl (lv_at hl 0 rfl) ?_
      refine lv_iconst (v := 5) F.1 F.2.1 dX1_feedBirds_10 (by decide) ?_
      refine lv_irem F.1 F.2.1 dX1_feedBirds_11 (by decide) ?_
      refine tp (y := nI (k % 5)) (pk_rem (d := 5) (by omega) (by decide) (by decide)) ?_
      refine lv_aload_n F.1 F.2.1 dX1_feedBirds_12 rfl (lv_at hl 1 rfl) ?_
      refine gf F hK hP 0 rfl rfl hiX1_feedBirds_1 2 (by decide) (List.mem_of_getElem? (i := 1) rfl) rfl dX1_feedBirds_13 ?_
      refine lv_iload_n F.1 F.2.1 dX1_feedBirds_16 rfl (lv_at hl 0 rfl) ?_
      refine al (v := (brX f k) (27 + 17 * (k / 5) + k % 5)) F hK hP 3 0 rfl rfl k rfl (by omega) (by decide) rfl dX1_feedBirds_17 ?_
      refine iV (rest := []) (wsp := fun _ => wB ct a (brX f k)) F (kX1_eatenOf l dC dI ct a (brX f k) (k % 5) ((brX f k) (27 + 17 * (k / 5) + k % 5)) (by omega)) gX1_feedBirds_X1_eatenOf rfl ⟨rfl, rfl⟩ nmX1_eatenOf ⟨Nat.le_of_ble_eq_true rfl, Nat.le_of_ble_eq_true rfl⟩ eT_b (fun _ _ _ => trivial) hK hP hD hS hA 0 rfl rfl rfl [0, 1, 2, 3, 4, 5, 6] (by decide) rfl rfl rfl hl.1 (Nat.le_of_ble_eq_true rfl) dX1_feedBirds_18 ⟨Nat.zero_le _, Nat.zero_le _⟩ (fun _ => rfl) (fun _ => rfl) [a 0, a 1, a 2, a 3, a 4, a 5, a 6] rfl (fun _ => rfl) (fun r_18 u_18 H locs e_18 hP hD hS => ?_)
      obtain rfl := e_18
      refine lv_istore_n (lv' := [(2, .int (eat ((brX f k) (15 + (k % 5))) ((brX f k) 1) ((brX f k) (27 + 17 * (k / 5) + k % 5)))), (1, .int (nI k)), (0, .ref (a 0))]) F.1 F.2.1 dX1_feedBirds_21 rfl hl (by decide) rfl (fun ls hl => ?_)
      refine lv_aload_n F.1 F.2.1 dX1_feedBirds_22 rfl (lv_at hl 2 rfl) ?_
      refine gf F hK hP 0 rfl rfl hiX1_feedBirds_1 2 (by decide) (List.mem_of_getElem? (i := 1) rfl) rfl dX1_feedBirds_23 ?_
      refine lv_iload_n F.1 F.2.1 dX1_feedBirds_26 rfl (lv_at hl 1 rfl) ?_
      refine lv_dup2_11 F.1 F.2.1 dX1_feedBirds_27 rfl rfl ?_
      refine al (v := (brX f k) (27 + 17 * (k / 5) + k % 5)) F hK hP 3 0 rfl rfl k rfl (by omega) (by decide) rfl dX1_feedBirds_28 ?_
      refine lv_iload_n F.1 F.2.1 dX1_feedBirds_29 rfl (lv_at hl 0 rfl) ?_
      refine lv_isub F.1 F.2.1 dX1_feedBirds_30 ?_
      refine ast (ws' := wB ct a (upd (brX f k) (27 + 17 * (k / 5) + k % 5) (((brX f k) (27 + 17 * (k / 5) + k % 5)) - (eat ((brX f k) (15 + (k % 5))) ((brX f k) 1) ((brX f k) (27 + 17 * (k / 5) + k % 5)))))) F hK hP hD hS 3 0 rfl rfl k rfl (by omega) (by decide) dX1_feedBirds_31 (wq_heapj ct a (brX f k) (by omega)) (fun H locs hP hD hS => ?_)
      refine lv_aload_n F.1 F.2.1 dX1_feedBirds_32 rfl (lv_at hl 2 rfl) ?_
      refine lv_dup F.1 F.2.1 dX1_feedBirds_33 rfl ?_
      refine gf F hK hP 0 rfl rfl hiX1_feedBirds_1 9 (by decide) (List.mem_of_getElem? (i := 2) rfl) rfl dX1_feedBirds_34 ?_
      refine tp (y := brX f k 3) (pk_un (by omega)) ?_
      refine lv_iload_n F.1 F.2.1 dX1_feedBirds_37 rfl (lv_at hl 0 rfl) ?_
      refine lv_iadd F.1 F.2.1 dX1_feedBirds_38 ?_
      refine pf (ws' := wB ct a (upd (upd (brX f k) (27 + 17 * (k / 5) + k % 5) (((brX f k) (27 + 17 * (k / 5) + k % 5)) - (eat ((brX f k) (15 + (k % 5))) ((brX f k) 1) ((brX f k) (27 + 17 * (k / 5) + k % 5))))) 3 ((brX f k 3) + (eat ((brX f k) (15 + (k % 5))) ((brX f k) 1) ((brX f k) (27 + 17 * (k / 5) + k % 5)))))) F hK hP hD hS 0 rfl rfl hiX1_feedBirds_1 tyX1 tyX1_ok nmX1 9 (by decide) (List.mem_of_getElem? (i := 2) rfl) rfl rfl rfl (Nat.le_of_ble_eq_true rfl) dX1_feedBirds_39 (wq_f3 ct a (upd (brX f k) (27 + 17 * (k / 5) + k % 5) (((brX f k) (27 + 17 * (k / 5) + k % 5)) - (eat ((brX f k) (15 + (k % 5))) ((brX f k) 1) ((brX f k) (27 + 17 * (k / 5) + k % 5))))) _) (fun H locs hP hD hS => ?_)
      refine lv_iinc (v := nI (k + 1)) (lv' := [(1, .int (nI (k + 1))), (2, .int (eat ((brX f k) (15 + (k % 5))) ((brX f k) 1) ((brX f k) (27 + 17 * (k / 5) + k % 5)))), (0, .ref (a 0))]) F.1 F.2.1 dX1_feedBirds_42 hl (k := 1) rfl (by rw [show Int32.ofInt 1 = nI 1 from rfl, nI_add]) (by decide) rfl (fun ls hl => ?_)
      refine lv_goto (tgt := 2) F.1 F.2.1 dX1_feedBirds_45 (by decide) ?_
      exact ih_2 _ _ _ ⟨hP, hD, hS, lv_sub hl [0, 2] rfl⟩

def rmX1_carryOut : Room := { frames := 4, cells := 0, slots := 0, locals := 88 }
theorem nmX1_carryOut : NmV yX1_carryOut RX1 2 := by unfold NmV; decide +kernel
theorem hiX1_carryOut_1 : ∀ w ∈ u_ws RX1 TX1 10, w ∈ wsX1_carryOut := by decide +kernel
set_option maxHeartbeats 4000000 in
set_option maxRecDepth 100000 in
theorem kX1_carryOut (l : Launch) (dC : Nat → ClassId) (dI : Nat → Nat → Nat) (ct : Nat → ClassId) (a : Nat → Nat) (f : Nat → Int32) (s : Nat) (d : Int32) (hs : s < 2) (hL : d = 2 → ∃ t, t < 5 ∧ (deaU f s 5).1 = nI t) : MV (S := Unit) l yX1_carryOut wsX1_carryOut rmX1_carryOut dC dI ct eT [.ref (a 0), .int (nI s), .int d] (wB ct a f) (fun _ => wB ct a (endF (actF f s d))) (fun _ => True) := by
  refine MV.of (cc := cX1_carryOut) (maxL := 3) (ret := none) (by decide) rfl (Nat.le_of_ble_eq_true rfl) ?_
  intro pg en z mi below meth cd A F hr hlk hin hK hP hD hA hS hE ls hl
  have F : CallFix pg mi cd cX1_carryOut 3 z _ wsX1_carryOut RX1 := F
  have hl : lv_has ls 3 [(0, .ref (a 0)), (1, .int (nI s)), (2, .int d)] := hl
  refine lv_iload_n F.1 F.2.1 dX1_carryOut_0 rfl (lv_at hl 2 rfl) ?_
  by_cases k1_1 : d = 1
  · refine tp k1_1 ?_
    refine lv_tableIn (x := 1) (tgt := 28) F.1 F.2.1 dX1_carryOut_1 (by decide) (by decide) rfl (by decide) ?_
    refine lv_aload_n F.1 F.2.1 dX1_carryOut_28 rfl (lv_at hl 0 rfl) ?_
    refine vV (rest := []) (wsp := fun _ => wB ct a (chF f)) F (kX1_changeHeaps l dC dI ct a f) gX1_carryOut_X1_changeHeaps rfl ⟨rfl, rfl⟩ nmX1_changeHeaps ⟨Nat.le_of_ble_eq_true rfl, Nat.le_of_ble_eq_true rfl⟩ eT_b (fun _ _ _ => trivial) hK hP hD hS hA 0 rfl rfl rfl [0, 1, 2, 3, 4, 5, 6] (by decide) rfl rfl rfl hl.1 (Nat.le_of_ble_eq_true rfl) dX1_carryOut_29 ⟨Nat.zero_le _, Nat.zero_le _⟩ (fun _ => rfl) (fun _ => rfl) [a 0, a 1, a 2, a 3, a 4, a 5, a 6] rfl (fun _ => rfl) (fun u_29 H locs e_29 hP hD hS => ?_)
    refine lv_goto (tgt := 52) F.1 F.2.1 dX1_carryOut_32 (by decide) ?_
    have eq_52 : chF f = actF f s d := ((chF_s f hs).trans (actF1 k1_1).symm)
    rw [eq_52] at hP hD
    refine lv_aload_n F.1 F.2.1 dX1_carryOut_52 rfl (lv_at hl 0 rfl) ?_
    refine vV (rest := []) (wsp := fun _ => wB ct a (birU (birU (actF f s d) 0 5) 1 5)) F (kX1_feedBirds l dC dI ct a (actF f s d)) gX1_carryOut_X1_feedBirds rfl ⟨rfl, rfl⟩ nmX1_feedBirds ⟨Nat.le_of_ble_eq_true rfl, Nat.le_of_ble_eq_true rfl⟩ eT_b (fun _ _ _ => trivial) hK hP hD hS hA 0 rfl rfl rfl [0, 1, 2, 3, 4, 5, 6] (by decide) rfl rfl rfl hl.1 (Nat.le_of_ble_eq_true rfl) dX1_carryOut_53 ⟨Nat.zero_le _, Nat.zero_le _⟩ (fun _ => rfl) (fun _ => rfl) [a 0, a 1, a 2, a 3, a 4, a 5, a 6] rfl (fun _ => rfl) (fun u_53 H locs e_53 hP hD hS => ?_)
    refine lv_aload_n F.1 F.2.1 dX1_carryOut_56 rfl (lv_at hl 0 rfl) ?_
    refine lv_dup F.1 F.2.1 dX1_carryOut_57 rfl ?_
    refine gf F hK hP 0 rfl rfl hiX1_carryOut_1 7 (by decide) (List.mem_of_getElem? (i := 1) rfl) rfl dX1_carryOut_58 ?_
    refine lv_iconst (v := 1) F.1 F.2.1 dX1_carryOut_61 (by decide) ?_
    refine lv_iadd F.1 F.2.1 dX1_carryOut_62 ?_
    refine pf (ws' := wB ct a (upd (birU (birU (actF f s d) 0 5) 1 5) 0 (((birU (birU (actF f s d) 0 5) 1 5) 0) + 1))) F hK hP hD hS 0 rfl rfl hiX1_carryOut_1 tyX1 tyX1_ok nmX1 7 (by decide) (List.mem_of_getElem? (i := 1) rfl) rfl rfl rfl (Nat.le_of_ble_eq_true rfl) dX1_carryOut_63 (wq_f0 ct a (birU (birU (actF f s d) 0 5) 1 5) _) (fun H locs hP hD hS => ?_)
    exact rtV () F hr hlk hP hS rfl trivial dX1_carryOut_66
  by_cases k1_2 : d = 2
  · refine tp k1_2 ?_
    refine lv_tableIn (x := 2) (tgt := 35) F.1 F.2.1 dX1_carryOut_1 (by decide) (by decide) rfl (by decide) ?_
    obtain ⟨t, ht, et⟩ := hL k1_2
    refine lv_aload_n F.1 F.2.1 dX1_carryOut_35 rfl (lv_at hl 0 rfl) ?_
    refine lv_iload_n F.1 F.2.1 dX1_carryOut_36 rfl (lv_at hl 1 rfl) ?_
    refine vV (rest := []) (wsp := fun _ => wB ct a (lesF f s t)) F (kX1_takeOneAway l dC dI ct a f s t (by omega) (by omega) et) gX1_carryOut_X1_takeOneAway rfl ⟨rfl, rfl⟩ nmX1_takeOneAway ⟨Nat.le_of_ble_eq_true rfl, Nat.le_of_ble_eq_true rfl⟩ eT_b (fun _ _ _ => trivial) hK hP hD hS hA 0 rfl rfl rfl [0, 1, 2, 3, 4, 5, 6] (by decide) rfl rfl rfl hl.1 (Nat.le_of_ble_eq_true rfl) dX1_carryOut_37 ⟨Nat.zero_le _, Nat.zero_le _⟩ (fun _ => rfl) (fun _ => rfl) [a 0, a 1, a 2, a 3, a 4, a 5, a 6] rfl (fun _ => rfl) (fun u_37 H locs e_37 hP hD hS => ?_)
    refine lv_goto (tgt := 52) F.1 F.2.1 dX1_carryOut_40 (by decide) ?_
    have eq_52 : lesF f s t = actF f s d := (actF2 k1_2 ht et).symm
    rw [eq_52] at hP hD
    refine lv_aload_n F.1 F.2.1 dX1_carryOut_52 rfl (lv_at hl 0 rfl) ?_
    refine vV (rest := []) (wsp := fun _ => wB ct a (birU (birU (actF f s d) 0 5) 1 5)) F (kX1_feedBirds l dC dI ct a (actF f s d)) gX1_carryOut_X1_feedBirds rfl ⟨rfl, rfl⟩ nmX1_feedBirds ⟨Nat.le_of_ble_eq_true rfl, Nat.le_of_ble_eq_true rfl⟩ eT_b (fun _ _ _ => trivial) hK hP hD hS hA 0 rfl rfl rfl [0, 1, 2, 3, 4, 5, 6] (by decide) rfl rfl rfl hl.1 (Nat.le_of_ble_eq_true rfl) dX1_carryOut_53 ⟨Nat.zero_le _, Nat.zero_le _⟩ (fun _ => rfl) (fun _ => rfl) [a 0, a 1, a 2, a 3, a 4, a 5, a 6] rfl (fun _ => rfl) (fun u_53 H locs e_53 hP hD hS => ?_)
    refine lv_aload_n F.1 F.2.1 dX1_carryOut_56 rfl (lv_at hl 0 rfl) ?_
    refine lv_dup F.1 F.2.1 dX1_carryOut_57 rfl ?_
    refine gf F hK hP 0 rfl rfl hiX1_carryOut_1 7 (by decide) (List.mem_of_getElem? (i := 1) rfl) rfl dX1_carryOut_58 ?_
    refine lv_iconst (v := 1) F.1 F.2.1 dX1_carryOut_61 (by decide) ?_
    refine lv_iadd F.1 F.2.1 dX1_carryOut_62 ?_
    refine pf (ws' := wB ct a (upd (birU (birU (actF f s d) 0 5) 1 5) 0 (((birU (birU (actF f s d) 0 5) 1 5) 0) + 1))) F hK hP hD hS 0 rfl rfl hiX1_carryOut_1 tyX1 tyX1_ok nmX1 7 (by decide) (List.mem_of_getElem? (i := 1) rfl) rfl rfl rfl (Nat.le_of_ble_eq_true rfl) dX1_carryOut_63 (wq_f0 ct a (birU (birU (actF f s d) 0 5) 1 5) _) (fun H locs hP hD hS => ?_)
    exact rtV () F hr hlk hP hS rfl trivial dX1_carryOut_66
  by_cases k1_3 : d = 3
  · refine tp k1_3 ?_
    refine lv_tableIn (x := 3) (tgt := 43) F.1 F.2.1 dX1_carryOut_1 (by decide) (by decide) rfl (by decide) ?_
    refine lv_aload_n F.1 F.2.1 dX1_carryOut_43 rfl (lv_at hl 0 rfl) ?_
    refine lv_iload_n F.1 F.2.1 dX1_carryOut_44 rfl (lv_at hl 1 rfl) ?_
    refine lv_iload_n F.1 F.2.1 dX1_carryOut_45 rfl (lv_at hl 1 rfl) ?_
    refine vV (rest := []) (wsp := fun _ => wB ct a (goU f s s 5)) F (kX1_bringHome l dC dI ct a f s s (by omega) (by omega)) gX1_carryOut_X1_bringHome rfl ⟨rfl, rfl⟩ nmX1_bringHome ⟨Nat.le_of_ble_eq_true rfl, Nat.le_of_ble_eq_true rfl⟩ eT_b (fun _ _ _ => trivial) hK hP hD hS hA 0 rfl rfl rfl [0, 1, 2, 3, 4, 5, 6] (by decide) rfl rfl rfl hl.1 (Nat.le_of_ble_eq_true rfl) dX1_carryOut_46 ⟨Nat.zero_le _, Nat.zero_le _⟩ (fun _ => rfl) (fun _ => rfl) [a 0, a 1, a 2, a 3, a 4, a 5, a 6] rfl (fun _ => rfl) (fun u_46 H locs e_46 hP hD hS => ?_)
    refine lv_goto (tgt := 52) F.1 F.2.1 dX1_carryOut_49 (by decide) ?_
    have eq_52 : goU f s s 5 = actF f s d := (actF3 k1_3).symm
    rw [eq_52] at hP hD
    refine lv_aload_n F.1 F.2.1 dX1_carryOut_52 rfl (lv_at hl 0 rfl) ?_
    refine vV (rest := []) (wsp := fun _ => wB ct a (birU (birU (actF f s d) 0 5) 1 5)) F (kX1_feedBirds l dC dI ct a (actF f s d)) gX1_carryOut_X1_feedBirds rfl ⟨rfl, rfl⟩ nmX1_feedBirds ⟨Nat.le_of_ble_eq_true rfl, Nat.le_of_ble_eq_true rfl⟩ eT_b (fun _ _ _ => trivial) hK hP hD hS hA 0 rfl rfl rfl [0, 1, 2, 3, 4, 5, 6] (by decide) rfl rfl rfl hl.1 (Nat.le_of_ble_eq_true rfl) dX1_carryOut_53 ⟨Nat.zero_le _, Nat.zero_le _⟩ (fun _ => rfl) (fun _ => rfl) [a 0, a 1, a 2, a 3, a 4, a 5, a 6] rfl (fun _ => rfl) (fun u_53 H locs e_53 hP hD hS => ?_)
    refine lv_aload_n F.1 F.2.1 dX1_carryOut_56 rfl (lv_at hl 0 rfl) ?_
    refine lv_dup F.1 F.2.1 dX1_carryOut_57 rfl ?_
    refine gf F hK hP 0 rfl rfl hiX1_carryOut_1 7 (by decide) (List.mem_of_getElem? (i := 1) rfl) rfl dX1_carryOut_58 ?_
    refine lv_iconst (v := 1) F.1 F.2.1 dX1_carryOut_61 (by decide) ?_
    refine lv_iadd F.1 F.2.1 dX1_carryOut_62 ?_
    refine pf (ws' := wB ct a (upd (birU (birU (actF f s d) 0 5) 1 5) 0 (((birU (birU (actF f s d) 0 5) 1 5) 0) + 1))) F hK hP hD hS 0 rfl rfl hiX1_carryOut_1 tyX1 tyX1_ok nmX1 7 (by decide) (List.mem_of_getElem? (i := 1) rfl) rfl rfl rfl (Nat.le_of_ble_eq_true rfl) dX1_carryOut_63 (wq_f0 ct a (birU (birU (actF f s d) 0 5) 1 5) _) (fun H locs hP hD hS => ?_)
    exact rtV () F hr hlk hP hS rfl trivial dX1_carryOut_66
  refine lv_tableOut (tgt := 52) F.1 F.2.1 dX1_carryOut_1 (ts_out (fun i h1 h2 => by rcases (show i = 1 ∨ i = 2 ∨ i = 3 by omega) with rfl | rfl | rfl <;> assumption)) (by decide) ?_
  have eq_52 : f = actF f s d := (actF0 k1_1 k1_2 k1_3).symm
  rw [eq_52] at hP hD
  refine lv_aload_n F.1 F.2.1 dX1_carryOut_52 rfl (lv_at hl 0 rfl) ?_
  refine vV (rest := []) (wsp := fun _ => wB ct a (birU (birU (actF f s d) 0 5) 1 5)) F (kX1_feedBirds l dC dI ct a (actF f s d)) gX1_carryOut_X1_feedBirds rfl ⟨rfl, rfl⟩ nmX1_feedBirds ⟨Nat.le_of_ble_eq_true rfl, Nat.le_of_ble_eq_true rfl⟩ eT_b (fun _ _ _ => trivial) hK hP hD hS hA 0 rfl rfl rfl [0, 1, 2, 3, 4, 5, 6] (by decide) rfl rfl rfl hl.1 (Nat.le_of_ble_eq_true rfl) dX1_carryOut_53 ⟨Nat.zero_le _, Nat.zero_le _⟩ (fun _ => rfl) (fun _ => rfl) [a 0, a 1, a 2, a 3, a 4, a 5, a 6] rfl (fun _ => rfl) (fun u_53 H locs e_53 hP hD hS => ?_)
  refine lv_aload_n F.1 F.2.1 dX1_carryOut_56 rfl (lv_at hl 0 rfl) ?_
  refine lv_dup F.1 F.2.1 dX1_carryOut_57 rfl ?_
  refine gf F hK hP 0 rfl rfl hiX1_carryOut_1 7 (by decide) (List.mem_of_getElem? (i := 1) rfl) rfl dX1_carryOut_58 ?_
  refine lv_iconst (v := 1) F.1 F.2.1 dX1_carryOut_61 (by decide) ?_
  refine lv_iadd F.1 F.2.1 dX1_carryOut_62 ?_
  refine pf (ws' := wB ct a (upd (birU (birU (actF f s d) 0 5) 1 5) 0 (((birU (birU (actF f s d) 0 5) 1 5) 0) + 1))) F hK hP hD hS 0 rfl rfl hiX1_carryOut_1 tyX1 tyX1_ok nmX1 7 (by decide) (List.mem_of_getElem? (i := 1) rfl) rfl rfl rfl (Nat.le_of_ble_eq_true rfl) dX1_carryOut_63 (wq_f0 ct a (birU (birU (actF f s d) 0 5) 1 5) _) (fun H locs hP hD hS => ?_)
  exact rtV () F hr hlk hP hS rfl trivial dX1_carryOut_66

def rmX1_passNights : Room := { frames := 5, cells := 0, slots := 0, locals := 110 }
theorem nmX1_passNights : NmV yX1_passNights RX1 1 := by unfold NmV; decide +kernel
set_option maxHeartbeats 4000000 in
set_option maxRecDepth 100000 in
theorem kX1_passNights (l : Launch) (dC : Nat → ClassId) (dI : Nat → Nat → Nat) (ct : Nat → ClassId) (a : Nat → Nat) (f : Nat → Int32) (n : Nat) (hn : n < 2147483648) (hR : ∀ k, k < n → Rg (ngU f k)) : MI (S := Unit) l yX1_passNights wsX1_passNights rmX1_passNights dC dI ct eT [.ref (a 0), .int (nI n)] (wB ct a f) (fun _ => wB ct a (ngU f n)) (fun r _ => r = tkU f n) := by
  refine MI.of (cc := cX1_passNights) (maxL := 6) (ret := (some .int)) (by decide) rfl (Nat.le_of_ble_eq_true rfl) ?_
  intro pg en z mi below meth cd A F hr hlk hin hK hP hD hA hS hE ls hl
  have F : CallFix pg mi cd cX1_passNights 6 z _ wsX1_passNights RX1 := F
  have hl : lv_has ls 6 [(0, .ref (a 0)), (1, .int (nI n))] := hl
  refine lv_iconst (v := 0) F.1 F.2.1 dX1_passNights_0 (by decide) ?_
  refine lv_istore_n (lv' := [(2, .int 0), (0, .ref (a 0)), (1, .int (nI n))]) F.1 F.2.1 dX1_passNights_1 rfl hl (by decide) rfl (fun ls hl => ?_)
  refine lv_iconst (v := 0) F.1 F.2.1 dX1_passNights_2 (by decide) ?_
  refine lv_istore_n (lv' := [(3, .int 0), (2, .int 0), (0, .ref (a 0)), (1, .int (nI n))]) F.1 F.2.1 dX1_passNights_3 rfl hl (by decide) rfl (fun ls hl => ?_)
  refine loopN (I := fun k H locs ls => va_P (dC, dI) vwCl (wB ct a (ngU f k)) H ∧ va_D A (wB ct a (ngU f k)) ∧ va_S A z.heap H locs ∧ lv_has ls 6 [(3, .int (nI k)), (2, .int (tkU f k)), (0, .ref (a 0)), (1, .int (nI n))]) n 0 (by omega) ⟨hP, hD, hS, lv_sub hl [0, 1, 2, 3] rfl⟩ (fun H locs ls hI => ?_) (fun k hk_k H locs ls hI ih_4 => ?_)
  · obtain ⟨hP, hD, hS, hl⟩ := hI
    refine lv_iload_n F.1 F.2.1 dX1_passNights_4 rfl (lv_at hl 0 rfl) ?_
    refine lv_iload_n F.1 F.2.1 dX1_passNights_5 rfl (lv_at hl 3 rfl) ?_
    refine lv_icmp_ge (tgt := 46) F.1 F.2.1 dX1_passNights_6 (by decide) (fun c_6 => ?_) (fun c_6 => ?_)
    · refine lv_iload_n F.1 F.2.1 dX1_passNights_46 rfl (lv_at hl 1 rfl) ?_
      exact rtI () F hr hlk hP hS rfl (by simp [c_6, Int32.not_lt.mpr c_6]) dX1_passNights_47
    · exact absurd (nI_le (Nat.le_refl _) hn) c_6
  · obtain ⟨hP, hD, hS, hl⟩ := hI
    have hRg := hR k hk_k
    have hs := tn_lt (ngU f k)
    refine lv_iload_n F.1 F.2.1 dX1_passNights_4 rfl (lv_at hl 0 rfl) ?_
    refine lv_iload_n F.1 F.2.1 dX1_passNights_5 rfl (lv_at hl 3 rfl) ?_
    refine lv_icmp_ge (tgt := 46) F.1 F.2.1 dX1_passNights_6 (by decide) (fun c_6 => ?_) (fun c_6 => ?_)
    · exact absurd c_6 (nI_ge hk_k hn)
    · refine lv_aload_n F.1 F.2.1 dX1_passNights_9 rfl (lv_at hl 2 rfl) ?_
      refine iV (rest := []) (wsp := fun _ => wB ct a (ngU f k)) F (kX1_turn l dC dI ct a (ngU f k) hRg) gX1_passNights_X1_turn rfl ⟨rfl, rfl⟩ nmX1_turn ⟨Nat.le_of_ble_eq_true rfl, Nat.le_of_ble_eq_true rfl⟩ eT_b (fun _ _ _ => trivial) hK hP hD hS hA 0 rfl rfl rfl [0, 1, 2, 3, 4, 5, 6] (by decide) rfl rfl rfl hl.1 (Nat.le_of_ble_eq_true rfl) dX1_passNights_10 ⟨Nat.zero_le _, Nat.zero_le _⟩ (fun _ => rfl) (fun _ => rfl) [a 0, a 1, a 2, a 3, a 4, a 5, a 6] rfl (fun _ => rfl) (fun r_10 u_10 H locs e_10 hP hD hS => ?_)
      obtain rfl := e_10
      refine lv_istore (lv' := [(4, .int (nI (tnF (ngU f k)))), (3, .int (nI k)), (2, .int (tkU f k)), (0, .ref (a 0)), (1, .int (nI n))]) F.1 F.2.1 dX1_passNights_13 hl (by decide) rfl (fun ls hl => ?_)
      refine lv_aload_n F.1 F.2.1 dX1_passNights_15 rfl (lv_at hl 3 rfl) ?_
      refine lv_iload F.1 F.2.1 dX1_passNights_16 (lv_at hl 0 rfl) ?_
      refine iV (rest := []) (wsp := fun _ => wB ct a (ngU f k)) F (kX1_deedOf l dC dI ct a (ngU f k) (tnF (ngU f k)) (by omega) hRg) gX1_passNights_X1_deedOf rfl ⟨rfl, rfl⟩ nmX1_deedOf ⟨Nat.le_of_ble_eq_true rfl, Nat.le_of_ble_eq_true rfl⟩ eT_b (fun _ _ _ => trivial) hK hP hD hS hA 0 rfl rfl rfl [0, 1, 2, 3, 4, 5, 6] (by decide) rfl rfl rfl hl.1 (Nat.le_of_ble_eq_true rfl) dX1_passNights_18 ⟨Nat.zero_le _, Nat.zero_le _⟩ (fun _ => rfl) (fun _ => rfl) [a 0, a 1, a 2, a 3, a 4, a 5, a 6] rfl (fun _ => rfl) (fun r_18 u_18 H locs e_18 hP hD hS => ?_)
      obtain rfl := e_18
      refine lv_istore (lv' := [(5, .int (deed (ngU f k) (tnF (ngU f k)))), (4, .int (nI (tnF (ngU f k)))), (3, .int (nI k)), (2, .int (tkU f k)), (0, .ref (a 0)), (1, .int (nI n))]) F.1 F.2.1 dX1_passNights_21 hl (by decide) rfl (fun ls hl => ?_)
      refine lv_aload_n F.1 F.2.1 dX1_passNights_23 rfl (lv_at hl 4 rfl) ?_
      refine lv_iload F.1 F.2.1 dX1_passNights_24 (lv_at hl 1 rfl) ?_
      refine lv_iload F.1 F.2.1 dX1_passNights_26 (lv_at hl 0 rfl) ?_
      refine vV (rest := []) (wsp := fun _ => wB ct a (endF (actF (ngU f k) (tnF (ngU f k)) (deed (ngU f k) (tnF (ngU f k)))))) F (kX1_carryOut l dC dI ct a (ngU f k) (tnF (ngU f k)) (deed (ngU f k) (tnF (ngU f k))) (by omega) (fun h => Exists.elim (les_at hRg hs h) (fun t q => ⟨t, q.1, q.2.1⟩))) gX1_passNights_X1_carryOut rfl ⟨rfl, rfl⟩ nmX1_carryOut ⟨Nat.le_of_ble_eq_true rfl, Nat.le_of_ble_eq_true rfl⟩ eT_b (fun _ _ _ => trivial) hK hP hD hS hA 0 rfl rfl rfl [0, 1, 2, 3, 4, 5, 6] (by decide) rfl rfl rfl hl.1 (Nat.le_of_ble_eq_true rfl) dX1_passNights_28 ⟨Nat.zero_le _, Nat.zero_le _⟩ (fun _ => rfl) (fun _ => rfl) [a 0, a 1, a 2, a 3, a 4, a 5, a 6] rfl (fun _ => rfl) (fun u_28 H locs e_28 hP hD hS => ?_)
      refine lv_iload F.1 F.2.1 dX1_passNights_31 (lv_at hl 0 rfl) ?_
      refine lv_iconst (v := 1) F.1 F.2.1 dX1_passNights_33 (by decide) ?_
      refine lv_icmp_ne (tgt := 40) F.1 F.2.1 dX1_passNights_34 (by decide) (fun c_34 => ?_) (fun c_34 => ?_)
      · refine lv_iinc (v := nI (k + 1)) (lv' := [(3, .int (nI (k + 1))), (5, .int (deed (ngU f k) (tnF (ngU f k)))), (4, .int (nI (tnF (ngU f k)))), (2, .int (tkU f k)), (0, .ref (a 0)), (1, .int (nI n))]) F.1 F.2.1 dX1_passNights_40 hl (k := 2) rfl (by rw [show Int32.ofInt 1 = nI 1 from rfl, nI_add]) (by decide) rfl (fun ls hl => ?_)
        refine lv_goto (tgt := 4) F.1 F.2.1 dX1_passNights_43 (by decide) ?_
        have hD := (wB_cong (nite54 (ngU f k))).D hD
        have hP := (wB_cong (nite54 (ngU f k))).P hP
        have eb : tkU f (k + 1) = tkU f k + 0 := congrArg (tkU f k + ·) (if_neg c_34)
        exact ih_4 _ _ _ ⟨hP, hD, hS, lv_sub hl [0, 3, 4, 5] (by rw [eb, Int32.add_zero]; rfl)⟩
      · refine lv_iinc (v := tkU f k + 1) (lv' := [(2, .int (tkU f k + 1)), (5, .int (deed (ngU f k) (tnF (ngU f k)))), (4, .int (nI (tnF (ngU f k)))), (3, .int (nI k)), (0, .ref (a 0)), (1, .int (nI n))]) F.1 F.2.1 dX1_passNights_37 hl (k := 3) rfl rfl (by decide) rfl (fun ls hl => ?_)
        refine lv_iinc (v := nI (k + 1)) (lv' := [(3, .int (nI (k + 1))), (2, .int (tkU f k + 1)), (5, .int (deed (ngU f k) (tnF (ngU f k)))), (4, .int (nI (tnF (ngU f k)))), (0, .ref (a 0)), (1, .int (nI n))]) F.1 F.2.1 dX1_passNights_40 hl (k := 3) rfl (by rw [show Int32.ofInt 1 = nI 1 from rfl, nI_add]) (by decide) rfl (fun ls hl => ?_)
        refine lv_goto (tgt := 4) F.1 F.2.1 dX1_passNights_43 (by decide) ?_
        have hD := (wB_cong (nite54 (ngU f k))).D hD
        have hP := (wB_cong (nite54 (ngU f k))).P hP
        have eb : tkU f (k + 1) = tkU f k + 1 := congrArg (tkU f k + ·) (if_pos c_34)
        exact ih_4 _ _ _ ⟨hP, hD, hS, lv_sub hl [0, 1, 4, 5] (by rw [eb]; rfl)⟩

def rmX1_stock : Room := { frames := 0, cells := 0, slots := 0, locals := 0 }
theorem nmX1_stock : NmV yX1_stock RX1 1 := by unfold NmV; decide +kernel
theorem hiX1_stock_1 : ∀ w ∈ u_ws RX1 TX1 10, w ∈ wsX1_stock := by decide +kernel
set_option maxHeartbeats 4000000 in
set_option maxRecDepth 100000 in
theorem kX1_stock (l : Launch) (dC : Nat → ClassId) (dI : Nat → Nat → Nat) (ct : Nat → ClassId) (a : Nat → Nat) (f : Nat → Int32) (w : Int32) : MR (S := Unit) l yX1_stock wsX1_stock rmX1_stock dC dI ct eT [.ref (a 0), .int w] (wB ct a f) (fun _ => wB ct a f) (fun r _ => r = if w = 0 then a 2 else if w = 1 then a 3 else a 4) := by
  refine MR.of (cc := cX1_stock) (maxL := 2) (ret := (some (.array .int))) (by decide) rfl (Nat.le_of_ble_eq_true rfl) ?_
  intro pg en z mi below meth cd A F hr hlk hin hK hP hD hA hS hE ls hl
  have F : CallFix pg mi cd cX1_stock 2 z _ wsX1_stock RX1 := F
  have hl : lv_has ls 2 [(0, .ref (a 0)), (1, .int w)] := hl
  refine lv_iload_n F.1 F.2.1 dX1_stock_0 rfl (lv_at hl 1 rfl) ?_
  by_cases k1_0 : w = 0
  · refine tp k1_0 ?_
    refine lv_lookup (x := 0) (tgt := 28) F.1 F.2.1 dX1_stock_1 (by decide) rfl (by decide) ?_
    refine lv_aload_n F.1 F.2.1 dX1_stock_28 rfl (lv_at hl 0 rfl) ?_
    refine gf F hK hP 0 rfl rfl hiX1_stock_1 1 (by decide) (List.mem_of_getElem? (i := 1) rfl) rfl dX1_stock_29 ?_
    exact rtR () F hr hlk hP hS rfl ((if_pos k1_0).symm) dX1_stock_32
  by_cases k1_1 : w = 1
  · refine tp k1_1 ?_
    refine lv_lookup (x := 1) (tgt := 33) F.1 F.2.1 dX1_stock_1 (by decide) rfl (by decide) ?_
    refine lv_aload_n F.1 F.2.1 dX1_stock_33 rfl (lv_at hl 0 rfl) ?_
    refine gf F hK hP 0 rfl rfl hiX1_stock_1 2 (by decide) (List.mem_of_getElem? (i := 2) rfl) rfl dX1_stock_34 ?_
    exact rtR () F hr hlk hP hS rfl (((if_neg k1_0).trans (if_pos k1_1)).symm) dX1_stock_37
  refine lv_lookup (tgt := 38) (off := 37) F.1 F.2.1 dX1_stock_1 (by decide) (by show (if (0 : Int) = Int32.toInt w then (27 : Int) else if (1 : Int) = Int32.toInt w then (32 : Int) else (37 : Int)) = _; rw [if_neg (ti_ne k1_0), if_neg (ti_ne k1_1)]) (by decide) ?_
  refine lv_aload_n F.1 F.2.1 dX1_stock_38 rfl (lv_at hl 0 rfl) ?_
  refine gf F hK hP 0 rfl rfl hiX1_stock_1 3 (by decide) (List.mem_of_getElem? (i := 3) rfl) rfl dX1_stock_39 ?_
  exact rtR () F hr hlk hP hS rfl (((if_neg k1_0).trans (if_neg k1_1)).symm) dX1_stock_42

def rmX1_copyFrom : Room := { frames := 1, cells := 0, slots := 0, locals := 60 }
theorem nmX1_copyFrom : NmV yX1_copyFrom RX1 1 := by unfold NmV; decide +kernel
theorem hiX1_copyFrom_1 : ∀ w ∈ u_ws RX1 TX1 10, w ∈ wsX1_copyFrom := by decide +kernel
set_option maxHeartbeats 4000000 in
set_option maxRecDepth 100000 in
theorem kX1_copyFrom (l : Launch) (dC : Nat → ClassId) (dI : Nat → Nat → Nat) (ct : Nat → ClassId) (a b : Nat → Nat) (f g : Nat → Int32) : MV (S := Unit) l yX1_copyFrom wsX1_copyFrom rmX1_copyFrom dC dI ct eT [.ref (a 0), .ref (b 0)] (wB ct a g ++ (wB ct b f)) (fun _ => wB ct a f ++ (wB ct b f)) (fun _ => True) := by
  refine MV.of (cc := cX1_copyFrom) (maxL := 2) (ret := none) (by decide) rfl (Nat.le_of_ble_eq_true rfl) ?_
  intro pg en z mi below meth cd A F hr hlk hin hK hP hD hA hS hE ls hl
  have F : CallFix pg mi cd cX1_copyFrom 2 z _ wsX1_copyFrom RX1 := F
  have hl : lv_has ls 2 [(0, .ref (a 0)), (1, .ref (b 0))] := hl
  refine lv_aload_n F.1 F.2.1 dX1_copyFrom_0 rfl (lv_at hl 1 rfl) ?_
  refine gf F hK hP 7 rfl rfl hiX1_copyFrom_1 0 (by decide) (List.mem_of_getElem? (i := 1) rfl) rfl dX1_copyFrom_1 ?_
  refine lv_iconst (v := 0) F.1 F.2.1 dX1_copyFrom_4 (by decide) ?_
  refine lv_aload_n F.1 F.2.1 dX1_copyFrom_5 rfl (lv_at hl 0 rfl) ?_
  refine gf F hK hP 0 rfl rfl hiX1_copyFrom_1 0 (by decide) (List.mem_of_getElem? (i := 1) rfl) rfl dX1_copyFrom_6 ?_
  refine lv_iconst (v := 0) F.1 F.2.1 dX1_copyFrom_9 (by decide) ?_
  refine lv_iconst (v := 5) F.1 F.2.1 dX1_copyFrom_10 (by decide) ?_
  refine cpy (ws' := [(a 0, .inr (1, [.ref (a 1), .ref (a 2), .ref (a 3), .ref (a 4), .ref (a 5), .ref (a 6), .int (g 1), .int (g 0), .int (g 2), .int (g 3)])), ai ct (a 1) 5 (va_cpy (fun j => f (15 + j)) (fun j => g (15 + j)) 0 0 5), ai ct (a 2) 10 (fun j => g (22 + 17 * (j / 5) + j % 5)), ai ct (a 3) 10 (fun j => g (27 + 17 * (j / 5) + j % 5)), ai ct (a 4) 10 (fun j => g (32 + 17 * (j / 5) + j % 5)), ai ct (a 5) 2 (fun j => g (20 + 17 * j)), ai ct (a 6) 2 (fun j => g (21 + 17 * j))] ++ (wB ct b f)) F hl.1 (F.2.2.2.2 _ (List.mem_of_getElem? (i := 2) rfl)) (F.2.2.2.2 _ (List.mem_of_getElem? (i := 3) rfl)) (F.2.2.2.2 _ (List.mem_of_getElem? (i := 4) rfl)) (F.2.2.2.2 _ (List.mem_of_getElem? (i := 5) rfl)) hK hP hD hS 8 1 0 0 rfl rfl rfl rfl (by decide) 0 0 5 rfl rfl rfl (by omega) (by omega) (Nat.le_of_ble_eq_true rfl) (by decide +kernel) dX1_copyFrom_11 (weq.rf _) (fun H locs hP hD hS => ?_)
  refine lv_aload_n F.1 F.2.1 dX1_copyFrom_14 rfl (lv_at hl 1 rfl) ?_
  refine gf F hK hP 7 rfl rfl hiX1_copyFrom_1 1 (by decide) (List.mem_of_getElem? (i := 6) rfl) rfl dX1_copyFrom_15 ?_
  refine lv_iconst (v := 0) F.1 F.2.1 dX1_copyFrom_18 (by decide) ?_
  refine lv_aload_n F.1 F.2.1 dX1_copyFrom_19 rfl (lv_at hl 0 rfl) ?_
  refine gf F hK hP 0 rfl rfl hiX1_copyFrom_1 1 (by decide) (List.mem_of_getElem? (i := 6) rfl) rfl dX1_copyFrom_20 ?_
  refine lv_iconst (v := 0) F.1 F.2.1 dX1_copyFrom_23 (by decide) ?_
  refine lv_bipush (v := 10) F.1 F.2.1 dX1_copyFrom_24 (by decide) ?_
  refine cpy (ws' := [(a 0, .inr (1, [.ref (a 1), .ref (a 2), .ref (a 3), .ref (a 4), .ref (a 5), .ref (a 6), .int (g 1), .int (g 0), .int (g 2), .int (g 3)])), ai ct (a 1) 5 (va_cpy (fun j => f (15 + j)) (fun j => g (15 + j)) 0 0 5), ai ct (a 2) 10 (va_cpy (fun j => f (22 + 17 * (j / 5) + j % 5)) (fun j => g (22 + 17 * (j / 5) + j % 5)) 0 0 10), ai ct (a 3) 10 (fun j => g (27 + 17 * (j / 5) + j % 5)), ai ct (a 4) 10 (fun j => g (32 + 17 * (j / 5) + j % 5)), ai ct (a 5) 2 (fun j => g (20 + 17 * j)), ai ct (a 6) 2 (fun j => g (21 + 17 * j))] ++ (wB ct b f)) F hl.1 (F.2.2.2.2 _ (List.mem_of_getElem? (i := 2) rfl)) (F.2.2.2.2 _ (List.mem_of_getElem? (i := 3) rfl)) (F.2.2.2.2 _ (List.mem_of_getElem? (i := 4) rfl)) (F.2.2.2.2 _ (List.mem_of_getElem? (i := 5) rfl)) hK hP hD hS 9 2 0 0 rfl rfl rfl rfl (by decide) 0 0 10 rfl rfl rfl (by omega) (by omega) (Nat.le_of_ble_eq_true rfl) (by decide +kernel) dX1_copyFrom_26 (weq.rf _) (fun H locs hP hD hS => ?_)
  refine lv_aload_n F.1 F.2.1 dX1_copyFrom_29 rfl (lv_at hl 1 rfl) ?_
  refine gf F hK hP 7 rfl rfl hiX1_copyFrom_1 2 (by decide) (List.mem_of_getElem? (i := 7) rfl) rfl dX1_copyFrom_30 ?_
  refine lv_iconst (v := 0) F.1 F.2.1 dX1_copyFrom_33 (by decide) ?_
  refine lv_aload_n F.1 F.2.1 dX1_copyFrom_34 rfl (lv_at hl 0 rfl) ?_
  refine gf F hK hP 0 rfl rfl hiX1_copyFrom_1 2 (by decide) (List.mem_of_getElem? (i := 7) rfl) rfl dX1_copyFrom_35 ?_
  refine lv_iconst (v := 0) F.1 F.2.1 dX1_copyFrom_38 (by decide) ?_
  refine lv_bipush (v := 10) F.1 F.2.1 dX1_copyFrom_39 (by decide) ?_
  refine cpy (ws' := [(a 0, .inr (1, [.ref (a 1), .ref (a 2), .ref (a 3), .ref (a 4), .ref (a 5), .ref (a 6), .int (g 1), .int (g 0), .int (g 2), .int (g 3)])), ai ct (a 1) 5 (va_cpy (fun j => f (15 + j)) (fun j => g (15 + j)) 0 0 5), ai ct (a 2) 10 (va_cpy (fun j => f (22 + 17 * (j / 5) + j % 5)) (fun j => g (22 + 17 * (j / 5) + j % 5)) 0 0 10), ai ct (a 3) 10 (va_cpy (fun j => f (27 + 17 * (j / 5) + j % 5)) (fun j => g (27 + 17 * (j / 5) + j % 5)) 0 0 10), ai ct (a 4) 10 (fun j => g (32 + 17 * (j / 5) + j % 5)), ai ct (a 5) 2 (fun j => g (20 + 17 * j)), ai ct (a 6) 2 (fun j => g (21 + 17 * j))] ++ (wB ct b f)) F hl.1 (F.2.2.2.2 _ (List.mem_of_getElem? (i := 2) rfl)) (F.2.2.2.2 _ (List.mem_of_getElem? (i := 3) rfl)) (F.2.2.2.2 _ (List.mem_of_getElem? (i := 4) rfl)) (F.2.2.2.2 _ (List.mem_of_getElem? (i := 5) rfl)) hK hP hD hS 10 3 0 0 rfl rfl rfl rfl (by decide) 0 0 10 rfl rfl rfl (by omega) (by omega) (Nat.le_of_ble_eq_true rfl) (by decide +kernel) dX1_copyFrom_41 (weq.rf _) (fun H locs hP hD hS => ?_)
  refine lv_aload_n F.1 F.2.1 dX1_copyFrom_44 rfl (lv_at hl 1 rfl) ?_
  refine gf F hK hP 7 rfl rfl hiX1_copyFrom_1 3 (by decide) (List.mem_of_getElem? (i := 8) rfl) rfl dX1_copyFrom_45 ?_
  refine lv_iconst (v := 0) F.1 F.2.1 dX1_copyFrom_48 (by decide) ?_
  refine lv_aload_n F.1 F.2.1 dX1_copyFrom_49 rfl (lv_at hl 0 rfl) ?_
  refine gf F hK hP 0 rfl rfl hiX1_copyFrom_1 3 (by decide) (List.mem_of_getElem? (i := 8) rfl) rfl dX1_copyFrom_50 ?_
  refine lv_iconst (v := 0) F.1 F.2.1 dX1_copyFrom_53 (by decide) ?_
  refine lv_bipush (v := 10) F.1 F.2.1 dX1_copyFrom_54 (by decide) ?_
  refine cpy (ws' := [(a 0, .inr (1, [.ref (a 1), .ref (a 2), .ref (a 3), .ref (a 4), .ref (a 5), .ref (a 6), .int (g 1), .int (g 0), .int (g 2), .int (g 3)])), ai ct (a 1) 5 (va_cpy (fun j => f (15 + j)) (fun j => g (15 + j)) 0 0 5), ai ct (a 2) 10 (va_cpy (fun j => f (22 + 17 * (j / 5) + j % 5)) (fun j => g (22 + 17 * (j / 5) + j % 5)) 0 0 10), ai ct (a 3) 10 (va_cpy (fun j => f (27 + 17 * (j / 5) + j % 5)) (fun j => g (27 + 17 * (j / 5) + j % 5)) 0 0 10), ai ct (a 4) 10 (va_cpy (fun j => f (32 + 17 * (j / 5) + j % 5)) (fun j => g (32 + 17 * (j / 5) + j % 5)) 0 0 10), ai ct (a 5) 2 (fun j => g (20 + 17 * j)), ai ct (a 6) 2 (fun j => g (21 + 17 * j))] ++ (wB ct b f)) F hl.1 (F.2.2.2.2 _ (List.mem_of_getElem? (i := 2) rfl)) (F.2.2.2.2 _ (List.mem_of_getElem? (i := 3) rfl)) (F.2.2.2.2 _ (List.mem_of_getElem? (i := 4) rfl)) (F.2.2.2.2 _ (List.mem_of_getElem? (i := 5) rfl)) hK hP hD hS 11 4 0 0 rfl rfl rfl rfl (by decide) 0 0 10 rfl rfl rfl (by omega) (by omega) (Nat.le_of_ble_eq_true rfl) (by decide +kernel) dX1_copyFrom_56 (weq.rf _) (fun H locs hP hD hS => ?_)
  refine lv_aload_n F.1 F.2.1 dX1_copyFrom_59 rfl (lv_at hl 1 rfl) ?_
  refine gf F hK hP 7 rfl rfl hiX1_copyFrom_1 4 (by decide) (List.mem_of_getElem? (i := 9) rfl) rfl dX1_copyFrom_60 ?_
  refine lv_iconst (v := 0) F.1 F.2.1 dX1_copyFrom_63 (by decide) ?_
  refine lv_aload_n F.1 F.2.1 dX1_copyFrom_64 rfl (lv_at hl 0 rfl) ?_
  refine gf F hK hP 0 rfl rfl hiX1_copyFrom_1 4 (by decide) (List.mem_of_getElem? (i := 9) rfl) rfl dX1_copyFrom_65 ?_
  refine lv_iconst (v := 0) F.1 F.2.1 dX1_copyFrom_68 (by decide) ?_
  refine lv_iconst (v := 2) F.1 F.2.1 dX1_copyFrom_69 (by decide) ?_
  refine cpy (ws' := [(a 0, .inr (1, [.ref (a 1), .ref (a 2), .ref (a 3), .ref (a 4), .ref (a 5), .ref (a 6), .int (g 1), .int (g 0), .int (g 2), .int (g 3)])), ai ct (a 1) 5 (va_cpy (fun j => f (15 + j)) (fun j => g (15 + j)) 0 0 5), ai ct (a 2) 10 (va_cpy (fun j => f (22 + 17 * (j / 5) + j % 5)) (fun j => g (22 + 17 * (j / 5) + j % 5)) 0 0 10), ai ct (a 3) 10 (va_cpy (fun j => f (27 + 17 * (j / 5) + j % 5)) (fun j => g (27 + 17 * (j / 5) + j % 5)) 0 0 10), ai ct (a 4) 10 (va_cpy (fun j => f (32 + 17 * (j / 5) + j % 5)) (fun j => g (32 + 17 * (j / 5) + j % 5)) 0 0 10), ai ct (a 5) 2 (va_cpy (fun j => f (20 + 17 * j)) (fun j => g (20 + 17 * j)) 0 0 2), ai ct (a 6) 2 (fun j => g (21 + 17 * j))] ++ (wB ct b f)) F hl.1 (F.2.2.2.2 _ (List.mem_of_getElem? (i := 2) rfl)) (F.2.2.2.2 _ (List.mem_of_getElem? (i := 3) rfl)) (F.2.2.2.2 _ (List.mem_of_getElem? (i := 4) rfl)) (F.2.2.2.2 _ (List.mem_of_getElem? (i := 5) rfl)) hK hP hD hS 12 5 0 0 rfl rfl rfl rfl (by decide) 0 0 2 rfl rfl rfl (by omega) (by omega) (Nat.le_of_ble_eq_true rfl) (by decide +kernel) dX1_copyFrom_70 (weq.rf _) (fun H locs hP hD hS => ?_)
  refine lv_aload_n F.1 F.2.1 dX1_copyFrom_73 rfl (lv_at hl 1 rfl) ?_
  refine gf F hK hP 7 rfl rfl hiX1_copyFrom_1 5 (by decide) (List.mem_of_getElem? (i := 10) rfl) rfl dX1_copyFrom_74 ?_
  refine lv_iconst (v := 0) F.1 F.2.1 dX1_copyFrom_77 (by decide) ?_
  refine lv_aload_n F.1 F.2.1 dX1_copyFrom_78 rfl (lv_at hl 0 rfl) ?_
  refine gf F hK hP 0 rfl rfl hiX1_copyFrom_1 5 (by decide) (List.mem_of_getElem? (i := 10) rfl) rfl dX1_copyFrom_79 ?_
  refine lv_iconst (v := 0) F.1 F.2.1 dX1_copyFrom_82 (by decide) ?_
  refine lv_iconst (v := 2) F.1 F.2.1 dX1_copyFrom_83 (by decide) ?_
  refine cpy (ws' := [(a 0, .inr (1, [.ref (a 1), .ref (a 2), .ref (a 3), .ref (a 4), .ref (a 5), .ref (a 6), .int (g 1), .int (g 0), .int (g 2), .int (g 3)])), ai ct (a 1) 5 (va_cpy (fun j => f (15 + j)) (fun j => g (15 + j)) 0 0 5), ai ct (a 2) 10 (va_cpy (fun j => f (22 + 17 * (j / 5) + j % 5)) (fun j => g (22 + 17 * (j / 5) + j % 5)) 0 0 10), ai ct (a 3) 10 (va_cpy (fun j => f (27 + 17 * (j / 5) + j % 5)) (fun j => g (27 + 17 * (j / 5) + j % 5)) 0 0 10), ai ct (a 4) 10 (va_cpy (fun j => f (32 + 17 * (j / 5) + j % 5)) (fun j => g (32 + 17 * (j / 5) + j % 5)) 0 0 10), ai ct (a 5) 2 (va_cpy (fun j => f (20 + 17 * j)) (fun j => g (20 + 17 * j)) 0 0 2), ai ct (a 6) 2 (va_cpy (fun j => f (21 + 17 * j)) (fun j => g (21 + 17 * j)) 0 0 2)] ++ (wB ct b f)) F hl.1 (F.2.2.2.2 _ (List.mem_of_getElem? (i := 2) rfl)) (F.2.2.2.2 _ (List.mem_of_getElem? (i := 3) rfl)) (F.2.2.2.2 _ (List.mem_of_getElem? (i := 4) rfl)) (F.2.2.2.2 _ (List.mem_of_getElem? (i := 5) rfl)) hK hP hD hS 13 6 0 0 rfl rfl rfl rfl (by decide) 0 0 2 rfl rfl rfl (by omega) (by omega) (Nat.le_of_ble_eq_true rfl) (by decide +kernel) dX1_copyFrom_84 (weq.rf _) (fun H locs hP hD hS => ?_)
  refine lv_aload_n F.1 F.2.1 dX1_copyFrom_87 rfl (lv_at hl 0 rfl) ?_
  refine lv_aload_n F.1 F.2.1 dX1_copyFrom_88 rfl (lv_at hl 1 rfl) ?_
  refine gf F hK hP 7 rfl rfl hiX1_copyFrom_1 6 (by decide) (List.mem_of_getElem? (i := 11) rfl) rfl dX1_copyFrom_89 ?_
  refine pf (ws' := [(a 0, .inr (1, [.ref (a 1), .ref (a 2), .ref (a 3), .ref (a 4), .ref (a 5), .ref (a 6), .int (f 1), .int (g 0), .int (g 2), .int (g 3)])), ai ct (a 1) 5 (va_cpy (fun j => f (15 + j)) (fun j => g (15 + j)) 0 0 5), ai ct (a 2) 10 (va_cpy (fun j => f (22 + 17 * (j / 5) + j % 5)) (fun j => g (22 + 17 * (j / 5) + j % 5)) 0 0 10), ai ct (a 3) 10 (va_cpy (fun j => f (27 + 17 * (j / 5) + j % 5)) (fun j => g (27 + 17 * (j / 5) + j % 5)) 0 0 10), ai ct (a 4) 10 (va_cpy (fun j => f (32 + 17 * (j / 5) + j % 5)) (fun j => g (32 + 17 * (j / 5) + j % 5)) 0 0 10), ai ct (a 5) 2 (va_cpy (fun j => f (20 + 17 * j)) (fun j => g (20 + 17 * j)) 0 0 2), ai ct (a 6) 2 (va_cpy (fun j => f (21 + 17 * j)) (fun j => g (21 + 17 * j)) 0 0 2)] ++ (wB ct b f)) F hK hP hD hS 0 rfl rfl hiX1_copyFrom_1 tyX1 tyX1_ok nmX1 6 (by decide) (List.mem_of_getElem? (i := 11) rfl) rfl rfl rfl (Nat.le_of_ble_eq_true rfl) dX1_copyFrom_92 (weq.rf _) (fun H locs hP hD hS => ?_)
  refine lv_aload_n F.1 F.2.1 dX1_copyFrom_95 rfl (lv_at hl 0 rfl) ?_
  refine lv_aload_n F.1 F.2.1 dX1_copyFrom_96 rfl (lv_at hl 1 rfl) ?_
  refine gf F hK hP 7 rfl rfl hiX1_copyFrom_1 7 (by decide) (List.mem_of_getElem? (i := 12) rfl) rfl dX1_copyFrom_97 ?_
  refine pf (ws' := [(a 0, .inr (1, [.ref (a 1), .ref (a 2), .ref (a 3), .ref (a 4), .ref (a 5), .ref (a 6), .int (f 1), .int (f 0), .int (g 2), .int (g 3)])), ai ct (a 1) 5 (va_cpy (fun j => f (15 + j)) (fun j => g (15 + j)) 0 0 5), ai ct (a 2) 10 (va_cpy (fun j => f (22 + 17 * (j / 5) + j % 5)) (fun j => g (22 + 17 * (j / 5) + j % 5)) 0 0 10), ai ct (a 3) 10 (va_cpy (fun j => f (27 + 17 * (j / 5) + j % 5)) (fun j => g (27 + 17 * (j / 5) + j % 5)) 0 0 10), ai ct (a 4) 10 (va_cpy (fun j => f (32 + 17 * (j / 5) + j % 5)) (fun j => g (32 + 17 * (j / 5) + j % 5)) 0 0 10), ai ct (a 5) 2 (va_cpy (fun j => f (20 + 17 * j)) (fun j => g (20 + 17 * j)) 0 0 2), ai ct (a 6) 2 (va_cpy (fun j => f (21 + 17 * j)) (fun j => g (21 + 17 * j)) 0 0 2)] ++ (wB ct b f)) F hK hP hD hS 0 rfl rfl hiX1_copyFrom_1 tyX1 tyX1_ok nmX1 7 (by decide) (List.mem_of_getElem? (i := 12) rfl) rfl rfl rfl (Nat.le_of_ble_eq_true rfl) dX1_copyFrom_100 (weq.rf _) (fun H locs hP hD hS => ?_)
  refine lv_aload_n F.1 F.2.1 dX1_copyFrom_103 rfl (lv_at hl 0 rfl) ?_
  refine lv_aload_n F.1 F.2.1 dX1_copyFrom_104 rfl (lv_at hl 1 rfl) ?_
  refine gf F hK hP 7 rfl rfl hiX1_copyFrom_1 8 (by decide) (List.mem_of_getElem? (i := 13) rfl) rfl dX1_copyFrom_105 ?_
  refine pf (ws' := [(a 0, .inr (1, [.ref (a 1), .ref (a 2), .ref (a 3), .ref (a 4), .ref (a 5), .ref (a 6), .int (f 1), .int (f 0), .int (f 2), .int (g 3)])), ai ct (a 1) 5 (va_cpy (fun j => f (15 + j)) (fun j => g (15 + j)) 0 0 5), ai ct (a 2) 10 (va_cpy (fun j => f (22 + 17 * (j / 5) + j % 5)) (fun j => g (22 + 17 * (j / 5) + j % 5)) 0 0 10), ai ct (a 3) 10 (va_cpy (fun j => f (27 + 17 * (j / 5) + j % 5)) (fun j => g (27 + 17 * (j / 5) + j % 5)) 0 0 10), ai ct (a 4) 10 (va_cpy (fun j => f (32 + 17 * (j / 5) + j % 5)) (fun j => g (32 + 17 * (j / 5) + j % 5)) 0 0 10), ai ct (a 5) 2 (va_cpy (fun j => f (20 + 17 * j)) (fun j => g (20 + 17 * j)) 0 0 2), ai ct (a 6) 2 (va_cpy (fun j => f (21 + 17 * j)) (fun j => g (21 + 17 * j)) 0 0 2)] ++ (wB ct b f)) F hK hP hD hS 0 rfl rfl hiX1_copyFrom_1 tyX1 tyX1_ok nmX1 8 (by decide) (List.mem_of_getElem? (i := 13) rfl) rfl rfl rfl (Nat.le_of_ble_eq_true rfl) dX1_copyFrom_108 (weq.rf _) (fun H locs hP hD hS => ?_)
  refine lv_aload_n F.1 F.2.1 dX1_copyFrom_111 rfl (lv_at hl 0 rfl) ?_
  refine lv_aload_n F.1 F.2.1 dX1_copyFrom_112 rfl (lv_at hl 1 rfl) ?_
  refine gf F hK hP 7 rfl rfl hiX1_copyFrom_1 9 (by decide) (List.mem_of_getElem? (i := 14) rfl) rfl dX1_copyFrom_113 ?_
  refine pf (ws' := [(a 0, .inr (1, [.ref (a 1), .ref (a 2), .ref (a 3), .ref (a 4), .ref (a 5), .ref (a 6), .int (f 1), .int (f 0), .int (f 2), .int (f 3)])), ai ct (a 1) 5 (va_cpy (fun j => f (15 + j)) (fun j => g (15 + j)) 0 0 5), ai ct (a 2) 10 (va_cpy (fun j => f (22 + 17 * (j / 5) + j % 5)) (fun j => g (22 + 17 * (j / 5) + j % 5)) 0 0 10), ai ct (a 3) 10 (va_cpy (fun j => f (27 + 17 * (j / 5) + j % 5)) (fun j => g (27 + 17 * (j / 5) + j % 5)) 0 0 10), ai ct (a 4) 10 (va_cpy (fun j => f (32 + 17 * (j / 5) + j % 5)) (fun j => g (32 + 17 * (j / 5) + j % 5)) 0 0 10), ai ct (a 5) 2 (va_cpy (fun j => f (20 + 17 * j)) (fun j => g (20 + 17 * j)) 0 0 2), ai ct (a 6) 2 (va_cpy (fun j => f (21 + 17 * j)) (fun j => g (21 + 17 * j)) 0 0 2)] ++ (wB ct b f)) F hK hP hD hS 0 rfl rfl hiX1_copyFrom_1 tyX1 tyX1_ok nmX1 9 (by decide) (List.mem_of_getElem? (i := 14) rfl) rfl rfl rfl (Nat.le_of_ble_eq_true rfl) dX1_copyFrom_116 (weq.rf _) (fun H locs hP hD hS => ?_)
  have hq := weq.app (wB_eq (ct := ct) (a := a) (f' := f) (fr := f 1) (ni := f 0) (ba := f 2) (ea := f 3) (k := va_cpy (fun j => f (15 + j)) (fun j => g (15 + j)) 0 0 5) (h := va_cpy (fun j => f (22 + 17 * (j / 5) + j % 5)) (fun j => g (22 + 17 * (j / 5) + j % 5)) 0 0 10) (p := va_cpy (fun j => f (27 + 17 * (j / 5) + j % 5)) (fun j => g (27 + 17 * (j / 5) + j % 5)) 0 0 10) (w := va_cpy (fun j => f (32 + 17 * (j / 5) + j % 5)) (fun j => g (32 + 17 * (j / 5) + j % 5)) 0 0 10) (g := va_cpy (fun j => f (20 + 17 * j)) (fun j => g (20 + 17 * j)) 0 0 2) (t := va_cpy (fun j => f (21 + 17 * j)) (fun j => g (21 + 17 * j)) 0 0 2) rfl rfl rfl rfl (fun j hj => sb_cpy0 hj) (fun j hj => sb_cpy0 hj) (fun j hj => sb_cpy0 hj) (fun j hj => sb_cpy0 hj) (fun j hj => sb_cpy0 hj) (fun j hj => sb_cpy0 hj)) (weq.rf (wB ct b f))
  have hP := hq.P hP
  have hD := hq.D hD
  exact rtV () F hr hlk hP hS rfl trivial dX1_copyFrom_119

def rmX1_standAs : Room := { frames := 1, cells := 0, slots := 0, locals := 60 }
theorem nmX1_standAs : NmV yX1_standAs RX1 1 := by unfold NmV; decide +kernel
theorem hiX1_standAs_1 : ∀ w ∈ u_ws RX1 TX1 10, w ∈ wsX1_standAs := by decide +kernel
set_option maxHeartbeats 4000000 in
set_option maxRecDepth 100000 in
theorem kX1_standAs (l : Launch) (dC : Nat → ClassId) (dI : Nat → Nat → Nat) (ct : Nat → ClassId) (a : Nat → Nat) (r : Nat) (f w : Nat → Int32) (s : Nat) (hs : s < 2) (hw : w 12 = nI s) : MV (S := Unit) l yX1_standAs wsX1_standAs rmX1_standAs dC dI ct eT [.ref (a 0), .ref r] (wB ct a f ++ [ai ct r 14 w]) (fun _ => wB ct a (stF f w s) ++ [ai ct r 14 w]) (fun _ => True) := by
  refine MV.of (cc := cX1_standAs) (maxL := 2) (ret := none) (by decide) rfl (Nat.le_of_ble_eq_true rfl) ?_
  intro pg en z mi below meth cd A F hr hlk hin hK hP hD hA hS hE ls hl
  have F : CallFix pg mi cd cX1_standAs 2 z _ wsX1_standAs RX1 := F
  have hl : lv_has ls 2 [(0, .ref (a 0)), (1, .ref r)] := hl
  refine lv_aload_n F.1 F.2.1 dX1_standAs_0 rfl (lv_at hl 1 rfl) ?_
  refine lv_iconst (v := 0) F.1 F.2.1 dX1_standAs_1 (by decide) ?_
  refine lv_aload_n F.1 F.2.1 dX1_standAs_2 rfl (lv_at hl 0 rfl) ?_
  refine gf F hK hP 0 rfl rfl hiX1_standAs_1 2 (by decide) (List.mem_of_getElem? (i := 1) rfl) rfl dX1_standAs_3 ?_
  refine lv_iconst (v := 0) F.1 F.2.1 dX1_standAs_6 (by decide) ?_
  refine lv_bipush (v := 10) F.1 F.2.1 dX1_standAs_7 (by decide) ?_
  refine cpy (ws' := wB ct a (hpF f w) ++ [ai ct r 14 w]) F hl.1 (F.2.2.2.2 _ (List.mem_of_getElem? (i := 2) rfl)) (F.2.2.2.2 _ (List.mem_of_getElem? (i := 3) rfl)) (F.2.2.2.2 _ (List.mem_of_getElem? (i := 4) rfl)) (F.2.2.2.2 _ (List.mem_of_getElem? (i := 5) rfl)) hK hP hD hS 7 3 0 0 rfl rfl rfl rfl (by decide) 0 0 10 rfl rfl rfl (by omega) (by omega) (Nat.le_of_ble_eq_true rfl) (by decide +kernel) dX1_standAs_9 (weq_al (x := wB ct a f) (j := 3) (Nat.le_of_ble_eq_true rfl) (wq_hp _ _ _ _)) (fun H locs hP hD hS => ?_)
  refine lv_aload_n F.1 F.2.1 dX1_standAs_12 rfl (lv_at hl 0 rfl) ?_
  refine lv_aload_n F.1 F.2.1 dX1_standAs_13 rfl (lv_at hl 1 rfl) ?_
  refine lv_bipush (v := 10) F.1 F.2.1 dX1_standAs_14 (by decide) ?_
  refine al (v := w 10) F hK hP 7 0 rfl rfl 10 rfl (by omega) (by decide) rfl dX1_standAs_16 ?_
  refine pf (ws' := wB ct a (upd (hpF f w) 1 (w 10)) ++ [ai ct r 14 w]) F hK hP hD hS 0 rfl rfl hiX1_standAs_1 tyX1 tyX1_ok nmX1 6 (by decide) (List.mem_of_getElem? (i := 6) rfl) rfl rfl rfl (Nat.le_of_ble_eq_true rfl) dX1_standAs_17 (weq_al (x := wB ct a (hpF f w)) (j := 0) (Nat.le_of_ble_eq_true rfl) (wq_f1 ct a (hpF f w) _)) (fun H locs hP hD hS => ?_)
  refine lv_aload_n F.1 F.2.1 dX1_standAs_20 rfl (lv_at hl 0 rfl) ?_
  refine gf F hK hP 0 rfl rfl hiX1_standAs_1 5 (by decide) (List.mem_of_getElem? (i := 7) rfl) rfl dX1_standAs_21 ?_
  refine lv_aload_n F.1 F.2.1 dX1_standAs_24 rfl (lv_at hl 1 rfl) ?_
  refine lv_bipush (v := 12) F.1 F.2.1 dX1_standAs_25 (by decide) ?_
  refine al (v := w 12) F hK hP 7 0 rfl rfl 12 rfl (by omega) (by decide) rfl dX1_standAs_27 ?_
  refine tp (y := nI s) hw ?_
  refine lv_aload_n F.1 F.2.1 dX1_standAs_28 rfl (lv_at hl 1 rfl) ?_
  refine lv_bipush (v := 11) F.1 F.2.1 dX1_standAs_29 (by decide) ?_
  refine al (v := w 11) F hK hP 7 0 rfl rfl 11 rfl (by omega) (by decide) rfl dX1_standAs_31 ?_
  refine ast (ws' := wB ct a (upd (upd (hpF f w) 1 (w 10)) (21 + 17 * s) (w 11)) ++ [ai ct r 14 w]) F hK hP hD hS 6 0 rfl rfl s rfl (by omega) (by decide) dX1_standAs_32 (weq_al (x := wB ct a (upd (hpF f w) 1 (w 10))) (j := 6) (Nat.le_of_ble_eq_true rfl) (wq_trust ct a (upd (hpF f w) 1 (w 10)) (by omega))) (fun H locs hP hD hS => ?_)
  exact rtV () F hr hlk hP hS rfl trivial dX1_standAs_33
