def rmX6_isWord : Room := { frames := 4, cells := 0, slots := 0, locals := 85 }
theorem nmX6_isWord : NmV yX6_isWord RX6 1 := by unfold NmV; decide +kernel
theorem hiX6_isWord_6 : ∀ w ∈ u_ws RX6 TX6 22, w ∈ wsX6_isWord := by decide +kernel
set_option maxHeartbeats 4000000 in
set_option maxRecDepth 100000 in
theorem kX6_isWord (l : Launch) (dC : Nat → ClassId) (dI : Nat → Nat → Nat) (ct : Nat → ClassId) (K : Nat → Nat) (rf : List (String × Nat × String × Nat)) (a : Nat → Nat) (v y : Nat → Int32) (n : Nat) (p i : Nat) (hn : n ≤ 120) (hp : p ≤ n) (hT : MT v y n p) (hi : i < 14) : MI (S := Unit) l yX6_isWord wsX6_isWord rmX6_isWord dC dI ct (EQ K ct rf [a 0, a 5]) [.ref (a 0), .ref (kS K i)] (oM a v :: [ai ct (a 5) 120 y]) (fun _ => oM a v :: [ai ct (a 5) 120 y]) (fun r _ => r = if isW y n p i then 1 else 0) := by
  refine MI.ofz (cc := cX6_isWord) (maxL := 4) (ret := (some .boolean)) (by decide) rfl (Nat.le_of_ble_eq_true rfl) ?_
  intro pg en z mi below meth cd A F hr hlk hin hK hP hD hA hS hAz hE ls hl
  have hz := EQ_z (pre := oM a v :: [ai ct (a 5) 120 y]) (show EQ K ct rf (List.map Prod.fst (oM a v :: [ai ct (a 5) 120 y])) z from hE) hAz
  have F : CallFix pg mi cd cX6_isWord 4 z _ wsX6_isWord RX6 := F
  have hl : lv_has ls 4 [(0, .ref (a 0)), (1, .ref (kS K i))] := hl
  have hle := tE_le (y := y) hp
  have hl5 := lnS_lt i hi
  have htk := tK_le y n p
  refine lv_aload_n F.1 F.2.1 dX6_isWord_0 rfl (lv_at hl 0 rfl) ?_
  refine gf F hK hP 0 rfl rfl hiX6_isWord_6 11 (by decide) (List.mem_of_getElem? (i := 1) rfl) rfl dX6_isWord_1 ?_
  refine tp (y := nI (min (tK y n p) 3)) hT.2.2.1 ?_
  refine lv_iconst (v := 1) F.1 F.2.1 dX6_isWord_4 (by decide) ?_
  refine lv_icmp_ne (tgt := 28) F.1 F.2.1 dX6_isWord_5 (by decide) (fun c_5 => ?_) (fun c_5 => ?_)
  · refine lv_iconst (v := 0) F.1 F.2.1 dX6_isWord_28 (by decide) ?_
    refine lv_istore_n (lv' := [(2, .int 0), (0, .ref (a 0)), (1, .ref (kS K i))]) F.1 F.2.1 dX6_isWord_29 rfl hl (by decide) rfl (fun ls hl => ?_)
    refine lv_iconst (v := 0) F.1 F.2.1 dX6_isWord_30 (by decide) ?_
    refine lv_istore_n (lv' := [(3, .int 0), (2, .int 0), (0, .ref (a 0)), (1, .ref (kS K i))]) F.1 F.2.1 dX6_isWord_31 rfl hl (by decide) rfl (fun ls hl => ?_)
    refine loopN (I := fun k H locs ls => ∃ i0 : Int32, va_P (dC, dI) vwCl (oM a v :: [ai ct (a 5) 120 y]) H ∧ va_D A (oM a v :: [ai ct (a 5) 120 y]) ∧ va_S A z.heap H locs ∧ lv_has ls 4 [(3, .int (nI k)), (2, .int i0), (0, .ref (a 0)), (1, .ref (kS K i))] ∧ ((i0 = 1 ∧ tK y n p = 1 ∧ tE y n p - tB y n p = lnS i ∧ ∀ j, j < k → y (tB y n p + j) = chS i j) ∨ (i0 = 0 ∧ ¬ isW y n p i))) (lnS i) 0 (by omega) ⟨0, hP, hD, hS, lv_sub hl [0, 1, 2, 3] rfl, (Or.inr ⟨rfl, fun q => c_5 (by rw [(iwB_iff.mp q).1]; rfl)⟩)⟩ (fun H locs ls hI => ?_) (fun k hk_k H locs ls hI ih_32 => ?_)
    · obtain ⟨i0, hP, hD, hS, hl, hx⟩ := hI
      refine lv_iload_n F.1 F.2.1 dX6_isWord_32 rfl (lv_at hl 0 rfl) ?_
      refine lv_aload_n F.1 F.2.1 dX6_isWord_33 rfl (lv_at hl 3 rfl) ?_
      refine iVk (ws := oM a v :: [ai ct (a 5) 120 y]) (rest := [.int (nI (lnS i))]) F (kJ0_length_8abf5 l dC dI ct K rf i hi) gX6_isWord_J0_length_8abf5 rfl ⟨rfl, rfl⟩ nmJ0_length_8abf5 ⟨Nat.le_of_ble_eq_true rfl, Nat.le_of_ble_eq_true rfl⟩ EQ_b (EQ_call hE hS hz [] rfl) hK hP hD hS hA (rcv (hE.2.2.1.2.2.2.2 i hi).1 hz hS) rfl rfl hl.1 (Nat.le_of_ble_eq_true rfl) dX6_isWord_34 ⟨Nat.zero_le _, Nat.zero_le _⟩ [a 0, a 5] rfl (fun r_34 H locs e_34 hP hD hS => ?_)
      obtain rfl := e_34
      refine lv_icmp_ge (tgt := 75) F.1 F.2.1 dX6_isWord_37 (by decide) (fun c_37 => ?_) (fun c_37 => ?_)
      · refine lv_iload_n F.1 F.2.1 dX6_isWord_75 rfl (lv_at hl 1 rfl) ?_
        exact rtZ () F hr hlk hP hS rfl (hx.elim (fun q => by rw [q.1]; exact (if_pos (iwB_iff.mpr ⟨q.2.1, q.2.2.1, q.2.2.2⟩)).symm) (fun q => by rw [q.1]; exact (if_neg q.2).symm)) (hx.elim (fun q => Or.inr q.1) (fun q => Or.inl q.1)) dX6_isWord_76
      · exact absurd (nI_le (Nat.le_refl _) (by omega)) c_37
    · obtain ⟨i0, hP, hD, hS, hl, hx⟩ := hI
      refine lv_iload_n F.1 F.2.1 dX6_isWord_32 rfl (lv_at hl 0 rfl) ?_
      refine lv_aload_n F.1 F.2.1 dX6_isWord_33 rfl (lv_at hl 3 rfl) ?_
      refine iVk (ws := oM a v :: [ai ct (a 5) 120 y]) (rest := [.int (nI k)]) F (kJ0_length_8abf5 l dC dI ct K rf i hi) gX6_isWord_J0_length_8abf5 rfl ⟨rfl, rfl⟩ nmJ0_length_8abf5 ⟨Nat.le_of_ble_eq_true rfl, Nat.le_of_ble_eq_true rfl⟩ EQ_b (EQ_call hE hS hz [] rfl) hK hP hD hS hA (rcv (hE.2.2.1.2.2.2.2 i hi).1 hz hS) rfl rfl hl.1 (Nat.le_of_ble_eq_true rfl) dX6_isWord_34 ⟨Nat.zero_le _, Nat.zero_le _⟩ [a 0, a 5] rfl (fun r_34 H locs e_34 hP hD hS => ?_)
      obtain rfl := e_34
      refine lv_icmp_ge (tgt := 75) F.1 F.2.1 dX6_isWord_37 (by decide) (fun c_37 => ?_) (fun c_37 => ?_)
      · exact absurd c_37 (nI_ge hk_k (by omega))
      · refine lv_iload_n F.1 F.2.1 dX6_isWord_40 rfl (lv_at hl 1 rfl) ?_
        refine lv_if_eq (tgt := 75) F.1 F.2.1 dX6_isWord_41 (by decide) (fun c_41 => ?_) (fun c_41 => ?_)
        · refine lv_iload_n F.1 F.2.1 dX6_isWord_75 rfl (lv_at hl 1 rfl) ?_
          exact rtZ () F hr hlk hP hS rfl (hx.elim (fun q => absurd (c_41.symm.trans q.1) (by decide)) (fun q => by rw [q.1]; exact (if_neg q.2).symm)) (hx.elim (fun q => Or.inr q.1) (fun q => Or.inl q.1)) dX6_isWord_76
        · obtain ⟨-, hw⟩ := hx.resolve_right (fun q => c_41 q.1)
          refine lv_aload_n F.1 F.2.1 dX6_isWord_44 rfl (lv_at hl 2 rfl) ?_
          refine gf F hK hP 0 rfl rfl hiX6_isWord_6 7 (by decide) (List.mem_of_getElem? (i := 4) rfl) rfl dX6_isWord_45 ?_
          refine lv_aload_n F.1 F.2.1 dX6_isWord_48 rfl (lv_at hl 2 rfl) ?_
          refine gf F hK hP 0 rfl rfl hiX6_isWord_6 9 (by decide) (List.mem_of_getElem? (i := 3) rfl) rfl dX6_isWord_49 ?_
          refine tp (y := nI (tB y n p)) hT.1 ?_
          refine lv_iload_n F.1 F.2.1 dX6_isWord_52 rfl (lv_at hl 0 rfl) ?_
          refine lv_iadd F.1 F.2.1 dX6_isWord_53 ?_
          refine tp (y := nI (tB y n p + k)) (ad2 (a := tB y n p) (b := k) (c := tB y n p + k) rfl rfl rfl) ?_
          refine al (v := y (tB y n p + k)) F hK hP 1 0 rfl rfl (tB y n p + k) rfl (by omega) (by decide) rfl dX6_isWord_54 ?_
          refine lv_aload_n F.1 F.2.1 dX6_isWord_55 rfl (lv_at hl 3 rfl) ?_
          refine lv_iload_n F.1 F.2.1 dX6_isWord_56 rfl (lv_at hl 0 rfl) ?_
          refine iVk (ws := oM a v :: [ai ct (a 5) 120 y]) (rest := [.int (y (tB y n p + k))]) F (kJ0_charAt_5068e l dC dI ct K rf i k hi hk_k) gX6_isWord_J0_charAt_5068e rfl ⟨rfl, rfl⟩ nmJ0_charAt_5068e ⟨Nat.le_of_ble_eq_true rfl, Nat.le_of_ble_eq_true rfl⟩ EQ_b (EQ_call hE hS hz [] rfl) hK hP hD hS hA (rcv (hE.2.2.1.2.2.2.2 i hi).1 hz hS) rfl rfl hl.1 (Nat.le_of_ble_eq_true rfl) dX6_isWord_57 ⟨Nat.zero_le _, Nat.zero_le _⟩ [a 0, a 5] rfl (fun r_57 H locs e_57 hP hD hS => ?_)
          obtain rfl := e_57
          refine lv_icmp_ne (tgt := 67) F.1 F.2.1 dX6_isWord_60 (by decide) (fun c_60 => ?_) (fun c_60 => ?_)
          · refine lv_iconst (v := 0) F.1 F.2.1 dX6_isWord_67 (by decide) ?_
            refine lv_istore_n (lv' := [(2, .int 0), (3, .int (nI k)), (0, .ref (a 0)), (1, .ref (kS K i))]) F.1 F.2.1 dX6_isWord_68 rfl hl (by decide) rfl (fun ls hl => ?_)
            refine lv_iinc (v := nI (k + 1)) (lv' := [(3, .int (nI (k + 1))), (2, .int 0), (0, .ref (a 0)), (1, .ref (kS K i))]) F.1 F.2.1 dX6_isWord_69 hl (k := 1) rfl (by rw [show Int32.ofInt 1 = nI 1 from rfl, nI_add]) (by decide) rfl (fun ls hl => ?_)
            refine lv_goto (tgt := 32) F.1 F.2.1 dX6_isWord_72 (by decide) ?_
            exact ih_32 _ _ _ ⟨0, hP, hD, hS, lv_sub hl [0, 1, 2, 3] rfl, (Or.inr ⟨rfl, fun q => c_60 ((iwB_iff.mp q).2.2 k hk_k)⟩)⟩
          · refine lv_iconst (v := 1) F.1 F.2.1 dX6_isWord_63 (by decide) ?_
            refine lv_goto (tgt := 68) F.1 F.2.1 dX6_isWord_64 (by decide) ?_
            refine lv_istore_n (lv' := [(2, .int 1), (3, .int (nI k)), (0, .ref (a 0)), (1, .ref (kS K i))]) F.1 F.2.1 dX6_isWord_68 rfl hl (by decide) rfl (fun ls hl => ?_)
            refine lv_iinc (v := nI (k + 1)) (lv' := [(3, .int (nI (k + 1))), (2, .int 1), (0, .ref (a 0)), (1, .ref (kS K i))]) F.1 F.2.1 dX6_isWord_69 hl (k := 1) rfl (by rw [show Int32.ofInt 1 = nI 1 from rfl, nI_add]) (by decide) rfl (fun ls hl => ?_)
            refine lv_goto (tgt := 32) F.1 F.2.1 dX6_isWord_72 (by decide) ?_
            exact ih_32 _ _ _ ⟨1, hP, hD, hS, lv_sub hl [0, 1, 2, 3] rfl, (Or.inl ⟨rfl, hw.1, hw.2.1, al_S hw.2.2 c_60⟩)⟩
  · refine lv_aload_n F.1 F.2.1 dX6_isWord_8 rfl (lv_at hl 0 rfl) ?_
    refine gf F hK hP 0 rfl rfl hiX6_isWord_6 10 (by decide) (List.mem_of_getElem? (i := 2) rfl) rfl dX6_isWord_9 ?_
    refine tp (y := nI (tE y n p)) hT.2.1 ?_
    refine lv_aload_n F.1 F.2.1 dX6_isWord_12 rfl (lv_at hl 0 rfl) ?_
    refine gf F hK hP 0 rfl rfl hiX6_isWord_6 9 (by decide) (List.mem_of_getElem? (i := 3) rfl) rfl dX6_isWord_13 ?_
    refine tp (y := nI (tB y n p)) hT.1 ?_
    refine lv_isub F.1 F.2.1 dX6_isWord_16 ?_
    refine tp (y := nI (tE y n p - tB y n p)) (sb2 (a := tE y n p) (b := tB y n p) (c := tE y n p - tB y n p) rfl rfl (by omega)) ?_
    refine lv_aload_n F.1 F.2.1 dX6_isWord_17 rfl (lv_at hl 1 rfl) ?_
    refine iVk (ws := oM a v :: [ai ct (a 5) 120 y]) (rest := [.int (nI (tE y n p - tB y n p))]) F (kJ0_length_8abf5 l dC dI ct K rf i hi) gX6_isWord_J0_length_8abf5 rfl ⟨rfl, rfl⟩ nmJ0_length_8abf5 ⟨Nat.le_of_ble_eq_true rfl, Nat.le_of_ble_eq_true rfl⟩ EQ_b (EQ_call hE hS hz [] rfl) hK hP hD hS hA (rcv (hE.2.2.1.2.2.2.2 i hi).1 hz hS) rfl rfl hl.1 (Nat.le_of_ble_eq_true rfl) dX6_isWord_18 ⟨Nat.zero_le _, Nat.zero_le _⟩ [a 0, a 5] rfl (fun r_18 H locs e_18 hP hD hS => ?_)
    obtain rfl := e_18
    refine lv_icmp_ne (tgt := 28) F.1 F.2.1 dX6_isWord_21 (by decide) (fun c_21 => ?_) (fun c_21 => ?_)
    · refine lv_iconst (v := 0) F.1 F.2.1 dX6_isWord_28 (by decide) ?_
      refine lv_istore_n (lv' := [(2, .int 0), (0, .ref (a 0)), (1, .ref (kS K i))]) F.1 F.2.1 dX6_isWord_29 rfl hl (by decide) rfl (fun ls hl => ?_)
      refine lv_iconst (v := 0) F.1 F.2.1 dX6_isWord_30 (by decide) ?_
      refine lv_istore_n (lv' := [(3, .int 0), (2, .int 0), (0, .ref (a 0)), (1, .ref (kS K i))]) F.1 F.2.1 dX6_isWord_31 rfl hl (by decide) rfl (fun ls hl => ?_)
      refine loopN (I := fun k H locs ls => ∃ i0 : Int32, va_P (dC, dI) vwCl (oM a v :: [ai ct (a 5) 120 y]) H ∧ va_D A (oM a v :: [ai ct (a 5) 120 y]) ∧ va_S A z.heap H locs ∧ lv_has ls 4 [(3, .int (nI k)), (2, .int i0), (0, .ref (a 0)), (1, .ref (kS K i))] ∧ ((i0 = 1 ∧ tK y n p = 1 ∧ tE y n p - tB y n p = lnS i ∧ ∀ j, j < k → y (tB y n p + j) = chS i j) ∨ (i0 = 0 ∧ ¬ isW y n p i))) (lnS i) 0 (by omega) ⟨0, hP, hD, hS, lv_sub hl [0, 1, 2, 3] rfl, (Or.inr ⟨rfl, fun q => c_21 (by rw [(iwB_iff.mp q).2.1])⟩)⟩ (fun H locs ls hI => ?_) (fun k hk_k H locs ls hI ih_32 => ?_)
      · obtain ⟨i0, hP, hD, hS, hl, hx⟩ := hI
        refine lv_iload_n F.1 F.2.1 dX6_isWord_32 rfl (lv_at hl 0 rfl) ?_
        refine lv_aload_n F.1 F.2.1 dX6_isWord_33 rfl (lv_at hl 3 rfl) ?_
        refine iVk (ws := oM a v :: [ai ct (a 5) 120 y]) (rest := [.int (nI (lnS i))]) F (kJ0_length_8abf5 l dC dI ct K rf i hi) gX6_isWord_J0_length_8abf5 rfl ⟨rfl, rfl⟩ nmJ0_length_8abf5 ⟨Nat.le_of_ble_eq_true rfl, Nat.le_of_ble_eq_true rfl⟩ EQ_b (EQ_call hE hS hz [] rfl) hK hP hD hS hA (rcv (hE.2.2.1.2.2.2.2 i hi).1 hz hS) rfl rfl hl.1 (Nat.le_of_ble_eq_true rfl) dX6_isWord_34 ⟨Nat.zero_le _, Nat.zero_le _⟩ [a 0, a 5] rfl (fun r_34 H locs e_34 hP hD hS => ?_)
        obtain rfl := e_34
        refine lv_icmp_ge (tgt := 75) F.1 F.2.1 dX6_isWord_37 (by decide) (fun c_37 => ?_) (fun c_37 => ?_)
        · refine lv_iload_n F.1 F.2.1 dX6_isWord_75 rfl (lv_at hl 1 rfl) ?_
          exact rtZ () F hr hlk hP hS rfl (hx.elim (fun q => by rw [q.1]; exact (if_pos (iwB_iff.mpr ⟨q.2.1, q.2.2.1, q.2.2.2⟩)).symm) (fun q => by rw [q.1]; exact (if_neg q.2).symm)) (hx.elim (fun q => Or.inr q.1) (fun q => Or.inl q.1)) dX6_isWord_76
        · exact absurd (nI_le (Nat.le_refl _) (by omega)) c_37
      · obtain ⟨i0, hP, hD, hS, hl, hx⟩ := hI
        refine lv_iload_n F.1 F.2.1 dX6_isWord_32 rfl (lv_at hl 0 rfl) ?_
        refine lv_aload_n F.1 F.2.1 dX6_isWord_33 rfl (lv_at hl 3 rfl) ?_
        refine iVk (ws := oM a v :: [ai ct (a 5) 120 y]) (rest := [.int (nI k)]) F (kJ0_length_8abf5 l dC dI ct K rf i hi) gX6_isWord_J0_length_8abf5 rfl ⟨rfl, rfl⟩ nmJ0_length_8abf5 ⟨Nat.le_of_ble_eq_true rfl, Nat.le_of_ble_eq_true rfl⟩ EQ_b (EQ_call hE hS hz [] rfl) hK hP hD hS hA (rcv (hE.2.2.1.2.2.2.2 i hi).1 hz hS) rfl rfl hl.1 (Nat.le_of_ble_eq_true rfl) dX6_isWord_34 ⟨Nat.zero_le _, Nat.zero_le _⟩ [a 0, a 5] rfl (fun r_34 H locs e_34 hP hD hS => ?_)
        obtain rfl := e_34
        refine lv_icmp_ge (tgt := 75) F.1 F.2.1 dX6_isWord_37 (by decide) (fun c_37 => ?_) (fun c_37 => ?_)
        · exact absurd c_37 (nI_ge hk_k (by omega))
        · refine lv_iload_n F.1 F.2.1 dX6_isWord_40 rfl (lv_at hl 1 rfl) ?_
          refine lv_if_eq (tgt := 75) F.1 F.2.1 dX6_isWord_41 (by decide) (fun c_41 => ?_) (fun c_41 => ?_)
          · refine lv_iload_n F.1 F.2.1 dX6_isWord_75 rfl (lv_at hl 1 rfl) ?_
            exact rtZ () F hr hlk hP hS rfl (hx.elim (fun q => absurd (c_41.symm.trans q.1) (by decide)) (fun q => by rw [q.1]; exact (if_neg q.2).symm)) (hx.elim (fun q => Or.inr q.1) (fun q => Or.inl q.1)) dX6_isWord_76
          · obtain ⟨-, hw⟩ := hx.resolve_right (fun q => c_41 q.1)
            refine lv_aload_n F.1 F.2.1 dX6_isWord_44 rfl (lv_at hl 2 rfl) ?_
            refine gf F hK hP 0 rfl rfl hiX6_isWord_6 7 (by decide) (List.mem_of_getElem? (i := 4) rfl) rfl dX6_isWord_45 ?_
            refine lv_aload_n F.1 F.2.1 dX6_isWord_48 rfl (lv_at hl 2 rfl) ?_
            refine gf F hK hP 0 rfl rfl hiX6_isWord_6 9 (by decide) (List.mem_of_getElem? (i := 3) rfl) rfl dX6_isWord_49 ?_
            refine tp (y := nI (tB y n p)) hT.1 ?_
            refine lv_iload_n F.1 F.2.1 dX6_isWord_52 rfl (lv_at hl 0 rfl) ?_
            refine lv_iadd F.1 F.2.1 dX6_isWord_53 ?_
            refine tp (y := nI (tB y n p + k)) (ad2 (a := tB y n p) (b := k) (c := tB y n p + k) rfl rfl rfl) ?_
            refine al (v := y (tB y n p + k)) F hK hP 1 0 rfl rfl (tB y n p + k) rfl (by omega) (by decide) rfl dX6_isWord_54 ?_
            refine lv_aload_n F.1 F.2.1 dX6_isWord_55 rfl (lv_at hl 3 rfl) ?_
            refine lv_iload_n F.1 F.2.1 dX6_isWord_56 rfl (lv_at hl 0 rfl) ?_
            refine iVk (ws := oM a v :: [ai ct (a 5) 120 y]) (rest := [.int (y (tB y n p + k))]) F (kJ0_charAt_5068e l dC dI ct K rf i k hi hk_k) gX6_isWord_J0_charAt_5068e rfl ⟨rfl, rfl⟩ nmJ0_charAt_5068e ⟨Nat.le_of_ble_eq_true rfl, Nat.le_of_ble_eq_true rfl⟩ EQ_b (EQ_call hE hS hz [] rfl) hK hP hD hS hA (rcv (hE.2.2.1.2.2.2.2 i hi).1 hz hS) rfl rfl hl.1 (Nat.le_of_ble_eq_true rfl) dX6_isWord_57 ⟨Nat.zero_le _, Nat.zero_le _⟩ [a 0, a 5] rfl (fun r_57 H locs e_57 hP hD hS => ?_)
            obtain rfl := e_57
            refine lv_icmp_ne (tgt := 67) F.1 F.2.1 dX6_isWord_60 (by decide) (fun c_60 => ?_) (fun c_60 => ?_)
            · refine lv_iconst (v := 0) F.1 F.2.1 dX6_isWord_67 (by decide) ?_
              refine lv_istore_n (lv' := [(2, .int 0), (3, .int (nI k)), (0, .ref (a 0)), (1, .ref (kS K i))]) F.1 F.2.1 dX6_isWord_68 rfl hl (by decide) rfl (fun ls hl => ?_)
              refine lv_iinc (v := nI (k + 1)) (lv' := [(3, .int (nI (k + 1))), (2, .int 0), (0, .ref (a 0)), (1, .ref (kS K i))]) F.1 F.2.1 dX6_isWord_69 hl (k := 1) rfl (by rw [show Int32.ofInt 1 = nI 1 from rfl, nI_add]) (by decide) rfl (fun ls hl => ?_)
              refine lv_goto (tgt := 32) F.1 F.2.1 dX6_isWord_72 (by decide) ?_
              exact ih_32 _ _ _ ⟨0, hP, hD, hS, lv_sub hl [0, 1, 2, 3] rfl, (Or.inr ⟨rfl, fun q => c_60 ((iwB_iff.mp q).2.2 k hk_k)⟩)⟩
            · refine lv_iconst (v := 1) F.1 F.2.1 dX6_isWord_63 (by decide) ?_
              refine lv_goto (tgt := 68) F.1 F.2.1 dX6_isWord_64 (by decide) ?_
              refine lv_istore_n (lv' := [(2, .int 1), (3, .int (nI k)), (0, .ref (a 0)), (1, .ref (kS K i))]) F.1 F.2.1 dX6_isWord_68 rfl hl (by decide) rfl (fun ls hl => ?_)
              refine lv_iinc (v := nI (k + 1)) (lv' := [(3, .int (nI (k + 1))), (2, .int 1), (0, .ref (a 0)), (1, .ref (kS K i))]) F.1 F.2.1 dX6_isWord_69 hl (k := 1) rfl (by rw [show Int32.ofInt 1 = nI 1 from rfl, nI_add]) (by decide) rfl (fun ls hl => ?_)
              refine lv_goto (tgt := 32) F.1 F.2.1 dX6_isWord_72 (by decide) ?_
              exact ih_32 _ _ _ ⟨1, hP, hD, hS, lv_sub hl [0, 1, 2, 3] rfl, (Or.inl ⟨rfl, hw.1, hw.2.1, al_S hw.2.2 c_60⟩)⟩
    · refine lv_iconst (v := 1) F.1 F.2.1 dX6_isWord_24 (by decide) ?_
      refine lv_goto (tgt := 29) F.1 F.2.1 dX6_isWord_25 (by decide) ?_
      refine lv_istore_n (lv' := [(2, .int 1), (0, .ref (a 0)), (1, .ref (kS K i))]) F.1 F.2.1 dX6_isWord_29 rfl hl (by decide) rfl (fun ls hl => ?_)
      refine lv_iconst (v := 0) F.1 F.2.1 dX6_isWord_30 (by decide) ?_
      refine lv_istore_n (lv' := [(3, .int 0), (2, .int 1), (0, .ref (a 0)), (1, .ref (kS K i))]) F.1 F.2.1 dX6_isWord_31 rfl hl (by decide) rfl (fun ls hl => ?_)
      refine loopN (I := fun k H locs ls => ∃ i0 : Int32, va_P (dC, dI) vwCl (oM a v :: [ai ct (a 5) 120 y]) H ∧ va_D A (oM a v :: [ai ct (a 5) 120 y]) ∧ va_S A z.heap H locs ∧ lv_has ls 4 [(3, .int (nI k)), (2, .int i0), (0, .ref (a 0)), (1, .ref (kS K i))] ∧ ((i0 = 1 ∧ tK y n p = 1 ∧ tE y n p - tB y n p = lnS i ∧ ∀ j, j < k → y (tB y n p + j) = chS i j) ∨ (i0 = 0 ∧ ¬ isW y n p i))) (lnS i) 0 (by omega) ⟨1, hP, hD, hS, lv_sub hl [0, 1, 2, 3] rfl, (Or.inl ⟨rfl, (by have q := nI_of_eq (b := 1) c_5 (by omega) (by omega); omega), nI_of_eq c_21 (by omega) (by omega), fun j hj => absurd hj (Nat.not_lt_zero j)⟩)⟩ (fun H locs ls hI => ?_) (fun k hk_k H locs ls hI ih_32 => ?_)
      · obtain ⟨i0, hP, hD, hS, hl, hx⟩ := hI
        refine lv_iload_n F.1 F.2.1 dX6_isWord_32 rfl (lv_at hl 0 rfl) ?_
        refine lv_aload_n F.1 F.2.1 dX6_isWord_33 rfl (lv_at hl 3 rfl) ?_
        refine iVk (ws := oM a v :: [ai ct (a 5) 120 y]) (rest := [.int (nI (lnS i))]) F (kJ0_length_8abf5 l dC dI ct K rf i hi) gX6_isWord_J0_length_8abf5 rfl ⟨rfl, rfl⟩ nmJ0_length_8abf5 ⟨Nat.le_of_ble_eq_true rfl, Nat.le_of_ble_eq_true rfl⟩ EQ_b (EQ_call hE hS hz [] rfl) hK hP hD hS hA (rcv (hE.2.2.1.2.2.2.2 i hi).1 hz hS) rfl rfl hl.1 (Nat.le_of_ble_eq_true rfl) dX6_isWord_34 ⟨Nat.zero_le _, Nat.zero_le _⟩ [a 0, a 5] rfl (fun r_34 H locs e_34 hP hD hS => ?_)
        obtain rfl := e_34
        refine lv_icmp_ge (tgt := 75) F.1 F.2.1 dX6_isWord_37 (by decide) (fun c_37 => ?_) (fun c_37 => ?_)
        · refine lv_iload_n F.1 F.2.1 dX6_isWord_75 rfl (lv_at hl 1 rfl) ?_
          exact rtZ () F hr hlk hP hS rfl (hx.elim (fun q => by rw [q.1]; exact (if_pos (iwB_iff.mpr ⟨q.2.1, q.2.2.1, q.2.2.2⟩)).symm) (fun q => by rw [q.1]; exact (if_neg q.2).symm)) (hx.elim (fun q => Or.inr q.1) (fun q => Or.inl q.1)) dX6_isWord_76
        · exact absurd (nI_le (Nat.le_refl _) (by omega)) c_37
      · obtain ⟨i0, hP, hD, hS, hl, hx⟩ := hI
        refine lv_iload_n F.1 F.2.1 dX6_isWord_32 rfl (lv_at hl 0 rfl) ?_
        refine lv_aload_n F.1 F.2.1 dX6_isWord_33 rfl (lv_at hl 3 rfl) ?_
        refine iVk (ws := oM a v :: [ai ct (a 5) 120 y]) (rest := [.int (nI k)]) F (kJ0_length_8abf5 l dC dI ct K rf i hi) gX6_isWord_J0_length_8abf5 rfl ⟨rfl, rfl⟩ nmJ0_length_8abf5 ⟨Nat.le_of_ble_eq_true rfl, Nat.le_of_ble_eq_true rfl⟩ EQ_b (EQ_call hE hS hz [] rfl) hK hP hD hS hA (rcv (hE.2.2.1.2.2.2.2 i hi).1 hz hS) rfl rfl hl.1 (Nat.le_of_ble_eq_true rfl) dX6_isWord_34 ⟨Nat.zero_le _, Nat.zero_le _⟩ [a 0, a 5] rfl (fun r_34 H locs e_34 hP hD hS => ?_)
        obtain rfl := e_34
        refine lv_icmp_ge (tgt := 75) F.1 F.2.1 dX6_isWord_37 (by decide) (fun c_37 => ?_) (fun c_37 => ?_)
        · exact absurd c_37 (nI_ge hk_k (by omega))
        · refine lv_iload_n F.1 F.2.1 dX6_isWord_40 rfl (lv_at hl 1 rfl) ?_
          refine lv_if_eq (tgt := 75) F.1 F.2.1 dX6_isWord_41 (by decide) (fun c_41 => ?_) (fun c_41 => ?_)
          · refine lv_iload_n F.1 F.2.1 dX6_isWord_75 rfl (lv_at hl 1 rfl) ?_
            exact rtZ () F hr hlk hP hS rfl (hx.elim (fun q => absurd (c_41.symm.trans q.1) (by decide)) (fun q => by rw [q.1]; exact (if_neg q.2).symm)) (hx.elim (fun q => Or.inr q.1) (fun q => Or.inl q.1)) dX6_isWord_76
          · obtain ⟨-, hw⟩ := hx.resolve_right (fun q => c_41 q.1)
            refine lv_aload_n F.1 F.2.1 dX6_isWord_44 rfl (lv_at hl 2 rfl) ?_
            refine gf F hK hP 0 rfl rfl hiX6_isWord_6 7 (by decide) (List.mem_of_getElem? (i := 4) rfl) rfl dX6_isWord_45 ?_
            refine lv_aload_n F.1 F.2.1 dX6_isWord_48 rfl (lv_at hl 2 rfl) ?_
            refine gf F hK hP 0 rfl rfl hiX6_isWord_6 9 (by decide) (List.mem_of_getElem? (i := 3) rfl) rfl dX6_isWord_49 ?_
            refine tp (y := nI (tB y n p)) hT.1 ?_
            refine lv_iload_n F.1 F.2.1 dX6_isWord_52 rfl (lv_at hl 0 rfl) ?_
            refine lv_iadd F.1 F.2.1 dX6_isWord_53 ?_
            refine tp (y := nI (tB y n p + k)) (ad2 (a := tB y n p) (b := k) (c := tB y n p + k) rfl rfl rfl) ?_
            refine al (v := y (tB y n p + k)) F hK hP 1 0 rfl rfl (tB y n p + k) rfl (by omega) (by decide) rfl dX6_isWord_54 ?_
            refine lv_aload_n F.1 F.2.1 dX6_isWord_55 rfl (lv_at hl 3 rfl) ?_
            refine lv_iload_n F.1 F.2.1 dX6_isWord_56 rfl (lv_at hl 0 rfl) ?_
            refine iVk (ws := oM a v :: [ai ct (a 5) 120 y]) (rest := [.int (y (tB y n p + k))]) F (kJ0_charAt_5068e l dC dI ct K rf i k hi hk_k) gX6_isWord_J0_charAt_5068e rfl ⟨rfl, rfl⟩ nmJ0_charAt_5068e ⟨Nat.le_of_ble_eq_true rfl, Nat.le_of_ble_eq_true rfl⟩ EQ_b (EQ_call hE hS hz [] rfl) hK hP hD hS hA (rcv (hE.2.2.1.2.2.2.2 i hi).1 hz hS) rfl rfl hl.1 (Nat.le_of_ble_eq_true rfl) dX6_isWord_57 ⟨Nat.zero_le _, Nat.zero_le _⟩ [a 0, a 5] rfl (fun r_57 H locs e_57 hP hD hS => ?_)
            obtain rfl := e_57
            refine lv_icmp_ne (tgt := 67) F.1 F.2.1 dX6_isWord_60 (by decide) (fun c_60 => ?_) (fun c_60 => ?_)
            · refine lv_iconst (v := 0) F.1 F.2.1 dX6_isWord_67 (by decide) ?_
              refine lv_istore_n (lv' := [(2, .int 0), (3, .int (nI k)), (0, .ref (a 0)), (1, .ref (kS K i))]) F.1 F.2.1 dX6_isWord_68 rfl hl (by decide) rfl (fun ls hl => ?_)
              refine lv_iinc (v := nI (k + 1)) (lv' := [(3, .int (nI (k + 1))), (2, .int 0), (0, .ref (a 0)), (1, .ref (kS K i))]) F.1 F.2.1 dX6_isWord_69 hl (k := 1) rfl (by rw [show Int32.ofInt 1 = nI 1 from rfl, nI_add]) (by decide) rfl (fun ls hl => ?_)
              refine lv_goto (tgt := 32) F.1 F.2.1 dX6_isWord_72 (by decide) ?_
              exact ih_32 _ _ _ ⟨0, hP, hD, hS, lv_sub hl [0, 1, 2, 3] rfl, (Or.inr ⟨rfl, fun q => c_60 ((iwB_iff.mp q).2.2 k hk_k)⟩)⟩
            · refine lv_iconst (v := 1) F.1 F.2.1 dX6_isWord_63 (by decide) ?_
              refine lv_goto (tgt := 68) F.1 F.2.1 dX6_isWord_64 (by decide) ?_
              refine lv_istore_n (lv' := [(2, .int 1), (3, .int (nI k)), (0, .ref (a 0)), (1, .ref (kS K i))]) F.1 F.2.1 dX6_isWord_68 rfl hl (by decide) rfl (fun ls hl => ?_)
              refine lv_iinc (v := nI (k + 1)) (lv' := [(3, .int (nI (k + 1))), (2, .int 1), (0, .ref (a 0)), (1, .ref (kS K i))]) F.1 F.2.1 dX6_isWord_69 hl (k := 1) rfl (by rw [show Int32.ofInt 1 = nI 1 from rfl, nI_add]) (by decide) rfl (fun ls hl => ?_)
              refine lv_goto (tgt := 32) F.1 F.2.1 dX6_isWord_72 (by decide) ?_
              exact ih_32 _ _ _ ⟨1, hP, hD, hS, lv_sub hl [0, 1, 2, 3] rfl, (Or.inl ⟨rfl, hw.1, hw.2.1, al_S hw.2.2 c_60⟩)⟩

def rmX6_kindTold : Room := { frames := 5, cells := 0, slots := 0, locals := 108 }
theorem nmX6_kindTold : NmV yX6_kindTold RX6 0 := by unfold NmV; decide +kernel
theorem hiX6_kindTold_6 : ∀ w ∈ u_ws RX6 TX6 22, w ∈ wsX6_kindTold := by decide +kernel
set_option maxHeartbeats 4000000 in
set_option maxRecDepth 100000 in
theorem kX6_kindTold (l : Launch) (dC : Nat → ClassId) (dI : Nat → Nat → Nat) (ct : Nat → ClassId) (K : Nat → Nat) (rf : List (String × Nat × String × Nat)) (a : Nat → Nat) (v y : Nat → Int32) (n : Nat) (p : Nat) (hn : n ≤ 120) (hp : p ≤ n) (hT : MT v y n p) : MI (S := Unit) l yX6_kindTold wsX6_kindTold rmX6_kindTold dC dI ct (EQ K ct rf [a 0, a 5, a 6]) [.ref (a 0)] (oM a v :: ai ct (a 5) 120 y :: [(a 6, .inl (ct 3, 7, .inr (.inr (.inr (.inr (fun j => some (kS K j)))))))]) (fun _ => oM a v :: ai ct (a 5) 120 y :: [(a 6, .inl (ct 3, 7, .inr (.inr (.inr (.inr (fun j => some (kS K j)))))))]) (fun r _ => r = wkF y n p) := by
  refine MI.ofz (cc := cX6_kindTold) (maxL := 3) (ret := (some .int)) (by decide) rfl (Nat.le_of_ble_eq_true rfl) ?_
  intro pg en z mi below meth cd A F hr hlk hin hK hP hD hA hS hAz hE ls hl
  have hz := EQ_z (pre := oM a v :: ai ct (a 5) 120 y :: [(a 6, .inl (ct 3, 7, .inr (.inr (.inr (.inr (fun j => some (kS K j)))))))]) (show EQ K ct rf (List.map Prod.fst (oM a v :: ai ct (a 5) 120 y :: [(a 6, .inl (ct 3, 7, .inr (.inr (.inr (.inr (fun j => some (kS K j)))))))])) z from hE) hAz
  have F : CallFix pg mi cd cX6_kindTold 3 z _ wsX6_kindTold RX6 := F
  have hl : lv_has ls 3 [(0, .ref (a 0))] := hl
  refine lv_iconst (v := (-1)) F.1 F.2.1 dX6_kindTold_0 (by decide) ?_
  refine lv_istore_n (lv' := [(1, .int (-1)), (0, .ref (a 0))]) F.1 F.2.1 dX6_kindTold_1 rfl hl (by decide) rfl (fun ls hl => ?_)
  refine lv_iconst (v := 0) F.1 F.2.1 dX6_kindTold_2 (by decide) ?_
  refine lv_istore_n (lv' := [(2, .int 0), (1, .int (-1)), (0, .ref (a 0))]) F.1 F.2.1 dX6_kindTold_3 rfl hl (by decide) rfl (fun ls hl => ?_)
  refine loopN (I := fun k H locs ls => va_P (dC, dI) vwCl (oM a v :: ai ct (a 5) 120 y :: [(a 6, .inl (ct 3, 7, .inr (.inr (.inr (.inr (fun j => some (kS K j)))))))]) H ∧ va_D A (oM a v :: ai ct (a 5) 120 y :: [(a 6, .inl (ct 3, 7, .inr (.inr (.inr (.inr (fun j => some (kS K j)))))))]) ∧ va_S A z.heap H locs ∧ lv_has ls 3 [(2, .int (nI k)), (1, .int (ktF y n p k)), (0, .ref (a 0))]) 7 0 (by omega) ⟨hP, hD, hS, lv_sub hl [0, 1, 2] rfl⟩ (fun H locs ls hI => ?_) (fun k hk_k H locs ls hI ih_4 => ?_)
  · obtain ⟨hP, hD, hS, hl⟩ := hI
    refine lv_iload_n F.1 F.2.1 dX6_kindTold_4 rfl (lv_at hl 0 rfl) ?_
    refine lv_aload_n F.1 F.2.1 dX6_kindTold_5 rfl (lv_at hl 2 rfl) ?_
    refine gf F hK hP 0 rfl rfl hiX6_kindTold_6 14 (by decide) (List.mem_of_getElem? (i := 1) rfl) rfl dX6_kindTold_6 ?_
    refine va_alen F.1 F.2.1 hK hP 2 3 rfl rfl (v := nI 7) rfl dX6_kindTold_9 ?_
    refine lv_icmp_ge (tgt := 38) F.1 F.2.1 dX6_kindTold_10 (by decide) (fun c_10 => ?_) (fun c_10 => ?_)
    · refine lv_iload_n F.1 F.2.1 dX6_kindTold_38 rfl (lv_at hl 1 rfl) ?_
      exact rtI () F hr hlk hP hS rfl (wk_eq y n p) dX6_kindTold_39
    · exact absurd (nI_le (Nat.le_refl _) (by decide)) c_10
  · obtain ⟨hP, hD, hS, hl⟩ := hI
    refine lv_iload_n F.1 F.2.1 dX6_kindTold_4 rfl (lv_at hl 0 rfl) ?_
    refine lv_aload_n F.1 F.2.1 dX6_kindTold_5 rfl (lv_at hl 2 rfl) ?_
    refine gf F hK hP 0 rfl rfl hiX6_kindTold_6 14 (by decide) (List.mem_of_getElem? (i := 1) rfl) rfl dX6_kindTold_6 ?_
    refine va_alen F.1 F.2.1 hK hP 2 3 rfl rfl (v := nI 7) rfl dX6_kindTold_9 ?_
    refine lv_icmp_ge (tgt := 38) F.1 F.2.1 dX6_kindTold_10 (by decide) (fun c_10 => ?_) (fun c_10 => ?_)
    · exact absurd c_10 (nI_ge hk_k (by decide))
    · refine lv_aload_n F.1 F.2.1 dX6_kindTold_13 rfl (lv_at hl 2 rfl) ?_
      refine lv_aload_n F.1 F.2.1 dX6_kindTold_14 rfl (lv_at hl 2 rfl) ?_
      refine gf F hK hP 0 rfl rfl hiX6_kindTold_6 14 (by decide) (List.mem_of_getElem? (i := 1) rfl) rfl dX6_kindTold_15 ?_
      refine lv_iload_n F.1 F.2.1 dX6_kindTold_18 rfl (lv_at hl 0 rfl) ?_
      refine alr F hK hP 2 3 rfl rfl rfl k rfl (by omega) (by decide) rfl dX6_kindTold_19 ?_
      refine iV (rest := []) (wsp := fun _ => oM a v :: ai ct (a 5) 120 y :: [(a 6, .inl (ct 3, 7, .inr (.inr (.inr (.inr (fun j => some (kS K j)))))))]) F (kX6_isWord l dC dI ct K rf a v y n p k hn (by omega) hT (by omega)) gX6_kindTold_X6_isWord rfl ⟨rfl, rfl⟩ nmX6_isWord ⟨Nat.le_of_ble_eq_true rfl, Nat.le_of_ble_eq_true rfl⟩ EQ_b (EQ_call hE hS hz [0, 1] rfl) hK hP hD hS hA 0 rfl rfl rfl [0, 1] (by decide) rfl rfl rfl hl.1 (Nat.le_of_ble_eq_true rfl) dX6_kindTold_20 ⟨Nat.zero_le _, Nat.zero_le _⟩ (fun _ => rfl) (fun _ => rfl) [a 0, a 5, a 6] rfl (fun _ => rfl) (fun r_20 u_20 H locs e_20 hP hD hS => ?_)
      obtain rfl := e_20
      refine lv_if_eq (tgt := 30) F.1 F.2.1 dX6_kindTold_23 (by decide) (fun c_23 => ?_) (fun c_23 => ?_)
      · have c_23 : ¬ (isW y n p k) := b01f rfl c_23
        refine lv_iload_n F.1 F.2.1 dX6_kindTold_30 rfl (lv_at hl 1 rfl) ?_
        refine lv_istore_n (lv' := [(1, .int (ktF y n p k)), (2, .int (nI k)), (0, .ref (a 0))]) F.1 F.2.1 dX6_kindTold_31 rfl hl (by decide) rfl (fun ls hl => ?_)
        refine lv_iinc (v := nI (k + 1)) (lv' := [(2, .int (nI (k + 1))), (1, .int (ktF y n p k)), (0, .ref (a 0))]) F.1 F.2.1 dX6_kindTold_32 hl (k := 1) rfl (by rw [show Int32.ofInt 1 = nI 1 from rfl, nI_add]) (by decide) rfl (fun ls hl => ?_)
        refine lv_goto (tgt := 4) F.1 F.2.1 dX6_kindTold_35 (by decide) ?_
        have eb : ktF y n p (k + 1) = ktF y n p k := if_neg c_23
        exact ih_4 _ _ _ ⟨hP, hD, hS, lv_sub hl [0, 1, 2] (by rw [eb]; rfl)⟩
      · have c_23 : isW y n p k := b01t rfl c_23
        refine lv_iload_n F.1 F.2.1 dX6_kindTold_26 rfl (lv_at hl 0 rfl) ?_
        refine lv_goto (tgt := 31) F.1 F.2.1 dX6_kindTold_27 (by decide) ?_
        refine lv_istore_n (lv' := [(1, .int (nI k)), (2, .int (nI k)), (0, .ref (a 0))]) F.1 F.2.1 dX6_kindTold_31 rfl hl (by decide) rfl (fun ls hl => ?_)
        refine lv_iinc (v := nI (k + 1)) (lv' := [(2, .int (nI (k + 1))), (1, .int (nI k)), (0, .ref (a 0))]) F.1 F.2.1 dX6_kindTold_32 hl (k := 1) rfl (by rw [show Int32.ofInt 1 = nI 1 from rfl, nI_add]) (by decide) rfl (fun ls hl => ?_)
        refine lv_goto (tgt := 4) F.1 F.2.1 dX6_kindTold_35 (by decide) ?_
        have eb : ktF y n p (k + 1) = nI k := if_pos c_23
        exact ih_4 _ _ _ ⟨hP, hD, hS, lv_sub hl [0, 1, 2] (by rw [eb]; rfl)⟩
