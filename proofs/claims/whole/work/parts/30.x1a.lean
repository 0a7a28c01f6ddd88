def rmX1_priceOf : Room := { frames := 0, cells := 0, slots := 0, locals := 0 }
theorem nmX1_priceOf : NmV yX1_priceOf RX1 3 := by unfold NmV; decide +kernel
theorem hiX1_priceOf_1 : ∀ w ∈ u_ws RX1 TX1 10, w ∈ wsX1_priceOf := by decide +kernel
set_option maxHeartbeats 4000000 in
set_option maxRecDepth 100000 in
theorem kX1_priceOf (l : Launch) (dC : Nat → ClassId) (dI : Nat → Nat → Nat) (ct : Nat → ClassId) (a : Nat → Nat) (f : Nat → Int32) (s t : Nat) (n : Int32) (hs : s < 2) (ht : t < 5) (hn0 : 0 ≤ n) : MI (S := Unit) l yX1_priceOf wsX1_priceOf rmX1_priceOf dC dI ct eT [.ref (a 0), .int (nI s), .int (nI t), .int n] (wB ct a f) (fun _ => wB ct a f) (fun r _ => r = pF f s t n) := by
  refine MI.of (cc := cX1_priceOf) (maxL := 5) (ret := (some .int)) (by decide) rfl (Nat.le_of_ble_eq_true rfl) ?_
  intro pg en z mi below meth cd A F hr hlk hin hK hP hD hA hS hE ls hl
  have F : CallFix pg mi cd cX1_priceOf 5 z _ wsX1_priceOf RX1 := F
  have hl : lv_has ls 5 [(0, .ref (a 0)), (1, .int (nI s)), (2, .int (nI t)), (3, .int n)] := hl
  refine lv_iload_n F.1 F.2.1 dX1_priceOf_0 rfl (lv_at hl 3 rfl) ?_
  refine lv_if_gt (tgt := 6) F.1 F.2.1 dX1_priceOf_1 (by decide) (fun c_1 => ?_) (fun c_1 => ?_)
  · refine lv_aload_n F.1 F.2.1 dX1_priceOf_6 rfl (lv_at hl 0 rfl) ?_
    refine gf F hK hP 0 rfl rfl hiX1_priceOf_1 3 (by decide) (List.mem_of_getElem? (i := 1) rfl) rfl dX1_priceOf_7 ?_
    refine lv_iload_n F.1 F.2.1 dX1_priceOf_10 rfl (lv_at hl 1 rfl) ?_
    refine lv_iconst (v := 5) F.1 F.2.1 dX1_priceOf_11 (by decide) ?_
    refine lv_imul F.1 F.2.1 dX1_priceOf_12 ?_
    refine tp (y := nI (s * 5)) (ml2 (a := s) (b := 5) (c := s * 5) rfl rfl rfl) ?_
    refine lv_iload_n F.1 F.2.1 dX1_priceOf_13 rfl (lv_at hl 2 rfl) ?_
    refine lv_iadd F.1 F.2.1 dX1_priceOf_14 ?_
    refine tp (y := nI (s * 5 + t)) (ad2 (a := s * 5) (b := t) (c := s * 5 + t) rfl rfl rfl) ?_
    refine al (v := f (32 + 17 * s + t)) F hK hP 4 0 rfl rfl (s * 5 + t) rfl (by omega) (by decide) (congrArg f (ix5 (by omega))) dX1_priceOf_15 ?_
    refine lv_istore (lv' := [(4, .int (f (32 + 17 * s + t))), (0, .ref (a 0)), (1, .int (nI s)), (2, .int (nI t)), (3, .int n)]) F.1 F.2.1 dX1_priceOf_16 hl (by decide) rfl (fun ls hl => ?_)
    refine lv_aload_n F.1 F.2.1 dX1_priceOf_18 rfl (lv_at hl 1 rfl) ?_
    refine gf F hK hP 0 rfl rfl hiX1_priceOf_1 0 (by decide) (List.mem_of_getElem? (i := 2) rfl) rfl dX1_priceOf_19 ?_
    refine lv_iload_n F.1 F.2.1 dX1_priceOf_22 rfl (lv_at hl 3 rfl) ?_
    refine al (v := f (15 + t)) F hK hP 1 0 rfl rfl t rfl (by omega) (by decide) rfl dX1_priceOf_23 ?_
    by_cases k24_2 : f (15 + t) = 2
    · refine tp k24_2 ?_
      refine lv_tableIn (x := 2) (tgt := 60) F.1 F.2.1 dX1_priceOf_24 (by decide) (by decide) rfl (by decide) ?_
      refine lv_iload F.1 F.2.1 dX1_priceOf_60 (lv_at hl 0 rfl) ?_
      refine lv_aload_n F.1 F.2.1 dX1_priceOf_62 rfl (lv_at hl 1 rfl) ?_
      refine gf F hK hP 0 rfl rfl hiX1_priceOf_1 6 (by decide) (List.mem_of_getElem? (i := 3) rfl) rfl dX1_priceOf_63 ?_
      refine lv_iadd F.1 F.2.1 dX1_priceOf_66 ?_
      refine lv_iload_n F.1 F.2.1 dX1_priceOf_67 rfl (lv_at hl 4 rfl) ?_
      refine lv_imul F.1 F.2.1 dX1_priceOf_68 ?_
      exact rtI () F hr hlk hP hS rfl (px_2 k24_2) dX1_priceOf_69
    by_cases k24_3 : f (15 + t) = 3
    · refine tp k24_3 ?_
      refine lv_tableIn (x := 3) (tgt := 111) F.1 F.2.1 dX1_priceOf_24 (by decide) (by decide) rfl (by decide) ?_
      refine lv_iload F.1 F.2.1 dX1_priceOf_111 (lv_at hl 0 rfl) ?_
      refine lv_iload_n F.1 F.2.1 dX1_priceOf_113 rfl (lv_at hl 4 rfl) ?_
      refine lv_imul F.1 F.2.1 dX1_priceOf_114 ?_
      exact rtI () F hr hlk hP hS rfl (px_1 (by rw [k24_3]; decide)) dX1_priceOf_115
    by_cases k24_4 : f (15 + t) = 4
    · refine tp k24_4 ?_
      refine lv_tableIn (x := 4) (tgt := 70) F.1 F.2.1 dX1_priceOf_24 (by decide) (by decide) rfl (by decide) ?_
      refine lv_iload F.1 F.2.1 dX1_priceOf_70 (lv_at hl 0 rfl) ?_
      refine lv_aload_n F.1 F.2.1 dX1_priceOf_72 rfl (lv_at hl 1 rfl) ?_
      refine gf F hK hP 0 rfl rfl hiX1_priceOf_1 6 (by decide) (List.mem_of_getElem? (i := 3) rfl) rfl dX1_priceOf_73 ?_
      refine lv_iadd F.1 F.2.1 dX1_priceOf_76 ?_
      refine lv_aload_n F.1 F.2.1 dX1_priceOf_77 rfl (lv_at hl 1 rfl) ?_
      refine gf F hK hP 0 rfl rfl hiX1_priceOf_1 6 (by decide) (List.mem_of_getElem? (i := 3) rfl) rfl dX1_priceOf_78 ?_
      refine lv_iadd F.1 F.2.1 dX1_priceOf_81 ?_
      refine lv_iload_n F.1 F.2.1 dX1_priceOf_82 rfl (lv_at hl 4 rfl) ?_
      refine lv_imul F.1 F.2.1 dX1_priceOf_83 ?_
      exact rtI () F hr hlk hP hS rfl (px_4 k24_4) dX1_priceOf_84
    by_cases k24_5 : f (15 + t) = 5
    · refine tp k24_5 ?_
      refine lv_tableIn (x := 5) (tgt := 85) F.1 F.2.1 dX1_priceOf_24 (by decide) (by decide) rfl (by decide) ?_
      refine lv_iload F.1 F.2.1 dX1_priceOf_85 (lv_at hl 0 rfl) ?_
      refine lv_iload_n F.1 F.2.1 dX1_priceOf_87 rfl (lv_at hl 4 rfl) ?_
      refine lv_iconst (v := 1) F.1 F.2.1 dX1_priceOf_88 (by decide) ?_
      refine lv_isub F.1 F.2.1 dX1_priceOf_89 ?_
      refine lv_iload F.1 F.2.1 dX1_priceOf_90 (lv_at hl 0 rfl) ?_
      refine lv_iconst (v := 2) F.1 F.2.1 dX1_priceOf_92 (by decide) ?_
      refine lv_idiv F.1 F.2.1 dX1_priceOf_93 (by decide) ?_
      refine lv_imul F.1 F.2.1 dX1_priceOf_94 ?_
      refine lv_iadd F.1 F.2.1 dX1_priceOf_95 ?_
      exact rtI () F hr hlk hP hS rfl (px_5 c_1 k24_5) dX1_priceOf_96
    by_cases k24_6 : f (15 + t) = 6
    · refine tp k24_6 ?_
      refine lv_tableIn (x := 6) (tgt := 97) F.1 F.2.1 dX1_priceOf_24 (by decide) (by decide) rfl (by decide) ?_
      refine lv_iload F.1 F.2.1 dX1_priceOf_97 (lv_at hl 0 rfl) ?_
      refine lv_iload_n F.1 F.2.1 dX1_priceOf_99 rfl (lv_at hl 4 rfl) ?_
      refine lv_iconst (v := 1) F.1 F.2.1 dX1_priceOf_100 (by decide) ?_
      refine lv_isub F.1 F.2.1 dX1_priceOf_101 ?_
      refine lv_iload F.1 F.2.1 dX1_priceOf_102 (lv_at hl 0 rfl) ?_
      refine lv_iconst (v := 2) F.1 F.2.1 dX1_priceOf_104 (by decide) ?_
      refine lv_idiv F.1 F.2.1 dX1_priceOf_105 (by decide) ?_
      refine lv_imul F.1 F.2.1 dX1_priceOf_106 ?_
      refine lv_iadd F.1 F.2.1 dX1_priceOf_107 ?_
      refine lv_iconst (v := 3) F.1 F.2.1 dX1_priceOf_108 (by decide) ?_
      refine lv_iadd F.1 F.2.1 dX1_priceOf_109 ?_
      exact rtI () F hr hlk hP hS rfl (px_6 c_1 k24_6) dX1_priceOf_110
    refine lv_tableOut (tgt := 111) F.1 F.2.1 dX1_priceOf_24 (ts_out (fun i h1 h2 => by rcases (show i = 2 ∨ i = 3 ∨ i = 4 ∨ i = 5 ∨ i = 6 by omega) with rfl | rfl | rfl | rfl | rfl <;> assumption)) (by decide) ?_
    refine lv_iload F.1 F.2.1 dX1_priceOf_111 (lv_at hl 0 rfl) ?_
    refine lv_iload_n F.1 F.2.1 dX1_priceOf_113 rfl (lv_at hl 4 rfl) ?_
    refine lv_imul F.1 F.2.1 dX1_priceOf_114 ?_
    exact rtI () F hr hlk hP hS rfl (px_1 ⟨k24_2, k24_4, k24_5, k24_6⟩) dX1_priceOf_115
  · refine lv_iconst (v := 0) F.1 F.2.1 dX1_priceOf_4 (by decide) ?_
    exact rtI () F hr hlk hP hS rfl (px_0 hn0 c_1) dX1_priceOf_5

def rmX1_eatenOf : Room := { frames := 1, cells := 0, slots := 0, locals := 21 }
theorem nmX1_eatenOf : NmV yX1_eatenOf RX1 2 := by unfold NmV; decide +kernel
theorem hiX1_eatenOf_1 : ∀ w ∈ u_ws RX1 TX1 10, w ∈ wsX1_eatenOf := by decide +kernel
set_option maxHeartbeats 4000000 in
set_option maxRecDepth 100000 in
theorem kX1_eatenOf (l : Launch) (dC : Nat → ClassId) (dI : Nat → Nat → Nat) (ct : Nat → ClassId) (a : Nat → Nat) (f : Nat → Int32) (t : Nat) (n : Int32) (ht : t < 5) : MI (S := Unit) l yX1_eatenOf wsX1_eatenOf rmX1_eatenOf dC dI ct eT [.ref (a 0), .int (nI t), .int n] (wB ct a f) (fun _ => wB ct a f) (fun r _ => r = eat (f (15 + t)) (f 1) n) := by
  refine MI.of (cc := cX1_eatenOf) (maxL := 3) (ret := (some .int)) (by decide) rfl (Nat.le_of_ble_eq_true rfl) ?_
  intro pg en z mi below meth cd A F hr hlk hin hK hP hD hA hS hE ls hl
  have F : CallFix pg mi cd cX1_eatenOf 3 z _ wsX1_eatenOf RX1 := F
  have hl : lv_has ls 3 [(0, .ref (a 0)), (1, .int (nI t)), (2, .int n)] := hl
  refine lv_aload_n F.1 F.2.1 dX1_eatenOf_0 rfl (lv_at hl 0 rfl) ?_
  refine gf F hK hP 0 rfl rfl hiX1_eatenOf_1 0 (by decide) (List.mem_of_getElem? (i := 1) rfl) rfl dX1_eatenOf_1 ?_
  refine lv_iload_n F.1 F.2.1 dX1_eatenOf_4 rfl (lv_at hl 1 rfl) ?_
  refine al (v := f (15 + t)) F hK hP 1 0 rfl rfl t rfl (by omega) (by decide) rfl dX1_eatenOf_5 ?_
  by_cases k6_1 : f (15 + t) = 1
  · refine tp k6_1 ?_
    refine lv_lookup (x := 1) (tgt := 32) F.1 F.2.1 dX1_eatenOf_6 (by decide) rfl (by decide) ?_
    refine lv_iload_n F.1 F.2.1 dX1_eatenOf_32 rfl (lv_at hl 2 rfl) ?_
    refine lv_iconst (v := 1) F.1 F.2.1 dX1_eatenOf_33 (by decide) ?_
    refine va_mmin F.1 F.2.1 (F.2.2.1.trans hl.1.symm) F.2.2.2.1 (F.2.2.2.2 _ (List.mem_of_getElem? (i := 2) rfl)) (F.2.2.2.2 _ (List.mem_of_getElem? (i := 3) rfl)) (F.2.2.2.2 _ (List.mem_of_getElem? (i := 4) rfl)) (F.2.2.2.2 _ (List.mem_of_getElem? (i := 5) rfl)) (Nat.le_of_ble_eq_true rfl) (Nat.le_of_ble_eq_true rfl) (Nat.zero_le _) (Nat.zero_le _) dX1_eatenOf_34 ?_
    refine tp (y := mn n 1) rfl ?_
    exact rtI () F hr hlk hP hS rfl (by simp [eat, k6_1]) dX1_eatenOf_37
  by_cases k6_3 : f (15 + t) = 3
  · refine tp k6_3 ?_
    refine lv_lookup (x := 3) (tgt := 38) F.1 F.2.1 dX1_eatenOf_6 (by decide) rfl (by decide) ?_
    refine lv_aload_n F.1 F.2.1 dX1_eatenOf_38 rfl (lv_at hl 0 rfl) ?_
    refine gf F hK hP 0 rfl rfl hiX1_eatenOf_1 6 (by decide) (List.mem_of_getElem? (i := 6) rfl) rfl dX1_eatenOf_39 ?_
    refine lv_iconst (v := 4) F.1 F.2.1 dX1_eatenOf_42 (by decide) ?_
    refine lv_icmp_le (tgt := 50) F.1 F.2.1 dX1_eatenOf_43 (by decide) (fun c_43 => ?_) (fun c_43 => ?_)
    · refine lv_iload_n F.1 F.2.1 dX1_eatenOf_50 rfl (lv_at hl 2 rfl) ?_
      refine lv_iconst (v := 2) F.1 F.2.1 dX1_eatenOf_51 (by decide) ?_
      refine va_mmin F.1 F.2.1 (F.2.2.1.trans hl.1.symm) F.2.2.2.1 (F.2.2.2.2 _ (List.mem_of_getElem? (i := 2) rfl)) (F.2.2.2.2 _ (List.mem_of_getElem? (i := 3) rfl)) (F.2.2.2.2 _ (List.mem_of_getElem? (i := 4) rfl)) (F.2.2.2.2 _ (List.mem_of_getElem? (i := 5) rfl)) (Nat.le_of_ble_eq_true rfl) (Nat.le_of_ble_eq_true rfl) (Nat.zero_le _) (Nat.zero_le _) dX1_eatenOf_52 ?_
      refine tp (y := mn n 2) rfl ?_
      exact rtI () F hr hlk hP hS rfl (by simp [eat, k6_1, k6_3, c_43, Int32.not_lt.mpr c_43]) dX1_eatenOf_55
    · refine lv_iconst (v := 0) F.1 F.2.1 dX1_eatenOf_46 (by decide) ?_
      refine lv_goto (tgt := 55) F.1 F.2.1 dX1_eatenOf_47 (by decide) ?_
      exact rtI () F hr hlk hP hS rfl (by simp [eat, k6_1, k6_3, c_43, Int32.not_le.mp c_43]) dX1_eatenOf_55
  refine lv_lookup (tgt := 56) (off := 50) F.1 F.2.1 dX1_eatenOf_6 (by decide) (by show (if (1 : Int) = Int32.toInt (f (15 + t)) then (26 : Int) else if (3 : Int) = Int32.toInt (f (15 + t)) then (32 : Int) else (50 : Int)) = _; rw [if_neg (ti_ne k6_1), if_neg (ti_ne k6_3)]) (by decide) ?_
  refine lv_iconst (v := 0) F.1 F.2.1 dX1_eatenOf_56 (by decide) ?_
  exact rtI () F hr hlk hP hS rfl (by simp [eat, k6_1, k6_3]) dX1_eatenOf_57

def rmX1_heapValue : Room := { frames := 1, cells := 0, slots := 0, locals := 24 }
theorem nmX1_heapValue : NmV yX1_heapValue RX1 2 := by unfold NmV; decide +kernel
theorem hiX1_heapValue_1 : ∀ w ∈ u_ws RX1 TX1 10, w ∈ wsX1_heapValue := by decide +kernel
set_option maxHeartbeats 4000000 in
set_option maxRecDepth 100000 in
theorem kX1_heapValue (l : Launch) (dC : Nat → ClassId) (dI : Nat → Nat → Nat) (ct : Nat → ClassId) (a : Nat → Nat) (f : Nat → Int32) (s h : Nat) (hs : s < 2) (hh : h < 2) (hRg : Rg f) : MI (S := Unit) l yX1_heapValue wsX1_heapValue rmX1_heapValue dC dI ct eT [.ref (a 0), .int (nI s), .int (nI h)] (wB ct a f) (fun _ => wB ct a f) (fun r _ => r = valU f s h 5) := by
  refine MI.of (cc := cX1_heapValue) (maxL := 5) (ret := (some .int)) (by decide) rfl (Nat.le_of_ble_eq_true rfl) ?_
  intro pg en z mi below meth cd A F hr hlk hin hK hP hD hA hS hE ls hl
  have F : CallFix pg mi cd cX1_heapValue 5 z _ wsX1_heapValue RX1 := F
  have hl : lv_has ls 5 [(0, .ref (a 0)), (1, .int (nI s)), (2, .int (nI h))] := hl
  refine lv_iconst (v := 0) F.1 F.2.1 dX1_heapValue_0 (by decide) ?_
  refine lv_istore_n (lv' := [(3, .int 0), (0, .ref (a 0)), (1, .int (nI s)), (2, .int (nI h))]) F.1 F.2.1 dX1_heapValue_1 rfl hl (by decide) rfl (fun ls hl => ?_)
  refine lv_iconst (v := 0) F.1 F.2.1 dX1_heapValue_2 (by decide) ?_
  refine lv_istore (lv' := [(4, .int 0), (3, .int 0), (0, .ref (a 0)), (1, .int (nI s)), (2, .int (nI h))]) F.1 F.2.1 dX1_heapValue_3 hl (by decide) rfl (fun ls hl => ?_)
  refine loopN (I := fun k H locs ls => va_P (dC, dI) vwCl (wB ct a f) H ∧ va_D A (wB ct a f) ∧ va_S A z.heap H locs ∧ lv_has ls 5 [(4, .int (nI k)), (3, .int (valU f s h k)), (0, .ref (a 0)), (1, .int (nI s)), (2, .int (nI h))]) 5 0 (by omega) ⟨hP, hD, hS, lv_sub hl [0, 1, 2, 3, 4] rfl⟩ (fun H locs ls hI => ?_) (fun k hk_k H locs ls hI ih_5 => ?_)
  · obtain ⟨hP, hD, hS, hl⟩ := hI
    refine lv_iload F.1 F.2.1 dX1_heapValue_5 (lv_at hl 0 rfl) ?_
    refine lv_iconst (v := 5) F.1 F.2.1 dX1_heapValue_7 (by decide) ?_
    refine lv_icmp_ge (tgt := 38) F.1 F.2.1 dX1_heapValue_8 (by decide) (fun c_8 => ?_) (fun c_8 => ?_)
    · refine lv_iload_n F.1 F.2.1 dX1_heapValue_38 rfl (lv_at hl 1 rfl) ?_
      exact rtI () F hr hlk hP hS rfl (by simp [c_8, Int32.not_lt.mpr c_8]) dX1_heapValue_39
    · exact absurd (nI_le (Nat.le_refl _) (by decide)) c_8
  · obtain ⟨hP, hD, hS, hl⟩ := hI
    refine lv_iload F.1 F.2.1 dX1_heapValue_5 (lv_at hl 0 rfl) ?_
    refine lv_iconst (v := 5) F.1 F.2.1 dX1_heapValue_7 (by decide) ?_
    refine lv_icmp_ge (tgt := 38) F.1 F.2.1 dX1_heapValue_8 (by decide) (fun c_8 => ?_) (fun c_8 => ?_)
    · exact absurd c_8 (nI_ge hk_k (by decide))
    · refine lv_iload_n F.1 F.2.1 dX1_heapValue_11 rfl (lv_at hl 1 rfl) ?_
      refine lv_aload_n F.1 F.2.1 dX1_heapValue_12 rfl (lv_at hl 2 rfl) ?_
      refine lv_iload_n F.1 F.2.1 dX1_heapValue_13 rfl (lv_at hl 3 rfl) ?_
      refine lv_iload F.1 F.2.1 dX1_heapValue_14 (lv_at hl 0 rfl) ?_
      refine lv_aload_n F.1 F.2.1 dX1_heapValue_16 rfl (lv_at hl 2 rfl) ?_
      refine gf F hK hP 0 rfl rfl hiX1_heapValue_1 2 (by decide) (List.mem_of_getElem? (i := 1) rfl) rfl dX1_heapValue_17 ?_
      refine lv_iload_n F.1 F.2.1 dX1_heapValue_20 rfl (lv_at hl 4 rfl) ?_
      refine lv_iconst (v := 5) F.1 F.2.1 dX1_heapValue_21 (by decide) ?_
      refine lv_imul F.1 F.2.1 dX1_heapValue_22 ?_
      refine tp (y := nI (h * 5)) (ml2 (a := h) (b := 5) (c := h * 5) rfl rfl rfl) ?_
      refine lv_iload F.1 F.2.1 dX1_heapValue_23 (lv_at hl 0 rfl) ?_
      refine lv_iadd F.1 F.2.1 dX1_heapValue_25 ?_
      refine tp (y := nI (h * 5 + k)) (ad2 (a := h * 5) (b := k) (c := h * 5 + k) rfl rfl rfl) ?_
      refine al (v := f (27 + 17 * h + k)) F hK hP 3 0 rfl rfl (h * 5 + k) rfl (by omega) (by decide) (congrArg f (ix5 (by omega))) dX1_heapValue_26 ?_
      refine iV (rest := [.int (valU f s h k)]) (wsp := fun _ => wB ct a f) F (kX1_priceOf l dC dI ct a f s k (f (27 + 17 * h + k)) (by omega) (by omega) (heap_pos hRg hh hk_k)) gX1_heapValue_X1_priceOf rfl ⟨rfl, rfl⟩ nmX1_priceOf ⟨Nat.le_of_ble_eq_true rfl, Nat.le_of_ble_eq_true rfl⟩ eT_b (fun _ _ _ => trivial) hK hP hD hS hA 0 rfl rfl rfl [0, 1, 2, 3, 4, 5, 6] (by decide) rfl rfl rfl hl.1 (Nat.le_of_ble_eq_true rfl) dX1_heapValue_27 ⟨Nat.zero_le _, Nat.zero_le _⟩ (fun _ => rfl) (fun _ => rfl) [a 0, a 1, a 2, a 3, a 4, a 5, a 6] rfl (fun _ => rfl) (fun r_27 u_27 H locs e_27 hP hD hS => ?_)
      obtain rfl := e_27
      refine lv_iadd F.1 F.2.1 dX1_heapValue_30 ?_
      refine lv_istore_n (lv' := [(3, .int ((valU f s h k) + (pF f s k (f (27 + 17 * h + k))))), (4, .int (nI k)), (0, .ref (a 0)), (1, .int (nI s)), (2, .int (nI h))]) F.1 F.2.1 dX1_heapValue_31 rfl hl (by decide) rfl (fun ls hl => ?_)
      refine lv_iinc (v := nI (k + 1)) (lv' := [(4, .int (nI (k + 1))), (3, .int ((valU f s h k) + (pF f s k (f (27 + 17 * h + k))))), (0, .ref (a 0)), (1, .int (nI s)), (2, .int (nI h))]) F.1 F.2.1 dX1_heapValue_32 hl (k := 1) rfl (by rw [show Int32.ofInt 1 = nI 1 from rfl, nI_add]) (by decide) rfl (fun ls hl => ?_)
      refine lv_goto (tgt := 5) F.1 F.2.1 dX1_heapValue_35 (by decide) ?_
      exact ih_5 _ _ _ ⟨hP, hD, hS, lv_sub hl [0, 1, 2, 3, 4] rfl⟩

def rmX1_wealth : Room := { frames := 1, cells := 0, slots := 0, locals := 24 }
theorem nmX1_wealth : NmV yX1_wealth RX1 1 := by unfold NmV; decide +kernel
theorem hiX1_wealth_1 : ∀ w ∈ u_ws RX1 TX1 10, w ∈ wsX1_wealth := by decide +kernel
set_option maxHeartbeats 4000000 in
set_option maxRecDepth 100000 in
theorem kX1_wealth (l : Launch) (dC : Nat → ClassId) (dI : Nat → Nat → Nat) (ct : Nat → ClassId) (a : Nat → Nat) (f : Nat → Int32) (s : Nat) (hs : s < 2) (hRg : Rg f) : MI (S := Unit) l yX1_wealth wsX1_wealth rmX1_wealth dC dI ct eT [.ref (a 0), .int (nI s)] (wB ct a f) (fun _ => wB ct a f) (fun r _ => r = allU f s 5) := by
  refine MI.of (cc := cX1_wealth) (maxL := 5) (ret := (some .int)) (by decide) rfl (Nat.le_of_ble_eq_true rfl) ?_
  intro pg en z mi below meth cd A F hr hlk hin hK hP hD hA hS hE ls hl
  have F : CallFix pg mi cd cX1_wealth 5 z _ wsX1_wealth RX1 := F
  have hl : lv_has ls 5 [(0, .ref (a 0)), (1, .int (nI s))] := hl
  refine lv_iconst (v := 0) F.1 F.2.1 dX1_wealth_0 (by decide) ?_
  refine lv_istore_n (lv' := [(2, .int 0), (0, .ref (a 0)), (1, .int (nI s))]) F.1 F.2.1 dX1_wealth_1 rfl hl (by decide) rfl (fun ls hl => ?_)
  refine lv_iconst (v := 0) F.1 F.2.1 dX1_wealth_2 (by decide) ?_
  refine lv_istore_n (lv' := [(3, .int 0), (2, .int 0), (0, .ref (a 0)), (1, .int (nI s))]) F.1 F.2.1 dX1_wealth_3 rfl hl (by decide) rfl (fun ls hl => ?_)
  refine loopN (I := fun k H locs ls => va_P (dC, dI) vwCl (wB ct a f) H ∧ va_D A (wB ct a f) ∧ va_S A z.heap H locs ∧ lv_has ls 5 [(3, .int (nI k)), (2, .int (allU f s k)), (0, .ref (a 0)), (1, .int (nI s))]) 5 0 (by omega) ⟨hP, hD, hS, lv_sub hl [0, 1, 2, 3] rfl⟩ (fun H locs ls hI => ?_) (fun k hk_k H locs ls hI ih_4 => ?_)
  · obtain ⟨hP, hD, hS, hl⟩ := hI
    refine lv_iload_n F.1 F.2.1 dX1_wealth_4 rfl (lv_at hl 0 rfl) ?_
    refine lv_iconst (v := 5) F.1 F.2.1 dX1_wealth_5 (by decide) ?_
    refine lv_icmp_ge (tgt := 46) F.1 F.2.1 dX1_wealth_6 (by decide) (fun c_6 => ?_) (fun c_6 => ?_)
    · refine lv_iload_n F.1 F.2.1 dX1_wealth_46 rfl (lv_at hl 1 rfl) ?_
      exact rtI () F hr hlk hP hS rfl (by simp [c_6, Int32.not_lt.mpr c_6]) dX1_wealth_47
    · exact absurd (nI_le (Nat.le_refl _) (by decide)) c_6
  · obtain ⟨hP, hD, hS, hl⟩ := hI
    refine lv_iload_n F.1 F.2.1 dX1_wealth_4 rfl (lv_at hl 0 rfl) ?_
    refine lv_iconst (v := 5) F.1 F.2.1 dX1_wealth_5 (by decide) ?_
    refine lv_icmp_ge (tgt := 46) F.1 F.2.1 dX1_wealth_6 (by decide) (fun c_6 => ?_) (fun c_6 => ?_)
    · exact absurd c_6 (nI_ge hk_k (by decide))
    · refine lv_iload_n F.1 F.2.1 dX1_wealth_9 rfl (lv_at hl 3 rfl) ?_
      refine lv_iconst (v := 5) F.1 F.2.1 dX1_wealth_10 (by decide) ?_
      refine lv_imul F.1 F.2.1 dX1_wealth_11 ?_
      refine tp (y := nI (s * 5)) (ml2 (a := s) (b := 5) (c := s * 5) rfl rfl rfl) ?_
      refine lv_iload_n F.1 F.2.1 dX1_wealth_12 rfl (lv_at hl 0 rfl) ?_
      refine lv_iadd F.1 F.2.1 dX1_wealth_13 ?_
      refine tp (y := nI (s * 5 + k)) (ad2 (a := s * 5) (b := k) (c := s * 5 + k) rfl rfl rfl) ?_
      refine lv_istore (lv' := [(4, .int (nI (s * 5 + k))), (3, .int (nI k)), (2, .int (allU f s k)), (0, .ref (a 0)), (1, .int (nI s))]) F.1 F.2.1 dX1_wealth_14 hl (by decide) rfl (fun ls hl => ?_)
      refine lv_iload_n F.1 F.2.1 dX1_wealth_16 rfl (lv_at hl 2 rfl) ?_
      refine lv_aload_n F.1 F.2.1 dX1_wealth_17 rfl (lv_at hl 3 rfl) ?_
      refine lv_iload_n F.1 F.2.1 dX1_wealth_18 rfl (lv_at hl 4 rfl) ?_
      refine lv_iload_n F.1 F.2.1 dX1_wealth_19 rfl (lv_at hl 1 rfl) ?_
      refine lv_aload_n F.1 F.2.1 dX1_wealth_20 rfl (lv_at hl 3 rfl) ?_
      refine gf F hK hP 0 rfl rfl hiX1_wealth_1 1 (by decide) (List.mem_of_getElem? (i := 1) rfl) rfl dX1_wealth_21 ?_
      refine lv_iload F.1 F.2.1 dX1_wealth_24 (lv_at hl 0 rfl) ?_
      refine al (v := f (22 + 17 * s + k)) F hK hP 2 0 rfl rfl (s * 5 + k) rfl (by omega) (by decide) (congrArg f (ix5 (by omega))) dX1_wealth_26 ?_
      refine lv_aload_n F.1 F.2.1 dX1_wealth_27 rfl (lv_at hl 3 rfl) ?_
      refine gf F hK hP 0 rfl rfl hiX1_wealth_1 2 (by decide) (List.mem_of_getElem? (i := 2) rfl) rfl dX1_wealth_28 ?_
      refine lv_iload F.1 F.2.1 dX1_wealth_31 (lv_at hl 0 rfl) ?_
      refine al (v := f (27 + 17 * s + k)) F hK hP 3 0 rfl rfl (s * 5 + k) rfl (by omega) (by decide) (congrArg f (ix5 (by omega))) dX1_wealth_33 ?_
      refine lv_iadd F.1 F.2.1 dX1_wealth_34 ?_
      refine iV (rest := [.int (allU f s k)]) (wsp := fun _ => wB ct a f) F (kX1_priceOf l dC dI ct a f s k ((f (22 + 17 * s + k)) + (f (27 + 17 * s + k))) (by omega) (by omega) (both_pos hRg hs hk_k)) gX1_wealth_X1_priceOf rfl ⟨rfl, rfl⟩ nmX1_priceOf ⟨Nat.le_of_ble_eq_true rfl, Nat.le_of_ble_eq_true rfl⟩ eT_b (fun _ _ _ => trivial) hK hP hD hS hA 0 rfl rfl rfl [0, 1, 2, 3, 4, 5, 6] (by decide) rfl rfl rfl hl.1 (Nat.le_of_ble_eq_true rfl) dX1_wealth_35 ⟨Nat.zero_le _, Nat.zero_le _⟩ (fun _ => rfl) (fun _ => rfl) [a 0, a 1, a 2, a 3, a 4, a 5, a 6] rfl (fun _ => rfl) (fun r_35 u_35 H locs e_35 hP hD hS => ?_)
      obtain rfl := e_35
      refine lv_iadd F.1 F.2.1 dX1_wealth_38 ?_
      refine lv_istore_n (lv' := [(2, .int ((allU f s k) + (pF f s k ((f (22 + 17 * s + k)) + (f (27 + 17 * s + k)))))), (4, .int (nI (s * 5 + k))), (3, .int (nI k)), (0, .ref (a 0)), (1, .int (nI s))]) F.1 F.2.1 dX1_wealth_39 rfl hl (by decide) rfl (fun ls hl => ?_)
      refine lv_iinc (v := nI (k + 1)) (lv' := [(3, .int (nI (k + 1))), (2, .int ((allU f s k) + (pF f s k ((f (22 + 17 * s + k)) + (f (27 + 17 * s + k)))))), (4, .int (nI (s * 5 + k))), (0, .ref (a 0)), (1, .int (nI s))]) F.1 F.2.1 dX1_wealth_40 hl (k := 2) rfl (by rw [show Int32.ofInt 1 = nI 1 from rfl, nI_add]) (by decide) rfl (fun ls hl => ?_)
      refine lv_goto (tgt := 4) F.1 F.2.1 dX1_wealth_43 (by decide) ?_
      exact ih_4 _ _ _ ⟨hP, hD, hS, lv_sub hl [0, 1, 3, 4] rfl⟩

def rmX1_heapCount : Room := { frames := 0, cells := 0, slots := 0, locals := 0 }
theorem nmX1_heapCount : NmV yX1_heapCount RX1 1 := by unfold NmV; decide +kernel
theorem hiX1_heapCount_1 : ∀ w ∈ u_ws RX1 TX1 10, w ∈ wsX1_heapCount := by decide +kernel
set_option maxHeartbeats 4000000 in
set_option maxRecDepth 100000 in
theorem kX1_heapCount (l : Launch) (dC : Nat → ClassId) (dI : Nat → Nat → Nat) (ct : Nat → ClassId) (a : Nat → Nat) (f : Nat → Int32) (s : Nat) (hs : s < 2) : MI (S := Unit) l yX1_heapCount wsX1_heapCount rmX1_heapCount dC dI ct eT [.ref (a 0), .int (nI s)] (wB ct a f) (fun _ => wB ct a f) (fun r _ => r = sumU f (27 + 17 * s) 5) := by
  refine MI.of (cc := cX1_heapCount) (maxL := 4) (ret := (some .int)) (by decide) rfl (Nat.le_of_ble_eq_true rfl) ?_
  intro pg en z mi below meth cd A F hr hlk hin hK hP hD hA hS hE ls hl
  have F : CallFix pg mi cd cX1_heapCount 4 z _ wsX1_heapCount RX1 := F
  have hl : lv_has ls 4 [(0, .ref (a 0)), (1, .int (nI s))] := hl
  refine lv_iconst (v := 0) F.1 F.2.1 dX1_heapCount_0 (by decide) ?_
  refine lv_istore_n (lv' := [(2, .int 0), (0, .ref (a 0)), (1, .int (nI s))]) F.1 F.2.1 dX1_heapCount_1 rfl hl (by decide) rfl (fun ls hl => ?_)
  refine lv_iconst (v := 0) F.1 F.2.1 dX1_heapCount_2 (by decide) ?_
  refine lv_istore_n (lv' := [(3, .int 0), (2, .int 0), (0, .ref (a 0)), (1, .int (nI s))]) F.1 F.2.1 dX1_heapCount_3 rfl hl (by decide) rfl (fun ls hl => ?_)
  refine loopN (I := fun k H locs ls => va_P (dC, dI) vwCl (wB ct a f) H ∧ va_D A (wB ct a f) ∧ va_S A z.heap H locs ∧ lv_has ls 4 [(3, .int (nI k)), (2, .int (sumU f (27 + 17 * s) k)), (0, .ref (a 0)), (1, .int (nI s))]) 5 0 (by omega) ⟨hP, hD, hS, lv_sub hl [0, 1, 2, 3] rfl⟩ (fun H locs ls hI => ?_) (fun k hk_k H locs ls hI ih_4 => ?_)
  · obtain ⟨hP, hD, hS, hl⟩ := hI
    refine lv_iload_n F.1 F.2.1 dX1_heapCount_4 rfl (lv_at hl 0 rfl) ?_
    refine lv_iconst (v := 5) F.1 F.2.1 dX1_heapCount_5 (by decide) ?_
    refine lv_icmp_ge (tgt := 28) F.1 F.2.1 dX1_heapCount_6 (by decide) (fun c_6 => ?_) (fun c_6 => ?_)
    · refine lv_iload_n F.1 F.2.1 dX1_heapCount_28 rfl (lv_at hl 1 rfl) ?_
      exact rtI () F hr hlk hP hS rfl (by simp [c_6, Int32.not_lt.mpr c_6]) dX1_heapCount_29
    · exact absurd (nI_le (Nat.le_refl _) (by decide)) c_6
  · obtain ⟨hP, hD, hS, hl⟩ := hI
    refine lv_iload_n F.1 F.2.1 dX1_heapCount_4 rfl (lv_at hl 0 rfl) ?_
    refine lv_iconst (v := 5) F.1 F.2.1 dX1_heapCount_5 (by decide) ?_
    refine lv_icmp_ge (tgt := 28) F.1 F.2.1 dX1_heapCount_6 (by decide) (fun c_6 => ?_) (fun c_6 => ?_)
    · exact absurd c_6 (nI_ge hk_k (by decide))
    · refine lv_iload_n F.1 F.2.1 dX1_heapCount_9 rfl (lv_at hl 1 rfl) ?_
      refine lv_aload_n F.1 F.2.1 dX1_heapCount_10 rfl (lv_at hl 2 rfl) ?_
      refine gf F hK hP 0 rfl rfl hiX1_heapCount_1 2 (by decide) (List.mem_of_getElem? (i := 1) rfl) rfl dX1_heapCount_11 ?_
      refine lv_iload_n F.1 F.2.1 dX1_heapCount_14 rfl (lv_at hl 3 rfl) ?_
      refine lv_iconst (v := 5) F.1 F.2.1 dX1_heapCount_15 (by decide) ?_
      refine lv_imul F.1 F.2.1 dX1_heapCount_16 ?_
      refine tp (y := nI (s * 5)) (ml2 (a := s) (b := 5) (c := s * 5) rfl rfl rfl) ?_
      refine lv_iload_n F.1 F.2.1 dX1_heapCount_17 rfl (lv_at hl 0 rfl) ?_
      refine lv_iadd F.1 F.2.1 dX1_heapCount_18 ?_
      refine tp (y := nI (s * 5 + k)) (ad2 (a := s * 5) (b := k) (c := s * 5 + k) rfl rfl rfl) ?_
      refine al (v := f (27 + 17 * s + k)) F hK hP 3 0 rfl rfl (s * 5 + k) rfl (by omega) (by decide) (congrArg f (ix5 (by omega))) dX1_heapCount_19 ?_
      refine lv_iadd F.1 F.2.1 dX1_heapCount_20 ?_
      refine lv_istore_n (lv' := [(2, .int ((sumU f (27 + 17 * s) k) + (f (27 + 17 * s + k)))), (3, .int (nI k)), (0, .ref (a 0)), (1, .int (nI s))]) F.1 F.2.1 dX1_heapCount_21 rfl hl (by decide) rfl (fun ls hl => ?_)
      refine lv_iinc (v := nI (k + 1)) (lv' := [(3, .int (nI (k + 1))), (2, .int ((sumU f (27 + 17 * s) k) + (f (27 + 17 * s + k)))), (0, .ref (a 0)), (1, .int (nI s))]) F.1 F.2.1 dX1_heapCount_22 hl (k := 1) rfl (by rw [show Int32.ofInt 1 = nI 1 from rfl, nI_add]) (by decide) rfl (fun ls hl => ?_)
      refine lv_goto (tgt := 4) F.1 F.2.1 dX1_heapCount_25 (by decide) ?_
      exact ih_4 _ _ _ ⟨hP, hD, hS, lv_sub hl [0, 1, 2, 3] rfl⟩

def rmX1_homeCount : Room := { frames := 0, cells := 0, slots := 0, locals := 0 }
theorem nmX1_homeCount : NmV yX1_homeCount RX1 0 := by unfold NmV; decide +kernel
theorem hiX1_homeCount_1 : ∀ w ∈ u_ws RX1 TX1 10, w ∈ wsX1_homeCount := by decide +kernel
set_option maxHeartbeats 4000000 in
set_option maxRecDepth 100000 in
theorem kX1_homeCount (l : Launch) (dC : Nat → ClassId) (dI : Nat → Nat → Nat) (ct : Nat → ClassId) (a : Nat → Nat) (f : Nat → Int32) : MI (S := Unit) l yX1_homeCount wsX1_homeCount rmX1_homeCount dC dI ct eT [.ref (a 0)] (wB ct a f) (fun _ => wB ct a f) (fun r _ => r = hcU f 10) := by
  refine MI.of (cc := cX1_homeCount) (maxL := 3) (ret := (some .int)) (by decide) rfl (Nat.le_of_ble_eq_true rfl) ?_
  intro pg en z mi below meth cd A F hr hlk hin hK hP hD hA hS hE ls hl
  have F : CallFix pg mi cd cX1_homeCount 3 z _ wsX1_homeCount RX1 := F
  have hl : lv_has ls 3 [(0, .ref (a 0))] := hl
  refine lv_iconst (v := 0) F.1 F.2.1 dX1_homeCount_0 (by decide) ?_
  refine lv_istore_n (lv' := [(1, .int 0), (0, .ref (a 0))]) F.1 F.2.1 dX1_homeCount_1 rfl hl (by decide) rfl (fun ls hl => ?_)
  refine lv_iconst (v := 0) F.1 F.2.1 dX1_homeCount_2 (by decide) ?_
  refine lv_istore_n (lv' := [(2, .int 0), (1, .int 0), (0, .ref (a 0))]) F.1 F.2.1 dX1_homeCount_3 rfl hl (by decide) rfl (fun ls hl => ?_)
  refine loopN (I := fun k H locs ls => va_P (dC, dI) vwCl (wB ct a f) H ∧ va_D A (wB ct a f) ∧ va_S A z.heap H locs ∧ lv_has ls 3 [(2, .int (nI k)), (1, .int (hcU f k)), (0, .ref (a 0))]) 10 0 (by omega) ⟨hP, hD, hS, lv_sub hl [0, 1, 2] rfl⟩ (fun H locs ls hI => ?_) (fun k hk_k H locs ls hI ih_4 => ?_)
  · obtain ⟨hP, hD, hS, hl⟩ := hI
    refine lv_iload_n F.1 F.2.1 dX1_homeCount_4 rfl (lv_at hl 0 rfl) ?_
    refine lv_bipush (v := 10) F.1 F.2.1 dX1_homeCount_5 (by decide) ?_
    refine lv_icmp_ge (tgt := 25) F.1 F.2.1 dX1_homeCount_7 (by decide) (fun c_7 => ?_) (fun c_7 => ?_)
    · refine lv_iload_n F.1 F.2.1 dX1_homeCount_25 rfl (lv_at hl 1 rfl) ?_
      exact rtI () F hr hlk hP hS rfl (by simp [c_7, Int32.not_lt.mpr c_7]) dX1_homeCount_26
    · exact absurd (nI_le (Nat.le_refl _) (by decide)) c_7
  · obtain ⟨hP, hD, hS, hl⟩ := hI
    refine lv_iload_n F.1 F.2.1 dX1_homeCount_4 rfl (lv_at hl 0 rfl) ?_
    refine lv_bipush (v := 10) F.1 F.2.1 dX1_homeCount_5 (by decide) ?_
    refine lv_icmp_ge (tgt := 25) F.1 F.2.1 dX1_homeCount_7 (by decide) (fun c_7 => ?_) (fun c_7 => ?_)
    · exact absurd c_7 (nI_ge hk_k (by decide))
    · refine lv_iload_n F.1 F.2.1 dX1_homeCount_10 rfl (lv_at hl 1 rfl) ?_
      refine lv_aload_n F.1 F.2.1 dX1_homeCount_11 rfl (lv_at hl 2 rfl) ?_
      refine gf F hK hP 0 rfl rfl hiX1_homeCount_1 1 (by decide) (List.mem_of_getElem? (i := 1) rfl) rfl dX1_homeCount_12 ?_
      refine lv_iload_n F.1 F.2.1 dX1_homeCount_15 rfl (lv_at hl 0 rfl) ?_
      refine al (v := f (22 + 17 * (k / 5) + k % 5)) F hK hP 2 0 rfl rfl k rfl (by omega) (by decide) rfl dX1_homeCount_16 ?_
      refine lv_iadd F.1 F.2.1 dX1_homeCount_17 ?_
      refine lv_istore_n (lv' := [(1, .int ((hcU f k) + (f (22 + 17 * (k / 5) + k % 5)))), (2, .int (nI k)), (0, .ref (a 0))]) F.1 F.2.1 dX1_homeCount_18 rfl hl (by decide) rfl (fun ls hl => ?_)
      refine lv_iinc (v := nI (k + 1)) (lv' := [(2, .int (nI (k + 1))), (1, .int ((hcU f k) + (f (22 + 17 * (k / 5) + k % 5)))), (0, .ref (a 0))]) F.1 F.2.1 dX1_homeCount_19 hl (k := 1) rfl (by rw [show Int32.ofInt 1 = nI 1 from rfl, nI_add]) (by decide) rfl (fun ls hl => ?_)
      refine lv_goto (tgt := 4) F.1 F.2.1 dX1_homeCount_22 (by decide) ?_
      exact ih_4 _ _ _ ⟨hP, hD, hS, lv_sub hl [0, 1, 2] rfl⟩

def rmX1_mayLay : Room := { frames := 0, cells := 0, slots := 0, locals := 0 }
theorem nmX1_mayLay : NmV yX1_mayLay RX1 3 := by unfold NmV; decide +kernel
theorem hiX1_mayLay_1 : ∀ w ∈ u_ws RX1 TX1 10, w ∈ wsX1_mayLay := by decide +kernel
set_option maxHeartbeats 4000000 in
set_option maxRecDepth 100000 in
theorem kX1_mayLay (l : Launch) (dC : Nat → ClassId) (dI : Nat → Nat → Nat) (ct : Nat → ClassId) (a : Nat → Nat) (f : Nat → Int32) (s t : Nat) (n : Int32) (hs : s < 2) (ht : t < 5) : MI (S := Unit) l yX1_mayLay wsX1_mayLay rmX1_mayLay dC dI ct eT [.ref (a 0), .int (nI s), .int (nI t), .int n] (wB ct a f) (fun _ => wB ct a f) (fun r _ => r = if may f s t n then 1 else 0) := by
  refine MI.of (cc := cX1_mayLay) (maxL := 5) (ret := (some .boolean)) (by decide) rfl (Nat.le_of_ble_eq_true rfl) ?_
  intro pg en z mi below meth cd A F hr hlk hin hK hP hD hA hS hE ls hl
  have F : CallFix pg mi cd cX1_mayLay 5 z _ wsX1_mayLay RX1 := F
  have hl : lv_has ls 5 [(0, .ref (a 0)), (1, .int (nI s)), (2, .int (nI t)), (3, .int n)] := hl
  refine lv_iload_n F.1 F.2.1 dX1_mayLay_0 rfl (lv_at hl 1 rfl) ?_
  refine lv_iconst (v := 5) F.1 F.2.1 dX1_mayLay_1 (by decide) ?_
  refine lv_imul F.1 F.2.1 dX1_mayLay_2 ?_
  refine tp (y := nI (s * 5)) (ml2 (a := s) (b := 5) (c := s * 5) rfl rfl rfl) ?_
  refine lv_iload_n F.1 F.2.1 dX1_mayLay_3 rfl (lv_at hl 2 rfl) ?_
  refine lv_iadd F.1 F.2.1 dX1_mayLay_4 ?_
  refine tp (y := nI (s * 5 + t)) (ad2 (a := s * 5) (b := t) (c := s * 5 + t) rfl rfl rfl) ?_
  refine lv_istore (lv' := [(4, .int (nI (s * 5 + t))), (0, .ref (a 0)), (1, .int (nI s)), (2, .int (nI t)), (3, .int n)]) F.1 F.2.1 dX1_mayLay_5 hl (by decide) rfl (fun ls hl => ?_)
  refine lv_aload_n F.1 F.2.1 dX1_mayLay_7 rfl (lv_at hl 1 rfl) ?_
  refine gf F hK hP 0 rfl rfl hiX1_mayLay_1 1 (by decide) (List.mem_of_getElem? (i := 1) rfl) rfl dX1_mayLay_8 ?_
  refine lv_iload F.1 F.2.1 dX1_mayLay_11 (lv_at hl 0 rfl) ?_
  refine al (v := f (22 + 17 * s + t)) F hK hP 2 0 rfl rfl (s * 5 + t) rfl (by omega) (by decide) (congrArg f (ix5 (by omega))) dX1_mayLay_13 ?_
  refine lv_iload_n F.1 F.2.1 dX1_mayLay_14 rfl (lv_at hl 4 rfl) ?_
  refine lv_icmp_lt (tgt := 45) F.1 F.2.1 dX1_mayLay_15 (by decide) (fun c_15 => ?_) (fun c_15 => ?_)
  · refine lv_iconst (v := 0) F.1 F.2.1 dX1_mayLay_45 (by decide) ?_
    exact rtZ () F hr hlk hP hS rfl (by simp [may, c_15, Int32.not_le.mpr c_15]) (Or.inl rfl) dX1_mayLay_46
  · refine lv_aload_n F.1 F.2.1 dX1_mayLay_18 rfl (lv_at hl 1 rfl) ?_
    refine gf F hK hP 0 rfl rfl hiX1_mayLay_1 5 (by decide) (List.mem_of_getElem? (i := 2) rfl) rfl dX1_mayLay_19 ?_
    refine lv_iload_n F.1 F.2.1 dX1_mayLay_22 rfl (lv_at hl 2 rfl) ?_
    refine al (v := f (21 + 17 * s)) F hK hP 6 0 rfl rfl s rfl (by omega) (by decide) rfl dX1_mayLay_23 ?_
    refine lv_if_le (tgt := 45) F.1 F.2.1 dX1_mayLay_24 (by decide) (fun c_24 => ?_) (fun c_24 => ?_)
    · refine lv_iconst (v := 0) F.1 F.2.1 dX1_mayLay_45 (by decide) ?_
      exact rtZ () F hr hlk hP hS rfl (by simp [may, c_15, c_24, Int32.not_lt.mp c_15, Int32.not_lt.mpr c_24]) (Or.inl rfl) dX1_mayLay_46
    · refine lv_aload_n F.1 F.2.1 dX1_mayLay_27 rfl (lv_at hl 1 rfl) ?_
      refine gf F hK hP 0 rfl rfl hiX1_mayLay_1 2 (by decide) (List.mem_of_getElem? (i := 3) rfl) rfl dX1_mayLay_28 ?_
      refine lv_iload F.1 F.2.1 dX1_mayLay_31 (lv_at hl 0 rfl) ?_
      refine al (v := f (27 + 17 * s + t)) F hK hP 3 0 rfl rfl (s * 5 + t) rfl (by omega) (by decide) (congrArg f (ix5 (by omega))) dX1_mayLay_33 ?_
      refine lv_iload_n F.1 F.2.1 dX1_mayLay_34 rfl (lv_at hl 4 rfl) ?_
      refine lv_iadd F.1 F.2.1 dX1_mayLay_35 ?_
      refine lv_bipush (v := 99) F.1 F.2.1 dX1_mayLay_36 (by decide) ?_
      refine lv_icmp_gt (tgt := 45) F.1 F.2.1 dX1_mayLay_38 (by decide) (fun c_38 => ?_) (fun c_38 => ?_)
      · refine lv_iconst (v := 0) F.1 F.2.1 dX1_mayLay_45 (by decide) ?_
        exact rtZ () F hr hlk hP hS rfl (by simp [may, c_15, c_24, c_38, Int32.not_lt.mp c_15, Int32.not_le.mp c_24, Int32.not_le.mpr c_38]) (Or.inl rfl) dX1_mayLay_46
      · refine lv_iconst (v := 1) F.1 F.2.1 dX1_mayLay_41 (by decide) ?_
        refine lv_goto (tgt := 46) F.1 F.2.1 dX1_mayLay_42 (by decide) ?_
        exact rtZ () F hr hlk hP hS rfl (by simp [may, c_15, c_24, c_38, Int32.not_lt.mp c_15, Int32.not_le.mp c_24, Int32.not_lt.mp c_38]) (Or.inr rfl) dX1_mayLay_46

def rmX1_layDown : Room := { frames := 0, cells := 0, slots := 0, locals := 0 }
theorem nmX1_layDown : NmV yX1_layDown RX1 3 := by unfold NmV; decide +kernel
theorem hiX1_layDown_1 : ∀ w ∈ u_ws RX1 TX1 10, w ∈ wsX1_layDown := by decide +kernel
set_option maxHeartbeats 4000000 in
set_option maxRecDepth 100000 in
theorem kX1_layDown (l : Launch) (dC : Nat → ClassId) (dI : Nat → Nat → Nat) (ct : Nat → ClassId) (a : Nat → Nat) (f : Nat → Int32) (s t : Nat) (n : Int32) (hs : s < 2) (ht : t < 5) : MI (S := Unit) l yX1_layDown wsX1_layDown rmX1_layDown dC dI ct eT [.ref (a 0), .int (nI s), .int (nI t), .int n] (wB ct a f) (fun _ => wB ct a (laid f s t n)) (fun r _ => r = f (27 + 17 * s + t) + n) := by
  refine MI.of (cc := cX1_layDown) (maxL := 5) (ret := (some .int)) (by decide) rfl (Nat.le_of_ble_eq_true rfl) ?_
  intro pg en z mi below meth cd A F hr hlk hin hK hP hD hA hS hE ls hl
  have F : CallFix pg mi cd cX1_layDown 5 z _ wsX1_layDown RX1 := F
  have hl : lv_has ls 5 [(0, .ref (a 0)), (1, .int (nI s)), (2, .int (nI t)), (3, .int n)] := hl
  refine lv_iload_n F.1 F.2.1 dX1_layDown_0 rfl (lv_at hl 1 rfl) ?_
  refine lv_iconst (v := 5) F.1 F.2.1 dX1_layDown_1 (by decide) ?_
  refine lv_imul F.1 F.2.1 dX1_layDown_2 ?_
  refine tp (y := nI (s * 5)) (ml2 (a := s) (b := 5) (c := s * 5) rfl rfl rfl) ?_
  refine lv_iload_n F.1 F.2.1 dX1_layDown_3 rfl (lv_at hl 2 rfl) ?_
  refine lv_iadd F.1 F.2.1 dX1_layDown_4 ?_
  refine tp (y := nI (s * 5 + t)) (ad2 (a := s * 5) (b := t) (c := s * 5 + t) rfl rfl rfl) ?_
  refine lv_istore (lv' := [(4, .int (nI (s * 5 + t))), (0, .ref (a 0)), (1, .int (nI s)), (2, .int (nI t)), (3, .int n)]) F.1 F.2.1 dX1_layDown_5 hl (by decide) rfl (fun ls hl => ?_)
  refine lv_aload_n F.1 F.2.1 dX1_layDown_7 rfl (lv_at hl 1 rfl) ?_
  refine gf F hK hP 0 rfl rfl hiX1_layDown_1 1 (by decide) (List.mem_of_getElem? (i := 1) rfl) rfl dX1_layDown_8 ?_
  refine lv_iload F.1 F.2.1 dX1_layDown_11 (lv_at hl 0 rfl) ?_
  refine lv_dup2_11 F.1 F.2.1 dX1_layDown_13 rfl rfl ?_
  refine al (v := f (22 + 17 * s + t)) F hK hP 2 0 rfl rfl (s * 5 + t) rfl (by omega) (by decide) (congrArg f (ix5 (by omega))) dX1_layDown_14 ?_
  refine lv_iload_n F.1 F.2.1 dX1_layDown_15 rfl (lv_at hl 4 rfl) ?_
  refine lv_isub F.1 F.2.1 dX1_layDown_16 ?_
  refine ast (ws' := wB ct a (upd f (22 + 17 * s + t) ((f (22 + 17 * s + t)) - n))) F hK hP hD hS 2 0 rfl rfl (s * 5 + t) rfl (by omega) (by decide) dX1_layDown_17 (wq_home ct a f (by omega) (by omega)) (fun H locs hP hD hS => ?_)
  refine lv_aload_n F.1 F.2.1 dX1_layDown_18 rfl (lv_at hl 1 rfl) ?_
  refine gf F hK hP 0 rfl rfl hiX1_layDown_1 2 (by decide) (List.mem_of_getElem? (i := 2) rfl) rfl dX1_layDown_19 ?_
  refine lv_iload F.1 F.2.1 dX1_layDown_22 (lv_at hl 0 rfl) ?_
  refine lv_dup2_11 F.1 F.2.1 dX1_layDown_24 rfl rfl ?_
  refine al (v := (upd f (22 + 17 * s + t) ((f (22 + 17 * s + t)) - n)) (27 + 17 * s + t)) F hK hP 3 0 rfl rfl (s * 5 + t) rfl (by omega) (by decide) (congrArg (upd f (22 + 17 * s + t) ((f (22 + 17 * s + t)) - n)) (ix5 (by omega))) dX1_layDown_25 ?_
  refine tp (y := f (27 + 17 * s + t)) (pk_un (by omega)) ?_
  refine lv_iload_n F.1 F.2.1 dX1_layDown_26 rfl (lv_at hl 4 rfl) ?_
  refine lv_iadd F.1 F.2.1 dX1_layDown_27 ?_
  refine ast (ws' := wB ct a (upd (upd f (22 + 17 * s + t) ((f (22 + 17 * s + t)) - n)) (27 + 17 * s + t) ((f (27 + 17 * s + t)) + n))) F hK hP hD hS 3 0 rfl rfl (s * 5 + t) rfl (by omega) (by decide) dX1_layDown_28 (wq_heap ct a (upd f (22 + 17 * s + t) ((f (22 + 17 * s + t)) - n)) (by omega) (by omega)) (fun H locs hP hD hS => ?_)
  refine lv_aload_n F.1 F.2.1 dX1_layDown_29 rfl (lv_at hl 1 rfl) ?_
  refine gf F hK hP 0 rfl rfl hiX1_layDown_1 2 (by decide) (List.mem_of_getElem? (i := 2) rfl) rfl dX1_layDown_30 ?_
  refine lv_iload F.1 F.2.1 dX1_layDown_33 (lv_at hl 0 rfl) ?_
  refine al (v := (upd (upd f (22 + 17 * s + t) ((f (22 + 17 * s + t)) - n)) (27 + 17 * s + t) ((f (27 + 17 * s + t)) + n)) (27 + 17 * s + t)) F hK hP 3 0 rfl rfl (s * 5 + t) rfl (by omega) (by decide) (congrArg (upd (upd f (22 + 17 * s + t) ((f (22 + 17 * s + t)) - n)) (27 + 17 * s + t) ((f (27 + 17 * s + t)) + n)) (ix5 (by omega))) dX1_layDown_35 ?_
  refine tp (y := f (27 + 17 * s + t) + n) pk_us ?_
  exact rtI () F hr hlk hP hS rfl rfl dX1_layDown_36

def rmX1_addHome : Room := { frames := 1, cells := 0, slots := 0, locals := 21 }
theorem nmX1_addHome : NmV yX1_addHome RX1 3 := by unfold NmV; decide +kernel
theorem hiX1_addHome_1 : ∀ w ∈ u_ws RX1 TX1 10, w ∈ wsX1_addHome := by decide +kernel
set_option maxHeartbeats 4000000 in
set_option maxRecDepth 100000 in
theorem kX1_addHome (l : Launch) (dC : Nat → ClassId) (dI : Nat → Nat → Nat) (ct : Nat → ClassId) (a : Nat → Nat) (f : Nat → Int32) (s t : Nat) (n : Int32) (hs : s < 2) (ht : t < 5) : MV (S := Unit) l yX1_addHome wsX1_addHome rmX1_addHome dC dI ct eT [.ref (a 0), .int (nI s), .int (nI t), .int n] (wB ct a f) (fun _ => wB ct a (comeH f s t n)) (fun _ => True) := by
  refine MV.of (cc := cX1_addHome) (maxL := 5) (ret := none) (by decide) rfl (Nat.le_of_ble_eq_true rfl) ?_
  intro pg en z mi below meth cd A F hr hlk hin hK hP hD hA hS hE ls hl
  have F : CallFix pg mi cd cX1_addHome 5 z _ wsX1_addHome RX1 := F
  have hl : lv_has ls 5 [(0, .ref (a 0)), (1, .int (nI s)), (2, .int (nI t)), (3, .int n)] := hl
  refine lv_iload_n F.1 F.2.1 dX1_addHome_0 rfl (lv_at hl 1 rfl) ?_
  refine lv_iconst (v := 5) F.1 F.2.1 dX1_addHome_1 (by decide) ?_
  refine lv_imul F.1 F.2.1 dX1_addHome_2 ?_
  refine tp (y := nI (s * 5)) (ml2 (a := s) (b := 5) (c := s * 5) rfl rfl rfl) ?_
  refine lv_iload_n F.1 F.2.1 dX1_addHome_3 rfl (lv_at hl 2 rfl) ?_
  refine lv_iadd F.1 F.2.1 dX1_addHome_4 ?_
  refine tp (y := nI (s * 5 + t)) (ad2 (a := s * 5) (b := t) (c := s * 5 + t) rfl rfl rfl) ?_
  refine lv_istore (lv' := [(4, .int (nI (s * 5 + t))), (0, .ref (a 0)), (1, .int (nI s)), (2, .int (nI t)), (3, .int n)]) F.1 F.2.1 dX1_addHome_5 hl (by decide) rfl (fun ls hl => ?_)
  refine lv_aload_n F.1 F.2.1 dX1_addHome_7 rfl (lv_at hl 1 rfl) ?_
  refine gf F hK hP 0 rfl rfl hiX1_addHome_1 1 (by decide) (List.mem_of_getElem? (i := 1) rfl) rfl dX1_addHome_8 ?_
  refine lv_iload F.1 F.2.1 dX1_addHome_11 (lv_at hl 0 rfl) ?_
  refine lv_bipush (v := 99) F.1 F.2.1 dX1_addHome_13 (by decide) ?_
  refine lv_aload_n F.1 F.2.1 dX1_addHome_15 rfl (lv_at hl 1 rfl) ?_
  refine gf F hK hP 0 rfl rfl hiX1_addHome_1 1 (by decide) (List.mem_of_getElem? (i := 1) rfl) rfl dX1_addHome_16 ?_
  refine lv_iload F.1 F.2.1 dX1_addHome_19 (lv_at hl 0 rfl) ?_
  refine al (v := f (22 + 17 * s + t)) F hK hP 2 0 rfl rfl (s * 5 + t) rfl (by omega) (by decide) (congrArg f (ix5 (by omega))) dX1_addHome_21 ?_
  refine lv_iload_n F.1 F.2.1 dX1_addHome_22 rfl (lv_at hl 4 rfl) ?_
  refine lv_iadd F.1 F.2.1 dX1_addHome_23 ?_
  refine va_mmin F.1 F.2.1 (F.2.2.1.trans hl.1.symm) F.2.2.2.1 (F.2.2.2.2 _ (List.mem_of_getElem? (i := 2) rfl)) (F.2.2.2.2 _ (List.mem_of_getElem? (i := 3) rfl)) (F.2.2.2.2 _ (List.mem_of_getElem? (i := 4) rfl)) (F.2.2.2.2 _ (List.mem_of_getElem? (i := 5) rfl)) (Nat.le_of_ble_eq_true rfl) (Nat.le_of_ble_eq_true rfl) (Nat.zero_le _) (Nat.zero_le _) dX1_addHome_24 ?_
  refine tp (y := mn 99 ((f (22 + 17 * s + t)) + n)) rfl ?_
  refine ast (ws' := wB ct a (upd f (22 + 17 * s + t) (mn 99 ((f (22 + 17 * s + t)) + n)))) F hK hP hD hS 2 0 rfl rfl (s * 5 + t) rfl (by omega) (by decide) dX1_addHome_27 (wq_home ct a f (by omega) (by omega)) (fun H locs hP hD hS => ?_)
  exact rtV () F hr hlk hP hS rfl trivial dX1_addHome_28
