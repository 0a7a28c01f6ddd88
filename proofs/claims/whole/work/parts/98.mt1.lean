def rmX6_byteAt : Room := { frames := 0, cells := 0, slots := 0, locals := 0 }
theorem nmX6_byteAt : NmV yX6_byteAt RX6 1 := by unfold NmV; decide +kernel
theorem hiX6_byteAt_6 : ∀ w ∈ u_ws RX6 TX6 22, w ∈ wsX6_byteAt := by decide +kernel
set_option maxHeartbeats 4000000 in
set_option maxRecDepth 100000 in
theorem kX6_byteAt (l : Launch) (dC : Nat → ClassId) (dI : Nat → Nat → Nat) (ct : Nat → ClassId) (a : Nat → Nat) (v y : Nat → Int32) (n : Nat) (j : Nat) (h8 : v 8 = nI n) (hn : n ≤ 120) (hj : j ≤ 120) : MI (S := Unit) l yX6_byteAt wsX6_byteAt rmX6_byteAt dC dI ct eT [.ref (a 0), .int (nI j)] (oM a v :: [ai ct (a 5) 120 y]) (fun _ => oM a v :: [ai ct (a 5) 120 y]) (fun r _ => r = byF y n j) := by
  refine MI.of (cc := cX6_byteAt) (maxL := 2) (ret := (some .int)) (by decide) rfl (Nat.le_of_ble_eq_true rfl) ?_
  intro pg en z mi below meth cd A F hr hlk hin hK hP hD hA hS hE ls hl
  have F : CallFix pg mi cd cX6_byteAt 2 z _ wsX6_byteAt RX6 := F
  have hl : lv_has ls 2 [(0, .ref (a 0)), (1, .int (nI j))] := hl
  refine lv_iload_n F.1 F.2.1 dX6_byteAt_0 rfl (lv_at hl 1 rfl) ?_
  refine lv_aload_n F.1 F.2.1 dX6_byteAt_1 rfl (lv_at hl 0 rfl) ?_
  refine gf F hK hP 0 rfl rfl hiX6_byteAt_6 8 (by decide) (List.mem_of_getElem? (i := 1) rfl) rfl dX6_byteAt_2 ?_
  refine tp (y := nI n) h8 ?_
  refine lv_icmp_ge (tgt := 17) F.1 F.2.1 dX6_byteAt_5 (by decide) (fun c_5 => ?_) (fun c_5 => ?_)
  · refine lv_iconst (v := (-1)) F.1 F.2.1 dX6_byteAt_17 (by decide) ?_
    exact rtI () F hr hlk hP hS rfl ((if_neg (fun q => nI_ge q (by omega) c_5)).symm) dX6_byteAt_18
  · refine lv_aload_n F.1 F.2.1 dX6_byteAt_8 rfl (lv_at hl 0 rfl) ?_
    refine gf F hK hP 0 rfl rfl hiX6_byteAt_6 7 (by decide) (List.mem_of_getElem? (i := 2) rfl) rfl dX6_byteAt_9 ?_
    refine lv_iload_n F.1 F.2.1 dX6_byteAt_12 rfl (lv_at hl 1 rfl) ?_
    refine al (v := y j) F hK hP 1 0 rfl rfl j rfl (by have := lt_nle2 c_5 (by omega); omega) (by decide) rfl dX6_byteAt_13 ?_
    refine lv_goto (tgt := 18) F.1 F.2.1 dX6_byteAt_14 (by decide) ?_
    exact rtI () F hr hlk hP hS rfl ((if_pos (lt_nle2 c_5 (by omega))).symm) dX6_byteAt_18

def rmX6_next : Room := { frames := 1, cells := 0, slots := 0, locals := 22 }
theorem nmX6_next : NmV yX6_next RX6 0 := by unfold NmV; decide +kernel
theorem hiX6_next_6 : ∀ w ∈ u_ws RX6 TX6 22, w ∈ wsX6_next := by decide +kernel
set_option maxHeartbeats 4000000 in
set_option maxRecDepth 100000 in
theorem kX6_next (l : Launch) (dC : Nat → ClassId) (dI : Nat → Nat → Nat) (ct : Nat → ClassId) (a : Nat → Nat) (v y : Nat → Int32) (n : Nat) (p : Nat) (h8 : v 8 = nI n) (hn : n ≤ 120) (h10 : v 10 = nI p) (hp : p ≤ n) (hy : ∀ j, j < n → by_ (y j)) : MV (S := (Nat → Int32)) l yX6_next wsX6_next rmX6_next dC dI ct eT [.ref (a 0)] (oM a v :: [ai ct (a 5) 120 y]) (fun u => oM a u :: [ai ct (a 5) 120 y]) (fun u => MT u y n p ∧ Fm u v) := by
  refine MV.of (cc := cX6_next) (maxL := 2) (ret := none) (by decide) rfl (Nat.le_of_ble_eq_true rfl) ?_
  intro pg en z mi below meth cd A F hr hlk hin hK hP hD hA hS hE ls hl
  have F : CallFix pg mi cd cX6_next 2 z _ wsX6_next RX6 := F
  have hl : lv_has ls 2 [(0, .ref (a 0))] := hl
  obtain ⟨b, eb, hb1, hb2, hb3, hb4⟩ := tB_spec (y := y) hp
  refine lv_aload_n F.1 F.2.1 dX6_next_0 rfl (lv_at hl 0 rfl) ?_
  refine lv_aload_n F.1 F.2.1 dX6_next_1 rfl (lv_at hl 0 rfl) ?_
  refine gf F hK hP 0 rfl rfl hiX6_next_6 10 (by decide) (List.mem_of_getElem? (i := 1) rfl) rfl dX6_next_2 ?_
  refine tp (y := nI p) h10 ?_
  refine pf (ws' := oM a (upd v 9 (nI p)) :: [ai ct (a 5) 120 y]) F hK hP hD hS 0 rfl rfl hiX6_next_6 tyX6 tyX6_ok nmX6 9 (by decide) (List.mem_of_getElem? (i := 2) rfl) rfl rfl rfl (Nat.le_of_ble_eq_true rfl) dX6_next_5 (weq.rf _) (fun H locs hP hD hS => ?_)
  refine loopN (I := fun k H locs ls => va_P (dC, dI) vwCl (oM a (upd v 9 (nI (p + k))) :: [ai ct (a 5) 120 y]) H ∧ va_D A (oM a (upd v 9 (nI (p + k))) :: [ai ct (a 5) 120 y]) ∧ va_S A z.heap H locs ∧ lv_has ls 2 [(0, .ref (a 0))]) (b - p) 0 (by omega) ⟨hP, hD, hS, lv_sub hl [0] rfl⟩ (fun H locs ls hI => ?_) (fun k hk_k H locs ls hI ih_8 => ?_)
  · obtain ⟨hP, hD, hS, hl⟩ := hI
    rw [show p + (b - p) = b by omega] at hP hD
    refine lv_aload_n F.1 F.2.1 dX6_next_8 rfl (lv_at hl 0 rfl) ?_
    refine lv_aload_n F.1 F.2.1 dX6_next_9 rfl (lv_at hl 0 rfl) ?_
    refine gf F hK hP 0 rfl rfl hiX6_next_6 9 (by decide) (List.mem_of_getElem? (i := 2) rfl) rfl dX6_next_10 ?_
    refine tp (y := nI b) pk_us ?_
    refine iV (rest := []) (wsp := fun _ => oM a (upd v 9 (nI b)) :: [ai ct (a 5) 120 y]) F (kX6_byteAt l dC dI ct a (upd v 9 (nI b)) y n b h8 hn (by omega)) gX6_next_X6_byteAt rfl ⟨rfl, rfl⟩ nmX6_byteAt ⟨Nat.le_of_ble_eq_true rfl, Nat.le_of_ble_eq_true rfl⟩ eT_b (fun _ _ _ => trivial) hK hP hD hS hA 0 rfl rfl rfl [0, 1] (by decide) rfl rfl rfl hl.1 (Nat.le_of_ble_eq_true rfl) dX6_next_13 ⟨Nat.zero_le _, Nat.zero_le _⟩ (fun _ => rfl) (fun _ => rfl) [a 0, a 5] rfl (fun _ => rfl) (fun r_13 u_13 H locs e_13 hP hD hS => ?_)
    obtain rfl := e_13
    refine lv_bipush (v := 32) F.1 F.2.1 dX6_next_16 (by decide) ?_
    refine lv_icmp_ne (tgt := 34) F.1 F.2.1 dX6_next_18 (by decide) (fun c_18 => ?_) (fun c_18 => ?_)
    · refine lv_aload_n F.1 F.2.1 dX6_next_34 rfl (lv_at hl 0 rfl) ?_
      refine lv_aload_n F.1 F.2.1 dX6_next_35 rfl (lv_at hl 0 rfl) ?_
      refine gf F hK hP 0 rfl rfl hiX6_next_6 9 (by decide) (List.mem_of_getElem? (i := 2) rfl) rfl dX6_next_36 ?_
      refine tp (y := nI b) pk_us ?_
      refine iV (rest := []) (wsp := fun _ => oM a (upd v 9 (nI b)) :: [ai ct (a 5) 120 y]) F (kX6_byteAt l dC dI ct a (upd v 9 (nI b)) y n b h8 hn (by omega)) gX6_next_X6_byteAt rfl ⟨rfl, rfl⟩ nmX6_byteAt ⟨Nat.le_of_ble_eq_true rfl, Nat.le_of_ble_eq_true rfl⟩ eT_b (fun _ _ _ => trivial) hK hP hD hS hA 0 rfl rfl rfl [0, 1] (by decide) rfl rfl rfl hl.1 (Nat.le_of_ble_eq_true rfl) dX6_next_39 ⟨Nat.zero_le _, Nat.zero_le _⟩ (fun _ => rfl) (fun _ => rfl) [a 0, a 5] rfl (fun _ => rfl) (fun r_39 u_39 H locs e_39 hP hD hS => ?_)
      obtain rfl := e_39
      refine lv_istore_n (lv' := [(1, .int (byF y n b)), (0, .ref (a 0))]) F.1 F.2.1 dX6_next_42 rfl hl (by decide) rfl (fun ls hl => ?_)
      refine lv_aload_n F.1 F.2.1 dX6_next_43 rfl (lv_at hl 1 rfl) ?_
      refine lv_aload_n F.1 F.2.1 dX6_next_44 rfl (lv_at hl 1 rfl) ?_
      refine gf F hK hP 0 rfl rfl hiX6_next_6 9 (by decide) (List.mem_of_getElem? (i := 2) rfl) rfl dX6_next_45 ?_
      refine tp (y := nI b) pk_us ?_
      refine pf (ws' := oM a (upd (upd v 9 (nI b)) 10 (nI b)) :: [ai ct (a 5) 120 y]) F hK hP hD hS 0 rfl rfl hiX6_next_6 tyX6 tyX6_ok nmX6 10 (by decide) (List.mem_of_getElem? (i := 1) rfl) rfl rfl rfl (Nat.le_of_ble_eq_true rfl) dX6_next_48 (weq.rf _) (fun H locs hP hD hS => ?_)
      refine lv_aload_n F.1 F.2.1 dX6_next_51 rfl (lv_at hl 1 rfl) ?_
      refine lv_iconst (v := 0) F.1 F.2.1 dX6_next_52 (by decide) ?_
      refine pf (ws' := oM a (upd (upd (upd v 9 (nI b)) 10 (nI b)) 12 0) :: [ai ct (a 5) 120 y]) F hK hP hD hS 0 rfl rfl hiX6_next_6 tyX6 tyX6_ok nmX6 12 (by decide) (List.mem_of_getElem? (i := 3) rfl) rfl rfl rfl (Nat.le_of_ble_eq_true rfl) dX6_next_53 (weq.rf _) (fun H locs hP hD hS => ?_)
      refine lv_iload_n F.1 F.2.1 dX6_next_56 rfl (lv_at hl 0 rfl) ?_
      refine lv_if_ge (tgt := 68) F.1 F.2.1 dX6_next_57 (by decide) (fun c_57 => ?_) (fun c_57 => ?_)
      · have hbn := byF_lt c_57
        have eby : byF y n b = y b := if_pos hbn
        refine lv_iload_n F.1 F.2.1 dX6_next_68 rfl (lv_at hl 0 rfl) ?_
        refine tp (y := y b) eby ?_
        refine lv_bipush (v := 97) F.1 F.2.1 dX6_next_69 (by decide) ?_
        refine lv_bipush (v := 122) F.1 F.2.1 dX6_next_71 (by decide) ?_
        refine iS (rest := []) (wsp := fun _ => oM a (upd (upd (upd v 9 (nI b)) 10 (nI b)) 12 0) :: [ai ct (a 5) 120 y]) F (kX6_within l dC dI ct (y b) 97 122) gX6_next_X6_within rfl ⟨rfl, rfl⟩ nmX6_within ⟨Nat.le_of_ble_eq_true rfl, Nat.le_of_ble_eq_true rfl⟩ eT_b (fun _ _ _ => trivial) hK hP hD hS hA [] (by decide) rfl rfl rfl hl.1 (Nat.le_of_ble_eq_true rfl) dX6_next_73 ⟨Nat.zero_le _, Nat.zero_le _⟩ (fun _ => rfl) (fun _ => rfl) [a 0, a 5] rfl (fun _ => rfl) (fun r_73 u_73 H locs e_73 hP hD hS => ?_)
        obtain rfl := e_73
        refine lv_if_eq (tgt := 115) F.1 F.2.1 dX6_next_76 (by decide) (fun c_76 => ?_) (fun c_76 => ?_)
        · have c_76 : ¬ (97 ≤ (y b) ∧ (y b) ≤ 122) := b01f rfl c_76
          refine lv_iload_n F.1 F.2.1 dX6_next_115 rfl (lv_at hl 0 rfl) ?_
          refine tp (y := y b) eby ?_
          refine lv_bipush (v := 48) F.1 F.2.1 dX6_next_116 (by decide) ?_
          refine lv_bipush (v := 57) F.1 F.2.1 dX6_next_118 (by decide) ?_
          refine iS (rest := []) (wsp := fun _ => oM a (upd (upd (upd v 9 (nI b)) 10 (nI b)) 12 0) :: [ai ct (a 5) 120 y]) F (kX6_within l dC dI ct (y b) 48 57) gX6_next_X6_within rfl ⟨rfl, rfl⟩ nmX6_within ⟨Nat.le_of_ble_eq_true rfl, Nat.le_of_ble_eq_true rfl⟩ eT_b (fun _ _ _ => trivial) hK hP hD hS hA [] (by decide) rfl rfl rfl hl.1 (Nat.le_of_ble_eq_true rfl) dX6_next_120 ⟨Nat.zero_le _, Nat.zero_le _⟩ (fun _ => rfl) (fun _ => rfl) [a 0, a 5] rfl (fun _ => rfl) (fun r_120 u_120 H locs e_120 hP hD hS => ?_)
          obtain rfl := e_120
          refine lv_if_eq (tgt := 191) F.1 F.2.1 dX6_next_123 (by decide) (fun c_123 => ?_) (fun c_123 => ?_)
          · have c_123 : ¬ (48 ≤ (y b) ∧ (y b) ≤ 57) := b01f rfl c_123
            refine lv_aload_n F.1 F.2.1 dX6_next_191 rfl (lv_at hl 1 rfl) ?_
            refine lv_iconst (v := 3) F.1 F.2.1 dX6_next_192 (by decide) ?_
            refine pf (ws' := oM a (upd (upd (upd (upd v 9 (nI b)) 10 (nI b)) 12 0) 11 3) :: [ai ct (a 5) 120 y]) F hK hP hD hS 0 rfl rfl hiX6_next_6 tyX6 tyX6_ok nmX6 11 (by decide) (List.mem_of_getElem? (i := 4) rfl) rfl rfl rfl (Nat.le_of_ble_eq_true rfl) dX6_next_193 (weq.rf _) (fun H locs hP hD hS => ?_)
            refine lv_aload_n F.1 F.2.1 dX6_next_196 rfl (lv_at hl 1 rfl) ?_
            refine lv_dup F.1 F.2.1 dX6_next_197 rfl ?_
            refine gf F hK hP 0 rfl rfl hiX6_next_6 10 (by decide) (List.mem_of_getElem? (i := 1) rfl) rfl dX6_next_198 ?_
            refine tp (y := nI b) rfl ?_
            refine lv_iconst (v := 1) F.1 F.2.1 dX6_next_201 (by decide) ?_
            refine lv_iadd F.1 F.2.1 dX6_next_202 ?_
            refine tp (y := nI (b + 1)) (ad2 (a := b) (b := 1) (c := b + 1) rfl rfl rfl) ?_
            refine pf (ws' := oM a (upd (upd (upd (upd (upd v 9 (nI b)) 10 (nI b)) 12 0) 11 3) 10 (nI (b + 1))) :: [ai ct (a 5) 120 y]) F hK hP hD hS 0 rfl rfl hiX6_next_6 tyX6 tyX6_ok nmX6 10 (by decide) (List.mem_of_getElem? (i := 1) rfl) rfl rfl rfl (Nat.le_of_ble_eq_true rfl) dX6_next_203 (weq.rf _) (fun H locs hP hD hS => ?_)
            exact rtV (upd (upd (upd (upd (upd v 9 (nI b)) 10 (nI b)) 12 0) 11 3) 10 (nI (b + 1))) F hr hlk hP hS rfl (by have t := tok3 eb hbn c_76 c_123; exact ⟨⟨by rw [eb]; rfl, by rw [t.2]; rfl, by rw [t.1]; by_cases q9 : y b = 59 <;> simp only [q9, if_true, if_false] <;> rfl, by rw [t.1]; by_cases q9 : y b = 59 <;> simp only [q9, if_true, if_false] <;> rfl⟩, fun j hj => by first | rfl | (repeat rw [pk_un (by omega)])⟩) dX6_next_206
          · have c_123 : 48 ≤ (y b) ∧ (y b) ≤ 57 := b01t rfl c_123
            obtain ⟨q, eq, hq1, hq2, hq3, hq4⟩ := rn_spec (P := dgB y) (n := n) (p := b) (by omega)
            refine lv_aload_n F.1 F.2.1 dX6_next_126 rfl (lv_at hl 1 rfl) ?_
            refine lv_iconst (v := 2) F.1 F.2.1 dX6_next_127 (by decide) ?_
            refine pf (ws' := oM a (upd (upd (upd (upd v 9 (nI b)) 10 (nI b)) 12 0) 11 2) :: [ai ct (a 5) 120 y]) F hK hP hD hS 0 rfl rfl hiX6_next_6 tyX6 tyX6_ok nmX6 11 (by decide) (List.mem_of_getElem? (i := 4) rfl) rfl rfl rfl (Nat.le_of_ble_eq_true rfl) dX6_next_128 (weq.rf _) (fun H locs hP hD hS => ?_)
            refine loopN (I := fun k H locs ls => va_P (dC, dI) vwCl (oM a (upd (upd (upd (upd v 9 (nI b)) 11 2) 12 (nvU y b k)) 10 (nI (b + k))) :: [ai ct (a 5) 120 y]) H ∧ va_D A (oM a (upd (upd (upd (upd v 9 (nI b)) 11 2) 12 (nvU y b k)) 10 (nI (b + k))) :: [ai ct (a 5) 120 y]) ∧ va_S A z.heap H locs ∧ lv_has ls 2 [(0, .ref (a 0))]) (q - b) 0 (by omega) ⟨hP, hD, hS, lv_sub hl [1] rfl⟩ (fun H locs ls hI => ?_) (fun k hk_k H locs ls hI ih_131 => ?_)
            · obtain ⟨hP, hD, hS, hl⟩ := hI
              rw [show b + (q - b) = q by omega] at hP hD
              refine lv_aload_n F.1 F.2.1 dX6_next_131 rfl (lv_at hl 0 rfl) ?_
              refine lv_aload_n F.1 F.2.1 dX6_next_132 rfl (lv_at hl 0 rfl) ?_
              refine gf F hK hP 0 rfl rfl hiX6_next_6 10 (by decide) (List.mem_of_getElem? (i := 1) rfl) rfl dX6_next_133 ?_
              refine tp (y := nI q) pk_us ?_
              refine iV (rest := []) (wsp := fun _ => oM a (upd (upd (upd (upd v 9 (nI b)) 11 2) 12 (nvU y b (q - b))) 10 (nI q)) :: [ai ct (a 5) 120 y]) F (kX6_byteAt l dC dI ct a (upd (upd (upd (upd v 9 (nI b)) 11 2) 12 (nvU y b (q - b))) 10 (nI q)) y n q h8 hn (by omega)) gX6_next_X6_byteAt rfl ⟨rfl, rfl⟩ nmX6_byteAt ⟨Nat.le_of_ble_eq_true rfl, Nat.le_of_ble_eq_true rfl⟩ eT_b (fun _ _ _ => trivial) hK hP hD hS hA 0 rfl rfl rfl [0, 1] (by decide) rfl rfl rfl hl.1 (Nat.le_of_ble_eq_true rfl) dX6_next_136 ⟨Nat.zero_le _, Nat.zero_le _⟩ (fun _ => rfl) (fun _ => rfl) [a 0, a 5] rfl (fun _ => rfl) (fun r_136 u_136 H locs e_136 hP hD hS => ?_)
              obtain rfl := e_136
              refine lv_bipush (v := 48) F.1 F.2.1 dX6_next_139 (by decide) ?_
              refine lv_bipush (v := 57) F.1 F.2.1 dX6_next_141 (by decide) ?_
              refine iS (rest := []) (wsp := fun _ => oM a (upd (upd (upd (upd v 9 (nI b)) 11 2) 12 (nvU y b (q - b))) 10 (nI q)) :: [ai ct (a 5) 120 y]) F (kX6_within l dC dI ct (byF y n q) 48 57) gX6_next_X6_within rfl ⟨rfl, rfl⟩ nmX6_within ⟨Nat.le_of_ble_eq_true rfl, Nat.le_of_ble_eq_true rfl⟩ eT_b (fun _ _ _ => trivial) hK hP hD hS hA [] (by decide) rfl rfl rfl hl.1 (Nat.le_of_ble_eq_true rfl) dX6_next_143 ⟨Nat.zero_le _, Nat.zero_le _⟩ (fun _ => rfl) (fun _ => rfl) [a 0, a 5] rfl (fun _ => rfl) (fun r_143 u_143 H locs e_143 hP hD hS => ?_)
              obtain rfl := e_143
              refine lv_if_eq (tgt := 206) F.1 F.2.1 dX6_next_146 (by decide) (fun c_146 => ?_) (fun c_146 => ?_)
              · have c_146 : ¬ (48 ≤ (byF y n q) ∧ (byF y n q) ≤ 57) := b01f rfl c_146
                exact rtV (upd (upd (upd (upd v 9 (nI b)) 11 2) 12 (nvU y b (q - b))) 10 (nI q)) F hr hlk hP hS rfl (by have t := tok2 eb hbn c_76 c_123; rw [eq] at t; exact ⟨⟨by rw [eb]; rfl, by rw [t.2]; rfl, by rw [t.1]; rfl, by rw [if_pos t.1]; unfold tV; rw [eb, t.2]; rfl⟩, fun j hj => by first | rfl | (repeat rw [pk_un (by omega)])⟩) dX6_next_206
              · exact absurd (if_neg (byD_no hq4)) c_146
            · obtain ⟨hP, hD, hS, hl⟩ := hI
              refine lv_aload_n F.1 F.2.1 dX6_next_131 rfl (lv_at hl 0 rfl) ?_
              refine lv_aload_n F.1 F.2.1 dX6_next_132 rfl (lv_at hl 0 rfl) ?_
              refine gf F hK hP 0 rfl rfl hiX6_next_6 10 (by decide) (List.mem_of_getElem? (i := 1) rfl) rfl dX6_next_133 ?_
              refine tp (y := nI (b + k)) pk_us ?_
              refine iV (rest := []) (wsp := fun _ => oM a (upd (upd (upd (upd v 9 (nI b)) 11 2) 12 (nvU y b k)) 10 (nI (b + k))) :: [ai ct (a 5) 120 y]) F (kX6_byteAt l dC dI ct a (upd (upd (upd (upd v 9 (nI b)) 11 2) 12 (nvU y b k)) 10 (nI (b + k))) y n (b + k) h8 hn (by omega)) gX6_next_X6_byteAt rfl ⟨rfl, rfl⟩ nmX6_byteAt ⟨Nat.le_of_ble_eq_true rfl, Nat.le_of_ble_eq_true rfl⟩ eT_b (fun _ _ _ => trivial) hK hP hD hS hA 0 rfl rfl rfl [0, 1] (by decide) rfl rfl rfl hl.1 (Nat.le_of_ble_eq_true rfl) dX6_next_136 ⟨Nat.zero_le _, Nat.zero_le _⟩ (fun _ => rfl) (fun _ => rfl) [a 0, a 5] rfl (fun _ => rfl) (fun r_136 u_136 H locs e_136 hP hD hS => ?_)
              obtain rfl := e_136
              refine lv_bipush (v := 48) F.1 F.2.1 dX6_next_139 (by decide) ?_
              refine lv_bipush (v := 57) F.1 F.2.1 dX6_next_141 (by decide) ?_
              refine iS (rest := []) (wsp := fun _ => oM a (upd (upd (upd (upd v 9 (nI b)) 11 2) 12 (nvU y b k)) 10 (nI (b + k))) :: [ai ct (a 5) 120 y]) F (kX6_within l dC dI ct (byF y n (b + k)) 48 57) gX6_next_X6_within rfl ⟨rfl, rfl⟩ nmX6_within ⟨Nat.le_of_ble_eq_true rfl, Nat.le_of_ble_eq_true rfl⟩ eT_b (fun _ _ _ => trivial) hK hP hD hS hA [] (by decide) rfl rfl rfl hl.1 (Nat.le_of_ble_eq_true rfl) dX6_next_143 ⟨Nat.zero_le _, Nat.zero_le _⟩ (fun _ => rfl) (fun _ => rfl) [a 0, a 5] rfl (fun _ => rfl) (fun r_143 u_143 H locs e_143 hP hD hS => ?_)
              obtain rfl := e_143
              refine lv_if_eq (tgt := 206) F.1 F.2.1 dX6_next_146 (by decide) (fun c_146 => ?_) (fun c_146 => ?_)
              · exact absurd c_146 (by rw [if_pos (by rw [byF_in (by omega)]; exact dgB_yes (hq3 (b + k) (by omega) (by omega)))]; decide)
              · have c_146 : 48 ≤ (byF y n (b + k)) ∧ (byF y n (b + k)) ≤ 57 := b01t rfl c_146
                refine lv_aload_n F.1 F.2.1 dX6_next_149 rfl (lv_at hl 0 rfl) ?_
                refine lv_sipush (v := 1000) F.1 F.2.1 dX6_next_150 (by decide) ?_
                refine lv_bipush (v := 10) F.1 F.2.1 dX6_next_153 (by decide) ?_
                refine lv_aload_n F.1 F.2.1 dX6_next_155 rfl (lv_at hl 0 rfl) ?_
                refine gf F hK hP 0 rfl rfl hiX6_next_6 12 (by decide) (List.mem_of_getElem? (i := 3) rfl) rfl dX6_next_156 ?_
                refine tp (y := nvU y b k) rfl ?_
                refine lv_imul F.1 F.2.1 dX6_next_159 ?_
                refine lv_aload_n F.1 F.2.1 dX6_next_160 rfl (lv_at hl 0 rfl) ?_
                refine lv_aload_n F.1 F.2.1 dX6_next_161 rfl (lv_at hl 0 rfl) ?_
                refine gf F hK hP 0 rfl rfl hiX6_next_6 10 (by decide) (List.mem_of_getElem? (i := 1) rfl) rfl dX6_next_162 ?_
                refine tp (y := nI (b + k)) pk_us ?_
                refine iV (rest := [.int (10 * (nvU y b k)), .int 1000, .ref (a 0)]) (wsp := fun _ => oM a (upd (upd (upd (upd v 9 (nI b)) 11 2) 12 (nvU y b k)) 10 (nI (b + k))) :: [ai ct (a 5) 120 y]) F (kX6_byteAt l dC dI ct a (upd (upd (upd (upd v 9 (nI b)) 11 2) 12 (nvU y b k)) 10 (nI (b + k))) y n (b + k) h8 hn (by omega)) gX6_next_X6_byteAt rfl ⟨rfl, rfl⟩ nmX6_byteAt ⟨Nat.le_of_ble_eq_true rfl, Nat.le_of_ble_eq_true rfl⟩ eT_b (fun _ _ _ => trivial) hK hP hD hS hA 0 rfl rfl rfl [0, 1] (by decide) rfl rfl rfl hl.1 (Nat.le_of_ble_eq_true rfl) dX6_next_165 ⟨Nat.zero_le _, Nat.zero_le _⟩ (fun _ => rfl) (fun _ => rfl) [a 0, a 5] rfl (fun _ => rfl) (fun r_165 u_165 H locs e_165 hP hD hS => ?_)
                obtain rfl := e_165
                refine tp (y := y (b + k)) (byF_in (by omega)) ?_
                refine lv_iadd F.1 F.2.1 dX6_next_168 ?_
                refine lv_bipush (v := 48) F.1 F.2.1 dX6_next_169 (by decide) ?_
                refine lv_isub F.1 F.2.1 dX6_next_171 ?_
                refine va_mmin F.1 F.2.1 (F.2.2.1.trans hl.1.symm) F.2.2.2.1 (F.2.2.2.2 _ (List.mem_of_getElem? (i := 5) rfl)) (F.2.2.2.2 _ (List.mem_of_getElem? (i := 6) rfl)) (F.2.2.2.2 _ (List.mem_of_getElem? (i := 7) rfl)) (F.2.2.2.2 _ (List.mem_of_getElem? (i := 8) rfl)) (Nat.le_of_ble_eq_true rfl) (Nat.le_of_ble_eq_true rfl) (Nat.zero_le _) (Nat.zero_le _) dX6_next_172 ?_
                refine tp (y := mn 1000 (((10 * (nvU y b k)) + (y (b + k))) - 48)) rfl ?_
                refine pf (ws' := oM a (upd (upd (upd (upd (upd v 9 (nI b)) 11 2) 12 (nvU y b k)) 10 (nI (b + k))) 12 (mn 1000 (((10 * (nvU y b k)) + (y (b + k))) - 48))) :: [ai ct (a 5) 120 y]) F hK hP hD hS 0 rfl rfl hiX6_next_6 tyX6 tyX6_ok nmX6 12 (by decide) (List.mem_of_getElem? (i := 3) rfl) rfl rfl rfl (Nat.le_of_ble_eq_true rfl) dX6_next_175 (weq.rf _) (fun H locs hP hD hS => ?_)
                refine lv_aload_n F.1 F.2.1 dX6_next_178 rfl (lv_at hl 0 rfl) ?_
                refine lv_dup F.1 F.2.1 dX6_next_179 rfl ?_
                refine gf F hK hP 0 rfl rfl hiX6_next_6 10 (by decide) (List.mem_of_getElem? (i := 1) rfl) rfl dX6_next_180 ?_
                refine tp (y := nI (b + k)) rfl ?_
                refine lv_iconst (v := 1) F.1 F.2.1 dX6_next_183 (by decide) ?_
                refine lv_iadd F.1 F.2.1 dX6_next_184 ?_
                refine tp (y := nI (b + k + 1)) (ad2 (a := b + k) (b := 1) (c := b + k + 1) rfl rfl rfl) ?_
                refine pf (ws' := oM a (upd (upd (upd (upd (upd (upd v 9 (nI b)) 11 2) 12 (nvU y b k)) 10 (nI (b + k))) 12 (mn 1000 (((10 * (nvU y b k)) + (y (b + k))) - 48))) 10 (nI (b + k + 1))) :: [ai ct (a 5) 120 y]) F hK hP hD hS 0 rfl rfl hiX6_next_6 tyX6 tyX6_ok nmX6 10 (by decide) (List.mem_of_getElem? (i := 1) rfl) rfl rfl rfl (Nat.le_of_ble_eq_true rfl) dX6_next_185 (weq.rf _) (fun H locs hP hD hS => ?_)
                refine lv_goto (tgt := 131) F.1 F.2.1 dX6_next_188 (by decide) ?_
                exact ih_131 _ _ _ ⟨hP, hD, hS, lv_sub hl [0] rfl⟩
        · have c_76 : 97 ≤ (y b) ∧ (y b) ≤ 122 := b01t rfl c_76
          obtain ⟨q, eq, hq1, hq2, hq3, hq4⟩ := rn_spec (P := leB y) (n := n) (p := b) (by omega)
          refine lv_aload_n F.1 F.2.1 dX6_next_79 rfl (lv_at hl 1 rfl) ?_
          refine lv_iconst (v := 1) F.1 F.2.1 dX6_next_80 (by decide) ?_
          refine pf (ws' := oM a (upd (upd (upd (upd v 9 (nI b)) 10 (nI b)) 12 0) 11 1) :: [ai ct (a 5) 120 y]) F hK hP hD hS 0 rfl rfl hiX6_next_6 tyX6 tyX6_ok nmX6 11 (by decide) (List.mem_of_getElem? (i := 4) rfl) rfl rfl rfl (Nat.le_of_ble_eq_true rfl) dX6_next_81 (weq.rf _) (fun H locs hP hD hS => ?_)
          refine loopN (I := fun k H locs ls => va_P (dC, dI) vwCl (oM a (upd (upd (upd (upd v 9 (nI b)) 12 0) 11 1) 10 (nI (b + k))) :: [ai ct (a 5) 120 y]) H ∧ va_D A (oM a (upd (upd (upd (upd v 9 (nI b)) 12 0) 11 1) 10 (nI (b + k))) :: [ai ct (a 5) 120 y]) ∧ va_S A z.heap H locs ∧ lv_has ls 2 [(0, .ref (a 0))]) (q - b) 0 (by omega) ⟨hP, hD, hS, lv_sub hl [1] rfl⟩ (fun H locs ls hI => ?_) (fun k hk_k H locs ls hI ih_84 => ?_)
          · obtain ⟨hP, hD, hS, hl⟩ := hI
            rw [show b + (q - b) = q by omega] at hP hD
            refine lv_aload_n F.1 F.2.1 dX6_next_84 rfl (lv_at hl 0 rfl) ?_
            refine lv_aload_n F.1 F.2.1 dX6_next_85 rfl (lv_at hl 0 rfl) ?_
            refine gf F hK hP 0 rfl rfl hiX6_next_6 10 (by decide) (List.mem_of_getElem? (i := 1) rfl) rfl dX6_next_86 ?_
            refine tp (y := nI q) pk_us ?_
            refine iV (rest := []) (wsp := fun _ => oM a (upd (upd (upd (upd v 9 (nI b)) 12 0) 11 1) 10 (nI q)) :: [ai ct (a 5) 120 y]) F (kX6_byteAt l dC dI ct a (upd (upd (upd (upd v 9 (nI b)) 12 0) 11 1) 10 (nI q)) y n q h8 hn (by omega)) gX6_next_X6_byteAt rfl ⟨rfl, rfl⟩ nmX6_byteAt ⟨Nat.le_of_ble_eq_true rfl, Nat.le_of_ble_eq_true rfl⟩ eT_b (fun _ _ _ => trivial) hK hP hD hS hA 0 rfl rfl rfl [0, 1] (by decide) rfl rfl rfl hl.1 (Nat.le_of_ble_eq_true rfl) dX6_next_89 ⟨Nat.zero_le _, Nat.zero_le _⟩ (fun _ => rfl) (fun _ => rfl) [a 0, a 5] rfl (fun _ => rfl) (fun r_89 u_89 H locs e_89 hP hD hS => ?_)
            obtain rfl := e_89
            refine lv_bipush (v := 97) F.1 F.2.1 dX6_next_92 (by decide) ?_
            refine lv_bipush (v := 122) F.1 F.2.1 dX6_next_94 (by decide) ?_
            refine iS (rest := []) (wsp := fun _ => oM a (upd (upd (upd (upd v 9 (nI b)) 12 0) 11 1) 10 (nI q)) :: [ai ct (a 5) 120 y]) F (kX6_within l dC dI ct (byF y n q) 97 122) gX6_next_X6_within rfl ⟨rfl, rfl⟩ nmX6_within ⟨Nat.le_of_ble_eq_true rfl, Nat.le_of_ble_eq_true rfl⟩ eT_b (fun _ _ _ => trivial) hK hP hD hS hA [] (by decide) rfl rfl rfl hl.1 (Nat.le_of_ble_eq_true rfl) dX6_next_96 ⟨Nat.zero_le _, Nat.zero_le _⟩ (fun _ => rfl) (fun _ => rfl) [a 0, a 5] rfl (fun _ => rfl) (fun r_96 u_96 H locs e_96 hP hD hS => ?_)
            obtain rfl := e_96
            refine lv_if_eq (tgt := 206) F.1 F.2.1 dX6_next_99 (by decide) (fun c_99 => ?_) (fun c_99 => ?_)
            · have c_99 : ¬ (97 ≤ (byF y n q) ∧ (byF y n q) ≤ 122) := b01f rfl c_99
              exact rtV (upd (upd (upd (upd v 9 (nI b)) 12 0) 11 1) 10 (nI q)) F hr hlk hP hS rfl (by have t := tok1 eb hbn c_76; rw [eq] at t; exact ⟨⟨by rw [eb]; rfl, by rw [t.2]; rfl, by rw [t.1]; rfl, by rw [t.1]; rfl⟩, fun j hj => by first | rfl | (repeat rw [pk_un (by omega)])⟩) dX6_next_206
            · exact absurd (if_neg (byL_no hq4)) c_99
          · obtain ⟨hP, hD, hS, hl⟩ := hI
            refine lv_aload_n F.1 F.2.1 dX6_next_84 rfl (lv_at hl 0 rfl) ?_
            refine lv_aload_n F.1 F.2.1 dX6_next_85 rfl (lv_at hl 0 rfl) ?_
            refine gf F hK hP 0 rfl rfl hiX6_next_6 10 (by decide) (List.mem_of_getElem? (i := 1) rfl) rfl dX6_next_86 ?_
            refine tp (y := nI (b + k)) pk_us ?_
            refine iV (rest := []) (wsp := fun _ => oM a (upd (upd (upd (upd v 9 (nI b)) 12 0) 11 1) 10 (nI (b + k))) :: [ai ct (a 5) 120 y]) F (kX6_byteAt l dC dI ct a (upd (upd (upd (upd v 9 (nI b)) 12 0) 11 1) 10 (nI (b + k))) y n (b + k) h8 hn (by omega)) gX6_next_X6_byteAt rfl ⟨rfl, rfl⟩ nmX6_byteAt ⟨Nat.le_of_ble_eq_true rfl, Nat.le_of_ble_eq_true rfl⟩ eT_b (fun _ _ _ => trivial) hK hP hD hS hA 0 rfl rfl rfl [0, 1] (by decide) rfl rfl rfl hl.1 (Nat.le_of_ble_eq_true rfl) dX6_next_89 ⟨Nat.zero_le _, Nat.zero_le _⟩ (fun _ => rfl) (fun _ => rfl) [a 0, a 5] rfl (fun _ => rfl) (fun r_89 u_89 H locs e_89 hP hD hS => ?_)
            obtain rfl := e_89
            refine lv_bipush (v := 97) F.1 F.2.1 dX6_next_92 (by decide) ?_
            refine lv_bipush (v := 122) F.1 F.2.1 dX6_next_94 (by decide) ?_
            refine iS (rest := []) (wsp := fun _ => oM a (upd (upd (upd (upd v 9 (nI b)) 12 0) 11 1) 10 (nI (b + k))) :: [ai ct (a 5) 120 y]) F (kX6_within l dC dI ct (byF y n (b + k)) 97 122) gX6_next_X6_within rfl ⟨rfl, rfl⟩ nmX6_within ⟨Nat.le_of_ble_eq_true rfl, Nat.le_of_ble_eq_true rfl⟩ eT_b (fun _ _ _ => trivial) hK hP hD hS hA [] (by decide) rfl rfl rfl hl.1 (Nat.le_of_ble_eq_true rfl) dX6_next_96 ⟨Nat.zero_le _, Nat.zero_le _⟩ (fun _ => rfl) (fun _ => rfl) [a 0, a 5] rfl (fun _ => rfl) (fun r_96 u_96 H locs e_96 hP hD hS => ?_)
            obtain rfl := e_96
            refine lv_if_eq (tgt := 206) F.1 F.2.1 dX6_next_99 (by decide) (fun c_99 => ?_) (fun c_99 => ?_)
            · exact absurd c_99 (by rw [if_pos (by rw [byF_in (by omega)]; exact leB_yes (hq3 (b + k) (by omega) (by omega)))]; decide)
            · have c_99 : 97 ≤ (byF y n (b + k)) ∧ (byF y n (b + k)) ≤ 122 := b01t rfl c_99
              refine lv_aload_n F.1 F.2.1 dX6_next_102 rfl (lv_at hl 0 rfl) ?_
              refine lv_dup F.1 F.2.1 dX6_next_103 rfl ?_
              refine gf F hK hP 0 rfl rfl hiX6_next_6 10 (by decide) (List.mem_of_getElem? (i := 1) rfl) rfl dX6_next_104 ?_
              refine tp (y := nI (b + k)) pk_us ?_
              refine lv_iconst (v := 1) F.1 F.2.1 dX6_next_107 (by decide) ?_
              refine lv_iadd F.1 F.2.1 dX6_next_108 ?_
              refine tp (y := nI (b + k + 1)) (ad2 (a := b + k) (b := 1) (c := b + k + 1) rfl rfl rfl) ?_
              refine pf (ws' := oM a (upd (upd (upd (upd (upd v 9 (nI b)) 12 0) 11 1) 10 (nI (b + k))) 10 (nI (b + k + 1))) :: [ai ct (a 5) 120 y]) F hK hP hD hS 0 rfl rfl hiX6_next_6 tyX6 tyX6_ok nmX6 10 (by decide) (List.mem_of_getElem? (i := 1) rfl) rfl rfl rfl (Nat.le_of_ble_eq_true rfl) dX6_next_109 (weq.rf _) (fun H locs hP hD hS => ?_)
              refine lv_goto (tgt := 84) F.1 F.2.1 dX6_next_112 (by decide) ?_
              rw [upd_upd] at hP hD
              exact ih_84 _ _ _ ⟨hP, hD, hS, lv_sub hl [0] rfl⟩
      · have hnb := byF_ge hy c_57
        refine lv_aload_n F.1 F.2.1 dX6_next_60 rfl (lv_at hl 1 rfl) ?_
        refine lv_iconst (v := 0) F.1 F.2.1 dX6_next_61 (by decide) ?_
        refine pf (ws' := oM a (upd (upd (upd (upd v 9 (nI b)) 10 (nI b)) 12 0) 11 0) :: [ai ct (a 5) 120 y]) F hK hP hD hS 0 rfl rfl hiX6_next_6 tyX6 tyX6_ok nmX6 11 (by decide) (List.mem_of_getElem? (i := 4) rfl) rfl rfl rfl (Nat.le_of_ble_eq_true rfl) dX6_next_62 (weq.rf _) (fun H locs hP hD hS => ?_)
        refine lv_goto (tgt := 206) F.1 F.2.1 dX6_next_65 (by decide) ?_
        exact rtV (upd (upd (upd (upd v 9 (nI b)) 10 (nI b)) 12 0) 11 0) F hr hlk hP hS rfl (by have t := tok0 eb hnb; exact ⟨⟨by rw [eb]; rfl, by rw [t.2]; rfl, by rw [t.1]; rfl, by rw [t.1]; rfl⟩, fun j hj => by first | rfl | (repeat rw [pk_un (by omega)])⟩) dX6_next_206
    · exact absurd c_18 (byF_b hb4)
  · obtain ⟨hP, hD, hS, hl⟩ := hI
    refine lv_aload_n F.1 F.2.1 dX6_next_8 rfl (lv_at hl 0 rfl) ?_
    refine lv_aload_n F.1 F.2.1 dX6_next_9 rfl (lv_at hl 0 rfl) ?_
    refine gf F hK hP 0 rfl rfl hiX6_next_6 9 (by decide) (List.mem_of_getElem? (i := 2) rfl) rfl dX6_next_10 ?_
    refine tp (y := nI (p + k)) pk_us ?_
    refine iV (rest := []) (wsp := fun _ => oM a (upd v 9 (nI (p + k))) :: [ai ct (a 5) 120 y]) F (kX6_byteAt l dC dI ct a (upd v 9 (nI (p + k))) y n (p + k) h8 hn (by omega)) gX6_next_X6_byteAt rfl ⟨rfl, rfl⟩ nmX6_byteAt ⟨Nat.le_of_ble_eq_true rfl, Nat.le_of_ble_eq_true rfl⟩ eT_b (fun _ _ _ => trivial) hK hP hD hS hA 0 rfl rfl rfl [0, 1] (by decide) rfl rfl rfl hl.1 (Nat.le_of_ble_eq_true rfl) dX6_next_13 ⟨Nat.zero_le _, Nat.zero_le _⟩ (fun _ => rfl) (fun _ => rfl) [a 0, a 5] rfl (fun _ => rfl) (fun r_13 u_13 H locs e_13 hP hD hS => ?_)
    obtain rfl := e_13
    refine lv_bipush (v := 32) F.1 F.2.1 dX6_next_16 (by decide) ?_
    refine lv_icmp_ne (tgt := 34) F.1 F.2.1 dX6_next_18 (by decide) (fun c_18 => ?_) (fun c_18 => ?_)
    · exact absurd ((if_pos (by omega)).trans (hb3 (p + k) (by omega) (by omega))) c_18
    · refine lv_aload_n F.1 F.2.1 dX6_next_21 rfl (lv_at hl 0 rfl) ?_
      refine lv_dup F.1 F.2.1 dX6_next_22 rfl ?_
      refine gf F hK hP 0 rfl rfl hiX6_next_6 9 (by decide) (List.mem_of_getElem? (i := 2) rfl) rfl dX6_next_23 ?_
      refine tp (y := nI (p + k)) pk_us ?_
      refine lv_iconst (v := 1) F.1 F.2.1 dX6_next_26 (by decide) ?_
      refine lv_iadd F.1 F.2.1 dX6_next_27 ?_
      refine tp (y := nI (p + k + 1)) (ad2 (a := p + k) (b := 1) (c := p + k + 1) rfl rfl rfl) ?_
      refine pf (ws' := oM a (upd (upd v 9 (nI (p + k))) 9 (nI (p + k + 1))) :: [ai ct (a 5) 120 y]) F hK hP hD hS 0 rfl rfl hiX6_next_6 tyX6 tyX6_ok nmX6 9 (by decide) (List.mem_of_getElem? (i := 2) rfl) rfl rfl rfl (Nat.le_of_ble_eq_true rfl) dX6_next_28 (weq.rf _) (fun H locs hP hD hS => ?_)
      refine lv_goto (tgt := 8) F.1 F.2.1 dX6_next_31 (by decide) ?_
      rw [upd_upd v 9] at hP hD
      exact ih_8 _ _ _ ⟨hP, hD, hS, lv_sub hl [0] rfl⟩
