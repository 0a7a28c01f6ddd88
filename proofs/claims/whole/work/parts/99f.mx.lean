def rmX6_text : Room := { frames := 7, cells := 0, slots := 0, locals := 155 }
theorem nmX6_text : NmV yX6_text RX6 0 := by unfold NmV; decide +kernel
theorem hiX6_text_6 : ∀ w ∈ u_ws RX6 TX6 22, w ∈ wsX6_text := by decide +kernel
set_option maxHeartbeats 4000000 in
set_option maxRecDepth 100000 in
theorem kX6_text (l : Launch) (dC : Nat → ClassId) (dI : Nat → Nat → Nat) (ct : Nat → ClassId) (K : Nat → Nat) (a : Nat → Nat) (v y : Nat → Int32) (n : Nat) (it f : Nat → Int32) (h8 : v 8 = nI n) (hn : n ≤ 120) (hy : ∀ j, j < n → by_ (y j)) : MI (S := (Nat → Int32) × (Nat → Int32) × (Nat → Int32)) l yX6_text wsX6_text rmX6_text dC dI ct (EQ K ct rfR [a 0, a 5, a 6, a 7, a 1]) [.ref (a 0)] (oM a v :: ai ct (a 5) 120 y :: (a 6, .inl (ct 3, 7, .inr (.inr (.inr (.inr (fun j => some (kS K j))))))) :: ai ct (a 7) 480 it :: [ai ct (a 1) 210 f]) (fun u => oM a u.1 :: ai ct (a 5) 120 y :: (a 6, .inl (ct 3, 7, .inr (.inr (.inr (.inr (fun j => some (kS K j))))))) :: ai ct (a 7) 480 u.2.1 :: [ai ct (a 1) 210 u.2.2]) (fun r u => TX y n v f r u.1 u.2.2) := by
  refine MI.ofz (cc := cX6_text) (maxL := 2) (ret := (some .int)) (by decide) rfl (Nat.le_of_ble_eq_true rfl) ?_
  intro pg en z mi below meth cd A F hr hlk hin hK hP hD hA hS hAz hE ls hl
  have hz := EQ_z (pre := oM a v :: ai ct (a 5) 120 y :: (a 6, .inl (ct 3, 7, .inr (.inr (.inr (.inr (fun j => some (kS K j))))))) :: ai ct (a 7) 480 it :: [ai ct (a 1) 210 f]) (show EQ K ct rfR (List.map Prod.fst (oM a v :: ai ct (a 5) 120 y :: (a 6, .inl (ct 3, 7, .inr (.inr (.inr (.inr (fun j => some (kS K j))))))) :: ai ct (a 7) 480 it :: [ai ct (a 1) 210 f])) z from hE) hAz
  have F : CallFix pg mi cd cX6_text 2 z _ wsX6_text RX6 := F
  have hl : lv_has ls 2 [(0, .ref (a 0))] := hl
  refine lv_aload_n F.1 F.2.1 dX6_text_0 rfl (lv_at hl 0 rfl) ?_
  refine lv_iconst (v := 0) F.1 F.2.1 dX6_text_1 (by decide) ?_
  refine pf (ws' := oM a (upd v 10 0) :: ai ct (a 5) 120 y :: (a 6, .inl (ct 3, 7, .inr (.inr (.inr (.inr (fun j => some (kS K j))))))) :: ai ct (a 7) 480 it :: [ai ct (a 1) 210 f]) F hK hP hD hS 0 rfl rfl hiX6_text_6 tyX6 tyX6_ok nmX6 10 (by decide) (List.mem_of_getElem? (i := 1) rfl) rfl rfl rfl (Nat.le_of_ble_eq_true rfl) dX6_text_2 (weq.rf _) (fun H locs hP hD hS => ?_)
  refine lv_aload_n F.1 F.2.1 dX6_text_5 rfl (lv_at hl 0 rfl) ?_
  refine lv_iconst (v := 0) F.1 F.2.1 dX6_text_6 (by decide) ?_
  refine pf (ws' := oM a (upd (upd v 10 0) 13 0) :: ai ct (a 5) 120 y :: (a 6, .inl (ct 3, 7, .inr (.inr (.inr (.inr (fun j => some (kS K j))))))) :: ai ct (a 7) 480 it :: [ai ct (a 1) 210 f]) F hK hP hD hS 0 rfl rfl hiX6_text_6 tyX6 tyX6_ok nmX6 13 (by decide) (List.mem_of_getElem? (i := 2) rfl) rfl rfl rfl (Nat.le_of_ble_eq_true rfl) dX6_text_7 (weq.rf _) (fun H locs hP hD hS => ?_)
  refine lv_aload_n F.1 F.2.1 dX6_text_10 rfl (lv_at hl 0 rfl) ?_
  refine lv_iconst (v := 0) F.1 F.2.1 dX6_text_11 (by decide) ?_
  refine pf (ws' := oM a (upd (upd (upd v 10 0) 13 0) 16 0) :: ai ct (a 5) 120 y :: (a 6, .inl (ct 3, 7, .inr (.inr (.inr (.inr (fun j => some (kS K j))))))) :: ai ct (a 7) 480 it :: [ai ct (a 1) 210 f]) F hK hP hD hS 0 rfl rfl hiX6_text_6 tyX6 tyX6_ok nmX6 16 (by decide) (List.mem_of_getElem? (i := 3) rfl) rfl rfl rfl (Nat.le_of_ble_eq_true rfl) dX6_text_12 (weq.rf _) (fun H locs hP hD hS => ?_)
  refine lv_aload_n F.1 F.2.1 dX6_text_15 rfl (lv_at hl 0 rfl) ?_
  refine lv_iconst (v := 0) F.1 F.2.1 dX6_text_16 (by decide) ?_
  refine pf (ws' := oM a (upd (upd (upd (upd v 10 0) 13 0) 16 0) 17 0) :: ai ct (a 5) 120 y :: (a 6, .inl (ct 3, 7, .inr (.inr (.inr (.inr (fun j => some (kS K j))))))) :: ai ct (a 7) 480 it :: [ai ct (a 1) 210 f]) F hK hP hD hS 0 rfl rfl hiX6_text_6 tyX6 tyX6_ok nmX6 17 (by decide) (List.mem_of_getElem? (i := 4) rfl) rfl rfl rfl (Nat.le_of_ble_eq_true rfl) dX6_text_17 (weq.rf _) (fun H locs hP hD hS => ?_)
  generalize hq_0 : upd (upd (upd (upd v 10 0) 13 0) 16 0) 17 0 = v1 at hP hD
  have g8_0 : v1 8 = nI n := by rw [← hq_0]; exact h8
  have g10_0 : v1 10 = nI 0 := by rw [← hq_0]; rfl
  have g13_0 : v1 13 = 0 := by rw [← hq_0]; rfl
  have g16_0 : v1 16 = nI 0 := by rw [← hq_0]; rfl
  have g17_0 : v1 17 = nI 0 := by rw [← hq_0]; rfl
  have g9_0 : ∀ j, j < 9 → v1 j = v j := fun j hj => by rw [← hq_0, pk_un (by omega), pk_un (by omega), pk_un (by omega), pk_un (by omega)]
  refine lv_aload_n F.1 F.2.1 dX6_text_20 rfl (lv_at hl 0 rfl) ?_
  refine vV (rest := []) (wsp := fun u_21 => oM a u_21 :: ai ct (a 5) 120 y :: (a 6, .inl (ct 3, 7, .inr (.inr (.inr (.inr (fun j => some (kS K j))))))) :: ai ct (a 7) 480 it :: [ai ct (a 1) 210 f]) F (kX6_next l dC dI ct a v1 y n 0 g8_0 hn g10_0 (Nat.zero_le _) hy) gX6_text_X6_next rfl ⟨rfl, rfl⟩ nmX6_next ⟨Nat.le_of_ble_eq_true rfl, Nat.le_of_ble_eq_true rfl⟩ eT_b (fun _ _ _ => trivial) hK hP hD hS hA 0 rfl rfl rfl [0, 1] (by decide) rfl rfl rfl hl.1 (Nat.le_of_ble_eq_true rfl) dX6_text_21 ⟨Nat.zero_le _, Nat.zero_le _⟩ (fun _ => rfl) (fun _ => rfl) [a 0, a 5, a 6, a 7, a 1] rfl (fun _ => rfl) (fun u_21 H locs e_21 hP hD hS => ?_)
  refine lv_aload_n F.1 F.2.1 dX6_text_24 rfl (lv_at hl 0 rfl) ?_
  refine vV (rest := []) (wsp := fun u_25 => oM a u_25.1 :: ai ct (a 5) 120 y :: (a 6, .inl (ct 3, 7, .inr (.inr (.inr (.inr (fun j => some (kS K j))))))) :: ai ct (a 7) 480 u_25.2 :: [ai ct (a 1) 210 f]) F (kX6_readItem l dC dI ct K a u_21 y n it f f 0 0 ((e_21.2 8 (Or.inl (by omega))).trans g8_0) hn (Nat.zero_le _) hy e_21.1 ((e_21.2 13 (Or.inr (by omega))).trans g13_0) ((e_21.2 16 (Or.inr (by omega))).trans g16_0) (Nat.le_refl _) rfl (fun k hk => absurd hk (Nat.not_lt_zero k))) gX6_text_X6_readItem rfl ⟨rfl, rfl⟩ nmX6_readItem ⟨Nat.le_of_ble_eq_true rfl, Nat.le_of_ble_eq_true rfl⟩ EQ_b (EQ_call hE hS hz [0, 1, 2, 3] rfl) hK hP hD hS hA 0 rfl rfl rfl [0, 1, 2, 3] (by decide) rfl rfl rfl hl.1 (Nat.le_of_ble_eq_true rfl) dX6_text_25 ⟨Nat.zero_le _, Nat.zero_le _⟩ (fun _ => rfl) (fun _ => rfl) [a 0, a 5, a 6, a 7, a 1] rfl (fun _ => rfl) (fun u_25 H locs e_25 hP hD hS => ?_)
  have hTI : TI y n v f 0 0 f u_25.1 u_25.2 := TI_of (Nat.zero_le _) (Nat.le_refl _) rfl ((e_21.2 17 (Or.inr (by omega))).trans g17_0) (fun j hj => (e_21.2 j (Or.inl (by omega))).trans (g9_0 j (by omega))) e_25
  refine loopN (I := fun k H locs ls => ∃ q : Nat, ∃ g : Nat → Int32, ∃ vv : Nat → Int32, ∃ it2 : Nat → Int32, va_P (dC, dI) vwCl (oM a vv :: ai ct (a 5) 120 y :: (a 6, .inl (ct 3, 7, .inr (.inr (.inr (.inr (fun j => some (kS K j))))))) :: ai ct (a 7) 480 it2 :: [ai ct (a 1) 210 f]) H ∧ va_D A (oM a vv :: ai ct (a 5) 120 y :: (a 6, .inl (ct 3, 7, .inr (.inr (.inr (.inr (fun j => some (kS K j))))))) :: ai ct (a 7) 480 it2 :: [ai ct (a 1) 210 f]) ∧ va_S A z.heap H locs ∧ lv_has ls 2 [(0, .ref (a 0))] ∧ TI y n v f k q g vv it2) 120 0 (by omega) ⟨0, f, u_25.1, u_25.2, hP, hD, hS, lv_sub hl [0] rfl, hTI⟩ (fun H locs ls hI => ?_) (fun k hk_k H locs ls hI ih_28 => ?_)
  · obtain ⟨q, g, vv, it2, hP, hD, hS, hl, hx⟩ := hI
    refine lv_aload_n F.1 F.2.1 dX6_text_28 rfl (lv_at hl 0 rfl) ?_
    obtain ⟨z1, z2, z3, z4, z5, z6, z7⟩ := hx
    have hpl := itF_n (y := y) (n := n) (f := g) z1
    rcases z7 with ⟨b1, b2, b3⟩ | ⟨b1, b2, b3, m, b4, b5, b6, b7⟩
    · skip
      refine gf F hK hP 0 rfl rfl hiX6_text_6 13 (by decide) (List.mem_of_getElem? (i := 2) rfl) rfl dX6_text_29 ?_
      refine lv_if_ne (tgt := 69) F.1 F.2.1 dX6_text_32 (by decide) (fun c_32 => ?_) (fun c_32 => ?_)
      · refine lv_aload_n F.1 F.2.1 dX6_text_69 rfl (lv_at hl 0 rfl) ?_
        refine lv_aload_n F.1 F.2.1 dX6_text_70 rfl (lv_at hl 0 rfl) ?_
        refine gf F hK hP 0 rfl rfl hiX6_text_6 11 (by decide) (List.mem_of_getElem? (i := 5) rfl) rfl dX6_text_71 ?_
        refine lv_if_ne (tgt := 81) F.1 F.2.1 dX6_text_74 (by decide) (fun c_74 => ?_) (fun c_74 => ?_)
        · refine lv_iconst (v := 0) F.1 F.2.1 dX6_text_81 (by decide) ?_
          refine vV (rest := []) (wsp := fun _ => oM a (upd vv 13 1) :: ai ct (a 5) 120 y :: (a 6, .inl (ct 3, 7, .inr (.inr (.inr (.inr (fun j => some (kS K j))))))) :: ai ct (a 7) 480 it2 :: [ai ct (a 1) 210 f]) F (kX6_mustN l dC dI ct a vv 0 (Or.inl b2)) gX6_text_X6_must rfl ⟨rfl, rfl⟩ nmX6_must ⟨Nat.le_of_ble_eq_true rfl, Nat.le_of_ble_eq_true rfl⟩ eT_b (fun _ _ _ => trivial) hK hP hD hS hA 0 rfl rfl rfl [0] (by decide) rfl rfl rfl hl.1 (Nat.le_of_ble_eq_true rfl) dX6_text_82 ⟨Nat.zero_le _, Nat.zero_le _⟩ (fun _ => rfl) (fun _ => rfl) [a 0, a 5, a 6, a 7, a 1] rfl (fun _ => rfl) (fun u_82 H locs e_82 hP hD hS => ?_)
          refine lv_aload_n F.1 F.2.1 dX6_text_85 rfl (lv_at hl 0 rfl) ?_
          refine lv_iconst (v := 0) F.1 F.2.1 dX6_text_86 (by decide) ?_
          refine pf (ws' := oM a (upd (upd vv 13 1) 8 0) :: ai ct (a 5) 120 y :: (a 6, .inl (ct 3, 7, .inr (.inr (.inr (.inr (fun j => some (kS K j))))))) :: ai ct (a 7) 480 it2 :: [ai ct (a 1) 210 f]) F hK hP hD hS 0 rfl rfl hiX6_text_6 tyX6 tyX6_ok nmX6 8 (by decide) (List.mem_of_getElem? (i := 8) rfl) rfl rfl rfl (Nat.le_of_ble_eq_true rfl) dX6_text_87 (weq.rf _) (fun H locs hP hD hS => ?_)
          refine lv_aload_n F.1 F.2.1 dX6_text_90 rfl (lv_at hl 0 rfl) ?_
          refine gf F hK hP 0 rfl rfl hiX6_text_6 13 (by decide) (List.mem_of_getElem? (i := 2) rfl) rfl dX6_text_91 ?_
          refine tp (y := 1) rfl ?_
          refine lv_if_eq (tgt := 104) F.1 F.2.1 dX6_text_94 (by decide) (fun c_94 => ?_) (fun c_94 => ?_)
          · exact absurd c_94 (by decide)
          · refine lv_iconst (v := (-1)) F.1 F.2.1 dX6_text_97 (by decide) ?_
            refine lv_aload_n F.1 F.2.1 dX6_text_98 rfl (lv_at hl 0 rfl) ?_
            refine gf F hK hP 0 rfl rfl hiX6_text_6 9 (by decide) (List.mem_of_getElem? (i := 7) rfl) rfl dX6_text_99 ?_
            refine tp (y := nI (tB y n (itF y n g q).2.1)) b3 ?_
            refine lv_isub F.1 F.2.1 dX6_text_102 ?_
            exact rtI (upd (upd vv 13 1) 8 0, it2, f) F hr hlk hP hS rfl (TX_bad (by have w1 := tE_le (y := y) hpl; omega) (by rw [← z3]; exact tx_0 hn z1 z2 rfl _) (show (upd (upd vv 13 1) 8 0) 8 = 0 from pk_us) (fun j hj => by show (upd (upd vv 13 1) 8 0) j = v j; rw [pk_un (by omega), pk_un (by omega)]; exact z6 j hj)) dX6_text_103
        · refine lv_iconst (v := 1) F.1 F.2.1 dX6_text_77 (by decide) ?_
          refine lv_goto (tgt := 82) F.1 F.2.1 dX6_text_78 (by decide) ?_
          refine vV (rest := []) (wsp := fun _ => oM a (upd vv 13 1) :: ai ct (a 5) 120 y :: (a 6, .inl (ct 3, 7, .inr (.inr (.inr (.inr (fun j => some (kS K j))))))) :: ai ct (a 7) 480 it2 :: [ai ct (a 1) 210 f]) F (kX6_mustN l dC dI ct a vv 1 (Or.inl b2)) gX6_text_X6_must rfl ⟨rfl, rfl⟩ nmX6_must ⟨Nat.le_of_ble_eq_true rfl, Nat.le_of_ble_eq_true rfl⟩ eT_b (fun _ _ _ => trivial) hK hP hD hS hA 0 rfl rfl rfl [0] (by decide) rfl rfl rfl hl.1 (Nat.le_of_ble_eq_true rfl) dX6_text_82 ⟨Nat.zero_le _, Nat.zero_le _⟩ (fun _ => rfl) (fun _ => rfl) [a 0, a 5, a 6, a 7, a 1] rfl (fun _ => rfl) (fun u_82 H locs e_82 hP hD hS => ?_)
          refine lv_aload_n F.1 F.2.1 dX6_text_85 rfl (lv_at hl 0 rfl) ?_
          refine lv_iconst (v := 0) F.1 F.2.1 dX6_text_86 (by decide) ?_
          refine pf (ws' := oM a (upd (upd vv 13 1) 8 0) :: ai ct (a 5) 120 y :: (a 6, .inl (ct 3, 7, .inr (.inr (.inr (.inr (fun j => some (kS K j))))))) :: ai ct (a 7) 480 it2 :: [ai ct (a 1) 210 f]) F hK hP hD hS 0 rfl rfl hiX6_text_6 tyX6 tyX6_ok nmX6 8 (by decide) (List.mem_of_getElem? (i := 8) rfl) rfl rfl rfl (Nat.le_of_ble_eq_true rfl) dX6_text_87 (weq.rf _) (fun H locs hP hD hS => ?_)
          refine lv_aload_n F.1 F.2.1 dX6_text_90 rfl (lv_at hl 0 rfl) ?_
          refine gf F hK hP 0 rfl rfl hiX6_text_6 13 (by decide) (List.mem_of_getElem? (i := 2) rfl) rfl dX6_text_91 ?_
          refine tp (y := 1) rfl ?_
          refine lv_if_eq (tgt := 104) F.1 F.2.1 dX6_text_94 (by decide) (fun c_94 => ?_) (fun c_94 => ?_)
          · exact absurd c_94 (by decide)
          · refine lv_iconst (v := (-1)) F.1 F.2.1 dX6_text_97 (by decide) ?_
            refine lv_aload_n F.1 F.2.1 dX6_text_98 rfl (lv_at hl 0 rfl) ?_
            refine gf F hK hP 0 rfl rfl hiX6_text_6 9 (by decide) (List.mem_of_getElem? (i := 7) rfl) rfl dX6_text_99 ?_
            refine tp (y := nI (tB y n (itF y n g q).2.1)) b3 ?_
            refine lv_isub F.1 F.2.1 dX6_text_102 ?_
            exact rtI (upd (upd vv 13 1) 8 0, it2, f) F hr hlk hP hS rfl (TX_bad (by have w1 := tE_le (y := y) hpl; omega) (by rw [← z3]; exact tx_0 hn z1 z2 rfl _) (show (upd (upd vv 13 1) 8 0) 8 = 0 from pk_us) (fun j hj => by show (upd (upd vv 13 1) 8 0) j = v j; rw [pk_un (by omega), pk_un (by omega)]; exact z6 j hj)) dX6_text_103
      · exact absurd c_32 b2
    · skip
      exact absurd (itF_lt z1 b1) (by omega)
  · obtain ⟨q, g, vv, it2, hP, hD, hS, hl, hx⟩ := hI
    refine lv_aload_n F.1 F.2.1 dX6_text_28 rfl (lv_at hl 0 rfl) ?_
    obtain ⟨z1, z2, z3, z4, z5, z6, z7⟩ := hx
    have hpl := itF_n (y := y) (n := n) (f := g) z1
    rcases z7 with ⟨b1, b2, b3⟩ | ⟨b1, b2, b3, m, b4, b5, b6, b7⟩
    · skip
      refine gf F hK hP 0 rfl rfl hiX6_text_6 13 (by decide) (List.mem_of_getElem? (i := 2) rfl) rfl dX6_text_29 ?_
      refine lv_if_ne (tgt := 69) F.1 F.2.1 dX6_text_32 (by decide) (fun c_32 => ?_) (fun c_32 => ?_)
      · refine lv_aload_n F.1 F.2.1 dX6_text_69 rfl (lv_at hl 0 rfl) ?_
        refine lv_aload_n F.1 F.2.1 dX6_text_70 rfl (lv_at hl 0 rfl) ?_
        refine gf F hK hP 0 rfl rfl hiX6_text_6 11 (by decide) (List.mem_of_getElem? (i := 5) rfl) rfl dX6_text_71 ?_
        refine lv_if_ne (tgt := 81) F.1 F.2.1 dX6_text_74 (by decide) (fun c_74 => ?_) (fun c_74 => ?_)
        · refine lv_iconst (v := 0) F.1 F.2.1 dX6_text_81 (by decide) ?_
          refine vV (rest := []) (wsp := fun _ => oM a (upd vv 13 1) :: ai ct (a 5) 120 y :: (a 6, .inl (ct 3, 7, .inr (.inr (.inr (.inr (fun j => some (kS K j))))))) :: ai ct (a 7) 480 it2 :: [ai ct (a 1) 210 f]) F (kX6_mustN l dC dI ct a vv 0 (Or.inl b2)) gX6_text_X6_must rfl ⟨rfl, rfl⟩ nmX6_must ⟨Nat.le_of_ble_eq_true rfl, Nat.le_of_ble_eq_true rfl⟩ eT_b (fun _ _ _ => trivial) hK hP hD hS hA 0 rfl rfl rfl [0] (by decide) rfl rfl rfl hl.1 (Nat.le_of_ble_eq_true rfl) dX6_text_82 ⟨Nat.zero_le _, Nat.zero_le _⟩ (fun _ => rfl) (fun _ => rfl) [a 0, a 5, a 6, a 7, a 1] rfl (fun _ => rfl) (fun u_82 H locs e_82 hP hD hS => ?_)
          refine lv_aload_n F.1 F.2.1 dX6_text_85 rfl (lv_at hl 0 rfl) ?_
          refine lv_iconst (v := 0) F.1 F.2.1 dX6_text_86 (by decide) ?_
          refine pf (ws' := oM a (upd (upd vv 13 1) 8 0) :: ai ct (a 5) 120 y :: (a 6, .inl (ct 3, 7, .inr (.inr (.inr (.inr (fun j => some (kS K j))))))) :: ai ct (a 7) 480 it2 :: [ai ct (a 1) 210 f]) F hK hP hD hS 0 rfl rfl hiX6_text_6 tyX6 tyX6_ok nmX6 8 (by decide) (List.mem_of_getElem? (i := 8) rfl) rfl rfl rfl (Nat.le_of_ble_eq_true rfl) dX6_text_87 (weq.rf _) (fun H locs hP hD hS => ?_)
          refine lv_aload_n F.1 F.2.1 dX6_text_90 rfl (lv_at hl 0 rfl) ?_
          refine gf F hK hP 0 rfl rfl hiX6_text_6 13 (by decide) (List.mem_of_getElem? (i := 2) rfl) rfl dX6_text_91 ?_
          refine tp (y := 1) rfl ?_
          refine lv_if_eq (tgt := 104) F.1 F.2.1 dX6_text_94 (by decide) (fun c_94 => ?_) (fun c_94 => ?_)
          · exact absurd c_94 (by decide)
          · refine lv_iconst (v := (-1)) F.1 F.2.1 dX6_text_97 (by decide) ?_
            refine lv_aload_n F.1 F.2.1 dX6_text_98 rfl (lv_at hl 0 rfl) ?_
            refine gf F hK hP 0 rfl rfl hiX6_text_6 9 (by decide) (List.mem_of_getElem? (i := 7) rfl) rfl dX6_text_99 ?_
            refine tp (y := nI (tB y n (itF y n g q).2.1)) b3 ?_
            refine lv_isub F.1 F.2.1 dX6_text_102 ?_
            exact rtI (upd (upd vv 13 1) 8 0, it2, f) F hr hlk hP hS rfl (TX_bad (by have w1 := tE_le (y := y) hpl; omega) (by rw [← z3, show 120 - k = (119 - k) + 1 by omega, tx_bad b1]) (show (upd (upd vv 13 1) 8 0) 8 = 0 from pk_us) (fun j hj => by show (upd (upd vv 13 1) 8 0) j = v j; rw [pk_un (by omega), pk_un (by omega)]; exact z6 j hj)) dX6_text_103
        · refine lv_iconst (v := 1) F.1 F.2.1 dX6_text_77 (by decide) ?_
          refine lv_goto (tgt := 82) F.1 F.2.1 dX6_text_78 (by decide) ?_
          refine vV (rest := []) (wsp := fun _ => oM a (upd vv 13 1) :: ai ct (a 5) 120 y :: (a 6, .inl (ct 3, 7, .inr (.inr (.inr (.inr (fun j => some (kS K j))))))) :: ai ct (a 7) 480 it2 :: [ai ct (a 1) 210 f]) F (kX6_mustN l dC dI ct a vv 1 (Or.inl b2)) gX6_text_X6_must rfl ⟨rfl, rfl⟩ nmX6_must ⟨Nat.le_of_ble_eq_true rfl, Nat.le_of_ble_eq_true rfl⟩ eT_b (fun _ _ _ => trivial) hK hP hD hS hA 0 rfl rfl rfl [0] (by decide) rfl rfl rfl hl.1 (Nat.le_of_ble_eq_true rfl) dX6_text_82 ⟨Nat.zero_le _, Nat.zero_le _⟩ (fun _ => rfl) (fun _ => rfl) [a 0, a 5, a 6, a 7, a 1] rfl (fun _ => rfl) (fun u_82 H locs e_82 hP hD hS => ?_)
          refine lv_aload_n F.1 F.2.1 dX6_text_85 rfl (lv_at hl 0 rfl) ?_
          refine lv_iconst (v := 0) F.1 F.2.1 dX6_text_86 (by decide) ?_
          refine pf (ws' := oM a (upd (upd vv 13 1) 8 0) :: ai ct (a 5) 120 y :: (a 6, .inl (ct 3, 7, .inr (.inr (.inr (.inr (fun j => some (kS K j))))))) :: ai ct (a 7) 480 it2 :: [ai ct (a 1) 210 f]) F hK hP hD hS 0 rfl rfl hiX6_text_6 tyX6 tyX6_ok nmX6 8 (by decide) (List.mem_of_getElem? (i := 8) rfl) rfl rfl rfl (Nat.le_of_ble_eq_true rfl) dX6_text_87 (weq.rf _) (fun H locs hP hD hS => ?_)
          refine lv_aload_n F.1 F.2.1 dX6_text_90 rfl (lv_at hl 0 rfl) ?_
          refine gf F hK hP 0 rfl rfl hiX6_text_6 13 (by decide) (List.mem_of_getElem? (i := 2) rfl) rfl dX6_text_91 ?_
          refine tp (y := 1) rfl ?_
          refine lv_if_eq (tgt := 104) F.1 F.2.1 dX6_text_94 (by decide) (fun c_94 => ?_) (fun c_94 => ?_)
          · exact absurd c_94 (by decide)
          · refine lv_iconst (v := (-1)) F.1 F.2.1 dX6_text_97 (by decide) ?_
            refine lv_aload_n F.1 F.2.1 dX6_text_98 rfl (lv_at hl 0 rfl) ?_
            refine gf F hK hP 0 rfl rfl hiX6_text_6 9 (by decide) (List.mem_of_getElem? (i := 7) rfl) rfl dX6_text_99 ?_
            refine tp (y := nI (tB y n (itF y n g q).2.1)) b3 ?_
            refine lv_isub F.1 F.2.1 dX6_text_102 ?_
            exact rtI (upd (upd vv 13 1) 8 0, it2, f) F hr hlk hP hS rfl (TX_bad (by have w1 := tE_le (y := y) hpl; omega) (by rw [← z3, show 120 - k = (119 - k) + 1 by omega, tx_bad b1]) (show (upd (upd vv 13 1) 8 0) 8 = 0 from pk_us) (fun j hj => by show (upd (upd vv 13 1) 8 0) j = v j; rw [pk_un (by omega), pk_un (by omega)]; exact z6 j hj)) dX6_text_103
      · exact absurd c_32 b2
    · skip
      refine gf F hK hP 0 rfl rfl hiX6_text_6 13 (by decide) (List.mem_of_getElem? (i := 2) rfl) rfl dX6_text_29 ?_
      refine lv_if_ne (tgt := 69) F.1 F.2.1 dX6_text_32 (by decide) (fun c_32 => ?_) (fun c_32 => ?_)
      · exact absurd b2 c_32
      · refine lv_aload_n F.1 F.2.1 dX6_text_35 rfl (lv_at hl 0 rfl) ?_
        refine gf F hK hP 0 rfl rfl hiX6_text_6 11 (by decide) (List.mem_of_getElem? (i := 5) rfl) rfl dX6_text_36 ?_
        refine tp (y := nI (min (tK y n (itF y n g q).2.1) 3)) b3.2.2.1 ?_
        refine lv_iconst (v := 3) F.1 F.2.1 dX6_text_39 (by decide) ?_
        refine lv_icmp_ne (tgt := 69) F.1 F.2.1 dX6_text_40 (by decide) (fun c_40 => ?_) (fun c_40 => ?_)
        · have hk3 : ¬ tK y n (itF y n g q).2.1 = 3 := fun w => c_40 (by rw [w]; rfl)
          refine lv_aload_n F.1 F.2.1 dX6_text_69 rfl (lv_at hl 0 rfl) ?_
          refine lv_aload_n F.1 F.2.1 dX6_text_70 rfl (lv_at hl 0 rfl) ?_
          refine gf F hK hP 0 rfl rfl hiX6_text_6 11 (by decide) (List.mem_of_getElem? (i := 5) rfl) rfl dX6_text_71 ?_
          refine tp (y := nI (min (tK y n (itF y n g q).2.1) 3)) b3.2.2.1 ?_
          refine lv_if_ne (tgt := 81) F.1 F.2.1 dX6_text_74 (by decide) (fun c_74 => ?_) (fun c_74 => ?_)
          · have hk0 : ¬ tK y n (itF y n g q).2.1 = 0 := fun w => c_74 (by rw [w]; rfl)
            refine lv_iconst (v := 0) F.1 F.2.1 dX6_text_81 (by decide) ?_
            refine vV (rest := []) (wsp := fun _ => oM a (upd vv 13 1) :: ai ct (a 5) 120 y :: (a 6, .inl (ct 3, 7, .inr (.inr (.inr (.inr (fun j => some (kS K j))))))) :: ai ct (a 7) 480 it2 :: [ai ct (a 1) 210 f]) F (kX6_mustN l dC dI ct a vv 0 (Or.inr rfl)) gX6_text_X6_must rfl ⟨rfl, rfl⟩ nmX6_must ⟨Nat.le_of_ble_eq_true rfl, Nat.le_of_ble_eq_true rfl⟩ eT_b (fun _ _ _ => trivial) hK hP hD hS hA 0 rfl rfl rfl [0] (by decide) rfl rfl rfl hl.1 (Nat.le_of_ble_eq_true rfl) dX6_text_82 ⟨Nat.zero_le _, Nat.zero_le _⟩ (fun _ => rfl) (fun _ => rfl) [a 0, a 5, a 6, a 7, a 1] rfl (fun _ => rfl) (fun u_82 H locs e_82 hP hD hS => ?_)
            refine lv_aload_n F.1 F.2.1 dX6_text_85 rfl (lv_at hl 0 rfl) ?_
            refine lv_iconst (v := 0) F.1 F.2.1 dX6_text_86 (by decide) ?_
            refine pf (ws' := oM a (upd (upd vv 13 1) 8 0) :: ai ct (a 5) 120 y :: (a 6, .inl (ct 3, 7, .inr (.inr (.inr (.inr (fun j => some (kS K j))))))) :: ai ct (a 7) 480 it2 :: [ai ct (a 1) 210 f]) F hK hP hD hS 0 rfl rfl hiX6_text_6 tyX6 tyX6_ok nmX6 8 (by decide) (List.mem_of_getElem? (i := 8) rfl) rfl rfl rfl (Nat.le_of_ble_eq_true rfl) dX6_text_87 (weq.rf _) (fun H locs hP hD hS => ?_)
            refine lv_aload_n F.1 F.2.1 dX6_text_90 rfl (lv_at hl 0 rfl) ?_
            refine gf F hK hP 0 rfl rfl hiX6_text_6 13 (by decide) (List.mem_of_getElem? (i := 2) rfl) rfl dX6_text_91 ?_
            refine tp (y := 1) rfl ?_
            refine lv_if_eq (tgt := 104) F.1 F.2.1 dX6_text_94 (by decide) (fun c_94 => ?_) (fun c_94 => ?_)
            · exact absurd c_94 (by decide)
            · refine lv_iconst (v := (-1)) F.1 F.2.1 dX6_text_97 (by decide) ?_
              refine lv_aload_n F.1 F.2.1 dX6_text_98 rfl (lv_at hl 0 rfl) ?_
              refine gf F hK hP 0 rfl rfl hiX6_text_6 9 (by decide) (List.mem_of_getElem? (i := 7) rfl) rfl dX6_text_99 ?_
              refine tp (y := nI (tB y n (itF y n g q).2.1)) b3.1 ?_
              refine lv_isub F.1 F.2.1 dX6_text_102 ?_
              exact rtI (upd (upd vv 13 1) 8 0, it2, f) F hr hlk hP hS rfl (TX_bad (by have w1 := tE_le (y := y) hpl; omega) (by rw [← z3, show 120 - k = (119 - k) + 1 by omega, tx_no (by rw [b1]; decide) hk0 hk3]) (show (upd (upd vv 13 1) 8 0) 8 = 0 from pk_us) (fun j hj => by show (upd (upd vv 13 1) 8 0) j = v j; rw [pk_un (by omega), pk_un (by omega)]; exact z6 j hj)) dX6_text_103
          · have hk0 : tK y n (itF y n g q).2.1 = 0 := by have w1 := nI_of_eq (b := 0) c_74 (by omega) (by omega); omega
            refine lv_iconst (v := 1) F.1 F.2.1 dX6_text_77 (by decide) ?_
            refine lv_goto (tgt := 82) F.1 F.2.1 dX6_text_78 (by decide) ?_
            refine vV (rest := []) (wsp := fun u_82 => oM a u_82 :: ai ct (a 5) 120 y :: (a 6, .inl (ct 3, 7, .inr (.inr (.inr (.inr (fun j => some (kS K j))))))) :: ai ct (a 7) 480 it2 :: [ai ct (a 1) 210 f]) F (kX6_mustY l dC dI ct a vv y n ((itF y n g q).2.1) z5 hn hpl hy b3 b2) gX6_text_X6_must rfl ⟨rfl, rfl⟩ nmX6_must ⟨Nat.le_of_ble_eq_true rfl, Nat.le_of_ble_eq_true rfl⟩ eT_b (fun _ _ _ => trivial) hK hP hD hS hA 0 rfl rfl rfl [0, 1] (by decide) rfl rfl rfl hl.1 (Nat.le_of_ble_eq_true rfl) dX6_text_82 ⟨Nat.zero_le _, Nat.zero_le _⟩ (fun _ => rfl) (fun _ => rfl) [a 0, a 5, a 6, a 7, a 1] rfl (fun _ => rfl) (fun u_82 H locs e_82 hP hD hS => ?_)
            refine lv_aload_n F.1 F.2.1 dX6_text_85 rfl (lv_at hl 0 rfl) ?_
            refine lv_iconst (v := 0) F.1 F.2.1 dX6_text_86 (by decide) ?_
            refine pf (ws' := oM a (upd u_82 8 0) :: ai ct (a 5) 120 y :: (a 6, .inl (ct 3, 7, .inr (.inr (.inr (.inr (fun j => some (kS K j))))))) :: ai ct (a 7) 480 it2 :: [ai ct (a 1) 210 f]) F hK hP hD hS 0 rfl rfl hiX6_text_6 tyX6 tyX6_ok nmX6 8 (by decide) (List.mem_of_getElem? (i := 8) rfl) rfl rfl rfl (Nat.le_of_ble_eq_true rfl) dX6_text_87 (weq.rf _) (fun H locs hP hD hS => ?_)
            refine lv_aload_n F.1 F.2.1 dX6_text_90 rfl (lv_at hl 0 rfl) ?_
            refine gf F hK hP 0 rfl rfl hiX6_text_6 13 (by decide) (List.mem_of_getElem? (i := 2) rfl) rfl dX6_text_91 ?_
            refine tp (y := 0) ((e_82.2 13 (Or.inr (by omega))).trans b2) ?_
            refine lv_if_eq (tgt := 104) F.1 F.2.1 dX6_text_94 (by decide) (fun c_94 => ?_) (fun c_94 => ?_)
            · refine lv_iconst (v := 0) F.1 F.2.1 dX6_text_104 (by decide) ?_
              refine lv_istore_n (lv' := [(1, .int 0), (0, .ref (a 0))]) F.1 F.2.1 dX6_text_105 rfl hl (by decide) rfl (fun ls hl => ?_)
              refine loopN (I := fun j H locs ls => va_P (dC, dI) vwCl (oM a (upd u_82 8 0) :: ai ct (a 5) 120 y :: (a 6, .inl (ct 3, 7, .inr (.inr (.inr (.inr (fun j => some (kS K j))))))) :: ai ct (a 7) 480 it2 :: [ai ct (a 1) 210 (apU it2 j f)]) H ∧ va_D A (oM a (upd u_82 8 0) :: ai ct (a 5) 120 y :: (a 6, .inl (ct 3, 7, .inr (.inr (.inr (.inr (fun j => some (kS K j))))))) :: ai ct (a 7) 480 it2 :: [ai ct (a 1) 210 (apU it2 j f)]) ∧ va_S A z.heap H locs ∧ lv_has ls 2 [(1, .int (nI j)), (0, .ref (a 0))]) m 0 (by omega) ⟨hP, hD, hS, lv_sub hl [0, 1] rfl⟩ (fun H locs ls hI => ?_) (fun j hk_j H locs ls hI ih_106 => ?_)
              · obtain ⟨hP, hD, hS, hl⟩ := hI
                refine lv_iload_n F.1 F.2.1 dX6_text_106 rfl (lv_at hl 0 rfl) ?_
                refine lv_aload_n F.1 F.2.1 dX6_text_107 rfl (lv_at hl 1 rfl) ?_
                refine gf F hK hP 0 rfl rfl hiX6_text_6 16 (by decide) (List.mem_of_getElem? (i := 3) rfl) rfl dX6_text_108 ?_
                refine tp (y := nI m) ((e_82.2 16 (Or.inr (by omega))).trans b4) ?_
                refine lv_icmp_ge (tgt := 143) F.1 F.2.1 dX6_text_111 (by decide) (fun c_111 => ?_) (fun c_111 => ?_)
                · refine lv_aload_n F.1 F.2.1 dX6_text_143 rfl (lv_at hl 1 rfl) ?_
                  refine gf F hK hP 0 rfl rfl hiX6_text_6 17 (by decide) (List.mem_of_getElem? (i := 4) rfl) rfl dX6_text_144 ?_
                  refine tp (y := nI (k + 1)) ((e_82.2 17 (Or.inr (by omega))).trans z4) ?_
                  exact rtI (upd u_82 8 0, it2, apU it2 m f) F hr hlk hP hS rfl (TX_ok (by omega) (by rw [← z3, show 120 - k = (119 - k) + 1 by omega, tx_end (by rw [b1]; decide) hk0, b6]) (show (upd u_82 8 0) 8 = 0 from pk_us) (fun j hj => by show (upd u_82 8 0) j = v j; rw [pk_un (by omega)]; exact (e_82.2 j (Or.inl (by omega))).trans (z6 j hj))) dX6_text_147
                · exact absurd (nI_le (Nat.le_refl _) (by omega)) c_111
              · obtain ⟨hP, hD, hS, hl⟩ := hI
                obtain ⟨i2, hi2, ei2⟩ := b7 j hk_j
                refine lv_iload_n F.1 F.2.1 dX6_text_106 rfl (lv_at hl 0 rfl) ?_
                refine lv_aload_n F.1 F.2.1 dX6_text_107 rfl (lv_at hl 1 rfl) ?_
                refine gf F hK hP 0 rfl rfl hiX6_text_6 16 (by decide) (List.mem_of_getElem? (i := 3) rfl) rfl dX6_text_108 ?_
                refine tp (y := nI m) ((e_82.2 16 (Or.inr (by omega))).trans b4) ?_
                refine lv_icmp_ge (tgt := 143) F.1 F.2.1 dX6_text_111 (by decide) (fun c_111 => ?_) (fun c_111 => ?_)
                · exact absurd c_111 (nI_ge hk_j (by omega))
                · refine lv_aload_n F.1 F.2.1 dX6_text_114 rfl (lv_at hl 1 rfl) ?_
                  refine gf F hK hP 0 rfl rfl hiX6_text_6 0 (by decide) (List.mem_of_getElem? (i := 9) rfl) rfl dX6_text_115 ?_
                  refine lv_aload_n F.1 F.2.1 dX6_text_118 rfl (lv_at hl 1 rfl) ?_
                  refine gf F hK hP 0 rfl rfl hiX6_text_6 15 (by decide) (List.mem_of_getElem? (i := 10) rfl) rfl dX6_text_119 ?_
                  refine lv_iconst (v := 2) F.1 F.2.1 dX6_text_122 (by decide) ?_
                  refine lv_iload_n F.1 F.2.1 dX6_text_123 rfl (lv_at hl 0 rfl) ?_
                  refine lv_imul F.1 F.2.1 dX6_text_124 ?_
                  refine tp (y := nI (2 * j)) (ml2 (a := 2) (b := j) (c := 2 * j) rfl rfl rfl) ?_
                  refine al (v := it2 (2 * j)) F hK hP 3 0 rfl rfl (2 * j) rfl (by omega) (by decide) rfl dX6_text_125 ?_
                  refine tp (y := nI i2) ei2 ?_
                  refine lv_aload_n F.1 F.2.1 dX6_text_126 rfl (lv_at hl 1 rfl) ?_
                  refine gf F hK hP 0 rfl rfl hiX6_text_6 15 (by decide) (List.mem_of_getElem? (i := 10) rfl) rfl dX6_text_127 ?_
                  refine lv_iconst (v := 2) F.1 F.2.1 dX6_text_130 (by decide) ?_
                  refine lv_iload_n F.1 F.2.1 dX6_text_131 rfl (lv_at hl 0 rfl) ?_
                  refine lv_imul F.1 F.2.1 dX6_text_132 ?_
                  refine tp (y := nI (2 * j)) (ml2 (a := 2) (b := j) (c := 2 * j) rfl rfl rfl) ?_
                  refine lv_iconst (v := 1) F.1 F.2.1 dX6_text_133 (by decide) ?_
                  refine lv_iadd F.1 F.2.1 dX6_text_134 ?_
                  refine tp (y := nI (2 * j + 1)) (ad2 (a := 2 * j) (b := 1) (c := 2 * j + 1) rfl rfl rfl) ?_
                  refine al (v := it2 (2 * j + 1)) F hK hP 3 0 rfl rfl (2 * j + 1) rfl (by omega) (by decide) rfl dX6_text_135 ?_
                  refine ast (ws' := oM a (upd u_82 8 0) :: ai ct (a 5) 120 y :: (a 6, .inl (ct 3, 7, .inr (.inr (.inr (.inr (fun j => some (kS K j))))))) :: ai ct (a 7) 480 it2 :: [ai ct (a 1) 210 (upd (apU it2 j f) i2 (it2 (2 * j + 1)))]) F hK hP hD hS 4 0 rfl rfl i2 rfl (by omega) (by decide) dX6_text_136 (weq.rf _) (fun H locs hP hD hS => ?_)
                  refine lv_iinc (v := nI (j + 1)) (lv' := [(1, .int (nI (j + 1))), (0, .ref (a 0))]) F.1 F.2.1 dX6_text_137 hl (k := 0) rfl (by rw [show Int32.ofInt 1 = nI 1 from rfl, nI_add]) (by decide) rfl (fun ls hl => ?_)
                  refine lv_goto (tgt := 106) F.1 F.2.1 dX6_text_140 (by decide) ?_
                  have eb : apU it2 (j + 1) f = upd (apU it2 j f) i2 (it2 (2 * j + 1)) := by rw [apU, ei2, show tn (nI i2) = i2 from nI_clamp (by omega)]
                  rw [← eb] at hP hD
                  exact ih_106 _ _ _ ⟨hP, hD, hS, lv_sub hl [0, 1] rfl⟩
            · exact absurd rfl c_94
        · have hK3 : 3 ≤ tK y n (itF y n g q).2.1 := by have w1 := nI_of_eq (b := 3) c_40 (by omega) (by omega); omega
          have hjb : tB y n (itF y n g q).2.1 < 120 := by have w1 := tE_le (y := y) hpl; have w2 := w1.2.2.2 (by omega); omega
          refine lv_aload_n F.1 F.2.1 dX6_text_43 rfl (lv_at hl 0 rfl) ?_
          refine gf F hK hP 0 rfl rfl hiX6_text_6 7 (by decide) (List.mem_of_getElem? (i := 6) rfl) rfl dX6_text_44 ?_
          refine lv_aload_n F.1 F.2.1 dX6_text_47 rfl (lv_at hl 0 rfl) ?_
          refine gf F hK hP 0 rfl rfl hiX6_text_6 9 (by decide) (List.mem_of_getElem? (i := 7) rfl) rfl dX6_text_48 ?_
          refine tp (y := nI (tB y n (itF y n g q).2.1)) b3.1 ?_
          refine al (v := y (tB y n (itF y n g q).2.1)) F hK hP 1 0 rfl rfl (tB y n (itF y n g q).2.1) rfl hjb (by decide) rfl dX6_text_51 ?_
          refine lv_bipush (v := 59) F.1 F.2.1 dX6_text_52 (by decide) ?_
          refine lv_icmp_ne (tgt := 69) F.1 F.2.1 dX6_text_54 (by decide) (fun c_54 => ?_) (fun c_54 => ?_)
          · refine lv_aload_n F.1 F.2.1 dX6_text_69 rfl (lv_at hl 0 rfl) ?_
            refine lv_aload_n F.1 F.2.1 dX6_text_70 rfl (lv_at hl 0 rfl) ?_
            refine gf F hK hP 0 rfl rfl hiX6_text_6 11 (by decide) (List.mem_of_getElem? (i := 5) rfl) rfl dX6_text_71 ?_
            refine tp (y := nI (min (tK y n (itF y n g q).2.1) 3)) b3.2.2.1 ?_
            refine lv_if_ne (tgt := 81) F.1 F.2.1 dX6_text_74 (by decide) (fun c_74 => ?_) (fun c_74 => ?_)
            · refine lv_iconst (v := 0) F.1 F.2.1 dX6_text_81 (by decide) ?_
              refine vV (rest := []) (wsp := fun _ => oM a (upd vv 13 1) :: ai ct (a 5) 120 y :: (a 6, .inl (ct 3, 7, .inr (.inr (.inr (.inr (fun j => some (kS K j))))))) :: ai ct (a 7) 480 it2 :: [ai ct (a 1) 210 f]) F (kX6_mustN l dC dI ct a vv 0 (Or.inr rfl)) gX6_text_X6_must rfl ⟨rfl, rfl⟩ nmX6_must ⟨Nat.le_of_ble_eq_true rfl, Nat.le_of_ble_eq_true rfl⟩ eT_b (fun _ _ _ => trivial) hK hP hD hS hA 0 rfl rfl rfl [0] (by decide) rfl rfl rfl hl.1 (Nat.le_of_ble_eq_true rfl) dX6_text_82 ⟨Nat.zero_le _, Nat.zero_le _⟩ (fun _ => rfl) (fun _ => rfl) [a 0, a 5, a 6, a 7, a 1] rfl (fun _ => rfl) (fun u_82 H locs e_82 hP hD hS => ?_)
              refine lv_aload_n F.1 F.2.1 dX6_text_85 rfl (lv_at hl 0 rfl) ?_
              refine lv_iconst (v := 0) F.1 F.2.1 dX6_text_86 (by decide) ?_
              refine pf (ws' := oM a (upd (upd vv 13 1) 8 0) :: ai ct (a 5) 120 y :: (a 6, .inl (ct 3, 7, .inr (.inr (.inr (.inr (fun j => some (kS K j))))))) :: ai ct (a 7) 480 it2 :: [ai ct (a 1) 210 f]) F hK hP hD hS 0 rfl rfl hiX6_text_6 tyX6 tyX6_ok nmX6 8 (by decide) (List.mem_of_getElem? (i := 8) rfl) rfl rfl rfl (Nat.le_of_ble_eq_true rfl) dX6_text_87 (weq.rf _) (fun H locs hP hD hS => ?_)
              refine lv_aload_n F.1 F.2.1 dX6_text_90 rfl (lv_at hl 0 rfl) ?_
              refine gf F hK hP 0 rfl rfl hiX6_text_6 13 (by decide) (List.mem_of_getElem? (i := 2) rfl) rfl dX6_text_91 ?_
              refine tp (y := 1) rfl ?_
              refine lv_if_eq (tgt := 104) F.1 F.2.1 dX6_text_94 (by decide) (fun c_94 => ?_) (fun c_94 => ?_)
              · exact absurd c_94 (by decide)
              · refine lv_iconst (v := (-1)) F.1 F.2.1 dX6_text_97 (by decide) ?_
                refine lv_aload_n F.1 F.2.1 dX6_text_98 rfl (lv_at hl 0 rfl) ?_
                refine gf F hK hP 0 rfl rfl hiX6_text_6 9 (by decide) (List.mem_of_getElem? (i := 7) rfl) rfl dX6_text_99 ?_
                refine tp (y := nI (tB y n (itF y n g q).2.1)) b3.1 ?_
                refine lv_isub F.1 F.2.1 dX6_text_102 ?_
                exact rtI (upd (upd vv 13 1) 8 0, it2, f) F hr hlk hP hS rfl (TX_bad (by have w1 := tE_le (y := y) hpl; omega) (by rw [← z3, show 120 - k = (119 - k) + 1 by omega, tx_no (by rw [b1]; decide) (by omega) (tK4_of c_54)]) (show (upd (upd vv 13 1) 8 0) 8 = 0 from pk_us) (fun j hj => by show (upd (upd vv 13 1) 8 0) j = v j; rw [pk_un (by omega), pk_un (by omega)]; exact z6 j hj)) dX6_text_103
            · exact absurd c_74 (fun w => by have w1 := nI_of_eq (b := 0) w (by omega) (by omega); omega)
          · have hk3 : tK y n (itF y n g q).2.1 = 3 := tK3_of hK3 c_54
            refine lv_aload_n F.1 F.2.1 dX6_text_57 rfl (lv_at hl 0 rfl) ?_
            refine lv_iconst (v := 1) F.1 F.2.1 dX6_text_58 (by decide) ?_
            refine vV (rest := []) (wsp := fun u_59 => oM a u_59 :: ai ct (a 5) 120 y :: (a 6, .inl (ct 3, 7, .inr (.inr (.inr (.inr (fun j => some (kS K j))))))) :: ai ct (a 7) 480 it2 :: [ai ct (a 1) 210 f]) F (kX6_mustY l dC dI ct a vv y n ((itF y n g q).2.1) z5 hn hpl hy b3 b2) gX6_text_X6_must rfl ⟨rfl, rfl⟩ nmX6_must ⟨Nat.le_of_ble_eq_true rfl, Nat.le_of_ble_eq_true rfl⟩ eT_b (fun _ _ _ => trivial) hK hP hD hS hA 0 rfl rfl rfl [0, 1] (by decide) rfl rfl rfl hl.1 (Nat.le_of_ble_eq_true rfl) dX6_text_59 ⟨Nat.zero_le _, Nat.zero_le _⟩ (fun _ => rfl) (fun _ => rfl) [a 0, a 5, a 6, a 7, a 1] rfl (fun _ => rfl) (fun u_59 H locs e_59 hP hD hS => ?_)
            refine lv_aload_n F.1 F.2.1 dX6_text_62 rfl (lv_at hl 0 rfl) ?_
            refine vV (rest := []) (wsp := fun u_63 => oM a u_63.1 :: ai ct (a 5) 120 y :: (a 6, .inl (ct 3, 7, .inr (.inr (.inr (.inr (fun j => some (kS K j))))))) :: ai ct (a 7) 480 u_63.2 :: [ai ct (a 1) 210 f]) F (kX6_readItem l dC dI ct K a u_59 y n it2 f ((itF y n g q).2.2) (tE y n (itF y n g q).2.1) m ((e_59.2 8 (Or.inl (by omega))).trans z5) hn (tE_n hpl) hy e_59.1 ((e_59.2 13 (Or.inr (by omega))).trans b2) ((e_59.2 16 (Or.inr (by omega))).trans b4) (by have w1 := tE_ge (y := y) hpl; omega) b6 b7) gX6_text_X6_readItem rfl ⟨rfl, rfl⟩ nmX6_readItem ⟨Nat.le_of_ble_eq_true rfl, Nat.le_of_ble_eq_true rfl⟩ EQ_b (EQ_call hE hS hz [0, 1, 2, 3] rfl) hK hP hD hS hA 0 rfl rfl rfl [0, 1, 2, 3] (by decide) rfl rfl rfl hl.1 (Nat.le_of_ble_eq_true rfl) dX6_text_63 ⟨Nat.zero_le _, Nat.zero_le _⟩ (fun _ => rfl) (fun _ => rfl) [a 0, a 5, a 6, a 7, a 1] rfl (fun _ => rfl) (fun u_63 H locs e_63 hP hD hS => ?_)
            refine lv_goto (tgt := 28) F.1 F.2.1 dX6_text_66 (by decide) ?_
            exact ih_28 _ _ _ ⟨(tE y n (itF y n g q).2.1), (itF y n g q).2.2, u_63.1, u_63.2, hP, hD, hS, lv_sub hl [0] rfl, (TI_of (tE_n hpl) (by have w1 := tE_ge (y := y) hpl; have w2 := itF_lt z1 b1; omega) (by rw [← z3, show 120 - k = (119 - k) + 1 by omega, tx_go (by rw [b1]; decide) hk3, show 120 - (k + 1) = 119 - k by omega]) ((e_59.2 17 (Or.inr (by omega))).trans z4) (fun j hj => (e_59.2 j (Or.inl (by omega))).trans (z6 j hj)) e_63)⟩
