def rmX2_tell : Room := { frames := 8, cells := 0, slots := 0, locals := 174 }
theorem nmX2_tell : NmV yX2_tell RX2 1 := by unfold NmV; decide +kernel
theorem hiX2_tell_2 : ∀ w ∈ u_ws RX2 TX2 6, w ∈ wsX2_tell := by decide +kernel
set_option maxHeartbeats 4000000 in
set_option maxRecDepth 100000 in
theorem kX2_tell (l : Launch) (dC : Nat → ClassId) (dI : Nat → Nat → Nat) (ct : Nat → ClassId) (K : Nat → Nat) (sc ty : Nat) (e : Nat → Nat) (y f : Nat → Int32) (n : Nat) (t1 t2 t3 t4 : Int32) (hn : n ≤ 120) : MI (S := Nat × Int32 × (Nat → Int32)) l yX2_tell wsX2_tell rmX2_tell dC dI ct (EQ K ct rfS [sc, ty, e 0, e 1, e 2, e 3, e 4, e 5, e 6]) [.ref sc, .ref (e 0)] ((sc, .inr (2, [.ref ty, .int (nI n), .int t1, .int t2, .int t3, .int t4])) :: ai ct ty 120 y :: wB ct e f) (fun u => (sc, .inr (2, [.ref ty, .int (nI n), .int (nI (tK y n u.1)), .int (nI (tB y n u.1)), .int (nI (tE y n u.1)), .int (tW y n u.1 u.2.1)])) :: ai ct ty 120 y :: wB ct e u.2.2) (fun r u => (r, u.2.2) = txU y n 120 1 0 f) := by
  refine MI.ofz (cc := cX2_tell) (maxL := 3) (ret := (some .int)) (by decide) rfl (Nat.le_of_ble_eq_true rfl) ?_
  intro pg en z mi below meth cd A F hr hlk hin hK hP hD hA hS hAz hE ls hl
  have hz := EQ_z (pre := (sc, .inr (2, [.ref ty, .int (nI n), .int t1, .int t2, .int t3, .int t4])) :: ai ct ty 120 y :: wB ct e f) (show EQ K ct rfS (List.map Prod.fst ((sc, .inr (2, [.ref ty, .int (nI n), .int t1, .int t2, .int t3, .int t4])) :: ai ct ty 120 y :: wB ct e f)) z from hE) hAz
  have F : CallFix pg mi cd cX2_tell 3 z _ wsX2_tell RX2 := F
  have hl : lv_has ls 3 [(0, .ref sc), (1, .ref (e 0))] := hl
  refine lv_aload_n F.1 F.2.1 dX2_tell_0 rfl (lv_at hl 0 rfl) ?_
  refine lv_iconst (v := 0) F.1 F.2.1 dX2_tell_1 (by decide) ?_
  refine pf (ws' := (sc, .inr (2, [.ref ty, .int (nI n), .int t1, .int t2, .int 0, .int t4])) :: ai ct ty 120 y :: wB ct e f) F hK hP hD hS 0 rfl rfl hiX2_tell_2 tyX2 tyX2_ok nmX2 4 (by decide) (List.mem_of_getElem? (i := 1) rfl) rfl rfl rfl (Nat.le_of_ble_eq_true rfl) dX2_tell_2 (weq.rf _) (fun H locs hP hD hS => ?_)
  refine lv_aload_n F.1 F.2.1 dX2_tell_5 rfl (lv_at hl 0 rfl) ?_
  refine vV (rest := []) (wsp := fun _ => (sc, .inr (2, [.ref ty, .int (nI n), .int (nI (tK y n 0)), .int (nI (tB y n 0)), .int (nI (tE y n 0)), .int (tW y n 0 t4)])) :: ai ct ty 120 y :: wB ct e f) F (kX2_advance l dC dI ct sc ty y n t1 t2 t4 0 hn (by omega)) gX2_tell_X2_advance rfl ⟨rfl, rfl⟩ nmX2_advance ⟨Nat.le_of_ble_eq_true rfl, Nat.le_of_ble_eq_true rfl⟩ eT_b (fun _ _ _ => trivial) hK hP hD hS hA 0 rfl rfl rfl [0, 1] (by decide) rfl rfl rfl hl.1 (Nat.le_of_ble_eq_true rfl) dX2_tell_6 ⟨Nat.zero_le _, Nat.zero_le _⟩ (fun _ => rfl) (fun _ => rfl) [sc, ty, e 0, e 1, e 2, e 3, e 4, e 5, e 6] rfl (fun _ => rfl) (fun u_6 H locs e_6 hP hD hS => ?_)
  refine lv_iconst (v := 1) F.1 F.2.1 dX2_tell_9 (by decide) ?_
  refine lv_istore_n (lv' := [(2, .int 1), (0, .ref sc), (1, .ref (e 0))]) F.1 F.2.1 dX2_tell_10 rfl hl (by decide) rfl (fun ls hl => ?_)
  refine loopN (I := fun k H locs ls => ∃ p : Nat, ∃ t : Int32, ∃ g : Nat → Int32, va_P (dC, dI) vwCl ((sc, .inr (2, [.ref ty, .int (nI n), .int (nI (tK y n p)), .int (nI (tB y n p)), .int (nI (tE y n p)), .int (tW y n p t)])) :: ai ct ty 120 y :: wB ct e g) H ∧ va_D A ((sc, .inr (2, [.ref ty, .int (nI n), .int (nI (tK y n p)), .int (nI (tB y n p)), .int (nI (tE y n p)), .int (tW y n p t)])) :: ai ct ty 120 y :: wB ct e g) ∧ va_S A z.heap H locs ∧ lv_has ls 3 [(2, .int (nI (k + 1))), (0, .ref sc), (1, .ref (e 0))] ∧ p ≤ n ∧ txU y n (120 - k) (k + 1) p g = txU y n 120 1 0 f) 120 0 (by omega) ⟨0, t4, f, hP, hD, hS, lv_sub hl [0, 1, 2] rfl, ⟨Nat.zero_le _, rfl⟩⟩ (fun H locs ls hI => ?_) (fun k hk_k H locs ls hI ih_11 => ?_)
  · obtain ⟨p, t, g, hP, hD, hS, hl, hx⟩ := hI
    refine lv_iload_n F.1 F.2.1 dX2_tell_11 rfl (lv_at hl 0 rfl) ?_
    refine lv_bipush (v := 120) F.1 F.2.1 dX2_tell_12 (by decide) ?_
    refine lv_icmp_gt (tgt := 66) F.1 F.2.1 dX2_tell_14 (by decide) (fun c_14 => ?_) (fun c_14 => ?_)
    · refine lv_iconst (v := (-1)) F.1 F.2.1 dX2_tell_66 (by decide) ?_
      refine lv_aload_n F.1 F.2.1 dX2_tell_67 rfl (lv_at hl 1 rfl) ?_
      refine gf F hK hP 0 rfl rfl hiX2_tell_2 3 (by decide) (List.mem_of_getElem? (i := 2) rfl) rfl dX2_tell_68 ?_
      refine lv_isub F.1 F.2.1 dX2_tell_71 ?_
      exact rtI (p, t, g) F hr hlk hP hS rfl (show (-1 - nI (tB y n p), g) = txU y n 120 1 0 f from hx.2) dX2_tell_72
    · exact absurd (by decide) c_14
  · obtain ⟨p, t, g, hP, hD, hS, hl, hx⟩ := hI
    refine lv_iload_n F.1 F.2.1 dX2_tell_11 rfl (lv_at hl 0 rfl) ?_
    refine lv_bipush (v := 120) F.1 F.2.1 dX2_tell_12 (by decide) ?_
    refine lv_icmp_gt (tgt := 66) F.1 F.2.1 dX2_tell_14 (by decide) (fun c_14 => ?_) (fun c_14 => ?_)
    · exact absurd c_14 (nI_nlt (b := k + 1) (a := 120) (by omega) (by decide))
    · refine lv_aload_n F.1 F.2.1 dX2_tell_17 rfl (lv_at hl 1 rfl) ?_
      refine lv_aload_n F.1 F.2.1 dX2_tell_18 rfl (lv_at hl 2 rfl) ?_
      refine iV (rest := []) (wsp := fun u_19 => (sc, .inr (2, [.ref ty, .int (nI n), .int (nI (tK y n u_19.1)), .int (nI (tB y n u_19.1)), .int (nI (tE y n u_19.1)), .int (tW y n u_19.1 u_19.2.1)])) :: ai ct ty 120 y :: wB ct e u_19.2.2) F (kX2_tellItem l dC dI ct K sc ty e y g n t p hn hx.1) gX2_tell_X2_tellItem rfl ⟨rfl, rfl⟩ nmX2_tellItem ⟨Nat.le_of_ble_eq_true rfl, Nat.le_of_ble_eq_true rfl⟩ EQ_b (EQ_call hE hS hz [0, 1, 2, 3, 4, 5, 6, 7, 8] rfl) hK hP hD hS hA 0 rfl rfl rfl [0, 1, 2, 3, 4, 5, 6, 7, 8] (by decide) rfl rfl rfl hl.1 (Nat.le_of_ble_eq_true rfl) dX2_tell_19 ⟨Nat.zero_le _, Nat.zero_le _⟩ (fun _ => rfl) (fun _ => rfl) [sc, ty, e 0, e 1, e 2, e 3, e 4, e 5, e 6] rfl (fun _ => rfl) (fun r_19 u_19 H locs e_19 hP hD hS => ?_)
      have hp_i : u_19.1 ≤ n := by have q := itF_n (y := y) (n := n) (f := g) hx.1; rw [← e_19] at q; exact q
      refine lv_if_ne (tgt := 32) F.1 F.2.1 dX2_tell_22 (by decide) (fun c_22 => ?_) (fun c_22 => ?_)
      · refine lv_aload_n F.1 F.2.1 dX2_tell_32 rfl (lv_at hl 1 rfl) ?_
        refine gf F hK hP 0 rfl rfl hiX2_tell_2 2 (by decide) (List.mem_of_getElem? (i := 3) rfl) rfl dX2_tell_33 ?_
        refine lv_if_ne (tgt := 41) F.1 F.2.1 dX2_tell_36 (by decide) (fun c_36 => ?_) (fun c_36 => ?_)
        · refine lv_aload_n F.1 F.2.1 dX2_tell_41 rfl (lv_at hl 1 rfl) ?_
          refine gf F hK hP 0 rfl rfl hiX2_tell_2 2 (by decide) (List.mem_of_getElem? (i := 3) rfl) rfl dX2_tell_42 ?_
          refine lv_iconst (v := 3) F.1 F.2.1 dX2_tell_45 (by decide) ?_
          refine lv_icmp_eq (tgt := 56) F.1 F.2.1 dX2_tell_46 (by decide) (fun c_46 => ?_) (fun c_46 => ?_)
          · have hp_t : tE y n u_19.1 ≤ n := tE_n hp_i
            refine lv_aload_n F.1 F.2.1 dX2_tell_56 rfl (lv_at hl 1 rfl) ?_
            refine vV (rest := []) (wsp := fun _ => (sc, .inr (2, [.ref ty, .int (nI n), .int (nI (tK y n (tE y n u_19.1))), .int (nI (tB y n (tE y n u_19.1))), .int (nI (tE y n (tE y n u_19.1))), .int (tW y n (tE y n u_19.1) (tW y n u_19.1 u_19.2.1))])) :: ai ct ty 120 y :: wB ct e u_19.2.2) F (kX2_advance l dC dI ct sc ty y n (nI (tK y n u_19.1)) (nI (tB y n u_19.1)) (tW y n u_19.1 u_19.2.1) (tE y n u_19.1) hn (by omega)) gX2_tell_X2_advance rfl ⟨rfl, rfl⟩ nmX2_advance ⟨Nat.le_of_ble_eq_true rfl, Nat.le_of_ble_eq_true rfl⟩ eT_b (fun _ _ _ => trivial) hK hP hD hS hA 0 rfl rfl rfl [0, 1] (by decide) rfl rfl rfl hl.1 (Nat.le_of_ble_eq_true rfl) dX2_tell_57 ⟨Nat.zero_le _, Nat.zero_le _⟩ (fun _ => rfl) (fun _ => rfl) [sc, ty, e 0, e 1, e 2, e 3, e 4, e 5, e 6] rfl (fun _ => rfl) (fun u_57 H locs e_57 hP hD hS => ?_)
            refine lv_iinc (v := nI (k + 1 + 1)) (lv' := [(2, .int (nI (k + 1 + 1))), (0, .ref sc), (1, .ref (e 0))]) F.1 F.2.1 dX2_tell_60 hl (k := 0) rfl (by rw [show Int32.ofInt 1 = nI 1 from rfl, nI_add]) (by decide) rfl (fun ls hl => ?_)
            refine lv_goto (tgt := 11) F.1 F.2.1 dX2_tell_63 (by decide) ?_
            have e3 : tK y n u_19.1 = 3 := nI_of_eq (b := 3) c_46 (by have := tK_le y n u_19.1; omega) (by omega)
            exact ih_11 _ _ _ ⟨(tE y n u_19.1), (tW y n u_19.1 u_19.2.1), u_19.2.2, hP, hD, hS, lv_sub hl [0, 1, 2] rfl, ⟨hp_t, by rw [← hx.2, show 120 - k = (119 - k) + 1 by omega, tx_go (by rw [← e_19]; exact c_22) (by rw [← e_19]; exact e3), ← e_19]; rw [show 120 - (k + 1) = 119 - k by omega]⟩⟩
          · refine lv_iconst (v := (-1)) F.1 F.2.1 dX2_tell_49 (by decide) ?_
            refine lv_aload_n F.1 F.2.1 dX2_tell_50 rfl (lv_at hl 1 rfl) ?_
            refine gf F hK hP 0 rfl rfl hiX2_tell_2 3 (by decide) (List.mem_of_getElem? (i := 2) rfl) rfl dX2_tell_51 ?_
            refine lv_isub F.1 F.2.1 dX2_tell_54 ?_
            exact rtI (u_19.1, u_19.2.1, u_19.2.2) F hr hlk hP hS rfl (by rw [← hx.2, show 120 - k = (119 - k) + 1 by omega, tx_no (by rw [← e_19]; exact c_22) (by rw [← e_19]; exact fun q => c_36 (by rw [q]; rfl)) (by rw [← e_19]; exact fun q => c_46 (by rw [q]; rfl)), ← e_19]) dX2_tell_55
        · refine lv_iload_n F.1 F.2.1 dX2_tell_39 rfl (lv_at hl 0 rfl) ?_
          exact rtI (u_19.1, u_19.2.1, u_19.2.2) F hr hlk hP hS rfl (by rw [← hx.2, show 120 - k = (119 - k) + 1 by omega, tx_end (by rw [← e_19]; exact c_22) (by rw [← e_19]; exact (show tK y n u_19.1 = 0 from nI_of_eq (b := 0) c_36 (by have := tK_le y n u_19.1; omega) (by omega))), ← e_19]) dX2_tell_40
      · refine lv_iconst (v := (-1)) F.1 F.2.1 dX2_tell_25 (by decide) ?_
        refine lv_aload_n F.1 F.2.1 dX2_tell_26 rfl (lv_at hl 1 rfl) ?_
        refine gf F hK hP 0 rfl rfl hiX2_tell_2 3 (by decide) (List.mem_of_getElem? (i := 2) rfl) rfl dX2_tell_27 ?_
        refine lv_isub F.1 F.2.1 dX2_tell_30 ?_
        exact rtI (u_19.1, u_19.2.1, u_19.2.2) F hr hlk hP hS rfl (by rw [← hx.2, show 120 - k = (119 - k) + 1 by omega, tx_bad (by rw [← e_19]; exact c_22), ← e_19]) dX2_tell_31

def rmX5_text : Room := { frames := 9, cells := 0, slots := 0, locals := 196 }
theorem nmX5_text : NmV yX5_text RX5 0 := by unfold NmV; decide +kernel
theorem hiX5_text_2 : ∀ w ∈ u_ws RX2 TX2 6, w ∈ wsX5_text := by decide +kernel
theorem hiX5_text_4 : ∀ w ∈ u_ws RX4 TX4 4, w ∈ wsX5_text := by decide +kernel
theorem hiX5_text_5 : ∀ w ∈ u_ws RX5 TX5 7, w ∈ wsX5_text := by decide +kernel
set_option maxHeartbeats 4000000 in
set_option maxRecDepth 100000 in
theorem kX5_text (l : Launch) (dC : Nat → ClassId) (dI : Nat → Nat → Nat) (ct : Nat → ClassId) (K : Nat → Nat) (x st kt sc sh fo bk sp ty : Nat) (tr b : Nat → Nat) (ik zz t1 t2 t3 t4 : Int32) (f w y : Nat → Int32) (n : Nat) (hn : n ≤ 120) : MI (S := (Nat → Int32) × (Nat → Int32) × Int32 × Int32 × Int32 × Int32) l yX5_text wsX5_text rmX5_text dC dI ct (EQ K ct rfS [x, st, b 0, b 1, b 2, b 3, b 4, b 5, b 6, tr 0, tr 1, tr 2, tr 3, tr 4, tr 5, tr 6, sc, ty]) [.ref x] ((x, .inr (5, [.ref st, .ref kt, .int ik, .ref (tr 0), .ref sc, .ref sh, .ref fo])) :: (st, .inr (4, [.ref (b 0), .ref bk, .ref sp, .int zz])) :: wB ct b f ++ (wB ct tr w ++ ((sc, .inr (2, [.ref ty, .int (nI n), .int t1, .int t2, .int t3, .int t4])) :: [ai ct ty 120 y]))) (fun u => (x, .inr (5, [.ref st, .ref kt, .int ik, .ref (tr 0), .ref sc, .ref sh, .ref fo])) :: (st, .inr (4, [.ref (b 0), .ref bk, .ref sp, .int zz])) :: wB ct b u.1 ++ (wB ct tr u.2.1 ++ ((sc, .inr (2, [.ref ty, .int 0, .int u.2.2.1, .int u.2.2.2.1, .int u.2.2.2.2.1, .int u.2.2.2.2.2])) :: [ai ct ty 120 y]))) (fun r u => r = (txU y n 120 1 0 f).1 ∧ u.1 = txF y n f) := by
  refine MI.ofz (cc := cX5_text) (maxL := 2) (ret := (some .int)) (by decide) rfl (Nat.le_of_ble_eq_true rfl) ?_
  intro pg en z mi below meth cd A F hr hlk hin hK hP hD hA hS hAz hE ls hl
  have hz := EQ_z (pre := (x, .inr (5, [.ref st, .ref kt, .int ik, .ref (tr 0), .ref sc, .ref sh, .ref fo])) :: (st, .inr (4, [.ref (b 0), .ref bk, .ref sp, .int zz])) :: wB ct b f ++ (wB ct tr w ++ ((sc, .inr (2, [.ref ty, .int (nI n), .int t1, .int t2, .int t3, .int t4])) :: [ai ct ty 120 y]))) (show EQ K ct rfS (List.map Prod.fst ((x, .inr (5, [.ref st, .ref kt, .int ik, .ref (tr 0), .ref sc, .ref sh, .ref fo])) :: (st, .inr (4, [.ref (b 0), .ref bk, .ref sp, .int zz])) :: wB ct b f ++ (wB ct tr w ++ ((sc, .inr (2, [.ref ty, .int (nI n), .int t1, .int t2, .int t3, .int t4])) :: [ai ct ty 120 y])))) z from hE) hAz
  have F : CallFix pg mi cd cX5_text 2 z _ wsX5_text RX5 := F
  have hl : lv_has ls 2 [(0, .ref x)] := hl
  refine lv_aload_n F.1 F.2.1 dX5_text_0 rfl (lv_at hl 0 rfl) ?_
  refine gf F hK hP 0 rfl rfl hiX5_text_5 3 (by decide) (List.mem_of_getElem? (i := 1) rfl) rfl dX5_text_1 ?_
  refine lv_aload_n F.1 F.2.1 dX5_text_4 rfl (lv_at hl 0 rfl) ?_
  refine gf F hK hP 0 rfl rfl hiX5_text_5 0 (by decide) (List.mem_of_getElem? (i := 2) rfl) rfl dX5_text_5 ?_
  refine gf F hK hP 1 rfl rfl hiX5_text_4 0 (by decide) (List.mem_of_getElem? (i := 3) rfl) rfl dX5_text_8 ?_
  refine vV (rest := []) (wsp := fun _ => (x, .inr (5, [.ref st, .ref kt, .int ik, .ref (tr 0), .ref sc, .ref sh, .ref fo])) :: (st, .inr (4, [.ref (b 0), .ref bk, .ref sp, .int zz])) :: wB ct b f ++ (wB ct tr f ++ ((sc, .inr (2, [.ref ty, .int (nI n), .int t1, .int t2, .int t3, .int t4])) :: [ai ct ty 120 y]))) F (kX1_copyFrom l dC dI ct tr b f w) gX5_text_X1_copyFrom rfl ⟨rfl, rfl⟩ nmX1_copyFrom ⟨Nat.le_of_ble_eq_true rfl, Nat.le_of_ble_eq_true rfl⟩ eT_b (fun _ _ _ => trivial) hK hP hD hS hA 9 rfl rfl rfl [9, 10, 11, 12, 13, 14, 15, 2, 3, 4, 5, 6, 7, 8] (by decide) rfl rfl rfl hl.1 (Nat.le_of_ble_eq_true rfl) dX5_text_11 ⟨Nat.zero_le _, Nat.zero_le _⟩ (fun _ => rfl) (fun _ => by simp only [sA, List.cons_append, List.nil_append, List.set_cons_zero, List.set_cons_succ]) [x, st, b 0, b 1, b 2, b 3, b 4, b 5, b 6, tr 0, tr 1, tr 2, tr 3, tr 4, tr 5, tr 6, sc, ty] rfl (fun _ => rfl) (fun u_11 H locs e_11 hP hD hS => ?_)
  refine lv_aload_n F.1 F.2.1 dX5_text_14 rfl (lv_at hl 0 rfl) ?_
  refine gf F hK hP 0 rfl rfl hiX5_text_5 4 (by decide) (List.mem_of_getElem? (i := 4) rfl) rfl dX5_text_15 ?_
  refine lv_aload_n F.1 F.2.1 dX5_text_18 rfl (lv_at hl 0 rfl) ?_
  refine gf F hK hP 0 rfl rfl hiX5_text_5 3 (by decide) (List.mem_of_getElem? (i := 1) rfl) rfl dX5_text_19 ?_
  refine iV (rest := []) (wsp := fun u_22 => (x, .inr (5, [.ref st, .ref kt, .int ik, .ref (tr 0), .ref sc, .ref sh, .ref fo])) :: (st, .inr (4, [.ref (b 0), .ref bk, .ref sp, .int zz])) :: wB ct b f ++ (wB ct tr u_22.2.2 ++ ((sc, .inr (2, [.ref ty, .int (nI n), .int (nI (tK y n u_22.1)), .int (nI (tB y n u_22.1)), .int (nI (tE y n u_22.1)), .int (tW y n u_22.1 u_22.2.1)])) :: [ai ct ty 120 y]))) F (kX2_tell l dC dI ct K sc ty tr y f n t1 t2 t3 t4 hn) gX5_text_X2_tell rfl ⟨rfl, rfl⟩ nmX2_tell ⟨Nat.le_of_ble_eq_true rfl, Nat.le_of_ble_eq_true rfl⟩ EQ_b (EQ_call hE hS hz [16, 17, 9, 10, 11, 12, 13, 14, 15] rfl) hK hP hD hS hA 16 rfl rfl rfl [16, 17, 9, 10, 11, 12, 13, 14, 15] (by decide) rfl rfl rfl hl.1 (Nat.le_of_ble_eq_true rfl) dX5_text_22 ⟨Nat.zero_le _, Nat.zero_le _⟩ (fun _ => rfl) (fun _ => rfl) [x, st, b 0, b 1, b 2, b 3, b 4, b 5, b 6, tr 0, tr 1, tr 2, tr 3, tr 4, tr 5, tr 6, sc, ty] rfl (fun _ => rfl) (fun r_22 u_22 H locs e_22 hP hD hS => ?_)
  refine lv_istore_n (lv' := [(1, .int r_22), (0, .ref x)]) F.1 F.2.1 dX5_text_25 rfl hl (by decide) rfl (fun ls hl => ?_)
  refine lv_aload_n F.1 F.2.1 dX5_text_26 rfl (lv_at hl 1 rfl) ?_
  refine gf F hK hP 0 rfl rfl hiX5_text_5 4 (by decide) (List.mem_of_getElem? (i := 4) rfl) rfl dX5_text_27 ?_
  refine lv_iconst (v := 0) F.1 F.2.1 dX5_text_30 (by decide) ?_
  refine pf (ws' := (x, .inr (5, [.ref st, .ref kt, .int ik, .ref (tr 0), .ref sc, .ref sh, .ref fo])) :: (st, .inr (4, [.ref (b 0), .ref bk, .ref sp, .int zz])) :: wB ct b f ++ (wB ct tr u_22.2.2 ++ ((sc, .inr (2, [.ref ty, .int 0, .int (nI (tK y n u_22.1)), .int (nI (tB y n u_22.1)), .int (nI (tE y n u_22.1)), .int (tW y n u_22.1 u_22.2.1)])) :: [ai ct ty 120 y]))) F hK hP hD hS 16 rfl rfl hiX5_text_2 tyX2 tyX2_ok nmX2 1 (by decide) (List.mem_of_getElem? (i := 5) rfl) rfl rfl rfl (Nat.le_of_ble_eq_true rfl) dX5_text_31 (weq.rf _) (fun H locs hP hD hS => ?_)
  refine lv_iload_n F.1 F.2.1 dX5_text_34 rfl (lv_at hl 0 rfl) ?_
  refine lv_if_lt (tgt := 52) F.1 F.2.1 dX5_text_35 (by decide) (fun c_35 => ?_) (fun c_35 => ?_)
  · refine lv_iload_n F.1 F.2.1 dX5_text_52 rfl (lv_at hl 0 rfl) ?_
    exact rtI (f, u_22.2.2, nI (tK y n u_22.1), nI (tB y n u_22.1), nI (tE y n u_22.1), tW y n u_22.1 u_22.2.1) F hr hlk hP hS rfl (⟨by rw [← e_22], by unfold txF; rw [← e_22]; exact (if_pos c_35).symm⟩) dX5_text_53
  · refine lv_aload_n F.1 F.2.1 dX5_text_38 rfl (lv_at hl 1 rfl) ?_
    refine gf F hK hP 0 rfl rfl hiX5_text_5 0 (by decide) (List.mem_of_getElem? (i := 2) rfl) rfl dX5_text_39 ?_
    refine gf F hK hP 1 rfl rfl hiX5_text_4 0 (by decide) (List.mem_of_getElem? (i := 3) rfl) rfl dX5_text_42 ?_
    refine lv_aload_n F.1 F.2.1 dX5_text_45 rfl (lv_at hl 1 rfl) ?_
    refine gf F hK hP 0 rfl rfl hiX5_text_5 3 (by decide) (List.mem_of_getElem? (i := 1) rfl) rfl dX5_text_46 ?_
    refine vV (rest := []) (wsp := fun _ => (x, .inr (5, [.ref st, .ref kt, .int ik, .ref (tr 0), .ref sc, .ref sh, .ref fo])) :: (st, .inr (4, [.ref (b 0), .ref bk, .ref sp, .int zz])) :: wB ct b u_22.2.2 ++ (wB ct tr u_22.2.2 ++ ((sc, .inr (2, [.ref ty, .int 0, .int (nI (tK y n u_22.1)), .int (nI (tB y n u_22.1)), .int (nI (tE y n u_22.1)), .int (tW y n u_22.1 u_22.2.1)])) :: [ai ct ty 120 y]))) F (kX1_copyFrom l dC dI ct b tr u_22.2.2 f) gX5_text_X1_copyFrom rfl ⟨rfl, rfl⟩ nmX1_copyFrom ⟨Nat.le_of_ble_eq_true rfl, Nat.le_of_ble_eq_true rfl⟩ eT_b (fun _ _ _ => trivial) hK hP hD hS hA 2 rfl rfl rfl [2, 3, 4, 5, 6, 7, 8, 9, 10, 11, 12, 13, 14, 15] (by decide) rfl rfl rfl hl.1 (Nat.le_of_ble_eq_true rfl) dX5_text_49 ⟨Nat.zero_le _, Nat.zero_le _⟩ (fun _ => rfl) (fun _ => by simp only [sA, List.cons_append, List.nil_append, List.set_cons_zero, List.set_cons_succ]) [x, st, b 0, b 1, b 2, b 3, b 4, b 5, b 6, tr 0, tr 1, tr 2, tr 3, tr 4, tr 5, tr 6, sc, ty] rfl (fun _ => rfl) (fun u_49 H locs e_49 hP hD hS => ?_)
    refine lv_iload_n F.1 F.2.1 dX5_text_52 rfl (lv_at hl 0 rfl) ?_
    exact rtI (u_22.2.2, u_22.2.2, nI (tK y n u_22.1), nI (tB y n u_22.1), nI (tE y n u_22.1), tW y n u_22.1 u_22.2.1) F hr hlk hP hS rfl (⟨by rw [← e_22], by unfold txF; rw [← e_22]; exact (if_neg (Int32.not_lt.mpr (Int32.not_lt.mp c_35))).symm⟩) dX5_text_53
