def rmX2_tellKind : Room := { frames := 4, cells := 0, slots := 0, locals := 83 }
theorem nmX2_tellKind : NmV yX2_tellKind RX2 2 := by unfold NmV; decide +kernel
theorem hiX2_tellKind_1 : ∀ w ∈ u_ws RX1 TX1 10, w ∈ wsX2_tellKind := by decide +kernel
set_option maxHeartbeats 4000000 in
set_option maxRecDepth 100000 in
theorem kX2_tellKind (l : Launch) (dC : Nat → ClassId) (dI : Nat → Nat → Nat) (ct : Nat → ClassId) (sc ty : Nat) (e : Nat → Nat) (y f : Nat → Int32) (n : Nat) (t4 : Int32) (p : Nat) (hn : n ≤ 120) (hp : p ≤ n) (k : Int32) : MI (S := Nat × Int32 × (Nat → Int32)) l yX2_tellKind wsX2_tellKind rmX2_tellKind dC dI ct eT [.ref sc, .ref (e 0), .int k] ((sc, .inr (2, [.ref ty, .int (nI n), .int (nI (tK y n p)), .int (nI (tB y n p)), .int (nI (tE y n p)), .int (tW y n p t4)])) :: ai ct ty 120 y :: wB ct e f) (fun u => (sc, .inr (2, [.ref ty, .int (nI n), .int (nI (tK y n u.1)), .int (nI (tB y n u.1)), .int (nI (tE y n u.1)), .int (tW y n u.1 u.2.1)])) :: ai ct ty 120 y :: wB ct e u.2.2) (fun r u => (r, u.1, u.2.2) = tlK y n f p k) := by
  refine MI.of (cc := cX2_tellKind) (maxL := 4) (ret := (some .boolean)) (by decide) rfl (Nat.le_of_ble_eq_true rfl) ?_
  intro pg en z mi below meth cd A F hr hlk hin hK hP hD hA hS hE ls hl
  have F : CallFix pg mi cd cX2_tellKind 4 z _ wsX2_tellKind RX2 := F
  have hl : lv_has ls 4 [(0, .ref sc), (1, .ref (e 0)), (2, .int k)] := hl
  refine lv_aload_n F.1 F.2.1 dX2_tellKind_0 rfl (lv_at hl 0 rfl) ?_
  refine lv_iconst (v := 4) F.1 F.2.1 dX2_tellKind_1 (by decide) ?_
  refine iV (rest := []) (wsp := fun u_2 => (sc, .inr (2, [.ref ty, .int (nI n), .int (nI (tK y n u_2.1)), .int (nI (tB y n u_2.1)), .int (nI (tE y n u_2.1)), .int (tW y n u_2.1 u_2.2)])) :: ai ct ty 120 y :: wB ct e f) F (kX2_takeNumber l dC dI ct sc ty y n t4 p hn (by omega) 4) gX2_tellKind_X2_takeNumber rfl ⟨rfl, rfl⟩ nmX2_takeNumber ⟨Nat.le_of_ble_eq_true rfl, Nat.le_of_ble_eq_true rfl⟩ eT_b (fun _ _ _ => trivial) hK hP hD hS hA 0 rfl rfl rfl [0, 1] (by decide) rfl rfl rfl hl.1 (Nat.le_of_ble_eq_true rfl) dX2_tellKind_2 ⟨Nat.zero_le _, Nat.zero_le _⟩ (fun _ => rfl) (fun _ => rfl) [sc, ty, e 0, e 1, e 2, e 3, e 4, e 5, e 6] rfl (fun _ => rfl) (fun r_2 u_2 H locs e_2 hP hD hS => ?_)
  obtain ⟨p_2, t_2⟩ := u_2
  obtain ⟨a_2, b_2⟩ := e_2
  dsimp only at hP hD b_2
  by_cases w2 : nuP y n p 4
  · skip
    have b_2 := (b_2.trans (if_pos w2)).symm
    subst b_2
    obtain ⟨v, hvv, evv⟩ := nu_n (M := 4) hp w2 (by omega)
    have hp_2 : tE y n p ≤ n := (tE_le (y := y) hp).2.2.1
    refine tp (y := nI v) (a_2.trans ((if_pos w2).trans evv)) ?_
    refine lv_istore_n (lv' := [(3, .int (nI v)), (0, .ref sc), (1, .ref (e 0)), (2, .int k)]) F.1 F.2.1 dX2_tellKind_5 rfl hl (by decide) rfl (fun ls hl => ?_)
    refine lv_iload_n F.1 F.2.1 dX2_tellKind_6 rfl (lv_at hl 0 rfl) ?_
    refine lv_if_ge (tgt := 12) F.1 F.2.1 dX2_tellKind_7 (by decide) (fun c_7 => ?_) (fun c_7 => ?_)
    · refine lv_aload_n F.1 F.2.1 dX2_tellKind_12 rfl (lv_at hl 2 rfl) ?_
      refine gf F hK hP 2 rfl rfl hiX2_tellKind_1 0 (by decide) (List.mem_of_getElem? (i := 1) rfl) rfl dX2_tellKind_13 ?_
      refine lv_iload_n F.1 F.2.1 dX2_tellKind_16 rfl (lv_at hl 0 rfl) ?_
      refine lv_iload_n F.1 F.2.1 dX2_tellKind_17 rfl (lv_at hl 3 rfl) ?_
      refine ast (ws' := (sc, .inr (2, [.ref ty, .int (nI n), .int (nI (tK y n (tE y n p))), .int (nI (tB y n (tE y n p))), .int (nI (tE y n (tE y n p))), .int (tW y n (tE y n p) t_2)])) :: ai ct ty 120 y :: wB ct e (upd f (15 + v) k)) F hK hP hD hS 3 0 rfl rfl v rfl (by omega) (by decide) dX2_tellKind_18 (weq.c (weq.c (wq_kind ct e f (by omega)))) (fun H locs hP hD hS => ?_)
      refine lv_iconst (v := 1) F.1 F.2.1 dX2_tellKind_19 (by decide) ?_
      exact rtZ (tE y n p, t_2, (upd f (15 + v) k)) F hr hlk hP hS rfl (by rw [tlK, if_pos w2] <;> simp only [evv, show tn (nI v) = v from nI_clamp (by omega)]) (Or.inr rfl) dX2_tellKind_20
    · exact absurd (nI_pos' (by omega)) c_7
  · skip
    have b_2 := (b_2.trans (if_neg w2)).symm
    subst b_2
    refine tp (y := -1) (a_2.trans (if_neg w2)) ?_
    refine lv_istore_n (lv' := [(3, .int (-1)), (0, .ref sc), (1, .ref (e 0)), (2, .int k)]) F.1 F.2.1 dX2_tellKind_5 rfl hl (by decide) rfl (fun ls hl => ?_)
    refine lv_iload_n F.1 F.2.1 dX2_tellKind_6 rfl (lv_at hl 0 rfl) ?_
    refine lv_if_ge (tgt := 12) F.1 F.2.1 dX2_tellKind_7 (by decide) (fun c_7 => ?_) (fun c_7 => ?_)
    · exact absurd c_7 (by decide)
    · refine lv_iconst (v := 0) F.1 F.2.1 dX2_tellKind_10 (by decide) ?_
      exact rtZ (p, t_2, f) F hr hlk hP hS rfl (by rw [tlK, if_neg w2]) (Or.inl rfl) dX2_tellKind_11

def rmX2_tellFrost : Room := { frames := 4, cells := 0, slots := 0, locals := 83 }
theorem nmX2_tellFrost : NmV yX2_tellFrost RX2 1 := by unfold NmV; decide +kernel
theorem hiX2_tellFrost_1 : ∀ w ∈ u_ws RX1 TX1 10, w ∈ wsX2_tellFrost := by decide +kernel
set_option maxHeartbeats 4000000 in
set_option maxRecDepth 100000 in
theorem kX2_tellFrost (l : Launch) (dC : Nat → ClassId) (dI : Nat → Nat → Nat) (ct : Nat → ClassId) (sc ty : Nat) (e : Nat → Nat) (y f : Nat → Int32) (n : Nat) (t4 : Int32) (p : Nat) (hn : n ≤ 120) (hp : p ≤ n) : MI (S := Nat × Int32 × (Nat → Int32)) l yX2_tellFrost wsX2_tellFrost rmX2_tellFrost dC dI ct eT [.ref sc, .ref (e 0)] ((sc, .inr (2, [.ref ty, .int (nI n), .int (nI (tK y n p)), .int (nI (tB y n p)), .int (nI (tE y n p)), .int (tW y n p t4)])) :: ai ct ty 120 y :: wB ct e f) (fun u => (sc, .inr (2, [.ref ty, .int (nI n), .int (nI (tK y n u.1)), .int (nI (tB y n u.1)), .int (nI (tE y n u.1)), .int (tW y n u.1 u.2.1)])) :: ai ct ty 120 y :: wB ct e u.2.2) (fun r u => (r, u.1, u.2.2) = tlF y n f p) := by
  refine MI.of (cc := cX2_tellFrost) (maxL := 3) (ret := (some .boolean)) (by decide) rfl (Nat.le_of_ble_eq_true rfl) ?_
  intro pg en z mi below meth cd A F hr hlk hin hK hP hD hA hS hE ls hl
  have F : CallFix pg mi cd cX2_tellFrost 3 z _ wsX2_tellFrost RX2 := F
  have hl : lv_has ls 3 [(0, .ref sc), (1, .ref (e 0))] := hl
  refine lv_aload_n F.1 F.2.1 dX2_tellFrost_0 rfl (lv_at hl 0 rfl) ?_
  refine lv_bipush (v := 9) F.1 F.2.1 dX2_tellFrost_1 (by decide) ?_
  refine iV (rest := []) (wsp := fun u_3 => (sc, .inr (2, [.ref ty, .int (nI n), .int (nI (tK y n u_3.1)), .int (nI (tB y n u_3.1)), .int (nI (tE y n u_3.1)), .int (tW y n u_3.1 u_3.2)])) :: ai ct ty 120 y :: wB ct e f) F (kX2_takeNumber l dC dI ct sc ty y n t4 p hn (by omega) 9) gX2_tellFrost_X2_takeNumber rfl ⟨rfl, rfl⟩ nmX2_takeNumber ⟨Nat.le_of_ble_eq_true rfl, Nat.le_of_ble_eq_true rfl⟩ eT_b (fun _ _ _ => trivial) hK hP hD hS hA 0 rfl rfl rfl [0, 1] (by decide) rfl rfl rfl hl.1 (Nat.le_of_ble_eq_true rfl) dX2_tellFrost_3 ⟨Nat.zero_le _, Nat.zero_le _⟩ (fun _ => rfl) (fun _ => rfl) [sc, ty, e 0, e 1, e 2, e 3, e 4, e 5, e 6] rfl (fun _ => rfl) (fun r_3 u_3 H locs e_3 hP hD hS => ?_)
  obtain ⟨p_3, t_3⟩ := u_3
  obtain ⟨a_3, b_3⟩ := e_3
  dsimp only at hP hD b_3
  by_cases w3 : nuP y n p 9
  · skip
    have b_3 := (b_3.trans (if_pos w3)).symm
    subst b_3
    obtain ⟨v, hvv, evv⟩ := nu_n (M := 9) hp w3 (by omega)
    have hp_3 : tE y n p ≤ n := (tE_le (y := y) hp).2.2.1
    refine tp (y := nI v) (a_3.trans ((if_pos w3).trans evv)) ?_
    refine lv_istore_n (lv' := [(2, .int (nI v)), (0, .ref sc), (1, .ref (e 0))]) F.1 F.2.1 dX2_tellFrost_6 rfl hl (by decide) rfl (fun ls hl => ?_)
    refine lv_iload_n F.1 F.2.1 dX2_tellFrost_7 rfl (lv_at hl 0 rfl) ?_
    refine lv_if_ge (tgt := 13) F.1 F.2.1 dX2_tellFrost_8 (by decide) (fun c_8 => ?_) (fun c_8 => ?_)
    · refine lv_aload_n F.1 F.2.1 dX2_tellFrost_13 rfl (lv_at hl 2 rfl) ?_
      refine lv_iload_n F.1 F.2.1 dX2_tellFrost_14 rfl (lv_at hl 0 rfl) ?_
      refine pf (ws' := (sc, .inr (2, [.ref ty, .int (nI n), .int (nI (tK y n (tE y n p))), .int (nI (tB y n (tE y n p))), .int (nI (tE y n (tE y n p))), .int (tW y n (tE y n p) t_3)])) :: ai ct ty 120 y :: wB ct e (upd f 1 (nI v))) F hK hP hD hS 2 rfl rfl hiX2_tellFrost_1 tyX1 tyX1_ok nmX1 6 (by decide) (List.mem_of_getElem? (i := 1) rfl) rfl rfl rfl (Nat.le_of_ble_eq_true rfl) dX2_tellFrost_15 (weq.c (weq.c (wq_f1 ct e f _))) (fun H locs hP hD hS => ?_)
      refine lv_iconst (v := 1) F.1 F.2.1 dX2_tellFrost_18 (by decide) ?_
      exact rtZ (tE y n p, t_3, (upd f 1 (nI v))) F hr hlk hP hS rfl (by rw [tlF, if_pos w3] <;> simp only [evv, show tn (nI v) = v from nI_clamp (by omega)]) (Or.inr rfl) dX2_tellFrost_19
    · exact absurd (nI_pos' (by omega)) c_8
  · skip
    have b_3 := (b_3.trans (if_neg w3)).symm
    subst b_3
    refine tp (y := -1) (a_3.trans (if_neg w3)) ?_
    refine lv_istore_n (lv' := [(2, .int (-1)), (0, .ref sc), (1, .ref (e 0))]) F.1 F.2.1 dX2_tellFrost_6 rfl hl (by decide) rfl (fun ls hl => ?_)
    refine lv_iload_n F.1 F.2.1 dX2_tellFrost_7 rfl (lv_at hl 0 rfl) ?_
    refine lv_if_ge (tgt := 13) F.1 F.2.1 dX2_tellFrost_8 (by decide) (fun c_8 => ?_) (fun c_8 => ?_)
    · exact absurd c_8 (by decide)
    · refine lv_iconst (v := 0) F.1 F.2.1 dX2_tellFrost_11 (by decide) ?_
      exact rtZ (p, t_3, f) F hr hlk hP hS rfl (by rw [tlF, if_neg w3]) (Or.inl rfl) dX2_tellFrost_12

def rmX2_tellSide : Room := { frames := 6, cells := 0, slots := 0, locals := 129 }
theorem nmX2_tellSide : NmV yX2_tellSide RX2 1 := by unfold NmV; decide +kernel
theorem hiX2_tellSide_1 : ∀ w ∈ u_ws RX1 TX1 10, w ∈ wsX2_tellSide := by decide +kernel
set_option maxHeartbeats 4000000 in
set_option maxRecDepth 100000 in
theorem kX2_tellSide (l : Launch) (dC : Nat → ClassId) (dI : Nat → Nat → Nat) (ct : Nat → ClassId) (K : Nat → Nat) (sc ty : Nat) (e : Nat → Nat) (y f : Nat → Int32) (n : Nat) (t4 : Int32) (p : Nat) (hn : n ≤ 120) (hp : p ≤ n) : MI (S := Nat × Int32 × (Nat → Int32)) l yX2_tellSide wsX2_tellSide rmX2_tellSide dC dI ct (EQ K ct rfS [sc, ty, e 0, e 1, e 2, e 3, e 4, e 5, e 6]) [.ref sc, .ref (e 0)] ((sc, .inr (2, [.ref ty, .int (nI n), .int (nI (tK y n p)), .int (nI (tB y n p)), .int (nI (tE y n p)), .int (tW y n p t4)])) :: ai ct ty 120 y :: wB ct e f) (fun u => (sc, .inr (2, [.ref ty, .int (nI n), .int (nI (tK y n u.1)), .int (nI (tB y n u.1)), .int (nI (tE y n u.1)), .int (tW y n u.1 u.2.1)])) :: ai ct ty 120 y :: wB ct e u.2.2) (fun r u => (r, u.1, u.2.2) = tlS y n f p) := by
  refine MI.ofz (cc := cX2_tellSide) (maxL := 4) (ret := (some .boolean)) (by decide) rfl (Nat.le_of_ble_eq_true rfl) ?_
  intro pg en z mi below meth cd A F hr hlk hin hK hP hD hA hS hAz hE ls hl
  have hz := EQ_z (pre := (sc, .inr (2, [.ref ty, .int (nI n), .int (nI (tK y n p)), .int (nI (tB y n p)), .int (nI (tE y n p)), .int (tW y n p t4)])) :: ai ct ty 120 y :: wB ct e f) (show EQ K ct rfS (List.map Prod.fst ((sc, .inr (2, [.ref ty, .int (nI n), .int (nI (tK y n p)), .int (nI (tB y n p)), .int (nI (tE y n p)), .int (tW y n p t4)])) :: ai ct ty 120 y :: wB ct e f)) z from hE) hAz
  have F : CallFix pg mi cd cX2_tellSide 4 z _ wsX2_tellSide RX2 := F
  have hl : lv_has ls 4 [(0, .ref sc), (1, .ref (e 0))] := hl
  refine lv_aload_n F.1 F.2.1 dX2_tellSide_0 rfl (lv_at hl 0 rfl) ?_
  refine lv_iconst (v := 1) F.1 F.2.1 dX2_tellSide_1 (by decide) ?_
  refine iV (rest := []) (wsp := fun u_2 => (sc, .inr (2, [.ref ty, .int (nI n), .int (nI (tK y n u_2.1)), .int (nI (tB y n u_2.1)), .int (nI (tE y n u_2.1)), .int (tW y n u_2.1 u_2.2)])) :: ai ct ty 120 y :: wB ct e f) F (kX2_takeNumber l dC dI ct sc ty y n t4 p hn (by omega) 1) gX2_tellSide_X2_takeNumber rfl ⟨rfl, rfl⟩ nmX2_takeNumber ⟨Nat.le_of_ble_eq_true rfl, Nat.le_of_ble_eq_true rfl⟩ eT_b (fun _ _ _ => trivial) hK hP hD hS hA 0 rfl rfl rfl [0, 1] (by decide) rfl rfl rfl hl.1 (Nat.le_of_ble_eq_true rfl) dX2_tellSide_2 ⟨Nat.zero_le _, Nat.zero_le _⟩ (fun _ => rfl) (fun _ => rfl) [sc, ty, e 0, e 1, e 2, e 3, e 4, e 5, e 6] rfl (fun _ => rfl) (fun r_2 u_2 H locs e_2 hP hD hS => ?_)
  obtain ⟨p_2, t_2⟩ := u_2
  obtain ⟨a_2, b_2⟩ := e_2
  dsimp only at hP hD b_2
  by_cases w2 : nuP y n p 1
  · skip
    have b_2 := (b_2.trans (if_pos w2)).symm
    subst b_2
    obtain ⟨v, hvv, evv⟩ := nu_n (M := 1) hp w2 (by omega)
    have hp_2 : tE y n p ≤ n := (tE_le (y := y) hp).2.2.1
    refine tp (y := nI v) (a_2.trans ((if_pos w2).trans evv)) ?_
    refine lv_istore_n (lv' := [(2, .int (nI v)), (0, .ref sc), (1, .ref (e 0))]) F.1 F.2.1 dX2_tellSide_5 rfl hl (by decide) rfl (fun ls hl => ?_)
    refine lv_iload_n F.1 F.2.1 dX2_tellSide_6 rfl (lv_at hl 0 rfl) ?_
    refine lv_if_ge (tgt := 12) F.1 F.2.1 dX2_tellSide_7 (by decide) (fun c_7 => ?_) (fun c_7 => ?_)
    · refine lv_aload_n F.1 F.2.1 dX2_tellSide_12 rfl (lv_at hl 1 rfl) ?_
      refine va_ldcS F.1 F.2.1 (tx := "greed") (q := kS K 12) F.2.2.2.1 (hE.2.2.2.1 ("HedgeHeaps$Script", 123, "greed", 12) (List.mem_of_getElem? (i := 12) rfl)) dX2_tellSide_13 ?_
      refine iV (rest := []) (wsp := fun u_15 => (sc, .inr (2, [.ref ty, .int (nI n), .int (nI (tK y n u_15.1)), .int (nI (tB y n u_15.1)), .int (nI (tE y n u_15.1)), .int (tW y n u_15.1 u_15.2)])) :: ai ct ty 120 y :: wB ct e f) F (kX2_takeWord l dC dI ct K rfS sc ty y n t_2 (tE y n p) hn (by omega) 12 (by decide)) gX2_tellSide_X2_takeWord rfl ⟨rfl, rfl⟩ nmX2_takeWord ⟨Nat.le_of_ble_eq_true rfl, Nat.le_of_ble_eq_true rfl⟩ EQ_b (EQ_call hE hS hz [0, 1] rfl) hK hP hD hS hA 0 rfl rfl rfl [0, 1] (by decide) rfl rfl rfl hl.1 (Nat.le_of_ble_eq_true rfl) dX2_tellSide_15 ⟨Nat.zero_le _, Nat.zero_le _⟩ (fun _ => rfl) (fun _ => rfl) [sc, ty, e 0, e 1, e 2, e 3, e 4, e 5, e 6] rfl (fun _ => rfl) (fun r_15 u_15 H locs e_15 hP hD hS => ?_)
      obtain ⟨p_15, t_15⟩ := u_15
      obtain ⟨a_15, b_15⟩ := e_15
      dsimp only at hP hD b_15
      by_cases w15 : isW y n (tE y n p) 12
      · skip
        have b_15 := (b_15.trans (if_pos w15)).symm
        subst b_15
        have hp_15 : tE y n (tE y n p) ≤ n := (tE_le (y := y) hp_2).2.2.1
        refine tp (y := 1) (a_15.trans (if_pos w15)) ?_
        refine lv_if_eq (tgt := 41) F.1 F.2.1 dX2_tellSide_18 (by decide) (fun c_18 => ?_) (fun c_18 => ?_)
        · exact absurd c_18 (by decide)
        · refine lv_aload_n F.1 F.2.1 dX2_tellSide_21 rfl (lv_at hl 1 rfl) ?_
          refine lv_bipush (v := 50) F.1 F.2.1 dX2_tellSide_22 (by decide) ?_
          refine iV (rest := []) (wsp := fun u_24 => (sc, .inr (2, [.ref ty, .int (nI n), .int (nI (tK y n u_24.1)), .int (nI (tB y n u_24.1)), .int (nI (tE y n u_24.1)), .int (tW y n u_24.1 u_24.2)])) :: ai ct ty 120 y :: wB ct e f) F (kX2_takeNumber l dC dI ct sc ty y n t_15 (tE y n (tE y n p)) hn (by omega) 50) gX2_tellSide_X2_takeNumber rfl ⟨rfl, rfl⟩ nmX2_takeNumber ⟨Nat.le_of_ble_eq_true rfl, Nat.le_of_ble_eq_true rfl⟩ eT_b (fun _ _ _ => trivial) hK hP hD hS hA 0 rfl rfl rfl [0, 1] (by decide) rfl rfl rfl hl.1 (Nat.le_of_ble_eq_true rfl) dX2_tellSide_24 ⟨Nat.zero_le _, Nat.zero_le _⟩ (fun _ => rfl) (fun _ => rfl) [sc, ty, e 0, e 1, e 2, e 3, e 4, e 5, e 6] rfl (fun _ => rfl) (fun r_24 u_24 H locs e_24 hP hD hS => ?_)
          obtain ⟨p_24, t_24⟩ := u_24
          obtain ⟨a_24, b_24⟩ := e_24
          dsimp only at hP hD b_24
          by_cases w24 : nuP y n (tE y n (tE y n p)) 50
          · skip
            have b_24 := (b_24.trans (if_pos w24)).symm
            subst b_24
            obtain ⟨v1, hvv1, evv1⟩ := nu_n (M := 50) hp_15 w24 (by omega)
            have hp_24 : tE y n (tE y n (tE y n p)) ≤ n := (tE_le (y := y) hp_15).2.2.1
            refine tp (y := nI v1) (a_24.trans ((if_pos w24).trans evv1)) ?_
            refine lv_istore_n (lv' := [(3, .int (nI v1)), (2, .int (nI v)), (0, .ref sc), (1, .ref (e 0))]) F.1 F.2.1 dX2_tellSide_27 rfl hl (by decide) rfl (fun ls hl => ?_)
            refine lv_iload_n F.1 F.2.1 dX2_tellSide_28 rfl (lv_at hl 0 rfl) ?_
            refine lv_if_ge (tgt := 34) F.1 F.2.1 dX2_tellSide_29 (by decide) (fun c_29 => ?_) (fun c_29 => ?_)
            · refine lv_aload_n F.1 F.2.1 dX2_tellSide_34 rfl (lv_at hl 3 rfl) ?_
              refine gf F hK hP 2 rfl rfl hiX2_tellSide_1 4 (by decide) (List.mem_of_getElem? (i := 1) rfl) rfl dX2_tellSide_35 ?_
              refine lv_iload_n F.1 F.2.1 dX2_tellSide_38 rfl (lv_at hl 1 rfl) ?_
              refine lv_iload_n F.1 F.2.1 dX2_tellSide_39 rfl (lv_at hl 0 rfl) ?_
              refine ast (ws' := (sc, .inr (2, [.ref ty, .int (nI n), .int (nI (tK y n (tE y n (tE y n (tE y n p))))), .int (nI (tB y n (tE y n (tE y n (tE y n p))))), .int (nI (tE y n (tE y n (tE y n (tE y n p))))), .int (tW y n (tE y n (tE y n (tE y n p))) t_24)])) :: ai ct ty 120 y :: wB ct e (upd f (20 + 17 * v) (nI v1))) F hK hP hD hS 7 0 rfl rfl v rfl (by omega) (by decide) dX2_tellSide_40 (weq.c (weq.c (wq_greed ct e f (by omega)))) (fun H locs hP hD hS => ?_)
              refine lv_aload_n F.1 F.2.1 dX2_tellSide_41 rfl (lv_at hl 2 rfl) ?_
              refine va_ldcS F.1 F.2.1 (tx := "trust") (q := kS K 13) F.2.2.2.1 (hE.2.2.2.1 ("HedgeHeaps$Script", 128, "trust", 13) (List.mem_of_getElem? (i := 13) rfl)) dX2_tellSide_42 ?_
              refine iV (rest := []) (wsp := fun u_44 => (sc, .inr (2, [.ref ty, .int (nI n), .int (nI (tK y n u_44.1)), .int (nI (tB y n u_44.1)), .int (nI (tE y n u_44.1)), .int (tW y n u_44.1 u_44.2)])) :: ai ct ty 120 y :: wB ct e (upd f (20 + 17 * v) (nI v1))) F (kX2_takeWord l dC dI ct K rfS sc ty y n t_24 (tE y n (tE y n (tE y n p))) hn (by omega) 13 (by decide)) gX2_tellSide_X2_takeWord rfl ⟨rfl, rfl⟩ nmX2_takeWord ⟨Nat.le_of_ble_eq_true rfl, Nat.le_of_ble_eq_true rfl⟩ EQ_b (EQ_call hE hS hz [0, 1] rfl) hK hP hD hS hA 0 rfl rfl rfl [0, 1] (by decide) rfl rfl rfl hl.1 (Nat.le_of_ble_eq_true rfl) dX2_tellSide_44 ⟨Nat.zero_le _, Nat.zero_le _⟩ (fun _ => rfl) (fun _ => rfl) [sc, ty, e 0, e 1, e 2, e 3, e 4, e 5, e 6] rfl (fun _ => rfl) (fun r_44 u_44 H locs e_44 hP hD hS => ?_)
              obtain ⟨p_44, t_44⟩ := u_44
              obtain ⟨a_44, b_44⟩ := e_44
              dsimp only at hP hD b_44
              by_cases w44 : isW y n (tE y n (tE y n (tE y n p))) 13
              · skip
                have b_44 := (b_44.trans (if_pos w44)).symm
                subst b_44
                have hp_44 : tE y n (tE y n (tE y n (tE y n p))) ≤ n := (tE_le (y := y) hp_24).2.2.1
                refine tp (y := 1) (a_44.trans (if_pos w44)) ?_
                refine lv_if_eq (tgt := 70) F.1 F.2.1 dX2_tellSide_47 (by decide) (fun c_47 => ?_) (fun c_47 => ?_)
                · exact absurd c_47 (by decide)
                · refine lv_aload_n F.1 F.2.1 dX2_tellSide_50 rfl (lv_at hl 2 rfl) ?_
                  refine lv_bipush (v := 9) F.1 F.2.1 dX2_tellSide_51 (by decide) ?_
                  refine iV (rest := []) (wsp := fun u_53 => (sc, .inr (2, [.ref ty, .int (nI n), .int (nI (tK y n u_53.1)), .int (nI (tB y n u_53.1)), .int (nI (tE y n u_53.1)), .int (tW y n u_53.1 u_53.2)])) :: ai ct ty 120 y :: wB ct e (upd f (20 + 17 * v) (nI v1))) F (kX2_takeNumber l dC dI ct sc ty y n t_44 (tE y n (tE y n (tE y n (tE y n p)))) hn (by omega) 9) gX2_tellSide_X2_takeNumber rfl ⟨rfl, rfl⟩ nmX2_takeNumber ⟨Nat.le_of_ble_eq_true rfl, Nat.le_of_ble_eq_true rfl⟩ eT_b (fun _ _ _ => trivial) hK hP hD hS hA 0 rfl rfl rfl [0, 1] (by decide) rfl rfl rfl hl.1 (Nat.le_of_ble_eq_true rfl) dX2_tellSide_53 ⟨Nat.zero_le _, Nat.zero_le _⟩ (fun _ => rfl) (fun _ => rfl) [sc, ty, e 0, e 1, e 2, e 3, e 4, e 5, e 6] rfl (fun _ => rfl) (fun r_53 u_53 H locs e_53 hP hD hS => ?_)
                  obtain ⟨p_53, t_53⟩ := u_53
                  obtain ⟨a_53, b_53⟩ := e_53
                  dsimp only at hP hD b_53
                  by_cases w53 : nuP y n (tE y n (tE y n (tE y n (tE y n p)))) 9
                  · skip
                    have b_53 := (b_53.trans (if_pos w53)).symm
                    subst b_53
                    obtain ⟨v2, hvv2, evv2⟩ := nu_n (M := 9) hp_44 w53 (by omega)
                    have hp_53 : tE y n (tE y n (tE y n (tE y n (tE y n p)))) ≤ n := (tE_le (y := y) hp_44).2.2.1
                    refine tp (y := nI v2) (a_53.trans ((if_pos w53).trans evv2)) ?_
                    refine lv_istore_n (lv' := [(3, .int (nI v2)), (2, .int (nI v)), (0, .ref sc), (1, .ref (e 0))]) F.1 F.2.1 dX2_tellSide_56 rfl hl (by decide) rfl (fun ls hl => ?_)
                    refine lv_iload_n F.1 F.2.1 dX2_tellSide_57 rfl (lv_at hl 0 rfl) ?_
                    refine lv_if_ge (tgt := 63) F.1 F.2.1 dX2_tellSide_58 (by decide) (fun c_58 => ?_) (fun c_58 => ?_)
                    · refine lv_aload_n F.1 F.2.1 dX2_tellSide_63 rfl (lv_at hl 3 rfl) ?_
                      refine gf F hK hP 2 rfl rfl hiX2_tellSide_1 5 (by decide) (List.mem_of_getElem? (i := 2) rfl) rfl dX2_tellSide_64 ?_
                      refine lv_iload_n F.1 F.2.1 dX2_tellSide_67 rfl (lv_at hl 1 rfl) ?_
                      refine lv_iload_n F.1 F.2.1 dX2_tellSide_68 rfl (lv_at hl 0 rfl) ?_
                      refine ast (ws' := (sc, .inr (2, [.ref ty, .int (nI n), .int (nI (tK y n (tE y n (tE y n (tE y n (tE y n (tE y n p))))))), .int (nI (tB y n (tE y n (tE y n (tE y n (tE y n (tE y n p))))))), .int (nI (tE y n (tE y n (tE y n (tE y n (tE y n (tE y n p))))))), .int (tW y n (tE y n (tE y n (tE y n (tE y n (tE y n p))))) t_53)])) :: ai ct ty 120 y :: wB ct e (upd (upd f (20 + 17 * v) (nI v1)) (21 + 17 * v) (nI v2))) F hK hP hD hS 8 0 rfl rfl v rfl (by omega) (by decide) dX2_tellSide_69 (weq.c (weq.c (wq_trust ct e (upd f (20 + 17 * v) (nI v1)) (by omega)))) (fun H locs hP hD hS => ?_)
                      refine lv_iconst (v := 1) F.1 F.2.1 dX2_tellSide_70 (by decide) ?_
                      exact rtZ (tE y n (tE y n (tE y n (tE y n (tE y n p)))), t_53, (upd (upd f (20 + 17 * v) (nI v1)) (21 + 17 * v) (nI v2))) F hr hlk hP hS rfl (by rw [tlS, if_pos w2, tlG, if_pos w15, if_pos w24, tlT, if_pos w44, if_pos w53] <;> simp only [evv, show tn (nI v) = v from nI_clamp (by omega), evv1, show tn (nI v1) = v1 from nI_clamp (by omega), evv2, show tn (nI v2) = v2 from nI_clamp (by omega)]) (Or.inr rfl) dX2_tellSide_71
                    · exact absurd (nI_pos' (by omega)) c_58
                  · skip
                    have b_53 := (b_53.trans (if_neg w53)).symm
                    subst b_53
                    refine tp (y := -1) (a_53.trans (if_neg w53)) ?_
                    refine lv_istore_n (lv' := [(3, .int (-1)), (2, .int (nI v)), (0, .ref sc), (1, .ref (e 0))]) F.1 F.2.1 dX2_tellSide_56 rfl hl (by decide) rfl (fun ls hl => ?_)
                    refine lv_iload_n F.1 F.2.1 dX2_tellSide_57 rfl (lv_at hl 0 rfl) ?_
                    refine lv_if_ge (tgt := 63) F.1 F.2.1 dX2_tellSide_58 (by decide) (fun c_58 => ?_) (fun c_58 => ?_)
                    · exact absurd c_58 (by decide)
                    · refine lv_iconst (v := 0) F.1 F.2.1 dX2_tellSide_61 (by decide) ?_
                      exact rtZ (tE y n (tE y n (tE y n (tE y n p))), t_53, (upd f (20 + 17 * v) (nI v1))) F hr hlk hP hS rfl (by rw [tlS, if_pos w2, tlG, if_pos w15, if_pos w24, tlT, if_pos w44, if_neg w53] <;> simp only [evv, show tn (nI v) = v from nI_clamp (by omega), evv1, show tn (nI v1) = v1 from nI_clamp (by omega)]) (Or.inl rfl) dX2_tellSide_62
              · skip
                have b_44 := (b_44.trans (if_neg w44)).symm
                subst b_44
                refine tp (y := 0) (a_44.trans (if_neg w44)) ?_
                refine lv_if_eq (tgt := 70) F.1 F.2.1 dX2_tellSide_47 (by decide) (fun c_47 => ?_) (fun c_47 => ?_)
                · refine lv_iconst (v := 1) F.1 F.2.1 dX2_tellSide_70 (by decide) ?_
                  exact rtZ (tE y n (tE y n (tE y n p)), t_44, (upd f (20 + 17 * v) (nI v1))) F hr hlk hP hS rfl (by rw [tlS, if_pos w2, tlG, if_pos w15, if_pos w24, tlT, if_neg w44] <;> simp only [evv, show tn (nI v) = v from nI_clamp (by omega), evv1, show tn (nI v1) = v1 from nI_clamp (by omega)]) (Or.inr rfl) dX2_tellSide_71
                · exact absurd rfl c_47
            · exact absurd (nI_pos' (by omega)) c_29
          · skip
            have b_24 := (b_24.trans (if_neg w24)).symm
            subst b_24
            refine tp (y := -1) (a_24.trans (if_neg w24)) ?_
            refine lv_istore_n (lv' := [(3, .int (-1)), (2, .int (nI v)), (0, .ref sc), (1, .ref (e 0))]) F.1 F.2.1 dX2_tellSide_27 rfl hl (by decide) rfl (fun ls hl => ?_)
            refine lv_iload_n F.1 F.2.1 dX2_tellSide_28 rfl (lv_at hl 0 rfl) ?_
            refine lv_if_ge (tgt := 34) F.1 F.2.1 dX2_tellSide_29 (by decide) (fun c_29 => ?_) (fun c_29 => ?_)
            · exact absurd c_29 (by decide)
            · refine lv_iconst (v := 0) F.1 F.2.1 dX2_tellSide_32 (by decide) ?_
              exact rtZ (tE y n (tE y n p), t_24, f) F hr hlk hP hS rfl (by rw [tlS, if_pos w2, tlG, if_pos w15, if_neg w24] <;> simp only [evv, show tn (nI v) = v from nI_clamp (by omega)]) (Or.inl rfl) dX2_tellSide_33
      · skip
        have b_15 := (b_15.trans (if_neg w15)).symm
        subst b_15
        refine tp (y := 0) (a_15.trans (if_neg w15)) ?_
        refine lv_if_eq (tgt := 41) F.1 F.2.1 dX2_tellSide_18 (by decide) (fun c_18 => ?_) (fun c_18 => ?_)
        · refine lv_aload_n F.1 F.2.1 dX2_tellSide_41 rfl (lv_at hl 1 rfl) ?_
          refine va_ldcS F.1 F.2.1 (tx := "trust") (q := kS K 13) F.2.2.2.1 (hE.2.2.2.1 ("HedgeHeaps$Script", 128, "trust", 13) (List.mem_of_getElem? (i := 13) rfl)) dX2_tellSide_42 ?_
          refine iV (rest := []) (wsp := fun u_44 => (sc, .inr (2, [.ref ty, .int (nI n), .int (nI (tK y n u_44.1)), .int (nI (tB y n u_44.1)), .int (nI (tE y n u_44.1)), .int (tW y n u_44.1 u_44.2)])) :: ai ct ty 120 y :: wB ct e f) F (kX2_takeWord l dC dI ct K rfS sc ty y n t_15 (tE y n p) hn (by omega) 13 (by decide)) gX2_tellSide_X2_takeWord rfl ⟨rfl, rfl⟩ nmX2_takeWord ⟨Nat.le_of_ble_eq_true rfl, Nat.le_of_ble_eq_true rfl⟩ EQ_b (EQ_call hE hS hz [0, 1] rfl) hK hP hD hS hA 0 rfl rfl rfl [0, 1] (by decide) rfl rfl rfl hl.1 (Nat.le_of_ble_eq_true rfl) dX2_tellSide_44 ⟨Nat.zero_le _, Nat.zero_le _⟩ (fun _ => rfl) (fun _ => rfl) [sc, ty, e 0, e 1, e 2, e 3, e 4, e 5, e 6] rfl (fun _ => rfl) (fun r_44 u_44 H locs e_44 hP hD hS => ?_)
          obtain ⟨p_44, t_44⟩ := u_44
          obtain ⟨a_44, b_44⟩ := e_44
          dsimp only at hP hD b_44
          by_cases w44 : isW y n (tE y n p) 13
          · skip
            have b_44 := (b_44.trans (if_pos w44)).symm
            subst b_44
            have hp_44 : tE y n (tE y n p) ≤ n := (tE_le (y := y) hp_2).2.2.1
            refine tp (y := 1) (a_44.trans (if_pos w44)) ?_
            refine lv_if_eq (tgt := 70) F.1 F.2.1 dX2_tellSide_47 (by decide) (fun c_47 => ?_) (fun c_47 => ?_)
            · exact absurd c_47 (by decide)
            · refine lv_aload_n F.1 F.2.1 dX2_tellSide_50 rfl (lv_at hl 1 rfl) ?_
              refine lv_bipush (v := 9) F.1 F.2.1 dX2_tellSide_51 (by decide) ?_
              refine iV (rest := []) (wsp := fun u_53 => (sc, .inr (2, [.ref ty, .int (nI n), .int (nI (tK y n u_53.1)), .int (nI (tB y n u_53.1)), .int (nI (tE y n u_53.1)), .int (tW y n u_53.1 u_53.2)])) :: ai ct ty 120 y :: wB ct e f) F (kX2_takeNumber l dC dI ct sc ty y n t_44 (tE y n (tE y n p)) hn (by omega) 9) gX2_tellSide_X2_takeNumber rfl ⟨rfl, rfl⟩ nmX2_takeNumber ⟨Nat.le_of_ble_eq_true rfl, Nat.le_of_ble_eq_true rfl⟩ eT_b (fun _ _ _ => trivial) hK hP hD hS hA 0 rfl rfl rfl [0, 1] (by decide) rfl rfl rfl hl.1 (Nat.le_of_ble_eq_true rfl) dX2_tellSide_53 ⟨Nat.zero_le _, Nat.zero_le _⟩ (fun _ => rfl) (fun _ => rfl) [sc, ty, e 0, e 1, e 2, e 3, e 4, e 5, e 6] rfl (fun _ => rfl) (fun r_53 u_53 H locs e_53 hP hD hS => ?_)
              obtain ⟨p_53, t_53⟩ := u_53
              obtain ⟨a_53, b_53⟩ := e_53
              dsimp only at hP hD b_53
              by_cases w53 : nuP y n (tE y n (tE y n p)) 9
              · skip
                have b_53 := (b_53.trans (if_pos w53)).symm
                subst b_53
                obtain ⟨v2, hvv2, evv2⟩ := nu_n (M := 9) hp_44 w53 (by omega)
                have hp_53 : tE y n (tE y n (tE y n p)) ≤ n := (tE_le (y := y) hp_44).2.2.1
                refine tp (y := nI v2) (a_53.trans ((if_pos w53).trans evv2)) ?_
                refine lv_istore_n (lv' := [(3, .int (nI v2)), (2, .int (nI v)), (0, .ref sc), (1, .ref (e 0))]) F.1 F.2.1 dX2_tellSide_56 rfl hl (by decide) rfl (fun ls hl => ?_)
                refine lv_iload_n F.1 F.2.1 dX2_tellSide_57 rfl (lv_at hl 0 rfl) ?_
                refine lv_if_ge (tgt := 63) F.1 F.2.1 dX2_tellSide_58 (by decide) (fun c_58 => ?_) (fun c_58 => ?_)
                · refine lv_aload_n F.1 F.2.1 dX2_tellSide_63 rfl (lv_at hl 3 rfl) ?_
                  refine gf F hK hP 2 rfl rfl hiX2_tellSide_1 5 (by decide) (List.mem_of_getElem? (i := 2) rfl) rfl dX2_tellSide_64 ?_
                  refine lv_iload_n F.1 F.2.1 dX2_tellSide_67 rfl (lv_at hl 1 rfl) ?_
                  refine lv_iload_n F.1 F.2.1 dX2_tellSide_68 rfl (lv_at hl 0 rfl) ?_
                  refine ast (ws' := (sc, .inr (2, [.ref ty, .int (nI n), .int (nI (tK y n (tE y n (tE y n (tE y n p))))), .int (nI (tB y n (tE y n (tE y n (tE y n p))))), .int (nI (tE y n (tE y n (tE y n (tE y n p))))), .int (tW y n (tE y n (tE y n (tE y n p))) t_53)])) :: ai ct ty 120 y :: wB ct e (upd f (21 + 17 * v) (nI v2))) F hK hP hD hS 8 0 rfl rfl v rfl (by omega) (by decide) dX2_tellSide_69 (weq.c (weq.c (wq_trust ct e f (by omega)))) (fun H locs hP hD hS => ?_)
                  refine lv_iconst (v := 1) F.1 F.2.1 dX2_tellSide_70 (by decide) ?_
                  exact rtZ (tE y n (tE y n (tE y n p)), t_53, (upd f (21 + 17 * v) (nI v2))) F hr hlk hP hS rfl (by rw [tlS, if_pos w2, tlG, if_neg w15, tlT, if_pos w44, if_pos w53] <;> simp only [evv, show tn (nI v) = v from nI_clamp (by omega), evv2, show tn (nI v2) = v2 from nI_clamp (by omega)]) (Or.inr rfl) dX2_tellSide_71
                · exact absurd (nI_pos' (by omega)) c_58
              · skip
                have b_53 := (b_53.trans (if_neg w53)).symm
                subst b_53
                refine tp (y := -1) (a_53.trans (if_neg w53)) ?_
                refine lv_istore_n (lv' := [(3, .int (-1)), (2, .int (nI v)), (0, .ref sc), (1, .ref (e 0))]) F.1 F.2.1 dX2_tellSide_56 rfl hl (by decide) rfl (fun ls hl => ?_)
                refine lv_iload_n F.1 F.2.1 dX2_tellSide_57 rfl (lv_at hl 0 rfl) ?_
                refine lv_if_ge (tgt := 63) F.1 F.2.1 dX2_tellSide_58 (by decide) (fun c_58 => ?_) (fun c_58 => ?_)
                · exact absurd c_58 (by decide)
                · refine lv_iconst (v := 0) F.1 F.2.1 dX2_tellSide_61 (by decide) ?_
                  exact rtZ (tE y n (tE y n p), t_53, f) F hr hlk hP hS rfl (by rw [tlS, if_pos w2, tlG, if_neg w15, tlT, if_pos w44, if_neg w53] <;> simp only [evv, show tn (nI v) = v from nI_clamp (by omega)]) (Or.inl rfl) dX2_tellSide_62
          · skip
            have b_44 := (b_44.trans (if_neg w44)).symm
            subst b_44
            refine tp (y := 0) (a_44.trans (if_neg w44)) ?_
            refine lv_if_eq (tgt := 70) F.1 F.2.1 dX2_tellSide_47 (by decide) (fun c_47 => ?_) (fun c_47 => ?_)
            · refine lv_iconst (v := 1) F.1 F.2.1 dX2_tellSide_70 (by decide) ?_
              exact rtZ (tE y n p, t_44, f) F hr hlk hP hS rfl (by rw [tlS, if_pos w2, tlG, if_neg w15, tlT, if_neg w44] <;> simp only [evv, show tn (nI v) = v from nI_clamp (by omega)]) (Or.inr rfl) dX2_tellSide_71
            · exact absurd rfl c_47
        · exact absurd rfl c_18
    · exact absurd (nI_pos' (by omega)) c_7
  · skip
    have b_2 := (b_2.trans (if_neg w2)).symm
    subst b_2
    refine tp (y := -1) (a_2.trans (if_neg w2)) ?_
    refine lv_istore_n (lv' := [(2, .int (-1)), (0, .ref sc), (1, .ref (e 0))]) F.1 F.2.1 dX2_tellSide_5 rfl hl (by decide) rfl (fun ls hl => ?_)
    refine lv_iload_n F.1 F.2.1 dX2_tellSide_6 rfl (lv_at hl 0 rfl) ?_
    refine lv_if_ge (tgt := 12) F.1 F.2.1 dX2_tellSide_7 (by decide) (fun c_7 => ?_) (fun c_7 => ?_)
    · exact absurd c_7 (by decide)
    · refine lv_iconst (v := 0) F.1 F.2.1 dX2_tellSide_10 (by decide) ?_
      exact rtZ (p, t_2, f) F hr hlk hP hS rfl (by rw [tlS, if_neg w2]) (Or.inl rfl) dX2_tellSide_11
