/-! ===== constructor of State ===== -/
def rmX4_init : Room := { frames := 2, cells := 22, slots := 242, locals := 43 }
theorem nmX4_init : NmV yX4_init RX4 0 := by unfold NmV; decide +kernel
theorem hcX4_init_X1 : ∀ w ∈ u_ws RX1 TX1 10, w ∈ wsX4_init := by decide +kernel
theorem hcX4_init_X4 : ∀ w ∈ u_ws RX4 TX4 4, w ∈ wsX4_init := by decide +kernel
theorem hcX4_init_X0 : ∀ w ∈ u_ws RX0 TX0 3, w ∈ wsX4_init := by decide +kernel
set_option maxHeartbeats 4000000 in
set_option maxRecDepth 100000 in
theorem kX4_init (l : Launch) (dC : Nat → ClassId) (dI : Nat → Nat → Nat) (ct : Nat → ClassId) (a0 : Nat) (h0 : LIB0 l) : MC (S := (Nat → Nat) × Nat × (Nat → Nat) × Nat) l yX4_init wsX4_init rmX4_init dC dI ct EC [.ref a0] [(a0, .inr (4, [.null, .null, .null, .int 0]))] (fun u => [(a0, .inr (4, [.ref (u.1 0), .ref u.2.1, .ref u.2.2.2, .int 1]))] ++ wB ct u.1 f0 ++ wR ct u.2.1 u.2.2.1 0 0 (fun _ => 0) ++ [ai ct u.2.2.2 10 (fun j => f0 (5 + j))]) (fun _ => True) 22 242 := by
  refine MC.of (cc := cX4_init) (maxL := 1) (by decide) rfl (Nat.le_of_ble_eq_true rfl) ?_
  intro p e s m below meth c A F hr hlk hin hK hP hD hA hS hAz hE ls hl
  have F : CallFix p m c cX4_init 1 s _ wsX4_init RX4 := F
  have hin : meth.name = "<init>" := hin rfl
  have hl : lv_has ls 1 [(0, .ref a0)] := hl
  refine lv_aload_n F.1 F.2.1 dX4_init_0 rfl (lv_at hl 0 rfl) ?_
  refine oI F (by decide +kernel) (by decide +kernel) (by decide +kernel) hl.1 dX4_init_1 ⟨Nat.le_of_ble_eq_true rfl, Nat.le_of_ble_eq_true rfl⟩ ?_
  refine lv_aload_n F.1 F.2.1 dX4_init_4 rfl (lv_at hl 0 rfl) ?_
  refine nwO F hK hP hD hS hA (ci := 1) rfl hcX4_init_X1 tyX1 tyX1_ok (by decide +kernel) (by decide +kernel) (by decide +kernel) [.null, .null, .null, .null, .null, .null, .int 0, .int 0, .int 0, .int 0] dfX1 (Nat.le_of_ble_eq_true rfl) (Nat.le_of_ble_eq_true rfl) dX4_init_5 (fun q1 H hP hD hS => ?_)
  refine lv_dup F.1 F.2.1 dX4_init_8 rfl ?_
  refine iL (wr := [(a0, .inr (4, [.null, .null, .null, .int 0]))]) (va_runI (As := []) (rest := [.ref q1, .ref a0]) F (kX1_init l dC dI ct q1 H.size) (cwI 0 F.2.2.2.2 gX4_init_X1_init rfl rfl rfl (F.2.2.2.2 (.initialized RX1) (by decide +kernel)) (F.2.2.2.2 (.methodLink RX4 11 yX1_init) (by decide +kernel)) (F.2.2.2.2 (.instanceMethod yX1_init) (by decide +kernel)) rfl (by decide +kernel) ⟨Nat.le_of_ble_eq_true rfl, Nat.le_of_ble_eq_true rfl⟩) ⟨blind eT_b H.size, prL (wr := [(a0, .inr (4, [.null, .null, .null, .int 0]))]) hK hP hD (fun _ _ _ => trivial)⟩ rfl rfl hl.1 rfl (lv_room (Nat.le_of_ble_eq_true rfl)) dX4_init_9 ⟨Nat.le_of_ble_eq_true rfl, Nat.le_of_ble_eq_true rfl⟩) hP hD hS hA (fun u2 H locs hu2 hP2 hD2 hS => ?_)
  obtain rfl := hu2
  have hP : va_P (dC, dI) vwCl ([(a0, .inr (4, [.null, .null, .null, .int 0]))] ++ wB ct u2 f0) H := hP2
  have hD : va_D A ([(a0, .inr (4, [.null, .null, .null, .int 0]))] ++ wB ct u2 f0) := hD2
  refine pfF (ws' := [(a0, .inr (4, [.ref (u2 0), .null, .null, .int 0]))] ++ wB ct u2 f0) F hin hK hP hD hS 0 rfl rfl hcX4_init_X4 tyX4 tyX4_ok nmX4 0 (by decide) (by decide +kernel) rfl rfl rfl rfl (Nat.le_of_ble_eq_true rfl) dX4_init_12 (weq.of rfl) (fun H locs hP hD hS => ?_)
  refine lv_aload_n F.1 F.2.1 dX4_init_15 rfl (lv_at hl 0 rfl) ?_
  refine nwO F hK hP hD hS hA (ci := 0) rfl hcX4_init_X0 tyX0 tyX0_ok (by decide +kernel) (by decide +kernel) (by decide +kernel) [.null, .int 0, .int 0] dfX0 (Nat.le_of_ble_eq_true rfl) (Nat.le_of_ble_eq_true rfl) dX4_init_16 (fun q3 H hP hD hS => ?_)
  refine lv_dup F.1 F.2.1 dX4_init_19 rfl ?_
  refine iL (wr := [(a0, .inr (4, [.ref (u2 0), .null, .null, .int 0]))] ++ wB ct u2 f0) (va_runIN (As := []) (rest := [.ref q3, .ref a0]) F (h0.2 dC dI ct q3 H.size) ⟨va_cnB 0 F.2.2.2.2 gX4_init_X0_init_n20 rfl rfl rfl hE.2.1.1 (F.2.2.2.2 (.initialized RX0) (by decide +kernel)) (by decide +kernel) ⟨Nat.le_of_ble_eq_true rfl, Nat.le_of_ble_eq_true rfl⟩, rfl, F.2.2.2.2 (.instanceMethod yX0_init) (by decide +kernel)⟩ ⟨blind (EC_b h0) H.size, prL (wr := [(a0, .inr (4, [.ref (u2 0), .null, .null, .int 0]))] ++ wB ct u2 f0) hK hP hD (fun U hU hW => EC_w h0 hW hE)⟩ rfl rfl hl.1 rfl (lv_room (Nat.le_of_ble_eq_true rfl)) dX4_init_20 ⟨Nat.le_of_ble_eq_true rfl, Nat.le_of_ble_eq_true rfl⟩) hP hD hS hA (fun u4 H locs hu4 hP4 hD4 hS => ?_)
  have hP : va_P (dC, dI) vwCl ([(a0, .inr (4, [.ref (u2 0), .null, .null, .int 0]))] ++ wB ct u2 f0 ++ wR ct q3 u4 0 0 (fun _ => 0)) H := hP4
  have hD : va_D A ([(a0, .inr (4, [.ref (u2 0), .null, .null, .int 0]))] ++ wB ct u2 f0 ++ wR ct q3 u4 0 0 (fun _ => 0)) := hD4
  refine pfF (ws' := [(a0, .inr (4, [.ref (u2 0), .ref q3, .null, .int 0]))] ++ wB ct u2 f0 ++ wR ct q3 u4 0 0 (fun _ => 0)) F hin hK hP hD hS 0 rfl rfl hcX4_init_X4 tyX4 tyX4_ok nmX4 1 (by decide) (by decide +kernel) rfl rfl rfl rfl (Nat.le_of_ble_eq_true rfl) dX4_init_23 (weq.of rfl) (fun H locs hP hD hS => ?_)
  refine lv_aload_n F.1 F.2.1 dX4_init_26 rfl (lv_at hl 0 rfl) ?_
  refine lv_bipush (v := 10) F.1 F.2.1 dX4_init_27 (by decide) ?_
  refine nwI F (by decide +kernel) hK hP hD hS hA 10 (by decide) (by decide) (Nat.le_of_ble_eq_true rfl) (Nat.le_of_ble_eq_true rfl) dX4_init_29 (fun q5 H hP hD hS => ?_)
  have hP : va_P (dC, dI) vwCl ([(a0, .inr (4, [.ref (u2 0), .ref q3, .null, .int 0]))] ++ wB ct u2 f0 ++ wR ct q3 u4 0 0 (fun _ => 0) ++ [ai ct q5 10 (fun _ => 0)]) H := hP
  have hD : va_D A ([(a0, .inr (4, [.ref (u2 0), .ref q3, .null, .int 0]))] ++ wB ct u2 f0 ++ wR ct q3 u4 0 0 (fun _ => 0) ++ [ai ct q5 10 (fun _ => 0)]) := hD
  refine pfF (ws' := [(a0, .inr (4, [.ref (u2 0), .ref q3, .ref q5, .int 0]))] ++ wB ct u2 f0 ++ wR ct q3 u4 0 0 (fun _ => 0) ++ [ai ct q5 10 (fun _ => 0)]) F hin hK hP hD hS 0 rfl rfl hcX4_init_X4 tyX4 tyX4_ok nmX4 2 (by decide) (by decide +kernel) rfl rfl rfl rfl (Nat.le_of_ble_eq_true rfl) dX4_init_31 (weq.of rfl) (fun H locs hP hD hS => ?_)
  refine lv_aload_n F.1 F.2.1 dX4_init_34 rfl (lv_at hl 0 rfl) ?_
  refine lv_iconst (v := 1) F.1 F.2.1 dX4_init_35 (by decide) ?_
  refine pf (ws' := [(a0, .inr (4, [.ref (u2 0), .ref q3, .ref q5, .int 1]))] ++ wB ct u2 f0 ++ wR ct q3 u4 0 0 (fun _ => 0) ++ [ai ct q5 10 (fun _ => 0)]) F hK hP hD hS 0 rfl rfl hcX4_init_X4 tyX4 tyX4_ok nmX4 3 (by decide) (by decide +kernel) rfl rfl rfl (Nat.le_of_ble_eq_true rfl) dX4_init_36 (weq.of rfl) (fun H locs hP hD hS => ?_)
  refine lv_aload_n F.1 F.2.1 dX4_init_39 rfl (lv_at hl 0 rfl) ?_
  refine gf F hK hP 0 rfl rfl hcX4_init_X4 2 (by decide) (by decide +kernel) rfl dX4_init_40 ?_
  refine lv_iconst (v := (-1)) F.1 F.2.1 dX4_init_43 (by decide) ?_
  refine vS (rest := []) (wsp := fun _ => [(a0, .inr (4, [.ref (u2 0), .ref q3, .ref q5, .int 1]))] ++ wB ct u2 f0 ++ wR ct q3 u4 0 0 (fun _ => 0) ++ [ai ct q5 10 (fun _ => (-1))]) F (kJ7_fill_53178 l dC dI ct q5 10 (fun _ => 0) (-1) (by decide)) gX4_init_J7_fill_53178 rfl ⟨rfl, rfl⟩ nmJ7_fill_53178 ⟨Nat.le_of_ble_eq_true rfl, Nat.le_of_ble_eq_true rfl⟩ eT_b (fun _ _ _ => trivial) hK hP hD hS hA [22] (by decide) rfl rfl rfl hl.1 (Nat.le_of_ble_eq_true rfl) dX4_init_44 ⟨Nat.le_of_ble_eq_true rfl, Nat.le_of_ble_eq_true rfl⟩ (fun _ => rfl) (fun _ => rfl) [a0, u2 0, u2 1, u2 2, u2 3, u2 4, u2 5, u2 6, q3, u4 12, u4 0, u4 1, u4 2, u4 3, u4 4, u4 5, u4 6, u4 7, u4 8, u4 9, u4 10, u4 11, q5] rfl (fun _ => rfl) (fun u_44 H locs e_44 hP hD hS => ?_)
  exact rtC ((u2, q3, u4, q5)) F hr hlk hP hD hS (weq.app (weq.rf _) (weq.cons (ceq.arr (by decide)) weq.nil)) (trivial) dX4_init_47
