/-! ===== Books(): the last constructor ===== -/
theorem hcX0_init_X0 : ∀ w ∈ u_ws RX0 TX0 3, w ∈ wsX0_init := by decide +kernel
abbrev rwB (r : Nat → Nat) (q : Nat) : Nat → Nat := fun j => if j < 12 then r j else q
set_option maxHeartbeats 4000000 in
set_option maxRecDepth 100000 in
theorem kX0_init (l : Launch) (dC : Nat → ClassId) (dI : Nat → Nat → Nat) (ct : Nat → ClassId) (a0 : Nat) : MC (S := Nat → Nat) l yX0_init wsX0_init rmX0_init dC dI ct EC [.ref a0] [(a0, .inr (0, [.null, .int 0, .int 0]))] (fun rw => wR ct a0 rw 0 0 (fun _ => 0)) (fun _ => True) 13 180 := by
  refine MC.of (cc := cX0_init) (maxL := 1) (by decide) rfl (Nat.le_of_ble_eq_true rfl) ?_
  intro p e s m below meth c A F hr hlk hin hK hP hD hA hS hAz hE ls hl
  have F : CallFix p m c cX0_init 1 s _ wsX0_init RX0 := F
  have hin : meth.name = "<init>" := hin rfl
  have hl : lv_has ls 1 [(0, .ref a0)] := hl
  refine lv_aload_n F.1 F.2.1 dX0_init_0 rfl (lv_at hl 0 rfl) ?_
  refine oI F (by decide +kernel) (by decide +kernel) (by decide +kernel) hl.1 dX0_init_1 ⟨Nat.le_of_ble_eq_true rfl, Nat.le_of_ble_eq_true rfl⟩ ?_
  refine lv_aload_n F.1 F.2.1 dX0_init_4 rfl (lv_at hl 0 rfl) ?_
  refine lv_bipush (v := 12) F.1 F.2.1 dX0_init_5 (by decide) ?_
  refine lv_bipush (v := 14) F.1 F.2.1 dX0_init_7 (by decide) ?_
  have hcy : s.vm.findClass (FieldType.array .int).toString = some (ct 0) := (hK.2 0 (ct 0, .int) rfl).2
  refine va_mna (X := [(a0, .inr (0, [.null, .int 0, .int 0]))]) (L := []) (f := fun _ => .inr (0, [])) (ty := .int) (N' := 12) (K' := 14) (z := (14, .inl (fun _ => 0))) F.1 F.2.1 F.2.2.2.1 (F.2.2.2.2 (.classLink RX0 11 "[[I") (by decide +kernel)) hE.1 (F.2.2.2.2 (.arrayClass .int) (by decide +kernel)) hcy hK hP hD hS hA (by decide) (by decide) (by decide) (by decide) (Nat.le_of_ble_eq_true rfl) (Nat.le_of_ble_eq_true rfl) (Nat.le_of_ble_eq_true rfl) (by decide) (by decide) (Nat.le_of_ble_eq_true rfl) (Nat.le_of_ble_eq_true rfl) (fun c => by rw [vp_cell_i]; exact arrV_new c 14 (.int 0)) dX0_init_9 (fun q r cA H1 _ _ hK1 hP1 hD1 hS1 => ?_)
  have h1 : s.vm.findClass "[[I" = some cA := (hK1.2 4 (cA, .array .int) rfl).2
  have h2 : s.vm.findClass "[[I" = some (ct 1) := (hK.2 1 (ct 1, .array .int) rfl).2
  have h3 : cA = ct 1 := Option.some.inj (h1.symm.trans h2)
  subst h3
  rw [← vr_rows (fun a _ h => absurd h List.not_mem_nil)] at hP1 hD1
  have hq : weq ([(a0, .inr (0, [.null, .int 0, .int 0])), (q, .inl (ct 1, 12, .inr (.inr (.inr (.inr (fun i => if i < 12 then some (r i) else none))))))] ++ [(r 0, .inl (ct 0, 14, .inl (fun _ => 0))), (r 1, .inl (ct 0, 14, .inl (fun _ => 0))), (r 2, .inl (ct 0, 14, .inl (fun _ => 0))), (r 3, .inl (ct 0, 14, .inl (fun _ => 0))), (r 4, .inl (ct 0, 14, .inl (fun _ => 0))), (r 5, .inl (ct 0, 14, .inl (fun _ => 0))), (r 6, .inl (ct 0, 14, .inl (fun _ => 0))), (r 7, .inl (ct 0, 14, .inl (fun _ => 0))), (r 8, .inl (ct 0, 14, .inl (fun _ => 0))), (r 9, .inl (ct 0, 14, .inl (fun _ => 0))), (r 10, .inl (ct 0, 14, .inl (fun _ => 0))), (r 11, .inl (ct 0, 14, .inl (fun _ => 0)))]) ((a0, .inr (0, [.null, .int 0, .int 0])) :: (wR ct a0 (rwB r q) 0 0 (fun _ => 0)).tail) := by
    refine weq.c (weq.cons (ceq.rar (fun j hj => ?_)) (weq.of rfl))
    show (if j < 12 then some (r j) else none) = some (if j < 12 then r j else q)
    rw [if_pos hj, if_pos hj]
  have hP1 := hq.P hP1
  have hD1 := hq.D hD1
  refine pfF (ws' := wR ct a0 (rwB r q) 0 0 (fun _ => 0)) F hin hK hP1 hD1 hS1 0 rfl rfl hcX0_init_X0 tyX0 tyX0_ok nmX0 0 (by decide) (by decide +kernel) rfl rfl rfl rfl (Nat.le_of_ble_eq_true rfl) dX0_init_13 (weq.of rfl) (fun H locs hP hD hS => ?_)
  refine lv_aload_n F.1 F.2.1 dX0_init_16 rfl (lv_at hl 0 rfl) ?_
  refine lv_iconst (v := 0) F.1 F.2.1 dX0_init_17 (by decide) ?_
  refine pf (ws' := wR ct a0 (rwB r q) 0 0 (fun _ => 0)) F hK hP hD hS 0 rfl rfl hcX0_init_X0 tyX0 tyX0_ok nmX0 1 (by decide) (by decide +kernel) rfl rfl rfl (Nat.le_of_ble_eq_true rfl) dX0_init_18 (weq.of rfl) (fun H locs hP hD hS => ?_)
  refine lv_aload_n F.1 F.2.1 dX0_init_21 rfl (lv_at hl 0 rfl) ?_
  refine lv_iconst (v := 0) F.1 F.2.1 dX0_init_22 (by decide) ?_
  refine pf (ws' := wR ct a0 (rwB r q) 0 0 (fun _ => 0)) F hK hP hD hS 0 rfl rfl hcX0_init_X0 tyX0 tyX0_ok nmX0 2 (by decide) (by decide +kernel) rfl rfl rfl (Nat.le_of_ble_eq_true rfl) dX0_init_23 (weq.of rfl) (fun H locs hP hD hS => ?_)
  exact rtC (rwB r q) F hr hlk hP hD hS (weq.of rfl) (trivial) dX0_init_26
theorem lib0 (l : Launch) : LIB0 l := ⟨fun _ _ h q => AOA_m h q, kX0_init l⟩
