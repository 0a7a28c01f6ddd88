/-! ===== constructors of Border, Script, Sheet ===== -/
def rmX1_init : Room := { frames := 1, cells := 6, slots := 39, locals := 23 }
theorem nmX1_init : NmV yX1_init RX1 0 := by unfold NmV; decide +kernel
theorem hcX1_init_X1 : ∀ w ∈ u_ws RX1 TX1 10, w ∈ wsX1_init := by decide +kernel
set_option maxHeartbeats 4000000 in
set_option maxRecDepth 100000 in
theorem kX1_init (l : Launch) (dC : Nat → ClassId) (dI : Nat → Nat → Nat) (ct : Nat → ClassId) (a0 : Nat) : MC (S := Nat → Nat) l yX1_init wsX1_init rmX1_init dC dI ct eT [.ref a0] [(a0, .inr (1, [.null, .null, .null, .null, .null, .null, .int 0, .int 0, .int 0, .int 0]))] (fun u => wB ct u f0) (fun u => u 0 = a0) 6 39 := by
  refine MC.of (cc := cX1_init) (maxL := 1) (by decide) rfl (Nat.le_of_ble_eq_true rfl) ?_
  intro p e s m below meth c A F hr hlk hin hK hP hD hA hS hAz hE ls hl
  have F : CallFix p m c cX1_init 1 s _ wsX1_init RX1 := F
  have hin : meth.name = "<init>" := hin rfl
  have hl : lv_has ls 1 [(0, .ref a0)] := hl
  refine lv_aload_n F.1 F.2.1 dX1_init_0 rfl (lv_at hl 0 rfl) ?_
  refine oI F (by decide +kernel) (by decide +kernel) (by decide +kernel) hl.1 dX1_init_1 ⟨Nat.le_of_ble_eq_true rfl, Nat.le_of_ble_eq_true rfl⟩ ?_
  refine lv_aload_n F.1 F.2.1 dX1_init_4 rfl (lv_at hl 0 rfl) ?_
  refine lv_iconst (v := 5) F.1 F.2.1 dX1_init_5 (by decide) ?_
  refine nwI F (by decide +kernel) hK hP hD hS hA 5 (by decide) (by decide) (Nat.le_of_ble_eq_true rfl) (Nat.le_of_ble_eq_true rfl) dX1_init_6 (fun q6 H hP hD hS => ?_)
  have hP : va_P (dC, dI) vwCl ([(a0, .inr (1, [.null, .null, .null, .null, .null, .null, .int 0, .int 0, .int 0, .int 0]))] ++ [ai ct q6 5 (fun _ => 0)]) H := hP
  have hD : va_D A ([(a0, .inr (1, [.null, .null, .null, .null, .null, .null, .int 0, .int 0, .int 0, .int 0]))] ++ [ai ct q6 5 (fun _ => 0)]) := hD
  refine pfF (ws' := [(a0, .inr (1, [.ref q6, .null, .null, .null, .null, .null, .int 0, .int 0, .int 0, .int 0]))] ++ [ai ct q6 5 (fun _ => 0)]) F hin hK hP hD hS 0 rfl rfl hcX1_init_X1 tyX1 tyX1_ok nmX1 0 (by decide) (by decide +kernel) rfl rfl rfl rfl (Nat.le_of_ble_eq_true rfl) dX1_init_8 (weq.of rfl) (fun H locs hP hD hS => ?_)
  refine lv_aload_n F.1 F.2.1 dX1_init_11 rfl (lv_at hl 0 rfl) ?_
  refine lv_bipush (v := 10) F.1 F.2.1 dX1_init_12 (by decide) ?_
  refine nwI F (by decide +kernel) hK hP hD hS hA 10 (by decide) (by decide) (Nat.le_of_ble_eq_true rfl) (Nat.le_of_ble_eq_true rfl) dX1_init_14 (fun q14 H hP hD hS => ?_)
  have hP : va_P (dC, dI) vwCl ([(a0, .inr (1, [.ref q6, .null, .null, .null, .null, .null, .int 0, .int 0, .int 0, .int 0]))] ++ [ai ct q6 5 (fun _ => 0)] ++ [ai ct q14 10 (fun _ => 0)]) H := hP
  have hD : va_D A ([(a0, .inr (1, [.ref q6, .null, .null, .null, .null, .null, .int 0, .int 0, .int 0, .int 0]))] ++ [ai ct q6 5 (fun _ => 0)] ++ [ai ct q14 10 (fun _ => 0)]) := hD
  refine pfF (ws' := [(a0, .inr (1, [.ref q6, .ref q14, .null, .null, .null, .null, .int 0, .int 0, .int 0, .int 0]))] ++ [ai ct q6 5 (fun _ => 0)] ++ [ai ct q14 10 (fun _ => 0)]) F hin hK hP hD hS 0 rfl rfl hcX1_init_X1 tyX1 tyX1_ok nmX1 1 (by decide) (by decide +kernel) rfl rfl rfl rfl (Nat.le_of_ble_eq_true rfl) dX1_init_16 (weq.of rfl) (fun H locs hP hD hS => ?_)
  refine lv_aload_n F.1 F.2.1 dX1_init_19 rfl (lv_at hl 0 rfl) ?_
  refine lv_bipush (v := 10) F.1 F.2.1 dX1_init_20 (by decide) ?_
  refine nwI F (by decide +kernel) hK hP hD hS hA 10 (by decide) (by decide) (Nat.le_of_ble_eq_true rfl) (Nat.le_of_ble_eq_true rfl) dX1_init_22 (fun q22 H hP hD hS => ?_)
  have hP : va_P (dC, dI) vwCl ([(a0, .inr (1, [.ref q6, .ref q14, .null, .null, .null, .null, .int 0, .int 0, .int 0, .int 0]))] ++ [ai ct q6 5 (fun _ => 0)] ++ [ai ct q14 10 (fun _ => 0)] ++ [ai ct q22 10 (fun _ => 0)]) H := hP
  have hD : va_D A ([(a0, .inr (1, [.ref q6, .ref q14, .null, .null, .null, .null, .int 0, .int 0, .int 0, .int 0]))] ++ [ai ct q6 5 (fun _ => 0)] ++ [ai ct q14 10 (fun _ => 0)] ++ [ai ct q22 10 (fun _ => 0)]) := hD
  refine pfF (ws' := [(a0, .inr (1, [.ref q6, .ref q14, .ref q22, .null, .null, .null, .int 0, .int 0, .int 0, .int 0]))] ++ [ai ct q6 5 (fun _ => 0)] ++ [ai ct q14 10 (fun _ => 0)] ++ [ai ct q22 10 (fun _ => 0)]) F hin hK hP hD hS 0 rfl rfl hcX1_init_X1 tyX1 tyX1_ok nmX1 2 (by decide) (by decide +kernel) rfl rfl rfl rfl (Nat.le_of_ble_eq_true rfl) dX1_init_24 (weq.of rfl) (fun H locs hP hD hS => ?_)
  refine lv_aload_n F.1 F.2.1 dX1_init_27 rfl (lv_at hl 0 rfl) ?_
  refine lv_bipush (v := 10) F.1 F.2.1 dX1_init_28 (by decide) ?_
  refine nwI F (by decide +kernel) hK hP hD hS hA 10 (by decide) (by decide) (Nat.le_of_ble_eq_true rfl) (Nat.le_of_ble_eq_true rfl) dX1_init_30 (fun q30 H hP hD hS => ?_)
  have hP : va_P (dC, dI) vwCl ([(a0, .inr (1, [.ref q6, .ref q14, .ref q22, .null, .null, .null, .int 0, .int 0, .int 0, .int 0]))] ++ [ai ct q6 5 (fun _ => 0)] ++ [ai ct q14 10 (fun _ => 0)] ++ [ai ct q22 10 (fun _ => 0)] ++ [ai ct q30 10 (fun _ => 0)]) H := hP
  have hD : va_D A ([(a0, .inr (1, [.ref q6, .ref q14, .ref q22, .null, .null, .null, .int 0, .int 0, .int 0, .int 0]))] ++ [ai ct q6 5 (fun _ => 0)] ++ [ai ct q14 10 (fun _ => 0)] ++ [ai ct q22 10 (fun _ => 0)] ++ [ai ct q30 10 (fun _ => 0)]) := hD
  refine pfF (ws' := [(a0, .inr (1, [.ref q6, .ref q14, .ref q22, .ref q30, .null, .null, .int 0, .int 0, .int 0, .int 0]))] ++ [ai ct q6 5 (fun _ => 0)] ++ [ai ct q14 10 (fun _ => 0)] ++ [ai ct q22 10 (fun _ => 0)] ++ [ai ct q30 10 (fun _ => 0)]) F hin hK hP hD hS 0 rfl rfl hcX1_init_X1 tyX1 tyX1_ok nmX1 3 (by decide) (by decide +kernel) rfl rfl rfl rfl (Nat.le_of_ble_eq_true rfl) dX1_init_32 (weq.of rfl) (fun H locs hP hD hS => ?_)
  refine lv_aload_n F.1 F.2.1 dX1_init_35 rfl (lv_at hl 0 rfl) ?_
  refine lv_iconst (v := 2) F.1 F.2.1 dX1_init_36 (by decide) ?_
  refine nwI F (by decide +kernel) hK hP hD hS hA 2 (by decide) (by decide) (Nat.le_of_ble_eq_true rfl) (Nat.le_of_ble_eq_true rfl) dX1_init_37 (fun q37 H hP hD hS => ?_)
  have hP : va_P (dC, dI) vwCl ([(a0, .inr (1, [.ref q6, .ref q14, .ref q22, .ref q30, .null, .null, .int 0, .int 0, .int 0, .int 0]))] ++ [ai ct q6 5 (fun _ => 0)] ++ [ai ct q14 10 (fun _ => 0)] ++ [ai ct q22 10 (fun _ => 0)] ++ [ai ct q30 10 (fun _ => 0)] ++ [ai ct q37 2 (fun _ => 0)]) H := hP
  have hD : va_D A ([(a0, .inr (1, [.ref q6, .ref q14, .ref q22, .ref q30, .null, .null, .int 0, .int 0, .int 0, .int 0]))] ++ [ai ct q6 5 (fun _ => 0)] ++ [ai ct q14 10 (fun _ => 0)] ++ [ai ct q22 10 (fun _ => 0)] ++ [ai ct q30 10 (fun _ => 0)] ++ [ai ct q37 2 (fun _ => 0)]) := hD
  refine pfF (ws' := [(a0, .inr (1, [.ref q6, .ref q14, .ref q22, .ref q30, .ref q37, .null, .int 0, .int 0, .int 0, .int 0]))] ++ [ai ct q6 5 (fun _ => 0)] ++ [ai ct q14 10 (fun _ => 0)] ++ [ai ct q22 10 (fun _ => 0)] ++ [ai ct q30 10 (fun _ => 0)] ++ [ai ct q37 2 (fun _ => 0)]) F hin hK hP hD hS 0 rfl rfl hcX1_init_X1 tyX1 tyX1_ok nmX1 4 (by decide) (by decide +kernel) rfl rfl rfl rfl (Nat.le_of_ble_eq_true rfl) dX1_init_39 (weq.of rfl) (fun H locs hP hD hS => ?_)
  refine lv_aload_n F.1 F.2.1 dX1_init_42 rfl (lv_at hl 0 rfl) ?_
  refine lv_iconst (v := 2) F.1 F.2.1 dX1_init_43 (by decide) ?_
  refine nwI F (by decide +kernel) hK hP hD hS hA 2 (by decide) (by decide) (Nat.le_of_ble_eq_true rfl) (Nat.le_of_ble_eq_true rfl) dX1_init_44 (fun q44 H hP hD hS => ?_)
  have hP : va_P (dC, dI) vwCl ([(a0, .inr (1, [.ref q6, .ref q14, .ref q22, .ref q30, .ref q37, .null, .int 0, .int 0, .int 0, .int 0]))] ++ [ai ct q6 5 (fun _ => 0)] ++ [ai ct q14 10 (fun _ => 0)] ++ [ai ct q22 10 (fun _ => 0)] ++ [ai ct q30 10 (fun _ => 0)] ++ [ai ct q37 2 (fun _ => 0)] ++ [ai ct q44 2 (fun _ => 0)]) H := hP
  have hD : va_D A ([(a0, .inr (1, [.ref q6, .ref q14, .ref q22, .ref q30, .ref q37, .null, .int 0, .int 0, .int 0, .int 0]))] ++ [ai ct q6 5 (fun _ => 0)] ++ [ai ct q14 10 (fun _ => 0)] ++ [ai ct q22 10 (fun _ => 0)] ++ [ai ct q30 10 (fun _ => 0)] ++ [ai ct q37 2 (fun _ => 0)] ++ [ai ct q44 2 (fun _ => 0)]) := hD
  refine pfF (ws' := [(a0, .inr (1, [.ref q6, .ref q14, .ref q22, .ref q30, .ref q37, .ref q44, .int 0, .int 0, .int 0, .int 0]))] ++ [ai ct q6 5 (fun _ => 0)] ++ [ai ct q14 10 (fun _ => 0)] ++ [ai ct q22 10 (fun _ => 0)] ++ [ai ct q30 10 (fun _ => 0)] ++ [ai ct q37 2 (fun _ => 0)] ++ [ai ct q44 2 (fun _ => 0)]) F hin hK hP hD hS 0 rfl rfl hcX1_init_X1 tyX1 tyX1_ok nmX1 5 (by decide) (by decide +kernel) rfl rfl rfl rfl (Nat.le_of_ble_eq_true rfl) dX1_init_46 (weq.of rfl) (fun H locs hP hD hS => ?_)
  refine lv_aload_n F.1 F.2.1 dX1_init_49 rfl (lv_at hl 0 rfl) ?_
  refine lv_iconst (v := 0) F.1 F.2.1 dX1_init_50 (by decide) ?_
  refine pf (ws' := [(a0, .inr (1, [.ref q6, .ref q14, .ref q22, .ref q30, .ref q37, .ref q44, .int 0, .int 0, .int 0, .int 0]))] ++ [ai ct q6 5 (fun _ => 0)] ++ [ai ct q14 10 (fun _ => 0)] ++ [ai ct q22 10 (fun _ => 0)] ++ [ai ct q30 10 (fun _ => 0)] ++ [ai ct q37 2 (fun _ => 0)] ++ [ai ct q44 2 (fun _ => 0)]) F hK hP hD hS 0 rfl rfl hcX1_init_X1 tyX1 tyX1_ok nmX1 6 (by decide) (by decide +kernel) rfl rfl rfl (Nat.le_of_ble_eq_true rfl) dX1_init_51 (weq.of rfl) (fun H locs hP hD hS => ?_)
  refine lv_aload_n F.1 F.2.1 dX1_init_54 rfl (lv_at hl 0 rfl) ?_
  refine lv_iconst (v := 0) F.1 F.2.1 dX1_init_55 (by decide) ?_
  refine pf (ws' := [(a0, .inr (1, [.ref q6, .ref q14, .ref q22, .ref q30, .ref q37, .ref q44, .int 0, .int 0, .int 0, .int 0]))] ++ [ai ct q6 5 (fun _ => 0)] ++ [ai ct q14 10 (fun _ => 0)] ++ [ai ct q22 10 (fun _ => 0)] ++ [ai ct q30 10 (fun _ => 0)] ++ [ai ct q37 2 (fun _ => 0)] ++ [ai ct q44 2 (fun _ => 0)]) F hK hP hD hS 0 rfl rfl hcX1_init_X1 tyX1 tyX1_ok nmX1 7 (by decide) (by decide +kernel) rfl rfl rfl (Nat.le_of_ble_eq_true rfl) dX1_init_56 (weq.of rfl) (fun H locs hP hD hS => ?_)
  refine lv_aload_n F.1 F.2.1 dX1_init_59 rfl (lv_at hl 0 rfl) ?_
  refine lv_iconst (v := 0) F.1 F.2.1 dX1_init_60 (by decide) ?_
  refine pf (ws' := [(a0, .inr (1, [.ref q6, .ref q14, .ref q22, .ref q30, .ref q37, .ref q44, .int 0, .int 0, .int 0, .int 0]))] ++ [ai ct q6 5 (fun _ => 0)] ++ [ai ct q14 10 (fun _ => 0)] ++ [ai ct q22 10 (fun _ => 0)] ++ [ai ct q30 10 (fun _ => 0)] ++ [ai ct q37 2 (fun _ => 0)] ++ [ai ct q44 2 (fun _ => 0)]) F hK hP hD hS 0 rfl rfl hcX1_init_X1 tyX1 tyX1_ok nmX1 8 (by decide) (by decide +kernel) rfl rfl rfl (Nat.le_of_ble_eq_true rfl) dX1_init_61 (weq.of rfl) (fun H locs hP hD hS => ?_)
  refine lv_aload_n F.1 F.2.1 dX1_init_64 rfl (lv_at hl 0 rfl) ?_
  refine lv_iconst (v := 0) F.1 F.2.1 dX1_init_65 (by decide) ?_
  refine pf (ws' := [(a0, .inr (1, [.ref q6, .ref q14, .ref q22, .ref q30, .ref q37, .ref q44, .int 0, .int 0, .int 0, .int 0]))] ++ [ai ct q6 5 (fun _ => 0)] ++ [ai ct q14 10 (fun _ => 0)] ++ [ai ct q22 10 (fun _ => 0)] ++ [ai ct q30 10 (fun _ => 0)] ++ [ai ct q37 2 (fun _ => 0)] ++ [ai ct q44 2 (fun _ => 0)]) F hK hP hD hS 0 rfl rfl hcX1_init_X1 tyX1 tyX1_ok nmX1 9 (by decide) (by decide +kernel) rfl rfl rfl (Nat.le_of_ble_eq_true rfl) dX1_init_66 (weq.of rfl) (fun H locs hP hD hS => ?_)
  refine lv_aload_n F.1 F.2.1 dX1_init_69 rfl (lv_at hl 0 rfl) ?_
  refine gf F hK hP 0 rfl rfl hcX1_init_X1 1 (by decide) (by decide +kernel) rfl dX1_init_70 ?_
  refine lv_bipush (v := 10) F.1 F.2.1 dX1_init_73 (by decide) ?_
  refine vS (rest := []) (wsp := fun _ => [(a0, .inr (1, [.ref q6, .ref q14, .ref q22, .ref q30, .ref q37, .ref q44, .int 0, .int 0, .int 0, .int 0]))] ++ [ai ct q6 5 (fun _ => 0)] ++ [ai ct q14 10 (fun _ => 10)] ++ [ai ct q22 10 (fun _ => 0)] ++ [ai ct q30 10 (fun _ => 0)] ++ [ai ct q37 2 (fun _ => 0)] ++ [ai ct q44 2 (fun _ => 0)]) F (kJ7_fill_53178 l dC dI ct q14 10 (fun _ => 0) 10 (by decide)) gX1_init_J7_fill_53178 rfl ⟨rfl, rfl⟩ nmJ7_fill_53178 ⟨Nat.le_of_ble_eq_true rfl, Nat.le_of_ble_eq_true rfl⟩ eT_b (fun _ _ _ => trivial) hK hP hD hS hA [2] (by decide) rfl rfl rfl hl.1 (Nat.le_of_ble_eq_true rfl) dX1_init_75 ⟨Nat.le_of_ble_eq_true rfl, Nat.le_of_ble_eq_true rfl⟩ (fun _ => rfl) (fun _ => rfl) [a0, q6, q14, q22, q30, q37, q44] rfl (fun _ => rfl) (fun u_75 H locs e_75 hP hD hS => ?_)
  refine lv_aload_n F.1 F.2.1 dX1_init_78 rfl (lv_at hl 0 rfl) ?_
  refine gf F hK hP 0 rfl rfl hcX1_init_X1 3 (by decide) (by decide +kernel) rfl dX1_init_79 ?_
  refine lv_iconst (v := 5) F.1 F.2.1 dX1_init_82 (by decide) ?_
  refine vS (rest := []) (wsp := fun _ => [(a0, .inr (1, [.ref q6, .ref q14, .ref q22, .ref q30, .ref q37, .ref q44, .int 0, .int 0, .int 0, .int 0]))] ++ [ai ct q6 5 (fun _ => 0)] ++ [ai ct q14 10 (fun _ => 10)] ++ [ai ct q22 10 (fun _ => 0)] ++ [ai ct q30 10 (fun _ => 5)] ++ [ai ct q37 2 (fun _ => 0)] ++ [ai ct q44 2 (fun _ => 0)]) F (kJ7_fill_53178 l dC dI ct q30 10 (fun _ => 0) 5 (by decide)) gX1_init_J7_fill_53178 rfl ⟨rfl, rfl⟩ nmJ7_fill_53178 ⟨Nat.le_of_ble_eq_true rfl, Nat.le_of_ble_eq_true rfl⟩ eT_b (fun _ _ _ => trivial) hK hP hD hS hA [4] (by decide) rfl rfl rfl hl.1 (Nat.le_of_ble_eq_true rfl) dX1_init_83 ⟨Nat.le_of_ble_eq_true rfl, Nat.le_of_ble_eq_true rfl⟩ (fun _ => rfl) (fun _ => rfl) [a0, q6, q14, q22, q30, q37, q44] rfl (fun _ => rfl) (fun u_83 H locs e_83 hP hD hS => ?_)
  refine lv_aload_n F.1 F.2.1 dX1_init_86 rfl (lv_at hl 0 rfl) ?_
  refine gf F hK hP 0 rfl rfl hcX1_init_X1 4 (by decide) (by decide +kernel) rfl dX1_init_87 ?_
  refine lv_iconst (v := 2) F.1 F.2.1 dX1_init_90 (by decide) ?_
  refine vS (rest := []) (wsp := fun _ => [(a0, .inr (1, [.ref q6, .ref q14, .ref q22, .ref q30, .ref q37, .ref q44, .int 0, .int 0, .int 0, .int 0]))] ++ [ai ct q6 5 (fun _ => 0)] ++ [ai ct q14 10 (fun _ => 10)] ++ [ai ct q22 10 (fun _ => 0)] ++ [ai ct q30 10 (fun _ => 5)] ++ [ai ct q37 2 (fun _ => 2)] ++ [ai ct q44 2 (fun _ => 0)]) F (kJ7_fill_53178 l dC dI ct q37 2 (fun _ => 0) 2 (by decide)) gX1_init_J7_fill_53178 rfl ⟨rfl, rfl⟩ nmJ7_fill_53178 ⟨Nat.le_of_ble_eq_true rfl, Nat.le_of_ble_eq_true rfl⟩ eT_b (fun _ _ _ => trivial) hK hP hD hS hA [5] (by decide) rfl rfl rfl hl.1 (Nat.le_of_ble_eq_true rfl) dX1_init_91 ⟨Nat.le_of_ble_eq_true rfl, Nat.le_of_ble_eq_true rfl⟩ (fun _ => rfl) (fun _ => rfl) [a0, q6, q14, q22, q30, q37, q44] rfl (fun _ => rfl) (fun u_91 H locs e_91 hP hD hS => ?_)
  refine lv_aload_n F.1 F.2.1 dX1_init_94 rfl (lv_at hl 0 rfl) ?_
  refine gf F hK hP 0 rfl rfl hcX1_init_X1 5 (by decide) (by decide +kernel) rfl dX1_init_95 ?_
  refine lv_iconst (v := 5) F.1 F.2.1 dX1_init_98 (by decide) ?_
  refine vS (rest := []) (wsp := fun _ => [(a0, .inr (1, [.ref q6, .ref q14, .ref q22, .ref q30, .ref q37, .ref q44, .int 0, .int 0, .int 0, .int 0]))] ++ [ai ct q6 5 (fun _ => 0)] ++ [ai ct q14 10 (fun _ => 10)] ++ [ai ct q22 10 (fun _ => 0)] ++ [ai ct q30 10 (fun _ => 5)] ++ [ai ct q37 2 (fun _ => 2)] ++ [ai ct q44 2 (fun _ => 5)]) F (kJ7_fill_53178 l dC dI ct q44 2 (fun _ => 0) 5 (by decide)) gX1_init_J7_fill_53178 rfl ⟨rfl, rfl⟩ nmJ7_fill_53178 ⟨Nat.le_of_ble_eq_true rfl, Nat.le_of_ble_eq_true rfl⟩ eT_b (fun _ _ _ => trivial) hK hP hD hS hA [6] (by decide) rfl rfl rfl hl.1 (Nat.le_of_ble_eq_true rfl) dX1_init_99 ⟨Nat.le_of_ble_eq_true rfl, Nat.le_of_ble_eq_true rfl⟩ (fun _ => rfl) (fun _ => rfl) [a0, q6, q14, q22, q30, q37, q44] rfl (fun _ => rfl) (fun u_99 H locs e_99 hP hD hS => ?_)
  exact rtC (fun i => ([a0, q6, q14, q22, q30, q37, q44] : List Nat).getD i 0) F hr hlk hP hD hS (wB_eq rfl rfl rfl rfl (by decide) (by decide) (by decide) (by decide) (by decide) (by decide)) (rfl) dX1_init_102

def rmX2_init : Room := { frames := 1, cells := 1, slots := 120, locals := 12 }
theorem nmX2_init : NmV yX2_init RX2 0 := by unfold NmV; decide +kernel
theorem hcX2_init_X2 : ∀ w ∈ u_ws RX2 TX2 6, w ∈ wsX2_init := by decide +kernel
set_option maxHeartbeats 4000000 in
set_option maxRecDepth 100000 in
theorem kX2_init (l : Launch) (dC : Nat → ClassId) (dI : Nat → Nat → Nat) (ct : Nat → ClassId) (a0 : Nat) : MC (S := Nat) l yX2_init wsX2_init rmX2_init dC dI ct eT [.ref a0] [(a0, .inr (2, [.null, .int 0, .int 0, .int 0, .int 0, .int 0]))] (fun u => [(a0, .inr (2, [.ref u, .int 0, .int 0, .int 0, .int 0, .int 0])), ai ct u 120 (fun _ => 0)]) (fun _ => True) 1 120 := by
  refine MC.of (cc := cX2_init) (maxL := 1) (by decide) rfl (Nat.le_of_ble_eq_true rfl) ?_
  intro p e s m below meth c A F hr hlk hin hK hP hD hA hS hAz hE ls hl
  have F : CallFix p m c cX2_init 1 s _ wsX2_init RX2 := F
  have hin : meth.name = "<init>" := hin rfl
  have hl : lv_has ls 1 [(0, .ref a0)] := hl
  refine lv_aload_n F.1 F.2.1 dX2_init_0 rfl (lv_at hl 0 rfl) ?_
  refine oI F (by decide +kernel) (by decide +kernel) (by decide +kernel) hl.1 dX2_init_1 ⟨Nat.le_of_ble_eq_true rfl, Nat.le_of_ble_eq_true rfl⟩ ?_
  refine lv_aload_n F.1 F.2.1 dX2_init_4 rfl (lv_at hl 0 rfl) ?_
  refine lv_bipush (v := 120) F.1 F.2.1 dX2_init_5 (by decide) ?_
  refine nwI F (by decide +kernel) hK hP hD hS hA 120 (by decide) (by decide) (Nat.le_of_ble_eq_true rfl) (Nat.le_of_ble_eq_true rfl) dX2_init_7 (fun q7 H hP hD hS => ?_)
  have hP : va_P (dC, dI) vwCl ([(a0, .inr (2, [.null, .int 0, .int 0, .int 0, .int 0, .int 0]))] ++ [ai ct q7 120 (fun _ => 0)]) H := hP
  have hD : va_D A ([(a0, .inr (2, [.null, .int 0, .int 0, .int 0, .int 0, .int 0]))] ++ [ai ct q7 120 (fun _ => 0)]) := hD
  refine pfF (ws' := [(a0, .inr (2, [.ref q7, .int 0, .int 0, .int 0, .int 0, .int 0]))] ++ [ai ct q7 120 (fun _ => 0)]) F hin hK hP hD hS 0 rfl rfl hcX2_init_X2 tyX2 tyX2_ok nmX2 0 (by decide) (by decide +kernel) rfl rfl rfl rfl (Nat.le_of_ble_eq_true rfl) dX2_init_9 (weq.of rfl) (fun H locs hP hD hS => ?_)
  refine lv_aload_n F.1 F.2.1 dX2_init_12 rfl (lv_at hl 0 rfl) ?_
  refine lv_iconst (v := 0) F.1 F.2.1 dX2_init_13 (by decide) ?_
  refine pf (ws' := [(a0, .inr (2, [.ref q7, .int 0, .int 0, .int 0, .int 0, .int 0]))] ++ [ai ct q7 120 (fun _ => 0)]) F hK hP hD hS 0 rfl rfl hcX2_init_X2 tyX2 tyX2_ok nmX2 1 (by decide) (by decide +kernel) rfl rfl rfl (Nat.le_of_ble_eq_true rfl) dX2_init_14 (weq.of rfl) (fun H locs hP hD hS => ?_)
  refine lv_aload_n F.1 F.2.1 dX2_init_17 rfl (lv_at hl 0 rfl) ?_
  refine lv_iconst (v := 0) F.1 F.2.1 dX2_init_18 (by decide) ?_
  refine pf (ws' := [(a0, .inr (2, [.ref q7, .int 0, .int 0, .int 0, .int 0, .int 0]))] ++ [ai ct q7 120 (fun _ => 0)]) F hK hP hD hS 0 rfl rfl hcX2_init_X2 tyX2 tyX2_ok nmX2 2 (by decide) (by decide +kernel) rfl rfl rfl (Nat.le_of_ble_eq_true rfl) dX2_init_19 (weq.of rfl) (fun H locs hP hD hS => ?_)
  refine lv_aload_n F.1 F.2.1 dX2_init_22 rfl (lv_at hl 0 rfl) ?_
  refine lv_iconst (v := 0) F.1 F.2.1 dX2_init_23 (by decide) ?_
  refine pf (ws' := [(a0, .inr (2, [.ref q7, .int 0, .int 0, .int 0, .int 0, .int 0]))] ++ [ai ct q7 120 (fun _ => 0)]) F hK hP hD hS 0 rfl rfl hcX2_init_X2 tyX2 tyX2_ok nmX2 3 (by decide) (by decide +kernel) rfl rfl rfl (Nat.le_of_ble_eq_true rfl) dX2_init_24 (weq.of rfl) (fun H locs hP hD hS => ?_)
  refine lv_aload_n F.1 F.2.1 dX2_init_27 rfl (lv_at hl 0 rfl) ?_
  refine lv_iconst (v := 0) F.1 F.2.1 dX2_init_28 (by decide) ?_
  refine pf (ws' := [(a0, .inr (2, [.ref q7, .int 0, .int 0, .int 0, .int 0, .int 0]))] ++ [ai ct q7 120 (fun _ => 0)]) F hK hP hD hS 0 rfl rfl hcX2_init_X2 tyX2 tyX2_ok nmX2 4 (by decide) (by decide +kernel) rfl rfl rfl (Nat.le_of_ble_eq_true rfl) dX2_init_29 (weq.of rfl) (fun H locs hP hD hS => ?_)
  refine lv_aload_n F.1 F.2.1 dX2_init_32 rfl (lv_at hl 0 rfl) ?_
  refine lv_iconst (v := 0) F.1 F.2.1 dX2_init_33 (by decide) ?_
  refine pf (ws' := [(a0, .inr (2, [.ref q7, .int 0, .int 0, .int 0, .int 0, .int 0]))] ++ [ai ct q7 120 (fun _ => 0)]) F hK hP hD hS 0 rfl rfl hcX2_init_X2 tyX2 tyX2_ok nmX2 5 (by decide) (by decide +kernel) rfl rfl rfl (Nat.le_of_ble_eq_true rfl) dX2_init_34 (weq.of rfl) (fun H locs hP hD hS => ?_)
  exact rtC (q7) F hr hlk hP hD hS (weq.of rfl) (trivial) dX2_init_37

def rmX3_init : Room := { frames := 1, cells := 1, slots := 40, locals := 12 }
theorem nmX3_init : NmV yX3_init RX3 0 := by unfold NmV; decide +kernel
theorem hcX3_init_X3 : ∀ w ∈ u_ws RX3 TX3 3, w ∈ wsX3_init := by decide +kernel
set_option maxHeartbeats 4000000 in
set_option maxRecDepth 100000 in
theorem kX3_init (l : Launch) (dC : Nat → ClassId) (dI : Nat → Nat → Nat) (ct : Nat → ClassId) (a0 : Nat) : MC (S := Nat) l yX3_init wsX3_init rmX3_init dC dI ct eT [.ref a0] [(a0, .inr (3, [.null, .int 0, .int 0]))] (fun u => [(a0, .inr (3, [.ref u, .int 0, .int 0])), ai ct u 40 (fun _ => 0)]) (fun _ => True) 1 40 := by
  refine MC.of (cc := cX3_init) (maxL := 1) (by decide) rfl (Nat.le_of_ble_eq_true rfl) ?_
  intro p e s m below meth c A F hr hlk hin hK hP hD hA hS hAz hE ls hl
  have F : CallFix p m c cX3_init 1 s _ wsX3_init RX3 := F
  have hin : meth.name = "<init>" := hin rfl
  have hl : lv_has ls 1 [(0, .ref a0)] := hl
  refine lv_aload_n F.1 F.2.1 dX3_init_0 rfl (lv_at hl 0 rfl) ?_
  refine oI F (by decide +kernel) (by decide +kernel) (by decide +kernel) hl.1 dX3_init_1 ⟨Nat.le_of_ble_eq_true rfl, Nat.le_of_ble_eq_true rfl⟩ ?_
  refine lv_aload_n F.1 F.2.1 dX3_init_4 rfl (lv_at hl 0 rfl) ?_
  refine lv_bipush (v := 40) F.1 F.2.1 dX3_init_5 (by decide) ?_
  refine nwI F (by decide +kernel) hK hP hD hS hA 40 (by decide) (by decide) (Nat.le_of_ble_eq_true rfl) (Nat.le_of_ble_eq_true rfl) dX3_init_7 (fun q7 H hP hD hS => ?_)
  have hP : va_P (dC, dI) vwCl ([(a0, .inr (3, [.null, .int 0, .int 0]))] ++ [ai ct q7 40 (fun _ => 0)]) H := hP
  have hD : va_D A ([(a0, .inr (3, [.null, .int 0, .int 0]))] ++ [ai ct q7 40 (fun _ => 0)]) := hD
  refine pfF (ws' := [(a0, .inr (3, [.ref q7, .int 0, .int 0]))] ++ [ai ct q7 40 (fun _ => 0)]) F hin hK hP hD hS 0 rfl rfl hcX3_init_X3 tyX3 tyX3_ok nmX3 0 (by decide) (by decide +kernel) rfl rfl rfl rfl (Nat.le_of_ble_eq_true rfl) dX3_init_9 (weq.of rfl) (fun H locs hP hD hS => ?_)
  refine lv_aload_n F.1 F.2.1 dX3_init_12 rfl (lv_at hl 0 rfl) ?_
  refine lv_iconst (v := 0) F.1 F.2.1 dX3_init_13 (by decide) ?_
  refine pf (ws' := [(a0, .inr (3, [.ref q7, .int 0, .int 0]))] ++ [ai ct q7 40 (fun _ => 0)]) F hK hP hD hS 0 rfl rfl hcX3_init_X3 tyX3 tyX3_ok nmX3 1 (by decide) (by decide +kernel) rfl rfl rfl (Nat.le_of_ble_eq_true rfl) dX3_init_14 (weq.of rfl) (fun H locs hP hD hS => ?_)
  refine lv_aload_n F.1 F.2.1 dX3_init_17 rfl (lv_at hl 0 rfl) ?_
  refine lv_iconst (v := 0) F.1 F.2.1 dX3_init_18 (by decide) ?_
  refine pf (ws' := [(a0, .inr (3, [.ref q7, .int 0, .int 0]))] ++ [ai ct q7 40 (fun _ => 0)]) F hK hP hD hS 0 rfl rfl hcX3_init_X3 tyX3 tyX3_ok nmX3 2 (by decide) (by decide +kernel) rfl rfl rfl (Nat.le_of_ble_eq_true rfl) dX3_init_19 (weq.of rfl) (fun H locs hP hD hS => ?_)
  exact rtC (q7) F hr hlk hP hD hS (weq.of rfl) (trivial) dX3_init_22
