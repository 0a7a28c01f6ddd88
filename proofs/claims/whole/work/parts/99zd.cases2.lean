/-! ===== the cases of the law ===== -/
section LAW4
variable {pg : Program} {l : Launch} {en : Env} {s : State} {m : MethodId} {args : Array Value} {below : List Frame} {meth : Method} {cd : Code} {H : Heap} {locs : List Loc} {cells slots : Nat} {Q : State → Prop} {ls : Array Slot} {dC : Nat → ClassId} {dI : Nat → Nat → Nat} {ct : Nat → ClassId} {A : Nat → Prop} {K : Nat → Nat} {b0 L i : Nat} {xs : Nat → Int32} {x st kt sc ty sh fo bk ek sp es : Nat} {b e tr rw ew q a : Nat → Nat}
set_option maxHeartbeats 4000000 in
set_option maxRecDepth 100000 in
theorem cs_temptation (C0 : LX pg m cd s args dC dI ct K A b0 L xs) (hl : lv_has ls 4 [(0, .ref b0), (1, .ref x), (2, .ref (a 0)), (3, .int (nI i))]) (hi : i + 5 < L) (hcs : cells ≤ room_1.cells ∧ slots ≤ room_1.slots) (iv : IV dC dI ct K A s.heap x st kt sc ty sh fo bk ek sp es b e tr rw ew q a H locs) (kk : ∀ (H1 : Heap) (locs1 : List Loc), IV dC dI ct K A s.heap x st kt sc ty sh fo bk ek sp es b e tr rw ew q a H1 locs1 → W pg l en room_1 s m args below meth cd H1 locs1 cells slots Q (F0 m 1607 ls [])) : W pg l en room_1 s m args below meth cd H locs cells slots Q (F0 m 998 ls []) := by
  obtain ⟨F, hK, hA, hX, hbl, hbA, hz, hE, hL⟩ := C0
  obtain ⟨ik, zz, z2, s0, s1, s2, s3, s4, nx, sx, f, p, w, y, wd, sz, nm, c, g, h, so, v, k, d, it, mv, mx, my, fa, fk, hP, hD, hS⟩ := iv
  obtain ⟨hzz, hso, hnx, hsx, fq, hZ, hc, ⟨n, hn, hs0, h8, hby⟩, hik⟩ := id fa
  refine lv_aload_n F.1 F.2.1 dL_law_998 rfl (lv_at hl 1 rfl) ?_
  refine sL (q := 1) F.1 F.2.1 hX hbl hbA hS hl (by omega) hL (by decide) dL_law_999 dL_law_1000 dL_law_1001 dL_law_1002 dL_law_1003 ?_
  refine sL (q := 2) F.1 F.2.1 hX hbl hbA hS hl (by omega) hL (by decide) dL_law_1004 dL_law_1005 dL_law_1006 dL_law_1007 dL_law_1008 ?_
  refine lcX5_temptation _ _ _ _ _ _ _ _ _ _ _ _ _ _ _ (xs (i + 1)) (xs (i + 2)) fq.1 F gL_law_X5_temptation hK hP hD hS hA ⟨Nat.le_of_ble_eq_true rfl, Nat.le_of_ble_eq_true rfl⟩ hl.1 (Nat.le_of_ble_eq_true rfl) hcs dL_law_1009 (fun r1 u1 H1 locs1 e1 hP1 hD1 hS1 => ?_)
  refine lv_aload_n F.1 F.2.1 dL_law_1012 rfl (lv_at hl 2 rfl) ?_
  refine sL (q := 1) F.1 F.2.1 hX hbl hbA hS1 hl (by omega) hL (by decide) dL_law_1013 dL_law_1014 dL_law_1015 dL_law_1016 dL_law_1017 ?_
  refine sL (q := 2) F.1 F.2.1 hX hbl hbA hS1 hl (by omega) hL (by decide) dL_law_1018 dL_law_1019 dL_law_1020 dL_law_1021 dL_law_1022 ?_
  refine lcX6_temptation _ _ _ _ _ (xs (i + 1)) (xs (i + 2)) fq.1 F gL_law_X6_temptation hK hP1 hD1 hS1 hA ⟨Nat.le_of_ble_eq_true rfl, Nat.le_of_ble_eq_true rfl⟩ hl.1 (Nat.le_of_ble_eq_true rfl) hcs dL_law_1023 (fun r2 u2 H2 locs2 e2 hP2 hD2 hS2 => ?_)
  have e3 : (r1, u1.1, u1.2.1) = sTempt f c (xs (i + 1)) (xs (i + 2)) := e1
  have e4 : (r2, u2.1, u2.2.1) = sTempt f c (xs (i + 1)) (xs (i + 2)) := e2
  obtain ⟨q1, q2⟩ := Prod.mk.inj (e4.trans e3.symm)
  obtain ⟨q2, q3⟩ := Prod.mk.inj q2
  have ok := ok_tempt fq.1 c (xs (i + 1)) (xs (i + 2))
  rw [← e3] at ok
  refine lv_icmp_eq (tgt := 1607) F.1 F.2.1 dL_law_1026 (by decide) (fun _ => ?_) (fun hne => absurd q1.symm hne)
  exact kk _ _ (IVk hP2 hD2 hS2 q2 q3 rfl rfl rfl rfl ((fa.ok ok.1 ok.2)) fk)
set_option maxHeartbeats 4000000 in
set_option maxRecDepth 100000 in
theorem cs_bundle (C0 : LX pg m cd s args dC dI ct K A b0 L xs) (hl : lv_has ls 4 [(0, .ref b0), (1, .ref x), (2, .ref (a 0)), (3, .int (nI i))]) (hi : i + 5 < L) (hcs : cells ≤ room_1.cells ∧ slots ≤ room_1.slots) (iv : IV dC dI ct K A s.heap x st kt sc ty sh fo bk ek sp es b e tr rw ew q a H locs) (kk : ∀ (H1 : Heap) (locs1 : List Loc), IV dC dI ct K A s.heap x st kt sc ty sh fo bk ek sp es b e tr rw ew q a H1 locs1 → W pg l en room_1 s m args below meth cd H1 locs1 cells slots Q (F0 m 1607 ls [])) : W pg l en room_1 s m args below meth cd H locs cells slots Q (F0 m 1031 ls []) := by
  obtain ⟨F, hK, hA, hX, hbl, hbA, hz, hE, hL⟩ := C0
  obtain ⟨ik, zz, z2, s0, s1, s2, s3, s4, nx, sx, f, p, w, y, wd, sz, nm, c, g, h, so, v, k, d, it, mv, mx, my, fa, fk, hP, hD, hS⟩ := iv
  obtain ⟨hzz, hso, hnx, hsx, fq, hZ, hc, ⟨n, hn, hs0, h8, hby⟩, hik⟩ := id fa
  refine lv_aload_n F.1 F.2.1 dL_law_1031 rfl (lv_at hl 1 rfl) ?_
  refine lcX5_bundle _ _ _ _ _ _ _ _ _ _ _ _ _ _ F gL_law_X5_bundle hK hP hD hS hA ⟨Nat.le_of_ble_eq_true rfl, Nat.le_of_ble_eq_true rfl⟩ hl.1 (Nat.le_of_ble_eq_true rfl) hcs dL_law_1032 (fun r1 u1 H1 locs1 e1 hP1 hD1 hS1 => ?_)
  refine lv_aload_n F.1 F.2.1 dL_law_1035 rfl (lv_at hl 2 rfl) ?_
  refine lcX6_bundle _ _ _ _ fq.1 F gL_law_X6_bundle hK hP1 hD1 hS1 hA ⟨Nat.le_of_ble_eq_true rfl, Nat.le_of_ble_eq_true rfl⟩ hl.1 (Nat.le_of_ble_eq_true rfl) hcs dL_law_1036 (fun r2 u2 H2 locs2 e2 hP2 hD2 hS2 => ?_)
  have e3 : (r1, u1.1, u1.2) = sBundle f c  := e1
  have e4 : (r2, u2.1, u2.2) = sBundle f c  := e2
  obtain ⟨q1, q2⟩ := Prod.mk.inj (e4.trans e3.symm)
  obtain ⟨q2, q3⟩ := Prod.mk.inj q2
  have ok := ok_bundle fq.1 c 
  rw [← e3] at ok
  refine lv_icmp_eq (tgt := 1607) F.1 F.2.1 dL_law_1039 (by decide) (fun _ => ?_) (fun hne => absurd q1.symm hne)
  exact kk _ _ (IVk hP2 hD2 hS2 q2 q3 rfl rfl rfl rfl ((fa.ok ok.1 ok.2)) fk)
set_option maxHeartbeats 4000000 in
set_option maxRecDepth 100000 in
theorem cs_book (C0 : LX pg m cd s args dC dI ct K A b0 L xs) (hl : lv_has ls 4 [(0, .ref b0), (1, .ref x), (2, .ref (a 0)), (3, .int (nI i))]) (hi : i + 5 < L) (hcs : cells ≤ room_1.cells ∧ slots ≤ room_1.slots) (iv : IV dC dI ct K A s.heap x st kt sc ty sh fo bk ek sp es b e tr rw ew q a H locs) (kk : ∀ (H1 : Heap) (locs1 : List Loc), IV dC dI ct K A s.heap x st kt sc ty sh fo bk ek sp es b e tr rw ew q a H1 locs1 → W pg l en room_1 s m args below meth cd H1 locs1 cells slots Q (F0 m 1607 ls [])) : W pg l en room_1 s m args below meth cd H locs cells slots Q (F0 m 1044 ls []) := by
  obtain ⟨F, hK, hA, hX, hbl, hbA, hz, hE, hL⟩ := C0
  obtain ⟨ik, zz, z2, s0, s1, s2, s3, s4, nx, sx, f, p, w, y, wd, sz, nm, c, g, h, so, v, k, d, it, mv, mx, my, fa, fk, hP, hD, hS⟩ := iv
  obtain ⟨hzz, hso, hnx, hsx, fq, hZ, hc, ⟨n, hn, hs0, h8, hby⟩, hik⟩ := id fa
  subst hnx
  subst hsx
  refine lv_aload_n F.1 F.2.1 dL_law_1044 rfl (lv_at hl 1 rfl) ?_
  refine sL (q := 1) F.1 F.2.1 hX hbl hbA hS hl (by omega) hL (by decide) dL_law_1045 dL_law_1046 dL_law_1047 dL_law_1048 dL_law_1049 ?_
  refine sL (q := 2) F.1 F.2.1 hX hbl hbA hS hl (by omega) hL (by decide) dL_law_1050 dL_law_1051 dL_law_1052 dL_law_1053 dL_law_1054 ?_
  refine lcX5_book _ _ _ _ _ _ _ _ _ _ _ _ _ _ _ _ (xs (i + 1)) (xs (i + 2)) fq.1 fq.2.2.1 F gL_law_X5_book hK hP hD hS hA ⟨Nat.le_of_ble_eq_true rfl, Nat.le_of_ble_eq_true rfl⟩ hl.1 (Nat.le_of_ble_eq_true rfl) hcs dL_law_1055 (fun r1 u1 H1 locs1 e1 hP1 hD1 hS1 => ?_)
  refine lv_aload_n F.1 F.2.1 dL_law_1058 rfl (lv_at hl 2 rfl) ?_
  refine sL (q := 1) F.1 F.2.1 hX hbl hbA hS1 hl (by omega) hL (by decide) dL_law_1059 dL_law_1060 dL_law_1061 dL_law_1062 dL_law_1063 ?_
  refine sL (q := 2) F.1 F.2.1 hX hbl hbA hS1 hl (by omega) hL (by decide) dL_law_1064 dL_law_1065 dL_law_1066 dL_law_1067 dL_law_1068 ?_
  refine lcX6_book _ _ _ _ (xs (i + 1)) (xs (i + 2)) fq.1 F gL_law_X6_book hK hP1 hD1 hS1 hA ⟨Nat.le_of_ble_eq_true rfl, Nat.le_of_ble_eq_true rfl⟩ hl.1 (Nat.le_of_ble_eq_true rfl) hcs dL_law_1069 (fun r2 u2 H2 locs2 e2 hP2 hD2 hS2 => ?_)
  have e3 : (r1, u1.1, u1.2) = sBook f c (xs (i + 1)) (xs (i + 2)) := e1
  have e4 : (r2, u2.1, u2.2) = sBook f c (xs (i + 1)) (xs (i + 2)) := e2
  obtain ⟨q1, q2⟩ := Prod.mk.inj (e4.trans e3.symm)
  obtain ⟨q2, q3⟩ := Prod.mk.inj q2
  have ok := ok_book fq.1 c (xs (i + 1)) (xs (i + 2))
  rw [← e3] at ok
  refine lv_icmp_eq (tgt := 1607) F.1 F.2.1 dL_law_1072 (by decide) (fun _ => ?_) (fun hne => absurd q1.symm hne)
  exact kk _ _ (IVk hP2 hD2 hS2 q2 q3 rfl rfl rfl rfl ((fa.ok ok.1 ok.2)) fk)
set_option maxHeartbeats 4000000 in
set_option maxRecDepth 100000 in
theorem cs_fits (C0 : LX pg m cd s args dC dI ct K A b0 L xs) (hl : lv_has ls 4 [(0, .ref b0), (1, .ref x), (2, .ref (a 0)), (3, .int (nI i))]) (hi : i + 5 < L) (hcs : cells ≤ room_1.cells ∧ slots ≤ room_1.slots) (iv : IV dC dI ct K A s.heap x st kt sc ty sh fo bk ek sp es b e tr rw ew q a H locs) (kk : ∀ (H1 : Heap) (locs1 : List Loc), IV dC dI ct K A s.heap x st kt sc ty sh fo bk ek sp es b e tr rw ew q a H1 locs1 → W pg l en room_1 s m args below meth cd H1 locs1 cells slots Q (F0 m 1607 ls [])) : W pg l en room_1 s m args below meth cd H locs cells slots Q (F0 m 1077 ls []) := by
  obtain ⟨F, hK, hA, hX, hbl, hbA, hz, hE, hL⟩ := C0
  obtain ⟨ik, zz, z2, s0, s1, s2, s3, s4, nx, sx, f, p, w, y, wd, sz, nm, c, g, h, so, v, k, d, it, mv, mx, my, fa, fk, hP, hD, hS⟩ := iv
  obtain ⟨hzz, hso, hnx, hsx, fq, hZ, hc, ⟨n, hn, hs0, h8, hby⟩, hik⟩ := id fa
  subst hnx
  subst hsx
  refine lv_aload_n F.1 F.2.1 dL_law_1077 rfl (lv_at hl 1 rfl) ?_
  refine sL (q := 1) F.1 F.2.1 hX hbl hbA hS hl (by omega) hL (by decide) dL_law_1078 dL_law_1079 dL_law_1080 dL_law_1081 dL_law_1082 ?_
  refine sL (q := 2) F.1 F.2.1 hX hbl hbA hS hl (by omega) hL (by decide) dL_law_1083 dL_law_1084 dL_law_1085 dL_law_1086 dL_law_1087 ?_
  refine lcX5_fits _ _ _ _ _ _ _ _ _ _ _ _ _ _ _ _ _ (xs (i + 1)) (xs (i + 2)) fq.1 fq.2.2.1 fq.2.1 F gL_law_X5_fits hK hP hD hS hA ⟨Nat.le_of_ble_eq_true rfl, Nat.le_of_ble_eq_true rfl⟩ hl.1 (Nat.le_of_ble_eq_true rfl) hcs dL_law_1088 (fun r1 u1 H1 locs1 e1 hP1 hD1 hS1 => ?_)
  refine lv_aload_n F.1 F.2.1 dL_law_1091 rfl (lv_at hl 2 rfl) ?_
  refine sL (q := 1) F.1 F.2.1 hX hbl hbA hS1 hl (by omega) hL (by decide) dL_law_1092 dL_law_1093 dL_law_1094 dL_law_1095 dL_law_1096 ?_
  refine sL (q := 2) F.1 F.2.1 hX hbl hbA hS1 hl (by omega) hL (by decide) dL_law_1097 dL_law_1098 dL_law_1099 dL_law_1100 dL_law_1101 ?_
  refine lcX6_fits _ _ _ _ (xs (i + 1)) (xs (i + 2)) fq.1 F gL_law_X6_fits hK hP1 hD1 hS1 hA ⟨Nat.le_of_ble_eq_true rfl, Nat.le_of_ble_eq_true rfl⟩ hl.1 (Nat.le_of_ble_eq_true rfl) hcs dL_law_1102 (fun r2 u2 H2 locs2 e2 hP2 hD2 hS2 => ?_)
  have e3 : (r1, u1.1, u1.2.1) = sFits f c (xs (i + 1)) (xs (i + 2)) := e1.1
  have e4 : (r2, u2.1, u2.2) = sFits f c (xs (i + 1)) (xs (i + 2)) := e2
  obtain ⟨q1, q2⟩ := Prod.mk.inj (e4.trans e3.symm)
  obtain ⟨q2, q3⟩ := Prod.mk.inj q2
  have ok := ok_fits fq.1 c (xs (i + 1)) (xs (i + 2))
  rw [← e3] at ok
  refine lv_icmp_eq (tgt := 1607) F.1 F.2.1 dL_law_1105 (by decide) (fun _ => ?_) (fun hne => absurd q1.symm hne)
  exact kk _ _ (IVk hP2 hD2 hS2 q2 q3 rfl rfl rfl rfl (((fa.ok ok.1 ok.2)).nx) fk)
set_option maxHeartbeats 4000000 in
set_option maxRecDepth 100000 in
theorem cs_greeds (C0 : LX pg m cd s args dC dI ct K A b0 L xs) (hl : lv_has ls 4 [(0, .ref b0), (1, .ref x), (2, .ref (a 0)), (3, .int (nI i))]) (hi : i + 5 < L) (hcs : cells ≤ room_1.cells ∧ slots ≤ room_1.slots) (iv : IV dC dI ct K A s.heap x st kt sc ty sh fo bk ek sp es b e tr rw ew q a H locs) (kk : ∀ (H1 : Heap) (locs1 : List Loc), IV dC dI ct K A s.heap x st kt sc ty sh fo bk ek sp es b e tr rw ew q a H1 locs1 → W pg l en room_1 s m args below meth cd H1 locs1 cells slots Q (F0 m 1607 ls [])) : W pg l en room_1 s m args below meth cd H locs cells slots Q (F0 m 1110 ls []) := by
  obtain ⟨F, hK, hA, hX, hbl, hbA, hz, hE, hL⟩ := C0
  obtain ⟨ik, zz, z2, s0, s1, s2, s3, s4, nx, sx, f, p, w, y, wd, sz, nm, c, g, h, so, v, k, d, it, mv, mx, my, fa, fk, hP, hD, hS⟩ := iv
  obtain ⟨hzz, hso, hnx, hsx, fq, hZ, hc, ⟨n, hn, hs0, h8, hby⟩, hik⟩ := id fa
  subst hnx
  subst hsx
  refine lv_aload_n F.1 F.2.1 dL_law_1110 rfl (lv_at hl 1 rfl) ?_
  refine sL (q := 1) F.1 F.2.1 hX hbl hbA hS hl (by omega) hL (by decide) dL_law_1111 dL_law_1112 dL_law_1113 dL_law_1114 dL_law_1115 ?_
  refine lcX5_greeds _ _ _ _ _ _ _ _ _ _ _ _ _ _ _ _ _ (xs (i + 1)) fq.1 fq.2.2.1 fq.2.1 F gL_law_X5_greeds hK hP hD hS hA ⟨Nat.le_of_ble_eq_true rfl, Nat.le_of_ble_eq_true rfl⟩ hl.1 (Nat.le_of_ble_eq_true rfl) hcs dL_law_1116 (fun r1 u1 H1 locs1 e1 hP1 hD1 hS1 => ?_)
  refine lv_aload_n F.1 F.2.1 dL_law_1119 rfl (lv_at hl 2 rfl) ?_
  refine sL (q := 1) F.1 F.2.1 hX hbl hbA hS1 hl (by omega) hL (by decide) dL_law_1120 dL_law_1121 dL_law_1122 dL_law_1123 dL_law_1124 ?_
  refine lcX6_greeds _ _ _ _ (xs (i + 1)) fq.1 F gL_law_X6_greeds hK hP1 hD1 hS1 hA ⟨Nat.le_of_ble_eq_true rfl, Nat.le_of_ble_eq_true rfl⟩ hl.1 (Nat.le_of_ble_eq_true rfl) hcs dL_law_1125 (fun r2 u2 H2 locs2 e2 hP2 hD2 hS2 => ?_)
  have e3 : (r1, u1.1, u1.2.1) = sGreeds f c (xs (i + 1)) := e1.1
  have e4 : (r2, u2.1, u2.2) = sGreeds f c (xs (i + 1)) := e2
  obtain ⟨q1, q2⟩ := Prod.mk.inj (e4.trans e3.symm)
  obtain ⟨q2, q3⟩ := Prod.mk.inj q2
  have ok := ok_greeds fq.1 c (xs (i + 1))
  rw [← e3] at ok
  refine lv_icmp_eq (tgt := 1607) F.1 F.2.1 dL_law_1128 (by decide) (fun _ => ?_) (fun hne => absurd q1.symm hne)
  exact kk _ _ (IVk hP2 hD2 hS2 q2 q3 rfl rfl rfl rfl (((fa.ok ok.1 ok.2)).nx) fk)
set_option maxHeartbeats 4000000 in
set_option maxRecDepth 100000 in
theorem cs_known (C0 : LX pg m cd s args dC dI ct K A b0 L xs) (hl : lv_has ls 4 [(0, .ref b0), (1, .ref x), (2, .ref (a 0)), (3, .int (nI i))]) (hi : i + 5 < L) (hcs : cells ≤ room_1.cells ∧ slots ≤ room_1.slots) (iv : IV dC dI ct K A s.heap x st kt sc ty sh fo bk ek sp es b e tr rw ew q a H locs) (kk : ∀ (H1 : Heap) (locs1 : List Loc), IV dC dI ct K A s.heap x st kt sc ty sh fo bk ek sp es b e tr rw ew q a H1 locs1 → W pg l en room_1 s m args below meth cd H1 locs1 cells slots Q (F0 m 1607 ls [])) : W pg l en room_1 s m args below meth cd H locs cells slots Q (F0 m 1133 ls []) := by
  obtain ⟨F, hK, hA, hX, hbl, hbA, hz, hE, hL⟩ := C0
  obtain ⟨ik, zz, z2, s0, s1, s2, s3, s4, nx, sx, f, p, w, y, wd, sz, nm, c, g, h, so, v, k, d, it, mv, mx, my, fa, fk, hP, hD, hS⟩ := iv
  obtain ⟨hzz, hso, hnx, hsx, fq, hZ, hc, ⟨n, hn, hs0, h8, hby⟩, hik⟩ := id fa
  subst hnx
  subst hsx
  refine lv_aload_n F.1 F.2.1 dL_law_1133 rfl (lv_at hl 1 rfl) ?_
  refine sL (q := 1) F.1 F.2.1 hX hbl hbA hS hl (by omega) hL (by decide) dL_law_1134 dL_law_1135 dL_law_1136 dL_law_1137 dL_law_1138 ?_
  refine lcX5_known _ _ _ _ _ _ _ _ _ _ _ _ _ _ _ _ _ (xs (i + 1)) fq.1 fq.2.2.1 fq.2.1 F gL_law_X5_known hK hP hD hS hA ⟨Nat.le_of_ble_eq_true rfl, Nat.le_of_ble_eq_true rfl⟩ hl.1 (Nat.le_of_ble_eq_true rfl) hcs dL_law_1139 (fun r1 u1 H1 locs1 e1 hP1 hD1 hS1 => ?_)
  refine lv_aload_n F.1 F.2.1 dL_law_1142 rfl (lv_at hl 2 rfl) ?_
  refine sL (q := 1) F.1 F.2.1 hX hbl hbA hS1 hl (by omega) hL (by decide) dL_law_1143 dL_law_1144 dL_law_1145 dL_law_1146 dL_law_1147 ?_
  refine lcX6_known _ _ _ _ (xs (i + 1)) fq.1 F gL_law_X6_known hK hP1 hD1 hS1 hA ⟨Nat.le_of_ble_eq_true rfl, Nat.le_of_ble_eq_true rfl⟩ hl.1 (Nat.le_of_ble_eq_true rfl) hcs dL_law_1148 (fun r2 u2 H2 locs2 e2 hP2 hD2 hS2 => ?_)
  have e3 : (r1, u1.1, u1.2.1) = sKnown f c (xs (i + 1)) := e1.1
  have e4 : (r2, u2.1, u2.2) = sKnown f c (xs (i + 1)) := e2
  obtain ⟨q1, q2⟩ := Prod.mk.inj (e4.trans e3.symm)
  obtain ⟨q2, q3⟩ := Prod.mk.inj q2
  have ok := ok_known fq.1 c (xs (i + 1))
  rw [← e3] at ok
  refine lv_icmp_eq (tgt := 1607) F.1 F.2.1 dL_law_1151 (by decide) (fun _ => ?_) (fun hne => absurd q1.symm hne)
  exact kk _ _ (IVk hP2 hD2 hS2 q2 q3 rfl rfl rfl rfl (((fa.ok ok.1 ok.2)).nx) fk)
set_option maxHeartbeats 4000000 in
set_option maxRecDepth 100000 in
theorem cs_season (C0 : LX pg m cd s args dC dI ct K A b0 L xs) (hl : lv_has ls 4 [(0, .ref b0), (1, .ref x), (2, .ref (a 0)), (3, .int (nI i))]) (hi : i + 5 < L) (hcs : cells ≤ room_1.cells ∧ slots ≤ room_1.slots) (iv : IV dC dI ct K A s.heap x st kt sc ty sh fo bk ek sp es b e tr rw ew q a H locs) (kk : ∀ (H1 : Heap) (locs1 : List Loc), IV dC dI ct K A s.heap x st kt sc ty sh fo bk ek sp es b e tr rw ew q a H1 locs1 → W pg l en room_1 s m args below meth cd H1 locs1 cells slots Q (F0 m 1607 ls [])) : W pg l en room_1 s m args below meth cd H locs cells slots Q (F0 m 1156 ls []) := by
  obtain ⟨F, hK, hA, hX, hbl, hbA, hz, hE, hL⟩ := C0
  obtain ⟨ik, zz, z2, s0, s1, s2, s3, s4, nx, sx, f, p, w, y, wd, sz, nm, c, g, h, so, v, k, d, it, mv, mx, my, fa, fk, hP, hD, hS⟩ := iv
  obtain ⟨hzz, hso, hnx, hsx, fq, hZ, hc, ⟨n, hn, hs0, h8, hby⟩, hik⟩ := id fa
  subst hzz
  subst hnx
  subst hsx
  refine lv_aload_n F.1 F.2.1 dL_law_1156 rfl (lv_at hl 1 rfl) ?_
  refine sL (q := 1) F.1 F.2.1 hX hbl hbA hS hl (by omega) hL (by decide) dL_law_1157 dL_law_1158 dL_law_1159 dL_law_1160 dL_law_1161 ?_
  refine lcX5_season _ _ _ _ _ _ _ _ _ _ _ _ _ _ _ (xs (i + 1)) fq.1 fq.2.2.1 fq.2.1 F gL_law_X5_season hK hP hD hS hA ⟨Nat.le_of_ble_eq_true rfl, Nat.le_of_ble_eq_true rfl⟩ hl.1 (Nat.le_of_ble_eq_true rfl) hcs dL_law_1162 (fun r1 u1 H1 locs1 e1 hP1 hD1 hS1 => ?_)
  refine lv_aload_n F.1 F.2.1 dL_law_1165 rfl (lv_at hl 2 rfl) ?_
  refine sL (q := 1) F.1 F.2.1 hX hbl hbA hS1 hl (by omega) hL (by decide) dL_law_1166 dL_law_1167 dL_law_1168 dL_law_1169 dL_law_1170 ?_
  refine lcX6_season _ _ _ _ (xs (i + 1)) fq.1 F gL_law_X6_season hK hP1 hD1 hS1 hA ⟨Nat.le_of_ble_eq_true rfl, Nat.le_of_ble_eq_true rfl⟩ hl.1 (Nat.le_of_ble_eq_true rfl) hcs dL_law_1171 (fun r2 u2 H2 locs2 e2 hP2 hD2 hS2 => ?_)
  obtain ⟨e3, hb1⟩ := e1
  have e3 : (r1, u1.1, u1.2.1) = sSeason f c (xs (i + 1)) := e3
  have e4 : (r2, u2.1, u2.2) = sSeason f c (xs (i + 1)) := e2
  obtain ⟨q1, q2⟩ := Prod.mk.inj (e4.trans e3.symm)
  obtain ⟨q2, q3⟩ := Prod.mk.inj q2
  have ok := season_keep fq c (xs (i + 1))
  rw [← e3] at ok
  obtain ⟨k1, k2, k3, k4⟩ := ok
  have k3 : ∀ j, 5 ≤ j ∧ j < 15 → u1.1 j = f j := k3
  have fa2 := fa.ng k1 k2 hb1 (fun j hj => k3 j (by omega)) k4
  refine lv_icmp_eq (tgt := 1607) F.1 F.2.1 dL_law_1174 (by decide) (fun _ => ?_) (fun hne => absurd q1.symm hne)
  exact kk _ _ (IVk hP2 hD2 hS2 q2 q3 rfl rfl rfl rfl fa2 fk)
set_option maxHeartbeats 4000000 in
set_option maxRecDepth 100000 in
theorem cs_seed (C0 : LX pg m cd s args dC dI ct K A b0 L xs) (hl : lv_has ls 4 [(0, .ref b0), (1, .ref x), (2, .ref (a 0)), (3, .int (nI i))]) (hi : i + 5 < L) (hcs : cells ≤ room_1.cells ∧ slots ≤ room_1.slots) (iv : IV dC dI ct K A s.heap x st kt sc ty sh fo bk ek sp es b e tr rw ew q a H locs) (kk : ∀ (H1 : Heap) (locs1 : List Loc), IV dC dI ct K A s.heap x st kt sc ty sh fo bk ek sp es b e tr rw ew q a H1 locs1 → W pg l en room_1 s m args below meth cd H1 locs1 cells slots Q (F0 m 1607 ls [])) : W pg l en room_1 s m args below meth cd H locs cells slots Q (F0 m 1179 ls []) := by
  obtain ⟨F, hK, hA, hX, hbl, hbA, hz, hE, hL⟩ := C0
  obtain ⟨ik, zz, z2, s0, s1, s2, s3, s4, nx, sx, f, p, w, y, wd, sz, nm, c, g, h, so, v, k, d, it, mv, mx, my, fa, fk, hP, hD, hS⟩ := iv
  obtain ⟨hzz, hso, hnx, hsx, fq, hZ, hc, ⟨n, hn, hs0, h8, hby⟩, hik⟩ := id fa
  refine lv_aload_n F.1 F.2.1 dL_law_1179 rfl (lv_at hl 1 rfl) ?_
  refine sL (q := 1) F.1 F.2.1 hX hbl hbA hS hl (by omega) hL (by decide) dL_law_1180 dL_law_1181 dL_law_1182 dL_law_1183 dL_law_1184 ?_
  refine lcX5_seed _ _ _ _ _ _ _ _ _ _ _ _ (xs (i + 1)) F gL_law_X5_seed hK hP hD hS hA ⟨Nat.le_of_ble_eq_true rfl, Nat.le_of_ble_eq_true rfl⟩ hl.1 (Nat.le_of_ble_eq_true rfl) hcs dL_law_1185 (fun r1 u1 H1 locs1 e1 hP1 hD1 hS1 => ?_)
  refine lv_aload_n F.1 F.2.1 dL_law_1188 rfl (lv_at hl 2 rfl) ?_
  refine sL (q := 1) F.1 F.2.1 hX hbl hbA hS1 hl (by omega) hL (by decide) dL_law_1189 dL_law_1190 dL_law_1191 dL_law_1192 dL_law_1193 ?_
  refine lcX6_seed _ _ _ (xs (i + 1)) F gL_law_X6_seed hK hP1 hD1 hS1 hA ⟨Nat.le_of_ble_eq_true rfl, Nat.le_of_ble_eq_true rfl⟩ hl.1 (Nat.le_of_ble_eq_true rfl) hcs dL_law_1194 (fun r2 u2 H2 locs2 e2 hP2 hD2 hS2 => ?_)
  have e4 : (r2, u2) = sSeed f (xs (i + 1)) := e2
  obtain ⟨q1, q2⟩ := Prod.mk.inj e4
  have e1 : r1 = zz := e1
  have q1 : r2 = r1 := q1.trans (hzz.symm.trans e1.symm)
  have hP2 : va_P (dC, dI) vwCl ([[(x, .inr (5, [.ref st, .ref kt, .int ik, .ref (tr 0), .ref sc, .ref sh, .ref fo]))], [(st, .inr (4, [.ref (b 0), .ref bk, .ref sp, .int (xs (i + 1))]))], wB ct b (upd f 4 (xs (i + 1))), wR ct bk rw nx sx g, [ai ct sp 10 so], [(kt, .inr (4, [.ref (e 0), .ref ek, .ref es, .int z2]))], wB ct e p, wR ct ek ew (nI mx) (nI my) h, [ai ct es 10 (fun j => p (5 + j))], wB ct tr w, [(sc, .inr (2, [.ref ty, .int s0, .int s1, .int s2, .int s3, .int s4]))], [ai ct ty 120 y], wS ct sh q wd sz nm, [ai ct fo 7 (fun j => c (j + 1))], [oM a v], [ai ct (a 1) 210 u2], [ai ct (a 2) 210 k], [ai ct (a 3) 210 d], [ai ct (a 4) 8 c], [ai ct (a 5) 120 y], [(a 6, .inl (ct 3, 7, .inr (.inr (.inr (.inr (fun j => some (kS K j)))))))], [ai ct (a 7) 480 it], [ai ct (a 8) 4 wd], [ai ct (a 9) 4 sz], [ai ct (a 10) 160 nm], [ai ct (a 11) 40 mv]]).flatten H2 := rep_P [_, _] _ (wB_up (fun j hj => pk_un (by omega))) hP2
  have hD2 : va_D A ([[(x, .inr (5, [.ref st, .ref kt, .int ik, .ref (tr 0), .ref sc, .ref sh, .ref fo]))], [(st, .inr (4, [.ref (b 0), .ref bk, .ref sp, .int (xs (i + 1))]))], wB ct b (upd f 4 (xs (i + 1))), wR ct bk rw nx sx g, [ai ct sp 10 so], [(kt, .inr (4, [.ref (e 0), .ref ek, .ref es, .int z2]))], wB ct e p, wR ct ek ew (nI mx) (nI my) h, [ai ct es 10 (fun j => p (5 + j))], wB ct tr w, [(sc, .inr (2, [.ref ty, .int s0, .int s1, .int s2, .int s3, .int s4]))], [ai ct ty 120 y], wS ct sh q wd sz nm, [ai ct fo 7 (fun j => c (j + 1))], [oM a v], [ai ct (a 1) 210 u2], [ai ct (a 2) 210 k], [ai ct (a 3) 210 d], [ai ct (a 4) 8 c], [ai ct (a 5) 120 y], [(a 6, .inl (ct 3, 7, .inr (.inr (.inr (.inr (fun j => some (kS K j)))))))], [ai ct (a 7) 480 it], [ai ct (a 8) 4 wd], [ai ct (a 9) 4 sz], [ai ct (a 10) 160 nm], [ai ct (a 11) 40 mv]]).flatten := rep_D [_, _] _ (wB_up (fun j hj => pk_un (by omega))) hD2
  refine lv_icmp_eq (tgt := 1607) F.1 F.2.1 dL_law_1197 (by decide) (fun _ => ?_) (fun hne => absurd q1.symm hne)
  exact kk _ _ (IVk hP2 hD2 hS2 q2 rfl rfl rfl rfl rfl (fa.seed _) fk)
set_option maxHeartbeats 4000000 in
set_option maxRecDepth 100000 in
theorem cs_feed (C0 : LX pg m cd s args dC dI ct K A b0 L xs) (hl : lv_has ls 4 [(0, .ref b0), (1, .ref x), (2, .ref (a 0)), (3, .int (nI i))]) (hi : i + 5 < L) (hcs : cells ≤ room_1.cells ∧ slots ≤ room_1.slots) (iv : IV dC dI ct K A s.heap x st kt sc ty sh fo bk ek sp es b e tr rw ew q a H locs) (kk : ∀ (H1 : Heap) (locs1 : List Loc), IV dC dI ct K A s.heap x st kt sc ty sh fo bk ek sp es b e tr rw ew q a H1 locs1 → W pg l en room_1 s m args below meth cd H1 locs1 cells slots Q (F0 m 1607 ls [])) : W pg l en room_1 s m args below meth cd H locs cells slots Q (F0 m 1202 ls []) := by
  obtain ⟨F, hK, hA, hX, hbl, hbA, hz, hE, hL⟩ := C0
  obtain ⟨ik, zz, z2, s0, s1, s2, s3, s4, nx, sx, f, p, w, y, wd, sz, nm, c, g, h, so, v, k, d, it, mv, mx, my, fa, fk, hP, hD, hS⟩ := iv
  obtain ⟨hzz, hso, hnx, hsx, fq, hZ, hc, ⟨n, hn, hs0, h8, hby⟩, hik⟩ := id fa
  refine lv_aload_n F.1 F.2.1 dL_law_1202 rfl (lv_at hl 1 rfl) ?_
  refine sL (q := 1) F.1 F.2.1 hX hbl hbA hS hl (by omega) hL (by decide) dL_law_1203 dL_law_1204 dL_law_1205 dL_law_1206 dL_law_1207 ?_
  refine sL (q := 2) F.1 F.2.1 hX hbl hbA hS hl (by omega) hL (by decide) dL_law_1208 dL_law_1209 dL_law_1210 dL_law_1211 dL_law_1212 ?_
  refine lcX5_feed _ _ _ _ _ _ _ _ _ _ _ _ _ _ _ _ (xs (i + 1)) (xs (i + 2)) ⟨n, hn, hs0⟩ F gL_law_X5_feed hK hP hD hS hA ⟨Nat.le_of_ble_eq_true rfl, Nat.le_of_ble_eq_true rfl⟩ hl.1 (Nat.le_of_ble_eq_true rfl) hcs dL_law_1213 (fun r1 u1 H1 locs1 e1 hP1 hD1 hS1 => ?_)
  refine lv_aload_n F.1 F.2.1 dL_law_1216 rfl (lv_at hl 2 rfl) ?_
  refine sL (q := 1) F.1 F.2.1 hX hbl hbA hS1 hl (by omega) hL (by decide) dL_law_1217 dL_law_1218 dL_law_1219 dL_law_1220 dL_law_1221 ?_
  refine sL (q := 2) F.1 F.2.1 hX hbl hbA hS1 hl (by omega) hL (by decide) dL_law_1222 dL_law_1223 dL_law_1224 dL_law_1225 dL_law_1226 ?_
  refine lcX6_feed _ _ _ _ (xs (i + 1)) (xs (i + 2)) ⟨n, hn, h8⟩ F gL_law_X6_feed hK hP1 hD1 hS1 hA ⟨Nat.le_of_ble_eq_true rfl, Nat.le_of_ble_eq_true rfl⟩ hl.1 (Nat.le_of_ble_eq_true rfl) hcs dL_law_1227 (fun r2 u2 H2 locs2 e2 hP2 hD2 hS2 => ?_)
  obtain ⟨q1, q2, q3, fa2⟩ := fa.feed (show (r1, u1.1, u1.2.1, u1.2.2) = sFeed s0 y c (xs (i + 1)) (xs (i + 2)) from e1) (show (r2, u2.1, u2.2.1, u2.2.2) = sFeedM v y c (xs (i + 1)) (xs (i + 2)) from e2)
  refine lv_icmp_eq (tgt := 1607) F.1 F.2.1 dL_law_1230 (by decide) (fun _ => ?_) (fun hne => absurd q1.symm hne)
  exact kk _ _ (IVk hP2 hD2 hS2 rfl q3 q2 rfl rfl rfl fa2 fk)
set_option maxHeartbeats 4000000 in
set_option maxRecDepth 100000 in
theorem cs_wipe (C0 : LX pg m cd s args dC dI ct K A b0 L xs) (hl : lv_has ls 4 [(0, .ref b0), (1, .ref x), (2, .ref (a 0)), (3, .int (nI i))]) (hi : i + 5 < L) (hcs : cells ≤ room_1.cells ∧ slots ≤ room_1.slots) (iv : IV dC dI ct K A s.heap x st kt sc ty sh fo bk ek sp es b e tr rw ew q a H locs) (kk : ∀ (H1 : Heap) (locs1 : List Loc), IV dC dI ct K A s.heap x st kt sc ty sh fo bk ek sp es b e tr rw ew q a H1 locs1 → W pg l en room_1 s m args below meth cd H1 locs1 cells slots Q (F0 m 1607 ls [])) : W pg l en room_1 s m args below meth cd H locs cells slots Q (F0 m 1235 ls []) := by
  obtain ⟨F, hK, hA, hX, hbl, hbA, hz, hE, hL⟩ := C0
  obtain ⟨ik, zz, z2, s0, s1, s2, s3, s4, nx, sx, f, p, w, y, wd, sz, nm, c, g, h, so, v, k, d, it, mv, mx, my, fa, fk, hP, hD, hS⟩ := iv
  obtain ⟨hzz, hso, hnx, hsx, fq, hZ, hc, ⟨n, hn, hs0, h8, hby⟩, hik⟩ := id fa
  refine lv_aload_n F.1 F.2.1 dL_law_1235 rfl (lv_at hl 1 rfl) ?_
  refine lcX5_wipe _ _ _ _ _ _ _ _ _ _ _ _ _ _ F gL_law_X5_wipe hK hP hD hS hA ⟨Nat.le_of_ble_eq_true rfl, Nat.le_of_ble_eq_true rfl⟩ hl.1 (Nat.le_of_ble_eq_true rfl) hcs dL_law_1236 (fun r1 u1 H1 locs1 e1 hP1 hD1 hS1 => ?_)
  refine lv_aload_n F.1 F.2.1 dL_law_1239 rfl (lv_at hl 2 rfl) ?_
  refine lcX6_wipe _ _ F gL_law_X6_wipe hK hP1 hD1 hS1 hA ⟨Nat.le_of_ble_eq_true rfl, Nat.le_of_ble_eq_true rfl⟩ hl.1 (Nat.le_of_ble_eq_true rfl) hcs dL_law_1240 (fun r2 u2 H2 locs2 e2 hP2 hD2 hS2 => ?_)
  have e1 : r1 = s0 := e1
  have e2 : r2 = v 8 := e2
  have q1 : r2 = r1 := by rw [e1, e2, h8, hs0]
  refine lv_icmp_eq (tgt := 1607) F.1 F.2.1 dL_law_1243 (by decide) (fun _ => ?_) (fun hne => absurd q1.symm hne)
  exact kk _ _ (IVk hP2 hD2 hS2 rfl rfl rfl rfl rfl rfl (fa.wipe (pk_un (by omega)) pk_us) fk)
set_option maxHeartbeats 4000000 in
set_option maxRecDepth 100000 in
theorem cs_text (C0 : LX pg m cd s args dC dI ct K A b0 L xs) (hl : lv_has ls 4 [(0, .ref b0), (1, .ref x), (2, .ref (a 0)), (3, .int (nI i))]) (hi : i + 5 < L) (hcs : cells ≤ room_1.cells ∧ slots ≤ room_1.slots) (iv : IV dC dI ct K A s.heap x st kt sc ty sh fo bk ek sp es b e tr rw ew q a H locs) (kk : ∀ (H1 : Heap) (locs1 : List Loc), IV dC dI ct K A s.heap x st kt sc ty sh fo bk ek sp es b e tr rw ew q a H1 locs1 → W pg l en room_1 s m args below meth cd H1 locs1 cells slots Q (F0 m 1607 ls [])) : W pg l en room_1 s m args below meth cd H locs cells slots Q (F0 m 1248 ls []) := by
  obtain ⟨F, hK, hA, hX, hbl, hbA, hz, hE, hL⟩ := C0
  obtain ⟨ik, zz, z2, s0, s1, s2, s3, s4, nx, sx, f, p, w, y, wd, sz, nm, c, g, h, so, v, k, d, it, mv, mx, my, fa, fk, hP, hD, hS⟩ := iv
  obtain ⟨hzz, hso, hnx, hsx, fq, hZ, hc, ⟨n, hn, hs0, h8, hby⟩, hik⟩ := id fa
  subst hs0
  refine lv_aload_n F.1 F.2.1 dL_law_1248 rfl (lv_at hl 1 rfl) ?_
  refine lcX5_text _ _ _ _ _ _ _ _ _ _ _ _ _ _ _ _ _ _ _ _ _ n hn F gL_law_X5_text hK hP hD hS hA hE hz rfS_L ⟨Nat.le_of_ble_eq_true rfl, Nat.le_of_ble_eq_true rfl⟩ hl.1 (Nat.le_of_ble_eq_true rfl) hcs dL_law_1249 (fun r1 u1 H1 locs1 e1 hP1 hD1 hS1 => ?_)
  refine lv_aload_n F.1 F.2.1 dL_law_1252 rfl (lv_at hl 2 rfl) ?_
  refine lcX6_text _ _ _ _ n _ _ h8 hn hby F gL_law_X6_text hK hP1 hD1 hS1 hA hE hz rfR_L ⟨Nat.le_of_ble_eq_true rfl, Nat.le_of_ble_eq_true rfl⟩ hl.1 (Nat.le_of_ble_eq_true rfl) hcs dL_law_1253 (fun r2 u2 H2 locs2 e2 hP2 hD2 hS2 => ?_)
  obtain ⟨e3, e4⟩ := e1
  have e4 : u1.1 = txF y n f := e4
  obtain ⟨e5, e6, e7, e8⟩ := e2
  have q1 : r2 = r1 := e5.trans e3.symm
  have kp := kp_txF (y := y) (n := n) fq.1
  rw [← e4] at kp
  refine lv_icmp_eq (tgt := 1607) F.1 F.2.1 dL_law_1256 (by decide) (fun _ => ?_) (fun hne => absurd q1.symm hne)
  exact kk _ _ (IVk hP2 hD2 hS2 (e6.trans e4.symm) rfl rfl rfl rfl rfl ((fa.ok kp (FD.rf c)).wipe (e8 3 (by omega)) e7) fk)
set_option maxHeartbeats 4000000 in
set_option maxRecDepth 100000 in
theorem cs_hold (C0 : LX pg m cd s args dC dI ct K A b0 L xs) (hl : lv_has ls 4 [(0, .ref b0), (1, .ref x), (2, .ref (a 0)), (3, .int (nI i))]) (hi : i + 5 < L) (hcs : cells ≤ room_1.cells ∧ slots ≤ room_1.slots) (iv : IV dC dI ct K A s.heap x st kt sc ty sh fo bk ek sp es b e tr rw ew q a H locs) (kk : ∀ (H1 : Heap) (locs1 : List Loc), IV dC dI ct K A s.heap x st kt sc ty sh fo bk ek sp es b e tr rw ew q a H1 locs1 → W pg l en room_1 s m args below meth cd H1 locs1 cells slots Q (F0 m 1607 ls [])) : W pg l en room_1 s m args below meth cd H locs cells slots Q (F0 m 1261 ls []) := by
  obtain ⟨F, hK, hA, hX, hbl, hbA, hz, hE, hL⟩ := C0
  obtain ⟨ik, zz, z2, s0, s1, s2, s3, s4, nx, sx, f, p, w, y, wd, sz, nm, c, g, h, so, v, k, d, it, mv, mx, my, fa, fk, hP, hD, hS⟩ := iv
  obtain ⟨hzz, hso, hnx, hsx, fq, hZ, hc, ⟨n, hn, hs0, h8, hby⟩, hik⟩ := id fa
  refine lv_aload_n F.1 F.2.1 dL_law_1261 rfl (lv_at hl 1 rfl) ?_
  refine sL (q := 1) F.1 F.2.1 hX hbl hbA hS hl (by omega) hL (by decide) dL_law_1262 dL_law_1263 dL_law_1264 dL_law_1265 dL_law_1266 ?_
  refine sL (q := 2) F.1 F.2.1 hX hbl hbA hS hl (by omega) hL (by decide) dL_law_1267 dL_law_1268 dL_law_1269 dL_law_1270 dL_law_1271 ?_
  refine lcX5_hold _ _ _ _ _ _ _ _ _ _ _ _ _ _ (xs (i + 1)) (xs (i + 2)) F gL_law_X5_hold hK hP hD hS hA ⟨Nat.le_of_ble_eq_true rfl, Nat.le_of_ble_eq_true rfl⟩ hl.1 (Nat.le_of_ble_eq_true rfl) hcs dL_law_1272 (fun r1 u1 H1 locs1 e1 hP1 hD1 hS1 => ?_)
  refine lv_aload_n F.1 F.2.1 dL_law_1275 rfl (lv_at hl 2 rfl) ?_
  refine sL (q := 1) F.1 F.2.1 hX hbl hbA hS1 hl (by omega) hL (by decide) dL_law_1276 dL_law_1277 dL_law_1278 dL_law_1279 dL_law_1280 ?_
  refine sL (q := 2) F.1 F.2.1 hX hbl hbA hS1 hl (by omega) hL (by decide) dL_law_1281 dL_law_1282 dL_law_1283 dL_law_1284 dL_law_1285 ?_
  refine lcX6_hold _ _ _ _ (xs (i + 1)) (xs (i + 2)) F gL_law_X6_hold hK hP1 hD1 hS1 hA ⟨Nat.le_of_ble_eq_true rfl, Nat.le_of_ble_eq_true rfl⟩ hl.1 (Nat.le_of_ble_eq_true rfl) hcs dL_law_1286 (fun r2 u2 H2 locs2 e2 hP2 hD2 hS2 => ?_)
  have e4 : (r2, u2.1, u2.2) = sHold f c (xs (i + 1)) (xs (i + 2)) := e2
  obtain ⟨q1, q3, fa2⟩ := hold_eq e1 e4 fa
  have hP2 : va_P (dC, dI) vwCl ([[(x, .inr (5, [.ref st, .ref kt, .int ik, .ref (tr 0), .ref sc, .ref sh, .ref fo]))], [(st, .inr (4, [.ref (b 0), .ref bk, .ref sp, .int zz]))], wB ct b u2.1, wR ct bk rw nx sx g, [ai ct sp 10 u1.1], [(kt, .inr (4, [.ref (e 0), .ref ek, .ref es, .int z2]))], wB ct e p, wR ct ek ew (nI mx) (nI my) h, [ai ct es 10 (fun j => p (5 + j))], wB ct tr w, [(sc, .inr (2, [.ref ty, .int s0, .int s1, .int s2, .int s3, .int s4]))], [ai ct ty 120 y], wS ct sh q wd sz nm, [ai ct fo 7 (fun j => u1.2 (j + 1))], [oM a v], [ai ct (a 1) 210 u2.1], [ai ct (a 2) 210 k], [ai ct (a 3) 210 d], [ai ct (a 4) 8 u2.2], [ai ct (a 5) 120 y], [(a 6, .inl (ct 3, 7, .inr (.inr (.inr (.inr (fun j => some (kS K j)))))))], [ai ct (a 7) 480 it], [ai ct (a 8) 4 wd], [ai ct (a 9) 4 sz], [ai ct (a 10) 160 nm], [ai ct (a 11) 40 mv]]).flatten H2 := rep_P [_, _] _ (wB_up (hold_B e4)) hP2
  have hD2 : va_D A ([[(x, .inr (5, [.ref st, .ref kt, .int ik, .ref (tr 0), .ref sc, .ref sh, .ref fo]))], [(st, .inr (4, [.ref (b 0), .ref bk, .ref sp, .int zz]))], wB ct b u2.1, wR ct bk rw nx sx g, [ai ct sp 10 u1.1], [(kt, .inr (4, [.ref (e 0), .ref ek, .ref es, .int z2]))], wB ct e p, wR ct ek ew (nI mx) (nI my) h, [ai ct es 10 (fun j => p (5 + j))], wB ct tr w, [(sc, .inr (2, [.ref ty, .int s0, .int s1, .int s2, .int s3, .int s4]))], [ai ct ty 120 y], wS ct sh q wd sz nm, [ai ct fo 7 (fun j => u1.2 (j + 1))], [oM a v], [ai ct (a 1) 210 u2.1], [ai ct (a 2) 210 k], [ai ct (a 3) 210 d], [ai ct (a 4) 8 u2.2], [ai ct (a 5) 120 y], [(a 6, .inl (ct 3, 7, .inr (.inr (.inr (.inr (fun j => some (kS K j)))))))], [ai ct (a 7) 480 it], [ai ct (a 8) 4 wd], [ai ct (a 9) 4 sz], [ai ct (a 10) 160 nm], [ai ct (a 11) 40 mv]]).flatten := rep_D [_, _] _ (wB_up (hold_B e4)) hD2
  refine lv_icmp_eq (tgt := 1607) F.1 F.2.1 dL_law_1289 (by decide) (fun _ => ?_) (fun hne => absurd q1.symm hne)
  exact kk _ _ (IVk hP2 hD2 hS2 rfl q3 rfl rfl rfl rfl fa2 fk)
set_option maxHeartbeats 4000000 in
set_option maxRecDepth 100000 in
theorem cs_as (C0 : LX pg m cd s args dC dI ct K A b0 L xs) (hl : lv_has ls 4 [(0, .ref b0), (1, .ref x), (2, .ref (a 0)), (3, .int (nI i))]) (hi : i + 5 < L) (hcs : cells ≤ room_1.cells ∧ slots ≤ room_1.slots) (iv : IV dC dI ct K A s.heap x st kt sc ty sh fo bk ek sp es b e tr rw ew q a H locs) (kk : ∀ (H1 : Heap) (locs1 : List Loc), IV dC dI ct K A s.heap x st kt sc ty sh fo bk ek sp es b e tr rw ew q a H1 locs1 → W pg l en room_1 s m args below meth cd H1 locs1 cells slots Q (F0 m 1607 ls [])) : W pg l en room_1 s m args below meth cd H locs cells slots Q (F0 m 1294 ls []) := by
  obtain ⟨F, hK, hA, hX, hbl, hbA, hz, hE, hL⟩ := C0
  obtain ⟨ik, zz, z2, s0, s1, s2, s3, s4, nx, sx, f, p, w, y, wd, sz, nm, c, g, h, so, v, k, d, it, mv, mx, my, fa, fk, hP, hD, hS⟩ := iv
  obtain ⟨hzz, hso, hnx, hsx, fq, hZ, hc, ⟨n, hn, hs0, h8, hby⟩, hik⟩ := id fa
  have hP : va_P (dC, dI) vwCl ([[(x, .inr (5, [.ref st, .ref kt, .int ik, .ref (tr 0), .ref sc, .ref sh, .ref fo]))], [(st, .inr (4, [.ref (b 0), .ref bk, .ref sp, .int zz]))], wB ct b f, wR ct bk rw nx sx g, [ai ct sp 10 (fun j => f (5 + j))], [(kt, .inr (4, [.ref (e 0), .ref ek, .ref es, .int z2]))], wB ct e p, wR ct ek ew (nI mx) (nI my) h, [ai ct es 10 (fun j => p (5 + j))], wB ct tr w, [(sc, .inr (2, [.ref ty, .int s0, .int s1, .int s2, .int s3, .int s4]))], [ai ct ty 120 y], wS ct sh q wd sz nm, [ai ct fo 7 (fun j => c (j + 1))], [oM a v], [ai ct (a 1) 210 f], [ai ct (a 2) 210 k], [ai ct (a 3) 210 d], [ai ct (a 4) 8 c], [ai ct (a 5) 120 y], [(a 6, .inl (ct 3, 7, .inr (.inr (.inr (.inr (fun j => some (kS K j)))))))], [ai ct (a 7) 480 it], [ai ct (a 8) 4 wd], [ai ct (a 9) 4 sz], [ai ct (a 10) 160 nm], [ai ct (a 11) 40 mv]]).flatten H := rep_P [_, _, _, _] _ (sp_eq hso) hP
  have hD : va_D A ([[(x, .inr (5, [.ref st, .ref kt, .int ik, .ref (tr 0), .ref sc, .ref sh, .ref fo]))], [(st, .inr (4, [.ref (b 0), .ref bk, .ref sp, .int zz]))], wB ct b f, wR ct bk rw nx sx g, [ai ct sp 10 (fun j => f (5 + j))], [(kt, .inr (4, [.ref (e 0), .ref ek, .ref es, .int z2]))], wB ct e p, wR ct ek ew (nI mx) (nI my) h, [ai ct es 10 (fun j => p (5 + j))], wB ct tr w, [(sc, .inr (2, [.ref ty, .int s0, .int s1, .int s2, .int s3, .int s4]))], [ai ct ty 120 y], wS ct sh q wd sz nm, [ai ct fo 7 (fun j => c (j + 1))], [oM a v], [ai ct (a 1) 210 f], [ai ct (a 2) 210 k], [ai ct (a 3) 210 d], [ai ct (a 4) 8 c], [ai ct (a 5) 120 y], [(a 6, .inl (ct 3, 7, .inr (.inr (.inr (.inr (fun j => some (kS K j)))))))], [ai ct (a 7) 480 it], [ai ct (a 8) 4 wd], [ai ct (a 9) 4 sz], [ai ct (a 10) 160 nm], [ai ct (a 11) 40 mv]]).flatten := rep_D [_, _, _, _] _ (sp_eq hso) hD
  have fa := fa.so
  refine lv_aload_n F.1 F.2.1 dL_law_1294 rfl (lv_at hl 1 rfl) ?_
  refine sL (q := 1) F.1 F.2.1 hX hbl hbA hS hl (by omega) hL (by decide) dL_law_1295 dL_law_1296 dL_law_1297 dL_law_1298 dL_law_1299 ?_
  refine sL (q := 2) F.1 F.2.1 hX hbl hbA hS hl (by omega) hL (by decide) dL_law_1300 dL_law_1301 dL_law_1302 dL_law_1303 dL_law_1304 ?_
  refine lcX5_as _ [] _ _ _ _ _ _ _ _ _ _ _ _ _ _ (xs (i + 1)) (xs (i + 2)) fq.2.2.2 fq.1 F gL_law_X5_as hK hP hD hS hA hE hz (rfN_L _) ⟨Nat.le_of_ble_eq_true rfl, Nat.le_of_ble_eq_true rfl⟩ hl.1 (Nat.le_of_ble_eq_true rfl) hcs dL_law_1305 (fun r1 u1 H1 locs1 e1 hP1 hD1 hS1 => ?_)
  refine lv_aload_n F.1 F.2.1 dL_law_1308 rfl (lv_at hl 2 rfl) ?_
  refine sL (q := 1) F.1 F.2.1 hX hbl hbA hS1 hl (by omega) hL (by decide) dL_law_1309 dL_law_1310 dL_law_1311 dL_law_1312 dL_law_1313 ?_
  refine sL (q := 2) F.1 F.2.1 hX hbl hbA hS1 hl (by omega) hL (by decide) dL_law_1314 dL_law_1315 dL_law_1316 dL_law_1317 dL_law_1318 ?_
  refine lcX6_as _ _ _ _ (xs (i + 1)) (xs (i + 2)) (rs_sp fq.2.2.2) F gL_law_X6_as hK hP1 hD1 hS1 hA ⟨Nat.le_of_ble_eq_true rfl, Nat.le_of_ble_eq_true rfl⟩ hl.1 (Nat.le_of_ble_eq_true rfl) hcs dL_law_1319 (fun r2 u2 H2 locs2 e2 hP2 hD2 hS2 => ?_)
  have e3 : (r1, u1.1, u1.2) = sAs f c (xs (i + 1)) (xs (i + 2)) := e1
  have e4 : (r2, u2.1, u2.2) = sAs f c (xs (i + 1)) (xs (i + 2)) := e2
  obtain ⟨q1, q2⟩ := Prod.mk.inj (e4.trans e3.symm)
  obtain ⟨q2, q3⟩ := Prod.mk.inj q2
  have ok := ok_as fq.1 c (xs (i + 1)) (xs (i + 2))
  rw [← e3] at ok
  refine lv_icmp_eq (tgt := 1607) F.1 F.2.1 dL_law_1322 (by decide) (fun _ => ?_) (fun hne => absurd q1.symm hne)
  exact kk _ _ (IVk hP2 hD2 hS2 q2 q3 rfl rfl rfl rfl (((fa.ok ok.1 ok.2)).so) fk)
set_option maxHeartbeats 4000000 in
set_option maxRecDepth 100000 in
theorem cs_sheet (C0 : LX pg m cd s args dC dI ct K A b0 L xs) (hl : lv_has ls 4 [(0, .ref b0), (1, .ref x), (2, .ref (a 0)), (3, .int (nI i))]) (hi : i + 5 < L) (hcs : cells ≤ room_1.cells ∧ slots ≤ room_1.slots) (iv : IV dC dI ct K A s.heap x st kt sc ty sh fo bk ek sp es b e tr rw ew q a H locs) (kk : ∀ (H1 : Heap) (locs1 : List Loc), IV dC dI ct K A s.heap x st kt sc ty sh fo bk ek sp es b e tr rw ew q a H1 locs1 → W pg l en room_1 s m args below meth cd H1 locs1 cells slots Q (F0 m 1607 ls [])) : W pg l en room_1 s m args below meth cd H locs cells slots Q (F0 m 1327 ls []) := by
  obtain ⟨F, hK, hA, hX, hbl, hbA, hz, hE, hL⟩ := C0
  obtain ⟨ik, zz, z2, s0, s1, s2, s3, s4, nx, sx, f, p, w, y, wd, sz, nm, c, g, h, so, v, k, d, it, mv, mx, my, fa, fk, hP, hD, hS⟩ := iv
  obtain ⟨hzz, hso, hnx, hsx, fq, hZ, hc, ⟨n, hn, hs0, h8, hby⟩, hik⟩ := id fa
  refine lv_aload_n F.1 F.2.1 dL_law_1327 rfl (lv_at hl 1 rfl) ?_
  refine sL (q := 1) F.1 F.2.1 hX hbl hbA hS hl (by omega) hL (by decide) dL_law_1328 dL_law_1329 dL_law_1330 dL_law_1331 dL_law_1332 ?_
  refine sL (q := 2) F.1 F.2.1 hX hbl hbA hS hl (by omega) hL (by decide) dL_law_1333 dL_law_1334 dL_law_1335 dL_law_1336 dL_law_1337 ?_
  refine sL (q := 3) F.1 F.2.1 hX hbl hbA hS hl (by omega) hL (by decide) dL_law_1338 dL_law_1339 dL_law_1340 dL_law_1341 dL_law_1342 ?_
  refine lcX5_sheet _ _ _ _ _ _ _ _ _ _ _ _ _ (xs (i + 1)) (xs (i + 2)) (xs (i + 3)) F gL_law_X5_sheet hK hP hD hS hA ⟨Nat.le_of_ble_eq_true rfl, Nat.le_of_ble_eq_true rfl⟩ hl.1 (Nat.le_of_ble_eq_true rfl) hcs dL_law_1343 (fun r1 u1 H1 locs1 e1 hP1 hD1 hS1 => ?_)
  refine lv_aload_n F.1 F.2.1 dL_law_1346 rfl (lv_at hl 2 rfl) ?_
  refine sL (q := 1) F.1 F.2.1 hX hbl hbA hS1 hl (by omega) hL (by decide) dL_law_1347 dL_law_1348 dL_law_1349 dL_law_1350 dL_law_1351 ?_
  refine sL (q := 2) F.1 F.2.1 hX hbl hbA hS1 hl (by omega) hL (by decide) dL_law_1352 dL_law_1353 dL_law_1354 dL_law_1355 dL_law_1356 ?_
  refine sL (q := 3) F.1 F.2.1 hX hbl hbA hS1 hl (by omega) hL (by decide) dL_law_1357 dL_law_1358 dL_law_1359 dL_law_1360 dL_law_1361 ?_
  refine lcX6_sheet _ _ _ _ _ _ (xs (i + 1)) (xs (i + 2)) (xs (i + 3)) F gL_law_X6_sheet hK hP1 hD1 hS1 hA ⟨Nat.le_of_ble_eq_true rfl, Nat.le_of_ble_eq_true rfl⟩ hl.1 (Nat.le_of_ble_eq_true rfl) hcs dL_law_1362 (fun r2 u2 H2 locs2 e2 hP2 hD2 hS2 => ?_)
  have e3 : (r1, u1.1, u1.2.1, u1.2.2.1, u1.2.2.2) = sSheet wd sz nm c (xs (i + 1)) (xs (i + 2)) (xs (i + 3)) := e1
  have e4 : (r2, u2.1, u2.2.1, u2.2.2.1, u2.2.2.2) = sSheet wd sz nm c (xs (i + 1)) (xs (i + 2)) (xs (i + 3)) := e2
  obtain ⟨q1, q2⟩ := Prod.mk.inj (e4.trans e3.symm)
  obtain ⟨q2, q3⟩ := Prod.mk.inj q2
  obtain ⟨q3, q4⟩ := Prod.mk.inj q3
  obtain ⟨q4, q5⟩ := Prod.mk.inj q4
  have ok := sheet_keep hZ wd nm c (xs (i + 1)) (xs (i + 2)) (xs (i + 3))
  rw [← e3] at ok
  refine lv_icmp_eq (tgt := 1607) F.1 F.2.1 dL_law_1365 (by decide) (fun _ => ?_) (fun hne => absurd q1.symm hne)
  exact kk _ _ (IVk hP2 hD2 hS2 rfl q5 rfl q2 q3 q4 (fa.c ok.2 ok.1) fk)
set_option maxHeartbeats 4000000 in
set_option maxRecDepth 100000 in
theorem cs_write (C0 : LX pg m cd s args dC dI ct K A b0 L xs) (hl : lv_has ls 4 [(0, .ref b0), (1, .ref x), (2, .ref (a 0)), (3, .int (nI i))]) (hi : i + 5 < L) (hcs : cells ≤ room_1.cells ∧ slots ≤ room_1.slots) (iv : IV dC dI ct K A s.heap x st kt sc ty sh fo bk ek sp es b e tr rw ew q a H locs) (kk : ∀ (H1 : Heap) (locs1 : List Loc), IV dC dI ct K A s.heap x st kt sc ty sh fo bk ek sp es b e tr rw ew q a H1 locs1 → W pg l en room_1 s m args below meth cd H1 locs1 cells slots Q (F0 m 1607 ls [])) : W pg l en room_1 s m args below meth cd H locs cells slots Q (F0 m 1370 ls []) := by
  obtain ⟨F, hK, hA, hX, hbl, hbA, hz, hE, hL⟩ := C0
  obtain ⟨ik, zz, z2, s0, s1, s2, s3, s4, nx, sx, f, p, w, y, wd, sz, nm, c, g, h, so, v, k, d, it, mv, mx, my, fa, fk, hP, hD, hS⟩ := iv
  obtain ⟨hzz, hso, hnx, hsx, fq, hZ, hc, ⟨n, hn, hs0, h8, hby⟩, hik⟩ := id fa
  refine lv_aload_n F.1 F.2.1 dL_law_1370 rfl (lv_at hl 1 rfl) ?_
  refine sL (q := 1) F.1 F.2.1 hX hbl hbA hS hl (by omega) hL (by decide) dL_law_1371 dL_law_1372 dL_law_1373 dL_law_1374 dL_law_1375 ?_
  refine sL (q := 2) F.1 F.2.1 hX hbl hbA hS hl (by omega) hL (by decide) dL_law_1376 dL_law_1377 dL_law_1378 dL_law_1379 dL_law_1380 ?_
  refine sL (q := 3) F.1 F.2.1 hX hbl hbA hS hl (by omega) hL (by decide) dL_law_1381 dL_law_1382 dL_law_1383 dL_law_1384 dL_law_1385 ?_
  refine lcX5_write _ _ _ _ _ _ _ _ _ _ _ _ _ (xs (i + 1)) (xs (i + 2)) (xs (i + 3)) hZ F gL_law_X5_write hK hP hD hS hA ⟨Nat.le_of_ble_eq_true rfl, Nat.le_of_ble_eq_true rfl⟩ hl.1 (Nat.le_of_ble_eq_true rfl) hcs dL_law_1386 (fun r1 u1 H1 locs1 e1 hP1 hD1 hS1 => ?_)
  refine lv_aload_n F.1 F.2.1 dL_law_1389 rfl (lv_at hl 2 rfl) ?_
  refine sL (q := 1) F.1 F.2.1 hX hbl hbA hS1 hl (by omega) hL (by decide) dL_law_1390 dL_law_1391 dL_law_1392 dL_law_1393 dL_law_1394 ?_
  refine sL (q := 2) F.1 F.2.1 hX hbl hbA hS1 hl (by omega) hL (by decide) dL_law_1395 dL_law_1396 dL_law_1397 dL_law_1398 dL_law_1399 ?_
  refine sL (q := 3) F.1 F.2.1 hX hbl hbA hS1 hl (by omega) hL (by decide) dL_law_1400 dL_law_1401 dL_law_1402 dL_law_1403 dL_law_1404 ?_
  refine lcX6_write _ _ _ _ _ _ (xs (i + 1)) (xs (i + 2)) (xs (i + 3)) hZ F gL_law_X6_write hK hP1 hD1 hS1 hA ⟨Nat.le_of_ble_eq_true rfl, Nat.le_of_ble_eq_true rfl⟩ hl.1 (Nat.le_of_ble_eq_true rfl) hcs dL_law_1405 (fun r2 u2 H2 locs2 e2 hP2 hD2 hS2 => ?_)
  have e3 : (r1, u1.1, u1.2.1, u1.2.2.1, u1.2.2.2) = sWrite wd sz nm c (xs (i + 1)) (xs (i + 2)) (xs (i + 3)) := e1
  have e4 : (r2, u2.1, u2.2.1, u2.2.2.1, u2.2.2.2) = sWrite wd sz nm c (xs (i + 1)) (xs (i + 2)) (xs (i + 3)) := e2
  obtain ⟨q1, q2⟩ := Prod.mk.inj (e4.trans e3.symm)
  obtain ⟨q2, q3⟩ := Prod.mk.inj q2
  obtain ⟨q3, q4⟩ := Prod.mk.inj q3
  obtain ⟨q4, q5⟩ := Prod.mk.inj q4
  have ok := write_keep hZ wd nm c (xs (i + 1)) (xs (i + 2)) (xs (i + 3))
  rw [← e3] at ok
  refine lv_icmp_eq (tgt := 1607) F.1 F.2.1 dL_law_1408 (by decide) (fun _ => ?_) (fun hne => absurd q1.symm hne)
  exact kk _ _ (IVk hP2 hD2 hS2 rfl q5 rfl q2 q3 q4 (fa.c ok.2 ok.1) fk)
set_option maxHeartbeats 4000000 in
set_option maxRecDepth 100000 in
theorem cs_copy (C0 : LX pg m cd s args dC dI ct K A b0 L xs) (hl : lv_has ls 4 [(0, .ref b0), (1, .ref x), (2, .ref (a 0)), (3, .int (nI i))]) (hi : i + 5 < L) (hcs : cells ≤ room_1.cells ∧ slots ≤ room_1.slots) (iv : IV dC dI ct K A s.heap x st kt sc ty sh fo bk ek sp es b e tr rw ew q a H locs) (kk : ∀ (H1 : Heap) (locs1 : List Loc), IV dC dI ct K A s.heap x st kt sc ty sh fo bk ek sp es b e tr rw ew q a H1 locs1 → W pg l en room_1 s m args below meth cd H1 locs1 cells slots Q (F0 m 1607 ls [])) : W pg l en room_1 s m args below meth cd H locs cells slots Q (F0 m 1413 ls []) := by
  obtain ⟨F, hK, hA, hX, hbl, hbA, hz, hE, hL⟩ := C0
  obtain ⟨ik, zz, z2, s0, s1, s2, s3, s4, nx, sx, f, p, w, y, wd, sz, nm, c, g, h, so, v, k, d, it, mv, mx, my, fa, fk, hP, hD, hS⟩ := iv
  obtain ⟨hzz, hso, hnx, hsx, fq, hZ, hc, ⟨n, hn, hs0, h8, hby⟩, hik⟩ := id fa
  refine lv_aload_n F.1 F.2.1 dL_law_1413 rfl (lv_at hl 1 rfl) ?_
  refine sL (q := 1) F.1 F.2.1 hX hbl hbA hS hl (by omega) hL (by decide) dL_law_1414 dL_law_1415 dL_law_1416 dL_law_1417 dL_law_1418 ?_
  refine sL (q := 2) F.1 F.2.1 hX hbl hbA hS hl (by omega) hL (by decide) dL_law_1419 dL_law_1420 dL_law_1421 dL_law_1422 dL_law_1423 ?_
  refine sL (q := 3) F.1 F.2.1 hX hbl hbA hS hl (by omega) hL (by decide) dL_law_1424 dL_law_1425 dL_law_1426 dL_law_1427 dL_law_1428 ?_
  refine sL (q := 4) F.1 F.2.1 hX hbl hbA hS hl (by omega) hL (by decide) dL_law_1429 dL_law_1430 dL_law_1431 dL_law_1432 dL_law_1433 ?_
  refine sL (q := 5) F.1 F.2.1 hX hbl hbA hS hl (by omega) hL (by decide) dL_law_1434 dL_law_1435 dL_law_1436 dL_law_1437 dL_law_1438 ?_
  refine lcX5_copy _ _ _ _ _ _ _ _ _ _ _ _ _ (xs (i + 1)) (xs (i + 2)) (xs (i + 3)) (xs (i + 4)) (xs (i + 5)) hZ F gL_law_X5_copy hK hP hD hS hA ⟨Nat.le_of_ble_eq_true rfl, Nat.le_of_ble_eq_true rfl⟩ hl.1 (Nat.le_of_ble_eq_true rfl) hcs dL_law_1439 (fun r1 u1 H1 locs1 e1 hP1 hD1 hS1 => ?_)
  refine lv_aload_n F.1 F.2.1 dL_law_1442 rfl (lv_at hl 2 rfl) ?_
  refine sL (q := 1) F.1 F.2.1 hX hbl hbA hS1 hl (by omega) hL (by decide) dL_law_1443 dL_law_1444 dL_law_1445 dL_law_1446 dL_law_1447 ?_
  refine sL (q := 2) F.1 F.2.1 hX hbl hbA hS1 hl (by omega) hL (by decide) dL_law_1448 dL_law_1449 dL_law_1450 dL_law_1451 dL_law_1452 ?_
  refine sL (q := 3) F.1 F.2.1 hX hbl hbA hS1 hl (by omega) hL (by decide) dL_law_1453 dL_law_1454 dL_law_1455 dL_law_1456 dL_law_1457 ?_
  refine sL (q := 4) F.1 F.2.1 hX hbl hbA hS1 hl (by omega) hL (by decide) dL_law_1458 dL_law_1459 dL_law_1460 dL_law_1461 dL_law_1462 ?_
  refine sL (q := 5) F.1 F.2.1 hX hbl hbA hS1 hl (by omega) hL (by decide) dL_law_1463 dL_law_1464 dL_law_1465 dL_law_1466 dL_law_1467 ?_
  refine lcX6_copy _ _ _ _ _ _ _ (xs (i + 1)) (xs (i + 2)) (xs (i + 3)) (xs (i + 4)) (xs (i + 5)) hZ F gL_law_X6_copy hK hP1 hD1 hS1 hA ⟨Nat.le_of_ble_eq_true rfl, Nat.le_of_ble_eq_true rfl⟩ hl.1 (Nat.le_of_ble_eq_true rfl) hcs dL_law_1468 (fun r2 u2 H2 locs2 e2 hP2 hD2 hS2 => ?_)
  have e3 : (r1, u1.1, u1.2.1, u1.2.2.1, u1.2.2.2) = sCopy wd sz nm c (xs (i + 1)) (xs (i + 2)) (xs (i + 3)) (xs (i + 4)) (xs (i + 5)) := e1
  have e4 : (r2, u2.1, u2.2.1, u2.2.2.1, u2.2.2.2.1) = sCopy wd sz nm c (xs (i + 1)) (xs (i + 2)) (xs (i + 3)) (xs (i + 4)) (xs (i + 5)) := e2
  obtain ⟨q1, q2⟩ := Prod.mk.inj (e4.trans e3.symm)
  obtain ⟨q2, q3⟩ := Prod.mk.inj q2
  obtain ⟨q3, q4⟩ := Prod.mk.inj q3
  obtain ⟨q4, q5⟩ := Prod.mk.inj q4
  have ok := copy_keep hZ wd nm c (xs (i + 1)) (xs (i + 2)) (xs (i + 3)) (xs (i + 4)) (xs (i + 5))
  rw [← e3] at ok
  refine lv_icmp_eq (tgt := 1607) F.1 F.2.1 dL_law_1471 (by decide) (fun _ => ?_) (fun hne => absurd q1.symm hne)
  exact kk _ _ (IVk hP2 hD2 hS2 rfl q5 rfl q2 q3 q4 (fa.c ok.2 ok.1) fk)
set_option maxHeartbeats 4000000 in
set_option maxRecDepth 100000 in
theorem cs_load (C0 : LX pg m cd s args dC dI ct K A b0 L xs) (hl : lv_has ls 4 [(0, .ref b0), (1, .ref x), (2, .ref (a 0)), (3, .int (nI i))]) (hi : i + 5 < L) (hcs : cells ≤ room_1.cells ∧ slots ≤ room_1.slots) (iv : IV dC dI ct K A s.heap x st kt sc ty sh fo bk ek sp es b e tr rw ew q a H locs) (kk : ∀ (H1 : Heap) (locs1 : List Loc), IV dC dI ct K A s.heap x st kt sc ty sh fo bk ek sp es b e tr rw ew q a H1 locs1 → W pg l en room_1 s m args below meth cd H1 locs1 cells slots Q (F0 m 1607 ls [])) : W pg l en room_1 s m args below meth cd H locs cells slots Q (F0 m 1476 ls []) := by
  obtain ⟨F, hK, hA, hX, hbl, hbA, hz, hE, hL⟩ := C0
  obtain ⟨ik, zz, z2, s0, s1, s2, s3, s4, nx, sx, f, p, w, y, wd, sz, nm, c, g, h, so, v, k, d, it, mv, mx, my, fa, fk, hP, hD, hS⟩ := iv
  obtain ⟨hzz, hso, hnx, hsx, fq, hZ, hc, ⟨n, hn, hs0, h8, hby⟩, hik⟩ := id fa
  refine lv_aload_n F.1 F.2.1 dL_law_1476 rfl (lv_at hl 1 rfl) ?_
  refine sL (q := 1) F.1 F.2.1 hX hbl hbA hS hl (by omega) hL (by decide) dL_law_1477 dL_law_1478 dL_law_1479 dL_law_1480 dL_law_1481 ?_
  refine lcX5_load _ _ _ _ _ _ _ _ _ _ _ _ _ _ _ _ _ _ (xs (i + 1)) hZ F gL_law_X5_load hK hP hD hS hA ⟨Nat.le_of_ble_eq_true rfl, Nat.le_of_ble_eq_true rfl⟩ hl.1 (Nat.le_of_ble_eq_true rfl) hcs dL_law_1482 (fun r1 u1 H1 locs1 e1 hP1 hD1 hS1 => ?_)
  refine lv_aload_n F.1 F.2.1 dL_law_1485 rfl (lv_at hl 2 rfl) ?_
  refine sL (q := 1) F.1 F.2.1 hX hbl hbA hS1 hl (by omega) hL (by decide) dL_law_1486 dL_law_1487 dL_law_1488 dL_law_1489 dL_law_1490 ?_
  refine lcX6_load _ _ _ _ _ _ _ (xs (i + 1)) hZ F gL_law_X6_load hK hP1 hD1 hS1 hA ⟨Nat.le_of_ble_eq_true rfl, Nat.le_of_ble_eq_true rfl⟩ hl.1 (Nat.le_of_ble_eq_true rfl) hcs dL_law_1491 (fun r2 u2 H2 locs2 e2 hP2 hD2 hS2 => ?_)
  have e3 : (r1, u1.1, u1.2) = sLoad f c wd sz nm (xs (i + 1)) := e1
  have e4 : (r2, u2.1, u2.2) = sLoad f c wd sz nm (xs (i + 1)) := e2
  obtain ⟨q1, q2⟩ := Prod.mk.inj (e4.trans e3.symm)
  obtain ⟨q2, q3⟩ := Prod.mk.inj q2
  have ok := ok_load fq.1 c wd sz nm (xs (i + 1))
  rw [← e3] at ok
  refine lv_icmp_eq (tgt := 1607) F.1 F.2.1 dL_law_1494 (by decide) (fun _ => ?_) (fun hne => absurd q1.symm hne)
  exact kk _ _ (IVk hP2 hD2 hS2 q2 q3 rfl rfl rfl rfl ((fa.ok ok.1 ok.2)) fk)
set_option maxHeartbeats 4000000 in
set_option maxRecDepth 100000 in
theorem cs_judge (C0 : LX pg m cd s args dC dI ct K A b0 L xs) (hl : lv_has ls 4 [(0, .ref b0), (1, .ref x), (2, .ref (a 0)), (3, .int (nI i))]) (hi : i + 5 < L) (hcs : cells ≤ room_1.cells ∧ slots ≤ room_1.slots) (iv : IV dC dI ct K A s.heap x st kt sc ty sh fo bk ek sp es b e tr rw ew q a H locs) (kk : ∀ (H1 : Heap) (locs1 : List Loc), IV dC dI ct K A s.heap x st kt sc ty sh fo bk ek sp es b e tr rw ew q a H1 locs1 → W pg l en room_1 s m args below meth cd H1 locs1 cells slots Q (F0 m 1607 ls [])) : W pg l en room_1 s m args below meth cd H locs cells slots Q (F0 m 1499 ls []) := by
  obtain ⟨F, hK, hA, hX, hbl, hbA, hz, hE, hL⟩ := C0
  obtain ⟨ik, zz, z2, s0, s1, s2, s3, s4, nx, sx, f, p, w, y, wd, sz, nm, c, g, h, so, v, k, d, it, mv, mx, my, fa, fk, hP, hD, hS⟩ := iv
  obtain ⟨hzz, hso, hnx, hsx, fq, hZ, hc, ⟨n, hn, hs0, h8, hby⟩, hik⟩ := id fa
  refine lv_aload_n F.1 F.2.1 dL_law_1499 rfl (lv_at hl 1 rfl) ?_
  refine sL (q := 1) F.1 F.2.1 hX hbl hbA hS hl (by omega) hL (by decide) dL_law_1500 dL_law_1501 dL_law_1502 dL_law_1503 dL_law_1504 ?_
  refine lcX5_judge _ _ _ _ _ _ _ _ _ _ _ _ _ _ _ _ _ _ _ (xs (i + 1)) fq.1 hZ F gL_law_X5_judge hK hP hD hS hA ⟨Nat.le_of_ble_eq_true rfl, Nat.le_of_ble_eq_true rfl⟩ hl.1 (Nat.le_of_ble_eq_true rfl) hcs dL_law_1505 (fun r1 u1 H1 locs1 e1 hP1 hD1 hS1 => ?_)
  refine lv_aload_n F.1 F.2.1 dL_law_1508 rfl (lv_at hl 2 rfl) ?_
  refine sL (q := 1) F.1 F.2.1 hX hbl hbA hS1 hl (by omega) hL (by decide) dL_law_1509 dL_law_1510 dL_law_1511 dL_law_1512 dL_law_1513 ?_
  refine lcX6_judge _ _ _ _ _ _ _ _ (xs (i + 1)) fq.1 hZ F gL_law_X6_judge hK hP1 hD1 hS1 hA ⟨Nat.le_of_ble_eq_true rfl, Nat.le_of_ble_eq_true rfl⟩ hl.1 (Nat.le_of_ble_eq_true rfl) hcs dL_law_1514 (fun r2 u2 H2 locs2 e2 hP2 hD2 hS2 => ?_)
  have e3 : (r1, u1.1, u1.2.1) = sJudge f c wd sz nm (xs (i + 1)) := e1
  have e4 : (r2, u2.1, u2.2.1) = sJudge f c wd sz nm (xs (i + 1)) := e2
  obtain ⟨q1, q2⟩ := Prod.mk.inj (e4.trans e3.symm)
  obtain ⟨q2, q3⟩ := Prod.mk.inj q2
  have ok := ok_judge fq.1 c wd sz nm (xs (i + 1))
  rw [← e3] at ok
  refine lv_icmp_eq (tgt := 1607) F.1 F.2.1 dL_law_1517 (by decide) (fun _ => ?_) (fun hne => absurd q1.symm hne)
  exact kk _ _ (IVk hP2 hD2 hS2 q2 q3 rfl rfl rfl rfl ((fa.ok ok.1 ok.2)) fk)
set_option maxHeartbeats 4000000 in
set_option maxRecDepth 100000 in
theorem cs_image (C0 : LX pg m cd s args dC dI ct K A b0 L xs) (hl : lv_has ls 4 [(0, .ref b0), (1, .ref x), (2, .ref (a 0)), (3, .int (nI i))]) (hi : i + 5 < L) (hcs : cells ≤ room_1.cells ∧ slots ≤ room_1.slots) (iv : IV dC dI ct K A s.heap x st kt sc ty sh fo bk ek sp es b e tr rw ew q a H locs) (kk : ∀ (H1 : Heap) (locs1 : List Loc), IV dC dI ct K A s.heap x st kt sc ty sh fo bk ek sp es b e tr rw ew q a H1 locs1 → W pg l en room_1 s m args below meth cd H1 locs1 cells slots Q (F0 m 1607 ls [])) : W pg l en room_1 s m args below meth cd H locs cells slots Q (F0 m 1522 ls []) := by
  obtain ⟨F, hK, hA, hX, hbl, hbA, hz, hE, hL⟩ := C0
  obtain ⟨ik, zz, z2, s0, s1, s2, s3, s4, nx, sx, f, p, w, y, wd, sz, nm, c, g, h, so, v, k, d, it, mv, mx, my, fa, fk, hP, hD, hS⟩ := iv
  obtain ⟨hzz, hso, hnx, hsx, fq, hZ, hc, ⟨n, hn, hs0, h8, hby⟩, hik⟩ := id fa
  subst hnx
  subst hsx
  have hP : va_P (dC, dI) vwCl ([[(x, .inr (5, [.ref st, .ref kt, .int ik, .ref (tr 0), .ref sc, .ref sh, .ref fo]))], [(st, .inr (4, [.ref (b 0), .ref bk, .ref sp, .int zz]))], wB ct b f, wR ct bk rw (nI (nN f % 12)) (nI (min 12 (nN f))) g, [ai ct sp 10 (fun j => f (5 + j))], [(kt, .inr (4, [.ref (e 0), .ref ek, .ref es, .int z2]))], wB ct e p, wR ct ek ew (nI mx) (nI my) h, [ai ct es 10 (fun j => p (5 + j))], wB ct tr w, [(sc, .inr (2, [.ref ty, .int s0, .int s1, .int s2, .int s3, .int s4]))], [ai ct ty 120 y], wS ct sh q wd sz nm, [ai ct fo 7 (fun j => c (j + 1))], [oM a v], [ai ct (a 1) 210 f], [ai ct (a 2) 210 k], [ai ct (a 3) 210 d], [ai ct (a 4) 8 c], [ai ct (a 5) 120 y], [(a 6, .inl (ct 3, 7, .inr (.inr (.inr (.inr (fun j => some (kS K j)))))))], [ai ct (a 7) 480 it], [ai ct (a 8) 4 wd], [ai ct (a 9) 4 sz], [ai ct (a 10) 160 nm], [ai ct (a 11) 40 mv]]).flatten H := rep_P [_, _, _, _] _ (sp_eq hso) hP
  have hD : va_D A ([[(x, .inr (5, [.ref st, .ref kt, .int ik, .ref (tr 0), .ref sc, .ref sh, .ref fo]))], [(st, .inr (4, [.ref (b 0), .ref bk, .ref sp, .int zz]))], wB ct b f, wR ct bk rw (nI (nN f % 12)) (nI (min 12 (nN f))) g, [ai ct sp 10 (fun j => f (5 + j))], [(kt, .inr (4, [.ref (e 0), .ref ek, .ref es, .int z2]))], wB ct e p, wR ct ek ew (nI mx) (nI my) h, [ai ct es 10 (fun j => p (5 + j))], wB ct tr w, [(sc, .inr (2, [.ref ty, .int s0, .int s1, .int s2, .int s3, .int s4]))], [ai ct ty 120 y], wS ct sh q wd sz nm, [ai ct fo 7 (fun j => c (j + 1))], [oM a v], [ai ct (a 1) 210 f], [ai ct (a 2) 210 k], [ai ct (a 3) 210 d], [ai ct (a 4) 8 c], [ai ct (a 5) 120 y], [(a 6, .inl (ct 3, 7, .inr (.inr (.inr (.inr (fun j => some (kS K j)))))))], [ai ct (a 7) 480 it], [ai ct (a 8) 4 wd], [ai ct (a 9) 4 sz], [ai ct (a 10) 160 nm], [ai ct (a 11) 40 mv]]).flatten := rep_D [_, _, _, _] _ (sp_eq hso) hD
  have fa := fa.so
  refine lv_aload_n F.1 F.2.1 dL_law_1522 rfl (lv_at hl 1 rfl) ?_
  refine lcX5_image _ _ _ _ _ _ _ _ _ _ _ _ _ _ _ _ _ _ _ _ _ _ _ _ _ _ F gL_law_X5_image hK hP hD hS hA ⟨Nat.le_of_ble_eq_true rfl, Nat.le_of_ble_eq_true rfl⟩ hl.1 (Nat.le_of_ble_eq_true rfl) hcs dL_law_1523 (fun r1 u1 H1 locs1 e1 hP1 hD1 hS1 => ?_)
  refine lv_aload_n F.1 F.2.1 dL_law_1526 rfl (lv_at hl 2 rfl) ?_
  refine lcX6_image _ _ _ _ F gL_law_X6_image hK hP1 hD1 hS1 hA ⟨Nat.le_of_ble_eq_true rfl, Nat.le_of_ble_eq_true rfl⟩ hl.1 (Nat.le_of_ble_eq_true rfl) hcs dL_law_1527 (fun r2 u2 H2 locs2 e2 hP2 hD2 hS2 => ?_)
  have q1 : r2 = r1 := (show r2 = 1 from e2).trans (show r1 = 1 from e1).symm
  refine lv_icmp_eq (tgt := 1607) F.1 F.2.1 dL_law_1530 (by decide) (fun _ => ?_) (fun hne => absurd q1.symm hne)
  exact kk _ _ (IVk hP2 hD2 hS2 rfl rfl rfl rfl rfl rfl (fa.ik 1) (fa.kept 1))
set_option maxHeartbeats 4000000 in
set_option maxRecDepth 100000 in
theorem cs_undo (C0 : LX pg m cd s args dC dI ct K A b0 L xs) (hl : lv_has ls 4 [(0, .ref b0), (1, .ref x), (2, .ref (a 0)), (3, .int (nI i))]) (hi : i + 5 < L) (hcs : cells ≤ room_1.cells ∧ slots ≤ room_1.slots) (iv : IV dC dI ct K A s.heap x st kt sc ty sh fo bk ek sp es b e tr rw ew q a H locs) (kk : ∀ (H1 : Heap) (locs1 : List Loc), IV dC dI ct K A s.heap x st kt sc ty sh fo bk ek sp es b e tr rw ew q a H1 locs1 → W pg l en room_1 s m args below meth cd H1 locs1 cells slots Q (F0 m 1607 ls [])) : W pg l en room_1 s m args below meth cd H locs cells slots Q (F0 m 1535 ls []) := by
  obtain ⟨F, hK, hA, hX, hbl, hbA, hz, hE, hL⟩ := C0
  obtain ⟨ik, zz, z2, s0, s1, s2, s3, s4, nx, sx, f, p, w, y, wd, sz, nm, c, g, h, so, v, k, d, it, mv, mx, my, fa, fk, hP, hD, hS⟩ := iv
  obtain ⟨hzz, hso, hnx, hsx, fq, hZ, hc, ⟨n, hn, hs0, h8, hby⟩, hik⟩ := id fa
  subst hnx
  subst hsx
  have hP : va_P (dC, dI) vwCl ([[(x, .inr (5, [.ref st, .ref kt, .int ik, .ref (tr 0), .ref sc, .ref sh, .ref fo]))], [(st, .inr (4, [.ref (b 0), .ref bk, .ref sp, .int zz]))], wB ct b f, wR ct bk rw (nI (nN f % 12)) (nI (min 12 (nN f))) g, [ai ct sp 10 (fun j => f (5 + j))], [(kt, .inr (4, [.ref (e 0), .ref ek, .ref es, .int z2]))], wB ct e p, wR ct ek ew (nI mx) (nI my) h, [ai ct es 10 (fun j => p (5 + j))], wB ct tr w, [(sc, .inr (2, [.ref ty, .int s0, .int s1, .int s2, .int s3, .int s4]))], [ai ct ty 120 y], wS ct sh q wd sz nm, [ai ct fo 7 (fun j => c (j + 1))], [oM a v], [ai ct (a 1) 210 f], [ai ct (a 2) 210 k], [ai ct (a 3) 210 d], [ai ct (a 4) 8 c], [ai ct (a 5) 120 y], [(a 6, .inl (ct 3, 7, .inr (.inr (.inr (.inr (fun j => some (kS K j)))))))], [ai ct (a 7) 480 it], [ai ct (a 8) 4 wd], [ai ct (a 9) 4 sz], [ai ct (a 10) 160 nm], [ai ct (a 11) 40 mv]]).flatten H := rep_P [_, _, _, _] _ (sp_eq hso) hP
  have hD : va_D A ([[(x, .inr (5, [.ref st, .ref kt, .int ik, .ref (tr 0), .ref sc, .ref sh, .ref fo]))], [(st, .inr (4, [.ref (b 0), .ref bk, .ref sp, .int zz]))], wB ct b f, wR ct bk rw (nI (nN f % 12)) (nI (min 12 (nN f))) g, [ai ct sp 10 (fun j => f (5 + j))], [(kt, .inr (4, [.ref (e 0), .ref ek, .ref es, .int z2]))], wB ct e p, wR ct ek ew (nI mx) (nI my) h, [ai ct es 10 (fun j => p (5 + j))], wB ct tr w, [(sc, .inr (2, [.ref ty, .int s0, .int s1, .int s2, .int s3, .int s4]))], [ai ct ty 120 y], wS ct sh q wd sz nm, [ai ct fo 7 (fun j => c (j + 1))], [oM a v], [ai ct (a 1) 210 f], [ai ct (a 2) 210 k], [ai ct (a 3) 210 d], [ai ct (a 4) 8 c], [ai ct (a 5) 120 y], [(a 6, .inl (ct 3, 7, .inr (.inr (.inr (.inr (fun j => some (kS K j)))))))], [ai ct (a 7) 480 it], [ai ct (a 8) 4 wd], [ai ct (a 9) 4 sz], [ai ct (a 10) 160 nm], [ai ct (a 11) 40 mv]]).flatten := rep_D [_, _, _, _] _ (sp_eq hso) hD
  have fa := fa.so
  refine lv_aload_n F.1 F.2.1 dL_law_1535 rfl (lv_at hl 1 rfl) ?_
  refine lcX5_undo _ _ _ _ _ _ _ _ _ _ _ _ _ _ _ _ _ _ _ _ _ _ _ _ _ _ _ F gL_law_X5_undo hK hP hD hS hA ⟨Nat.le_of_ble_eq_true rfl, Nat.le_of_ble_eq_true rfl⟩ hl.1 (Nat.le_of_ble_eq_true rfl) hcs dL_law_1536 (fun r1 u1 H1 locs1 e1 hP1 hD1 hS1 => ?_)
  refine lv_aload_n F.1 F.2.1 dL_law_1539 rfl (lv_at hl 2 rfl) ?_
  refine lcX6_undo _ _ _ _ _ F gL_law_X6_undo hK hP1 hD1 hS1 hA ⟨Nat.le_of_ble_eq_true rfl, Nat.le_of_ble_eq_true rfl⟩ hl.1 (Nat.le_of_ble_eq_true rfl) hcs dL_law_1540 (fun r2 u2 H2 locs2 e2 hP2 hD2 hS2 => ?_)
  obtain ⟨q1, q2, q3, fa2⟩ := fa.undo fk e1 (show (r2, u2.1, u2.2) = sUndo f k c (v 3) from e2)
  refine lv_icmp_eq (tgt := 1607) F.1 F.2.1 dL_law_1543 (by decide) (fun _ => ?_) (fun hne => absurd q1.symm hne)
  exact kk _ _ (IVk hP2 hD2 hS2 q2 q3 rfl rfl rfl rfl fa2 fk)
set_option maxHeartbeats 4000000 in
set_option maxRecDepth 100000 in
theorem cs_tear (C0 : LX pg m cd s args dC dI ct K A b0 L xs) (hl : lv_has ls 4 [(0, .ref b0), (1, .ref x), (2, .ref (a 0)), (3, .int (nI i))]) (hi : i + 5 < L) (hcs : cells ≤ room_1.cells ∧ slots ≤ room_1.slots) (iv : IV dC dI ct K A s.heap x st kt sc ty sh fo bk ek sp es b e tr rw ew q a H locs) (kk : ∀ (H1 : Heap) (locs1 : List Loc), IV dC dI ct K A s.heap x st kt sc ty sh fo bk ek sp es b e tr rw ew q a H1 locs1 → W pg l en room_1 s m args below meth cd H1 locs1 cells slots Q (F0 m 1607 ls [])) : W pg l en room_1 s m args below meth cd H locs cells slots Q (F0 m 1548 ls []) := by
  obtain ⟨F, hK, hA, hX, hbl, hbA, hz, hE, hL⟩ := C0
  obtain ⟨ik, zz, z2, s0, s1, s2, s3, s4, nx, sx, f, p, w, y, wd, sz, nm, c, g, h, so, v, k, d, it, mv, mx, my, fa, fk, hP, hD, hS⟩ := iv
  obtain ⟨hzz, hso, hnx, hsx, fq, hZ, hc, ⟨n, hn, hs0, h8, hby⟩, hik⟩ := id fa
  refine lv_aload_n F.1 F.2.1 dL_law_1548 rfl (lv_at hl 1 rfl) ?_
  refine lcX5_tear _ _ _ _ _ _ _ _ F gL_law_X5_tear hK hP hD hS hA ⟨Nat.le_of_ble_eq_true rfl, Nat.le_of_ble_eq_true rfl⟩ hl.1 (Nat.le_of_ble_eq_true rfl) hcs dL_law_1549 (fun r1 u1 H1 locs1 e1 hP1 hD1 hS1 => ?_)
  refine lv_aload_n F.1 F.2.1 dL_law_1552 rfl (lv_at hl 2 rfl) ?_
  refine lcX6_tear _ _ F gL_law_X6_tear hK hP1 hD1 hS1 hA ⟨Nat.le_of_ble_eq_true rfl, Nat.le_of_ble_eq_true rfl⟩ hl.1 (Nat.le_of_ble_eq_true rfl) hcs dL_law_1553 (fun r2 u2 H2 locs2 e2 hP2 hD2 hS2 => ?_)
  have e1 : r1 = if ik = 0 then 0 else 1 := e1
  have e2 : r2 = if v 3 = 0 then 0 else 1 := e2
  have q1 : r2 = r1 := by rw [e1, e2, hik]
  refine lv_icmp_eq (tgt := 1607) F.1 F.2.1 dL_law_1556 (by decide) (fun _ => ?_) (fun hne => absurd q1.symm hne)
  exact kk _ _ (IVk hP2 hD2 hS2 rfl rfl rfl rfl rfl rfl (fa.ik 0) (FK.no _ _ _ _ _ _))
set_option maxHeartbeats 4000000 in
set_option maxRecDepth 100000 in
theorem cs_count (C0 : LX pg m cd s args dC dI ct K A b0 L xs) (hl : lv_has ls 4 [(0, .ref b0), (1, .ref x), (2, .ref (a 0)), (3, .int (nI i))]) (hi : i + 5 < L) (hcs : cells ≤ room_1.cells ∧ slots ≤ room_1.slots) (iv : IV dC dI ct K A s.heap x st kt sc ty sh fo bk ek sp es b e tr rw ew q a H locs) (kk : ∀ (H1 : Heap) (locs1 : List Loc), IV dC dI ct K A s.heap x st kt sc ty sh fo bk ek sp es b e tr rw ew q a H1 locs1 → W pg l en room_1 s m args below meth cd H1 locs1 cells slots Q (F0 m 1607 ls [])) : W pg l en room_1 s m args below meth cd H locs cells slots Q (F0 m 1561 ls []) := by
  obtain ⟨F, hK, hA, hX, hbl, hbA, hz, hE, hL⟩ := C0
  obtain ⟨ik, zz, z2, s0, s1, s2, s3, s4, nx, sx, f, p, w, y, wd, sz, nm, c, g, h, so, v, k, d, it, mv, mx, my, fa, fk, hP, hD, hS⟩ := iv
  obtain ⟨hzz, hso, hnx, hsx, fq, hZ, hc, ⟨n, hn, hs0, h8, hby⟩, hik⟩ := id fa
  subst hzz
  subst hs0
  have hP : va_P (dC, dI) vwCl ([[(x, .inr (5, [.ref st, .ref kt, .int ik, .ref (tr 0), .ref sc, .ref sh, .ref fo]))], [(st, .inr (4, [.ref (b 0), .ref bk, .ref sp, .int (f 4)]))], wB ct b f, wR ct bk rw nx sx g, [ai ct sp 10 (fun j => f (5 + j))], [(kt, .inr (4, [.ref (e 0), .ref ek, .ref es, .int z2]))], wB ct e p, wR ct ek ew (nI mx) (nI my) h, [ai ct es 10 (fun j => p (5 + j))], wB ct tr w, [(sc, .inr (2, [.ref ty, .int (nI n), .int s1, .int s2, .int s3, .int s4]))], [ai ct ty 120 y], wS ct sh q wd sz nm, [ai ct fo 7 (fun j => c (j + 1))], [oM a v], [ai ct (a 1) 210 f], [ai ct (a 2) 210 k], [ai ct (a 3) 210 d], [ai ct (a 4) 8 c], [ai ct (a 5) 120 y], [(a 6, .inl (ct 3, 7, .inr (.inr (.inr (.inr (fun j => some (kS K j)))))))], [ai ct (a 7) 480 it], [ai ct (a 8) 4 wd], [ai ct (a 9) 4 sz], [ai ct (a 10) 160 nm], [ai ct (a 11) 40 mv]]).flatten H := rep_P [_, _, _, _] _ (sp_eq hso) hP
  have hD : va_D A ([[(x, .inr (5, [.ref st, .ref kt, .int ik, .ref (tr 0), .ref sc, .ref sh, .ref fo]))], [(st, .inr (4, [.ref (b 0), .ref bk, .ref sp, .int (f 4)]))], wB ct b f, wR ct bk rw nx sx g, [ai ct sp 10 (fun j => f (5 + j))], [(kt, .inr (4, [.ref (e 0), .ref ek, .ref es, .int z2]))], wB ct e p, wR ct ek ew (nI mx) (nI my) h, [ai ct es 10 (fun j => p (5 + j))], wB ct tr w, [(sc, .inr (2, [.ref ty, .int (nI n), .int s1, .int s2, .int s3, .int s4]))], [ai ct ty 120 y], wS ct sh q wd sz nm, [ai ct fo 7 (fun j => c (j + 1))], [oM a v], [ai ct (a 1) 210 f], [ai ct (a 2) 210 k], [ai ct (a 3) 210 d], [ai ct (a 4) 8 c], [ai ct (a 5) 120 y], [(a 6, .inl (ct 3, 7, .inr (.inr (.inr (.inr (fun j => some (kS K j)))))))], [ai ct (a 7) 480 it], [ai ct (a 8) 4 wd], [ai ct (a 9) 4 sz], [ai ct (a 10) 160 nm], [ai ct (a 11) 40 mv]]).flatten := rep_D [_, _, _, _] _ (sp_eq hso) hD
  have fa := fa.so
  refine lv_aload_n F.1 F.2.1 dL_law_1561 rfl (lv_at hl 1 rfl) ?_
  refine sL (q := 1) F.1 F.2.1 hX hbl hbA hS hl (by omega) hL (by decide) dL_law_1562 dL_law_1563 dL_law_1564 dL_law_1565 dL_law_1566 ?_
  refine lcX5_count _ _ _ _ _ _ _ _ _ _ _ _ _ _ _ _ _ _ _ (xs (i + 1)) fq.2.2.2 F gL_law_X5_count hK hP hD hS hA ⟨Nat.le_of_ble_eq_true rfl, Nat.le_of_ble_eq_true rfl⟩ hl.1 (Nat.le_of_ble_eq_true rfl) hcs dL_law_1567 (fun r1 u1 H1 locs1 e1 hP1 hD1 hS1 => ?_)
  refine lv_aload_n F.1 F.2.1 dL_law_1570 rfl (lv_at hl 2 rfl) ?_
  refine sL (q := 1) F.1 F.2.1 hX hbl hbA hS1 hl (by omega) hL (by decide) dL_law_1571 dL_law_1572 dL_law_1573 dL_law_1574 dL_law_1575 ?_
  refine lcX6_count _ _ _ _ (xs (i + 1)) F gL_law_X6_count hK hP1 hD1 hS1 hA ⟨Nat.le_of_ble_eq_true rfl, Nat.le_of_ble_eq_true rfl⟩ hl.1 (Nat.le_of_ble_eq_true rfl) hcs dL_law_1576 (fun r2 u2 H2 locs2 e2 hP2 hD2 hS2 => ?_)
  have e3 : (r1, u1.1, u1.2) = sCount f c (nI n) (xs (i + 1)) := e1
  have e4 : (r2, u2.1, u2.2) = sCount f c (v 8) (xs (i + 1)) := e2
  rw [h8] at e4
  obtain ⟨q1, q2⟩ := Prod.mk.inj (e4.trans e3.symm)
  obtain ⟨q2, q3⟩ := Prod.mk.inj q2
  have ok := ok_count fq.1 c (nI n) (xs (i + 1))
  rw [← e3] at ok
  refine lv_icmp_eq (tgt := 1607) F.1 F.2.1 dL_law_1579 (by decide) (fun _ => ?_) (fun hne => absurd q1.symm hne)
  exact kk _ _ (IVk hP2 hD2 hS2 q2 q3 rfl rfl rfl rfl ((((fa.ok ok.1 ok.2)).z4).so) fk)
set_option maxHeartbeats 4000000 in
set_option maxRecDepth 100000 in
theorem cs_status (C0 : LX pg m cd s args dC dI ct K A b0 L xs) (hl : lv_has ls 4 [(0, .ref b0), (1, .ref x), (2, .ref (a 0)), (3, .int (nI i))]) (hi : i + 5 < L) (hcs : cells ≤ room_1.cells ∧ slots ≤ room_1.slots) (iv : IV dC dI ct K A s.heap x st kt sc ty sh fo bk ek sp es b e tr rw ew q a H locs) (kk : ∀ (H1 : Heap) (locs1 : List Loc), IV dC dI ct K A s.heap x st kt sc ty sh fo bk ek sp es b e tr rw ew q a H1 locs1 → W pg l en room_1 s m args below meth cd H1 locs1 cells slots Q (F0 m 1607 ls [])) : W pg l en room_1 s m args below meth cd H locs cells slots Q (F0 m 1584 ls []) := by
  obtain ⟨F, hK, hA, hX, hbl, hbA, hz, hE, hL⟩ := C0
  obtain ⟨ik, zz, z2, s0, s1, s2, s3, s4, nx, sx, f, p, w, y, wd, sz, nm, c, g, h, so, v, k, d, it, mv, mx, my, fa, fk, hP, hD, hS⟩ := iv
  obtain ⟨hzz, hso, hnx, hsx, fq, hZ, hc, ⟨n, hn, hs0, h8, hby⟩, hik⟩ := id fa
  refine lv_aload_n F.1 F.2.1 dL_law_1584 rfl (lv_at hl 1 rfl) ?_
  refine sL (q := 1) F.1 F.2.1 hX hbl hbA hS hl (by omega) hL (by decide) dL_law_1585 dL_law_1586 dL_law_1587 dL_law_1588 dL_law_1589 ?_
  refine lcX5_status _ _ _ _ _ _ _ _ _ (xs (i + 1)) hc F gL_law_X5_status hK hP hD hS hA ⟨Nat.le_of_ble_eq_true rfl, Nat.le_of_ble_eq_true rfl⟩ hl.1 (Nat.le_of_ble_eq_true rfl) hcs dL_law_1590 (fun r1 u1 H1 locs1 e1 hP1 hD1 hS1 => ?_)
  refine lv_aload_n F.1 F.2.1 dL_law_1593 rfl (lv_at hl 2 rfl) ?_
  refine sL (q := 1) F.1 F.2.1 hX hbl hbA hS1 hl (by omega) hL (by decide) dL_law_1594 dL_law_1595 dL_law_1596 dL_law_1597 dL_law_1598 ?_
  refine lcX6_status _ _ _ (xs (i + 1)) F gL_law_X6_status hK hP1 hD1 hS1 hA ⟨Nat.le_of_ble_eq_true rfl, Nat.le_of_ble_eq_true rfl⟩ hl.1 (Nat.le_of_ble_eq_true rfl) hcs dL_law_1599 (fun r2 u2 H2 locs2 e2 hP2 hD2 hS2 => ?_)
  have e3 : (r1, u1) = sStatus c (xs (i + 1)) := e1
  have e4 : (r2, u2) = sStatus c (xs (i + 1)) := e2
  obtain ⟨q1, q2⟩ := Prod.mk.inj (e4.trans e3.symm)
  have ok := ok_status c (xs (i + 1))
  rw [← e3] at ok
  refine lv_icmp_eq (tgt := 1607) F.1 F.2.1 dL_law_1602 (by decide) (fun _ => ?_) (fun hne => absurd q1.symm hne)
  exact kk _ _ (IVk hP2 hD2 hS2 rfl q2 rfl rfl rfl rfl (fa.c ok hZ) fk)
end LAW4
