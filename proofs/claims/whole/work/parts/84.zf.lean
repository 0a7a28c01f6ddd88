set_option maxHeartbeats 4000000 in
set_option maxRecDepth 100000 in
theorem kJ3_checkIndexN (l : Launch) (dC : Nat → ClassId) (dI : Nat → Nat → Nat) (ct : Nat → ClassId) (j n : Nat) (h : j < n) (hn : n < 2147483648) : MI (S := Unit) l yJ3_checkIndex_8e157 wsJ3_checkIndex_8e157 rmJ3_checkIndex_8e157 dC dI ct eT [.int (nI j), .int (nI n), .null] ([] : va_W) (fun _ => ([] : va_W)) (fun r _ => r = nI j) := by
  refine MI.ofF (cc := cJ3_checkIndex_8e157) (maxL := 3) (ret := (some .int)) (by decide +kernel) rfl (Nat.le_of_ble_eq_true rfl) ?_
  intro pg en z mi below meth cd A F hr hlk hin hK hP hD hA hS hE ls hl
  have F : CallFix pg mi cd cJ3_checkIndex_8e157 3 z _ wsJ3_checkIndex_8e157 RJ3 := F
  have hl : lv_has ls 3 [(0, .int (nI j)), (1, .int (nI n)), (2, .null)] := hl
  refine lv_iload_n F.1 F.2.1 dJ3_checkIndex_8e157_0 rfl (lv_at hl 0 rfl) ?_
  refine lv_if_lt (tgt := 9) F.1 F.2.1 dJ3_checkIndex_8e157_1 (by decide) (fun c_1 => ?_) (fun c_1 => ?_)
  · exact absurd c_1 (nI_pos (by omega))
  · refine lv_iload_n F.1 F.2.1 dJ3_checkIndex_8e157_4 rfl (lv_at hl 0 rfl) ?_
    refine lv_iload_n F.1 F.2.1 dJ3_checkIndex_8e157_5 rfl (lv_at hl 1 rfl) ?_
    refine lv_icmp_lt (tgt := 16) F.1 F.2.1 dJ3_checkIndex_8e157_6 (by decide) (fun c_6 => ?_) (fun c_6 => ?_)
    · refine lv_iload_n F.1 F.2.1 dJ3_checkIndex_8e157_16 rfl (lv_at hl 0 rfl) ?_
      exact rtI () F hr hlk hP hS rfl rfl dJ3_checkIndex_8e157_17
    · exact absurd (nI_lt h hn) c_6

def rmJ0_checkIndex_df160 : Room := { frames := 1, cells := 0, slots := 0, locals := 22 }
theorem nmJ0_checkIndex_df160 : NmV yJ0_checkIndex_df160 RJ0 2 := by unfold NmV; decide +kernel
set_option maxHeartbeats 4000000 in
set_option maxRecDepth 100000 in
theorem kJ0_checkIndex_df160 (l : Launch) (dC : Nat → ClassId) (dI : Nat → Nat → Nat) (ct : Nat → ClassId) (K : Nat → Nat) (rf : List (String × Nat × String × Nat)) (j n : Nat) (h : j < n) (hn : n < 2147483648) : MV (S := Unit) l yJ0_checkIndex_df160 wsJ0_checkIndex_df160 rmJ0_checkIndex_df160 dC dI ct (EQ K ct rf []) [.int (nI j), .int (nI n)] ([] : va_W) (fun _ => ([] : va_W)) (fun _ => True) := by
  refine MV.ofFz (cc := cJ0_checkIndex_df160) (maxL := 2) (ret := none) (by decide +kernel) rfl (Nat.le_of_ble_eq_true rfl) ?_
  intro pg en z mi below meth cd A F hr hlk hin hK hP hD hA hS hAz hE ls hl
  have hz := EQ_z (pre := ([] : va_W)) (show EQ K ct rf (List.map Prod.fst ([] : va_W)) z from hE) hAz
  have F : CallFix pg mi cd cJ0_checkIndex_df160 2 z _ wsJ0_checkIndex_df160 RJ0 := F
  have hl : lv_has ls 2 [(0, .int (nI j)), (1, .int (nI n))] := hl
  refine lv_iload_n F.1 F.2.1 dJ0_checkIndex_df160_0 rfl (lv_at hl 0 rfl) ?_
  refine lv_iload_n F.1 F.2.1 dJ0_checkIndex_df160_1 rfl (lv_at hl 1 rfl) ?_
  rcases hE.2.2.1.2.2.2.1 with hq | ⟨t, hq⟩
  · refine gsZ F hq hz hS (List.mem_of_getElem? (i := 1) rfl) rfl dJ0_checkIndex_df160_2 ?_
    refine iS (rest := []) (wsp := fun _ => ([] : va_W)) F (kJ3_checkIndexN l dC dI ct j n h (by omega)) gJ0_checkIndex_df160_J3_checkIndex_8e157 rfl ⟨rfl, rfl⟩ nmJ3_checkIndex_8e157 ⟨Nat.le_of_ble_eq_true rfl, Nat.le_of_ble_eq_true rfl⟩ eT_b (fun _ _ _ => trivial) hK hP hD hS hA [] (by decide) rfl rfl rfl hl.1 (Nat.le_of_ble_eq_true rfl) dJ0_checkIndex_df160_5 ⟨Nat.zero_le _, Nat.zero_le _⟩ (fun _ => rfl) (fun _ => rfl) [] rfl (fun _ => rfl) (fun r_5 u_5 H locs e_5 hP hD hS => ?_)
    obtain rfl := e_5
    refine lv_pop F.1 F.2.1 dJ0_checkIndex_df160_8 rfl ?_
    exact rtV () F hr hlk hP hS rfl trivial dJ0_checkIndex_df160_9
  · refine gsZ F hq hz hS (List.mem_of_getElem? (i := 1) rfl) rfl dJ0_checkIndex_df160_2 ?_
    refine iS (rest := []) (wsp := fun _ => ([] : va_W)) F (kJ3_checkIndex_8e157 l dC dI ct j n t h (by omega)) gJ0_checkIndex_df160_J3_checkIndex_8e157 rfl ⟨rfl, rfl⟩ nmJ3_checkIndex_8e157 ⟨Nat.le_of_ble_eq_true rfl, Nat.le_of_ble_eq_true rfl⟩ eT_b (fun _ _ _ => trivial) hK hP hD hS hA [] (by decide) rfl rfl rfl hl.1 (Nat.le_of_ble_eq_true rfl) dJ0_checkIndex_df160_5 ⟨Nat.zero_le _, Nat.zero_le _⟩ (fun _ => rfl) (fun _ => rfl) [] rfl (fun _ => rfl) (fun r_5 u_5 H locs e_5 hP hD hS => ?_)
    obtain rfl := e_5
    refine lv_pop F.1 F.2.1 dJ0_checkIndex_df160_8 rfl ?_
    exact rtV () F hr hlk hP hS rfl trivial dJ0_checkIndex_df160_9

def rmJ1_charAt_3b067 : Room := { frames := 2, cells := 0, slots := 0, locals := 43 }
theorem nmJ1_charAt_3b067 : NmV yJ1_charAt_3b067 RJ1 2 := by unfold NmV; decide +kernel
set_option maxHeartbeats 4000000 in
set_option maxRecDepth 100000 in
theorem kJ1_charAt_3b067 (l : Launch) (dC : Nat → ClassId) (dI : Nat → Nat → Nat) (ct : Nat → ClassId) (K : Nat → Nat) (rf : List (String × Nat × String × Nat)) (i k : Nat) (hi : i < 14) (hk : k < lnS i) : MI (S := Unit) l yJ1_charAt_3b067 wsJ1_charAt_3b067 rmJ1_charAt_3b067 dC dI ct (EQ K ct rf []) [.ref (btS K i), .int (nI k)] ([] : va_W) (fun _ => ([] : va_W)) (fun r _ => r = chS i k) := by
  refine MI.ofFz (cc := cJ1_charAt_3b067) (maxL := 2) (ret := (some .char)) (by decide +kernel) rfl (Nat.le_of_ble_eq_true rfl) ?_
  intro pg en z mi below meth cd A F hr hlk hin hK hP hD hA hS hAz hE ls hl
  have hz := EQ_z (pre := ([] : va_W)) (show EQ K ct rf (List.map Prod.fst ([] : va_W)) z from hE) hAz
  have F : CallFix pg mi cd cJ1_charAt_3b067 2 z _ wsJ1_charAt_3b067 RJ1 := F
  have hl : lv_has ls 2 [(0, .ref (btS K i)), (1, .int (nI k))] := hl
  have hl5 := lnS_lt i hi
  refine lv_iload_n F.1 F.2.1 dJ1_charAt_3b067_0 rfl (lv_at hl 1 rfl) ?_
  refine lv_aload_n F.1 F.2.1 dJ1_charAt_3b067_1 rfl (lv_at hl 0 rfl) ?_
  refine va_tlen F.1 F.2.1 ((hE.2.2.1.2.2.2.2 i hi).2.2.2.narrow hz) hS (v := nI (lnS i)) rfl dJ1_charAt_3b067_2 ?_
  refine vS (rest := []) (wsp := fun _ => ([] : va_W)) F (kJ0_checkIndex_df160 l dC dI ct K rf k (lnS i) hk (by omega)) gJ1_charAt_3b067_J0_checkIndex_df160 rfl ⟨rfl, rfl⟩ nmJ0_checkIndex_df160 ⟨Nat.le_of_ble_eq_true rfl, Nat.le_of_ble_eq_true rfl⟩ EQ_b (EQ_call hE hS hz [] rfl) hK hP hD hS hA [] (by decide) rfl rfl rfl hl.1 (Nat.le_of_ble_eq_true rfl) dJ1_charAt_3b067_3 ⟨Nat.zero_le _, Nat.zero_le _⟩ (fun _ => rfl) (fun _ => rfl) [] rfl (fun _ => rfl) (fun u_3 H locs e_3 hP hD hS => ?_)
  refine lv_aload_n F.1 F.2.1 dJ1_charAt_3b067_6 rfl (lv_at hl 0 rfl) ?_
  refine lv_iload_n F.1 F.2.1 dJ1_charAt_3b067_7 rfl (lv_at hl 1 rfl) ?_
  refine va_tb F.1 F.2.1 ((hE.2.2.1.2.2.2.2 i hi).2.2.2.narrow hz) hS (i := nI k) (vp_in_nI hk (by have := lnS_lt i hi; omega)) (v := .int (chS i k)) (by rw [nI_clamp (by have := lnS_lt i hi; omega)]) dJ1_charAt_3b067_8 ?_
  refine lv_sipush (v := 255) F.1 F.2.1 dJ1_charAt_3b067_9 (by decide) ?_
  refine lv_iand F.1 F.2.1 dJ1_charAt_3b067_12 ?_
  refine tp (y := chS i k) ((chS_ok i hi k hk).2.1) ?_
  refine lv_i2c F.1 F.2.1 dJ1_charAt_3b067_13 rfl ?_
  refine tp (y := chS i k) (chS_ch i hi k hk) ?_
  exact rtN F hr (chS_ok i hi k hk).2.2 hlk hP hS rfl dJ1_charAt_3b067_14

def rmJ0_charAt_5068e : Room := { frames := 3, cells := 0, slots := 0, locals := 64 }
theorem nmJ0_charAt_5068e : NmV yJ0_charAt_5068e RJ0 1 := by unfold NmV; decide +kernel
set_option maxHeartbeats 4000000 in
set_option maxRecDepth 100000 in
theorem kJ0_charAt_5068e (l : Launch) (dC : Nat → ClassId) (dI : Nat → Nat → Nat) (ct : Nat → ClassId) (K : Nat → Nat) (rf : List (String × Nat × String × Nat)) (i k : Nat) (hi : i < 14) (hk : k < lnS i) : MI (S := Unit) l yJ0_charAt_5068e wsJ0_charAt_5068e rmJ0_charAt_5068e dC dI ct (EQ K ct rf []) [.ref (kS K i), .int (nI k)] ([] : va_W) (fun _ => ([] : va_W)) (fun r _ => r = chS i k) := by
  refine MI.ofFz (cc := cJ0_charAt_5068e) (maxL := 2) (ret := (some .char)) (by decide +kernel) rfl (Nat.le_of_ble_eq_true rfl) ?_
  intro pg en z mi below meth cd A F hr hlk hin hK hP hD hA hS hAz hE ls hl
  have hz := EQ_z (pre := ([] : va_W)) (show EQ K ct rf (List.map Prod.fst ([] : va_W)) z from hE) hAz
  have F : CallFix pg mi cd cJ0_charAt_5068e 2 z _ wsJ0_charAt_5068e RJ0 := F
  have hl : lv_has ls 2 [(0, .ref (kS K i)), (1, .int (nI k))] := hl
  refine lv_aload_n F.1 F.2.1 dJ0_charAt_5068e_0 rfl (lv_at hl 0 rfl) ?_
  refine iVk (ws := ([] : va_W)) (rest := []) F (kJ0_isLatin1_aae02 l dC dI ct K rf i hi) gJ0_charAt_5068e_J0_isLatin1_aae02 rfl ⟨rfl, rfl⟩ nmJ0_isLatin1_aae02 ⟨Nat.le_of_ble_eq_true rfl, Nat.le_of_ble_eq_true rfl⟩ EQ_b (EQ_call hE hS hz [] rfl) hK hP hD hS hA (rcv (hE.2.2.1.2.2.2.2 i hi).1 hz hS) rfl rfl hl.1 (Nat.le_of_ble_eq_true rfl) dJ0_charAt_5068e_1 ⟨Nat.zero_le _, Nat.zero_le _⟩ [] rfl (fun r_1 H locs e_1 hP hD hS => ?_)
  obtain rfl := e_1
  refine lv_if_eq (tgt := 16) F.1 F.2.1 dJ0_charAt_5068e_4 (by decide) (fun c_4 => ?_) (fun c_4 => ?_)
  · exact absurd c_4 (by decide)
  · refine lv_aload_n F.1 F.2.1 dJ0_charAt_5068e_7 rfl (lv_at hl 0 rfl) ?_
    refine vk_getf F.1 F.2.1 ((hE.2.2.1.2.2.2.2 i hi).2.2.1.narrow hz) hS F.2.2.2.1 (F.2.2.2.2 _ (List.mem_of_getElem? (i := 1) rfl)) (fun _ h => h) dJ0_charAt_5068e_8 ?_
    refine lv_iload_n F.1 F.2.1 dJ0_charAt_5068e_11 rfl (lv_at hl 1 rfl) ?_
    refine iS (rest := []) (wsp := fun _ => ([] : va_W)) F (kJ1_charAt_3b067 l dC dI ct K rf i k hi hk) gJ0_charAt_5068e_J1_charAt_3b067 rfl ⟨rfl, rfl⟩ nmJ1_charAt_3b067 ⟨Nat.le_of_ble_eq_true rfl, Nat.le_of_ble_eq_true rfl⟩ EQ_b (EQ_call hE hS hz [] rfl) hK hP hD hS hA [] (by decide) rfl rfl rfl hl.1 (Nat.le_of_ble_eq_true rfl) dJ0_charAt_5068e_12 ⟨Nat.zero_le _, Nat.zero_le _⟩ (fun _ => rfl) (fun _ => rfl) [] rfl (fun _ => rfl) (fun r_12 u_12 H locs e_12 hP hD hS => ?_)
    obtain rfl := e_12
    exact rtN F hr (chS_ok i hi k hk).2.2 hlk hP hS rfl dJ0_charAt_5068e_15
