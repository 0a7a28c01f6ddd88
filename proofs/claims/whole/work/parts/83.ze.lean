def rmJ0_coder_7d493 : Room := { frames := 0, cells := 0, slots := 0, locals := 0 }
theorem nmJ0_coder_7d493 : NmV yJ0_coder_7d493 RJ0 0 := by unfold NmV; decide +kernel
set_option maxHeartbeats 4000000 in
set_option maxRecDepth 100000 in
theorem kJ0_coder_7d493 (l : Launch) (dC : Nat → ClassId) (dI : Nat → Nat → Nat) (ct : Nat → ClassId) (K : Nat → Nat) (rf : List (String × Nat × String × Nat)) (i : Nat) (hi : i < 14) : MI (S := Unit) l yJ0_coder_7d493 wsJ0_coder_7d493 rmJ0_coder_7d493 dC dI ct (EQ K ct rf []) [.ref (kS K i)] ([] : va_W) (fun _ => ([] : va_W)) (fun r _ => r = 0) := by
  refine MI.ofFz (cc := cJ0_coder_7d493) (maxL := 1) (ret := (some .byte)) (by decide +kernel) rfl (Nat.le_of_ble_eq_true rfl) ?_
  intro pg en z mi below meth cd A F hr hlk hin hK hP hD hA hS hAz hE ls hl
  have hz := EQ_z (pre := ([] : va_W)) (show EQ K ct rf (List.map Prod.fst ([] : va_W)) z from hE) hAz
  have F : CallFix pg mi cd cJ0_coder_7d493 1 z _ wsJ0_coder_7d493 RJ0 := F
  have hl : lv_has ls 1 [(0, .ref (kS K i))] := hl
  refine gsZ F hE.2.2.1.2.2.1 hz hS (List.mem_of_getElem? (i := 1) rfl) rfl dJ0_coder_7d493_0 ?_
  refine lv_if_eq (tgt := 13) F.1 F.2.1 dJ0_coder_7d493_3 (by decide) (fun c_3 => ?_) (fun c_3 => ?_)
  · exact absurd c_3 (by decide)
  · refine lv_aload_n F.1 F.2.1 dJ0_coder_7d493_6 rfl (lv_at hl 0 rfl) ?_
    refine vk_getf F.1 F.2.1 ((hE.2.2.1.2.2.2.2 i hi).2.1.narrow hz) hS F.2.2.2.1 (F.2.2.2.2 _ (List.mem_of_getElem? (i := 2) rfl)) (fun _ h => h) dJ0_coder_7d493_7 ?_
    refine lv_goto (tgt := 14) F.1 F.2.1 dJ0_coder_7d493_10 (by decide) ?_
    exact rtN F hr rfl hlk hP hS rfl dJ0_coder_7d493_14

def rmJ0_isLatin1_aae02 : Room := { frames := 0, cells := 0, slots := 0, locals := 0 }
theorem nmJ0_isLatin1_aae02 : NmV yJ0_isLatin1_aae02 RJ0 0 := by unfold NmV; decide +kernel
set_option maxHeartbeats 4000000 in
set_option maxRecDepth 100000 in
theorem kJ0_isLatin1_aae02 (l : Launch) (dC : Nat → ClassId) (dI : Nat → Nat → Nat) (ct : Nat → ClassId) (K : Nat → Nat) (rf : List (String × Nat × String × Nat)) (i : Nat) (hi : i < 14) : MI (S := Unit) l yJ0_isLatin1_aae02 wsJ0_isLatin1_aae02 rmJ0_isLatin1_aae02 dC dI ct (EQ K ct rf []) [.ref (kS K i)] ([] : va_W) (fun _ => ([] : va_W)) (fun r _ => r = 1) := by
  refine MI.ofFz (cc := cJ0_isLatin1_aae02) (maxL := 1) (ret := (some .boolean)) (by decide +kernel) rfl (Nat.le_of_ble_eq_true rfl) ?_
  intro pg en z mi below meth cd A F hr hlk hin hK hP hD hA hS hAz hE ls hl
  have hz := EQ_z (pre := ([] : va_W)) (show EQ K ct rf (List.map Prod.fst ([] : va_W)) z from hE) hAz
  have F : CallFix pg mi cd cJ0_isLatin1_aae02 1 z _ wsJ0_isLatin1_aae02 RJ0 := F
  have hl : lv_has ls 1 [(0, .ref (kS K i))] := hl
  refine gsZ F hE.2.2.1.2.2.1 hz hS (List.mem_of_getElem? (i := 1) rfl) rfl dJ0_isLatin1_aae02_0 ?_
  refine lv_if_eq (tgt := 17) F.1 F.2.1 dJ0_isLatin1_aae02_3 (by decide) (fun c_3 => ?_) (fun c_3 => ?_)
  · exact absurd c_3 (by decide)
  · refine lv_aload_n F.1 F.2.1 dJ0_isLatin1_aae02_6 rfl (lv_at hl 0 rfl) ?_
    refine vk_getf F.1 F.2.1 ((hE.2.2.1.2.2.2.2 i hi).2.1.narrow hz) hS F.2.2.2.1 (F.2.2.2.2 _ (List.mem_of_getElem? (i := 2) rfl)) (fun _ h => h) dJ0_isLatin1_aae02_7 ?_
    refine lv_if_ne (tgt := 17) F.1 F.2.1 dJ0_isLatin1_aae02_10 (by decide) (fun c_10 => ?_) (fun c_10 => ?_)
    · exact absurd rfl c_10
    · refine lv_iconst (v := 1) F.1 F.2.1 dJ0_isLatin1_aae02_13 (by decide) ?_
      refine lv_goto (tgt := 18) F.1 F.2.1 dJ0_isLatin1_aae02_14 (by decide) ?_
      exact rtZ () F hr hlk hP hS rfl rfl (Or.inr rfl) dJ0_isLatin1_aae02_18

def rmJ0_length_8abf5 : Room := { frames := 1, cells := 0, slots := 0, locals := 20 }
theorem nmJ0_length_8abf5 : NmV yJ0_length_8abf5 RJ0 0 := by unfold NmV; decide +kernel
set_option maxHeartbeats 4000000 in
set_option maxRecDepth 100000 in
theorem kJ0_length_8abf5 (l : Launch) (dC : Nat → ClassId) (dI : Nat → Nat → Nat) (ct : Nat → ClassId) (K : Nat → Nat) (rf : List (String × Nat × String × Nat)) (i : Nat) (hi : i < 14) : MI (S := Unit) l yJ0_length_8abf5 wsJ0_length_8abf5 rmJ0_length_8abf5 dC dI ct (EQ K ct rf []) [.ref (kS K i)] ([] : va_W) (fun _ => ([] : va_W)) (fun r _ => r = nI (lnS i)) := by
  refine MI.ofFz (cc := cJ0_length_8abf5) (maxL := 1) (ret := (some .int)) (by decide +kernel) rfl (Nat.le_of_ble_eq_true rfl) ?_
  intro pg en z mi below meth cd A F hr hlk hin hK hP hD hA hS hAz hE ls hl
  have hz := EQ_z (pre := ([] : va_W)) (show EQ K ct rf (List.map Prod.fst ([] : va_W)) z from hE) hAz
  have F : CallFix pg mi cd cJ0_length_8abf5 1 z _ wsJ0_length_8abf5 RJ0 := F
  have hl : lv_has ls 1 [(0, .ref (kS K i))] := hl
  refine lv_aload_n F.1 F.2.1 dJ0_length_8abf5_0 rfl (lv_at hl 0 rfl) ?_
  refine vk_getf F.1 F.2.1 ((hE.2.2.1.2.2.2.2 i hi).2.2.1.narrow hz) hS F.2.2.2.1 (F.2.2.2.2 _ (List.mem_of_getElem? (i := 1) rfl)) (fun _ h => h) dJ0_length_8abf5_1 ?_
  refine va_tlen F.1 F.2.1 ((hE.2.2.1.2.2.2.2 i hi).2.2.2.narrow hz) hS (v := nI (lnS i)) rfl dJ0_length_8abf5_4 ?_
  refine lv_aload_n F.1 F.2.1 dJ0_length_8abf5_5 rfl (lv_at hl 0 rfl) ?_
  refine iVk (ws := ([] : va_W)) (rest := [.int (nI (lnS i))]) F (kJ0_coder_7d493 l dC dI ct K rf i hi) gJ0_length_8abf5_J0_coder_7d493 rfl ⟨rfl, rfl⟩ nmJ0_coder_7d493 ⟨Nat.le_of_ble_eq_true rfl, Nat.le_of_ble_eq_true rfl⟩ EQ_b (EQ_call hE hS hz [] rfl) hK hP hD hS hA (rcv (hE.2.2.1.2.2.2.2 i hi).1 hz hS) rfl rfl hl.1 (Nat.le_of_ble_eq_true rfl) dJ0_length_8abf5_6 ⟨Nat.zero_le _, Nat.zero_le _⟩ [] rfl (fun r_6 H locs e_6 hP hD hS => ?_)
  obtain rfl := e_6
  refine lv_ishr F.1 F.2.1 dJ0_length_8abf5_9 ?_
  refine tp (y := nI (lnS i)) ((pk_shrN (by have := lnS_lt i hi; omega) (0 &&& 31) 0 (by decide)).trans (congrArg nI (by omega))) ?_
  exact rtI () F hr hlk hP hS rfl rfl dJ0_length_8abf5_10

def rmJ3_checkIndex_8e157 : Room := { frames := 0, cells := 0, slots := 0, locals := 0 }
theorem nmJ3_checkIndex_8e157 : NmV yJ3_checkIndex_8e157 RJ3 3 := by unfold NmV; decide +kernel
set_option maxHeartbeats 4000000 in
set_option maxRecDepth 100000 in
theorem kJ3_checkIndex_8e157 (l : Launch) (dC : Nat → ClassId) (dI : Nat → Nat → Nat) (ct : Nat → ClassId) (j n : Nat) (t : Nat) (h : j < n) (hn : n < 2147483648) : MI (S := Unit) l yJ3_checkIndex_8e157 wsJ3_checkIndex_8e157 rmJ3_checkIndex_8e157 dC dI ct eT [.int (nI j), .int (nI n), .ref t] ([] : va_W) (fun _ => ([] : va_W)) (fun r _ => r = nI j) := by
  refine MI.ofF (cc := cJ3_checkIndex_8e157) (maxL := 3) (ret := (some .int)) (by decide +kernel) rfl (Nat.le_of_ble_eq_true rfl) ?_
  intro pg en z mi below meth cd A F hr hlk hin hK hP hD hA hS hE ls hl
  have F : CallFix pg mi cd cJ3_checkIndex_8e157 3 z _ wsJ3_checkIndex_8e157 RJ3 := F
  have hl : lv_has ls 3 [(0, .int (nI j)), (1, .int (nI n)), (2, .ref t)] := hl
  refine lv_iload_n F.1 F.2.1 dJ3_checkIndex_8e157_0 rfl (lv_at hl 0 rfl) ?_
  refine lv_if_lt (tgt := 9) F.1 F.2.1 dJ3_checkIndex_8e157_1 (by decide) (fun c_1 => ?_) (fun c_1 => ?_)
  · exact absurd c_1 (nI_pos (by omega))
  · refine lv_iload_n F.1 F.2.1 dJ3_checkIndex_8e157_4 rfl (lv_at hl 0 rfl) ?_
    refine lv_iload_n F.1 F.2.1 dJ3_checkIndex_8e157_5 rfl (lv_at hl 1 rfl) ?_
    refine lv_icmp_lt (tgt := 16) F.1 F.2.1 dJ3_checkIndex_8e157_6 (by decide) (fun c_6 => ?_) (fun c_6 => ?_)
    · refine lv_iload_n F.1 F.2.1 dJ3_checkIndex_8e157_16 rfl (lv_at hl 0 rfl) ?_
      exact rtI () F hr hlk hP hS rfl rfl dJ3_checkIndex_8e157_17
    · exact absurd (nI_lt h hn) c_6
