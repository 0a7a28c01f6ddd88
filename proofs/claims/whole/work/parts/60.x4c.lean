def spU (f : Nat → Int32) : Nat → Nat
  | 0 => 0
  | k + 1 => if f (5 + k) = -1 then spU f k else spU f k + 1
def rmX4_draw : Room := { frames := 0, cells := 0, slots := 0, locals := 0 }
theorem nmX4_draw : NmV yX4_draw RX4 0 := by unfold NmV; decide +kernel
theorem hiX4_draw_4 : ∀ w ∈ u_ws RX4 TX4 4, w ∈ wsX4_draw := by decide +kernel
set_option maxHeartbeats 4000000 in
set_option maxRecDepth 100000 in
theorem kX4_draw (l : Launch) (dC : Nat → ClassId) (dI : Nat → Nat → Nat) (ct : Nat → ClassId) (st bk sp : Nat) (b : Nat → Nat) (zz : Int32) : MI (S := Unit) l yX4_draw wsX4_draw rmX4_draw dC dI ct eT [.ref st] ([(st, .inr (4, [.ref (b 0), .ref bk, .ref sp, .int zz]))]) (fun _ => [(st, .inr (4, [.ref (b 0), .ref bk, .ref sp, .int (zz * 1103515245 + 12345)]))]) (fun r _ => r = ((zz * 1103515245 + 12345).toUInt32 >>> ((8 : Int32).toUInt32 &&& Int32.toUInt32 31)).toInt32) := by
  refine MI.of (cc := cX4_draw) (maxL := 1) (ret := (some .int)) (by decide) rfl (Nat.le_of_ble_eq_true rfl) ?_
  intro pg en z mi below meth cd A F hr hlk hin hK hP hD hA hS hE ls hl
  have F : CallFix pg mi cd cX4_draw 1 z _ wsX4_draw RX4 := F
  have hl : lv_has ls 1 [(0, .ref st)] := hl
  refine lv_aload_n F.1 F.2.1 dX4_draw_0 rfl (lv_at hl 0 rfl) ?_
  refine lv_aload_n F.1 F.2.1 dX4_draw_1 rfl (lv_at hl 0 rfl) ?_
  refine gf F hK hP 0 rfl rfl hiX4_draw_4 3 (by decide) (List.mem_of_getElem? (i := 1) rfl) rfl dX4_draw_2 ?_
  refine lv_ldc (v := (1103515245)) F.1 F.2.1 F.2.2.2.1 (F.2.2.2.2 _ (List.mem_of_getElem? (i := 2) rfl)) dX4_draw_5 ?_
  refine lv_imul F.1 F.2.1 dX4_draw_7 ?_
  refine lv_sipush (v := 12345) F.1 F.2.1 dX4_draw_8 (by decide) ?_
  refine lv_iadd F.1 F.2.1 dX4_draw_11 ?_
  refine pf (ws' := [(st, .inr (4, [.ref (b 0), .ref bk, .ref sp, .int ((zz * (1103515245)) + 12345)]))]) F hK hP hD hS 0 rfl rfl hiX4_draw_4 tyX4 tyX4_ok nmX4 3 (by decide) (List.mem_of_getElem? (i := 1) rfl) rfl rfl rfl (Nat.le_of_ble_eq_true rfl) dX4_draw_12 (weq.rf _) (fun H locs hP hD hS => ?_)
  refine lv_aload_n F.1 F.2.1 dX4_draw_15 rfl (lv_at hl 0 rfl) ?_
  refine gf F hK hP 0 rfl rfl hiX4_draw_4 3 (by decide) (List.mem_of_getElem? (i := 1) rfl) rfl dX4_draw_16 ?_
  refine lv_bipush (v := 8) F.1 F.2.1 dX4_draw_19 (by decide) ?_
  refine lv_iushr F.1 F.2.1 dX4_draw_21 rfl ?_
  exact rtI () F hr hlk hP hS rfl rfl dX4_draw_22

def rmX4_spotsInUse : Room := { frames := 0, cells := 0, slots := 0, locals := 0 }
theorem nmX4_spotsInUse : NmV yX4_spotsInUse RX4 0 := by unfold NmV; decide +kernel
theorem hiX4_spotsInUse_4 : ∀ w ∈ u_ws RX4 TX4 4, w ∈ wsX4_spotsInUse := by decide +kernel
set_option maxHeartbeats 4000000 in
set_option maxRecDepth 100000 in
theorem kX4_spotsInUse (l : Launch) (dC : Nat → ClassId) (dI : Nat → Nat → Nat) (ct : Nat → ClassId) (st bk sp : Nat) (b : Nat → Nat) (zz : Int32) (f : Nat → Int32) : MI (S := Unit) l yX4_spotsInUse wsX4_spotsInUse rmX4_spotsInUse dC dI ct eT [.ref st] ((st, .inr (4, [.ref (b 0), .ref bk, .ref sp, .int zz])) :: [ai ct sp 10 (fun j => f (5 + j))]) (fun _ => (st, .inr (4, [.ref (b 0), .ref bk, .ref sp, .int zz])) :: [ai ct sp 10 (fun j => f (5 + j))]) (fun r _ => r = nI (spU f 10)) := by
  refine MI.of (cc := cX4_spotsInUse) (maxL := 3) (ret := (some .int)) (by decide) rfl (Nat.le_of_ble_eq_true rfl) ?_
  intro pg en z mi below meth cd A F hr hlk hin hK hP hD hA hS hE ls hl
  have F : CallFix pg mi cd cX4_spotsInUse 3 z _ wsX4_spotsInUse RX4 := F
  have hl : lv_has ls 3 [(0, .ref st)] := hl
  refine lv_iconst (v := 0) F.1 F.2.1 dX4_spotsInUse_0 (by decide) ?_
  refine lv_istore_n (lv' := [(1, .int 0), (0, .ref st)]) F.1 F.2.1 dX4_spotsInUse_1 rfl hl (by decide) rfl (fun ls hl => ?_)
  refine lv_iconst (v := 0) F.1 F.2.1 dX4_spotsInUse_2 (by decide) ?_
  refine lv_istore_n (lv' := [(2, .int 0), (1, .int 0), (0, .ref st)]) F.1 F.2.1 dX4_spotsInUse_3 rfl hl (by decide) rfl (fun ls hl => ?_)
  refine loopN (I := fun k H locs ls => va_P (dC, dI) vwCl ((st, .inr (4, [.ref (b 0), .ref bk, .ref sp, .int zz])) :: [ai ct sp 10 (fun j => f (5 + j))]) H ∧ va_D A ((st, .inr (4, [.ref (b 0), .ref bk, .ref sp, .int zz])) :: [ai ct sp 10 (fun j => f (5 + j))]) ∧ va_S A z.heap H locs ∧ lv_has ls 3 [(2, .int (nI k)), (1, .int (nI (spU f k))), (0, .ref st)]) 10 0 (by omega) ⟨hP, hD, hS, lv_sub hl [0, 1, 2] rfl⟩ (fun H locs ls hI => ?_) (fun k hk_k H locs ls hI ih_4 => ?_)
  · obtain ⟨hP, hD, hS, hl⟩ := hI
    refine lv_iload_n F.1 F.2.1 dX4_spotsInUse_4 rfl (lv_at hl 0 rfl) ?_
    refine lv_bipush (v := 10) F.1 F.2.1 dX4_spotsInUse_5 (by decide) ?_
    refine lv_icmp_ge (tgt := 29) F.1 F.2.1 dX4_spotsInUse_7 (by decide) (fun c_7 => ?_) (fun c_7 => ?_)
    · refine lv_iload_n F.1 F.2.1 dX4_spotsInUse_29 rfl (lv_at hl 1 rfl) ?_
      exact rtI () F hr hlk hP hS rfl (by simp [c_7, Int32.not_lt.mpr c_7]) dX4_spotsInUse_30
    · exact absurd (nI_le (Nat.le_refl _) (by decide)) c_7
  · obtain ⟨hP, hD, hS, hl⟩ := hI
    refine lv_iload_n F.1 F.2.1 dX4_spotsInUse_4 rfl (lv_at hl 0 rfl) ?_
    refine lv_bipush (v := 10) F.1 F.2.1 dX4_spotsInUse_5 (by decide) ?_
    refine lv_icmp_ge (tgt := 29) F.1 F.2.1 dX4_spotsInUse_7 (by decide) (fun c_7 => ?_) (fun c_7 => ?_)
    · exact absurd c_7 (nI_ge hk_k (by decide))
    · refine lv_aload_n F.1 F.2.1 dX4_spotsInUse_10 rfl (lv_at hl 2 rfl) ?_
      refine gf F hK hP 0 rfl rfl hiX4_spotsInUse_4 2 (by decide) (List.mem_of_getElem? (i := 1) rfl) rfl dX4_spotsInUse_11 ?_
      refine lv_iload_n F.1 F.2.1 dX4_spotsInUse_14 rfl (lv_at hl 0 rfl) ?_
      refine al (v := (fun j => f (5 + j)) k) F hK hP 1 0 rfl rfl k rfl (by omega) (by decide) rfl dX4_spotsInUse_15 ?_
      refine lv_iconst (v := (-1)) F.1 F.2.1 dX4_spotsInUse_16 (by decide) ?_
      refine lv_icmp_eq (tgt := 23) F.1 F.2.1 dX4_spotsInUse_17 (by decide) (fun c_17 => ?_) (fun c_17 => ?_)
      · refine lv_iinc (v := nI (k + 1)) (lv' := [(2, .int (nI (k + 1))), (1, .int (nI (spU f k))), (0, .ref st)]) F.1 F.2.1 dX4_spotsInUse_23 hl (k := 0) rfl (by rw [show Int32.ofInt 1 = nI 1 from rfl, nI_add]) (by decide) rfl (fun ls hl => ?_)
        refine lv_goto (tgt := 4) F.1 F.2.1 dX4_spotsInUse_26 (by decide) ?_
        have eb : spU f (k + 1) = spU f k := if_pos c_17
        exact ih_4 _ _ _ ⟨hP, hD, hS, lv_sub hl [0, 1, 2] (by rw [eb]; rfl)⟩
      · refine lv_iinc (v := nI (spU f k + 1)) (lv' := [(1, .int (nI (spU f k + 1))), (2, .int (nI k)), (0, .ref st)]) F.1 F.2.1 dX4_spotsInUse_20 hl (k := 1) rfl (by rw [show Int32.ofInt 1 = nI 1 from rfl, nI_add]) (by decide) rfl (fun ls hl => ?_)
        refine lv_iinc (v := nI (k + 1)) (lv' := [(2, .int (nI (k + 1))), (1, .int (nI (spU f k + 1))), (0, .ref st)]) F.1 F.2.1 dX4_spotsInUse_23 hl (k := 1) rfl (by rw [show Int32.ofInt 1 = nI 1 from rfl, nI_add]) (by decide) rfl (fun ls hl => ?_)
        refine lv_goto (tgt := 4) F.1 F.2.1 dX4_spotsInUse_26 (by decide) ?_
        have eb : spU f (k + 1) = spU f k + 1 := if_neg c_17
        exact ih_4 _ _ _ ⟨hP, hD, hS, lv_sub hl [0, 1, 2] (by rw [eb]; rfl)⟩
