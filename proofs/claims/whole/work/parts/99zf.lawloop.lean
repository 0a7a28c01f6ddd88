/-! ===== the loop of the law ===== -/
section LAW5
variable {pg : Program} {l : Launch} {en : Env} {s : State} {m : MethodId} {below : List Frame} {meth : Method} {cd : Code} {H : Heap} {locs : List Loc} {cells slots : Nat} {Q : State → Prop} {ls : Array Slot} {dC : Nat → ClassId} {dI : Nat → Nat → Nat} {ct : Nat → ClassId} {K : Nat → Nat} {b0 L : Nat} {xs : Nat → Int32} {x st kt sc ty sh fo bk ek sp es : Nat} {b e tr rw ew q a : Nat → Nat}

theorem lw_more {i L : Nat} (hL : L ≤ 3072) (hi : i ≤ L) (h : ¬ Int32.ofNat L - 6 < nI i) : i + 6 ≤ L := by
  have h1 := Int32.le_iff_toInt_le.mp (Int32.not_lt.mp h)
  have e : (Int32.ofNat L - 6).toInt = (L : Int) - 6 := pk_sub_toInt (a := L) (b := 6) (by omega) (by omega)
  rw [e, nI_toInt (by omega)] at h1
  omega
set_option maxHeartbeats 4000000 in
set_option maxRecDepth 100000 in
theorem lw_sw {args : Array Value} {A : Nat → Prop} {i : Nat} (C0 : LX pg m cd s args dC dI ct K A b0 L xs) (hl : lv_has ls 4 [(0, .ref b0), (1, .ref x), (2, .ref (a 0)), (3, .int (nI i))]) (hi : i + 5 < L) (hcs : cells ≤ room_1.cells ∧ slots ≤ room_1.slots) (iv : IV dC dI ct K A s.heap x st kt sc ty sh fo bk ek sp es b e tr rw ew q a H locs) (kk : ∀ (H1 : Heap) (locs1 : List Loc), IV dC dI ct K A s.heap x st kt sc ty sh fo bk ek sp es b e tr rw ew q a H1 locs1 → W pg l en room_1 s m args below meth cd H1 locs1 cells slots Q (F0 m 1607 ls [])) {n : Nat} (hn : n < 64) : W pg l en room_1 s m args below meth cd H locs cells slots Q (F0 m 33 ls [.int (nI n)]) := by
  have hx := C0.1.1
  have hb := C0.1.2.1
  rcases (show n = 0 ∨ n = 1 ∨ n = 2 ∨ n = 3 ∨ n = 4 ∨ n = 5 ∨ n = 6 ∨ n = 7 ∨ n = 8 ∨ n = 9 ∨ n = 10 ∨ n = 11 ∨ n = 12 ∨ n = 13 ∨ n = 14 ∨ n = 15 ∨ n = 16 ∨ n = 17 ∨ n = 18 ∨ n = 19 ∨ n = 20 ∨ n = 21 ∨ n = 22 ∨ n = 23 ∨ n = 24 ∨ n = 25 ∨ n = 26 ∨ n = 27 ∨ n = 28 ∨ n = 29 ∨ n = 30 ∨ n = 31 ∨ n = 32 ∨ n = 33 ∨ n = 34 ∨ n = 35 ∨ n = 36 ∨ n = 37 ∨ n = 38 ∨ n = 39 ∨ n = 40 ∨ n = 41 ∨ n = 42 ∨ n = 43 ∨ n = 44 ∨ n = 45 ∨ n = 46 ∨ 47 ≤ n by omega) with rfl | rfl | rfl | rfl | rfl | rfl | rfl | rfl | rfl | rfl | rfl | rfl | rfl | rfl | rfl | rfl | rfl | rfl | rfl | rfl | rfl | rfl | rfl | rfl | rfl | rfl | rfl | rfl | rfl | rfl | rfl | rfl | rfl | rfl | rfl | rfl | rfl | rfl | rfl | rfl | rfl | rfl | rfl | rfl | rfl | rfl | rfl | h
  · exact lv_tableIn (x := nI 0) (tgt := 236) hx hb dL_law_33 (by decide) (by decide) rfl (by decide) (cs_kind C0 hl hi hcs iv kk)
  · exact lv_tableIn (x := nI 1) (tgt := 269) hx hb dL_law_33 (by decide) (by decide) rfl (by decide) (cs_of C0 hl hi hcs iv kk)
  · exact lv_tableIn (x := nI 2) (tgt := 312) hx hb dL_law_33 (by decide) (by decide) rfl (by decide) (cs_change C0 hl hi hcs iv kk)
  · exact lv_tableIn (x := nI 3) (tgt := 365) hx hb dL_law_33 (by decide) (by decide) rfl (by decide) (cs_side C0 hl hi hcs iv kk)
  · exact lv_tableIn (x := nI 4) (tgt := 408) hx hb dL_law_33 (by decide) (by decide) rfl (by decide) (cs_frost C0 hl hi hcs iv kk)
  · exact lv_tableIn (x := nI 5) (tgt := 431) hx hb dL_law_33 (by decide) (by decide) rfl (by decide) (cs_price C0 hl hi hcs iv kk)
  · exact lv_tableIn (x := nI 6) (tgt := 474) hx hb dL_law_33 (by decide) (by decide) rfl (by decide) (cs_value C0 hl hi hcs iv kk)
  · exact lv_tableIn (x := nI 7) (tgt := 507) hx hb dL_law_33 (by decide) (by decide) rfl (by decide) (cs_eaten C0 hl hi hcs iv kk)
  · exact lv_tableIn (x := nI 8) (tgt := 540) hx hb dL_law_33 (by decide) (by decide) rfl (by decide) (cs_lay C0 hl hi hcs iv kk)
  · exact lv_tableIn (x := nI 9) (tgt := 583) hx hb dL_law_33 (by decide) (by decide) rfl (by decide) (cs_back C0 hl hi hcs iv kk)
  · exact lv_tableIn (x := nI 10) (tgt := 626) hx hb dL_law_33 (by decide) (by decide) rfl (by decide) (cs_content C0 hl hi hcs iv kk)
  · exact lv_tableIn (x := nI 11) (tgt := 649) hx hb dL_law_33 (by decide) (by decide) rfl (by decide) (cs_does C0 hl hi hcs iv kk)
  · exact lv_tableIn (x := nI 12) (tgt := 672) hx hb dL_law_33 (by decide) (by decide) rfl (by decide) (cs_less C0 hl hi hcs iv kk)
  · exact lv_tableIn (x := nI 13) (tgt := 695) hx hb dL_law_33 (by decide) (by decide) rfl (by decide) (cs_steal C0 hl hi hcs iv kk)
  · exact lv_tableIn (x := nI 14) (tgt := 718) hx hb dL_law_33 (by decide) (by decide) rfl (by decide) (cs_gift C0 hl hi hcs iv kk)
  · exact lv_tableIn (x := nI 15) (tgt := 761) hx hb dL_law_33 (by decide) (by decide) rfl (by decide) (cs_nights C0 hl hi hcs iv kk)
  · exact lv_tableIn (x := nI 16) (tgt := 784) hx hb dL_law_33 (by decide) (by decide) rfl (by decide) (cs_now C0 hl hi hcs iv kk)
  · exact lv_tableIn (x := nI 17) (tgt := 807) hx hb dL_law_33 (by decide) (by decide) rfl (by decide) (cs_ahead C0 hl hi hcs iv kk)
  · exact lv_tableIn (x := nI 18) (tgt := 840) hx hb dL_law_33 (by decide) (by decide) rfl (by decide) (cs_struck C0 hl hi hcs iv kk)
  · exact lv_tableIn (x := nI 19) (tgt := 853) hx hb dL_law_33 (by decide) (by decide) rfl (by decide) (cs_empty C0 hl hi hcs iv kk)
  · exact lv_tableIn (x := nI 20) (tgt := 866) hx hb dL_law_33 (by decide) (by decide) rfl (by decide) (cs_best C0 hl hi hcs iv kk)
  · exact lv_tableIn (x := nI 21) (tgt := 899) hx hb dL_law_33 (by decide) (by decide) rfl (by decide) (cs_gain C0 hl hi hcs iv kk)
  · exact lv_tableIn (x := nI 22) (tgt := 932) hx hb dL_law_33 (by decide) (by decide) rfl (by decide) (cs_greed C0 hl hi hcs iv kk)
  · exact lv_tableIn (x := nI 23) (tgt := 965) hx hb dL_law_33 (by decide) (by decide) rfl (by decide) (cs_kindFor C0 hl hi hcs iv kk)
  · exact lv_tableIn (x := nI 24) (tgt := 998) hx hb dL_law_33 (by decide) (by decide) rfl (by decide) (cs_temptation C0 hl hi hcs iv kk)
  · exact lv_tableIn (x := nI 25) (tgt := 1031) hx hb dL_law_33 (by decide) (by decide) rfl (by decide) (cs_bundle C0 hl hi hcs iv kk)
  · exact lv_tableIn (x := nI 26) (tgt := 1044) hx hb dL_law_33 (by decide) (by decide) rfl (by decide) (cs_book C0 hl hi hcs iv kk)
  · exact lv_tableIn (x := nI 27) (tgt := 1077) hx hb dL_law_33 (by decide) (by decide) rfl (by decide) (cs_fits C0 hl hi hcs iv kk)
  · exact lv_tableIn (x := nI 28) (tgt := 1110) hx hb dL_law_33 (by decide) (by decide) rfl (by decide) (cs_greeds C0 hl hi hcs iv kk)
  · exact lv_tableIn (x := nI 29) (tgt := 1133) hx hb dL_law_33 (by decide) (by decide) rfl (by decide) (cs_known C0 hl hi hcs iv kk)
  · exact lv_tableIn (x := nI 30) (tgt := 1156) hx hb dL_law_33 (by decide) (by decide) rfl (by decide) (cs_season C0 hl hi hcs iv kk)
  · exact lv_tableIn (x := nI 31) (tgt := 1179) hx hb dL_law_33 (by decide) (by decide) rfl (by decide) (cs_seed C0 hl hi hcs iv kk)
  · exact lv_tableIn (x := nI 32) (tgt := 1202) hx hb dL_law_33 (by decide) (by decide) rfl (by decide) (cs_feed C0 hl hi hcs iv kk)
  · exact lv_tableIn (x := nI 33) (tgt := 1235) hx hb dL_law_33 (by decide) (by decide) rfl (by decide) (cs_wipe C0 hl hi hcs iv kk)
  · exact lv_tableIn (x := nI 34) (tgt := 1248) hx hb dL_law_33 (by decide) (by decide) rfl (by decide) (cs_text C0 hl hi hcs iv kk)
  · exact lv_tableIn (x := nI 35) (tgt := 1261) hx hb dL_law_33 (by decide) (by decide) rfl (by decide) (cs_hold C0 hl hi hcs iv kk)
  · exact lv_tableIn (x := nI 36) (tgt := 1294) hx hb dL_law_33 (by decide) (by decide) rfl (by decide) (cs_as C0 hl hi hcs iv kk)
  · exact lv_tableIn (x := nI 37) (tgt := 1327) hx hb dL_law_33 (by decide) (by decide) rfl (by decide) (cs_sheet C0 hl hi hcs iv kk)
  · exact lv_tableIn (x := nI 38) (tgt := 1370) hx hb dL_law_33 (by decide) (by decide) rfl (by decide) (cs_write C0 hl hi hcs iv kk)
  · exact lv_tableIn (x := nI 39) (tgt := 1413) hx hb dL_law_33 (by decide) (by decide) rfl (by decide) (cs_copy C0 hl hi hcs iv kk)
  · exact lv_tableIn (x := nI 40) (tgt := 1476) hx hb dL_law_33 (by decide) (by decide) rfl (by decide) (cs_load C0 hl hi hcs iv kk)
  · exact lv_tableIn (x := nI 41) (tgt := 1499) hx hb dL_law_33 (by decide) (by decide) rfl (by decide) (cs_judge C0 hl hi hcs iv kk)
  · exact lv_tableIn (x := nI 42) (tgt := 1522) hx hb dL_law_33 (by decide) (by decide) rfl (by decide) (cs_image C0 hl hi hcs iv kk)
  · exact lv_tableIn (x := nI 43) (tgt := 1535) hx hb dL_law_33 (by decide) (by decide) rfl (by decide) (cs_undo C0 hl hi hcs iv kk)
  · exact lv_tableIn (x := nI 44) (tgt := 1548) hx hb dL_law_33 (by decide) (by decide) rfl (by decide) (cs_tear C0 hl hi hcs iv kk)
  · exact lv_tableIn (x := nI 45) (tgt := 1561) hx hb dL_law_33 (by decide) (by decide) rfl (by decide) (cs_count C0 hl hi hcs iv kk)
  · exact lv_tableIn (x := nI 46) (tgt := 1584) hx hb dL_law_33 (by decide) (by decide) rfl (by decide) (cs_status C0 hl hi hcs iv kk)
  · exact lv_tableOut (tgt := 1607) hx hb dL_law_33 (Or.inr (by rw [nI_toInt (by omega)]; omega)) (by decide) (kk _ _ iv)
set_option maxHeartbeats 4000000 in
set_option maxRecDepth 100000 in
theorem law_loop (C0 : LX pg m cd s #[Value.ref b0] dC dI ct K (fun q => s.heap.size ≤ q) b0 L xs) (hr : meth.sig.returnType = ret) (hlocks : meth.locks = false) (hcs : cells ≤ room_1.cells ∧ slots ≤ room_1.slots) : ∀ (n i : Nat), i ≤ L → L + 1 ≤ i + n → ∀ (H : Heap) (locs : List Loc) (ls : Array Slot), lv_has ls 4 [(0, .ref b0), (1, .ref x), (2, .ref (a 0)), (3, .int (nI i))] → IV dC dI ct K (fun q => s.heap.size ≤ q) s.heap x st kt sc ty sh fo bk ek sp es b e tr rw ew q a H locs → W pg l en room_1 s m #[Value.ref b0] below meth cd H locs cells slots (lw_Z below #[Value.ref b0] s) (F0 m 18 ls []) := by
  intro n
  induction n with
  | zero => intro i h1 h2; exact absurd h2 (by omega)
  | succ n ih =>
    intro i hiL hin H locs ls hl iv
    obtain ⟨F, hK, hA, hX, hbl, hbA, hz, hE, hL⟩ := id C0
    obtain ⟨_, _, _, _, _, _, _, _, _, _, _, _, _, _, _, _, _, _, _, _, _, _, _, _, _, _, _, _, _, _, _, _, hS⟩ := id iv
    refine lv_iload_n F.1 F.2.1 dL_law_18 rfl (lv_at hl 3 rfl) ?_
    refine lv_aload_n F.1 F.2.1 dL_law_19 rfl (lv_at hl 0 rfl) ?_
    refine va_slen F.1 F.2.1 hX hbl hbA hS dL_law_20 ?_
    refine lv_bipush (v := 6) F.1 F.2.1 dL_law_21 (by decide) ?_
    refine lv_isub F.1 F.2.1 dL_law_23 ?_
    refine lv_icmp_gt (tgt := 1613) F.1 F.2.1 dL_law_24 (by decide) (fun _ => ?_) (fun hc => ?_)
    · refine lv_iconst (v := 1) F.1 F.2.1 dL_law_1613 (by decide) ?_
      refine va_forget (fun q hq => hS.2.2 q hq) ?_
      refine W.widen (k := 600000) (n := 7302250) hcs.1 hcs.2 ?_
      exact lw_ret F.1 F.2.1 hr hlocks dL_law_1614
    · have hi6 := lw_more hL hiL hc
      refine lv_aload_n F.1 F.2.1 dL_law_27 rfl (lv_at hl 0 rfl) ?_
      refine lv_iload_n F.1 F.2.1 dL_law_28 rfl (lv_at hl 3 rfl) ?_
      refine va_sld F.1 F.2.1 hX hbl hbA hS (vp_in_nI (n := i) (by omega) (by omega)) dL_law_29 ?_
      refine lv_bipush (v := 63) F.1 F.2.1 dL_law_30 (by decide) ?_
      refine lv_iand F.1 F.2.1 dL_law_32 ?_
      obtain ⟨w, hw, ew⟩ := pk_andE (xs (nI i).toNatClampNeg) (m := 63) 6 (by decide)
      refine tp ew ?_
      refine lw_sw C0 hl (by omega) hcs iv (fun H1 locs1 iv1 => ?_) hw
      refine lv_iinc (v := nI (i + 6)) (lv' := [(3, .int (nI (i + 6))), (0, .ref b0), (1, .ref x), (2, .ref (a 0))]) F.1 F.2.1 dL_law_1607 hl (k := 3) rfl (nI_add i 6) (by decide) rfl (fun ls1 hl1 => ?_)
      refine lv_goto (tgt := 18) F.1 F.2.1 dL_law_1610 (by decide) ?_
      exact ih (i + 6) hi6 (by omega) H1 locs1 ls1 (lv_sub hl1 [1, 2, 3, 0] rfl) iv1
end LAW5
