def rmJ7_fill_53178 : Room := { frames := 0, cells := 0, slots := 0, locals := 0 }
theorem nmJ7_fill_53178 : NmV yJ7_fill_53178 RJ7 2 := by unfold NmV; decide +kernel
set_option maxHeartbeats 4000000 in
set_option maxRecDepth 100000 in
theorem kJ7_fill_53178 (l : Launch) (dC : Nat → ClassId) (dI : Nat → Nat → Nat) (ct : Nat → ClassId) (r n : Nat) (f : Nat → Int32) (w : Int32) (hn : n < 2147483648) : MV (S := Unit) l yJ7_fill_53178 wsJ7_fill_53178 rmJ7_fill_53178 dC dI ct eT [.ref r, .int w] ([ai ct r n f]) (fun _ => [ai ct r n (fun _ => w)]) (fun _ => True) := by
  refine MV.ofF (cc := cJ7_fill_53178) (maxL := 4) (ret := none) (by decide +kernel) rfl (Nat.le_of_ble_eq_true rfl) ?_
  intro pg en z mi below meth cd A F hr hlk hin hK hP hD hA hS hE ls hl
  have F : CallFix pg mi cd cJ7_fill_53178 4 z _ wsJ7_fill_53178 RJ7 := F
  have hl : lv_has ls 4 [(0, .ref r), (1, .int w)] := hl
  refine lv_iconst (v := 0) F.1 F.2.1 dJ7_fill_53178_0 (by decide) ?_
  refine lv_istore_n (lv' := [(2, .int 0), (0, .ref r), (1, .int w)]) F.1 F.2.1 dJ7_fill_53178_1 rfl hl (by decide) rfl (fun ls hl => ?_)
  refine lv_aload_n F.1 F.2.1 dJ7_fill_53178_2 rfl (lv_at hl 1 rfl) ?_
  refine va_alen F.1 F.2.1 hK hP 0 0 rfl rfl (v := nI n) rfl dJ7_fill_53178_3 ?_
  refine lv_istore_n (lv' := [(3, .int (nI n)), (2, .int 0), (0, .ref r), (1, .int w)]) F.1 F.2.1 dJ7_fill_53178_4 rfl hl (by decide) rfl (fun ls hl => ?_)
  rw [← flU_0 f w] at hP hD
  refine loopN (I := fun k H locs ls => va_P (dC, dI) vwCl ([ai ct r n (flU f w k)]) H ∧ va_D A ([ai ct r n (flU f w k)]) ∧ va_S A z.heap H locs ∧ lv_has ls 4 [(2, .int (nI k)), (3, .int (nI n)), (0, .ref r), (1, .int w)]) n 0 (by omega) ⟨hP, hD, hS, lv_sub hl [1, 0, 2, 3] rfl⟩ (fun H locs ls hI => ?_) (fun k hk_k H locs ls hI ih_5 => ?_)
  · obtain ⟨hP, hD, hS, hl⟩ := hI
    refine lv_iload_n F.1 F.2.1 dJ7_fill_53178_5 rfl (lv_at hl 0 rfl) ?_
    refine lv_iload_n F.1 F.2.1 dJ7_fill_53178_6 rfl (lv_at hl 1 rfl) ?_
    refine lv_icmp_ge (tgt := 20) F.1 F.2.1 dJ7_fill_53178_7 (by decide) (fun c_7 => ?_) (fun c_7 => ?_)
    · have hP := fl_end.P hP
      have hD := fl_end.D hD
      exact rtV () F hr hlk hP hS rfl trivial dJ7_fill_53178_20
    · exact absurd (nI_le (Nat.le_refl _) hn) c_7
  · obtain ⟨hP, hD, hS, hl⟩ := hI
    refine lv_iload_n F.1 F.2.1 dJ7_fill_53178_5 rfl (lv_at hl 0 rfl) ?_
    refine lv_iload_n F.1 F.2.1 dJ7_fill_53178_6 rfl (lv_at hl 1 rfl) ?_
    refine lv_icmp_ge (tgt := 20) F.1 F.2.1 dJ7_fill_53178_7 (by decide) (fun c_7 => ?_) (fun c_7 => ?_)
    · exact absurd c_7 (nI_ge hk_k hn)
    · refine lv_aload_n F.1 F.2.1 dJ7_fill_53178_10 rfl (lv_at hl 2 rfl) ?_
      refine lv_iload_n F.1 F.2.1 dJ7_fill_53178_11 rfl (lv_at hl 0 rfl) ?_
      refine lv_iload_n F.1 F.2.1 dJ7_fill_53178_12 rfl (lv_at hl 3 rfl) ?_
      refine ast (ws' := [ai ct r n (upd (flU f w k) k w)]) F hK hP hD hS 0 0 rfl rfl k rfl (by omega) hn dJ7_fill_53178_13 (weq.rf _) (fun H locs hP hD hS => ?_)
      refine lv_iinc (v := nI (k + 1)) (lv' := [(2, .int (nI (k + 1))), (3, .int (nI n)), (0, .ref r), (1, .int w)]) F.1 F.2.1 dJ7_fill_53178_14 hl (k := 0) rfl (by rw [show Int32.ofInt 1 = nI 1 from rfl, nI_add]) (by decide) rfl (fun ls hl => ?_)
      refine lv_goto (tgt := 5) F.1 F.2.1 dJ7_fill_53178_17 (by decide) ?_
      have eb := flU_S f w k
      rw [eb] at hP hD
      exact ih_5 _ _ _ ⟨hP, hD, hS, lv_sub hl [0, 1, 2, 3] rfl⟩
