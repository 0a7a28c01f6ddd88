def rmX5_isUnder : Room := { frames := 2, cells := 0, slots := 0, locals := 42 }
theorem nmX5_isUnder : NmV yX5_isUnder RX5 2 := by unfold NmV; decide +kernel
set_option maxHeartbeats 4000000 in
set_option maxRecDepth 100000 in
theorem kX5_isUnder (l : Launch) (dC : Nat → ClassId) (dI : Nat → Nat → Nat) (ct : Nat → ClassId) (K : Nat → Nat) (rf : List (String × Nat × String × Nat)) (k : Nat) (o : Int32) (hk : k < 7) : MI (S := Unit) l yX5_isUnder wsX5_isUnder rmX5_isUnder dC dI ct (EQ K ct rf []) [.int (nI k), .int o] ([] : va_W) (fun _ => ([] : va_W)) (fun r _ => r = un (nI k) o) := by
  refine MI.ofz (cc := cX5_isUnder) (maxL := 4) (ret := (some .boolean)) (by decide) rfl (Nat.le_of_ble_eq_true rfl) ?_
  intro pg en z mi below meth cd A F hr hlk hin hK hP hD hA hS hAz hE ls hl
  have hz := EQ_z (pre := ([] : va_W)) (show EQ K ct rf (List.map Prod.fst ([] : va_W)) z from hE) hAz
  have F : CallFix pg mi cd cX5_isUnder 4 z _ wsX5_isUnder RX5 := F
  have hl : lv_has ls 4 [(0, .int (nI k)), (1, .int o)] := hl
  rcases (show k = 0 ∨ k = 1 ∨ k = 2 ∨ k = 3 ∨ k = 4 ∨ k = 5 ∨ k = 6 by omega) with rfl | rfl | rfl | rfl | rfl | rfl | rfl
  · skip
    refine lv_iload_n F.1 F.2.1 dX5_isUnder_0 rfl (lv_at hl 0 rfl) ?_
    refine lv_istore_n (lv' := [(2, .int (nI 0)), (0, .int (nI 0)), (1, .int o)]) F.1 F.2.1 dX5_isUnder_1 rfl hl (by decide) rfl (fun ls hl => ?_)
    refine lv_iconst (v := 0) F.1 F.2.1 dX5_isUnder_2 (by decide) ?_
    refine lv_istore_n (lv' := [(3, .int 0), (2, .int (nI 0)), (0, .int (nI 0)), (1, .int o)]) F.1 F.2.1 dX5_isUnder_3 rfl hl (by decide) rfl (fun ls hl => ?_)
    refine lv_iload_n F.1 F.2.1 dX5_isUnder_4 rfl (lv_at hl 0 rfl) ?_
    refine lv_bipush (v := 7) F.1 F.2.1 dX5_isUnder_5 (by decide) ?_
    refine lv_icmp_ge (tgt := 36) F.1 F.2.1 dX5_isUnder_7 (by decide) (fun c_7 => ?_) (fun c_7 => ?_)
    · exact absurd c_7 (by decide)
    · refine lv_iload_n F.1 F.2.1 dX5_isUnder_10 rfl (lv_at hl 1 rfl) ?_
      refine iS (rest := []) (wsp := fun _ => ([] : va_W)) F (kX5_isKind l dC dI ct (nI 0)) gX5_isUnder_X5_isKind rfl ⟨rfl, rfl⟩ nmX5_isKind ⟨Nat.le_of_ble_eq_true rfl, Nat.le_of_ble_eq_true rfl⟩ eT_b (fun _ _ _ => trivial) hK hP hD hS hA [] (by decide) rfl rfl rfl hl.1 (Nat.le_of_ble_eq_true rfl) dX5_isUnder_11 ⟨Nat.zero_le _, Nat.zero_le _⟩ (fun _ => rfl) (fun _ => rfl) [] rfl (fun _ => rfl) (fun r_11 u_11 H locs e_11 hP hD hS => ?_)
      obtain rfl := e_11
      refine lv_if_eq (tgt := 36) F.1 F.2.1 dX5_isUnder_14 (by decide) (fun c_14 => ?_) (fun c_14 => ?_)
      · exact absurd c_14 (by decide)
      · have c_14 : 0 ≤ (nI 0) ∧ (nI 0) ≤ 6 := b01t rfl c_14
        refine lv_iload_n F.1 F.2.1 dX5_isUnder_17 rfl (lv_at hl 1 rfl) ?_
        refine lv_iload_n F.1 F.2.1 dX5_isUnder_18 rfl (lv_at hl 3 rfl) ?_
        refine lv_icmp_ne (tgt := 24) F.1 F.2.1 dX5_isUnder_19 (by decide) (fun c_19 => ?_) (fun c_19 => ?_)
        · refine gsZ F hE.2.2.1.1 hz hS (List.mem_of_getElem? (i := 1) rfl) rfl dX5_isUnder_24 ?_
          refine lv_iload_n F.1 F.2.1 dX5_isUnder_27 rfl (lv_at hl 1 rfl) ?_
          refine va_ti F.1 F.2.1 (hE.2.2.1.2.1.narrow hz) hS (i := 0) (vp_in_nI (n := 0) (N := 7) (by decide) (by decide)) (v := .int (-1)) rfl dX5_isUnder_28 ?_
          refine lv_istore_n (lv' := [(2, .int (-1)), (3, .int 0), (0, .int (nI 0)), (1, .int o)]) F.1 F.2.1 dX5_isUnder_29 rfl hl (by decide) rfl (fun ls hl => ?_)
          refine lv_iinc (v := 1) (lv' := [(3, .int 1), (2, .int (-1)), (0, .int (nI 0)), (1, .int o)]) F.1 F.2.1 dX5_isUnder_30 hl (k := 1) rfl (by decide) (by decide) rfl (fun ls hl => ?_)
          refine lv_goto (tgt := 4) F.1 F.2.1 dX5_isUnder_33 (by decide) ?_
          refine lv_iload_n F.1 F.2.1 dX5_isUnder_4 rfl (lv_at hl 0 rfl) ?_
          refine lv_bipush (v := 7) F.1 F.2.1 dX5_isUnder_5 (by decide) ?_
          refine lv_icmp_ge (tgt := 36) F.1 F.2.1 dX5_isUnder_7 (by decide) (fun c_7' => ?_) (fun c_7' => ?_)
          · exact absurd c_7' (by decide)
          · refine lv_iload_n F.1 F.2.1 dX5_isUnder_10 rfl (lv_at hl 1 rfl) ?_
            refine iS (rest := []) (wsp := fun _ => ([] : va_W)) F (kX5_isKind l dC dI ct (-1)) gX5_isUnder_X5_isKind rfl ⟨rfl, rfl⟩ nmX5_isKind ⟨Nat.le_of_ble_eq_true rfl, Nat.le_of_ble_eq_true rfl⟩ eT_b (fun _ _ _ => trivial) hK hP hD hS hA [] (by decide) rfl rfl rfl hl.1 (Nat.le_of_ble_eq_true rfl) dX5_isUnder_11 ⟨Nat.zero_le _, Nat.zero_le _⟩ (fun _ => rfl) (fun _ => rfl) [] rfl (fun _ => rfl) (fun r_11 u_11 H locs e_11 hP hD hS => ?_)
            obtain rfl := e_11
            refine lv_if_eq (tgt := 36) F.1 F.2.1 dX5_isUnder_14 (by decide) (fun c_14' => ?_) (fun c_14' => ?_)
            · have c_14' : ¬ (0 ≤ (-1) ∧ (-1) ≤ 6) := b01f rfl c_14'
              refine lv_iconst (v := 0) F.1 F.2.1 dX5_isUnder_36 (by decide) ?_
              exact rtZ () F hr hlk hP hS rfl (by show (0 : Int32) = unF 4 0 o; rw [show unF 4 (0) o = unF 3 (-1) o from (if_neg (by decide)).trans ((if_neg c_19).trans (by rw [show upK (0) = (-1) from by decide]))]; exact (if_pos (by decide)).symm) (Or.inl rfl) dX5_isUnder_37
            · exact absurd (by decide) c_14'
        · refine lv_iconst (v := 1) F.1 F.2.1 dX5_isUnder_22 (by decide) ?_
          exact rtZ () F hr hlk hP hS rfl (by rw [← c_19]; decide) (Or.inr rfl) dX5_isUnder_23
  · skip
    refine lv_iload_n F.1 F.2.1 dX5_isUnder_0 rfl (lv_at hl 0 rfl) ?_
    refine lv_istore_n (lv' := [(2, .int (nI 1)), (0, .int (nI 1)), (1, .int o)]) F.1 F.2.1 dX5_isUnder_1 rfl hl (by decide) rfl (fun ls hl => ?_)
    refine lv_iconst (v := 0) F.1 F.2.1 dX5_isUnder_2 (by decide) ?_
    refine lv_istore_n (lv' := [(3, .int 0), (2, .int (nI 1)), (0, .int (nI 1)), (1, .int o)]) F.1 F.2.1 dX5_isUnder_3 rfl hl (by decide) rfl (fun ls hl => ?_)
    refine lv_iload_n F.1 F.2.1 dX5_isUnder_4 rfl (lv_at hl 0 rfl) ?_
    refine lv_bipush (v := 7) F.1 F.2.1 dX5_isUnder_5 (by decide) ?_
    refine lv_icmp_ge (tgt := 36) F.1 F.2.1 dX5_isUnder_7 (by decide) (fun c_7 => ?_) (fun c_7 => ?_)
    · exact absurd c_7 (by decide)
    · refine lv_iload_n F.1 F.2.1 dX5_isUnder_10 rfl (lv_at hl 1 rfl) ?_
      refine iS (rest := []) (wsp := fun _ => ([] : va_W)) F (kX5_isKind l dC dI ct (nI 1)) gX5_isUnder_X5_isKind rfl ⟨rfl, rfl⟩ nmX5_isKind ⟨Nat.le_of_ble_eq_true rfl, Nat.le_of_ble_eq_true rfl⟩ eT_b (fun _ _ _ => trivial) hK hP hD hS hA [] (by decide) rfl rfl rfl hl.1 (Nat.le_of_ble_eq_true rfl) dX5_isUnder_11 ⟨Nat.zero_le _, Nat.zero_le _⟩ (fun _ => rfl) (fun _ => rfl) [] rfl (fun _ => rfl) (fun r_11 u_11 H locs e_11 hP hD hS => ?_)
      obtain rfl := e_11
      refine lv_if_eq (tgt := 36) F.1 F.2.1 dX5_isUnder_14 (by decide) (fun c_14 => ?_) (fun c_14 => ?_)
      · exact absurd c_14 (by decide)
      · have c_14 : 0 ≤ (nI 1) ∧ (nI 1) ≤ 6 := b01t rfl c_14
        refine lv_iload_n F.1 F.2.1 dX5_isUnder_17 rfl (lv_at hl 1 rfl) ?_
        refine lv_iload_n F.1 F.2.1 dX5_isUnder_18 rfl (lv_at hl 3 rfl) ?_
        refine lv_icmp_ne (tgt := 24) F.1 F.2.1 dX5_isUnder_19 (by decide) (fun c_19 => ?_) (fun c_19 => ?_)
        · refine gsZ F hE.2.2.1.1 hz hS (List.mem_of_getElem? (i := 1) rfl) rfl dX5_isUnder_24 ?_
          refine lv_iload_n F.1 F.2.1 dX5_isUnder_27 rfl (lv_at hl 1 rfl) ?_
          refine va_ti F.1 F.2.1 (hE.2.2.1.2.1.narrow hz) hS (i := 1) (vp_in_nI (n := 1) (N := 7) (by decide) (by decide)) (v := .int 0) rfl dX5_isUnder_28 ?_
          refine lv_istore_n (lv' := [(2, .int 0), (3, .int 0), (0, .int (nI 1)), (1, .int o)]) F.1 F.2.1 dX5_isUnder_29 rfl hl (by decide) rfl (fun ls hl => ?_)
          refine lv_iinc (v := 1) (lv' := [(3, .int 1), (2, .int 0), (0, .int (nI 1)), (1, .int o)]) F.1 F.2.1 dX5_isUnder_30 hl (k := 1) rfl (by decide) (by decide) rfl (fun ls hl => ?_)
          refine lv_goto (tgt := 4) F.1 F.2.1 dX5_isUnder_33 (by decide) ?_
          refine lv_iload_n F.1 F.2.1 dX5_isUnder_4 rfl (lv_at hl 0 rfl) ?_
          refine lv_bipush (v := 7) F.1 F.2.1 dX5_isUnder_5 (by decide) ?_
          refine lv_icmp_ge (tgt := 36) F.1 F.2.1 dX5_isUnder_7 (by decide) (fun c_7' => ?_) (fun c_7' => ?_)
          · exact absurd c_7' (by decide)
          · refine lv_iload_n F.1 F.2.1 dX5_isUnder_10 rfl (lv_at hl 1 rfl) ?_
            refine iS (rest := []) (wsp := fun _ => ([] : va_W)) F (kX5_isKind l dC dI ct 0) gX5_isUnder_X5_isKind rfl ⟨rfl, rfl⟩ nmX5_isKind ⟨Nat.le_of_ble_eq_true rfl, Nat.le_of_ble_eq_true rfl⟩ eT_b (fun _ _ _ => trivial) hK hP hD hS hA [] (by decide) rfl rfl rfl hl.1 (Nat.le_of_ble_eq_true rfl) dX5_isUnder_11 ⟨Nat.zero_le _, Nat.zero_le _⟩ (fun _ => rfl) (fun _ => rfl) [] rfl (fun _ => rfl) (fun r_11 u_11 H locs e_11 hP hD hS => ?_)
            obtain rfl := e_11
            refine lv_if_eq (tgt := 36) F.1 F.2.1 dX5_isUnder_14 (by decide) (fun c_14' => ?_) (fun c_14' => ?_)
            · exact absurd c_14' (by decide)
            · have c_14' : 0 ≤ 0 ∧ 0 ≤ 6 := b01t rfl c_14'
              refine lv_iload_n F.1 F.2.1 dX5_isUnder_17 rfl (lv_at hl 1 rfl) ?_
              refine lv_iload_n F.1 F.2.1 dX5_isUnder_18 rfl (lv_at hl 3 rfl) ?_
              refine lv_icmp_ne (tgt := 24) F.1 F.2.1 dX5_isUnder_19 (by decide) (fun c_19' => ?_) (fun c_19' => ?_)
              · refine gsZ F hE.2.2.1.1 hz hS (List.mem_of_getElem? (i := 1) rfl) rfl dX5_isUnder_24 ?_
                refine lv_iload_n F.1 F.2.1 dX5_isUnder_27 rfl (lv_at hl 1 rfl) ?_
                refine va_ti F.1 F.2.1 (hE.2.2.1.2.1.narrow hz) hS (i := 0) (vp_in_nI (n := 0) (N := 7) (by decide) (by decide)) (v := .int (-1)) rfl dX5_isUnder_28 ?_
                refine lv_istore_n (lv' := [(2, .int (-1)), (3, .int 1), (0, .int (nI 1)), (1, .int o)]) F.1 F.2.1 dX5_isUnder_29 rfl hl (by decide) rfl (fun ls hl => ?_)
                refine lv_iinc (v := 2) (lv' := [(3, .int 2), (2, .int (-1)), (0, .int (nI 1)), (1, .int o)]) F.1 F.2.1 dX5_isUnder_30 hl (k := 1) rfl (by decide) (by decide) rfl (fun ls hl => ?_)
                refine lv_goto (tgt := 4) F.1 F.2.1 dX5_isUnder_33 (by decide) ?_
                refine lv_iload_n F.1 F.2.1 dX5_isUnder_4 rfl (lv_at hl 0 rfl) ?_
                refine lv_bipush (v := 7) F.1 F.2.1 dX5_isUnder_5 (by decide) ?_
                refine lv_icmp_ge (tgt := 36) F.1 F.2.1 dX5_isUnder_7 (by decide) (fun c_7'' => ?_) (fun c_7'' => ?_)
                · exact absurd c_7'' (by decide)
                · refine lv_iload_n F.1 F.2.1 dX5_isUnder_10 rfl (lv_at hl 1 rfl) ?_
                  refine iS (rest := []) (wsp := fun _ => ([] : va_W)) F (kX5_isKind l dC dI ct (-1)) gX5_isUnder_X5_isKind rfl ⟨rfl, rfl⟩ nmX5_isKind ⟨Nat.le_of_ble_eq_true rfl, Nat.le_of_ble_eq_true rfl⟩ eT_b (fun _ _ _ => trivial) hK hP hD hS hA [] (by decide) rfl rfl rfl hl.1 (Nat.le_of_ble_eq_true rfl) dX5_isUnder_11 ⟨Nat.zero_le _, Nat.zero_le _⟩ (fun _ => rfl) (fun _ => rfl) [] rfl (fun _ => rfl) (fun r_11 u_11 H locs e_11 hP hD hS => ?_)
                  obtain rfl := e_11
                  refine lv_if_eq (tgt := 36) F.1 F.2.1 dX5_isUnder_14 (by decide) (fun c_14'' => ?_) (fun c_14'' => ?_)
                  · have c_14'' : ¬ (0 ≤ (-1) ∧ (-1) ≤ 6) := b01f rfl c_14''
                    refine lv_iconst (v := 0) F.1 F.2.1 dX5_isUnder_36 (by decide) ?_
                    exact rtZ () F hr hlk hP hS rfl (by show (0 : Int32) = unF 4 1 o; rw [show unF 4 (1) o = unF 3 (0) o from (if_neg (by decide)).trans ((if_neg c_19).trans (by rw [show upK (1) = (0) from by decide]))]; rw [show unF 3 (0) o = unF 2 (-1) o from (if_neg (by decide)).trans ((if_neg c_19').trans (by rw [show upK (0) = (-1) from by decide]))]; exact (if_pos (by decide)).symm) (Or.inl rfl) dX5_isUnder_37
                  · exact absurd (by decide) c_14''
              · refine lv_iconst (v := 1) F.1 F.2.1 dX5_isUnder_22 (by decide) ?_
                exact rtZ () F hr hlk hP hS rfl (by rw [← c_19']; decide) (Or.inr rfl) dX5_isUnder_23
        · refine lv_iconst (v := 1) F.1 F.2.1 dX5_isUnder_22 (by decide) ?_
          exact rtZ () F hr hlk hP hS rfl (by rw [← c_19]; decide) (Or.inr rfl) dX5_isUnder_23
  · skip
    refine lv_iload_n F.1 F.2.1 dX5_isUnder_0 rfl (lv_at hl 0 rfl) ?_
    refine lv_istore_n (lv' := [(2, .int (nI 2)), (0, .int (nI 2)), (1, .int o)]) F.1 F.2.1 dX5_isUnder_1 rfl hl (by decide) rfl (fun ls hl => ?_)
    refine lv_iconst (v := 0) F.1 F.2.1 dX5_isUnder_2 (by decide) ?_
    refine lv_istore_n (lv' := [(3, .int 0), (2, .int (nI 2)), (0, .int (nI 2)), (1, .int o)]) F.1 F.2.1 dX5_isUnder_3 rfl hl (by decide) rfl (fun ls hl => ?_)
    refine lv_iload_n F.1 F.2.1 dX5_isUnder_4 rfl (lv_at hl 0 rfl) ?_
    refine lv_bipush (v := 7) F.1 F.2.1 dX5_isUnder_5 (by decide) ?_
    refine lv_icmp_ge (tgt := 36) F.1 F.2.1 dX5_isUnder_7 (by decide) (fun c_7 => ?_) (fun c_7 => ?_)
    · exact absurd c_7 (by decide)
    · refine lv_iload_n F.1 F.2.1 dX5_isUnder_10 rfl (lv_at hl 1 rfl) ?_
      refine iS (rest := []) (wsp := fun _ => ([] : va_W)) F (kX5_isKind l dC dI ct (nI 2)) gX5_isUnder_X5_isKind rfl ⟨rfl, rfl⟩ nmX5_isKind ⟨Nat.le_of_ble_eq_true rfl, Nat.le_of_ble_eq_true rfl⟩ eT_b (fun _ _ _ => trivial) hK hP hD hS hA [] (by decide) rfl rfl rfl hl.1 (Nat.le_of_ble_eq_true rfl) dX5_isUnder_11 ⟨Nat.zero_le _, Nat.zero_le _⟩ (fun _ => rfl) (fun _ => rfl) [] rfl (fun _ => rfl) (fun r_11 u_11 H locs e_11 hP hD hS => ?_)
      obtain rfl := e_11
      refine lv_if_eq (tgt := 36) F.1 F.2.1 dX5_isUnder_14 (by decide) (fun c_14 => ?_) (fun c_14 => ?_)
      · exact absurd c_14 (by decide)
      · have c_14 : 0 ≤ (nI 2) ∧ (nI 2) ≤ 6 := b01t rfl c_14
        refine lv_iload_n F.1 F.2.1 dX5_isUnder_17 rfl (lv_at hl 1 rfl) ?_
        refine lv_iload_n F.1 F.2.1 dX5_isUnder_18 rfl (lv_at hl 3 rfl) ?_
        refine lv_icmp_ne (tgt := 24) F.1 F.2.1 dX5_isUnder_19 (by decide) (fun c_19 => ?_) (fun c_19 => ?_)
        · refine gsZ F hE.2.2.1.1 hz hS (List.mem_of_getElem? (i := 1) rfl) rfl dX5_isUnder_24 ?_
          refine lv_iload_n F.1 F.2.1 dX5_isUnder_27 rfl (lv_at hl 1 rfl) ?_
          refine va_ti F.1 F.2.1 (hE.2.2.1.2.1.narrow hz) hS (i := 2) (vp_in_nI (n := 2) (N := 7) (by decide) (by decide)) (v := .int 0) rfl dX5_isUnder_28 ?_
          refine lv_istore_n (lv' := [(2, .int 0), (3, .int 0), (0, .int (nI 2)), (1, .int o)]) F.1 F.2.1 dX5_isUnder_29 rfl hl (by decide) rfl (fun ls hl => ?_)
          refine lv_iinc (v := 1) (lv' := [(3, .int 1), (2, .int 0), (0, .int (nI 2)), (1, .int o)]) F.1 F.2.1 dX5_isUnder_30 hl (k := 1) rfl (by decide) (by decide) rfl (fun ls hl => ?_)
          refine lv_goto (tgt := 4) F.1 F.2.1 dX5_isUnder_33 (by decide) ?_
          refine lv_iload_n F.1 F.2.1 dX5_isUnder_4 rfl (lv_at hl 0 rfl) ?_
          refine lv_bipush (v := 7) F.1 F.2.1 dX5_isUnder_5 (by decide) ?_
          refine lv_icmp_ge (tgt := 36) F.1 F.2.1 dX5_isUnder_7 (by decide) (fun c_7' => ?_) (fun c_7' => ?_)
          · exact absurd c_7' (by decide)
          · refine lv_iload_n F.1 F.2.1 dX5_isUnder_10 rfl (lv_at hl 1 rfl) ?_
            refine iS (rest := []) (wsp := fun _ => ([] : va_W)) F (kX5_isKind l dC dI ct 0) gX5_isUnder_X5_isKind rfl ⟨rfl, rfl⟩ nmX5_isKind ⟨Nat.le_of_ble_eq_true rfl, Nat.le_of_ble_eq_true rfl⟩ eT_b (fun _ _ _ => trivial) hK hP hD hS hA [] (by decide) rfl rfl rfl hl.1 (Nat.le_of_ble_eq_true rfl) dX5_isUnder_11 ⟨Nat.zero_le _, Nat.zero_le _⟩ (fun _ => rfl) (fun _ => rfl) [] rfl (fun _ => rfl) (fun r_11 u_11 H locs e_11 hP hD hS => ?_)
            obtain rfl := e_11
            refine lv_if_eq (tgt := 36) F.1 F.2.1 dX5_isUnder_14 (by decide) (fun c_14' => ?_) (fun c_14' => ?_)
            · exact absurd c_14' (by decide)
            · have c_14' : 0 ≤ 0 ∧ 0 ≤ 6 := b01t rfl c_14'
              refine lv_iload_n F.1 F.2.1 dX5_isUnder_17 rfl (lv_at hl 1 rfl) ?_
              refine lv_iload_n F.1 F.2.1 dX5_isUnder_18 rfl (lv_at hl 3 rfl) ?_
              refine lv_icmp_ne (tgt := 24) F.1 F.2.1 dX5_isUnder_19 (by decide) (fun c_19' => ?_) (fun c_19' => ?_)
              · refine gsZ F hE.2.2.1.1 hz hS (List.mem_of_getElem? (i := 1) rfl) rfl dX5_isUnder_24 ?_
                refine lv_iload_n F.1 F.2.1 dX5_isUnder_27 rfl (lv_at hl 1 rfl) ?_
                refine va_ti F.1 F.2.1 (hE.2.2.1.2.1.narrow hz) hS (i := 0) (vp_in_nI (n := 0) (N := 7) (by decide) (by decide)) (v := .int (-1)) rfl dX5_isUnder_28 ?_
                refine lv_istore_n (lv' := [(2, .int (-1)), (3, .int 1), (0, .int (nI 2)), (1, .int o)]) F.1 F.2.1 dX5_isUnder_29 rfl hl (by decide) rfl (fun ls hl => ?_)
                refine lv_iinc (v := 2) (lv' := [(3, .int 2), (2, .int (-1)), (0, .int (nI 2)), (1, .int o)]) F.1 F.2.1 dX5_isUnder_30 hl (k := 1) rfl (by decide) (by decide) rfl (fun ls hl => ?_)
                refine lv_goto (tgt := 4) F.1 F.2.1 dX5_isUnder_33 (by decide) ?_
                refine lv_iload_n F.1 F.2.1 dX5_isUnder_4 rfl (lv_at hl 0 rfl) ?_
                refine lv_bipush (v := 7) F.1 F.2.1 dX5_isUnder_5 (by decide) ?_
                refine lv_icmp_ge (tgt := 36) F.1 F.2.1 dX5_isUnder_7 (by decide) (fun c_7'' => ?_) (fun c_7'' => ?_)
                · exact absurd c_7'' (by decide)
                · refine lv_iload_n F.1 F.2.1 dX5_isUnder_10 rfl (lv_at hl 1 rfl) ?_
                  refine iS (rest := []) (wsp := fun _ => ([] : va_W)) F (kX5_isKind l dC dI ct (-1)) gX5_isUnder_X5_isKind rfl ⟨rfl, rfl⟩ nmX5_isKind ⟨Nat.le_of_ble_eq_true rfl, Nat.le_of_ble_eq_true rfl⟩ eT_b (fun _ _ _ => trivial) hK hP hD hS hA [] (by decide) rfl rfl rfl hl.1 (Nat.le_of_ble_eq_true rfl) dX5_isUnder_11 ⟨Nat.zero_le _, Nat.zero_le _⟩ (fun _ => rfl) (fun _ => rfl) [] rfl (fun _ => rfl) (fun r_11 u_11 H locs e_11 hP hD hS => ?_)
                  obtain rfl := e_11
                  refine lv_if_eq (tgt := 36) F.1 F.2.1 dX5_isUnder_14 (by decide) (fun c_14'' => ?_) (fun c_14'' => ?_)
                  · have c_14'' : ¬ (0 ≤ (-1) ∧ (-1) ≤ 6) := b01f rfl c_14''
                    refine lv_iconst (v := 0) F.1 F.2.1 dX5_isUnder_36 (by decide) ?_
                    exact rtZ () F hr hlk hP hS rfl (by show (0 : Int32) = unF 4 2 o; rw [show unF 4 (2) o = unF 3 (0) o from (if_neg (by decide)).trans ((if_neg c_19).trans (by rw [show upK (2) = (0) from by decide]))]; rw [show unF 3 (0) o = unF 2 (-1) o from (if_neg (by decide)).trans ((if_neg c_19').trans (by rw [show upK (0) = (-1) from by decide]))]; exact (if_pos (by decide)).symm) (Or.inl rfl) dX5_isUnder_37
                  · exact absurd (by decide) c_14''
              · refine lv_iconst (v := 1) F.1 F.2.1 dX5_isUnder_22 (by decide) ?_
                exact rtZ () F hr hlk hP hS rfl (by rw [← c_19']; decide) (Or.inr rfl) dX5_isUnder_23
        · refine lv_iconst (v := 1) F.1 F.2.1 dX5_isUnder_22 (by decide) ?_
          exact rtZ () F hr hlk hP hS rfl (by rw [← c_19]; decide) (Or.inr rfl) dX5_isUnder_23
  · skip
    refine lv_iload_n F.1 F.2.1 dX5_isUnder_0 rfl (lv_at hl 0 rfl) ?_
    refine lv_istore_n (lv' := [(2, .int (nI 3)), (0, .int (nI 3)), (1, .int o)]) F.1 F.2.1 dX5_isUnder_1 rfl hl (by decide) rfl (fun ls hl => ?_)
    refine lv_iconst (v := 0) F.1 F.2.1 dX5_isUnder_2 (by decide) ?_
    refine lv_istore_n (lv' := [(3, .int 0), (2, .int (nI 3)), (0, .int (nI 3)), (1, .int o)]) F.1 F.2.1 dX5_isUnder_3 rfl hl (by decide) rfl (fun ls hl => ?_)
    refine lv_iload_n F.1 F.2.1 dX5_isUnder_4 rfl (lv_at hl 0 rfl) ?_
    refine lv_bipush (v := 7) F.1 F.2.1 dX5_isUnder_5 (by decide) ?_
    refine lv_icmp_ge (tgt := 36) F.1 F.2.1 dX5_isUnder_7 (by decide) (fun c_7 => ?_) (fun c_7 => ?_)
    · exact absurd c_7 (by decide)
    · refine lv_iload_n F.1 F.2.1 dX5_isUnder_10 rfl (lv_at hl 1 rfl) ?_
      refine iS (rest := []) (wsp := fun _ => ([] : va_W)) F (kX5_isKind l dC dI ct (nI 3)) gX5_isUnder_X5_isKind rfl ⟨rfl, rfl⟩ nmX5_isKind ⟨Nat.le_of_ble_eq_true rfl, Nat.le_of_ble_eq_true rfl⟩ eT_b (fun _ _ _ => trivial) hK hP hD hS hA [] (by decide) rfl rfl rfl hl.1 (Nat.le_of_ble_eq_true rfl) dX5_isUnder_11 ⟨Nat.zero_le _, Nat.zero_le _⟩ (fun _ => rfl) (fun _ => rfl) [] rfl (fun _ => rfl) (fun r_11 u_11 H locs e_11 hP hD hS => ?_)
      obtain rfl := e_11
      refine lv_if_eq (tgt := 36) F.1 F.2.1 dX5_isUnder_14 (by decide) (fun c_14 => ?_) (fun c_14 => ?_)
      · exact absurd c_14 (by decide)
      · have c_14 : 0 ≤ (nI 3) ∧ (nI 3) ≤ 6 := b01t rfl c_14
        refine lv_iload_n F.1 F.2.1 dX5_isUnder_17 rfl (lv_at hl 1 rfl) ?_
        refine lv_iload_n F.1 F.2.1 dX5_isUnder_18 rfl (lv_at hl 3 rfl) ?_
        refine lv_icmp_ne (tgt := 24) F.1 F.2.1 dX5_isUnder_19 (by decide) (fun c_19 => ?_) (fun c_19 => ?_)
        · refine gsZ F hE.2.2.1.1 hz hS (List.mem_of_getElem? (i := 1) rfl) rfl dX5_isUnder_24 ?_
          refine lv_iload_n F.1 F.2.1 dX5_isUnder_27 rfl (lv_at hl 1 rfl) ?_
          refine va_ti F.1 F.2.1 (hE.2.2.1.2.1.narrow hz) hS (i := 3) (vp_in_nI (n := 3) (N := 7) (by decide) (by decide)) (v := .int 1) rfl dX5_isUnder_28 ?_
          refine lv_istore_n (lv' := [(2, .int 1), (3, .int 0), (0, .int (nI 3)), (1, .int o)]) F.1 F.2.1 dX5_isUnder_29 rfl hl (by decide) rfl (fun ls hl => ?_)
          refine lv_iinc (v := 1) (lv' := [(3, .int 1), (2, .int 1), (0, .int (nI 3)), (1, .int o)]) F.1 F.2.1 dX5_isUnder_30 hl (k := 1) rfl (by decide) (by decide) rfl (fun ls hl => ?_)
          refine lv_goto (tgt := 4) F.1 F.2.1 dX5_isUnder_33 (by decide) ?_
          refine lv_iload_n F.1 F.2.1 dX5_isUnder_4 rfl (lv_at hl 0 rfl) ?_
          refine lv_bipush (v := 7) F.1 F.2.1 dX5_isUnder_5 (by decide) ?_
          refine lv_icmp_ge (tgt := 36) F.1 F.2.1 dX5_isUnder_7 (by decide) (fun c_7' => ?_) (fun c_7' => ?_)
          · exact absurd c_7' (by decide)
          · refine lv_iload_n F.1 F.2.1 dX5_isUnder_10 rfl (lv_at hl 1 rfl) ?_
            refine iS (rest := []) (wsp := fun _ => ([] : va_W)) F (kX5_isKind l dC dI ct 1) gX5_isUnder_X5_isKind rfl ⟨rfl, rfl⟩ nmX5_isKind ⟨Nat.le_of_ble_eq_true rfl, Nat.le_of_ble_eq_true rfl⟩ eT_b (fun _ _ _ => trivial) hK hP hD hS hA [] (by decide) rfl rfl rfl hl.1 (Nat.le_of_ble_eq_true rfl) dX5_isUnder_11 ⟨Nat.zero_le _, Nat.zero_le _⟩ (fun _ => rfl) (fun _ => rfl) [] rfl (fun _ => rfl) (fun r_11 u_11 H locs e_11 hP hD hS => ?_)
            obtain rfl := e_11
            refine lv_if_eq (tgt := 36) F.1 F.2.1 dX5_isUnder_14 (by decide) (fun c_14' => ?_) (fun c_14' => ?_)
            · exact absurd c_14' (by decide)
            · have c_14' : 0 ≤ 1 ∧ 1 ≤ 6 := b01t rfl c_14'
              refine lv_iload_n F.1 F.2.1 dX5_isUnder_17 rfl (lv_at hl 1 rfl) ?_
              refine lv_iload_n F.1 F.2.1 dX5_isUnder_18 rfl (lv_at hl 3 rfl) ?_
              refine lv_icmp_ne (tgt := 24) F.1 F.2.1 dX5_isUnder_19 (by decide) (fun c_19' => ?_) (fun c_19' => ?_)
              · refine gsZ F hE.2.2.1.1 hz hS (List.mem_of_getElem? (i := 1) rfl) rfl dX5_isUnder_24 ?_
                refine lv_iload_n F.1 F.2.1 dX5_isUnder_27 rfl (lv_at hl 1 rfl) ?_
                refine va_ti F.1 F.2.1 (hE.2.2.1.2.1.narrow hz) hS (i := 1) (vp_in_nI (n := 1) (N := 7) (by decide) (by decide)) (v := .int 0) rfl dX5_isUnder_28 ?_
                refine lv_istore_n (lv' := [(2, .int 0), (3, .int 1), (0, .int (nI 3)), (1, .int o)]) F.1 F.2.1 dX5_isUnder_29 rfl hl (by decide) rfl (fun ls hl => ?_)
                refine lv_iinc (v := 2) (lv' := [(3, .int 2), (2, .int 0), (0, .int (nI 3)), (1, .int o)]) F.1 F.2.1 dX5_isUnder_30 hl (k := 1) rfl (by decide) (by decide) rfl (fun ls hl => ?_)
                refine lv_goto (tgt := 4) F.1 F.2.1 dX5_isUnder_33 (by decide) ?_
                refine lv_iload_n F.1 F.2.1 dX5_isUnder_4 rfl (lv_at hl 0 rfl) ?_
                refine lv_bipush (v := 7) F.1 F.2.1 dX5_isUnder_5 (by decide) ?_
                refine lv_icmp_ge (tgt := 36) F.1 F.2.1 dX5_isUnder_7 (by decide) (fun c_7'' => ?_) (fun c_7'' => ?_)
                · exact absurd c_7'' (by decide)
                · refine lv_iload_n F.1 F.2.1 dX5_isUnder_10 rfl (lv_at hl 1 rfl) ?_
                  refine iS (rest := []) (wsp := fun _ => ([] : va_W)) F (kX5_isKind l dC dI ct 0) gX5_isUnder_X5_isKind rfl ⟨rfl, rfl⟩ nmX5_isKind ⟨Nat.le_of_ble_eq_true rfl, Nat.le_of_ble_eq_true rfl⟩ eT_b (fun _ _ _ => trivial) hK hP hD hS hA [] (by decide) rfl rfl rfl hl.1 (Nat.le_of_ble_eq_true rfl) dX5_isUnder_11 ⟨Nat.zero_le _, Nat.zero_le _⟩ (fun _ => rfl) (fun _ => rfl) [] rfl (fun _ => rfl) (fun r_11 u_11 H locs e_11 hP hD hS => ?_)
                  obtain rfl := e_11
                  refine lv_if_eq (tgt := 36) F.1 F.2.1 dX5_isUnder_14 (by decide) (fun c_14'' => ?_) (fun c_14'' => ?_)
                  · exact absurd c_14'' (by decide)
                  · have c_14'' : 0 ≤ 0 ∧ 0 ≤ 6 := b01t rfl c_14''
                    refine lv_iload_n F.1 F.2.1 dX5_isUnder_17 rfl (lv_at hl 1 rfl) ?_
                    refine lv_iload_n F.1 F.2.1 dX5_isUnder_18 rfl (lv_at hl 3 rfl) ?_
                    refine lv_icmp_ne (tgt := 24) F.1 F.2.1 dX5_isUnder_19 (by decide) (fun c_19'' => ?_) (fun c_19'' => ?_)
                    · refine gsZ F hE.2.2.1.1 hz hS (List.mem_of_getElem? (i := 1) rfl) rfl dX5_isUnder_24 ?_
                      refine lv_iload_n F.1 F.2.1 dX5_isUnder_27 rfl (lv_at hl 1 rfl) ?_
                      refine va_ti F.1 F.2.1 (hE.2.2.1.2.1.narrow hz) hS (i := 0) (vp_in_nI (n := 0) (N := 7) (by decide) (by decide)) (v := .int (-1)) rfl dX5_isUnder_28 ?_
                      refine lv_istore_n (lv' := [(2, .int (-1)), (3, .int 2), (0, .int (nI 3)), (1, .int o)]) F.1 F.2.1 dX5_isUnder_29 rfl hl (by decide) rfl (fun ls hl => ?_)
                      refine lv_iinc (v := 3) (lv' := [(3, .int 3), (2, .int (-1)), (0, .int (nI 3)), (1, .int o)]) F.1 F.2.1 dX5_isUnder_30 hl (k := 1) rfl (by decide) (by decide) rfl (fun ls hl => ?_)
                      refine lv_goto (tgt := 4) F.1 F.2.1 dX5_isUnder_33 (by decide) ?_
                      refine lv_iload_n F.1 F.2.1 dX5_isUnder_4 rfl (lv_at hl 0 rfl) ?_
                      refine lv_bipush (v := 7) F.1 F.2.1 dX5_isUnder_5 (by decide) ?_
                      refine lv_icmp_ge (tgt := 36) F.1 F.2.1 dX5_isUnder_7 (by decide) (fun c_7''' => ?_) (fun c_7''' => ?_)
                      · exact absurd c_7''' (by decide)
                      · refine lv_iload_n F.1 F.2.1 dX5_isUnder_10 rfl (lv_at hl 1 rfl) ?_
                        refine iS (rest := []) (wsp := fun _ => ([] : va_W)) F (kX5_isKind l dC dI ct (-1)) gX5_isUnder_X5_isKind rfl ⟨rfl, rfl⟩ nmX5_isKind ⟨Nat.le_of_ble_eq_true rfl, Nat.le_of_ble_eq_true rfl⟩ eT_b (fun _ _ _ => trivial) hK hP hD hS hA [] (by decide) rfl rfl rfl hl.1 (Nat.le_of_ble_eq_true rfl) dX5_isUnder_11 ⟨Nat.zero_le _, Nat.zero_le _⟩ (fun _ => rfl) (fun _ => rfl) [] rfl (fun _ => rfl) (fun r_11 u_11 H locs e_11 hP hD hS => ?_)
                        obtain rfl := e_11
                        refine lv_if_eq (tgt := 36) F.1 F.2.1 dX5_isUnder_14 (by decide) (fun c_14''' => ?_) (fun c_14''' => ?_)
                        · have c_14''' : ¬ (0 ≤ (-1) ∧ (-1) ≤ 6) := b01f rfl c_14'''
                          refine lv_iconst (v := 0) F.1 F.2.1 dX5_isUnder_36 (by decide) ?_
                          exact rtZ () F hr hlk hP hS rfl (by show (0 : Int32) = unF 4 3 o; rw [show unF 4 (3) o = unF 3 (1) o from (if_neg (by decide)).trans ((if_neg c_19).trans (by rw [show upK (3) = (1) from by decide]))]; rw [show unF 3 (1) o = unF 2 (0) o from (if_neg (by decide)).trans ((if_neg c_19').trans (by rw [show upK (1) = (0) from by decide]))]; rw [show unF 2 (0) o = unF 1 (-1) o from (if_neg (by decide)).trans ((if_neg c_19'').trans (by rw [show upK (0) = (-1) from by decide]))]; exact (if_pos (by decide)).symm) (Or.inl rfl) dX5_isUnder_37
                        · exact absurd (by decide) c_14'''
                    · refine lv_iconst (v := 1) F.1 F.2.1 dX5_isUnder_22 (by decide) ?_
                      exact rtZ () F hr hlk hP hS rfl (by rw [← c_19'']; decide) (Or.inr rfl) dX5_isUnder_23
              · refine lv_iconst (v := 1) F.1 F.2.1 dX5_isUnder_22 (by decide) ?_
                exact rtZ () F hr hlk hP hS rfl (by rw [← c_19']; decide) (Or.inr rfl) dX5_isUnder_23
        · refine lv_iconst (v := 1) F.1 F.2.1 dX5_isUnder_22 (by decide) ?_
          exact rtZ () F hr hlk hP hS rfl (by rw [← c_19]; decide) (Or.inr rfl) dX5_isUnder_23
  · skip
    refine lv_iload_n F.1 F.2.1 dX5_isUnder_0 rfl (lv_at hl 0 rfl) ?_
    refine lv_istore_n (lv' := [(2, .int (nI 4)), (0, .int (nI 4)), (1, .int o)]) F.1 F.2.1 dX5_isUnder_1 rfl hl (by decide) rfl (fun ls hl => ?_)
    refine lv_iconst (v := 0) F.1 F.2.1 dX5_isUnder_2 (by decide) ?_
    refine lv_istore_n (lv' := [(3, .int 0), (2, .int (nI 4)), (0, .int (nI 4)), (1, .int o)]) F.1 F.2.1 dX5_isUnder_3 rfl hl (by decide) rfl (fun ls hl => ?_)
    refine lv_iload_n F.1 F.2.1 dX5_isUnder_4 rfl (lv_at hl 0 rfl) ?_
    refine lv_bipush (v := 7) F.1 F.2.1 dX5_isUnder_5 (by decide) ?_
    refine lv_icmp_ge (tgt := 36) F.1 F.2.1 dX5_isUnder_7 (by decide) (fun c_7 => ?_) (fun c_7 => ?_)
    · exact absurd c_7 (by decide)
    · refine lv_iload_n F.1 F.2.1 dX5_isUnder_10 rfl (lv_at hl 1 rfl) ?_
      refine iS (rest := []) (wsp := fun _ => ([] : va_W)) F (kX5_isKind l dC dI ct (nI 4)) gX5_isUnder_X5_isKind rfl ⟨rfl, rfl⟩ nmX5_isKind ⟨Nat.le_of_ble_eq_true rfl, Nat.le_of_ble_eq_true rfl⟩ eT_b (fun _ _ _ => trivial) hK hP hD hS hA [] (by decide) rfl rfl rfl hl.1 (Nat.le_of_ble_eq_true rfl) dX5_isUnder_11 ⟨Nat.zero_le _, Nat.zero_le _⟩ (fun _ => rfl) (fun _ => rfl) [] rfl (fun _ => rfl) (fun r_11 u_11 H locs e_11 hP hD hS => ?_)
      obtain rfl := e_11
      refine lv_if_eq (tgt := 36) F.1 F.2.1 dX5_isUnder_14 (by decide) (fun c_14 => ?_) (fun c_14 => ?_)
      · exact absurd c_14 (by decide)
      · have c_14 : 0 ≤ (nI 4) ∧ (nI 4) ≤ 6 := b01t rfl c_14
        refine lv_iload_n F.1 F.2.1 dX5_isUnder_17 rfl (lv_at hl 1 rfl) ?_
        refine lv_iload_n F.1 F.2.1 dX5_isUnder_18 rfl (lv_at hl 3 rfl) ?_
        refine lv_icmp_ne (tgt := 24) F.1 F.2.1 dX5_isUnder_19 (by decide) (fun c_19 => ?_) (fun c_19 => ?_)
        · refine gsZ F hE.2.2.1.1 hz hS (List.mem_of_getElem? (i := 1) rfl) rfl dX5_isUnder_24 ?_
          refine lv_iload_n F.1 F.2.1 dX5_isUnder_27 rfl (lv_at hl 1 rfl) ?_
          refine va_ti F.1 F.2.1 (hE.2.2.1.2.1.narrow hz) hS (i := 4) (vp_in_nI (n := 4) (N := 7) (by decide) (by decide)) (v := .int 2) rfl dX5_isUnder_28 ?_
          refine lv_istore_n (lv' := [(2, .int 2), (3, .int 0), (0, .int (nI 4)), (1, .int o)]) F.1 F.2.1 dX5_isUnder_29 rfl hl (by decide) rfl (fun ls hl => ?_)
          refine lv_iinc (v := 1) (lv' := [(3, .int 1), (2, .int 2), (0, .int (nI 4)), (1, .int o)]) F.1 F.2.1 dX5_isUnder_30 hl (k := 1) rfl (by decide) (by decide) rfl (fun ls hl => ?_)
          refine lv_goto (tgt := 4) F.1 F.2.1 dX5_isUnder_33 (by decide) ?_
          refine lv_iload_n F.1 F.2.1 dX5_isUnder_4 rfl (lv_at hl 0 rfl) ?_
          refine lv_bipush (v := 7) F.1 F.2.1 dX5_isUnder_5 (by decide) ?_
          refine lv_icmp_ge (tgt := 36) F.1 F.2.1 dX5_isUnder_7 (by decide) (fun c_7' => ?_) (fun c_7' => ?_)
          · exact absurd c_7' (by decide)
          · refine lv_iload_n F.1 F.2.1 dX5_isUnder_10 rfl (lv_at hl 1 rfl) ?_
            refine iS (rest := []) (wsp := fun _ => ([] : va_W)) F (kX5_isKind l dC dI ct 2) gX5_isUnder_X5_isKind rfl ⟨rfl, rfl⟩ nmX5_isKind ⟨Nat.le_of_ble_eq_true rfl, Nat.le_of_ble_eq_true rfl⟩ eT_b (fun _ _ _ => trivial) hK hP hD hS hA [] (by decide) rfl rfl rfl hl.1 (Nat.le_of_ble_eq_true rfl) dX5_isUnder_11 ⟨Nat.zero_le _, Nat.zero_le _⟩ (fun _ => rfl) (fun _ => rfl) [] rfl (fun _ => rfl) (fun r_11 u_11 H locs e_11 hP hD hS => ?_)
            obtain rfl := e_11
            refine lv_if_eq (tgt := 36) F.1 F.2.1 dX5_isUnder_14 (by decide) (fun c_14' => ?_) (fun c_14' => ?_)
            · exact absurd c_14' (by decide)
            · have c_14' : 0 ≤ 2 ∧ 2 ≤ 6 := b01t rfl c_14'
              refine lv_iload_n F.1 F.2.1 dX5_isUnder_17 rfl (lv_at hl 1 rfl) ?_
              refine lv_iload_n F.1 F.2.1 dX5_isUnder_18 rfl (lv_at hl 3 rfl) ?_
              refine lv_icmp_ne (tgt := 24) F.1 F.2.1 dX5_isUnder_19 (by decide) (fun c_19' => ?_) (fun c_19' => ?_)
              · refine gsZ F hE.2.2.1.1 hz hS (List.mem_of_getElem? (i := 1) rfl) rfl dX5_isUnder_24 ?_
                refine lv_iload_n F.1 F.2.1 dX5_isUnder_27 rfl (lv_at hl 1 rfl) ?_
                refine va_ti F.1 F.2.1 (hE.2.2.1.2.1.narrow hz) hS (i := 2) (vp_in_nI (n := 2) (N := 7) (by decide) (by decide)) (v := .int 0) rfl dX5_isUnder_28 ?_
                refine lv_istore_n (lv' := [(2, .int 0), (3, .int 1), (0, .int (nI 4)), (1, .int o)]) F.1 F.2.1 dX5_isUnder_29 rfl hl (by decide) rfl (fun ls hl => ?_)
                refine lv_iinc (v := 2) (lv' := [(3, .int 2), (2, .int 0), (0, .int (nI 4)), (1, .int o)]) F.1 F.2.1 dX5_isUnder_30 hl (k := 1) rfl (by decide) (by decide) rfl (fun ls hl => ?_)
                refine lv_goto (tgt := 4) F.1 F.2.1 dX5_isUnder_33 (by decide) ?_
                refine lv_iload_n F.1 F.2.1 dX5_isUnder_4 rfl (lv_at hl 0 rfl) ?_
                refine lv_bipush (v := 7) F.1 F.2.1 dX5_isUnder_5 (by decide) ?_
                refine lv_icmp_ge (tgt := 36) F.1 F.2.1 dX5_isUnder_7 (by decide) (fun c_7'' => ?_) (fun c_7'' => ?_)
                · exact absurd c_7'' (by decide)
                · refine lv_iload_n F.1 F.2.1 dX5_isUnder_10 rfl (lv_at hl 1 rfl) ?_
                  refine iS (rest := []) (wsp := fun _ => ([] : va_W)) F (kX5_isKind l dC dI ct 0) gX5_isUnder_X5_isKind rfl ⟨rfl, rfl⟩ nmX5_isKind ⟨Nat.le_of_ble_eq_true rfl, Nat.le_of_ble_eq_true rfl⟩ eT_b (fun _ _ _ => trivial) hK hP hD hS hA [] (by decide) rfl rfl rfl hl.1 (Nat.le_of_ble_eq_true rfl) dX5_isUnder_11 ⟨Nat.zero_le _, Nat.zero_le _⟩ (fun _ => rfl) (fun _ => rfl) [] rfl (fun _ => rfl) (fun r_11 u_11 H locs e_11 hP hD hS => ?_)
                  obtain rfl := e_11
                  refine lv_if_eq (tgt := 36) F.1 F.2.1 dX5_isUnder_14 (by decide) (fun c_14'' => ?_) (fun c_14'' => ?_)
                  · exact absurd c_14'' (by decide)
                  · have c_14'' : 0 ≤ 0 ∧ 0 ≤ 6 := b01t rfl c_14''
                    refine lv_iload_n F.1 F.2.1 dX5_isUnder_17 rfl (lv_at hl 1 rfl) ?_
                    refine lv_iload_n F.1 F.2.1 dX5_isUnder_18 rfl (lv_at hl 3 rfl) ?_
                    refine lv_icmp_ne (tgt := 24) F.1 F.2.1 dX5_isUnder_19 (by decide) (fun c_19'' => ?_) (fun c_19'' => ?_)
                    · refine gsZ F hE.2.2.1.1 hz hS (List.mem_of_getElem? (i := 1) rfl) rfl dX5_isUnder_24 ?_
                      refine lv_iload_n F.1 F.2.1 dX5_isUnder_27 rfl (lv_at hl 1 rfl) ?_
                      refine va_ti F.1 F.2.1 (hE.2.2.1.2.1.narrow hz) hS (i := 0) (vp_in_nI (n := 0) (N := 7) (by decide) (by decide)) (v := .int (-1)) rfl dX5_isUnder_28 ?_
                      refine lv_istore_n (lv' := [(2, .int (-1)), (3, .int 2), (0, .int (nI 4)), (1, .int o)]) F.1 F.2.1 dX5_isUnder_29 rfl hl (by decide) rfl (fun ls hl => ?_)
                      refine lv_iinc (v := 3) (lv' := [(3, .int 3), (2, .int (-1)), (0, .int (nI 4)), (1, .int o)]) F.1 F.2.1 dX5_isUnder_30 hl (k := 1) rfl (by decide) (by decide) rfl (fun ls hl => ?_)
                      refine lv_goto (tgt := 4) F.1 F.2.1 dX5_isUnder_33 (by decide) ?_
                      refine lv_iload_n F.1 F.2.1 dX5_isUnder_4 rfl (lv_at hl 0 rfl) ?_
                      refine lv_bipush (v := 7) F.1 F.2.1 dX5_isUnder_5 (by decide) ?_
                      refine lv_icmp_ge (tgt := 36) F.1 F.2.1 dX5_isUnder_7 (by decide) (fun c_7''' => ?_) (fun c_7''' => ?_)
                      · exact absurd c_7''' (by decide)
                      · refine lv_iload_n F.1 F.2.1 dX5_isUnder_10 rfl (lv_at hl 1 rfl) ?_
                        refine iS (rest := []) (wsp := fun _ => ([] : va_W)) F (kX5_isKind l dC dI ct (-1)) gX5_isUnder_X5_isKind rfl ⟨rfl, rfl⟩ nmX5_isKind ⟨Nat.le_of_ble_eq_true rfl, Nat.le_of_ble_eq_true rfl⟩ eT_b (fun _ _ _ => trivial) hK hP hD hS hA [] (by decide) rfl rfl rfl hl.1 (Nat.le_of_ble_eq_true rfl) dX5_isUnder_11 ⟨Nat.zero_le _, Nat.zero_le _⟩ (fun _ => rfl) (fun _ => rfl) [] rfl (fun _ => rfl) (fun r_11 u_11 H locs e_11 hP hD hS => ?_)
                        obtain rfl := e_11
                        refine lv_if_eq (tgt := 36) F.1 F.2.1 dX5_isUnder_14 (by decide) (fun c_14''' => ?_) (fun c_14''' => ?_)
                        · have c_14''' : ¬ (0 ≤ (-1) ∧ (-1) ≤ 6) := b01f rfl c_14'''
                          refine lv_iconst (v := 0) F.1 F.2.1 dX5_isUnder_36 (by decide) ?_
                          exact rtZ () F hr hlk hP hS rfl (by show (0 : Int32) = unF 4 4 o; rw [show unF 4 (4) o = unF 3 (2) o from (if_neg (by decide)).trans ((if_neg c_19).trans (by rw [show upK (4) = (2) from by decide]))]; rw [show unF 3 (2) o = unF 2 (0) o from (if_neg (by decide)).trans ((if_neg c_19').trans (by rw [show upK (2) = (0) from by decide]))]; rw [show unF 2 (0) o = unF 1 (-1) o from (if_neg (by decide)).trans ((if_neg c_19'').trans (by rw [show upK (0) = (-1) from by decide]))]; exact (if_pos (by decide)).symm) (Or.inl rfl) dX5_isUnder_37
                        · exact absurd (by decide) c_14'''
                    · refine lv_iconst (v := 1) F.1 F.2.1 dX5_isUnder_22 (by decide) ?_
                      exact rtZ () F hr hlk hP hS rfl (by rw [← c_19'']; decide) (Or.inr rfl) dX5_isUnder_23
              · refine lv_iconst (v := 1) F.1 F.2.1 dX5_isUnder_22 (by decide) ?_
                exact rtZ () F hr hlk hP hS rfl (by rw [← c_19']; decide) (Or.inr rfl) dX5_isUnder_23
        · refine lv_iconst (v := 1) F.1 F.2.1 dX5_isUnder_22 (by decide) ?_
          exact rtZ () F hr hlk hP hS rfl (by rw [← c_19]; decide) (Or.inr rfl) dX5_isUnder_23
  · skip
    refine lv_iload_n F.1 F.2.1 dX5_isUnder_0 rfl (lv_at hl 0 rfl) ?_
    refine lv_istore_n (lv' := [(2, .int (nI 5)), (0, .int (nI 5)), (1, .int o)]) F.1 F.2.1 dX5_isUnder_1 rfl hl (by decide) rfl (fun ls hl => ?_)
    refine lv_iconst (v := 0) F.1 F.2.1 dX5_isUnder_2 (by decide) ?_
    refine lv_istore_n (lv' := [(3, .int 0), (2, .int (nI 5)), (0, .int (nI 5)), (1, .int o)]) F.1 F.2.1 dX5_isUnder_3 rfl hl (by decide) rfl (fun ls hl => ?_)
    refine lv_iload_n F.1 F.2.1 dX5_isUnder_4 rfl (lv_at hl 0 rfl) ?_
    refine lv_bipush (v := 7) F.1 F.2.1 dX5_isUnder_5 (by decide) ?_
    refine lv_icmp_ge (tgt := 36) F.1 F.2.1 dX5_isUnder_7 (by decide) (fun c_7 => ?_) (fun c_7 => ?_)
    · exact absurd c_7 (by decide)
    · refine lv_iload_n F.1 F.2.1 dX5_isUnder_10 rfl (lv_at hl 1 rfl) ?_
      refine iS (rest := []) (wsp := fun _ => ([] : va_W)) F (kX5_isKind l dC dI ct (nI 5)) gX5_isUnder_X5_isKind rfl ⟨rfl, rfl⟩ nmX5_isKind ⟨Nat.le_of_ble_eq_true rfl, Nat.le_of_ble_eq_true rfl⟩ eT_b (fun _ _ _ => trivial) hK hP hD hS hA [] (by decide) rfl rfl rfl hl.1 (Nat.le_of_ble_eq_true rfl) dX5_isUnder_11 ⟨Nat.zero_le _, Nat.zero_le _⟩ (fun _ => rfl) (fun _ => rfl) [] rfl (fun _ => rfl) (fun r_11 u_11 H locs e_11 hP hD hS => ?_)
      obtain rfl := e_11
      refine lv_if_eq (tgt := 36) F.1 F.2.1 dX5_isUnder_14 (by decide) (fun c_14 => ?_) (fun c_14 => ?_)
      · exact absurd c_14 (by decide)
      · have c_14 : 0 ≤ (nI 5) ∧ (nI 5) ≤ 6 := b01t rfl c_14
        refine lv_iload_n F.1 F.2.1 dX5_isUnder_17 rfl (lv_at hl 1 rfl) ?_
        refine lv_iload_n F.1 F.2.1 dX5_isUnder_18 rfl (lv_at hl 3 rfl) ?_
        refine lv_icmp_ne (tgt := 24) F.1 F.2.1 dX5_isUnder_19 (by decide) (fun c_19 => ?_) (fun c_19 => ?_)
        · refine gsZ F hE.2.2.1.1 hz hS (List.mem_of_getElem? (i := 1) rfl) rfl dX5_isUnder_24 ?_
          refine lv_iload_n F.1 F.2.1 dX5_isUnder_27 rfl (lv_at hl 1 rfl) ?_
          refine va_ti F.1 F.2.1 (hE.2.2.1.2.1.narrow hz) hS (i := 5) (vp_in_nI (n := 5) (N := 7) (by decide) (by decide)) (v := .int 0) rfl dX5_isUnder_28 ?_
          refine lv_istore_n (lv' := [(2, .int 0), (3, .int 0), (0, .int (nI 5)), (1, .int o)]) F.1 F.2.1 dX5_isUnder_29 rfl hl (by decide) rfl (fun ls hl => ?_)
          refine lv_iinc (v := 1) (lv' := [(3, .int 1), (2, .int 0), (0, .int (nI 5)), (1, .int o)]) F.1 F.2.1 dX5_isUnder_30 hl (k := 1) rfl (by decide) (by decide) rfl (fun ls hl => ?_)
          refine lv_goto (tgt := 4) F.1 F.2.1 dX5_isUnder_33 (by decide) ?_
          refine lv_iload_n F.1 F.2.1 dX5_isUnder_4 rfl (lv_at hl 0 rfl) ?_
          refine lv_bipush (v := 7) F.1 F.2.1 dX5_isUnder_5 (by decide) ?_
          refine lv_icmp_ge (tgt := 36) F.1 F.2.1 dX5_isUnder_7 (by decide) (fun c_7' => ?_) (fun c_7' => ?_)
          · exact absurd c_7' (by decide)
          · refine lv_iload_n F.1 F.2.1 dX5_isUnder_10 rfl (lv_at hl 1 rfl) ?_
            refine iS (rest := []) (wsp := fun _ => ([] : va_W)) F (kX5_isKind l dC dI ct 0) gX5_isUnder_X5_isKind rfl ⟨rfl, rfl⟩ nmX5_isKind ⟨Nat.le_of_ble_eq_true rfl, Nat.le_of_ble_eq_true rfl⟩ eT_b (fun _ _ _ => trivial) hK hP hD hS hA [] (by decide) rfl rfl rfl hl.1 (Nat.le_of_ble_eq_true rfl) dX5_isUnder_11 ⟨Nat.zero_le _, Nat.zero_le _⟩ (fun _ => rfl) (fun _ => rfl) [] rfl (fun _ => rfl) (fun r_11 u_11 H locs e_11 hP hD hS => ?_)
            obtain rfl := e_11
            refine lv_if_eq (tgt := 36) F.1 F.2.1 dX5_isUnder_14 (by decide) (fun c_14' => ?_) (fun c_14' => ?_)
            · exact absurd c_14' (by decide)
            · have c_14' : 0 ≤ 0 ∧ 0 ≤ 6 := b01t rfl c_14'
              refine lv_iload_n F.1 F.2.1 dX5_isUnder_17 rfl (lv_at hl 1 rfl) ?_
              refine lv_iload_n F.1 F.2.1 dX5_isUnder_18 rfl (lv_at hl 3 rfl) ?_
              refine lv_icmp_ne (tgt := 24) F.1 F.2.1 dX5_isUnder_19 (by decide) (fun c_19' => ?_) (fun c_19' => ?_)
              · refine gsZ F hE.2.2.1.1 hz hS (List.mem_of_getElem? (i := 1) rfl) rfl dX5_isUnder_24 ?_
                refine lv_iload_n F.1 F.2.1 dX5_isUnder_27 rfl (lv_at hl 1 rfl) ?_
                refine va_ti F.1 F.2.1 (hE.2.2.1.2.1.narrow hz) hS (i := 0) (vp_in_nI (n := 0) (N := 7) (by decide) (by decide)) (v := .int (-1)) rfl dX5_isUnder_28 ?_
                refine lv_istore_n (lv' := [(2, .int (-1)), (3, .int 1), (0, .int (nI 5)), (1, .int o)]) F.1 F.2.1 dX5_isUnder_29 rfl hl (by decide) rfl (fun ls hl => ?_)
                refine lv_iinc (v := 2) (lv' := [(3, .int 2), (2, .int (-1)), (0, .int (nI 5)), (1, .int o)]) F.1 F.2.1 dX5_isUnder_30 hl (k := 1) rfl (by decide) (by decide) rfl (fun ls hl => ?_)
                refine lv_goto (tgt := 4) F.1 F.2.1 dX5_isUnder_33 (by decide) ?_
                refine lv_iload_n F.1 F.2.1 dX5_isUnder_4 rfl (lv_at hl 0 rfl) ?_
                refine lv_bipush (v := 7) F.1 F.2.1 dX5_isUnder_5 (by decide) ?_
                refine lv_icmp_ge (tgt := 36) F.1 F.2.1 dX5_isUnder_7 (by decide) (fun c_7'' => ?_) (fun c_7'' => ?_)
                · exact absurd c_7'' (by decide)
                · refine lv_iload_n F.1 F.2.1 dX5_isUnder_10 rfl (lv_at hl 1 rfl) ?_
                  refine iS (rest := []) (wsp := fun _ => ([] : va_W)) F (kX5_isKind l dC dI ct (-1)) gX5_isUnder_X5_isKind rfl ⟨rfl, rfl⟩ nmX5_isKind ⟨Nat.le_of_ble_eq_true rfl, Nat.le_of_ble_eq_true rfl⟩ eT_b (fun _ _ _ => trivial) hK hP hD hS hA [] (by decide) rfl rfl rfl hl.1 (Nat.le_of_ble_eq_true rfl) dX5_isUnder_11 ⟨Nat.zero_le _, Nat.zero_le _⟩ (fun _ => rfl) (fun _ => rfl) [] rfl (fun _ => rfl) (fun r_11 u_11 H locs e_11 hP hD hS => ?_)
                  obtain rfl := e_11
                  refine lv_if_eq (tgt := 36) F.1 F.2.1 dX5_isUnder_14 (by decide) (fun c_14'' => ?_) (fun c_14'' => ?_)
                  · have c_14'' : ¬ (0 ≤ (-1) ∧ (-1) ≤ 6) := b01f rfl c_14''
                    refine lv_iconst (v := 0) F.1 F.2.1 dX5_isUnder_36 (by decide) ?_
                    exact rtZ () F hr hlk hP hS rfl (by show (0 : Int32) = unF 4 5 o; rw [show unF 4 (5) o = unF 3 (0) o from (if_neg (by decide)).trans ((if_neg c_19).trans (by rw [show upK (5) = (0) from by decide]))]; rw [show unF 3 (0) o = unF 2 (-1) o from (if_neg (by decide)).trans ((if_neg c_19').trans (by rw [show upK (0) = (-1) from by decide]))]; exact (if_pos (by decide)).symm) (Or.inl rfl) dX5_isUnder_37
                  · exact absurd (by decide) c_14''
              · refine lv_iconst (v := 1) F.1 F.2.1 dX5_isUnder_22 (by decide) ?_
                exact rtZ () F hr hlk hP hS rfl (by rw [← c_19']; decide) (Or.inr rfl) dX5_isUnder_23
        · refine lv_iconst (v := 1) F.1 F.2.1 dX5_isUnder_22 (by decide) ?_
          exact rtZ () F hr hlk hP hS rfl (by rw [← c_19]; decide) (Or.inr rfl) dX5_isUnder_23
  · skip
    refine lv_iload_n F.1 F.2.1 dX5_isUnder_0 rfl (lv_at hl 0 rfl) ?_
    refine lv_istore_n (lv' := [(2, .int (nI 6)), (0, .int (nI 6)), (1, .int o)]) F.1 F.2.1 dX5_isUnder_1 rfl hl (by decide) rfl (fun ls hl => ?_)
    refine lv_iconst (v := 0) F.1 F.2.1 dX5_isUnder_2 (by decide) ?_
    refine lv_istore_n (lv' := [(3, .int 0), (2, .int (nI 6)), (0, .int (nI 6)), (1, .int o)]) F.1 F.2.1 dX5_isUnder_3 rfl hl (by decide) rfl (fun ls hl => ?_)
    refine lv_iload_n F.1 F.2.1 dX5_isUnder_4 rfl (lv_at hl 0 rfl) ?_
    refine lv_bipush (v := 7) F.1 F.2.1 dX5_isUnder_5 (by decide) ?_
    refine lv_icmp_ge (tgt := 36) F.1 F.2.1 dX5_isUnder_7 (by decide) (fun c_7 => ?_) (fun c_7 => ?_)
    · exact absurd c_7 (by decide)
    · refine lv_iload_n F.1 F.2.1 dX5_isUnder_10 rfl (lv_at hl 1 rfl) ?_
      refine iS (rest := []) (wsp := fun _ => ([] : va_W)) F (kX5_isKind l dC dI ct (nI 6)) gX5_isUnder_X5_isKind rfl ⟨rfl, rfl⟩ nmX5_isKind ⟨Nat.le_of_ble_eq_true rfl, Nat.le_of_ble_eq_true rfl⟩ eT_b (fun _ _ _ => trivial) hK hP hD hS hA [] (by decide) rfl rfl rfl hl.1 (Nat.le_of_ble_eq_true rfl) dX5_isUnder_11 ⟨Nat.zero_le _, Nat.zero_le _⟩ (fun _ => rfl) (fun _ => rfl) [] rfl (fun _ => rfl) (fun r_11 u_11 H locs e_11 hP hD hS => ?_)
      obtain rfl := e_11
      refine lv_if_eq (tgt := 36) F.1 F.2.1 dX5_isUnder_14 (by decide) (fun c_14 => ?_) (fun c_14 => ?_)
      · exact absurd c_14 (by decide)
      · have c_14 : 0 ≤ (nI 6) ∧ (nI 6) ≤ 6 := b01t rfl c_14
        refine lv_iload_n F.1 F.2.1 dX5_isUnder_17 rfl (lv_at hl 1 rfl) ?_
        refine lv_iload_n F.1 F.2.1 dX5_isUnder_18 rfl (lv_at hl 3 rfl) ?_
        refine lv_icmp_ne (tgt := 24) F.1 F.2.1 dX5_isUnder_19 (by decide) (fun c_19 => ?_) (fun c_19 => ?_)
        · refine gsZ F hE.2.2.1.1 hz hS (List.mem_of_getElem? (i := 1) rfl) rfl dX5_isUnder_24 ?_
          refine lv_iload_n F.1 F.2.1 dX5_isUnder_27 rfl (lv_at hl 1 rfl) ?_
          refine va_ti F.1 F.2.1 (hE.2.2.1.2.1.narrow hz) hS (i := 6) (vp_in_nI (n := 6) (N := 7) (by decide) (by decide)) (v := .int 5) rfl dX5_isUnder_28 ?_
          refine lv_istore_n (lv' := [(2, .int 5), (3, .int 0), (0, .int (nI 6)), (1, .int o)]) F.1 F.2.1 dX5_isUnder_29 rfl hl (by decide) rfl (fun ls hl => ?_)
          refine lv_iinc (v := 1) (lv' := [(3, .int 1), (2, .int 5), (0, .int (nI 6)), (1, .int o)]) F.1 F.2.1 dX5_isUnder_30 hl (k := 1) rfl (by decide) (by decide) rfl (fun ls hl => ?_)
          refine lv_goto (tgt := 4) F.1 F.2.1 dX5_isUnder_33 (by decide) ?_
          refine lv_iload_n F.1 F.2.1 dX5_isUnder_4 rfl (lv_at hl 0 rfl) ?_
          refine lv_bipush (v := 7) F.1 F.2.1 dX5_isUnder_5 (by decide) ?_
          refine lv_icmp_ge (tgt := 36) F.1 F.2.1 dX5_isUnder_7 (by decide) (fun c_7' => ?_) (fun c_7' => ?_)
          · exact absurd c_7' (by decide)
          · refine lv_iload_n F.1 F.2.1 dX5_isUnder_10 rfl (lv_at hl 1 rfl) ?_
            refine iS (rest := []) (wsp := fun _ => ([] : va_W)) F (kX5_isKind l dC dI ct 5) gX5_isUnder_X5_isKind rfl ⟨rfl, rfl⟩ nmX5_isKind ⟨Nat.le_of_ble_eq_true rfl, Nat.le_of_ble_eq_true rfl⟩ eT_b (fun _ _ _ => trivial) hK hP hD hS hA [] (by decide) rfl rfl rfl hl.1 (Nat.le_of_ble_eq_true rfl) dX5_isUnder_11 ⟨Nat.zero_le _, Nat.zero_le _⟩ (fun _ => rfl) (fun _ => rfl) [] rfl (fun _ => rfl) (fun r_11 u_11 H locs e_11 hP hD hS => ?_)
            obtain rfl := e_11
            refine lv_if_eq (tgt := 36) F.1 F.2.1 dX5_isUnder_14 (by decide) (fun c_14' => ?_) (fun c_14' => ?_)
            · exact absurd c_14' (by decide)
            · have c_14' : 0 ≤ 5 ∧ 5 ≤ 6 := b01t rfl c_14'
              refine lv_iload_n F.1 F.2.1 dX5_isUnder_17 rfl (lv_at hl 1 rfl) ?_
              refine lv_iload_n F.1 F.2.1 dX5_isUnder_18 rfl (lv_at hl 3 rfl) ?_
              refine lv_icmp_ne (tgt := 24) F.1 F.2.1 dX5_isUnder_19 (by decide) (fun c_19' => ?_) (fun c_19' => ?_)
              · refine gsZ F hE.2.2.1.1 hz hS (List.mem_of_getElem? (i := 1) rfl) rfl dX5_isUnder_24 ?_
                refine lv_iload_n F.1 F.2.1 dX5_isUnder_27 rfl (lv_at hl 1 rfl) ?_
                refine va_ti F.1 F.2.1 (hE.2.2.1.2.1.narrow hz) hS (i := 5) (vp_in_nI (n := 5) (N := 7) (by decide) (by decide)) (v := .int 0) rfl dX5_isUnder_28 ?_
                refine lv_istore_n (lv' := [(2, .int 0), (3, .int 1), (0, .int (nI 6)), (1, .int o)]) F.1 F.2.1 dX5_isUnder_29 rfl hl (by decide) rfl (fun ls hl => ?_)
                refine lv_iinc (v := 2) (lv' := [(3, .int 2), (2, .int 0), (0, .int (nI 6)), (1, .int o)]) F.1 F.2.1 dX5_isUnder_30 hl (k := 1) rfl (by decide) (by decide) rfl (fun ls hl => ?_)
                refine lv_goto (tgt := 4) F.1 F.2.1 dX5_isUnder_33 (by decide) ?_
                refine lv_iload_n F.1 F.2.1 dX5_isUnder_4 rfl (lv_at hl 0 rfl) ?_
                refine lv_bipush (v := 7) F.1 F.2.1 dX5_isUnder_5 (by decide) ?_
                refine lv_icmp_ge (tgt := 36) F.1 F.2.1 dX5_isUnder_7 (by decide) (fun c_7'' => ?_) (fun c_7'' => ?_)
                · exact absurd c_7'' (by decide)
                · refine lv_iload_n F.1 F.2.1 dX5_isUnder_10 rfl (lv_at hl 1 rfl) ?_
                  refine iS (rest := []) (wsp := fun _ => ([] : va_W)) F (kX5_isKind l dC dI ct 0) gX5_isUnder_X5_isKind rfl ⟨rfl, rfl⟩ nmX5_isKind ⟨Nat.le_of_ble_eq_true rfl, Nat.le_of_ble_eq_true rfl⟩ eT_b (fun _ _ _ => trivial) hK hP hD hS hA [] (by decide) rfl rfl rfl hl.1 (Nat.le_of_ble_eq_true rfl) dX5_isUnder_11 ⟨Nat.zero_le _, Nat.zero_le _⟩ (fun _ => rfl) (fun _ => rfl) [] rfl (fun _ => rfl) (fun r_11 u_11 H locs e_11 hP hD hS => ?_)
                  obtain rfl := e_11
                  refine lv_if_eq (tgt := 36) F.1 F.2.1 dX5_isUnder_14 (by decide) (fun c_14'' => ?_) (fun c_14'' => ?_)
                  · exact absurd c_14'' (by decide)
                  · have c_14'' : 0 ≤ 0 ∧ 0 ≤ 6 := b01t rfl c_14''
                    refine lv_iload_n F.1 F.2.1 dX5_isUnder_17 rfl (lv_at hl 1 rfl) ?_
                    refine lv_iload_n F.1 F.2.1 dX5_isUnder_18 rfl (lv_at hl 3 rfl) ?_
                    refine lv_icmp_ne (tgt := 24) F.1 F.2.1 dX5_isUnder_19 (by decide) (fun c_19'' => ?_) (fun c_19'' => ?_)
                    · refine gsZ F hE.2.2.1.1 hz hS (List.mem_of_getElem? (i := 1) rfl) rfl dX5_isUnder_24 ?_
                      refine lv_iload_n F.1 F.2.1 dX5_isUnder_27 rfl (lv_at hl 1 rfl) ?_
                      refine va_ti F.1 F.2.1 (hE.2.2.1.2.1.narrow hz) hS (i := 0) (vp_in_nI (n := 0) (N := 7) (by decide) (by decide)) (v := .int (-1)) rfl dX5_isUnder_28 ?_
                      refine lv_istore_n (lv' := [(2, .int (-1)), (3, .int 2), (0, .int (nI 6)), (1, .int o)]) F.1 F.2.1 dX5_isUnder_29 rfl hl (by decide) rfl (fun ls hl => ?_)
                      refine lv_iinc (v := 3) (lv' := [(3, .int 3), (2, .int (-1)), (0, .int (nI 6)), (1, .int o)]) F.1 F.2.1 dX5_isUnder_30 hl (k := 1) rfl (by decide) (by decide) rfl (fun ls hl => ?_)
                      refine lv_goto (tgt := 4) F.1 F.2.1 dX5_isUnder_33 (by decide) ?_
                      refine lv_iload_n F.1 F.2.1 dX5_isUnder_4 rfl (lv_at hl 0 rfl) ?_
                      refine lv_bipush (v := 7) F.1 F.2.1 dX5_isUnder_5 (by decide) ?_
                      refine lv_icmp_ge (tgt := 36) F.1 F.2.1 dX5_isUnder_7 (by decide) (fun c_7''' => ?_) (fun c_7''' => ?_)
                      · exact absurd c_7''' (by decide)
                      · refine lv_iload_n F.1 F.2.1 dX5_isUnder_10 rfl (lv_at hl 1 rfl) ?_
                        refine iS (rest := []) (wsp := fun _ => ([] : va_W)) F (kX5_isKind l dC dI ct (-1)) gX5_isUnder_X5_isKind rfl ⟨rfl, rfl⟩ nmX5_isKind ⟨Nat.le_of_ble_eq_true rfl, Nat.le_of_ble_eq_true rfl⟩ eT_b (fun _ _ _ => trivial) hK hP hD hS hA [] (by decide) rfl rfl rfl hl.1 (Nat.le_of_ble_eq_true rfl) dX5_isUnder_11 ⟨Nat.zero_le _, Nat.zero_le _⟩ (fun _ => rfl) (fun _ => rfl) [] rfl (fun _ => rfl) (fun r_11 u_11 H locs e_11 hP hD hS => ?_)
                        obtain rfl := e_11
                        refine lv_if_eq (tgt := 36) F.1 F.2.1 dX5_isUnder_14 (by decide) (fun c_14''' => ?_) (fun c_14''' => ?_)
                        · have c_14''' : ¬ (0 ≤ (-1) ∧ (-1) ≤ 6) := b01f rfl c_14'''
                          refine lv_iconst (v := 0) F.1 F.2.1 dX5_isUnder_36 (by decide) ?_
                          exact rtZ () F hr hlk hP hS rfl (by show (0 : Int32) = unF 4 6 o; rw [show unF 4 (6) o = unF 3 (5) o from (if_neg (by decide)).trans ((if_neg c_19).trans (by rw [show upK (6) = (5) from by decide]))]; rw [show unF 3 (5) o = unF 2 (0) o from (if_neg (by decide)).trans ((if_neg c_19').trans (by rw [show upK (5) = (0) from by decide]))]; rw [show unF 2 (0) o = unF 1 (-1) o from (if_neg (by decide)).trans ((if_neg c_19'').trans (by rw [show upK (0) = (-1) from by decide]))]; exact (if_pos (by decide)).symm) (Or.inl rfl) dX5_isUnder_37
                        · exact absurd (by decide) c_14'''
                    · refine lv_iconst (v := 1) F.1 F.2.1 dX5_isUnder_22 (by decide) ?_
                      exact rtZ () F hr hlk hP hS rfl (by rw [← c_19'']; decide) (Or.inr rfl) dX5_isUnder_23
              · refine lv_iconst (v := 1) F.1 F.2.1 dX5_isUnder_22 (by decide) ?_
                exact rtZ () F hr hlk hP hS rfl (by rw [← c_19']; decide) (Or.inr rfl) dX5_isUnder_23
        · refine lv_iconst (v := 1) F.1 F.2.1 dX5_isUnder_22 (by decide) ?_
          exact rtZ () F hr hlk hP hS rfl (by rw [← c_19]; decide) (Or.inr rfl) dX5_isUnder_23

def rmX5_as : Room := { frames := 3, cells := 0, slots := 0, locals := 65 }
theorem nmX5_as : NmV yX5_as RX5 2 := by unfold NmV; decide +kernel
theorem hiX5_as_1 : ∀ w ∈ u_ws RX1 TX1 10, w ∈ wsX5_as := by decide +kernel
theorem hiX5_as_4 : ∀ w ∈ u_ws RX4 TX4 4, w ∈ wsX5_as := by decide +kernel
theorem hiX5_as_5 : ∀ w ∈ u_ws RX5 TX5 7, w ∈ wsX5_as := by decide +kernel
set_option maxHeartbeats 4000000 in
set_option maxRecDepth 100000 in
theorem kX5_as (l : Launch) (dC : Nat → ClassId) (dI : Nat → Nat → Nat) (ct : Nat → ClassId) (K : Nat → Nat) (rf : List (String × Nat × String × Nat)) (x st kt sc sh fo bk sp : Nat) (tr b : Nat → Nat) (ik zz : Int32) (f c : Nat → Int32) (x1 x2 : Int32) (hS4 : RS f) (hRg : Rg f) : MI (S := (Nat → Int32) × (Nat → Int32)) l yX5_as wsX5_as rmX5_as dC dI ct (EQ K ct rf [x, st, b 0, b 1, b 2, b 3, b 4, b 5, b 6, sp, fo]) [.ref x, .int x1, .int x2] ((x, .inr (5, [.ref st, .ref kt, .int ik, .ref (tr 0), .ref sc, .ref sh, .ref fo])) :: (st, .inr (4, [.ref (b 0), .ref bk, .ref sp, .int zz])) :: wB ct b f ++ (ai ct sp 10 (fun j => f (5 + j)) :: [ai ct fo 7 (fun j => c (j + 1))])) (fun u => (x, .inr (5, [.ref st, .ref kt, .int ik, .ref (tr 0), .ref sc, .ref sh, .ref fo])) :: (st, .inr (4, [.ref (b 0), .ref bk, .ref sp, .int zz])) :: wB ct b u.1 ++ (ai ct sp 10 (fun j => u.1 (5 + j)) :: [ai ct fo 7 (fun j => u.2 (j + 1))])) (fun r u => (r, u.1, u.2) = sAs f c x1 x2) := by
  refine MI.ofz (cc := cX5_as) (maxL := 4) (ret := (some .int)) (by decide) rfl (Nat.le_of_ble_eq_true rfl) ?_
  intro pg en z mi below meth cd A F hr hlk hin hK hP hD hA hS hAz hE ls hl
  have hz := EQ_z (pre := (x, .inr (5, [.ref st, .ref kt, .int ik, .ref (tr 0), .ref sc, .ref sh, .ref fo])) :: (st, .inr (4, [.ref (b 0), .ref bk, .ref sp, .int zz])) :: wB ct b f ++ (ai ct sp 10 (fun j => f (5 + j)) :: [ai ct fo 7 (fun j => c (j + 1))])) (show EQ K ct rf (List.map Prod.fst ((x, .inr (5, [.ref st, .ref kt, .int ik, .ref (tr 0), .ref sc, .ref sh, .ref fo])) :: (st, .inr (4, [.ref (b 0), .ref bk, .ref sp, .int zz])) :: wB ct b f ++ (ai ct sp 10 (fun j => f (5 + j)) :: [ai ct fo 7 (fun j => c (j + 1))]))) z from hE) hAz
  have F : CallFix pg mi cd cX5_as 4 z _ wsX5_as RX5 := F
  have hl : lv_has ls 4 [(0, .ref x), (1, .int x1), (2, .int x2)] := hl
  refine lv_iload_n F.1 F.2.1 dX5_as_0 rfl (lv_at hl 1 rfl) ?_
  refine lv_iconst (v := 0) F.1 F.2.1 dX5_as_1 (by decide) ?_
  refine lv_bipush (v := 9) F.1 F.2.1 dX5_as_2 (by decide) ?_
  refine iS (rest := []) (wsp := fun _ => (x, .inr (5, [.ref st, .ref kt, .int ik, .ref (tr 0), .ref sc, .ref sh, .ref fo])) :: (st, .inr (4, [.ref (b 0), .ref bk, .ref sp, .int zz])) :: wB ct b f ++ (ai ct sp 10 (fun j => f (5 + j)) :: [ai ct fo 7 (fun j => c (j + 1))])) F (kX5_isIn l dC dI ct x1 0 9) gX5_as_X5_isIn rfl ⟨rfl, rfl⟩ nmX5_isIn ⟨Nat.le_of_ble_eq_true rfl, Nat.le_of_ble_eq_true rfl⟩ eT_b (fun _ _ _ => trivial) hK hP hD hS hA [] (by decide) rfl rfl rfl hl.1 (Nat.le_of_ble_eq_true rfl) dX5_as_4 ⟨Nat.zero_le _, Nat.zero_le _⟩ (fun _ => rfl) (fun _ => rfl) [x, st, b 0, b 1, b 2, b 3, b 4, b 5, b 6, sp, fo] rfl (fun _ => rfl) (fun r_4 u_4 H locs e_4 hP hD hS => ?_)
  obtain rfl := e_4
  refine lv_if_eq (tgt := 17) F.1 F.2.1 dX5_as_7 (by decide) (fun c_7 => ?_) (fun c_7 => ?_)
  · have c_7 : ¬ (0 ≤ x1 ∧ x1 ≤ 9) := b01f rfl c_7
    refine lv_aload_n F.1 F.2.1 dX5_as_17 rfl (lv_at hl 0 rfl) ?_
    refine lv_iconst (v := 0) F.1 F.2.1 dX5_as_18 (by decide) ?_
    refine iV (rest := []) (wsp := fun _ => (x, .inr (5, [.ref st, .ref kt, .int ik, .ref (tr 0), .ref sc, .ref sh, .ref fo])) :: (st, .inr (4, [.ref (b 0), .ref bk, .ref sp, .int zz])) :: wB ct b f ++ (ai ct sp 10 (fun j => f (5 + j)) :: [ai ct fo 7 (fun j => (fnd c 1) (j + 1))])) F (kX5_finding l dC dI ct x st kt sc sh fo tr ik c 0 1 (-1000001) (by decide) (by decide) (by decide)) gX5_as_X5_finding rfl ⟨rfl, rfl⟩ nmX5_finding ⟨Nat.le_of_ble_eq_true rfl, Nat.le_of_ble_eq_true rfl⟩ eT_b (fun _ _ _ => trivial) hK hP hD hS hA 0 rfl rfl rfl [0, 10] (by decide) rfl rfl rfl hl.1 (Nat.le_of_ble_eq_true rfl) dX5_as_19 ⟨Nat.zero_le _, Nat.zero_le _⟩ (fun _ => rfl) (fun _ => rfl) [x, st, b 0, b 1, b 2, b 3, b 4, b 5, b 6, sp, fo] rfl (fun _ => rfl) (fun r_19 u_19 H locs e_19 hP hD hS => ?_)
    obtain rfl := e_19
    exact rtI (f, (fnd c 1)) F hr hlk hP hS rfl ((if_neg (fun q => c_7 q.1)).symm) dX5_as_22
  · have c_7 : 0 ≤ x1 ∧ x1 ≤ 9 := b01t rfl c_7
    obtain ⟨i, hi, rfl⟩ := g9_n c_7
    refine lv_iload_n F.1 F.2.1 dX5_as_10 rfl (lv_at hl 2 rfl) ?_
    refine iS (rest := []) (wsp := fun _ => (x, .inr (5, [.ref st, .ref kt, .int ik, .ref (tr 0), .ref sc, .ref sh, .ref fo])) :: (st, .inr (4, [.ref (b 0), .ref bk, .ref sp, .int zz])) :: wB ct b f ++ (ai ct sp 10 (fun j => f (5 + j)) :: [ai ct fo 7 (fun j => c (j + 1))])) F (kX5_isKind l dC dI ct x2) gX5_as_X5_isKind rfl ⟨rfl, rfl⟩ nmX5_isKind ⟨Nat.le_of_ble_eq_true rfl, Nat.le_of_ble_eq_true rfl⟩ eT_b (fun _ _ _ => trivial) hK hP hD hS hA [] (by decide) rfl rfl rfl hl.1 (Nat.le_of_ble_eq_true rfl) dX5_as_11 ⟨Nat.zero_le _, Nat.zero_le _⟩ (fun _ => rfl) (fun _ => rfl) [x, st, b 0, b 1, b 2, b 3, b 4, b 5, b 6, sp, fo] rfl (fun _ => rfl) (fun r_11 u_11 H locs e_11 hP hD hS => ?_)
    obtain rfl := e_11
    refine lv_if_ne (tgt := 23) F.1 F.2.1 dX5_as_14 (by decide) (fun c_14 => ?_) (fun c_14 => ?_)
    · have c_14 : 0 ≤ x2 ∧ x2 ≤ 6 := b01t rfl c_14
      refine lv_aload_n F.1 F.2.1 dX5_as_23 rfl (lv_at hl 0 rfl) ?_
      refine gf F hK hP 0 rfl rfl hiX5_as_5 0 (by decide) (List.mem_of_getElem? (i := 1) rfl) rfl dX5_as_24 ?_
      refine gf F hK hP 1 rfl rfl hiX5_as_4 2 (by decide) (List.mem_of_getElem? (i := 2) rfl) rfl dX5_as_27 ?_
      refine lv_iload_n F.1 F.2.1 dX5_as_30 rfl (lv_at hl 1 rfl) ?_
      refine al (v := f (5 + i)) F hK hP 9 0 rfl rfl i rfl (by omega) (by decide) rfl dX5_as_31 ?_
      refine lv_istore_n (lv' := [(3, .int (f (5 + i))), (0, .ref x), (1, .int (nI i)), (2, .int x2)]) F.1 F.2.1 dX5_as_32 rfl hl (by decide) rfl (fun ls hl => ?_)
      refine lv_iload_n F.1 F.2.1 dX5_as_33 rfl (lv_at hl 0 rfl) ?_
      refine iS (rest := []) (wsp := fun _ => (x, .inr (5, [.ref st, .ref kt, .int ik, .ref (tr 0), .ref sc, .ref sh, .ref fo])) :: (st, .inr (4, [.ref (b 0), .ref bk, .ref sp, .int zz])) :: wB ct b f ++ (ai ct sp 10 (fun j => f (5 + j)) :: [ai ct fo 7 (fun j => c (j + 1))])) F (kX5_isThing l dC dI ct (f (5 + i))) gX5_as_X5_isThing rfl ⟨rfl, rfl⟩ nmX5_isThing ⟨Nat.le_of_ble_eq_true rfl, Nat.le_of_ble_eq_true rfl⟩ eT_b (fun _ _ _ => trivial) hK hP hD hS hA [] (by decide) rfl rfl rfl hl.1 (Nat.le_of_ble_eq_true rfl) dX5_as_34 ⟨Nat.zero_le _, Nat.zero_le _⟩ (fun _ => rfl) (fun _ => rfl) [x, st, b 0, b 1, b 2, b 3, b 4, b 5, b 6, sp, fo] rfl (fun _ => rfl) (fun r_34 u_34 H locs e_34 hP hD hS => ?_)
      obtain rfl := e_34
      refine lv_if_ne (tgt := 46) F.1 F.2.1 dX5_as_37 (by decide) (fun c_37 => ?_) (fun c_37 => ?_)
      · have c_37 : 0 ≤ (f (5 + i)) ∧ (f (5 + i)) ≤ 4 := b01t rfl c_37
        obtain ⟨o, ho, eo⟩ := gT_n c_37
        have hnn : ¬ f (5 + i) < 0 := by rw [eo]; exact nI_pos (by omega)
        obtain ⟨k, hk, ek⟩ := hRg.2.2.2.1 o ho
        refine lv_aload_n F.1 F.2.1 dX5_as_46 rfl (lv_at hl 1 rfl) ?_
        refine gf F hK hP 0 rfl rfl hiX5_as_5 0 (by decide) (List.mem_of_getElem? (i := 1) rfl) rfl dX5_as_47 ?_
        refine gf F hK hP 1 rfl rfl hiX5_as_4 0 (by decide) (List.mem_of_getElem? (i := 3) rfl) rfl dX5_as_50 ?_
        refine gf F hK hP 2 rfl rfl hiX5_as_1 0 (by decide) (List.mem_of_getElem? (i := 4) rfl) rfl dX5_as_53 ?_
        refine lv_iload_n F.1 F.2.1 dX5_as_56 rfl (lv_at hl 0 rfl) ?_
        refine tp (y := nI o) eo ?_
        refine al (v := f (15 + o)) F hK hP 3 0 rfl rfl o rfl (by omega) (by decide) rfl dX5_as_57 ?_
        refine tp (y := nI k) ek ?_
        refine lv_iload_n F.1 F.2.1 dX5_as_58 rfl (lv_at hl 3 rfl) ?_
        refine iS (rest := []) (wsp := fun _ => (x, .inr (5, [.ref st, .ref kt, .int ik, .ref (tr 0), .ref sc, .ref sh, .ref fo])) :: (st, .inr (4, [.ref (b 0), .ref bk, .ref sp, .int zz])) :: wB ct b f ++ (ai ct sp 10 (fun j => f (5 + j)) :: [ai ct fo 7 (fun j => c (j + 1))])) F (kX5_isUnder l dC dI ct K rf k x2 (by omega)) gX5_as_X5_isUnder rfl ⟨rfl, rfl⟩ nmX5_isUnder ⟨Nat.le_of_ble_eq_true rfl, Nat.le_of_ble_eq_true rfl⟩ EQ_b (EQ_call hE hS hz [] rfl) hK hP hD hS hA [] (by decide) rfl rfl rfl hl.1 (Nat.le_of_ble_eq_true rfl) dX5_as_59 ⟨Nat.zero_le _, Nat.zero_le _⟩ (fun _ => rfl) (fun _ => rfl) [x, st, b 0, b 1, b 2, b 3, b 4, b 5, b 6, sp, fo] rfl (fun _ => rfl) (fun r_59 u_59 H locs e_59 hP hD hS => ?_)
        obtain rfl := e_59
        refine lv_if_ne (tgt := 71) F.1 F.2.1 dX5_as_62 (by decide) (fun c_62 => ?_) (fun c_62 => ?_)
        · refine lv_iload_n F.1 F.2.1 dX5_as_71 rfl (lv_at hl 0 rfl) ?_
          exact rtI (f, c) F hr hlk hP hS rfl (Eq.trans (by rw [show tn (nI i) = i from nI_clamp (by omega)]; unfold kAs; rw [if_neg hnn, eo, show tn (nI o) = o from nI_clamp (by omega), ek, if_neg c_62]) (if_pos ⟨c_7, c_14⟩).symm) dX5_as_72
        · refine lv_aload_n F.1 F.2.1 dX5_as_65 rfl (lv_at hl 1 rfl) ?_
          refine lv_iconst (v := 2) F.1 F.2.1 dX5_as_66 (by decide) ?_
          refine iV (rest := []) (wsp := fun _ => (x, .inr (5, [.ref st, .ref kt, .int ik, .ref (tr 0), .ref sc, .ref sh, .ref fo])) :: (st, .inr (4, [.ref (b 0), .ref bk, .ref sp, .int zz])) :: wB ct b f ++ (ai ct sp 10 (fun j => f (5 + j)) :: [ai ct fo 7 (fun j => (fnd c 3) (j + 1))])) F (kX5_finding l dC dI ct x st kt sc sh fo tr ik c 2 3 (-1000003) (by decide) (by decide) (by decide)) gX5_as_X5_finding rfl ⟨rfl, rfl⟩ nmX5_finding ⟨Nat.le_of_ble_eq_true rfl, Nat.le_of_ble_eq_true rfl⟩ eT_b (fun _ _ _ => trivial) hK hP hD hS hA 0 rfl rfl rfl [0, 10] (by decide) rfl rfl rfl hl.1 (Nat.le_of_ble_eq_true rfl) dX5_as_67 ⟨Nat.zero_le _, Nat.zero_le _⟩ (fun _ => rfl) (fun _ => rfl) [x, st, b 0, b 1, b 2, b 3, b 4, b 5, b 6, sp, fo] rfl (fun _ => rfl) (fun r_67 u_67 H locs e_67 hP hD hS => ?_)
          obtain rfl := e_67
          exact rtI (f, (fnd c 3)) F hr hlk hP hS rfl (Eq.trans (by rw [show tn (nI i) = i from nI_clamp (by omega)]; unfold kAs; rw [if_neg hnn, eo, show tn (nI o) = o from nI_clamp (by omega), ek, if_pos c_62] <;> rfl) (if_pos ⟨c_7, c_14⟩).symm) dX5_as_70
      · have c_37 : ¬ (0 ≤ (f (5 + i)) ∧ (f (5 + i)) ≤ 4) := b01f rfl c_37
        have hneg : f (5 + i) < 0 := by rcases hS4 i (by omega) with q | ⟨o, h1, h2⟩ <;> first | (rw [q]; decide) | exact absurd ⟨(by rw [h2]; exact nI_pos' (by omega)), (by rw [h2]; exact nI_le (b := 4) h1 (by decide))⟩ c_37
        refine lv_aload_n F.1 F.2.1 dX5_as_40 rfl (lv_at hl 1 rfl) ?_
        refine lv_iconst (v := 5) F.1 F.2.1 dX5_as_41 (by decide) ?_
        refine iV (rest := []) (wsp := fun _ => (x, .inr (5, [.ref st, .ref kt, .int ik, .ref (tr 0), .ref sc, .ref sh, .ref fo])) :: (st, .inr (4, [.ref (b 0), .ref bk, .ref sp, .int zz])) :: wB ct b f ++ (ai ct sp 10 (fun j => f (5 + j)) :: [ai ct fo 7 (fun j => (fnd c 6) (j + 1))])) F (kX5_finding l dC dI ct x st kt sc sh fo tr ik c 5 6 (-1000006) (by decide) (by decide) (by decide)) gX5_as_X5_finding rfl ⟨rfl, rfl⟩ nmX5_finding ⟨Nat.le_of_ble_eq_true rfl, Nat.le_of_ble_eq_true rfl⟩ eT_b (fun _ _ _ => trivial) hK hP hD hS hA 0 rfl rfl rfl [0, 10] (by decide) rfl rfl rfl hl.1 (Nat.le_of_ble_eq_true rfl) dX5_as_42 ⟨Nat.zero_le _, Nat.zero_le _⟩ (fun _ => rfl) (fun _ => rfl) [x, st, b 0, b 1, b 2, b 3, b 4, b 5, b 6, sp, fo] rfl (fun _ => rfl) (fun r_42 u_42 H locs e_42 hP hD hS => ?_)
        obtain rfl := e_42
        exact rtI (f, (fnd c 6)) F hr hlk hP hS rfl (Eq.trans (by rw [show tn (nI i) = i from nI_clamp (by omega)]; unfold kAs; rw [if_pos hneg] <;> rfl) (if_pos ⟨c_7, c_14⟩).symm) dX5_as_45
    · have c_14 : ¬ (0 ≤ x2 ∧ x2 ≤ 6) := b01f rfl c_14
      refine lv_aload_n F.1 F.2.1 dX5_as_17 rfl (lv_at hl 0 rfl) ?_
      refine lv_iconst (v := 0) F.1 F.2.1 dX5_as_18 (by decide) ?_
      refine iV (rest := []) (wsp := fun _ => (x, .inr (5, [.ref st, .ref kt, .int ik, .ref (tr 0), .ref sc, .ref sh, .ref fo])) :: (st, .inr (4, [.ref (b 0), .ref bk, .ref sp, .int zz])) :: wB ct b f ++ (ai ct sp 10 (fun j => f (5 + j)) :: [ai ct fo 7 (fun j => (fnd c 1) (j + 1))])) F (kX5_finding l dC dI ct x st kt sc sh fo tr ik c 0 1 (-1000001) (by decide) (by decide) (by decide)) gX5_as_X5_finding rfl ⟨rfl, rfl⟩ nmX5_finding ⟨Nat.le_of_ble_eq_true rfl, Nat.le_of_ble_eq_true rfl⟩ eT_b (fun _ _ _ => trivial) hK hP hD hS hA 0 rfl rfl rfl [0, 10] (by decide) rfl rfl rfl hl.1 (Nat.le_of_ble_eq_true rfl) dX5_as_19 ⟨Nat.zero_le _, Nat.zero_le _⟩ (fun _ => rfl) (fun _ => rfl) [x, st, b 0, b 1, b 2, b 3, b 4, b 5, b 6, sp, fo] rfl (fun _ => rfl) (fun r_19 u_19 H locs e_19 hP hD hS => ?_)
      obtain rfl := e_19
      exact rtI (f, (fnd c 1)) F hr hlk hP hS rfl ((if_neg (fun q => c_14 q.2)).symm) dX5_as_22
