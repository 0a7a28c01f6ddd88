def rmX5_tryHeap : Room := { frames := 3, cells := 0, slots := 0, locals := 81 }
theorem nmX5_tryHeap : NmV yX5_tryHeap RX5 2 := by unfold NmV; decide +kernel
theorem hiX5_tryHeap_4 : ∀ w ∈ u_ws RX4 TX4 4, w ∈ wsX5_tryHeap := by decide +kernel
theorem hiX5_tryHeap_5 : ∀ w ∈ u_ws RX5 TX5 7, w ∈ wsX5_tryHeap := by decide +kernel
set_option maxHeartbeats 4000000 in
set_option maxRecDepth 100000 in
theorem kX5_tryHeap (l : Launch) (dC : Nat → ClassId) (dI : Nat → Nat → Nat) (ct : Nat → ClassId) (x st kt sc sh fo bk sp : Nat) (tr b : Nat → Nat) (ik zz : Int32) (f w : Nat → Int32) (s k : Nat) (hs : s < 2) (hk : k < 64) (hT : 0 < f (21 + 17 * s)) : MI (S := (Nat → Int32)) l yX5_tryHeap wsX5_tryHeap rmX5_tryHeap dC dI ct eT [.ref x, .int (nI s), .int (nI k)] ((x, .inr (5, [.ref st, .ref kt, .int ik, .ref (tr 0), .ref sc, .ref sh, .ref fo])) :: (st, .inr (4, [.ref (b 0), .ref bk, .ref sp, .int zz])) :: (wB ct b f ++ (wB ct tr w))) (fun u => (x, .inr (5, [.ref st, .ref kt, .int ik, .ref (tr 0), .ref sc, .ref sh, .ref fo])) :: (st, .inr (4, [.ref (b 0), .ref bk, .ref sp, .int zz])) :: (wB ct b f ++ (wB ct tr u))) (fun r u => r = (if may3 (goU f s s 5) s k then 1 else 0) ∧ (may3 (goU f s s 5) s k → u = lay3 (goU f s s 5) s k)) := by
  refine MI.of (cc := cX5_tryHeap) (maxL := 5) (ret := (some .boolean)) (by decide) rfl (Nat.le_of_ble_eq_true rfl) ?_
  intro pg en z mi below meth cd A F hr hlk hin hK hP hD hA hS hE ls hl
  have F : CallFix pg mi cd cX5_tryHeap 5 z _ wsX5_tryHeap RX5 := F
  have hl : lv_has ls 5 [(0, .ref x), (1, .int (nI s)), (2, .int (nI k))] := hl
  refine lv_aload_n F.1 F.2.1 dX5_tryHeap_0 rfl (lv_at hl 0 rfl) ?_
  refine gf F hK hP 0 rfl rfl hiX5_tryHeap_5 3 (by decide) (List.mem_of_getElem? (i := 1) rfl) rfl dX5_tryHeap_1 ?_
  refine lv_aload_n F.1 F.2.1 dX5_tryHeap_4 rfl (lv_at hl 0 rfl) ?_
  refine gf F hK hP 0 rfl rfl hiX5_tryHeap_5 0 (by decide) (List.mem_of_getElem? (i := 2) rfl) rfl dX5_tryHeap_5 ?_
  refine gf F hK hP 1 rfl rfl hiX5_tryHeap_4 0 (by decide) (List.mem_of_getElem? (i := 3) rfl) rfl dX5_tryHeap_8 ?_
  refine vV (rest := []) (wsp := fun _ => (x, .inr (5, [.ref st, .ref kt, .int ik, .ref (tr 0), .ref sc, .ref sh, .ref fo])) :: (st, .inr (4, [.ref (b 0), .ref bk, .ref sp, .int zz])) :: (wB ct b f ++ (wB ct tr f))) F (kX1_copyFrom l dC dI ct tr b f w) gX5_tryHeap_X1_copyFrom rfl ⟨rfl, rfl⟩ nmX1_copyFrom ⟨Nat.le_of_ble_eq_true rfl, Nat.le_of_ble_eq_true rfl⟩ eT_b (fun _ _ _ => trivial) hK hP hD hS hA 9 rfl rfl rfl [9, 10, 11, 12, 13, 14, 15, 2, 3, 4, 5, 6, 7, 8] (by decide) rfl rfl rfl hl.1 (Nat.le_of_ble_eq_true rfl) dX5_tryHeap_11 ⟨Nat.zero_le _, Nat.zero_le _⟩ (fun _ => rfl) (fun _ => rfl) [x, st, b 0, b 1, b 2, b 3, b 4, b 5, b 6, tr 0, tr 1, tr 2, tr 3, tr 4, tr 5, tr 6] rfl (fun _ => rfl) (fun u_11 H locs e_11 hP hD hS => ?_)
  refine lv_aload_n F.1 F.2.1 dX5_tryHeap_14 rfl (lv_at hl 0 rfl) ?_
  refine gf F hK hP 0 rfl rfl hiX5_tryHeap_5 3 (by decide) (List.mem_of_getElem? (i := 1) rfl) rfl dX5_tryHeap_15 ?_
  refine lv_iload_n F.1 F.2.1 dX5_tryHeap_18 rfl (lv_at hl 1 rfl) ?_
  refine lv_iload_n F.1 F.2.1 dX5_tryHeap_19 rfl (lv_at hl 1 rfl) ?_
  refine vV (rest := []) (wsp := fun _ => (x, .inr (5, [.ref st, .ref kt, .int ik, .ref (tr 0), .ref sc, .ref sh, .ref fo])) :: (st, .inr (4, [.ref (b 0), .ref bk, .ref sp, .int zz])) :: (wB ct b f ++ (wB ct tr (goU f s s 5)))) F (kX1_bringHome l dC dI ct tr f s s (by omega) (by omega)) gX5_tryHeap_X1_bringHome rfl ⟨rfl, rfl⟩ nmX1_bringHome ⟨Nat.le_of_ble_eq_true rfl, Nat.le_of_ble_eq_true rfl⟩ eT_b (fun _ _ _ => trivial) hK hP hD hS hA 9 rfl rfl rfl [9, 10, 11, 12, 13, 14, 15] (by decide) rfl rfl rfl hl.1 (Nat.le_of_ble_eq_true rfl) dX5_tryHeap_20 ⟨Nat.zero_le _, Nat.zero_le _⟩ (fun _ => rfl) (fun _ => rfl) [x, st, b 0, b 1, b 2, b 3, b 4, b 5, b 6, tr 0, tr 1, tr 2, tr 3, tr 4, tr 5, tr 6] rfl (fun _ => rfl) (fun u_20 H locs e_20 hP hD hS => ?_)
  refine lv_iconst (v := 0) F.1 F.2.1 dX5_tryHeap_23 (by decide) ?_
  refine lv_istore_n (lv' := [(3, .int 0), (0, .ref x), (1, .int (nI s)), (2, .int (nI k))]) F.1 F.2.1 dX5_tryHeap_24 rfl hl (by decide) rfl (fun ls hl => ?_)
  refine loopN (I := fun t H locs ls => va_P (dC, dI) vwCl ((x, .inr (5, [.ref st, .ref kt, .int ik, .ref (tr 0), .ref sc, .ref sh, .ref fo])) :: (st, .inr (4, [.ref (b 0), .ref bk, .ref sp, .int zz])) :: (wB ct b f ++ (wB ct tr (lyU (goU f s s 5) s k t)))) H ∧ va_D A ((x, .inr (5, [.ref st, .ref kt, .int ik, .ref (tr 0), .ref sc, .ref sh, .ref fo])) :: (st, .inr (4, [.ref (b 0), .ref bk, .ref sp, .int zz])) :: (wB ct b f ++ (wB ct tr (lyU (goU f s s 5) s k t)))) ∧ va_S A z.heap H locs ∧ lv_has ls 5 [(3, .int (nI t)), (0, .ref x), (1, .int (nI s)), (2, .int (nI k))] ∧ ∀ j, j < t → nI (k / 4 ^ j % 4) ≤ goU f s s 5 (22 + 17 * s + j)) 3 0 (by omega) ⟨hP, hD, hS, lv_sub hl [0, 1, 2, 3] rfl, fun j hj => absurd hj (by omega)⟩ (fun H locs ls hI => ?_) (fun t hk_t H locs ls hI ih_25 => ?_)
  · obtain ⟨hP, hD, hS, hl, hx⟩ := hI
    refine lv_iload_n F.1 F.2.1 dX5_tryHeap_25 rfl (lv_at hl 0 rfl) ?_
    refine lv_iconst (v := 3) F.1 F.2.1 dX5_tryHeap_26 (by decide) ?_
    refine lv_icmp_ge (tgt := 73) F.1 F.2.1 dX5_tryHeap_27 (by decide) (fun c_27 => ?_) (fun c_27 => ?_)
    · refine lv_iconst (v := 1) F.1 F.2.1 dX5_tryHeap_73 (by decide) ?_
      exact rtZ (lyU (goU f s s 5) s k 3) F hr hlk hP hS rfl (⟨(if_pos ((ly_all hk).mpr hx)).symm, fun _ => ly3 hk⟩) (Or.inr rfl) dX5_tryHeap_74
    · exact absurd (nI_le (Nat.le_refl _) (by decide)) c_27
  · obtain ⟨hP, hD, hS, hl, hx⟩ := hI
    refine lv_iload_n F.1 F.2.1 dX5_tryHeap_25 rfl (lv_at hl 0 rfl) ?_
    refine lv_iconst (v := 3) F.1 F.2.1 dX5_tryHeap_26 (by decide) ?_
    refine lv_icmp_ge (tgt := 73) F.1 F.2.1 dX5_tryHeap_27 (by decide) (fun c_27 => ?_) (fun c_27 => ?_)
    · exact absurd c_27 (nI_ge hk_t (by decide))
    · refine lv_iload_n F.1 F.2.1 dX5_tryHeap_30 rfl (lv_at hl 3 rfl) ?_
      refine lv_iconst (v := 2) F.1 F.2.1 dX5_tryHeap_31 (by decide) ?_
      refine lv_iload_n F.1 F.2.1 dX5_tryHeap_32 rfl (lv_at hl 0 rfl) ?_
      refine lv_imul F.1 F.2.1 dX5_tryHeap_33 ?_
      refine tp (y := nI (2 * t)) (ml2 (a := 2) (b := t) (c := 2 * t) rfl rfl rfl) ?_
      refine lv_ishr F.1 F.2.1 dX5_tryHeap_34 ?_
      refine tp (y := nI (k / 4 ^ t)) (shr_k hk t hk_t) ?_
      refine lv_iconst (v := 3) F.1 F.2.1 dX5_tryHeap_35 (by decide) ?_
      refine lv_iand F.1 F.2.1 dX5_tryHeap_36 ?_
      refine tp (y := nI (k / 4 ^ t % 4)) (shr_a hk) ?_
      refine lv_istore (lv' := [(4, .int (nI (k / 4 ^ t % 4))), (3, .int (nI t)), (0, .ref x), (1, .int (nI s)), (2, .int (nI k))]) F.1 F.2.1 dX5_tryHeap_37 hl (by decide) rfl (fun ls hl => ?_)
      refine lv_aload_n F.1 F.2.1 dX5_tryHeap_39 rfl (lv_at hl 2 rfl) ?_
      refine gf F hK hP 0 rfl rfl hiX5_tryHeap_5 3 (by decide) (List.mem_of_getElem? (i := 1) rfl) rfl dX5_tryHeap_40 ?_
      refine lv_iload_n F.1 F.2.1 dX5_tryHeap_43 rfl (lv_at hl 3 rfl) ?_
      refine lv_iload_n F.1 F.2.1 dX5_tryHeap_44 rfl (lv_at hl 1 rfl) ?_
      refine lv_iload F.1 F.2.1 dX5_tryHeap_45 (lv_at hl 0 rfl) ?_
      refine iV (rest := []) (wsp := fun _ => (x, .inr (5, [.ref st, .ref kt, .int ik, .ref (tr 0), .ref sc, .ref sh, .ref fo])) :: (st, .inr (4, [.ref (b 0), .ref bk, .ref sp, .int zz])) :: (wB ct b f ++ (wB ct tr (lyU (goU f s s 5) s k t)))) F (kX1_mayLay l dC dI ct tr (lyU (goU f s s 5) s k t) s t (nI (k / 4 ^ t % 4)) (by omega) (by omega)) gX5_tryHeap_X1_mayLay rfl ⟨rfl, rfl⟩ nmX1_mayLay ⟨Nat.le_of_ble_eq_true rfl, Nat.le_of_ble_eq_true rfl⟩ eT_b (fun _ _ _ => trivial) hK hP hD hS hA 9 rfl rfl rfl [9, 10, 11, 12, 13, 14, 15] (by decide) rfl rfl rfl hl.1 (Nat.le_of_ble_eq_true rfl) dX5_tryHeap_47 ⟨Nat.zero_le _, Nat.zero_le _⟩ (fun _ => rfl) (fun _ => rfl) [x, st, b 0, b 1, b 2, b 3, b 4, b 5, b 6, tr 0, tr 1, tr 2, tr 3, tr 4, tr 5, tr 6] rfl (fun _ => rfl) (fun r_47 u_47 H locs e_47 hP hD hS => ?_)
      obtain rfl := e_47
      refine lv_if_ne (tgt := 55) F.1 F.2.1 dX5_tryHeap_50 (by decide) (fun c_50 => ?_) (fun c_50 => ?_)
      · have c_50 : may (lyU (goU f s s 5) s k t) s t (nI (k / 4 ^ t % 4)) := b01t rfl c_50
        refine lv_aload_n F.1 F.2.1 dX5_tryHeap_55 rfl (lv_at hl 2 rfl) ?_
        refine gf F hK hP 0 rfl rfl hiX5_tryHeap_5 3 (by decide) (List.mem_of_getElem? (i := 1) rfl) rfl dX5_tryHeap_56 ?_
        refine lv_iload_n F.1 F.2.1 dX5_tryHeap_59 rfl (lv_at hl 3 rfl) ?_
        refine lv_iload_n F.1 F.2.1 dX5_tryHeap_60 rfl (lv_at hl 1 rfl) ?_
        refine lv_iload F.1 F.2.1 dX5_tryHeap_61 (lv_at hl 0 rfl) ?_
        refine iV (rest := []) (wsp := fun _ => (x, .inr (5, [.ref st, .ref kt, .int ik, .ref (tr 0), .ref sc, .ref sh, .ref fo])) :: (st, .inr (4, [.ref (b 0), .ref bk, .ref sp, .int zz])) :: (wB ct b f ++ (wB ct tr (laid (lyU (goU f s s 5) s k t) s t (nI (k / 4 ^ t % 4)))))) F (kX1_layDown l dC dI ct tr (lyU (goU f s s 5) s k t) s t (nI (k / 4 ^ t % 4)) (by omega) (by omega)) gX5_tryHeap_X1_layDown rfl ⟨rfl, rfl⟩ nmX1_layDown ⟨Nat.le_of_ble_eq_true rfl, Nat.le_of_ble_eq_true rfl⟩ eT_b (fun _ _ _ => trivial) hK hP hD hS hA 9 rfl rfl rfl [9, 10, 11, 12, 13, 14, 15] (by decide) rfl rfl rfl hl.1 (Nat.le_of_ble_eq_true rfl) dX5_tryHeap_63 ⟨Nat.zero_le _, Nat.zero_le _⟩ (fun _ => rfl) (fun _ => rfl) [x, st, b 0, b 1, b 2, b 3, b 4, b 5, b 6, tr 0, tr 1, tr 2, tr 3, tr 4, tr 5, tr 6] rfl (fun _ => rfl) (fun r_63 u_63 H locs e_63 hP hD hS => ?_)
        obtain rfl := e_63
        refine lv_pop F.1 F.2.1 dX5_tryHeap_66 rfl ?_
        refine lv_iinc (v := nI (t + 1)) (lv' := [(3, .int (nI (t + 1))), (4, .int (nI (k / 4 ^ t % 4))), (0, .ref x), (1, .int (nI s)), (2, .int (nI k))]) F.1 F.2.1 dX5_tryHeap_67 hl (k := 1) rfl (by rw [show Int32.ofInt 1 = nI 1 from rfl, nI_add]) (by decide) rfl (fun ls hl => ?_)
        refine lv_goto (tgt := 25) F.1 F.2.1 dX5_tryHeap_70 (by decide) ?_
        rw [ly_s] at hP hD
        exact ih_25 _ _ _ ⟨hP, hD, hS, lv_sub hl [0, 2, 3, 4] rfl, ly_go hs hk_t hT c_50 hx⟩
      · have c_50 : ¬ (may (lyU (goU f s s 5) s k t) s t (nI (k / 4 ^ t % 4))) := b01f rfl c_50
        refine lv_iconst (v := 0) F.1 F.2.1 dX5_tryHeap_53 (by decide) ?_
        exact rtZ (lyU (goU f s s 5) s k t) F hr hlk hP hS rfl (⟨(if_neg (ly_no hs hk hk_t hT c_50)).symm, fun q => absurd q (ly_no hs hk hk_t hT c_50)⟩) (Or.inl rfl) dX5_tryHeap_54

def rmX5_bestHeap : Room := { frames := 6, cells := 0, slots := 0, locals := 135 }
theorem nmX5_bestHeap : NmV yX5_bestHeap RX5 2 := by unfold NmV; decide +kernel
theorem hiX5_bestHeap_5 : ∀ w ∈ u_ws RX5 TX5 7, w ∈ wsX5_bestHeap := by decide +kernel
set_option maxHeartbeats 4000000 in
set_option maxRecDepth 100000 in
theorem kX5_bestHeap (l : Launch) (dC : Nat → ClassId) (dI : Nat → Nat → Nat) (ct : Nat → ClassId) (x st kt sc sh fo bk sp : Nat) (tr b : Nat → Nat) (ik zz : Int32) (f w : Nat → Int32) (s n : Nat) (hs : s < 2) (hn : n ≤ 30) (hRg : Rg f) (hN : nN f + n ≤ 9999) (hT : 0 < f (21 + 17 * s)) : MI (S := (Nat → Int32)) l yX5_bestHeap wsX5_bestHeap rmX5_bestHeap dC dI ct eT [.ref x, .int (nI s), .int (nI n)] ((x, .inr (5, [.ref st, .ref kt, .int ik, .ref (tr 0), .ref sc, .ref sh, .ref fo])) :: (st, .inr (4, [.ref (b 0), .ref bk, .ref sp, .int zz])) :: (wB ct b f ++ (wB ct tr w))) (fun u => (x, .inr (5, [.ref st, .ref kt, .int ik, .ref (tr 0), .ref sc, .ref sh, .ref fo])) :: (st, .inr (4, [.ref (b 0), .ref bk, .ref sp, .int zz])) :: (wB ct b f ++ (wB ct tr u))) (fun r _ => r = (beU f s n 64).1) := by
  refine MI.of (cc := cX5_bestHeap) (maxL := 7) (ret := (some .int)) (by decide) rfl (Nat.le_of_ble_eq_true rfl) ?_
  intro pg en z mi below meth cd A F hr hlk hin hK hP hD hA hS hE ls hl
  have F : CallFix pg mi cd cX5_bestHeap 7 z _ wsX5_bestHeap RX5 := F
  have hl : lv_has ls 7 [(0, .ref x), (1, .int (nI s)), (2, .int (nI n))] := hl
  refine lv_iconst (v := 0) F.1 F.2.1 dX5_bestHeap_0 (by decide) ?_
  refine lv_istore_n (lv' := [(3, .int 0), (0, .ref x), (1, .int (nI s)), (2, .int (nI n))]) F.1 F.2.1 dX5_bestHeap_1 rfl hl (by decide) rfl (fun ls hl => ?_)
  refine lv_iconst (v := 0) F.1 F.2.1 dX5_bestHeap_2 (by decide) ?_
  refine lv_istore (lv' := [(4, .int 0), (3, .int 0), (0, .ref x), (1, .int (nI s)), (2, .int (nI n))]) F.1 F.2.1 dX5_bestHeap_3 hl (by decide) rfl (fun ls hl => ?_)
  refine lv_iconst (v := 0) F.1 F.2.1 dX5_bestHeap_5 (by decide) ?_
  refine lv_istore (lv' := [(5, .int 0), (4, .int 0), (3, .int 0), (0, .ref x), (1, .int (nI s)), (2, .int (nI n))]) F.1 F.2.1 dX5_bestHeap_6 hl (by decide) rfl (fun ls hl => ?_)
  refine loopN (I := fun k H locs ls => ∃ w : Nat → Int32, va_P (dC, dI) vwCl ((x, .inr (5, [.ref st, .ref kt, .int ik, .ref (tr 0), .ref sc, .ref sh, .ref fo])) :: (st, .inr (4, [.ref (b 0), .ref bk, .ref sp, .int zz])) :: (wB ct b f ++ (wB ct tr w))) H ∧ va_D A ((x, .inr (5, [.ref st, .ref kt, .int ik, .ref (tr 0), .ref sc, .ref sh, .ref fo])) :: (st, .inr (4, [.ref (b 0), .ref bk, .ref sp, .int zz])) :: (wB ct b f ++ (wB ct tr w))) ∧ va_S A z.heap H locs ∧ lv_has ls 7 [(5, .int (nI k)), (4, .int ((beU f s n k).2)), (3, .int ((beU f s n k).1)), (0, .ref x), (1, .int (nI s)), (2, .int (nI n))]) 64 0 (by omega) ⟨w, hP, hD, hS, lv_sub hl [0, 1, 2, 3, 4, 5] rfl⟩ (fun H locs ls hI => ?_) (fun k hk_k H locs ls hI ih_8 => ?_)
  · obtain ⟨w, hP, hD, hS, hl⟩ := hI
    refine lv_iload F.1 F.2.1 dX5_bestHeap_8 (lv_at hl 0 rfl) ?_
    refine lv_bipush (v := 64) F.1 F.2.1 dX5_bestHeap_10 (by decide) ?_
    refine lv_icmp_ge (tgt := 69) F.1 F.2.1 dX5_bestHeap_12 (by decide) (fun c_12 => ?_) (fun c_12 => ?_)
    · refine lv_iload_n F.1 F.2.1 dX5_bestHeap_69 rfl (lv_at hl 2 rfl) ?_
      exact rtI w F hr hlk hP hS rfl rfl dX5_bestHeap_70
    · exact absurd (nI_le (Nat.le_refl _) (by decide)) c_12
  · obtain ⟨w, hP, hD, hS, hl⟩ := hI
    refine lv_iload F.1 F.2.1 dX5_bestHeap_8 (lv_at hl 0 rfl) ?_
    refine lv_bipush (v := 64) F.1 F.2.1 dX5_bestHeap_10 (by decide) ?_
    refine lv_icmp_ge (tgt := 69) F.1 F.2.1 dX5_bestHeap_12 (by decide) (fun c_12 => ?_) (fun c_12 => ?_)
    · exact absurd c_12 (nI_ge hk_k (by decide))
    · refine lv_aload_n F.1 F.2.1 dX5_bestHeap_15 rfl (lv_at hl 3 rfl) ?_
      refine lv_iload_n F.1 F.2.1 dX5_bestHeap_16 rfl (lv_at hl 4 rfl) ?_
      refine lv_iload F.1 F.2.1 dX5_bestHeap_17 (lv_at hl 0 rfl) ?_
      refine iV (rest := []) (wsp := fun u_19 => (x, .inr (5, [.ref st, .ref kt, .int ik, .ref (tr 0), .ref sc, .ref sh, .ref fo])) :: (st, .inr (4, [.ref (b 0), .ref bk, .ref sp, .int zz])) :: (wB ct b f ++ (wB ct tr u_19))) F (kX5_tryHeap l dC dI ct x st kt sc sh fo bk sp tr b ik zz f w s k (by omega) (by omega) hT) gX5_bestHeap_X5_tryHeap rfl ⟨rfl, rfl⟩ nmX5_tryHeap ⟨Nat.le_of_ble_eq_true rfl, Nat.le_of_ble_eq_true rfl⟩ eT_b (fun _ _ _ => trivial) hK hP hD hS hA 0 rfl rfl rfl [0, 1, 2, 3, 4, 5, 6, 7, 8, 9, 10, 11, 12, 13, 14, 15] (by decide) rfl rfl rfl hl.1 (Nat.le_of_ble_eq_true rfl) dX5_bestHeap_19 ⟨Nat.zero_le _, Nat.zero_le _⟩ (fun _ => rfl) (fun _ => rfl) [x, st, b 0, b 1, b 2, b 3, b 4, b 5, b 6, tr 0, tr 1, tr 2, tr 3, tr 4, tr 5, tr 6] rfl (fun _ => rfl) (fun r_19 u_19 H locs e_19 hP hD hS => ?_)
      obtain ⟨rfl, v_19⟩ := e_19
      refine lv_if_eq (tgt := 63) F.1 F.2.1 dX5_bestHeap_22 (by decide) (fun c_22 => ?_) (fun c_22 => ?_)
      · have c_22 : ¬ (may3 (goU f s s 5) s k) := b01f rfl c_22
        refine lv_iinc (v := nI (k + 1)) (lv' := [(5, .int (nI (k + 1))), (4, .int ((beU f s n k).2)), (3, .int ((beU f s n k).1)), (0, .ref x), (1, .int (nI s)), (2, .int (nI n))]) F.1 F.2.1 dX5_bestHeap_63 hl (k := 0) rfl (by rw [show Int32.ofInt 1 = nI 1 from rfl, nI_add]) (by decide) rfl (fun ls hl => ?_)
        refine lv_goto (tgt := 8) F.1 F.2.1 dX5_bestHeap_66 (by decide) ?_
        have eb : beU f s n (k + 1) = beU f s n k := be_no (fun q => c_22 q.1)
        exact ih_8 _ _ _ ⟨u_19, hP, hD, hS, lv_sub hl [0, 1, 2, 3, 4, 5] (by rw [eb]; rfl)⟩
      · have c_22 : may3 (goU f s s 5) s k := b01t rfl c_22
        obtain rfl := v_19 c_22
        refine lv_aload_n F.1 F.2.1 dX5_bestHeap_25 rfl (lv_at hl 3 rfl) ?_
        refine gf F hK hP 0 rfl rfl hiX5_bestHeap_5 3 (by decide) (List.mem_of_getElem? (i := 1) rfl) rfl dX5_bestHeap_26 ?_
        refine lv_iload_n F.1 F.2.1 dX5_bestHeap_29 rfl (lv_at hl 5 rfl) ?_
        refine iV (rest := []) (wsp := fun _ => (x, .inr (5, [.ref st, .ref kt, .int ik, .ref (tr 0), .ref sc, .ref sh, .ref fo])) :: (st, .inr (4, [.ref (b 0), .ref bk, .ref sp, .int zz])) :: (wB ct b f ++ (wB ct tr (ngU (lay3 (goU f s s 5) s k) n)))) F (kX1_passNights l dC dI ct tr (lay3 (goU f s s 5) s k) n (by omega) (beR hRg hs hk_k hN c_22)) gX5_bestHeap_X1_passNights rfl ⟨rfl, rfl⟩ nmX1_passNights ⟨Nat.le_of_ble_eq_true rfl, Nat.le_of_ble_eq_true rfl⟩ eT_b (fun _ _ _ => trivial) hK hP hD hS hA 9 rfl rfl rfl [9, 10, 11, 12, 13, 14, 15] (by decide) rfl rfl rfl hl.1 (Nat.le_of_ble_eq_true rfl) dX5_bestHeap_30 ⟨Nat.zero_le _, Nat.zero_le _⟩ (fun _ => rfl) (fun _ => rfl) [x, st, b 0, b 1, b 2, b 3, b 4, b 5, b 6, tr 0, tr 1, tr 2, tr 3, tr 4, tr 5, tr 6] rfl (fun _ => rfl) (fun r_30 u_30 H locs e_30 hP hD hS => ?_)
        obtain rfl := e_30
        refine lv_pop F.1 F.2.1 dX5_bestHeap_33 rfl ?_
        refine lv_aload_n F.1 F.2.1 dX5_bestHeap_34 rfl (lv_at hl 3 rfl) ?_
        refine gf F hK hP 0 rfl rfl hiX5_bestHeap_5 3 (by decide) (List.mem_of_getElem? (i := 1) rfl) rfl dX5_bestHeap_35 ?_
        refine lv_iload_n F.1 F.2.1 dX5_bestHeap_38 rfl (lv_at hl 4 rfl) ?_
        refine iV (rest := []) (wsp := fun _ => (x, .inr (5, [.ref st, .ref kt, .int ik, .ref (tr 0), .ref sc, .ref sh, .ref fo])) :: (st, .inr (4, [.ref (b 0), .ref bk, .ref sp, .int zz])) :: (wB ct b f ++ (wB ct tr (ngU (lay3 (goU f s s 5) s k) n)))) F (kX1_wealth l dC dI ct tr (ngU (lay3 (goU f s s 5) s k) n) s (by omega) (be_R hRg hs hk_k hN c_22)) gX5_bestHeap_X1_wealth rfl ⟨rfl, rfl⟩ nmX1_wealth ⟨Nat.le_of_ble_eq_true rfl, Nat.le_of_ble_eq_true rfl⟩ eT_b (fun _ _ _ => trivial) hK hP hD hS hA 9 rfl rfl rfl [9, 10, 11, 12, 13, 14, 15] (by decide) rfl rfl rfl hl.1 (Nat.le_of_ble_eq_true rfl) dX5_bestHeap_39 ⟨Nat.zero_le _, Nat.zero_le _⟩ (fun _ => rfl) (fun _ => rfl) [x, st, b 0, b 1, b 2, b 3, b 4, b 5, b 6, tr 0, tr 1, tr 2, tr 3, tr 4, tr 5, tr 6] rfl (fun _ => rfl) (fun r_39 u_39 H locs e_39 hP hD hS => ?_)
        obtain rfl := e_39
        refine lv_istore (lv' := [(6, .int (allU (ngU (lay3 (goU f s s 5) s k) n) s 5)), (5, .int (nI k)), (4, .int ((beU f s n k).2)), (3, .int ((beU f s n k).1)), (0, .ref x), (1, .int (nI s)), (2, .int (nI n))]) F.1 F.2.1 dX5_bestHeap_42 hl (by decide) rfl (fun ls hl => ?_)
        refine lv_iload F.1 F.2.1 dX5_bestHeap_44 (lv_at hl 1 rfl) ?_
        refine lv_if_eq (tgt := 56) F.1 F.2.1 dX5_bestHeap_46 (by decide) (fun c_46 => ?_) (fun c_46 => ?_)
        · refine lv_iload F.1 F.2.1 dX5_bestHeap_56 (lv_at hl 1 rfl) ?_
          refine lv_istore_n (lv' := [(3, .int (nI k)), (6, .int (allU (ngU (lay3 (goU f s s 5) s k) n) s 5)), (5, .int (nI k)), (4, .int ((beU f s n k).2)), (0, .ref x), (1, .int (nI s)), (2, .int (nI n))]) F.1 F.2.1 dX5_bestHeap_58 rfl hl (by decide) rfl (fun ls hl => ?_)
          refine lv_iload F.1 F.2.1 dX5_bestHeap_59 (lv_at hl 1 rfl) ?_
          refine lv_istore (lv' := [(4, .int (allU (ngU (lay3 (goU f s s 5) s k) n) s 5)), (3, .int (nI k)), (6, .int (allU (ngU (lay3 (goU f s s 5) s k) n) s 5)), (5, .int (nI k)), (0, .ref x), (1, .int (nI s)), (2, .int (nI n))]) F.1 F.2.1 dX5_bestHeap_61 hl (by decide) rfl (fun ls hl => ?_)
          refine lv_iinc (v := nI (k + 1)) (lv' := [(5, .int (nI (k + 1))), (4, .int (allU (ngU (lay3 (goU f s s 5) s k) n) s 5)), (3, .int (nI k)), (6, .int (allU (ngU (lay3 (goU f s s 5) s k) n) s 5)), (0, .ref x), (1, .int (nI s)), (2, .int (nI n))]) F.1 F.2.1 dX5_bestHeap_63 hl (k := 3) rfl (by rw [show Int32.ofInt 1 = nI 1 from rfl, nI_add]) (by decide) rfl (fun ls hl => ?_)
          refine lv_goto (tgt := 8) F.1 F.2.1 dX5_bestHeap_66 (by decide) ?_
          have eb : beU f s n (k + 1) = (nI k, beVal f s n k) := be_up c_22 (Or.inl (nI_of_eq (b := 0) c_46 (by omega) (by omega)))
          exact ih_8 _ _ _ ⟨(ngU (lay3 (goU f s s 5) s k) n), hP, hD, hS, lv_sub hl [0, 1, 2, 4, 5, 6] (by rw [eb]; rfl)⟩
        · refine lv_iload F.1 F.2.1 dX5_bestHeap_49 (lv_at hl 0 rfl) ?_
          refine lv_iload F.1 F.2.1 dX5_bestHeap_51 (lv_at hl 2 rfl) ?_
          refine lv_icmp_le (tgt := 63) F.1 F.2.1 dX5_bestHeap_53 (by decide) (fun c_53 => ?_) (fun c_53 => ?_)
          · refine lv_iinc (v := nI (k + 1)) (lv' := [(5, .int (nI (k + 1))), (6, .int (allU (ngU (lay3 (goU f s s 5) s k) n) s 5)), (4, .int ((beU f s n k).2)), (3, .int ((beU f s n k).1)), (0, .ref x), (1, .int (nI s)), (2, .int (nI n))]) F.1 F.2.1 dX5_bestHeap_63 hl (k := 1) rfl (by rw [show Int32.ofInt 1 = nI 1 from rfl, nI_add]) (by decide) rfl (fun ls hl => ?_)
            refine lv_goto (tgt := 8) F.1 F.2.1 dX5_bestHeap_66 (by decide) ?_
            have eb : beU f s n (k + 1) = beU f s n k := be_no (fun q => q.2.elim (fun z => c_46 (by rw [z]; rfl)) (fun z => Int32.not_lt.mpr c_53 z))
            exact ih_8 _ _ _ ⟨(ngU (lay3 (goU f s s 5) s k) n), hP, hD, hS, lv_sub hl [0, 2, 3, 4, 5, 6] (by rw [eb]; rfl)⟩
          · refine lv_iload F.1 F.2.1 dX5_bestHeap_56 (lv_at hl 1 rfl) ?_
            refine lv_istore_n (lv' := [(3, .int (nI k)), (6, .int (allU (ngU (lay3 (goU f s s 5) s k) n) s 5)), (5, .int (nI k)), (4, .int ((beU f s n k).2)), (0, .ref x), (1, .int (nI s)), (2, .int (nI n))]) F.1 F.2.1 dX5_bestHeap_58 rfl hl (by decide) rfl (fun ls hl => ?_)
            refine lv_iload F.1 F.2.1 dX5_bestHeap_59 (lv_at hl 1 rfl) ?_
            refine lv_istore (lv' := [(4, .int (allU (ngU (lay3 (goU f s s 5) s k) n) s 5)), (3, .int (nI k)), (6, .int (allU (ngU (lay3 (goU f s s 5) s k) n) s 5)), (5, .int (nI k)), (0, .ref x), (1, .int (nI s)), (2, .int (nI n))]) F.1 F.2.1 dX5_bestHeap_61 hl (by decide) rfl (fun ls hl => ?_)
            refine lv_iinc (v := nI (k + 1)) (lv' := [(5, .int (nI (k + 1))), (4, .int (allU (ngU (lay3 (goU f s s 5) s k) n) s 5)), (3, .int (nI k)), (6, .int (allU (ngU (lay3 (goU f s s 5) s k) n) s 5)), (0, .ref x), (1, .int (nI s)), (2, .int (nI n))]) F.1 F.2.1 dX5_bestHeap_63 hl (k := 3) rfl (by rw [show Int32.ofInt 1 = nI 1 from rfl, nI_add]) (by decide) rfl (fun ls hl => ?_)
            refine lv_goto (tgt := 8) F.1 F.2.1 dX5_bestHeap_66 (by decide) ?_
            have eb : beU f s n (k + 1) = (nI k, beVal f s n k) := be_up c_22 (Or.inr (Int32.not_le.mp c_53))
            exact ih_8 _ _ _ ⟨(ngU (lay3 (goU f s s 5) s k) n), hP, hD, hS, lv_sub hl [0, 1, 2, 4, 5, 6] (by rw [eb]; rfl)⟩

def rmX5_best : Room := { frames := 7, cells := 0, slots := 0, locals := 161 }
theorem nmX5_best : NmV yX5_best RX5 2 := by unfold NmV; decide +kernel
theorem hiX5_best_1 : ∀ w ∈ u_ws RX1 TX1 10, w ∈ wsX5_best := by decide +kernel
theorem hiX5_best_4 : ∀ w ∈ u_ws RX4 TX4 4, w ∈ wsX5_best := by decide +kernel
theorem hiX5_best_5 : ∀ w ∈ u_ws RX5 TX5 7, w ∈ wsX5_best := by decide +kernel
set_option maxHeartbeats 4000000 in
set_option maxRecDepth 100000 in
theorem kX5_best (l : Launch) (dC : Nat → ClassId) (dI : Nat → Nat → Nat) (ct : Nat → ClassId) (x st kt sc sh fo bk sp : Nat) (tr b : Nat → Nat) (ik zz : Int32) (f c w : Nat → Int32) (x1 x2 : Int32) (hRg : Rg f) : MI (S := (Nat → Int32) × (Nat → Int32) × (Nat → Int32)) l yX5_best wsX5_best rmX5_best dC dI ct eT [.ref x, .int x1, .int x2] ((x, .inr (5, [.ref st, .ref kt, .int ik, .ref (tr 0), .ref sc, .ref sh, .ref fo])) :: (st, .inr (4, [.ref (b 0), .ref bk, .ref sp, .int zz])) :: (wB ct b f ++ (wB ct tr w ++ [ai ct fo 7 (fun j => c (j + 1))]))) (fun u => (x, .inr (5, [.ref st, .ref kt, .int ik, .ref (tr 0), .ref sc, .ref sh, .ref fo])) :: (st, .inr (4, [.ref (b 0), .ref bk, .ref sp, .int zz])) :: (wB ct b u.1 ++ (wB ct tr u.2.2 ++ [ai ct fo 7 (fun j => u.2.1 (j + 1))]))) (fun r u => (r, u.1, u.2.1) = sBest f c x1 x2 false) := by
  refine MI.of (cc := cX5_best) (maxL := 3) (ret := (some .int)) (by decide) rfl (Nat.le_of_ble_eq_true rfl) ?_
  intro pg en z mi below meth cd A F hr hlk hin hK hP hD hA hS hE ls hl
  have F : CallFix pg mi cd cX5_best 3 z _ wsX5_best RX5 := F
  have hl : lv_has ls 3 [(0, .ref x), (1, .int x1), (2, .int x2)] := hl
  refine lv_iload_n F.1 F.2.1 dX5_best_0 rfl (lv_at hl 1 rfl) ?_
  refine iS (rest := []) (wsp := fun _ => (x, .inr (5, [.ref st, .ref kt, .int ik, .ref (tr 0), .ref sc, .ref sh, .ref fo])) :: (st, .inr (4, [.ref (b 0), .ref bk, .ref sp, .int zz])) :: (wB ct b f ++ (wB ct tr w ++ [ai ct fo 7 (fun j => c (j + 1))]))) F (kX5_isSide l dC dI ct x1) gX5_best_X5_isSide rfl ⟨rfl, rfl⟩ nmX5_isSide ⟨Nat.le_of_ble_eq_true rfl, Nat.le_of_ble_eq_true rfl⟩ eT_b (fun _ _ _ => trivial) hK hP hD hS hA [] (by decide) rfl rfl rfl hl.1 (Nat.le_of_ble_eq_true rfl) dX5_best_1 ⟨Nat.zero_le _, Nat.zero_le _⟩ (fun _ => rfl) (fun _ => rfl) [x, st, b 0, b 1, b 2, b 3, b 4, b 5, b 6, tr 0, tr 1, tr 2, tr 3, tr 4, tr 5, tr 6, fo] rfl (fun _ => rfl) (fun r_1 u_1 H locs e_1 hP hD hS => ?_)
  obtain rfl := e_1
  refine lv_if_eq (tgt := 17) F.1 F.2.1 dX5_best_4 (by decide) (fun c_4 => ?_) (fun c_4 => ?_)
  · have c_4 : ¬ (0 ≤ x1 ∧ x1 ≤ 1) := b01f rfl c_4
    refine lv_aload_n F.1 F.2.1 dX5_best_17 rfl (lv_at hl 0 rfl) ?_
    refine lv_iconst (v := 0) F.1 F.2.1 dX5_best_18 (by decide) ?_
    refine iV (rest := []) (wsp := fun _ => (x, .inr (5, [.ref st, .ref kt, .int ik, .ref (tr 0), .ref sc, .ref sh, .ref fo])) :: (st, .inr (4, [.ref (b 0), .ref bk, .ref sp, .int zz])) :: (wB ct b f ++ (wB ct tr w ++ [ai ct fo 7 (fun j => (fnd c 1) (j + 1))]))) F (kX5_finding l dC dI ct x st kt sc sh fo tr ik c 0 1 (-1000001) (by decide) (by decide) (by decide)) gX5_best_X5_finding rfl ⟨rfl, rfl⟩ nmX5_finding ⟨Nat.le_of_ble_eq_true rfl, Nat.le_of_ble_eq_true rfl⟩ eT_b (fun _ _ _ => trivial) hK hP hD hS hA 0 rfl rfl rfl [0, 16] (by decide) rfl rfl rfl hl.1 (Nat.le_of_ble_eq_true rfl) dX5_best_19 ⟨Nat.zero_le _, Nat.zero_le _⟩ (fun _ => rfl) (fun _ => rfl) [x, st, b 0, b 1, b 2, b 3, b 4, b 5, b 6, tr 0, tr 1, tr 2, tr 3, tr 4, tr 5, tr 6, fo] rfl (fun _ => rfl) (fun r_19 u_19 H locs e_19 hP hD hS => ?_)
    obtain rfl := e_19
    exact rtI (f, (fnd c 1), w) F hr hlk hP hS rfl ((if_neg (fun q => c_4 q.1)).symm) dX5_best_22
  · have c_4 : 0 ≤ x1 ∧ x1 ≤ 1 := b01t rfl c_4
    obtain ⟨s, hs, rfl⟩ := gS_n c_4
    refine lv_iload_n F.1 F.2.1 dX5_best_7 rfl (lv_at hl 2 rfl) ?_
    refine lv_iconst (v := 1) F.1 F.2.1 dX5_best_8 (by decide) ?_
    refine lv_bipush (v := 30) F.1 F.2.1 dX5_best_9 (by decide) ?_
    refine iS (rest := []) (wsp := fun _ => (x, .inr (5, [.ref st, .ref kt, .int ik, .ref (tr 0), .ref sc, .ref sh, .ref fo])) :: (st, .inr (4, [.ref (b 0), .ref bk, .ref sp, .int zz])) :: (wB ct b f ++ (wB ct tr w ++ [ai ct fo 7 (fun j => c (j + 1))]))) F (kX5_isIn l dC dI ct x2 1 30) gX5_best_X5_isIn rfl ⟨rfl, rfl⟩ nmX5_isIn ⟨Nat.le_of_ble_eq_true rfl, Nat.le_of_ble_eq_true rfl⟩ eT_b (fun _ _ _ => trivial) hK hP hD hS hA [] (by decide) rfl rfl rfl hl.1 (Nat.le_of_ble_eq_true rfl) dX5_best_11 ⟨Nat.zero_le _, Nat.zero_le _⟩ (fun _ => rfl) (fun _ => rfl) [x, st, b 0, b 1, b 2, b 3, b 4, b 5, b 6, tr 0, tr 1, tr 2, tr 3, tr 4, tr 5, tr 6, fo] rfl (fun _ => rfl) (fun r_11 u_11 H locs e_11 hP hD hS => ?_)
    obtain rfl := e_11
    refine lv_if_ne (tgt := 23) F.1 F.2.1 dX5_best_14 (by decide) (fun c_14 => ?_) (fun c_14 => ?_)
    · have c_14 : 1 ≤ x2 ∧ x2 ≤ 30 := b01t rfl c_14
      obtain ⟨n, hn1, hn, rfl⟩ := g30_n c_14
      refine lv_aload_n F.1 F.2.1 dX5_best_23 rfl (lv_at hl 0 rfl) ?_
      refine lv_iload_n F.1 F.2.1 dX5_best_24 rfl (lv_at hl 2 rfl) ?_
      refine iV (rest := []) (wsp := fun _ => (x, .inr (5, [.ref st, .ref kt, .int ik, .ref (tr 0), .ref sc, .ref sh, .ref fo])) :: (st, .inr (4, [.ref (b 0), .ref bk, .ref sp, .int zz])) :: (wB ct b f ++ (wB ct tr w ++ [ai ct fo 7 (fun j => c (j + 1))]))) F (kX5_isTooLate l dC dI ct x st kt sc sh fo bk sp tr b ik zz f (nI n)) gX5_best_X5_isTooLate rfl ⟨rfl, rfl⟩ nmX5_isTooLate ⟨Nat.le_of_ble_eq_true rfl, Nat.le_of_ble_eq_true rfl⟩ eT_b (fun _ _ _ => trivial) hK hP hD hS hA 0 rfl rfl rfl [0, 1, 2, 3, 4, 5, 6, 7, 8] (by decide) rfl rfl rfl hl.1 (Nat.le_of_ble_eq_true rfl) dX5_best_25 ⟨Nat.zero_le _, Nat.zero_le _⟩ (fun _ => rfl) (fun _ => rfl) [x, st, b 0, b 1, b 2, b 3, b 4, b 5, b 6, tr 0, tr 1, tr 2, tr 3, tr 4, tr 5, tr 6, fo] rfl (fun _ => rfl) (fun r_25 u_25 H locs e_25 hP hD hS => ?_)
      obtain rfl := e_25
      refine lv_if_ne (tgt := 46) F.1 F.2.1 dX5_best_28 (by decide) (fun c_28 => ?_) (fun c_28 => ?_)
      · have c_28 : 9999 < f 0 + (nI n) := b01t rfl c_28
        refine lv_aload_n F.1 F.2.1 dX5_best_46 rfl (lv_at hl 0 rfl) ?_
        refine lv_iconst (v := 4) F.1 F.2.1 dX5_best_47 (by decide) ?_
        refine iV (rest := []) (wsp := fun _ => (x, .inr (5, [.ref st, .ref kt, .int ik, .ref (tr 0), .ref sc, .ref sh, .ref fo])) :: (st, .inr (4, [.ref (b 0), .ref bk, .ref sp, .int zz])) :: (wB ct b f ++ (wB ct tr w ++ [ai ct fo 7 (fun j => (fnd c 5) (j + 1))]))) F (kX5_finding l dC dI ct x st kt sc sh fo tr ik c 4 5 (-1000005) (by decide) (by decide) (by decide)) gX5_best_X5_finding rfl ⟨rfl, rfl⟩ nmX5_finding ⟨Nat.le_of_ble_eq_true rfl, Nat.le_of_ble_eq_true rfl⟩ eT_b (fun _ _ _ => trivial) hK hP hD hS hA 0 rfl rfl rfl [0, 16] (by decide) rfl rfl rfl hl.1 (Nat.le_of_ble_eq_true rfl) dX5_best_48 ⟨Nat.zero_le _, Nat.zero_le _⟩ (fun _ => rfl) (fun _ => rfl) [x, st, b 0, b 1, b 2, b 3, b 4, b 5, b 6, tr 0, tr 1, tr 2, tr 3, tr 4, tr 5, tr 6, fo] rfl (fun _ => rfl) (fun r_48 u_48 H locs e_48 hP hD hS => ?_)
        obtain rfl := e_48
        exact rtI (f, (fnd c 5), w) F hr hlk hP hS rfl (Eq.trans (by rw [show tn (nI s) = s from nI_clamp (by omega), show tn (nI n) = n from nI_clamp (by omega)]; try exact (if_pos (Or.inl c_28)).symm) (if_pos ⟨c_4, c_14⟩).symm) dX5_best_51
      · have c_28 : ¬ (9999 < f 0 + (nI n)) := b01f rfl c_28
        refine lv_aload_n F.1 F.2.1 dX5_best_31 rfl (lv_at hl 0 rfl) ?_
        refine gf F hK hP 0 rfl rfl hiX5_best_5 0 (by decide) (List.mem_of_getElem? (i := 1) rfl) rfl dX5_best_32 ?_
        refine gf F hK hP 1 rfl rfl hiX5_best_4 0 (by decide) (List.mem_of_getElem? (i := 2) rfl) rfl dX5_best_35 ?_
        refine gf F hK hP 2 rfl rfl hiX5_best_1 5 (by decide) (List.mem_of_getElem? (i := 3) rfl) rfl dX5_best_38 ?_
        refine lv_iload_n F.1 F.2.1 dX5_best_41 rfl (lv_at hl 1 rfl) ?_
        refine al (v := f (21 + 17 * s)) F hK hP 8 0 rfl rfl s rfl (by omega) (by decide) rfl dX5_best_42 ?_
        refine lv_if_ne (tgt := 52) F.1 F.2.1 dX5_best_43 (by decide) (fun c_43 => ?_) (fun c_43 => ?_)
        · have hN := late_no hRg (by omega) c_28
          have hT := tru_pos hRg hs c_43
          refine lv_aload_n F.1 F.2.1 dX5_best_52 rfl (lv_at hl 0 rfl) ?_
          refine lv_iload_n F.1 F.2.1 dX5_best_53 rfl (lv_at hl 1 rfl) ?_
          refine lv_iload_n F.1 F.2.1 dX5_best_54 rfl (lv_at hl 2 rfl) ?_
          refine iV (rest := []) (wsp := fun u_55 => (x, .inr (5, [.ref st, .ref kt, .int ik, .ref (tr 0), .ref sc, .ref sh, .ref fo])) :: (st, .inr (4, [.ref (b 0), .ref bk, .ref sp, .int zz])) :: (wB ct b f ++ (wB ct tr u_55 ++ [ai ct fo 7 (fun j => c (j + 1))]))) F (kX5_bestHeap l dC dI ct x st kt sc sh fo bk sp tr b ik zz f w s n (by omega) (by omega) hRg hN hT) gX5_best_X5_bestHeap rfl ⟨rfl, rfl⟩ nmX5_bestHeap ⟨Nat.le_of_ble_eq_true rfl, Nat.le_of_ble_eq_true rfl⟩ eT_b (fun _ _ _ => trivial) hK hP hD hS hA 0 rfl rfl rfl [0, 1, 2, 3, 4, 5, 6, 7, 8, 9, 10, 11, 12, 13, 14, 15] (by decide) rfl rfl rfl hl.1 (Nat.le_of_ble_eq_true rfl) dX5_best_55 ⟨Nat.zero_le _, Nat.zero_le _⟩ (fun _ => rfl) (fun _ => rfl) [x, st, b 0, b 1, b 2, b 3, b 4, b 5, b 6, tr 0, tr 1, tr 2, tr 3, tr 4, tr 5, tr 6, fo] rfl (fun _ => rfl) (fun r_55 u_55 H locs e_55 hP hD hS => ?_)
          exact rtI (f, c, u_55) F hr hlk hP hS rfl (Eq.trans (by rw [show tn (nI s) = s from nI_clamp (by omega), show tn (nI n) = n from nI_clamp (by omega)]; try exact (by unfold kBest; rw [if_neg (fun q => q.elim c_28 c_43)]; rw [e_55]; exact (if_neg (by decide)).symm)) (if_pos ⟨c_4, c_14⟩).symm) dX5_best_58
        · refine lv_aload_n F.1 F.2.1 dX5_best_46 rfl (lv_at hl 0 rfl) ?_
          refine lv_iconst (v := 4) F.1 F.2.1 dX5_best_47 (by decide) ?_
          refine iV (rest := []) (wsp := fun _ => (x, .inr (5, [.ref st, .ref kt, .int ik, .ref (tr 0), .ref sc, .ref sh, .ref fo])) :: (st, .inr (4, [.ref (b 0), .ref bk, .ref sp, .int zz])) :: (wB ct b f ++ (wB ct tr w ++ [ai ct fo 7 (fun j => (fnd c 5) (j + 1))]))) F (kX5_finding l dC dI ct x st kt sc sh fo tr ik c 4 5 (-1000005) (by decide) (by decide) (by decide)) gX5_best_X5_finding rfl ⟨rfl, rfl⟩ nmX5_finding ⟨Nat.le_of_ble_eq_true rfl, Nat.le_of_ble_eq_true rfl⟩ eT_b (fun _ _ _ => trivial) hK hP hD hS hA 0 rfl rfl rfl [0, 16] (by decide) rfl rfl rfl hl.1 (Nat.le_of_ble_eq_true rfl) dX5_best_48 ⟨Nat.zero_le _, Nat.zero_le _⟩ (fun _ => rfl) (fun _ => rfl) [x, st, b 0, b 1, b 2, b 3, b 4, b 5, b 6, tr 0, tr 1, tr 2, tr 3, tr 4, tr 5, tr 6, fo] rfl (fun _ => rfl) (fun r_48 u_48 H locs e_48 hP hD hS => ?_)
          obtain rfl := e_48
          exact rtI (f, (fnd c 5), w) F hr hlk hP hS rfl (Eq.trans (by rw [show tn (nI s) = s from nI_clamp (by omega), show tn (nI n) = n from nI_clamp (by omega)]; try exact (if_pos (Or.inr c_43)).symm) (if_pos ⟨c_4, c_14⟩).symm) dX5_best_51
    · have c_14 : ¬ (1 ≤ x2 ∧ x2 ≤ 30) := b01f rfl c_14
      refine lv_aload_n F.1 F.2.1 dX5_best_17 rfl (lv_at hl 0 rfl) ?_
      refine lv_iconst (v := 0) F.1 F.2.1 dX5_best_18 (by decide) ?_
      refine iV (rest := []) (wsp := fun _ => (x, .inr (5, [.ref st, .ref kt, .int ik, .ref (tr 0), .ref sc, .ref sh, .ref fo])) :: (st, .inr (4, [.ref (b 0), .ref bk, .ref sp, .int zz])) :: (wB ct b f ++ (wB ct tr w ++ [ai ct fo 7 (fun j => (fnd c 1) (j + 1))]))) F (kX5_finding l dC dI ct x st kt sc sh fo tr ik c 0 1 (-1000001) (by decide) (by decide) (by decide)) gX5_best_X5_finding rfl ⟨rfl, rfl⟩ nmX5_finding ⟨Nat.le_of_ble_eq_true rfl, Nat.le_of_ble_eq_true rfl⟩ eT_b (fun _ _ _ => trivial) hK hP hD hS hA 0 rfl rfl rfl [0, 16] (by decide) rfl rfl rfl hl.1 (Nat.le_of_ble_eq_true rfl) dX5_best_19 ⟨Nat.zero_le _, Nat.zero_le _⟩ (fun _ => rfl) (fun _ => rfl) [x, st, b 0, b 1, b 2, b 3, b 4, b 5, b 6, tr 0, tr 1, tr 2, tr 3, tr 4, tr 5, tr 6, fo] rfl (fun _ => rfl) (fun r_19 u_19 H locs e_19 hP hD hS => ?_)
      obtain rfl := e_19
      exact rtI (f, (fnd c 1), w) F hr hlk hP hS rfl ((if_neg (fun q => c_14 q.2)).symm) dX5_best_22

def rmX5_gain : Room := { frames := 7, cells := 0, slots := 0, locals := 161 }
theorem nmX5_gain : NmV yX5_gain RX5 2 := by unfold NmV; decide +kernel
theorem hiX5_gain_1 : ∀ w ∈ u_ws RX1 TX1 10, w ∈ wsX5_gain := by decide +kernel
theorem hiX5_gain_4 : ∀ w ∈ u_ws RX4 TX4 4, w ∈ wsX5_gain := by decide +kernel
theorem hiX5_gain_5 : ∀ w ∈ u_ws RX5 TX5 7, w ∈ wsX5_gain := by decide +kernel
set_option maxHeartbeats 4000000 in
set_option maxRecDepth 100000 in
theorem kX5_gain (l : Launch) (dC : Nat → ClassId) (dI : Nat → Nat → Nat) (ct : Nat → ClassId) (x st kt sc sh fo bk sp : Nat) (tr b : Nat → Nat) (ik zz : Int32) (f c w : Nat → Int32) (x1 x2 : Int32) (hRg : Rg f) : MI (S := (Nat → Int32) × (Nat → Int32) × (Nat → Int32)) l yX5_gain wsX5_gain rmX5_gain dC dI ct eT [.ref x, .int x1, .int x2] ((x, .inr (5, [.ref st, .ref kt, .int ik, .ref (tr 0), .ref sc, .ref sh, .ref fo])) :: (st, .inr (4, [.ref (b 0), .ref bk, .ref sp, .int zz])) :: (wB ct b f ++ (wB ct tr w ++ [ai ct fo 7 (fun j => c (j + 1))]))) (fun u => (x, .inr (5, [.ref st, .ref kt, .int ik, .ref (tr 0), .ref sc, .ref sh, .ref fo])) :: (st, .inr (4, [.ref (b 0), .ref bk, .ref sp, .int zz])) :: (wB ct b u.1 ++ (wB ct tr u.2.2 ++ [ai ct fo 7 (fun j => u.2.1 (j + 1))]))) (fun r u => (r, u.1, u.2.1) = sBest f c x1 x2 true) := by
  refine MI.of (cc := cX5_gain) (maxL := 3) (ret := (some .int)) (by decide) rfl (Nat.le_of_ble_eq_true rfl) ?_
  intro pg en z mi below meth cd A F hr hlk hin hK hP hD hA hS hE ls hl
  have F : CallFix pg mi cd cX5_gain 3 z _ wsX5_gain RX5 := F
  have hl : lv_has ls 3 [(0, .ref x), (1, .int x1), (2, .int x2)] := hl
  refine lv_iload_n F.1 F.2.1 dX5_gain_0 rfl (lv_at hl 1 rfl) ?_
  refine iS (rest := []) (wsp := fun _ => (x, .inr (5, [.ref st, .ref kt, .int ik, .ref (tr 0), .ref sc, .ref sh, .ref fo])) :: (st, .inr (4, [.ref (b 0), .ref bk, .ref sp, .int zz])) :: (wB ct b f ++ (wB ct tr w ++ [ai ct fo 7 (fun j => c (j + 1))]))) F (kX5_isSide l dC dI ct x1) gX5_gain_X5_isSide rfl ⟨rfl, rfl⟩ nmX5_isSide ⟨Nat.le_of_ble_eq_true rfl, Nat.le_of_ble_eq_true rfl⟩ eT_b (fun _ _ _ => trivial) hK hP hD hS hA [] (by decide) rfl rfl rfl hl.1 (Nat.le_of_ble_eq_true rfl) dX5_gain_1 ⟨Nat.zero_le _, Nat.zero_le _⟩ (fun _ => rfl) (fun _ => rfl) [x, st, b 0, b 1, b 2, b 3, b 4, b 5, b 6, tr 0, tr 1, tr 2, tr 3, tr 4, tr 5, tr 6, fo] rfl (fun _ => rfl) (fun r_1 u_1 H locs e_1 hP hD hS => ?_)
  obtain rfl := e_1
  refine lv_if_eq (tgt := 17) F.1 F.2.1 dX5_gain_4 (by decide) (fun c_4 => ?_) (fun c_4 => ?_)
  · have c_4 : ¬ (0 ≤ x1 ∧ x1 ≤ 1) := b01f rfl c_4
    refine lv_aload_n F.1 F.2.1 dX5_gain_17 rfl (lv_at hl 0 rfl) ?_
    refine lv_iconst (v := 0) F.1 F.2.1 dX5_gain_18 (by decide) ?_
    refine iV (rest := []) (wsp := fun _ => (x, .inr (5, [.ref st, .ref kt, .int ik, .ref (tr 0), .ref sc, .ref sh, .ref fo])) :: (st, .inr (4, [.ref (b 0), .ref bk, .ref sp, .int zz])) :: (wB ct b f ++ (wB ct tr w ++ [ai ct fo 7 (fun j => (fnd c 1) (j + 1))]))) F (kX5_finding l dC dI ct x st kt sc sh fo tr ik c 0 1 (-1000001) (by decide) (by decide) (by decide)) gX5_gain_X5_finding rfl ⟨rfl, rfl⟩ nmX5_finding ⟨Nat.le_of_ble_eq_true rfl, Nat.le_of_ble_eq_true rfl⟩ eT_b (fun _ _ _ => trivial) hK hP hD hS hA 0 rfl rfl rfl [0, 16] (by decide) rfl rfl rfl hl.1 (Nat.le_of_ble_eq_true rfl) dX5_gain_19 ⟨Nat.zero_le _, Nat.zero_le _⟩ (fun _ => rfl) (fun _ => rfl) [x, st, b 0, b 1, b 2, b 3, b 4, b 5, b 6, tr 0, tr 1, tr 2, tr 3, tr 4, tr 5, tr 6, fo] rfl (fun _ => rfl) (fun r_19 u_19 H locs e_19 hP hD hS => ?_)
    obtain rfl := e_19
    exact rtI (f, (fnd c 1), w) F hr hlk hP hS rfl ((if_neg (fun q => c_4 q.1)).symm) dX5_gain_22
  · have c_4 : 0 ≤ x1 ∧ x1 ≤ 1 := b01t rfl c_4
    obtain ⟨s, hs, rfl⟩ := gS_n c_4
    refine lv_iload_n F.1 F.2.1 dX5_gain_7 rfl (lv_at hl 2 rfl) ?_
    refine lv_iconst (v := 1) F.1 F.2.1 dX5_gain_8 (by decide) ?_
    refine lv_bipush (v := 30) F.1 F.2.1 dX5_gain_9 (by decide) ?_
    refine iS (rest := []) (wsp := fun _ => (x, .inr (5, [.ref st, .ref kt, .int ik, .ref (tr 0), .ref sc, .ref sh, .ref fo])) :: (st, .inr (4, [.ref (b 0), .ref bk, .ref sp, .int zz])) :: (wB ct b f ++ (wB ct tr w ++ [ai ct fo 7 (fun j => c (j + 1))]))) F (kX5_isIn l dC dI ct x2 1 30) gX5_gain_X5_isIn rfl ⟨rfl, rfl⟩ nmX5_isIn ⟨Nat.le_of_ble_eq_true rfl, Nat.le_of_ble_eq_true rfl⟩ eT_b (fun _ _ _ => trivial) hK hP hD hS hA [] (by decide) rfl rfl rfl hl.1 (Nat.le_of_ble_eq_true rfl) dX5_gain_11 ⟨Nat.zero_le _, Nat.zero_le _⟩ (fun _ => rfl) (fun _ => rfl) [x, st, b 0, b 1, b 2, b 3, b 4, b 5, b 6, tr 0, tr 1, tr 2, tr 3, tr 4, tr 5, tr 6, fo] rfl (fun _ => rfl) (fun r_11 u_11 H locs e_11 hP hD hS => ?_)
    obtain rfl := e_11
    refine lv_if_ne (tgt := 23) F.1 F.2.1 dX5_gain_14 (by decide) (fun c_14 => ?_) (fun c_14 => ?_)
    · have c_14 : 1 ≤ x2 ∧ x2 ≤ 30 := b01t rfl c_14
      obtain ⟨n, hn1, hn, rfl⟩ := g30_n c_14
      refine lv_aload_n F.1 F.2.1 dX5_gain_23 rfl (lv_at hl 0 rfl) ?_
      refine lv_iload_n F.1 F.2.1 dX5_gain_24 rfl (lv_at hl 2 rfl) ?_
      refine iV (rest := []) (wsp := fun _ => (x, .inr (5, [.ref st, .ref kt, .int ik, .ref (tr 0), .ref sc, .ref sh, .ref fo])) :: (st, .inr (4, [.ref (b 0), .ref bk, .ref sp, .int zz])) :: (wB ct b f ++ (wB ct tr w ++ [ai ct fo 7 (fun j => c (j + 1))]))) F (kX5_isTooLate l dC dI ct x st kt sc sh fo bk sp tr b ik zz f (nI n)) gX5_gain_X5_isTooLate rfl ⟨rfl, rfl⟩ nmX5_isTooLate ⟨Nat.le_of_ble_eq_true rfl, Nat.le_of_ble_eq_true rfl⟩ eT_b (fun _ _ _ => trivial) hK hP hD hS hA 0 rfl rfl rfl [0, 1, 2, 3, 4, 5, 6, 7, 8] (by decide) rfl rfl rfl hl.1 (Nat.le_of_ble_eq_true rfl) dX5_gain_25 ⟨Nat.zero_le _, Nat.zero_le _⟩ (fun _ => rfl) (fun _ => rfl) [x, st, b 0, b 1, b 2, b 3, b 4, b 5, b 6, tr 0, tr 1, tr 2, tr 3, tr 4, tr 5, tr 6, fo] rfl (fun _ => rfl) (fun r_25 u_25 H locs e_25 hP hD hS => ?_)
      obtain rfl := e_25
      refine lv_if_ne (tgt := 46) F.1 F.2.1 dX5_gain_28 (by decide) (fun c_28 => ?_) (fun c_28 => ?_)
      · have c_28 : 9999 < f 0 + (nI n) := b01t rfl c_28
        refine lv_aload_n F.1 F.2.1 dX5_gain_46 rfl (lv_at hl 0 rfl) ?_
        refine lv_iconst (v := 4) F.1 F.2.1 dX5_gain_47 (by decide) ?_
        refine iV (rest := []) (wsp := fun _ => (x, .inr (5, [.ref st, .ref kt, .int ik, .ref (tr 0), .ref sc, .ref sh, .ref fo])) :: (st, .inr (4, [.ref (b 0), .ref bk, .ref sp, .int zz])) :: (wB ct b f ++ (wB ct tr w ++ [ai ct fo 7 (fun j => (fnd c 5) (j + 1))]))) F (kX5_finding l dC dI ct x st kt sc sh fo tr ik c 4 5 (-1000005) (by decide) (by decide) (by decide)) gX5_gain_X5_finding rfl ⟨rfl, rfl⟩ nmX5_finding ⟨Nat.le_of_ble_eq_true rfl, Nat.le_of_ble_eq_true rfl⟩ eT_b (fun _ _ _ => trivial) hK hP hD hS hA 0 rfl rfl rfl [0, 16] (by decide) rfl rfl rfl hl.1 (Nat.le_of_ble_eq_true rfl) dX5_gain_48 ⟨Nat.zero_le _, Nat.zero_le _⟩ (fun _ => rfl) (fun _ => rfl) [x, st, b 0, b 1, b 2, b 3, b 4, b 5, b 6, tr 0, tr 1, tr 2, tr 3, tr 4, tr 5, tr 6, fo] rfl (fun _ => rfl) (fun r_48 u_48 H locs e_48 hP hD hS => ?_)
        obtain rfl := e_48
        exact rtI (f, (fnd c 5), w) F hr hlk hP hS rfl (Eq.trans (by rw [show tn (nI s) = s from nI_clamp (by omega), show tn (nI n) = n from nI_clamp (by omega)]; try exact (if_pos (Or.inl c_28)).symm) (if_pos ⟨c_4, c_14⟩).symm) dX5_gain_51
      · have c_28 : ¬ (9999 < f 0 + (nI n)) := b01f rfl c_28
        refine lv_aload_n F.1 F.2.1 dX5_gain_31 rfl (lv_at hl 0 rfl) ?_
        refine gf F hK hP 0 rfl rfl hiX5_gain_5 0 (by decide) (List.mem_of_getElem? (i := 1) rfl) rfl dX5_gain_32 ?_
        refine gf F hK hP 1 rfl rfl hiX5_gain_4 0 (by decide) (List.mem_of_getElem? (i := 2) rfl) rfl dX5_gain_35 ?_
        refine gf F hK hP 2 rfl rfl hiX5_gain_1 5 (by decide) (List.mem_of_getElem? (i := 3) rfl) rfl dX5_gain_38 ?_
        refine lv_iload_n F.1 F.2.1 dX5_gain_41 rfl (lv_at hl 1 rfl) ?_
        refine al (v := f (21 + 17 * s)) F hK hP 8 0 rfl rfl s rfl (by omega) (by decide) rfl dX5_gain_42 ?_
        refine lv_if_ne (tgt := 52) F.1 F.2.1 dX5_gain_43 (by decide) (fun c_43 => ?_) (fun c_43 => ?_)
        · have hN := late_no hRg (by omega) c_28
          have hT := tru_pos hRg hs c_43
          refine lv_aload_n F.1 F.2.1 dX5_gain_52 rfl (lv_at hl 0 rfl) ?_
          refine lv_iload_n F.1 F.2.1 dX5_gain_53 rfl (lv_at hl 1 rfl) ?_
          refine lv_aload_n F.1 F.2.1 dX5_gain_54 rfl (lv_at hl 0 rfl) ?_
          refine lv_iload_n F.1 F.2.1 dX5_gain_55 rfl (lv_at hl 1 rfl) ?_
          refine lv_iload_n F.1 F.2.1 dX5_gain_56 rfl (lv_at hl 2 rfl) ?_
          refine iV (rest := [.int (nI s), .ref x]) (wsp := fun u_57 => (x, .inr (5, [.ref st, .ref kt, .int ik, .ref (tr 0), .ref sc, .ref sh, .ref fo])) :: (st, .inr (4, [.ref (b 0), .ref bk, .ref sp, .int zz])) :: (wB ct b f ++ (wB ct tr u_57 ++ [ai ct fo 7 (fun j => c (j + 1))]))) F (kX5_bestHeap l dC dI ct x st kt sc sh fo bk sp tr b ik zz f w s n (by omega) (by omega) hRg hN hT) gX5_gain_X5_bestHeap rfl ⟨rfl, rfl⟩ nmX5_bestHeap ⟨Nat.le_of_ble_eq_true rfl, Nat.le_of_ble_eq_true rfl⟩ eT_b (fun _ _ _ => trivial) hK hP hD hS hA 0 rfl rfl rfl [0, 1, 2, 3, 4, 5, 6, 7, 8, 9, 10, 11, 12, 13, 14, 15] (by decide) rfl rfl rfl hl.1 (Nat.le_of_ble_eq_true rfl) dX5_gain_57 ⟨Nat.zero_le _, Nat.zero_le _⟩ (fun _ => rfl) (fun _ => rfl) [x, st, b 0, b 1, b 2, b 3, b 4, b 5, b 6, tr 0, tr 1, tr 2, tr 3, tr 4, tr 5, tr 6, fo] rfl (fun _ => rfl) (fun r_57 u_57 H locs e_57 hP hD hS => ?_)
          obtain rfl := e_57
          obtain ⟨j, hj, ej, mj, vj⟩ := be_j hRg hs n
          refine tp (y := nI j) ej ?_
          refine iV (rest := []) (wsp := fun u_60 => (x, .inr (5, [.ref st, .ref kt, .int ik, .ref (tr 0), .ref sc, .ref sh, .ref fo])) :: (st, .inr (4, [.ref (b 0), .ref bk, .ref sp, .int zz])) :: (wB ct b f ++ (wB ct tr u_60 ++ [ai ct fo 7 (fun j => c (j + 1))]))) F (kX5_tryHeap l dC dI ct x st kt sc sh fo bk sp tr b ik zz f u_57 s j (by omega) (by omega) hT) gX5_gain_X5_tryHeap rfl ⟨rfl, rfl⟩ nmX5_tryHeap ⟨Nat.le_of_ble_eq_true rfl, Nat.le_of_ble_eq_true rfl⟩ eT_b (fun _ _ _ => trivial) hK hP hD hS hA 0 rfl rfl rfl [0, 1, 2, 3, 4, 5, 6, 7, 8, 9, 10, 11, 12, 13, 14, 15] (by decide) rfl rfl rfl hl.1 (Nat.le_of_ble_eq_true rfl) dX5_gain_60 ⟨Nat.zero_le _, Nat.zero_le _⟩ (fun _ => rfl) (fun _ => rfl) [x, st, b 0, b 1, b 2, b 3, b 4, b 5, b 6, tr 0, tr 1, tr 2, tr 3, tr 4, tr 5, tr 6, fo] rfl (fun _ => rfl) (fun r_60 u_60 H locs e_60 hP hD hS => ?_)
          obtain ⟨rfl, v_60⟩ := e_60
          obtain rfl := v_60 mj
          refine lv_pop F.1 F.2.1 dX5_gain_63 rfl ?_
          refine lv_aload_n F.1 F.2.1 dX5_gain_64 rfl (lv_at hl 0 rfl) ?_
          refine gf F hK hP 0 rfl rfl hiX5_gain_5 3 (by decide) (List.mem_of_getElem? (i := 4) rfl) rfl dX5_gain_65 ?_
          refine lv_iload_n F.1 F.2.1 dX5_gain_68 rfl (lv_at hl 2 rfl) ?_
          refine iV (rest := []) (wsp := fun _ => (x, .inr (5, [.ref st, .ref kt, .int ik, .ref (tr 0), .ref sc, .ref sh, .ref fo])) :: (st, .inr (4, [.ref (b 0), .ref bk, .ref sp, .int zz])) :: (wB ct b f ++ (wB ct tr (ngU (lay3 (goU f s s 5) s j) n) ++ [ai ct fo 7 (fun j => c (j + 1))]))) F (kX1_passNights l dC dI ct tr (lay3 (goU f s s 5) s j) n (by omega) (beR hRg hs hj hN mj)) gX5_gain_X1_passNights rfl ⟨rfl, rfl⟩ nmX1_passNights ⟨Nat.le_of_ble_eq_true rfl, Nat.le_of_ble_eq_true rfl⟩ eT_b (fun _ _ _ => trivial) hK hP hD hS hA 9 rfl rfl rfl [9, 10, 11, 12, 13, 14, 15] (by decide) rfl rfl rfl hl.1 (Nat.le_of_ble_eq_true rfl) dX5_gain_69 ⟨Nat.zero_le _, Nat.zero_le _⟩ (fun _ => rfl) (fun _ => rfl) [x, st, b 0, b 1, b 2, b 3, b 4, b 5, b 6, tr 0, tr 1, tr 2, tr 3, tr 4, tr 5, tr 6, fo] rfl (fun _ => rfl) (fun r_69 u_69 H locs e_69 hP hD hS => ?_)
          obtain rfl := e_69
          refine lv_pop F.1 F.2.1 dX5_gain_72 rfl ?_
          refine lv_aload_n F.1 F.2.1 dX5_gain_73 rfl (lv_at hl 0 rfl) ?_
          refine gf F hK hP 0 rfl rfl hiX5_gain_5 3 (by decide) (List.mem_of_getElem? (i := 4) rfl) rfl dX5_gain_74 ?_
          refine lv_iload_n F.1 F.2.1 dX5_gain_77 rfl (lv_at hl 1 rfl) ?_
          refine iV (rest := []) (wsp := fun _ => (x, .inr (5, [.ref st, .ref kt, .int ik, .ref (tr 0), .ref sc, .ref sh, .ref fo])) :: (st, .inr (4, [.ref (b 0), .ref bk, .ref sp, .int zz])) :: (wB ct b f ++ (wB ct tr (ngU (lay3 (goU f s s 5) s j) n) ++ [ai ct fo 7 (fun j => c (j + 1))]))) F (kX1_wealth l dC dI ct tr (ngU (lay3 (goU f s s 5) s j) n) s (by omega) (be_R hRg hs hj hN mj)) gX5_gain_X1_wealth rfl ⟨rfl, rfl⟩ nmX1_wealth ⟨Nat.le_of_ble_eq_true rfl, Nat.le_of_ble_eq_true rfl⟩ eT_b (fun _ _ _ => trivial) hK hP hD hS hA 9 rfl rfl rfl [9, 10, 11, 12, 13, 14, 15] (by decide) rfl rfl rfl hl.1 (Nat.le_of_ble_eq_true rfl) dX5_gain_78 ⟨Nat.zero_le _, Nat.zero_le _⟩ (fun _ => rfl) (fun _ => rfl) [x, st, b 0, b 1, b 2, b 3, b 4, b 5, b 6, tr 0, tr 1, tr 2, tr 3, tr 4, tr 5, tr 6, fo] rfl (fun _ => rfl) (fun r_78 u_78 H locs e_78 hP hD hS => ?_)
          obtain rfl := e_78
          refine lv_aload_n F.1 F.2.1 dX5_gain_81 rfl (lv_at hl 0 rfl) ?_
          refine gf F hK hP 0 rfl rfl hiX5_gain_5 0 (by decide) (List.mem_of_getElem? (i := 1) rfl) rfl dX5_gain_82 ?_
          refine gf F hK hP 1 rfl rfl hiX5_gain_4 0 (by decide) (List.mem_of_getElem? (i := 2) rfl) rfl dX5_gain_85 ?_
          refine lv_iload_n F.1 F.2.1 dX5_gain_88 rfl (lv_at hl 1 rfl) ?_
          refine iV (rest := [.int (allU (ngU (lay3 (goU f s s 5) s j) n) s 5)]) (wsp := fun _ => (x, .inr (5, [.ref st, .ref kt, .int ik, .ref (tr 0), .ref sc, .ref sh, .ref fo])) :: (st, .inr (4, [.ref (b 0), .ref bk, .ref sp, .int zz])) :: (wB ct b f ++ (wB ct tr (ngU (lay3 (goU f s s 5) s j) n) ++ [ai ct fo 7 (fun j => c (j + 1))]))) F (kX1_wealth l dC dI ct b f s (by omega) hRg) gX5_gain_X1_wealth rfl ⟨rfl, rfl⟩ nmX1_wealth ⟨Nat.le_of_ble_eq_true rfl, Nat.le_of_ble_eq_true rfl⟩ eT_b (fun _ _ _ => trivial) hK hP hD hS hA 2 rfl rfl rfl [2, 3, 4, 5, 6, 7, 8] (by decide) rfl rfl rfl hl.1 (Nat.le_of_ble_eq_true rfl) dX5_gain_89 ⟨Nat.zero_le _, Nat.zero_le _⟩ (fun _ => rfl) (fun _ => rfl) [x, st, b 0, b 1, b 2, b 3, b 4, b 5, b 6, tr 0, tr 1, tr 2, tr 3, tr 4, tr 5, tr 6, fo] rfl (fun _ => rfl) (fun r_89 u_89 H locs e_89 hP hD hS => ?_)
          obtain rfl := e_89
          refine lv_isub F.1 F.2.1 dX5_gain_92 ?_
          exact rtI (f, c, (ngU (lay3 (goU f s s 5) s j) n)) F hr hlk hP hS rfl (Eq.trans (by rw [show tn (nI s) = s from nI_clamp (by omega), show tn (nI n) = n from nI_clamp (by omega)]; try exact (by unfold kBest; rw [if_neg (fun q => q.elim c_28 c_43)]; rw [if_pos rfl, vj]; rfl)) (if_pos ⟨c_4, c_14⟩).symm) dX5_gain_93
        · refine lv_aload_n F.1 F.2.1 dX5_gain_46 rfl (lv_at hl 0 rfl) ?_
          refine lv_iconst (v := 4) F.1 F.2.1 dX5_gain_47 (by decide) ?_
          refine iV (rest := []) (wsp := fun _ => (x, .inr (5, [.ref st, .ref kt, .int ik, .ref (tr 0), .ref sc, .ref sh, .ref fo])) :: (st, .inr (4, [.ref (b 0), .ref bk, .ref sp, .int zz])) :: (wB ct b f ++ (wB ct tr w ++ [ai ct fo 7 (fun j => (fnd c 5) (j + 1))]))) F (kX5_finding l dC dI ct x st kt sc sh fo tr ik c 4 5 (-1000005) (by decide) (by decide) (by decide)) gX5_gain_X5_finding rfl ⟨rfl, rfl⟩ nmX5_finding ⟨Nat.le_of_ble_eq_true rfl, Nat.le_of_ble_eq_true rfl⟩ eT_b (fun _ _ _ => trivial) hK hP hD hS hA 0 rfl rfl rfl [0, 16] (by decide) rfl rfl rfl hl.1 (Nat.le_of_ble_eq_true rfl) dX5_gain_48 ⟨Nat.zero_le _, Nat.zero_le _⟩ (fun _ => rfl) (fun _ => rfl) [x, st, b 0, b 1, b 2, b 3, b 4, b 5, b 6, tr 0, tr 1, tr 2, tr 3, tr 4, tr 5, tr 6, fo] rfl (fun _ => rfl) (fun r_48 u_48 H locs e_48 hP hD hS => ?_)
          obtain rfl := e_48
          exact rtI (f, (fnd c 5), w) F hr hlk hP hS rfl (Eq.trans (by rw [show tn (nI s) = s from nI_clamp (by omega), show tn (nI n) = n from nI_clamp (by omega)]; try exact (if_pos (Or.inr c_43)).symm) (if_pos ⟨c_4, c_14⟩).symm) dX5_gain_51
    · have c_14 : ¬ (1 ≤ x2 ∧ x2 ≤ 30) := b01f rfl c_14
      refine lv_aload_n F.1 F.2.1 dX5_gain_17 rfl (lv_at hl 0 rfl) ?_
      refine lv_iconst (v := 0) F.1 F.2.1 dX5_gain_18 (by decide) ?_
      refine iV (rest := []) (wsp := fun _ => (x, .inr (5, [.ref st, .ref kt, .int ik, .ref (tr 0), .ref sc, .ref sh, .ref fo])) :: (st, .inr (4, [.ref (b 0), .ref bk, .ref sp, .int zz])) :: (wB ct b f ++ (wB ct tr w ++ [ai ct fo 7 (fun j => (fnd c 1) (j + 1))]))) F (kX5_finding l dC dI ct x st kt sc sh fo tr ik c 0 1 (-1000001) (by decide) (by decide) (by decide)) gX5_gain_X5_finding rfl ⟨rfl, rfl⟩ nmX5_finding ⟨Nat.le_of_ble_eq_true rfl, Nat.le_of_ble_eq_true rfl⟩ eT_b (fun _ _ _ => trivial) hK hP hD hS hA 0 rfl rfl rfl [0, 16] (by decide) rfl rfl rfl hl.1 (Nat.le_of_ble_eq_true rfl) dX5_gain_19 ⟨Nat.zero_le _, Nat.zero_le _⟩ (fun _ => rfl) (fun _ => rfl) [x, st, b 0, b 1, b 2, b 3, b 4, b 5, b 6, tr 0, tr 1, tr 2, tr 3, tr 4, tr 5, tr 6, fo] rfl (fun _ => rfl) (fun r_19 u_19 H locs e_19 hP hD hS => ?_)
      obtain rfl := e_19
      exact rtI (f, (fnd c 1), w) F hr hlk hP hS rfl ((if_neg (fun q => c_14 q.2)).symm) dX5_gain_22
