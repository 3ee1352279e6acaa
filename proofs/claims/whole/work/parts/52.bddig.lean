abbrev H_bw (g : HB) (b w : Nat) : Int32 := g (19 + w) b

set_option maxHeartbeats 4000000 in
set_option maxRecDepth 100000 in
theorem l_mxDi (E : EN) (u : U3) (r : R1) (h g : HB) (x0 x : Int64) (d : Nat) (hd : d < 8) (hi : r 0 < 5) (hi5 : r 0 ≠ 5) (hD : vI (g 1 0) 9) (F : FX) (C : Cx E F cX6_mixDoors 7 RX6 wsX6_mixDoors (rmT 2 43)) (Kc : T E F 7 (ub (ub u (r 0) g) 5 h) r 5 [(0, .ref (eA E 5 0)), (1, .long x0), (3, .long (dgM (H_df g d) x 11)), (5, .int (nI (d + 1)))] []) : ∀ (n j : Nat), j ≤ 11 → 11 + 1 ≤ j + n → T E F 7 (ub (ub u (r 0) g) 5 h) r 23 [(0, .ref (eA E 5 0)), (1, .long x0), (3, .long (dgM (H_df g d) x j)), (5, .int (nI d)), (6, .int (nI j))] [] := by
  have hin6 : ∀ w ∈ u_ws RX6 TX6 8, w ∈ wsX6_mixDoors := by decide +kernel
  intro n
  induction n with
  | zero => intro j h1 h2; exact absurd h2 (by omega)
  | succ n ih =>
    intro j h1 h2
    refine tt_iload C dX6_mixDoors_23 4 rfl ?_
    refine tt_bipush (v := nI 11) C dX6_mixDoors_25 (by decide) ?_
    refine tt_icmp_ge C (tgt := 52) dX6_mixDoors_27 (by decide) (nI_leI (by omega) (by omega)) (fun c_1301 => ?_) (fun c_1301 => ?_)
    · skip
      refine tt_iinc (p := 3) (v := nI (d + 1)) (lv' := [(0, .ref (eA E 5 0)), (1, .long x0), (3, .long (dgM (H_df g d) x j)), (5, .int (nI (d + 1))), (6, .int (nI j))]) C dX6_mixDoors_52 rfl (by rw [show Int32.ofInt 1 = nI 1 from by decide]; exact nI_add _ _) (by decide) [1, 2, 3, 0, 4] rfl ?_
      refine tt_goto (tgt := 5) C dX6_mixDoors_55 (by decide) ?_
      have hje : j = 11 := (by omega); subst hje
      exact tt_lvsub [0, 1, 2, 3] rfl Kc
    · skip
      refine tt_lload_n C dX6_mixDoors_30 rfl 2 rfl ?_
      refine tt_aload_n C dX6_mixDoors_31 rfl 0 rfl ?_
      refine tt_get (v := .ref (eA E (r 0) 0)) C oT0 rfl hin6 0 (by decide) (List.mem_of_getElem? (i := 1) (by decide +kernel)) rfl dX6_mixDoors_32 ?_
      refine tt_iload C dX6_mixDoors_35 3 rfl ?_
      refine tt_iload C dX6_mixDoors_37 4 rfl ?_
      refine tt_cVI C (CT_comm hi5 (c_X2_doorFact E (ub u 5 h) r g (r 0) d j hi (by first | assumption | omega) (by first | assumption | omega))) gX6_mixDoors_X2_doorFact rfl ⟨rfl, rfl⟩ 2 (by decide +kernel) ⟨Nat.le_of_ble_eq_true rfl, Nat.le_of_ble_eq_true rfl⟩ rfl (oH0 hi) rfl (Nat.le_of_ble_eq_true rfl) dX6_mixDoors_39 rfl ?_
      refine tt_cSL C (c_X6_mix E (ub (ub u (r 0) g) 5 h) r (dgM (H_df g d) x j) (H_df g d j)) gX6_mixDoors_X6_mix rfl ⟨rfl, rfl⟩ 2 (by decide +kernel) ⟨Nat.le_of_ble_eq_true rfl, Nat.le_of_ble_eq_true rfl⟩ rfl (Nat.le_of_ble_eq_true rfl) dX6_mixDoors_42 rfl ?_
      refine tt_lstore_n (lv' := [(0, .ref (eA E 5 0)), (1, .long x0), (3, .long (31 * (dgM (H_df g d) x j) + (H_df g d j).toInt64)), (5, .int (nI d)), (6, .int (nI j))]) C dX6_mixDoors_45 rfl (by decide) [1, 2, 0, 3, 4] rfl ?_
      refine tt_iinc (p := 4) (v := nI (j + 1)) (lv' := [(0, .ref (eA E 5 0)), (1, .long x0), (3, .long (31 * (dgM (H_df g d) x j) + (H_df g d j).toInt64)), (5, .int (nI d)), (6, .int (nI (j + 1)))]) C dX6_mixDoors_46 rfl (by rw [show Int32.ofInt 1 = nI 1 from by decide]; exact nI_add _ _) (by decide) [1, 2, 3, 4, 0] rfl ?_
      refine tt_goto (tgt := 23) C dX6_mixDoors_49 (by decide) ?_
      exact ih (j + 1) (by omega) (by omega)

set_option maxHeartbeats 4000000 in
set_option maxRecDepth 100000 in
theorem l_mxD (E : EN) (u : U3) (r : R1) (h : HB) (g : HB) (x : Int64) (hi : r 0 < 5) (hi5 : r 0 ≠ 5) (hD : vI (g 1 0) 9) (F : FX) (C : Cx E F cX6_mixDoors 7 RX6 wsX6_mixDoors (rmT 2 43)) (K : RtL E F cX6_mixDoors (dgD (H_df g) 11 x (ix (g 1 0))) (ub (ub u (r 0) g) 5 h) r) : ∀ (n j : Nat), j ≤ ix (g 1 0) → ix (g 1 0) + 1 ≤ j + n → T E F 7 (ub (ub u (r 0) g) 5 h) r 5 [(0, .ref (eA E 5 0)), (1, .long x), (3, .long (dgD (H_df g) 11 x j)), (5, .int (nI j))] [] := by
  have hin1 : ∀ w ∈ u_ws RX1 TX1 17, w ∈ wsX6_mixDoors := by decide +kernel
  have hin2 : ∀ w ∈ u_ws RX2 TX2 8, w ∈ wsX6_mixDoors := by decide +kernel
  have hin6 : ∀ w ∈ u_ws RX6 TX6 8, w ∈ wsX6_mixDoors := by decide +kernel
  intro n
  induction n with
  | zero => intro j h1 h2; exact absurd h2 (by omega)
  | succ n ih =>
    intro j h1 h2
    have hX' := ix_lt hD (by decide)
    refine tt_iload C dX6_mixDoors_5 3 rfl ?_
    refine tt_aload_n C dX6_mixDoors_7 rfl 0 rfl ?_
    refine tt_get (v := .ref (eA E (r 0) 0)) C oT0 rfl hin6 0 (by decide) (List.mem_of_getElem? (i := 1) (by decide +kernel)) rfl dX6_mixDoors_8 ?_
    refine tt_get (v := .ref (eA E (r 0) 1)) C (oH0 hi) rfl hin2 0 (by decide) (List.mem_of_getElem? (i := 2) (by decide +kernel)) rfl dX6_mixDoors_11 ?_
    refine tt_getI (v := nI (ix (g 1 0))) C (oH1 hi) rfl hin1 0 (by decide) (List.mem_of_getElem? (i := 3) (by decide +kernel)) rfl ((ub_w hi5).trans (ix_eq hD (by decide))) dX6_mixDoors_14 ?_
    refine tt_icmp_ge C (tgt := 58) dX6_mixDoors_17 (by decide) (nI_leI (by omega) (by omega)) (fun c_101 => ?_) (fun c_101 => ?_)
    · skip
      have hje : j = ix (g 1 0) := (by omega); subst hje
      refine tt_lload_n C dX6_mixDoors_58 rfl 2 rfl ?_
      exact tt_lret K dX6_mixDoors_59 (by rfl) (by rfl) rfl
    · skip
      refine tt_iconst (v := nI 0) C dX6_mixDoors_20 (by decide) ?_
      refine tt_istore (lv' := [(0, .ref (eA E 5 0)), (1, .long x), (3, .long (dgD (H_df g) 11 x j)), (5, .int (nI j)), (6, .int (nI 0))]) C dX6_mixDoors_21 (by decide) [1, 2, 3, 4, 0] rfl ?_
      exact l_mxDi E u r h g _ _ j (by omega) hi hi5 hD F C (ih (j + 1) (by omega) (by omega)) (11 + 1) 0 (by omega) (by omega)

set_option maxHeartbeats 4000000 in
set_option maxRecDepth 100000 in
theorem c_X6_mixDoors (E : EN) (u : U3) (r : R1) (h : HB) (g : HB) (x : Int64) (hi : r 0 < 5) (hi5 : r 0 ≠ 5) (hD : vI (g 1 0) 9) : CT E yX6_mixDoors wsX6_mixDoors (rmT 2 43) [.ref (eA E 5 0), .long x] (ub (ub u (r 0) g) 5 h) r (some (.long (dgD (H_df g) 11 x (ix (g 1 0))))) (ub (ub u (r 0) g) 5 h) r := by
  refine CT_ofL (cc := cX6_mixDoors) (nL := 7) (own := RX6) (by decide) rfl rfl (Nat.le_of_ble_eq_true rfl) (fun F C K => ?_)
  refine tt_to (lv1 := [(0, .ref (eA E 5 0)), (1, .long x)]) rfl rfl rfl rfl ?_
  refine tt_lload_n C dX6_mixDoors_0 rfl 1 rfl ?_
  refine tt_lstore_n (lv' := [(0, .ref (eA E 5 0)), (1, .long x), (3, .long x)]) C dX6_mixDoors_1 rfl (by decide) [1, 2, 0] rfl ?_
  refine tt_iconst (v := nI 0) C dX6_mixDoors_2 (by decide) ?_
  refine tt_istore (lv' := [(0, .ref (eA E 5 0)), (1, .long x), (3, .long x), (5, .int (nI 0))]) C dX6_mixDoors_3 (by decide) [1, 2, 3, 0] rfl ?_
  exact l_mxD E u r h g x hi hi5 hD F C K (ix (g 1 0) + 1) 0 (by omega) (by omega)

set_option maxHeartbeats 4000000 in
set_option maxRecDepth 100000 in
theorem l_mxBi (E : EN) (u : U3) (r : R1) (h g : HB) (x0 x : Int64) (d : Nat) (hd : d < 8) (hi : r 0 < 5) (hi5 : r 0 ≠ 5) (hB : vI (g 18 0) 9) (F : FX) (C : Cx E F cX6_mixBadges 7 RX6 wsX6_mixBadges (rmT 1 22)) (Kc : T E F 7 (ub (ub u (r 0) g) 5 h) r 5 [(0, .ref (eA E 5 0)), (1, .long x0), (3, .long (dgM (H_bw g d) x 6)), (5, .int (nI (d + 1)))] []) : ∀ (n j : Nat), j ≤ 6 → 6 + 1 ≤ j + n → T E F 7 (ub (ub u (r 0) g) 5 h) r 23 [(0, .ref (eA E 5 0)), (1, .long x0), (3, .long (dgM (H_bw g d) x j)), (5, .int (nI d)), (6, .int (nI j))] [] := by
  have hin2 : ∀ w ∈ u_ws RX2 TX2 8, w ∈ wsX6_mixBadges := by decide +kernel
  have hin6 : ∀ w ∈ u_ws RX6 TX6 8, w ∈ wsX6_mixBadges := by decide +kernel
  intro n
  induction n with
  | zero => intro j h1 h2; exact absurd h2 (by omega)
  | succ n ih =>
    intro j h1 h2
    refine tt_iload C dX6_mixBadges_23 4 rfl ?_
    refine tt_bipush (v := nI 6) C dX6_mixBadges_25 (by decide) ?_
    refine tt_icmp_ge C (tgt := 55) dX6_mixBadges_27 (by decide) (nI_leI (by omega) (by omega)) (fun c_1301 => ?_) (fun c_1301 => ?_)
    · skip
      refine tt_iinc (p := 3) (v := nI (d + 1)) (lv' := [(0, .ref (eA E 5 0)), (1, .long x0), (3, .long (dgM (H_bw g d) x j)), (5, .int (nI (d + 1))), (6, .int (nI j))]) C dX6_mixBadges_55 rfl (by rw [show Int32.ofInt 1 = nI 1 from by decide]; exact nI_add _ _) (by decide) [1, 2, 3, 0, 4] rfl ?_
      refine tt_goto (tgt := 5) C dX6_mixBadges_58 (by decide) ?_
      have hje : j = 6 := (by omega); subst hje
      exact tt_lvsub [0, 1, 2, 3] rfl Kc
    · skip
      refine tt_lload_n C dX6_mixBadges_30 rfl 2 rfl ?_
      refine tt_aload_n C dX6_mixBadges_31 rfl 0 rfl ?_
      refine tt_get (v := .ref (eA E (r 0) 0)) C oT0 rfl hin6 0 (by decide) (List.mem_of_getElem? (i := 1) (by decide +kernel)) rfl dX6_mixBadges_32 ?_
      refine tt_get (v := .ref (eA E (r 0) 18)) C (oH0 hi) rfl hin2 1 (by decide) (List.mem_of_getElem? (i := 2) (by decide +kernel)) rfl dX6_mixBadges_35 ?_
      refine tt_iload C dX6_mixBadges_38 3 rfl ?_
      refine tt_iload C dX6_mixBadges_40 4 rfl ?_
      refine tt_cVI C (CT_comm hi5 (c_X0_fact E (ub u 5 h) r g (r 0) d j hi (by first | assumption | omega) (by first | assumption | omega))) gX6_mixBadges_X0_fact rfl ⟨rfl, rfl⟩ 2 (by decide +kernel) ⟨Nat.le_of_ble_eq_true rfl, Nat.le_of_ble_eq_true rfl⟩ rfl (oH18 hi) rfl (Nat.le_of_ble_eq_true rfl) dX6_mixBadges_42 rfl ?_
      refine tt_cSL C (c_X6_mix E (ub (ub u (r 0) g) 5 h) r (dgM (H_bw g d) x j) (g (19 + j) d)) gX6_mixBadges_X6_mix rfl ⟨rfl, rfl⟩ 2 (by decide +kernel) ⟨Nat.le_of_ble_eq_true rfl, Nat.le_of_ble_eq_true rfl⟩ rfl (Nat.le_of_ble_eq_true rfl) dX6_mixBadges_45 rfl ?_
      refine tt_lstore_n (lv' := [(0, .ref (eA E 5 0)), (1, .long x0), (3, .long (31 * (dgM (H_bw g d) x j) + (g (19 + j) d).toInt64)), (5, .int (nI d)), (6, .int (nI j))]) C dX6_mixBadges_48 rfl (by decide) [1, 2, 0, 3, 4] rfl ?_
      refine tt_iinc (p := 4) (v := nI (j + 1)) (lv' := [(0, .ref (eA E 5 0)), (1, .long x0), (3, .long (31 * (dgM (H_bw g d) x j) + (g (19 + j) d).toInt64)), (5, .int (nI d)), (6, .int (nI (j + 1)))]) C dX6_mixBadges_49 rfl (by rw [show Int32.ofInt 1 = nI 1 from by decide]; exact nI_add _ _) (by decide) [1, 2, 3, 4, 0] rfl ?_
      refine tt_goto (tgt := 23) C dX6_mixBadges_52 (by decide) ?_
      exact ih (j + 1) (by omega) (by omega)

set_option maxHeartbeats 4000000 in
set_option maxRecDepth 100000 in
theorem l_mxB (E : EN) (u : U3) (r : R1) (h : HB) (g : HB) (x : Int64) (hi : r 0 < 5) (hi5 : r 0 ≠ 5) (hB : vI (g 18 0) 9) (F : FX) (C : Cx E F cX6_mixBadges 7 RX6 wsX6_mixBadges (rmT 1 22)) (K : RtL E F cX6_mixBadges (dgD (H_bw g) 6 x (ix (g 18 0))) (ub (ub u (r 0) g) 5 h) r) : ∀ (n j : Nat), j ≤ ix (g 18 0) → ix (g 18 0) + 1 ≤ j + n → T E F 7 (ub (ub u (r 0) g) 5 h) r 5 [(0, .ref (eA E 5 0)), (1, .long x), (3, .long (dgD (H_bw g) 6 x j)), (5, .int (nI j))] [] := by
  have hin0 : ∀ w ∈ u_ws RX0 TX0 7, w ∈ wsX6_mixBadges := by decide +kernel
  have hin2 : ∀ w ∈ u_ws RX2 TX2 8, w ∈ wsX6_mixBadges := by decide +kernel
  have hin6 : ∀ w ∈ u_ws RX6 TX6 8, w ∈ wsX6_mixBadges := by decide +kernel
  intro n
  induction n with
  | zero => intro j h1 h2; exact absurd h2 (by omega)
  | succ n ih =>
    intro j h1 h2
    have hX' := ix_lt hB (by decide)
    refine tt_iload C dX6_mixBadges_5 3 rfl ?_
    refine tt_aload_n C dX6_mixBadges_7 rfl 0 rfl ?_
    refine tt_get (v := .ref (eA E (r 0) 0)) C oT0 rfl hin6 0 (by decide) (List.mem_of_getElem? (i := 1) (by decide +kernel)) rfl dX6_mixBadges_8 ?_
    refine tt_get (v := .ref (eA E (r 0) 18)) C (oH0 hi) rfl hin2 1 (by decide) (List.mem_of_getElem? (i := 2) (by decide +kernel)) rfl dX6_mixBadges_11 ?_
    refine tt_getI (v := nI (ix (g 18 0))) C (oH18 hi) rfl hin0 0 (by decide) (List.mem_of_getElem? (i := 3) (by decide +kernel)) rfl ((ub_w hi5).trans (ix_eq hB (by decide))) dX6_mixBadges_14 ?_
    refine tt_icmp_ge C (tgt := 61) dX6_mixBadges_17 (by decide) (nI_leI (by omega) (by omega)) (fun c_101 => ?_) (fun c_101 => ?_)
    · skip
      have hje : j = ix (g 18 0) := (by omega); subst hje
      refine tt_lload_n C dX6_mixBadges_61 rfl 2 rfl ?_
      exact tt_lret K dX6_mixBadges_62 (by rfl) (by rfl) rfl
    · skip
      refine tt_iconst (v := nI 0) C dX6_mixBadges_20 (by decide) ?_
      refine tt_istore (lv' := [(0, .ref (eA E 5 0)), (1, .long x), (3, .long (dgD (H_bw g) 6 x j)), (5, .int (nI j)), (6, .int (nI 0))]) C dX6_mixBadges_21 (by decide) [1, 2, 3, 4, 0] rfl ?_
      exact l_mxBi E u r h g _ _ j (by omega) hi hi5 hB F C (ih (j + 1) (by omega) (by omega)) (6 + 1) 0 (by omega) (by omega)

set_option maxHeartbeats 4000000 in
set_option maxRecDepth 100000 in
theorem c_X6_mixBadges (E : EN) (u : U3) (r : R1) (h : HB) (g : HB) (x : Int64) (hi : r 0 < 5) (hi5 : r 0 ≠ 5) (hB : vI (g 18 0) 9) : CT E yX6_mixBadges wsX6_mixBadges (rmT 1 22) [.ref (eA E 5 0), .long x] (ub (ub u (r 0) g) 5 h) r (some (.long (dgD (H_bw g) 6 x (ix (g 18 0))))) (ub (ub u (r 0) g) 5 h) r := by
  refine CT_ofL (cc := cX6_mixBadges) (nL := 7) (own := RX6) (by decide) rfl rfl (Nat.le_of_ble_eq_true rfl) (fun F C K => ?_)
  refine tt_to (lv1 := [(0, .ref (eA E 5 0)), (1, .long x)]) rfl rfl rfl rfl ?_
  refine tt_lload_n C dX6_mixBadges_0 rfl 1 rfl ?_
  refine tt_lstore_n (lv' := [(0, .ref (eA E 5 0)), (1, .long x), (3, .long x)]) C dX6_mixBadges_1 rfl (by decide) [1, 2, 0] rfl ?_
  refine tt_iconst (v := nI 0) C dX6_mixBadges_2 (by decide) ?_
  refine tt_istore (lv' := [(0, .ref (eA E 5 0)), (1, .long x), (3, .long x), (5, .int (nI 0))]) C dX6_mixBadges_3 (by decide) [1, 2, 3, 0] rfl ?_
  exact l_mxB E u r h g x hi hi5 hB F C K (ix (g 18 0) + 1) 0 (by omega) (by omega)

set_option maxHeartbeats 4000000 in
set_option maxRecDepth 100000 in
theorem l_mxTi (E : EN) (u : U3) (r : R1) (h g : HB) (x0 x : Int64) (d : Nat) (hd : d < 64) (hi : r 0 < 5) (hi5 : r 0 ≠ 5) (hm : vI (g 25 0) 65) (ho : ∀ a, a < ix (g 25 0) → vI (g 26 a) 64) (F : FX) (C : Cx E F cX6_mixTwos 7 RX6 wsX6_mixTwos (rmT 1 23)) (Kc : T E F 7 (ub (ub u (r 0) g) 5 h) r 5 [(0, .ref (eA E 5 0)), (1, .long x0), (3, .long (dgM (H_twf g d) x 3)), (5, .int (nI (d + 1)))] []) : ∀ (n j : Nat), j ≤ 3 → 3 + 1 ≤ j + n → T E F 7 (ub (ub u (r 0) g) 5 h) r 23 [(0, .ref (eA E 5 0)), (1, .long x0), (3, .long (dgM (H_twf g d) x j)), (5, .int (nI d)), (6, .int (nI j))] [] := by
  have hin2 : ∀ w ∈ u_ws RX2 TX2 8, w ∈ wsX6_mixTwos := by decide +kernel
  have hin6 : ∀ w ∈ u_ws RX6 TX6 8, w ∈ wsX6_mixTwos := by decide +kernel
  intro n
  induction n with
  | zero => intro j h1 h2; exact absurd h2 (by omega)
  | succ n ih =>
    intro j h1 h2
    refine tt_iload C dX6_mixTwos_23 4 rfl ?_
    refine tt_iconst (v := nI 3) C dX6_mixTwos_25 (by decide) ?_
    refine tt_icmp_ge C (tgt := 54) dX6_mixTwos_26 (by decide) (nI_leI (by omega) (by omega)) (fun c_1301 => ?_) (fun c_1301 => ?_)
    · skip
      refine tt_iinc (p := 3) (v := nI (d + 1)) (lv' := [(0, .ref (eA E 5 0)), (1, .long x0), (3, .long (dgM (H_twf g d) x j)), (5, .int (nI (d + 1))), (6, .int (nI j))]) C dX6_mixTwos_54 rfl (by rw [show Int32.ofInt 1 = nI 1 from by decide]; exact nI_add _ _) (by decide) [1, 2, 3, 0, 4] rfl ?_
      refine tt_goto (tgt := 5) C dX6_mixTwos_57 (by decide) ?_
      have hje : j = 3 := (by omega); subst hje
      exact tt_lvsub [0, 1, 2, 3] rfl Kc
    · skip
      refine tt_lload_n C dX6_mixTwos_29 rfl 2 rfl ?_
      refine tt_aload_n C dX6_mixTwos_30 rfl 0 rfl ?_
      refine tt_get (v := .ref (eA E (r 0) 0)) C oT0 rfl hin6 0 (by decide) (List.mem_of_getElem? (i := 1) (by decide +kernel)) rfl dX6_mixTwos_31 ?_
      refine tt_get (v := .ref (eA E (r 0) 25)) C (oH0 hi) rfl hin2 2 (by decide) (List.mem_of_getElem? (i := 2) (by decide +kernel)) rfl dX6_mixTwos_34 ?_
      refine tt_iload C dX6_mixTwos_37 3 rfl ?_
      refine tt_iload C dX6_mixTwos_39 4 rfl ?_
      refine tt_cVI C (CT_comm hi5 (c_X5_fact E (ub u 5 h) r g (r 0) d j hi (by first | assumption | omega) hm ho (by first | assumption | omega))) gX6_mixTwos_X5_fact rfl ⟨rfl, rfl⟩ 2 (by decide +kernel) ⟨Nat.le_of_ble_eq_true rfl, Nat.le_of_ble_eq_true rfl⟩ rfl (oH25 hi) rfl (Nat.le_of_ble_eq_true rfl) dX6_mixTwos_41 rfl ?_
      refine tt_cSL C (c_X6_mix E (ub (ub u (r 0) g) 5 h) r (dgM (H_twf g d) x j) (H_twf g d j)) gX6_mixTwos_X6_mix rfl ⟨rfl, rfl⟩ 2 (by decide +kernel) ⟨Nat.le_of_ble_eq_true rfl, Nat.le_of_ble_eq_true rfl⟩ rfl (Nat.le_of_ble_eq_true rfl) dX6_mixTwos_44 rfl ?_
      refine tt_lstore_n (lv' := [(0, .ref (eA E 5 0)), (1, .long x0), (3, .long (31 * (dgM (H_twf g d) x j) + (H_twf g d j).toInt64)), (5, .int (nI d)), (6, .int (nI j))]) C dX6_mixTwos_47 rfl (by decide) [1, 2, 0, 3, 4] rfl ?_
      refine tt_iinc (p := 4) (v := nI (j + 1)) (lv' := [(0, .ref (eA E 5 0)), (1, .long x0), (3, .long (31 * (dgM (H_twf g d) x j) + (H_twf g d j).toInt64)), (5, .int (nI d)), (6, .int (nI (j + 1)))]) C dX6_mixTwos_48 rfl (by rw [show Int32.ofInt 1 = nI 1 from by decide]; exact nI_add _ _) (by decide) [1, 2, 3, 4, 0] rfl ?_
      refine tt_goto (tgt := 23) C dX6_mixTwos_51 (by decide) ?_
      exact ih (j + 1) (by omega) (by omega)

set_option maxHeartbeats 4000000 in
set_option maxRecDepth 100000 in
theorem l_mxT (E : EN) (u : U3) (r : R1) (h : HB) (g : HB) (x : Int64) (hi : r 0 < 5) (hi5 : r 0 ≠ 5) (hm : vI (g 25 0) 65) (ho : ∀ a, a < ix (g 25 0) → vI (g 26 a) 64) (F : FX) (C : Cx E F cX6_mixTwos 7 RX6 wsX6_mixTwos (rmT 1 23)) (K : RtL E F cX6_mixTwos (dgD (H_twf g) 3 x (ix (g 25 0))) (ub (ub u (r 0) g) 5 h) r) : ∀ (n j : Nat), j ≤ ix (g 25 0) → ix (g 25 0) + 1 ≤ j + n → T E F 7 (ub (ub u (r 0) g) 5 h) r 5 [(0, .ref (eA E 5 0)), (1, .long x), (3, .long (dgD (H_twf g) 3 x j)), (5, .int (nI j))] [] := by
  have hin2 : ∀ w ∈ u_ws RX2 TX2 8, w ∈ wsX6_mixTwos := by decide +kernel
  have hin5 : ∀ w ∈ u_ws RX5 TX5 3, w ∈ wsX6_mixTwos := by decide +kernel
  have hin6 : ∀ w ∈ u_ws RX6 TX6 8, w ∈ wsX6_mixTwos := by decide +kernel
  intro n
  induction n with
  | zero => intro j h1 h2; exact absurd h2 (by omega)
  | succ n ih =>
    intro j h1 h2
    have hX' := ix_lt hm (by decide)
    refine tt_iload C dX6_mixTwos_5 3 rfl ?_
    refine tt_aload_n C dX6_mixTwos_7 rfl 0 rfl ?_
    refine tt_get (v := .ref (eA E (r 0) 0)) C oT0 rfl hin6 0 (by decide) (List.mem_of_getElem? (i := 1) (by decide +kernel)) rfl dX6_mixTwos_8 ?_
    refine tt_get (v := .ref (eA E (r 0) 25)) C (oH0 hi) rfl hin2 2 (by decide) (List.mem_of_getElem? (i := 2) (by decide +kernel)) rfl dX6_mixTwos_11 ?_
    refine tt_getI (v := nI (ix (g 25 0))) C (oH25 hi) rfl hin5 0 (by decide) (List.mem_of_getElem? (i := 3) (by decide +kernel)) rfl ((ub_w hi5).trans (ix_eq hm (by decide))) dX6_mixTwos_14 ?_
    refine tt_icmp_ge C (tgt := 60) dX6_mixTwos_17 (by decide) (nI_leI (by omega) (by omega)) (fun c_101 => ?_) (fun c_101 => ?_)
    · skip
      have hje : j = ix (g 25 0) := (by omega); subst hje
      refine tt_lload_n C dX6_mixTwos_60 rfl 2 rfl ?_
      exact tt_lret K dX6_mixTwos_61 (by rfl) (by rfl) rfl
    · skip
      refine tt_iconst (v := nI 0) C dX6_mixTwos_20 (by decide) ?_
      refine tt_istore (lv' := [(0, .ref (eA E 5 0)), (1, .long x), (3, .long (dgD (H_twf g) 3 x j)), (5, .int (nI j)), (6, .int (nI 0))]) C dX6_mixTwos_21 (by decide) [1, 2, 3, 4, 0] rfl ?_
      exact l_mxTi E u r h g _ _ j (by omega) hi hi5 hm ho F C (ih (j + 1) (by omega) (by omega)) (3 + 1) 0 (by omega) (by omega)

set_option maxHeartbeats 4000000 in
set_option maxRecDepth 100000 in
theorem c_X6_mixTwos (E : EN) (u : U3) (r : R1) (h : HB) (g : HB) (x : Int64) (hi : r 0 < 5) (hi5 : r 0 ≠ 5) (hm : vI (g 25 0) 65) (ho : ∀ a, a < ix (g 25 0) → vI (g 26 a) 64) : CT E yX6_mixTwos wsX6_mixTwos (rmT 1 23) [.ref (eA E 5 0), .long x] (ub (ub u (r 0) g) 5 h) r (some (.long (dgD (H_twf g) 3 x (ix (g 25 0))))) (ub (ub u (r 0) g) 5 h) r := by
  refine CT_ofL (cc := cX6_mixTwos) (nL := 7) (own := RX6) (by decide) rfl rfl (Nat.le_of_ble_eq_true rfl) (fun F C K => ?_)
  refine tt_to (lv1 := [(0, .ref (eA E 5 0)), (1, .long x)]) rfl rfl rfl rfl ?_
  refine tt_lload_n C dX6_mixTwos_0 rfl 1 rfl ?_
  refine tt_lstore_n (lv' := [(0, .ref (eA E 5 0)), (1, .long x), (3, .long x)]) C dX6_mixTwos_1 rfl (by decide) [1, 2, 0] rfl ?_
  refine tt_iconst (v := nI 0) C dX6_mixTwos_2 (by decide) ?_
  refine tt_istore (lv' := [(0, .ref (eA E 5 0)), (1, .long x), (3, .long x), (5, .int (nI 0))]) C dX6_mixTwos_3 (by decide) [1, 2, 3, 0] rfl ?_
  exact l_mxT E u r h g x hi hi5 hm ho F C K (ix (g 25 0) + 1) 0 (by omega) (by omega)
