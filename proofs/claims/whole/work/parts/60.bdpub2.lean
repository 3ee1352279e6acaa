set_option maxHeartbeats 4000000 in
set_option maxRecDepth 100000 in
theorem c_X6_sets_B (E : EN) (u : U3) (r : R1) (h : HB) (g : HB) (d : Int32) (w : Int32) (v : Int32) (hi : r 0 < 5) (hi5 : r 0 ≠ 5) (hc : ¬ ((¬ d < 0 ∧ ¬ g 1 0 ≤ d) ∧ ((w = 0 ∧ ¬ v < 0 ∧ v ≤ nI 2) ∨ (w = nI 1 ∧ (v = 0 ∨ v = nI 1))))) : CT E yX6_sets wsX6_sets (rmT 5 104) [.ref (eA E 5 0), .int d, .int w, .int v] (ub (ub u (r 0) g) 5 h) r (some (.int (-2))) (ub (ub u (r 0) g) 5 (H_ref h (-2))) r := by
  refine CT_ofI (cc := cX6_sets) (nL := 4) (own := RX6) (by decide) rfl rfl rfl (Nat.le_of_ble_eq_true rfl) (fun F C K => ?_)
  have hin6 : ∀ w ∈ u_ws RX6 TX6 8, w ∈ wsX6_sets := by decide +kernel
  refine tt_to (lv1 := [(0, .ref (eA E 5 0)), (1, .int d), (2, .int w), (3, .int v)]) rfl rfl rfl rfl ?_
  refine tt_aload_n C dX6_sets_0 rfl 0 rfl ?_
  refine tt_get (v := .ref (eA E (r 0) 0)) C oT0 rfl hin6 0 (by decide) (List.mem_of_getElem? (i := 1) (by decide +kernel)) rfl dX6_sets_1 ?_
  refine tt_iload_n C dX6_sets_4 rfl 1 rfl ?_
  refine tt_cVI C (CT_comm hi5 (c_X2_hasDoor E (ub u 5 h) r g (r 0) d hi)) gX6_sets_X2_hasDoor rfl ⟨rfl, rfl⟩ 1 (by decide +kernel) ⟨Nat.le_of_ble_eq_true rfl, Nat.le_of_ble_eq_true rfl⟩ rfl (oH0 hi) rfl (Nat.le_of_ble_eq_true rfl) dX6_sets_5 rfl ?_
  refine tt_if_eqB C (tgt := 19) dX6_sets_8 (by decide) (fun c_1 => ?_) (fun c_1 => ?_)
  · skip
    refine tt_aload_n C dX6_sets_19 rfl 0 rfl ?_
    refine tt_bipush (v := (-2 : Int32)) C dX6_sets_20 (by decide) ?_
    refine tt_cVI C (c_X6_refuse E (ub u (r 0) g) r h (-2 : Int32) (by decide)) gX6_sets_X6_refuse rfl ⟨rfl, rfl⟩ 1 (by decide +kernel) ⟨Nat.le_of_ble_eq_true rfl, Nat.le_of_ble_eq_true rfl⟩ rfl oT0 rfl (Nat.le_of_ble_eq_true rfl) dX6_sets_22 rfl ?_
    generalize e_3 : H_ref h (-2 : Int32) = h_2
    exact tt_iret K dX6_sets_25 (by subst e_3; rfl) (by subst e_3; rfl) rfl
  · skip
    refine tt_iload_n C dX6_sets_11 rfl 2 rfl ?_
    refine tt_iload_n C dX6_sets_12 rfl 3 rfl ?_
    refine tt_cSI C (c_X6_isSetting E (ub (ub u (r 0) g) 5 h) r w v) gX6_sets_X6_isSetting rfl ⟨rfl, rfl⟩ 2 (by decide +kernel) ⟨Nat.le_of_ble_eq_true rfl, Nat.le_of_ble_eq_true rfl⟩ rfl (Nat.le_of_ble_eq_true rfl) dX6_sets_13 rfl ?_
    refine tt_if_neB C (tgt := 26) dX6_sets_16 (by decide) (fun c_4 => ?_) (fun c_4 => ?_)
    · skip
      exact absurd ⟨(by assumption), c_4⟩ hc
    · skip
      refine tt_aload_n C dX6_sets_19 rfl 0 rfl ?_
      refine tt_bipush (v := (-2 : Int32)) C dX6_sets_20 (by decide) ?_
      refine tt_cVI C (c_X6_refuse E (ub u (r 0) g) r h (-2 : Int32) (by decide)) gX6_sets_X6_refuse rfl ⟨rfl, rfl⟩ 1 (by decide +kernel) ⟨Nat.le_of_ble_eq_true rfl, Nat.le_of_ble_eq_true rfl⟩ rfl oT0 rfl (Nat.le_of_ble_eq_true rfl) dX6_sets_22 rfl ?_
      generalize e_6 : H_ref h (-2 : Int32) = h_5
      exact tt_iret K dX6_sets_25 (by subst e_6; rfl) (by subst e_6; rfl) rfl

set_option maxHeartbeats 4000000 in
set_option maxRecDepth 100000 in
theorem c_X6_sets_K (E : EN) (u : U3) (r : R1) (h : HB) (g : HB) (d : Nat) (w : Int32) (v : Int32) (s : Nat) (hi : r 0 < 5) (hi5 : r 0 ≠ 5) (hr : ∀ j, j < 5 → r j < 5) (hrn : ∀ j, j < 4 → r 0 ≠ r (j + 1)) (hD : vI (g 1 0) 9) (hB : vI (g 18 0) 9) (hm : vI (g 25 0) 65) (f0 : h 0 0 = nI s) (hs : s < 4) (hdm : d < ix (g 1 0)) (hset : (w = 0 ∧ ¬ v < 0 ∧ v ≤ nI 2) ∨ (w = nI 1 ∧ (v = 0 ∨ v = nI 1))) : CT E yX6_sets wsX6_sets (rmT 5 104) [.ref (eA E 5 0), .int (nI d), .int w, .int v] (ub (ub u (r 0) g) 5 h) r (some (.int (if w = 0 then g 6 d else g 7 d))) (ub (ub (kA u (r (s + 1)) g) (r 0) (if w = 0 then up2 g 6 d v else up2 g 7 d v)) 5 (up2 h 0 0 (nI (s + 1)))) r := by
  refine CT_ofI (cc := cX6_sets) (nL := 4) (own := RX6) (by decide) rfl rfl rfl (Nat.le_of_ble_eq_true rfl) (fun F C K => ?_)
  have hin2 : ∀ w ∈ u_ws RX2 TX2 8, w ∈ wsX6_sets := by decide +kernel
  have hin6 : ∀ w ∈ u_ws RX6 TX6 8, w ∈ wsX6_sets := by decide +kernel
  refine tt_to (lv1 := [(0, .ref (eA E 5 0)), (1, .int (nI d)), (2, .int w), (3, .int v)]) rfl rfl rfl rfl ?_
  have hD' := ix_lt hD (by decide)
  have hd : d < 8 := by omega
  refine tt_aload_n C dX6_sets_0 rfl 0 rfl ?_
  refine tt_get (v := .ref (eA E (r 0) 0)) C oT0 rfl hin6 0 (by decide) (List.mem_of_getElem? (i := 1) (by decide +kernel)) rfl dX6_sets_1 ?_
  refine tt_iload_n C dX6_sets_4 rfl 1 rfl ?_
  refine tt_cVI C (CT_comm hi5 (c_X2_hasDoor E (ub u 5 h) r g (r 0) (nI d) hi)) gX6_sets_X2_hasDoor rfl ⟨rfl, rfl⟩ 1 (by decide +kernel) ⟨Nat.le_of_ble_eq_true rfl, Nat.le_of_ble_eq_true rfl⟩ rfl (oH0 hi) rfl (Nat.le_of_ble_eq_true rfl) dX6_sets_5 rfl ?_
  refine tt_if_eqB C (tgt := 19) dX6_sets_8 (by decide) (fun c_1 => ?_) (fun c_1 => ?_)
  · skip
    exact absurd (has_ok hD (by decide) hdm) c_1
  · skip
    refine tt_iload_n C dX6_sets_11 rfl 2 rfl ?_
    refine tt_iload_n C dX6_sets_12 rfl 3 rfl ?_
    refine tt_cSI C (c_X6_isSetting E (ub (ub u (r 0) g) 5 h) r w v) gX6_sets_X6_isSetting rfl ⟨rfl, rfl⟩ 2 (by decide +kernel) ⟨Nat.le_of_ble_eq_true rfl, Nat.le_of_ble_eq_true rfl⟩ rfl (Nat.le_of_ble_eq_true rfl) dX6_sets_13 rfl ?_
    refine tt_if_neB C (tgt := 26) dX6_sets_16 (by decide) (fun c_2 => ?_) (fun c_2 => ?_)
    · skip
      refine tt_aload_n C dX6_sets_26 rfl 0 rfl ?_
      refine tt_cVV C (c_X6_keepState_K E u r h g s hr hrn hD hB hm f0 hs) gX6_sets_X6_keepState rfl ⟨rfl, rfl⟩ 0 (by decide +kernel) ⟨Nat.le_of_ble_eq_true rfl, Nat.le_of_ble_eq_true rfl⟩ rfl oT0 rfl (Nat.le_of_ble_eq_true rfl) dX6_sets_27 rfl ?_
      generalize e_4 : up2 h 0 0 (nI (s + 1)) = h_3
      refine tt_aload_n C dX6_sets_30 rfl 0 rfl ?_
      refine tt_get (v := .ref (eA E (r 0) 0)) C oT0 rfl hin6 0 (by decide) (List.mem_of_getElem? (i := 1) (by decide +kernel)) rfl dX6_sets_31 ?_
      refine tt_get (v := .ref (eA E (r 0) 1)) C (oH0 hi) rfl hin2 0 (by decide) (List.mem_of_getElem? (i := 2) (by decide +kernel)) rfl dX6_sets_34 ?_
      refine tt_iload_n C dX6_sets_37 rfl 1 rfl ?_
      refine tt_iload_n C dX6_sets_38 rfl 2 rfl ?_
      refine tt_iload_n C dX6_sets_39 rfl 3 rfl ?_
      refine tt_cVI C (CT_comm hi5 (c_X1_changeSetting E (ub (kA u (r (s + 1)) g) 5 h_3) r g (r 0) d w v hi (by first | assumption | omega))) gX6_sets_X1_changeSetting rfl ⟨rfl, rfl⟩ 3 (by decide +kernel) ⟨Nat.le_of_ble_eq_true rfl, Nat.le_of_ble_eq_true rfl⟩ rfl (oH1 hi) rfl (Nat.le_of_ble_eq_true rfl) dX6_sets_40 rfl ?_
      generalize e_6 : (if w = 0 then up2 g 6 d v else up2 g 7 d v) = h_5
      exact tt_iret K dX6_sets_43 (by subst e_4; subst e_6; rfl) (by subst e_4; subst e_6; rfl) rfl
    · skip
      exact absurd hset c_2

set_option maxHeartbeats 4000000 in
set_option maxRecDepth 100000 in
theorem c_X6_sets_L (E : EN) (u : U3) (r : R1) (h : HB) (g : HB) (d : Nat) (w : Int32) (v : Int32) (hi : r 0 < 5) (hi5 : r 0 ≠ 5) (hr : ∀ j, j < 5 → r j < 5) (hrn : ∀ j, j < 4 → r 0 ≠ r (j + 1)) (hD : vI (g 1 0) 9) (hB : vI (g 18 0) 9) (hm : vI (g 25 0) 65) (f0 : h 0 0 = nI 4) (hdm : d < ix (g 1 0)) (hset : (w = 0 ∧ ¬ v < 0 ∧ v ≤ nI 2) ∨ (w = nI 1 ∧ (v = 0 ∨ v = nI 1))) : CT E yX6_sets wsX6_sets (rmT 5 104) [.ref (eA E 5 0), .int (nI d), .int w, .int v] (ub (ub u (r 0) g) 5 h) r (some (.int (if w = 0 then g 6 d else g 7 d))) (ub (ub (kA u (r 1) g) (r 0) (if w = 0 then up2 g 6 d v else up2 g 7 d v)) 5 (up2 (up2 h 0 0 (nI 3)) 0 0 (nI 4))) (kR r) := by
  refine CT_ofI (cc := cX6_sets) (nL := 4) (own := RX6) (by decide) rfl rfl rfl (Nat.le_of_ble_eq_true rfl) (fun F C K => ?_)
  have hin2 : ∀ w ∈ u_ws RX2 TX2 8, w ∈ wsX6_sets := by decide +kernel
  have hin6 : ∀ w ∈ u_ws RX6 TX6 8, w ∈ wsX6_sets := by decide +kernel
  refine tt_to (lv1 := [(0, .ref (eA E 5 0)), (1, .int (nI d)), (2, .int w), (3, .int v)]) rfl rfl rfl rfl ?_
  have hD' := ix_lt hD (by decide)
  have hd : d < 8 := by omega
  refine tt_aload_n C dX6_sets_0 rfl 0 rfl ?_
  refine tt_get (v := .ref (eA E (r 0) 0)) C oT0 rfl hin6 0 (by decide) (List.mem_of_getElem? (i := 1) (by decide +kernel)) rfl dX6_sets_1 ?_
  refine tt_iload_n C dX6_sets_4 rfl 1 rfl ?_
  refine tt_cVI C (CT_comm hi5 (c_X2_hasDoor E (ub u 5 h) r g (r 0) (nI d) hi)) gX6_sets_X2_hasDoor rfl ⟨rfl, rfl⟩ 1 (by decide +kernel) ⟨Nat.le_of_ble_eq_true rfl, Nat.le_of_ble_eq_true rfl⟩ rfl (oH0 hi) rfl (Nat.le_of_ble_eq_true rfl) dX6_sets_5 rfl ?_
  refine tt_if_eqB C (tgt := 19) dX6_sets_8 (by decide) (fun c_1 => ?_) (fun c_1 => ?_)
  · skip
    exact absurd (has_ok hD (by decide) hdm) c_1
  · skip
    refine tt_iload_n C dX6_sets_11 rfl 2 rfl ?_
    refine tt_iload_n C dX6_sets_12 rfl 3 rfl ?_
    refine tt_cSI C (c_X6_isSetting E (ub (ub u (r 0) g) 5 h) r w v) gX6_sets_X6_isSetting rfl ⟨rfl, rfl⟩ 2 (by decide +kernel) ⟨Nat.le_of_ble_eq_true rfl, Nat.le_of_ble_eq_true rfl⟩ rfl (Nat.le_of_ble_eq_true rfl) dX6_sets_13 rfl ?_
    refine tt_if_neB C (tgt := 26) dX6_sets_16 (by decide) (fun c_2 => ?_) (fun c_2 => ?_)
    · skip
      refine tt_aload_n C dX6_sets_26 rfl 0 rfl ?_
      refine tt_cVV C (c_X6_keepState_L E u r h g hr hrn hD hB hm f0) gX6_sets_X6_keepState rfl ⟨rfl, rfl⟩ 0 (by decide +kernel) ⟨Nat.le_of_ble_eq_true rfl, Nat.le_of_ble_eq_true rfl⟩ rfl oT0 rfl (Nat.le_of_ble_eq_true rfl) dX6_sets_27 rfl ?_
      generalize e_4 : up2 (up2 h 0 0 (nI 3)) 0 0 (nI 4) = h_3
      refine tt_aload_n C dX6_sets_30 rfl 0 rfl ?_
      refine tt_get (v := .ref (eA E (r 0) 0)) C oT0 rfl hin6 0 (by decide) (List.mem_of_getElem? (i := 1) (by decide +kernel)) rfl dX6_sets_31 ?_
      refine tt_get (v := .ref (eA E (r 0) 1)) C (oH0 hi) rfl hin2 0 (by decide) (List.mem_of_getElem? (i := 2) (by decide +kernel)) rfl dX6_sets_34 ?_
      refine tt_iload_n C dX6_sets_37 rfl 1 rfl ?_
      refine tt_iload_n C dX6_sets_38 rfl 2 rfl ?_
      refine tt_iload_n C dX6_sets_39 rfl 3 rfl ?_
      refine tt_cVI C (CT_comm hi5 (c_X1_changeSetting E (ub (kA u (r 1) g) 5 h_3) (kR r) g (r 0) d w v hi (by first | assumption | omega))) gX6_sets_X1_changeSetting rfl ⟨rfl, rfl⟩ 3 (by decide +kernel) ⟨Nat.le_of_ble_eq_true rfl, Nat.le_of_ble_eq_true rfl⟩ rfl (oH1 hi) rfl (Nat.le_of_ble_eq_true rfl) dX6_sets_40 rfl ?_
      generalize e_6 : (if w = 0 then up2 g 6 d v else up2 g 7 d v) = h_5
      exact tt_iret K dX6_sets_43 (by subst e_4; subst e_6; rfl) (by subst e_4; subst e_6; rfl) rfl
    · skip
      exact absurd hset c_2

set_option maxHeartbeats 4000000 in
set_option maxRecDepth 100000 in
theorem c_X6_levels_B (E : EN) (u : U3) (r : R1) (h : HB) (g : HB) (b : Int32) (v : Int32) (hi : r 0 < 5) (hi5 : r 0 ≠ 5) (hc : ¬ ((¬ b < 0 ∧ ¬ g 18 0 ≤ b) ∧ (¬ v < 0 ∧ ¬ nI 3 < v))) : CT E yX6_levels wsX6_levels (rmT 5 104) [.ref (eA E 5 0), .int b, .int v] (ub (ub u (r 0) g) 5 h) r (some (.int (-2))) (ub (ub u (r 0) g) 5 (H_ref h (-2))) r := by
  refine CT_ofI (cc := cX6_levels) (nL := 3) (own := RX6) (by decide) rfl rfl rfl (Nat.le_of_ble_eq_true rfl) (fun F C K => ?_)
  have hin6 : ∀ w ∈ u_ws RX6 TX6 8, w ∈ wsX6_levels := by decide +kernel
  refine tt_to (lv1 := [(0, .ref (eA E 5 0)), (1, .int b), (2, .int v)]) rfl rfl rfl rfl ?_
  refine tt_aload_n C dX6_levels_0 rfl 0 rfl ?_
  refine tt_get (v := .ref (eA E (r 0) 0)) C oT0 rfl hin6 0 (by decide) (List.mem_of_getElem? (i := 1) (by decide +kernel)) rfl dX6_levels_1 ?_
  refine tt_iload_n C dX6_levels_4 rfl 1 rfl ?_
  refine tt_cVI C (CT_comm hi5 (c_X2_hasBadge E (ub u 5 h) r g (r 0) b hi)) gX6_levels_X2_hasBadge rfl ⟨rfl, rfl⟩ 1 (by decide +kernel) ⟨Nat.le_of_ble_eq_true rfl, Nat.le_of_ble_eq_true rfl⟩ rfl (oH0 hi) rfl (Nat.le_of_ble_eq_true rfl) dX6_levels_5 rfl ?_
  refine tt_if_eqB C (tgt := 18) dX6_levels_8 (by decide) (fun c_1 => ?_) (fun c_1 => ?_)
  · skip
    refine tt_aload_n C dX6_levels_18 rfl 0 rfl ?_
    refine tt_bipush (v := (-2 : Int32)) C dX6_levels_19 (by decide) ?_
    refine tt_cVI C (c_X6_refuse E (ub u (r 0) g) r h (-2 : Int32) (by decide)) gX6_levels_X6_refuse rfl ⟨rfl, rfl⟩ 1 (by decide +kernel) ⟨Nat.le_of_ble_eq_true rfl, Nat.le_of_ble_eq_true rfl⟩ rfl oT0 rfl (Nat.le_of_ble_eq_true rfl) dX6_levels_21 rfl ?_
    generalize e_3 : H_ref h (-2 : Int32) = h_2
    exact tt_iret K dX6_levels_24 (by subst e_3; rfl) (by subst e_3; rfl) rfl
  · skip
    refine tt_iload_n C dX6_levels_11 rfl 2 rfl ?_
    refine tt_cSI C (c_X6_isLevel E (ub (ub u (r 0) g) 5 h) r v) gX6_levels_X6_isLevel rfl ⟨rfl, rfl⟩ 1 (by decide +kernel) ⟨Nat.le_of_ble_eq_true rfl, Nat.le_of_ble_eq_true rfl⟩ rfl (Nat.le_of_ble_eq_true rfl) dX6_levels_12 rfl ?_
    refine tt_if_neB C (tgt := 25) dX6_levels_15 (by decide) (fun c_4 => ?_) (fun c_4 => ?_)
    · skip
      exact absurd ⟨(by assumption), c_4⟩ hc
    · skip
      refine tt_aload_n C dX6_levels_18 rfl 0 rfl ?_
      refine tt_bipush (v := (-2 : Int32)) C dX6_levels_19 (by decide) ?_
      refine tt_cVI C (c_X6_refuse E (ub u (r 0) g) r h (-2 : Int32) (by decide)) gX6_levels_X6_refuse rfl ⟨rfl, rfl⟩ 1 (by decide +kernel) ⟨Nat.le_of_ble_eq_true rfl, Nat.le_of_ble_eq_true rfl⟩ rfl oT0 rfl (Nat.le_of_ble_eq_true rfl) dX6_levels_21 rfl ?_
      generalize e_6 : H_ref h (-2 : Int32) = h_5
      exact tt_iret K dX6_levels_24 (by subst e_6; rfl) (by subst e_6; rfl) rfl

set_option maxHeartbeats 4000000 in
set_option maxRecDepth 100000 in
theorem c_X6_levels_K (E : EN) (u : U3) (r : R1) (h : HB) (g : HB) (b : Nat) (v : Int32) (s : Nat) (hi : r 0 < 5) (hi5 : r 0 ≠ 5) (hr : ∀ j, j < 5 → r j < 5) (hrn : ∀ j, j < 4 → r 0 ≠ r (j + 1)) (hD : vI (g 1 0) 9) (hB : vI (g 18 0) 9) (hm : vI (g 25 0) 65) (f0 : h 0 0 = nI s) (hs : s < 4) (hbm : b < ix (g 18 0)) (hl : ¬ v < 0 ∧ ¬ nI 3 < v) : CT E yX6_levels wsX6_levels (rmT 5 104) [.ref (eA E 5 0), .int (nI b), .int v] (ub (ub u (r 0) g) 5 h) r (some (.int (g 19 b))) (ub (ub (kA u (r (s + 1)) g) (r 0) (up2 g 19 b v)) 5 (up2 h 0 0 (nI (s + 1)))) r := by
  refine CT_ofI (cc := cX6_levels) (nL := 3) (own := RX6) (by decide) rfl rfl rfl (Nat.le_of_ble_eq_true rfl) (fun F C K => ?_)
  have hin2 : ∀ w ∈ u_ws RX2 TX2 8, w ∈ wsX6_levels := by decide +kernel
  have hin6 : ∀ w ∈ u_ws RX6 TX6 8, w ∈ wsX6_levels := by decide +kernel
  refine tt_to (lv1 := [(0, .ref (eA E 5 0)), (1, .int (nI b)), (2, .int v)]) rfl rfl rfl rfl ?_
  have hB' := ix_lt hB (by decide)
  have hb : b < 8 := by omega
  refine tt_aload_n C dX6_levels_0 rfl 0 rfl ?_
  refine tt_get (v := .ref (eA E (r 0) 0)) C oT0 rfl hin6 0 (by decide) (List.mem_of_getElem? (i := 1) (by decide +kernel)) rfl dX6_levels_1 ?_
  refine tt_iload_n C dX6_levels_4 rfl 1 rfl ?_
  refine tt_cVI C (CT_comm hi5 (c_X2_hasBadge E (ub u 5 h) r g (r 0) (nI b) hi)) gX6_levels_X2_hasBadge rfl ⟨rfl, rfl⟩ 1 (by decide +kernel) ⟨Nat.le_of_ble_eq_true rfl, Nat.le_of_ble_eq_true rfl⟩ rfl (oH0 hi) rfl (Nat.le_of_ble_eq_true rfl) dX6_levels_5 rfl ?_
  refine tt_if_eqB C (tgt := 18) dX6_levels_8 (by decide) (fun c_1 => ?_) (fun c_1 => ?_)
  · skip
    exact absurd (has_ok hB (by decide) hbm) c_1
  · skip
    refine tt_iload_n C dX6_levels_11 rfl 2 rfl ?_
    refine tt_cSI C (c_X6_isLevel E (ub (ub u (r 0) g) 5 h) r v) gX6_levels_X6_isLevel rfl ⟨rfl, rfl⟩ 1 (by decide +kernel) ⟨Nat.le_of_ble_eq_true rfl, Nat.le_of_ble_eq_true rfl⟩ rfl (Nat.le_of_ble_eq_true rfl) dX6_levels_12 rfl ?_
    refine tt_if_neB C (tgt := 25) dX6_levels_15 (by decide) (fun c_2 => ?_) (fun c_2 => ?_)
    · skip
      refine tt_aload_n C dX6_levels_25 rfl 0 rfl ?_
      refine tt_cVV C (c_X6_keepState_K E u r h g s hr hrn hD hB hm f0 hs) gX6_levels_X6_keepState rfl ⟨rfl, rfl⟩ 0 (by decide +kernel) ⟨Nat.le_of_ble_eq_true rfl, Nat.le_of_ble_eq_true rfl⟩ rfl oT0 rfl (Nat.le_of_ble_eq_true rfl) dX6_levels_26 rfl ?_
      generalize e_4 : up2 h 0 0 (nI (s + 1)) = h_3
      refine tt_aload_n C dX6_levels_29 rfl 0 rfl ?_
      refine tt_get (v := .ref (eA E (r 0) 0)) C oT0 rfl hin6 0 (by decide) (List.mem_of_getElem? (i := 1) (by decide +kernel)) rfl dX6_levels_30 ?_
      refine tt_get (v := .ref (eA E (r 0) 18)) C (oH0 hi) rfl hin2 1 (by decide) (List.mem_of_getElem? (i := 2) (by decide +kernel)) rfl dX6_levels_33 ?_
      refine tt_iload_n C dX6_levels_36 rfl 1 rfl ?_
      refine tt_iload_n C dX6_levels_37 rfl 2 rfl ?_
      refine tt_cVI C (CT_comm hi5 (c_X0_changeLevel E (ub (kA u (r (s + 1)) g) 5 h_3) r g (r 0) b v hi (by first | assumption | omega))) gX6_levels_X0_changeLevel rfl ⟨rfl, rfl⟩ 2 (by decide +kernel) ⟨Nat.le_of_ble_eq_true rfl, Nat.le_of_ble_eq_true rfl⟩ rfl (oH18 hi) rfl (Nat.le_of_ble_eq_true rfl) dX6_levels_38 rfl ?_
      generalize e_6 : up2 g 19 b v = h_5
      exact tt_iret K dX6_levels_41 (by subst e_4; subst e_6; rfl) (by subst e_4; subst e_6; rfl) rfl
    · skip
      exact absurd hl c_2

set_option maxHeartbeats 4000000 in
set_option maxRecDepth 100000 in
theorem c_X6_levels_L (E : EN) (u : U3) (r : R1) (h : HB) (g : HB) (b : Nat) (v : Int32) (hi : r 0 < 5) (hi5 : r 0 ≠ 5) (hr : ∀ j, j < 5 → r j < 5) (hrn : ∀ j, j < 4 → r 0 ≠ r (j + 1)) (hD : vI (g 1 0) 9) (hB : vI (g 18 0) 9) (hm : vI (g 25 0) 65) (f0 : h 0 0 = nI 4) (hbm : b < ix (g 18 0)) (hl : ¬ v < 0 ∧ ¬ nI 3 < v) : CT E yX6_levels wsX6_levels (rmT 5 104) [.ref (eA E 5 0), .int (nI b), .int v] (ub (ub u (r 0) g) 5 h) r (some (.int (g 19 b))) (ub (ub (kA u (r 1) g) (r 0) (up2 g 19 b v)) 5 (up2 (up2 h 0 0 (nI 3)) 0 0 (nI 4))) (kR r) := by
  refine CT_ofI (cc := cX6_levels) (nL := 3) (own := RX6) (by decide) rfl rfl rfl (Nat.le_of_ble_eq_true rfl) (fun F C K => ?_)
  have hin2 : ∀ w ∈ u_ws RX2 TX2 8, w ∈ wsX6_levels := by decide +kernel
  have hin6 : ∀ w ∈ u_ws RX6 TX6 8, w ∈ wsX6_levels := by decide +kernel
  refine tt_to (lv1 := [(0, .ref (eA E 5 0)), (1, .int (nI b)), (2, .int v)]) rfl rfl rfl rfl ?_
  have hB' := ix_lt hB (by decide)
  have hb : b < 8 := by omega
  refine tt_aload_n C dX6_levels_0 rfl 0 rfl ?_
  refine tt_get (v := .ref (eA E (r 0) 0)) C oT0 rfl hin6 0 (by decide) (List.mem_of_getElem? (i := 1) (by decide +kernel)) rfl dX6_levels_1 ?_
  refine tt_iload_n C dX6_levels_4 rfl 1 rfl ?_
  refine tt_cVI C (CT_comm hi5 (c_X2_hasBadge E (ub u 5 h) r g (r 0) (nI b) hi)) gX6_levels_X2_hasBadge rfl ⟨rfl, rfl⟩ 1 (by decide +kernel) ⟨Nat.le_of_ble_eq_true rfl, Nat.le_of_ble_eq_true rfl⟩ rfl (oH0 hi) rfl (Nat.le_of_ble_eq_true rfl) dX6_levels_5 rfl ?_
  refine tt_if_eqB C (tgt := 18) dX6_levels_8 (by decide) (fun c_1 => ?_) (fun c_1 => ?_)
  · skip
    exact absurd (has_ok hB (by decide) hbm) c_1
  · skip
    refine tt_iload_n C dX6_levels_11 rfl 2 rfl ?_
    refine tt_cSI C (c_X6_isLevel E (ub (ub u (r 0) g) 5 h) r v) gX6_levels_X6_isLevel rfl ⟨rfl, rfl⟩ 1 (by decide +kernel) ⟨Nat.le_of_ble_eq_true rfl, Nat.le_of_ble_eq_true rfl⟩ rfl (Nat.le_of_ble_eq_true rfl) dX6_levels_12 rfl ?_
    refine tt_if_neB C (tgt := 25) dX6_levels_15 (by decide) (fun c_2 => ?_) (fun c_2 => ?_)
    · skip
      refine tt_aload_n C dX6_levels_25 rfl 0 rfl ?_
      refine tt_cVV C (c_X6_keepState_L E u r h g hr hrn hD hB hm f0) gX6_levels_X6_keepState rfl ⟨rfl, rfl⟩ 0 (by decide +kernel) ⟨Nat.le_of_ble_eq_true rfl, Nat.le_of_ble_eq_true rfl⟩ rfl oT0 rfl (Nat.le_of_ble_eq_true rfl) dX6_levels_26 rfl ?_
      generalize e_4 : up2 (up2 h 0 0 (nI 3)) 0 0 (nI 4) = h_3
      refine tt_aload_n C dX6_levels_29 rfl 0 rfl ?_
      refine tt_get (v := .ref (eA E (r 0) 0)) C oT0 rfl hin6 0 (by decide) (List.mem_of_getElem? (i := 1) (by decide +kernel)) rfl dX6_levels_30 ?_
      refine tt_get (v := .ref (eA E (r 0) 18)) C (oH0 hi) rfl hin2 1 (by decide) (List.mem_of_getElem? (i := 2) (by decide +kernel)) rfl dX6_levels_33 ?_
      refine tt_iload_n C dX6_levels_36 rfl 1 rfl ?_
      refine tt_iload_n C dX6_levels_37 rfl 2 rfl ?_
      refine tt_cVI C (CT_comm hi5 (c_X0_changeLevel E (ub (kA u (r 1) g) 5 h_3) (kR r) g (r 0) b v hi (by first | assumption | omega))) gX6_levels_X0_changeLevel rfl ⟨rfl, rfl⟩ 2 (by decide +kernel) ⟨Nat.le_of_ble_eq_true rfl, Nat.le_of_ble_eq_true rfl⟩ rfl (oH18 hi) rfl (Nat.le_of_ble_eq_true rfl) dX6_levels_38 rfl ?_
      generalize e_6 : up2 g 19 b v = h_5
      exact tt_iret K dX6_levels_41 (by subst e_4; subst e_6; rfl) (by subst e_4; subst e_6; rfl) rfl
    · skip
      exact absurd hl c_2

set_option maxHeartbeats 4000000 in
set_option maxRecDepth 100000 in
theorem c_X6_locks_B (E : EN) (u : U3) (r : R1) (h : HB) (g : HB) (d : Int32) (e : Int32) (hi : r 0 < 5) (hi5 : r 0 ≠ 5) (hc : ¬ ((¬ d < 0 ∧ ¬ g 1 0 ≤ d) ∧ ¬ e = d ∧ (e = -1 ∨ (¬ e < 0 ∧ ¬ g 1 0 ≤ e)))) : CT E yX6_locks wsX6_locks (rmT 5 104) [.ref (eA E 5 0), .int d, .int e] (ub (ub u (r 0) g) 5 h) r (some (.int (-2))) (ub (ub u (r 0) g) 5 (H_ref h (-2))) r := by
  refine CT_ofI (cc := cX6_locks) (nL := 3) (own := RX6) (by decide) rfl rfl rfl (Nat.le_of_ble_eq_true rfl) (fun F C K => ?_)
  have hin6 : ∀ w ∈ u_ws RX6 TX6 8, w ∈ wsX6_locks := by decide +kernel
  refine tt_to (lv1 := [(0, .ref (eA E 5 0)), (1, .int d), (2, .int e)]) rfl rfl rfl rfl ?_
  refine tt_aload_n C dX6_locks_0 rfl 0 rfl ?_
  refine tt_get (v := .ref (eA E (r 0) 0)) C oT0 rfl hin6 0 (by decide) (List.mem_of_getElem? (i := 1) (by decide +kernel)) rfl dX6_locks_1 ?_
  refine tt_iload_n C dX6_locks_4 rfl 1 rfl ?_
  refine tt_cVI C (CT_comm hi5 (c_X2_hasDoor E (ub u 5 h) r g (r 0) d hi)) gX6_locks_X2_hasDoor rfl ⟨rfl, rfl⟩ 1 (by decide +kernel) ⟨Nat.le_of_ble_eq_true rfl, Nat.le_of_ble_eq_true rfl⟩ rfl (oH0 hi) rfl (Nat.le_of_ble_eq_true rfl) dX6_locks_5 rfl ?_
  refine tt_if_eqB C (tgt := 32) dX6_locks_8 (by decide) (fun c_1 => ?_) (fun c_1 => ?_)
  · skip
    refine tt_aload_n C dX6_locks_32 rfl 0 rfl ?_
    refine tt_bipush (v := (-2 : Int32)) C dX6_locks_33 (by decide) ?_
    refine tt_cVI C (c_X6_refuse E (ub u (r 0) g) r h (-2 : Int32) (by decide)) gX6_locks_X6_refuse rfl ⟨rfl, rfl⟩ 1 (by decide +kernel) ⟨Nat.le_of_ble_eq_true rfl, Nat.le_of_ble_eq_true rfl⟩ rfl oT0 rfl (Nat.le_of_ble_eq_true rfl) dX6_locks_35 rfl ?_
    generalize e_3 : H_ref h (-2 : Int32) = h_2
    exact tt_iret K dX6_locks_38 (by subst e_3; rfl) (by subst e_3; rfl) rfl
  · skip
    refine tt_iload_n C dX6_locks_11 rfl 2 rfl ?_
    refine tt_iload_n C dX6_locks_12 rfl 1 rfl ?_
    refine tt_icmp_eq C (tgt := 32) dX6_locks_13 (by decide) Iff.rfl (fun c_4 => ?_) (fun c_4 => ?_)
    · skip
      refine tt_aload_n C dX6_locks_32 rfl 0 rfl ?_
      refine tt_bipush (v := (-2 : Int32)) C dX6_locks_33 (by decide) ?_
      refine tt_cVI C (c_X6_refuse E (ub u (r 0) g) r h (-2 : Int32) (by decide)) gX6_locks_X6_refuse rfl ⟨rfl, rfl⟩ 1 (by decide +kernel) ⟨Nat.le_of_ble_eq_true rfl, Nat.le_of_ble_eq_true rfl⟩ rfl oT0 rfl (Nat.le_of_ble_eq_true rfl) dX6_locks_35 rfl ?_
      generalize e_6 : H_ref h (-2 : Int32) = h_5
      exact tt_iret K dX6_locks_38 (by subst e_6; rfl) (by subst e_6; rfl) rfl
    · skip
      refine tt_iload_n C dX6_locks_16 rfl 2 rfl ?_
      refine tt_iconst (v := (-1 : Int32)) C dX6_locks_17 (by decide) ?_
      refine tt_icmp_eq C (tgt := 39) dX6_locks_18 (by decide) Iff.rfl (fun c_7 => ?_) (fun c_7 => ?_)
      · skip
        exact absurd ⟨(by assumption), (by assumption), Or.inl c_7⟩ hc
      · skip
        refine tt_aload_n C dX6_locks_21 rfl 0 rfl ?_
        refine tt_get (v := .ref (eA E (r 0) 0)) C oT0 rfl hin6 0 (by decide) (List.mem_of_getElem? (i := 1) (by decide +kernel)) rfl dX6_locks_22 ?_
        refine tt_iload_n C dX6_locks_25 rfl 2 rfl ?_
        refine tt_cVI C (CT_comm hi5 (c_X2_hasDoor E (ub u 5 h) r g (r 0) e hi)) gX6_locks_X2_hasDoor rfl ⟨rfl, rfl⟩ 1 (by decide +kernel) ⟨Nat.le_of_ble_eq_true rfl, Nat.le_of_ble_eq_true rfl⟩ rfl (oH0 hi) rfl (Nat.le_of_ble_eq_true rfl) dX6_locks_26 rfl ?_
        refine tt_if_neB C (tgt := 39) dX6_locks_29 (by decide) (fun c_8 => ?_) (fun c_8 => ?_)
        · skip
          exact absurd ⟨(by assumption), (by assumption), Or.inr c_8⟩ hc
        · skip
          refine tt_aload_n C dX6_locks_32 rfl 0 rfl ?_
          refine tt_bipush (v := (-2 : Int32)) C dX6_locks_33 (by decide) ?_
          refine tt_cVI C (c_X6_refuse E (ub u (r 0) g) r h (-2 : Int32) (by decide)) gX6_locks_X6_refuse rfl ⟨rfl, rfl⟩ 1 (by decide +kernel) ⟨Nat.le_of_ble_eq_true rfl, Nat.le_of_ble_eq_true rfl⟩ rfl oT0 rfl (Nat.le_of_ble_eq_true rfl) dX6_locks_35 rfl ?_
          generalize e_10 : H_ref h (-2 : Int32) = h_9
          exact tt_iret K dX6_locks_38 (by subst e_10; rfl) (by subst e_10; rfl) rfl

set_option maxHeartbeats 4000000 in
set_option maxRecDepth 100000 in
theorem c_X6_locks_KN (E : EN) (u : U3) (r : R1) (h : HB) (g : HB) (d : Nat) (s : Nat) (hi : r 0 < 5) (hi5 : r 0 ≠ 5) (hr : ∀ j, j < 5 → r j < 5) (hrn : ∀ j, j < 4 → r 0 ≠ r (j + 1)) (hD : vI (g 1 0) 9) (hB : vI (g 18 0) 9) (hm : vI (g 25 0) 65) (f0 : h 0 0 = nI s) (hs : s < 4) (hdm : d < ix (g 1 0)) (ho : g 8 d = -1 ∨ vI (g 8 d) 8) : CT E yX6_locks wsX6_locks (rmT 5 104) [.ref (eA E 5 0), .int (nI d), .int (-1)] (ub (ub u (r 0) g) 5 h) r (some (.int (g 8 d))) (ub (ub (kA u (r (s + 1)) g) (r 0) (H_unlock g d)) 5 (up2 h 0 0 (nI (s + 1)))) r := by
  refine CT_ofI (cc := cX6_locks) (nL := 3) (own := RX6) (by decide) rfl rfl rfl (Nat.le_of_ble_eq_true rfl) (fun F C K => ?_)
  have hin2 : ∀ w ∈ u_ws RX2 TX2 8, w ∈ wsX6_locks := by decide +kernel
  have hin6 : ∀ w ∈ u_ws RX6 TX6 8, w ∈ wsX6_locks := by decide +kernel
  refine tt_to (lv1 := [(0, .ref (eA E 5 0)), (1, .int (nI d)), (2, .int (-1))]) rfl rfl rfl rfl ?_
  have hD' := ix_lt hD (by decide)
  have hd : d < 8 := by omega
  refine tt_aload_n C dX6_locks_0 rfl 0 rfl ?_
  refine tt_get (v := .ref (eA E (r 0) 0)) C oT0 rfl hin6 0 (by decide) (List.mem_of_getElem? (i := 1) (by decide +kernel)) rfl dX6_locks_1 ?_
  refine tt_iload_n C dX6_locks_4 rfl 1 rfl ?_
  refine tt_cVI C (CT_comm hi5 (c_X2_hasDoor E (ub u 5 h) r g (r 0) (nI d) hi)) gX6_locks_X2_hasDoor rfl ⟨rfl, rfl⟩ 1 (by decide +kernel) ⟨Nat.le_of_ble_eq_true rfl, Nat.le_of_ble_eq_true rfl⟩ rfl (oH0 hi) rfl (Nat.le_of_ble_eq_true rfl) dX6_locks_5 rfl ?_
  refine tt_if_eqB C (tgt := 32) dX6_locks_8 (by decide) (fun c_1 => ?_) (fun c_1 => ?_)
  · skip
    exact absurd (has_ok hD (by decide) hdm) c_1
  · skip
    refine tt_iload_n C dX6_locks_11 rfl 2 rfl ?_
    refine tt_iload_n C dX6_locks_12 rfl 1 rfl ?_
    refine tt_icmp_eq C (tgt := 32) dX6_locks_13 (by decide) Iff.rfl (fun c_2 => ?_) (fun c_2 => ?_)
    · skip
      exact absurd c_2.symm (vI_ne (vI_nI hd) (by decide))
    · skip
      refine tt_iload_n C dX6_locks_16 rfl 2 rfl ?_
      refine tt_iconst (v := (-1 : Int32)) C dX6_locks_17 (by decide) ?_
      refine tt_icmp_eq C (tgt := 39) dX6_locks_18 (by decide) Iff.rfl (fun c_3 => ?_) (fun c_3 => ?_)
      · skip
        refine tt_aload_n C dX6_locks_39 rfl 0 rfl ?_
        refine tt_cVV C (c_X6_keepState_K E u r h g s hr hrn hD hB hm f0 hs) gX6_locks_X6_keepState rfl ⟨rfl, rfl⟩ 0 (by decide +kernel) ⟨Nat.le_of_ble_eq_true rfl, Nat.le_of_ble_eq_true rfl⟩ rfl oT0 rfl (Nat.le_of_ble_eq_true rfl) dX6_locks_40 rfl ?_
        generalize e_5 : up2 h 0 0 (nI (s + 1)) = h_4
        refine tt_aload_n C dX6_locks_43 rfl 0 rfl ?_
        refine tt_get (v := .ref (eA E (r 0) 0)) C oT0 rfl hin6 0 (by decide) (List.mem_of_getElem? (i := 1) (by decide +kernel)) rfl dX6_locks_44 ?_
        refine tt_get (v := .ref (eA E (r 0) 1)) C (oH0 hi) rfl hin2 0 (by decide) (List.mem_of_getElem? (i := 2) (by decide +kernel)) rfl dX6_locks_47 ?_
        refine tt_iload_n C dX6_locks_50 rfl 1 rfl ?_
        refine tt_iload_n C dX6_locks_51 rfl 2 rfl ?_
        refine tt_cVI C (CT_comm hi5 (c_X1_changeLock_N E (ub (kA u (r (s + 1)) g) 5 h_4) r g (r 0) d hi (by first | assumption | omega) ho)) gX6_locks_X1_changeLock rfl ⟨rfl, rfl⟩ 2 (by decide +kernel) ⟨Nat.le_of_ble_eq_true rfl, Nat.le_of_ble_eq_true rfl⟩ rfl (oH1 hi) rfl (Nat.le_of_ble_eq_true rfl) dX6_locks_52 rfl ?_
        generalize e_7 : H_unlock g d = h_6
        exact tt_iret K dX6_locks_55 (by subst e_5; subst e_7; rfl) (by subst e_5; subst e_7; rfl) rfl
      · skip
        exact absurd rfl c_3

set_option maxHeartbeats 4000000 in
set_option maxRecDepth 100000 in
theorem c_X6_locks_LN (E : EN) (u : U3) (r : R1) (h : HB) (g : HB) (d : Nat) (hi : r 0 < 5) (hi5 : r 0 ≠ 5) (hr : ∀ j, j < 5 → r j < 5) (hrn : ∀ j, j < 4 → r 0 ≠ r (j + 1)) (hD : vI (g 1 0) 9) (hB : vI (g 18 0) 9) (hm : vI (g 25 0) 65) (f0 : h 0 0 = nI 4) (hdm : d < ix (g 1 0)) (ho : g 8 d = -1 ∨ vI (g 8 d) 8) : CT E yX6_locks wsX6_locks (rmT 5 104) [.ref (eA E 5 0), .int (nI d), .int (-1)] (ub (ub u (r 0) g) 5 h) r (some (.int (g 8 d))) (ub (ub (kA u (r 1) g) (r 0) (H_unlock g d)) 5 (up2 (up2 h 0 0 (nI 3)) 0 0 (nI 4))) (kR r) := by
  refine CT_ofI (cc := cX6_locks) (nL := 3) (own := RX6) (by decide) rfl rfl rfl (Nat.le_of_ble_eq_true rfl) (fun F C K => ?_)
  have hin2 : ∀ w ∈ u_ws RX2 TX2 8, w ∈ wsX6_locks := by decide +kernel
  have hin6 : ∀ w ∈ u_ws RX6 TX6 8, w ∈ wsX6_locks := by decide +kernel
  refine tt_to (lv1 := [(0, .ref (eA E 5 0)), (1, .int (nI d)), (2, .int (-1))]) rfl rfl rfl rfl ?_
  have hD' := ix_lt hD (by decide)
  have hd : d < 8 := by omega
  refine tt_aload_n C dX6_locks_0 rfl 0 rfl ?_
  refine tt_get (v := .ref (eA E (r 0) 0)) C oT0 rfl hin6 0 (by decide) (List.mem_of_getElem? (i := 1) (by decide +kernel)) rfl dX6_locks_1 ?_
  refine tt_iload_n C dX6_locks_4 rfl 1 rfl ?_
  refine tt_cVI C (CT_comm hi5 (c_X2_hasDoor E (ub u 5 h) r g (r 0) (nI d) hi)) gX6_locks_X2_hasDoor rfl ⟨rfl, rfl⟩ 1 (by decide +kernel) ⟨Nat.le_of_ble_eq_true rfl, Nat.le_of_ble_eq_true rfl⟩ rfl (oH0 hi) rfl (Nat.le_of_ble_eq_true rfl) dX6_locks_5 rfl ?_
  refine tt_if_eqB C (tgt := 32) dX6_locks_8 (by decide) (fun c_1 => ?_) (fun c_1 => ?_)
  · skip
    exact absurd (has_ok hD (by decide) hdm) c_1
  · skip
    refine tt_iload_n C dX6_locks_11 rfl 2 rfl ?_
    refine tt_iload_n C dX6_locks_12 rfl 1 rfl ?_
    refine tt_icmp_eq C (tgt := 32) dX6_locks_13 (by decide) Iff.rfl (fun c_2 => ?_) (fun c_2 => ?_)
    · skip
      exact absurd c_2.symm (vI_ne (vI_nI hd) (by decide))
    · skip
      refine tt_iload_n C dX6_locks_16 rfl 2 rfl ?_
      refine tt_iconst (v := (-1 : Int32)) C dX6_locks_17 (by decide) ?_
      refine tt_icmp_eq C (tgt := 39) dX6_locks_18 (by decide) Iff.rfl (fun c_3 => ?_) (fun c_3 => ?_)
      · skip
        refine tt_aload_n C dX6_locks_39 rfl 0 rfl ?_
        refine tt_cVV C (c_X6_keepState_L E u r h g hr hrn hD hB hm f0) gX6_locks_X6_keepState rfl ⟨rfl, rfl⟩ 0 (by decide +kernel) ⟨Nat.le_of_ble_eq_true rfl, Nat.le_of_ble_eq_true rfl⟩ rfl oT0 rfl (Nat.le_of_ble_eq_true rfl) dX6_locks_40 rfl ?_
        generalize e_5 : up2 (up2 h 0 0 (nI 3)) 0 0 (nI 4) = h_4
        refine tt_aload_n C dX6_locks_43 rfl 0 rfl ?_
        refine tt_get (v := .ref (eA E (r 0) 0)) C oT0 rfl hin6 0 (by decide) (List.mem_of_getElem? (i := 1) (by decide +kernel)) rfl dX6_locks_44 ?_
        refine tt_get (v := .ref (eA E (r 0) 1)) C (oH0 hi) rfl hin2 0 (by decide) (List.mem_of_getElem? (i := 2) (by decide +kernel)) rfl dX6_locks_47 ?_
        refine tt_iload_n C dX6_locks_50 rfl 1 rfl ?_
        refine tt_iload_n C dX6_locks_51 rfl 2 rfl ?_
        refine tt_cVI C (CT_comm hi5 (c_X1_changeLock_N E (ub (kA u (r 1) g) 5 h_4) (kR r) g (r 0) d hi (by first | assumption | omega) ho)) gX6_locks_X1_changeLock rfl ⟨rfl, rfl⟩ 2 (by decide +kernel) ⟨Nat.le_of_ble_eq_true rfl, Nat.le_of_ble_eq_true rfl⟩ rfl (oH1 hi) rfl (Nat.le_of_ble_eq_true rfl) dX6_locks_52 rfl ?_
        generalize e_7 : H_unlock g d = h_6
        exact tt_iret K dX6_locks_55 (by subst e_5; subst e_7; rfl) (by subst e_5; subst e_7; rfl) rfl
      · skip
        exact absurd rfl c_3

set_option maxHeartbeats 4000000 in
set_option maxRecDepth 100000 in
theorem c_X6_locks_KE (E : EN) (u : U3) (r : R1) (h : HB) (g : HB) (d : Nat) (e : Nat) (s : Nat) (hi : r 0 < 5) (hi5 : r 0 ≠ 5) (hr : ∀ j, j < 5 → r j < 5) (hrn : ∀ j, j < 4 → r 0 ≠ r (j + 1)) (hD : vI (g 1 0) 9) (hB : vI (g 18 0) 9) (hm : vI (g 25 0) 65) (f0 : h 0 0 = nI s) (hs : s < 4) (hdm : d < ix (g 1 0)) (hem : e < ix (g 1 0)) (hde : e ≠ d) (ho : g 8 d = -1 ∨ vI (g 8 d) 8) (hoe : g 8 e = -1 ∨ vI (g 8 e) 8) : CT E yX6_locks wsX6_locks (rmT 5 104) [.ref (eA E 5 0), .int (nI d), .int (nI e)] (ub (ub u (r 0) g) 5 h) r (some (.int (g 8 d))) (ub (ub (kA u (r (s + 1)) g) (r 0) (H_lock g d e)) 5 (up2 h 0 0 (nI (s + 1)))) r := by
  refine CT_ofI (cc := cX6_locks) (nL := 3) (own := RX6) (by decide) rfl rfl rfl (Nat.le_of_ble_eq_true rfl) (fun F C K => ?_)
  have hin2 : ∀ w ∈ u_ws RX2 TX2 8, w ∈ wsX6_locks := by decide +kernel
  have hin6 : ∀ w ∈ u_ws RX6 TX6 8, w ∈ wsX6_locks := by decide +kernel
  refine tt_to (lv1 := [(0, .ref (eA E 5 0)), (1, .int (nI d)), (2, .int (nI e))]) rfl rfl rfl rfl ?_
  have hD' := ix_lt hD (by decide)
  have hd : d < 8 := by omega
  have he : e < 8 := by omega
  refine tt_aload_n C dX6_locks_0 rfl 0 rfl ?_
  refine tt_get (v := .ref (eA E (r 0) 0)) C oT0 rfl hin6 0 (by decide) (List.mem_of_getElem? (i := 1) (by decide +kernel)) rfl dX6_locks_1 ?_
  refine tt_iload_n C dX6_locks_4 rfl 1 rfl ?_
  refine tt_cVI C (CT_comm hi5 (c_X2_hasDoor E (ub u 5 h) r g (r 0) (nI d) hi)) gX6_locks_X2_hasDoor rfl ⟨rfl, rfl⟩ 1 (by decide +kernel) ⟨Nat.le_of_ble_eq_true rfl, Nat.le_of_ble_eq_true rfl⟩ rfl (oH0 hi) rfl (Nat.le_of_ble_eq_true rfl) dX6_locks_5 rfl ?_
  refine tt_if_eqB C (tgt := 32) dX6_locks_8 (by decide) (fun c_1 => ?_) (fun c_1 => ?_)
  · skip
    exact absurd (has_ok hD (by decide) hdm) c_1
  · skip
    refine tt_iload_n C dX6_locks_11 rfl 2 rfl ?_
    refine tt_iload_n C dX6_locks_12 rfl 1 rfl ?_
    refine tt_icmp_eq C (tgt := 32) dX6_locks_13 (by decide) (nI_eq (by omega) (by omega)) (fun c_2 => ?_) (fun c_2 => ?_)
    · skip
      exact absurd c_2 hde
    · skip
      refine tt_iload_n C dX6_locks_16 rfl 2 rfl ?_
      refine tt_iconst (v := (-1 : Int32)) C dX6_locks_17 (by decide) ?_
      refine tt_icmp_eq C (tgt := 39) dX6_locks_18 (by decide) Iff.rfl (fun c_3 => ?_) (fun c_3 => ?_)
      · skip
        exact absurd c_3 (vI_ne (vI_nI he) (by decide))
      · skip
        refine tt_aload_n C dX6_locks_21 rfl 0 rfl ?_
        refine tt_get (v := .ref (eA E (r 0) 0)) C oT0 rfl hin6 0 (by decide) (List.mem_of_getElem? (i := 1) (by decide +kernel)) rfl dX6_locks_22 ?_
        refine tt_iload_n C dX6_locks_25 rfl 2 rfl ?_
        refine tt_cVI C (CT_comm hi5 (c_X2_hasDoor E (ub u 5 h) r g (r 0) (nI e) hi)) gX6_locks_X2_hasDoor rfl ⟨rfl, rfl⟩ 1 (by decide +kernel) ⟨Nat.le_of_ble_eq_true rfl, Nat.le_of_ble_eq_true rfl⟩ rfl (oH0 hi) rfl (Nat.le_of_ble_eq_true rfl) dX6_locks_26 rfl ?_
        refine tt_if_neB C (tgt := 39) dX6_locks_29 (by decide) (fun c_4 => ?_) (fun c_4 => ?_)
        · skip
          refine tt_aload_n C dX6_locks_39 rfl 0 rfl ?_
          refine tt_cVV C (c_X6_keepState_K E u r h g s hr hrn hD hB hm f0 hs) gX6_locks_X6_keepState rfl ⟨rfl, rfl⟩ 0 (by decide +kernel) ⟨Nat.le_of_ble_eq_true rfl, Nat.le_of_ble_eq_true rfl⟩ rfl oT0 rfl (Nat.le_of_ble_eq_true rfl) dX6_locks_40 rfl ?_
          generalize e_6 : up2 h 0 0 (nI (s + 1)) = h_5
          refine tt_aload_n C dX6_locks_43 rfl 0 rfl ?_
          refine tt_get (v := .ref (eA E (r 0) 0)) C oT0 rfl hin6 0 (by decide) (List.mem_of_getElem? (i := 1) (by decide +kernel)) rfl dX6_locks_44 ?_
          refine tt_get (v := .ref (eA E (r 0) 1)) C (oH0 hi) rfl hin2 0 (by decide) (List.mem_of_getElem? (i := 2) (by decide +kernel)) rfl dX6_locks_47 ?_
          refine tt_iload_n C dX6_locks_50 rfl 1 rfl ?_
          refine tt_iload_n C dX6_locks_51 rfl 2 rfl ?_
          refine tt_cVI C (CT_comm hi5 (c_X1_changeLock_E E (ub (kA u (r (s + 1)) g) 5 h_5) r g (r 0) d e hi (by first | assumption | omega) (by first | assumption | omega) ho hoe)) gX6_locks_X1_changeLock rfl ⟨rfl, rfl⟩ 2 (by decide +kernel) ⟨Nat.le_of_ble_eq_true rfl, Nat.le_of_ble_eq_true rfl⟩ rfl (oH1 hi) rfl (Nat.le_of_ble_eq_true rfl) dX6_locks_52 rfl ?_
          generalize e_8 : H_lock g d e = h_7
          exact tt_iret K dX6_locks_55 (by subst e_6; subst e_8; rfl) (by subst e_6; subst e_8; rfl) rfl
        · skip
          exact absurd (has_ok hD (by decide) hem) c_4

set_option maxHeartbeats 4000000 in
set_option maxRecDepth 100000 in
theorem c_X6_locks_LE (E : EN) (u : U3) (r : R1) (h : HB) (g : HB) (d : Nat) (e : Nat) (hi : r 0 < 5) (hi5 : r 0 ≠ 5) (hr : ∀ j, j < 5 → r j < 5) (hrn : ∀ j, j < 4 → r 0 ≠ r (j + 1)) (hD : vI (g 1 0) 9) (hB : vI (g 18 0) 9) (hm : vI (g 25 0) 65) (f0 : h 0 0 = nI 4) (hdm : d < ix (g 1 0)) (hem : e < ix (g 1 0)) (hde : e ≠ d) (ho : g 8 d = -1 ∨ vI (g 8 d) 8) (hoe : g 8 e = -1 ∨ vI (g 8 e) 8) : CT E yX6_locks wsX6_locks (rmT 5 104) [.ref (eA E 5 0), .int (nI d), .int (nI e)] (ub (ub u (r 0) g) 5 h) r (some (.int (g 8 d))) (ub (ub (kA u (r 1) g) (r 0) (H_lock g d e)) 5 (up2 (up2 h 0 0 (nI 3)) 0 0 (nI 4))) (kR r) := by
  refine CT_ofI (cc := cX6_locks) (nL := 3) (own := RX6) (by decide) rfl rfl rfl (Nat.le_of_ble_eq_true rfl) (fun F C K => ?_)
  have hin2 : ∀ w ∈ u_ws RX2 TX2 8, w ∈ wsX6_locks := by decide +kernel
  have hin6 : ∀ w ∈ u_ws RX6 TX6 8, w ∈ wsX6_locks := by decide +kernel
  refine tt_to (lv1 := [(0, .ref (eA E 5 0)), (1, .int (nI d)), (2, .int (nI e))]) rfl rfl rfl rfl ?_
  have hD' := ix_lt hD (by decide)
  have hd : d < 8 := by omega
  have he : e < 8 := by omega
  refine tt_aload_n C dX6_locks_0 rfl 0 rfl ?_
  refine tt_get (v := .ref (eA E (r 0) 0)) C oT0 rfl hin6 0 (by decide) (List.mem_of_getElem? (i := 1) (by decide +kernel)) rfl dX6_locks_1 ?_
  refine tt_iload_n C dX6_locks_4 rfl 1 rfl ?_
  refine tt_cVI C (CT_comm hi5 (c_X2_hasDoor E (ub u 5 h) r g (r 0) (nI d) hi)) gX6_locks_X2_hasDoor rfl ⟨rfl, rfl⟩ 1 (by decide +kernel) ⟨Nat.le_of_ble_eq_true rfl, Nat.le_of_ble_eq_true rfl⟩ rfl (oH0 hi) rfl (Nat.le_of_ble_eq_true rfl) dX6_locks_5 rfl ?_
  refine tt_if_eqB C (tgt := 32) dX6_locks_8 (by decide) (fun c_1 => ?_) (fun c_1 => ?_)
  · skip
    exact absurd (has_ok hD (by decide) hdm) c_1
  · skip
    refine tt_iload_n C dX6_locks_11 rfl 2 rfl ?_
    refine tt_iload_n C dX6_locks_12 rfl 1 rfl ?_
    refine tt_icmp_eq C (tgt := 32) dX6_locks_13 (by decide) (nI_eq (by omega) (by omega)) (fun c_2 => ?_) (fun c_2 => ?_)
    · skip
      exact absurd c_2 hde
    · skip
      refine tt_iload_n C dX6_locks_16 rfl 2 rfl ?_
      refine tt_iconst (v := (-1 : Int32)) C dX6_locks_17 (by decide) ?_
      refine tt_icmp_eq C (tgt := 39) dX6_locks_18 (by decide) Iff.rfl (fun c_3 => ?_) (fun c_3 => ?_)
      · skip
        exact absurd c_3 (vI_ne (vI_nI he) (by decide))
      · skip
        refine tt_aload_n C dX6_locks_21 rfl 0 rfl ?_
        refine tt_get (v := .ref (eA E (r 0) 0)) C oT0 rfl hin6 0 (by decide) (List.mem_of_getElem? (i := 1) (by decide +kernel)) rfl dX6_locks_22 ?_
        refine tt_iload_n C dX6_locks_25 rfl 2 rfl ?_
        refine tt_cVI C (CT_comm hi5 (c_X2_hasDoor E (ub u 5 h) r g (r 0) (nI e) hi)) gX6_locks_X2_hasDoor rfl ⟨rfl, rfl⟩ 1 (by decide +kernel) ⟨Nat.le_of_ble_eq_true rfl, Nat.le_of_ble_eq_true rfl⟩ rfl (oH0 hi) rfl (Nat.le_of_ble_eq_true rfl) dX6_locks_26 rfl ?_
        refine tt_if_neB C (tgt := 39) dX6_locks_29 (by decide) (fun c_4 => ?_) (fun c_4 => ?_)
        · skip
          refine tt_aload_n C dX6_locks_39 rfl 0 rfl ?_
          refine tt_cVV C (c_X6_keepState_L E u r h g hr hrn hD hB hm f0) gX6_locks_X6_keepState rfl ⟨rfl, rfl⟩ 0 (by decide +kernel) ⟨Nat.le_of_ble_eq_true rfl, Nat.le_of_ble_eq_true rfl⟩ rfl oT0 rfl (Nat.le_of_ble_eq_true rfl) dX6_locks_40 rfl ?_
          generalize e_6 : up2 (up2 h 0 0 (nI 3)) 0 0 (nI 4) = h_5
          refine tt_aload_n C dX6_locks_43 rfl 0 rfl ?_
          refine tt_get (v := .ref (eA E (r 0) 0)) C oT0 rfl hin6 0 (by decide) (List.mem_of_getElem? (i := 1) (by decide +kernel)) rfl dX6_locks_44 ?_
          refine tt_get (v := .ref (eA E (r 0) 1)) C (oH0 hi) rfl hin2 0 (by decide) (List.mem_of_getElem? (i := 2) (by decide +kernel)) rfl dX6_locks_47 ?_
          refine tt_iload_n C dX6_locks_50 rfl 1 rfl ?_
          refine tt_iload_n C dX6_locks_51 rfl 2 rfl ?_
          refine tt_cVI C (CT_comm hi5 (c_X1_changeLock_E E (ub (kA u (r 1) g) 5 h_5) (kR r) g (r 0) d e hi (by first | assumption | omega) (by first | assumption | omega) ho hoe)) gX6_locks_X1_changeLock rfl ⟨rfl, rfl⟩ 2 (by decide +kernel) ⟨Nat.le_of_ble_eq_true rfl, Nat.le_of_ble_eq_true rfl⟩ rfl (oH1 hi) rfl (Nat.le_of_ble_eq_true rfl) dX6_locks_52 rfl ?_
          generalize e_8 : H_lock g d e = h_7
          exact tt_iret K dX6_locks_55 (by subst e_6; subst e_8; rfl) (by subst e_6; subst e_8; rfl) rfl
        · skip
          exact absurd (has_ok hD (by decide) hem) c_4
