set_option maxHeartbeats 4000000 in
set_option maxRecDepth 100000 in
theorem c_X6_badge_B (E : EN) (u : U3) (r : R1) (h : HB) (g : HB) (v : Int32) (hi : r 0 < 5) (hi5 : r 0 ≠ 5) (hv : H_rBadge g v = -2 ∨ H_rBadge g v = -3 ∨ H_rBadge g v = -4) (hr0 : ¬ H_rBadge g v = 0) : CT E yX6_badge wsX6_badge (rmT 5 104) [.ref (eA E 5 0), .int v] (ub (ub u (r 0) g) 5 h) r (some (.int (H_rBadge g v))) (ub (ub u (r 0) g) 5 (H_ref h (H_rBadge g v))) r := by
  refine CT_ofI (cc := cX6_badge) (nL := 3) (own := RX6) (by decide) rfl rfl rfl (Nat.le_of_ble_eq_true rfl) (fun F C K => ?_)
  have hin6 : ∀ w ∈ u_ws RX6 TX6 8, w ∈ wsX6_badge := by decide +kernel
  refine tt_to (lv1 := [(0, .ref (eA E 5 0)), (1, .int v)]) rfl rfl rfl rfl ?_
  refine tt_aload_n C dX6_badge_0 rfl 0 rfl ?_
  refine tt_get (v := .ref (eA E (r 0) 0)) C oT0 rfl hin6 0 (by decide) (List.mem_of_getElem? (i := 1) (by decide +kernel)) rfl dX6_badge_1 ?_
  refine tt_iload_n C dX6_badge_4 rfl 1 rfl ?_
  refine tt_cVI C (CT_comm hi5 (c_X2_refusesBadge E (ub u 5 h) r g (r 0) v hi)) gX6_badge_X2_refusesBadge rfl ⟨rfl, rfl⟩ 1 (by decide +kernel) ⟨Nat.le_of_ble_eq_true rfl, Nat.le_of_ble_eq_true rfl⟩ rfl (oH0 hi) rfl (Nat.le_of_ble_eq_true rfl) dX6_badge_5 rfl ?_
  refine tt_istore_n (lv' := [(0, .ref (eA E 5 0)), (1, .int v), (2, .int (H_rBadge g v))]) C dX6_badge_8 rfl (by decide) [1, 2, 0] rfl ?_
  refine tt_iload_n C dX6_badge_9 rfl 2 rfl ?_
  refine tt_if_eq C (tgt := 19) dX6_badge_10 (by decide) Iff.rfl (fun c_1 => ?_) (fun c_1 => ?_)
  · skip
    exact absurd c_1 hr0
  · skip
    refine tt_aload_n C dX6_badge_13 rfl 0 rfl ?_
    refine tt_iload_n C dX6_badge_14 rfl 2 rfl ?_
    refine tt_cVI C (c_X6_refuse E (ub u (r 0) g) r h (H_rBadge g v) hv) gX6_badge_X6_refuse rfl ⟨rfl, rfl⟩ 1 (by decide +kernel) ⟨Nat.le_of_ble_eq_true rfl, Nat.le_of_ble_eq_true rfl⟩ rfl oT0 rfl (Nat.le_of_ble_eq_true rfl) dX6_badge_15 rfl ?_
    generalize e_3 : H_ref h (H_rBadge g v) = h_2
    exact tt_iret K dX6_badge_18 (by subst e_3; rfl) (by subst e_3; rfl) rfl

set_option maxHeartbeats 4000000 in
set_option maxRecDepth 100000 in
theorem c_X6_badge_K (E : EN) (u : U3) (r : R1) (h : HB) (g : HB) (v : Int32) (s : Nat) (hi : r 0 < 5) (hi5 : r 0 ≠ 5) (hr : ∀ j, j < 5 → r j < 5) (hrn : ∀ j, j < 4 → r 0 ≠ r (j + 1)) (hD : vI (g 1 0) 9) (hB : vI (g 18 0) 9) (hm : vI (g 25 0) 65) (f0 : h 0 0 = nI s) (hs : s < 4) (hr0 : H_rBadge g v = 0) (hm8 : vI (g 18 0) 8) : CT E yX6_badge wsX6_badge (rmT 5 104) [.ref (eA E 5 0), .int v] (ub (ub u (r 0) g) 5 h) r (some (.int (nI (ix (g 18 0))))) (ub (ub (kA u (r (s + 1)) g) (r 0) (H_badd g v)) 5 (up2 h 0 0 (nI (s + 1)))) r := by
  refine CT_ofI (cc := cX6_badge) (nL := 3) (own := RX6) (by decide) rfl rfl rfl (Nat.le_of_ble_eq_true rfl) (fun F C K => ?_)
  have hin2 : ∀ w ∈ u_ws RX2 TX2 8, w ∈ wsX6_badge := by decide +kernel
  have hin6 : ∀ w ∈ u_ws RX6 TX6 8, w ∈ wsX6_badge := by decide +kernel
  refine tt_to (lv1 := [(0, .ref (eA E 5 0)), (1, .int v)]) rfl rfl rfl rfl ?_
  refine tt_aload_n C dX6_badge_0 rfl 0 rfl ?_
  refine tt_get (v := .ref (eA E (r 0) 0)) C oT0 rfl hin6 0 (by decide) (List.mem_of_getElem? (i := 1) (by decide +kernel)) rfl dX6_badge_1 ?_
  refine tt_iload_n C dX6_badge_4 rfl 1 rfl ?_
  refine tt_cVI C (CT_comm hi5 (c_X2_refusesBadge E (ub u 5 h) r g (r 0) v hi)) gX6_badge_X2_refusesBadge rfl ⟨rfl, rfl⟩ 1 (by decide +kernel) ⟨Nat.le_of_ble_eq_true rfl, Nat.le_of_ble_eq_true rfl⟩ rfl (oH0 hi) rfl (Nat.le_of_ble_eq_true rfl) dX6_badge_5 rfl ?_
  refine tt_istore_n (lv' := [(0, .ref (eA E 5 0)), (1, .int v), (2, .int (H_rBadge g v))]) C dX6_badge_8 rfl (by decide) [1, 2, 0] rfl ?_
  refine tt_iload_n C dX6_badge_9 rfl 2 rfl ?_
  refine tt_if_eq C (tgt := 19) dX6_badge_10 (by decide) Iff.rfl (fun c_1 => ?_) (fun c_1 => ?_)
  · skip
    refine tt_aload_n C dX6_badge_19 rfl 0 rfl ?_
    refine tt_cVV C (c_X6_keepState_K E u r h g s hr hrn hD hB hm f0 hs) gX6_badge_X6_keepState rfl ⟨rfl, rfl⟩ 0 (by decide +kernel) ⟨Nat.le_of_ble_eq_true rfl, Nat.le_of_ble_eq_true rfl⟩ rfl oT0 rfl (Nat.le_of_ble_eq_true rfl) dX6_badge_20 rfl ?_
    generalize e_3 : up2 h 0 0 (nI (s + 1)) = h_2
    refine tt_aload_n C dX6_badge_23 rfl 0 rfl ?_
    refine tt_get (v := .ref (eA E (r 0) 0)) C oT0 rfl hin6 0 (by decide) (List.mem_of_getElem? (i := 1) (by decide +kernel)) rfl dX6_badge_24 ?_
    refine tt_get (v := .ref (eA E (r 0) 18)) C (oH0 hi) rfl hin2 1 (by decide) (List.mem_of_getElem? (i := 2) (by decide +kernel)) rfl dX6_badge_27 ?_
    refine tt_iload_n C dX6_badge_30 rfl 1 rfl ?_
    refine tt_cVI C (CT_comm hi5 (c_X0_add E (ub (kA u (r (s + 1)) g) 5 h_2) r g (r 0) v hi hm8)) gX6_badge_X0_add rfl ⟨rfl, rfl⟩ 1 (by decide +kernel) ⟨Nat.le_of_ble_eq_true rfl, Nat.le_of_ble_eq_true rfl⟩ rfl (oH18 hi) rfl (Nat.le_of_ble_eq_true rfl) dX6_badge_31 rfl ?_
    generalize e_5 : H_badd g v = h_4
    exact tt_iret K dX6_badge_34 (by subst e_3; subst e_5; rfl) (by subst e_3; subst e_5; rfl) rfl
  · skip
    exact absurd hr0 c_1

set_option maxHeartbeats 4000000 in
set_option maxRecDepth 100000 in
theorem c_X6_badge_L (E : EN) (u : U3) (r : R1) (h : HB) (g : HB) (v : Int32) (hi : r 0 < 5) (hi5 : r 0 ≠ 5) (hr : ∀ j, j < 5 → r j < 5) (hrn : ∀ j, j < 4 → r 0 ≠ r (j + 1)) (hD : vI (g 1 0) 9) (hB : vI (g 18 0) 9) (hm : vI (g 25 0) 65) (f0 : h 0 0 = nI 4) (hr0 : H_rBadge g v = 0) (hm8 : vI (g 18 0) 8) : CT E yX6_badge wsX6_badge (rmT 5 104) [.ref (eA E 5 0), .int v] (ub (ub u (r 0) g) 5 h) r (some (.int (nI (ix (g 18 0))))) (ub (ub (kA u (r 1) g) (r 0) (H_badd g v)) 5 (up2 (up2 h 0 0 (nI 3)) 0 0 (nI 4))) (kR r) := by
  refine CT_ofI (cc := cX6_badge) (nL := 3) (own := RX6) (by decide) rfl rfl rfl (Nat.le_of_ble_eq_true rfl) (fun F C K => ?_)
  have hin2 : ∀ w ∈ u_ws RX2 TX2 8, w ∈ wsX6_badge := by decide +kernel
  have hin6 : ∀ w ∈ u_ws RX6 TX6 8, w ∈ wsX6_badge := by decide +kernel
  refine tt_to (lv1 := [(0, .ref (eA E 5 0)), (1, .int v)]) rfl rfl rfl rfl ?_
  refine tt_aload_n C dX6_badge_0 rfl 0 rfl ?_
  refine tt_get (v := .ref (eA E (r 0) 0)) C oT0 rfl hin6 0 (by decide) (List.mem_of_getElem? (i := 1) (by decide +kernel)) rfl dX6_badge_1 ?_
  refine tt_iload_n C dX6_badge_4 rfl 1 rfl ?_
  refine tt_cVI C (CT_comm hi5 (c_X2_refusesBadge E (ub u 5 h) r g (r 0) v hi)) gX6_badge_X2_refusesBadge rfl ⟨rfl, rfl⟩ 1 (by decide +kernel) ⟨Nat.le_of_ble_eq_true rfl, Nat.le_of_ble_eq_true rfl⟩ rfl (oH0 hi) rfl (Nat.le_of_ble_eq_true rfl) dX6_badge_5 rfl ?_
  refine tt_istore_n (lv' := [(0, .ref (eA E 5 0)), (1, .int v), (2, .int (H_rBadge g v))]) C dX6_badge_8 rfl (by decide) [1, 2, 0] rfl ?_
  refine tt_iload_n C dX6_badge_9 rfl 2 rfl ?_
  refine tt_if_eq C (tgt := 19) dX6_badge_10 (by decide) Iff.rfl (fun c_1 => ?_) (fun c_1 => ?_)
  · skip
    refine tt_aload_n C dX6_badge_19 rfl 0 rfl ?_
    refine tt_cVV C (c_X6_keepState_L E u r h g hr hrn hD hB hm f0) gX6_badge_X6_keepState rfl ⟨rfl, rfl⟩ 0 (by decide +kernel) ⟨Nat.le_of_ble_eq_true rfl, Nat.le_of_ble_eq_true rfl⟩ rfl oT0 rfl (Nat.le_of_ble_eq_true rfl) dX6_badge_20 rfl ?_
    generalize e_3 : up2 (up2 h 0 0 (nI 3)) 0 0 (nI 4) = h_2
    refine tt_aload_n C dX6_badge_23 rfl 0 rfl ?_
    refine tt_get (v := .ref (eA E (r 0) 0)) C oT0 rfl hin6 0 (by decide) (List.mem_of_getElem? (i := 1) (by decide +kernel)) rfl dX6_badge_24 ?_
    refine tt_get (v := .ref (eA E (r 0) 18)) C (oH0 hi) rfl hin2 1 (by decide) (List.mem_of_getElem? (i := 2) (by decide +kernel)) rfl dX6_badge_27 ?_
    refine tt_iload_n C dX6_badge_30 rfl 1 rfl ?_
    refine tt_cVI C (CT_comm hi5 (c_X0_add E (ub (kA u (r 1) g) 5 h_2) (kR r) g (r 0) v hi hm8)) gX6_badge_X0_add rfl ⟨rfl, rfl⟩ 1 (by decide +kernel) ⟨Nat.le_of_ble_eq_true rfl, Nat.le_of_ble_eq_true rfl⟩ rfl (oH18 hi) rfl (Nat.le_of_ble_eq_true rfl) dX6_badge_31 rfl ?_
    generalize e_5 : H_badd g v = h_4
    exact tt_iret K dX6_badge_34 (by subst e_3; subst e_5; rfl) (by subst e_3; subst e_5; rfl) rfl
  · skip
    exact absurd hr0 c_1
