set_option maxHeartbeats 4000000 in
set_option maxRecDepth 100000 in
theorem c_X6_badge_B (E : EN) (u : U3) (r : R1) (h : HB) (g : HB) (v : Int32) (hi : r 0 < 5) (hi5 : r 0 ≠ 5) (hv : H_rBadge g v = -2 ∨ H_rBadge g v = -3 ∨ H_rBadge g v = -4) (hr0 : ¬ H_rBadge g v = 0) : CT E yX6_badge wsX6_badge (rmT 5 104) [.ref (eA E 5 0), .int v] (ub (ub u (r 0) g) 5 h) r (some (.int (H_rBadge g v))) (ub (ub u (r 0) g) 5 (H_ref h (H_rBadge g v))) r := by
  refine CT_ofI (cc := cX6_badge) (nL := 3) (own := RX6) (by decide) rfl rfl rfl (Nat.le_of_ble_eq_true rfl) (fun F C K => ?_)
  have hin6 : ∀ w ∈ u_ws RX6 TX6 8, w ∈ wsX6_badge := by decide +kernel
  refine tt_to (lv1 := [(0, .ref (eA E 5 0)), (1, .int v)]) rfl rfl rfl rfl ?_
  refine tt_aload_n C dX6_badge_0 rfl 0 rfl ?_
  refine tt_get (v := .ref (eA E (r 0) 0)) C oT0 rfl hin6 0 (by decide) (List.mem_of_getElem? (i := 1) (by decide +kernel)) rfl dX6_badge_1 ?_
  refine tt_iload_n C dX6_badge_4 rfl 1 rfl ?_
  refine tt_cVI C (CT_comm hi5 (c_X2_refusesBadge E (ub u 5 h) r g (r 0) v hi)) gX6_badge_X2_refusesBadge rfl ⟨rfl, rfl⟩ 1 (by decide +kernel) ⟨Nat.le_of_ble_eq_true rfl, Nat.le_of_ble_eq_true rfl⟩ rfl (oH0 hi) rfl (Nat.le_of_ble_eq_true rfl) dX6_badge_5 rfl ?_
  refine tt_istore_n (lv' := [(0, .ref (eA E 5 0)), (1, .int v), (2, .int (H_rBadge g v))]) C dX6_badge_8 rfl (by decide) [1, 2, 0] rfl ?_
  refine tt_iload_n C dX6_badge_9 rfl 2 rfl ?_
  refine tt_if_eq C (tgt := 19) dX6_badge_10 (by decide) Iff.rfl (fun c_1 => ?_) (fun c_1 => ?_)
  · skip
    exact absurd c_1 hr0
  · skip
    refine tt_aload_n C dX6_badge_13 rfl 0 rfl ?_
    refine tt_iload_n C dX6_badge_14 rfl 2 rfl ?_
    refine tt_cVI C (c_X6_refuse E (ub u (r 0) g) r h (H_rBadge g v) hv) gX6_badge_X6_refuse rfl ⟨rfl, rfl⟩ 1 (by decide +kernel) ⟨Nat.le_of_ble_eq_true rfl, Nat.le_of_ble_eq_true rfl⟩ rfl oT0 rfl (Nat.le_of_ble_eq_true rfl) dX6_badge_15 rfl ?_
    generalize e_3 : H_ref h (H_rBadge g v) = h_2
    exact tt_iret K dX6_badge_18 (by subst e_3; rfl) (by subst e_3; rfl) rfl

set_option maxHeartbeats 4000000 in
set_option maxRecDepth 100000 in
theorem c_X6_badge_K (E : EN) (u : U3) (r : R1) (h : HB) (g : HB) (v : Int32) (s : Nat) (hi : r 0 < 5) (hi5 : r 0 ≠ 5) (hr : ∀ j, j < 5 → r j < 5) (hrn : ∀ j, j < 4 → r 0 ≠ r (j + 1)) (hD : vI (g 1 0) 9) (hB : vI (g 18 0) 9) (hm : vI (g 25 0) 65) (f0 : h 0 0 = nI s) (hs : s < 4) (hr0 : H_rBadge g v = 0) (hm8 : vI (g 18 0) 8) : CT E yX6_badge wsX6_badge (rmT 5 104) [.ref (eA E 5 0), .int v] (ub (ub u (r 0) g) 5 h) r (some (.int (nI (ix (g 18 0))))) (ub (ub (kA u (r (s + 1)) g) (r 0) (H_badd g v)) 5 (up2 h 0 0 (nI (s + 1)))) r := by
  refine CT_ofI (cc := cX6_badge) (nL := 3) (own := RX6) (by decide) rfl rfl rfl (Nat.le_of_ble_eq_true rfl) (fun F C K => ?_)
  have hin2 : ∀ w ∈ u_ws RX2 TX2 8, w ∈ wsX6_badge := by decide +kernel
  have hin6 : ∀ w ∈ u_ws RX6 TX6 8, w ∈ wsX6_badge := by decide +kernel
  refine tt_to (lv1 := [(0, .ref (eA E 5 0)), (1, .int v)]) rfl rfl rfl rfl ?_
  refine tt_aload_n C dX6_badge_0 rfl 0 rfl ?_
  refine tt_get (v := .ref (eA E (r 0) 0)) C oT0 rfl hin6 0 (by decide) (List.mem_of_getElem? (i := 1) (by decide +kernel)) rfl dX6_badge_1 ?_
  refine tt_iload_n C dX6_badge_4 rfl 1 rfl ?_
  refine tt_cVI C (CT_comm hi5 (c_X2_refusesBadge E (ub u 5 h) r g (r 0) v hi)) gX6_badge_X2_refusesBadge rfl ⟨rfl, rfl⟩ 1 (by decide +kernel) ⟨Nat.le_of_ble_eq_true rfl, Nat.le_of_ble_eq_true rfl⟩ rfl (oH0 hi) rfl (Nat.le_of_ble_eq_true rfl) dX6_badge_5 rfl ?_
  refine tt_istore_n (lv' := [(0, .ref (eA E 5 0)), (1, .int v), (2, .int (H_rBadge g v))]) C dX6_badge_8 rfl (by decide) [1, 2, 0] rfl ?_
  refine tt_iload_n C dX6_badge_9 rfl 2 rfl ?_
  refine tt_if_eq C (tgt := 19) dX6_badge_10 (by decide) Iff.rfl (fun c_1 => ?_) (fun c_1 => ?_)
  · skip
    refine tt_aload_n C dX6_badge_19 rfl 0 rfl ?_
    refine tt_cVV C (c_X6_keepState_K E u r h g s hr hrn hD hB hm f0 hs) gX6_badge_X6_keepState rfl ⟨rfl, rfl⟩ 0 (by decide +kernel) ⟨Nat.le_of_ble_eq_true rfl, Nat.le_of_ble_eq_true rfl⟩ rfl oT0 rfl (Nat.le_of_ble_eq_true rfl) dX6_badge_20 rfl ?_
    generalize e_3 : up2 h 0 0 (nI (s + 1)) = h_2
    refine tt_aload_n C dX6_badge_23 rfl 0 rfl ?_
    refine tt_get (v := .ref (eA E (r 0) 0)) C oT0 rfl hin6 0 (by decide) (List.mem_of_getElem? (i := 1) (by decide +kernel)) rfl dX6_badge_24 ?_
    refine tt_get (v := .ref (eA E (r 0) 18)) C (oH0 hi) rfl hin2 1 (by decide) (List.mem_of_getElem? (i := 2) (by decide +kernel)) rfl dX6_badge_27 ?_
    refine tt_iload_n C dX6_badge_30 rfl 1 rfl ?_
    refine tt_cVI C (CT_comm hi5 (c_X0_add E (ub (kA u (r (s + 1)) g) 5 h_2) r g (r 0) v hi hm8)) gX6_badge_X0_add rfl ⟨rfl, rfl⟩ 1 (by decide +kernel) ⟨Nat.le_of_ble_eq_true rfl, Nat.le_of_ble_eq_true rfl⟩ rfl (oH18 hi) rfl (Nat.le_of_ble_eq_true rfl) dX6_badge_31 rfl ?_
    generalize e_5 : H_badd g v = h_4
    exact tt_iret K dX6_badge_34 (by subst e_3; subst e_5; rfl) (by subst e_3; subst e_5; rfl) rfl
  · skip
    exact absurd hr0 c_1

set_option maxHeartbeats 4000000 in
set_option maxRecDepth 100000 in
theorem c_X6_badge_L (E : EN) (u : U3) (r : R1) (h : HB) (g : HB) (v : Int32) (hi : r 0 < 5) (hi5 : r 0 ≠ 5) (hr : ∀ j, j < 5 → r j < 5) (hrn : ∀ j, j < 4 → r 0 ≠ r (j + 1)) (hD : vI (g 1 0) 9) (hB : vI (g 18 0) 9) (hm : vI (g 25 0) 65) (f0 : h 0 0 = nI 4) (hr0 : H_rBadge g v = 0) (hm8 : vI (g 18 0) 8) : CT E yX6_badge wsX6_badge (rmT 5 104) [.ref (eA E 5 0), .int v] (ub (ub u (r 0) g) 5 h) r (some (.int (nI (ix (g 18 0))))) (ub (ub (kA u (r 1) g) (r 0) (H_badd g v)) 5 (up2 (up2 h 0 0 (nI 3)) 0 0 (nI 4))) (kR r) := by
  refine CT_ofI (cc := cX6_badge) (nL := 3) (own := RX6) (by decide) rfl rfl rfl (Nat.le_of_ble_eq_true rfl) (fun F C K => ?_)
  have hin2 : ∀ w ∈ u_ws RX2 TX2 8, w ∈ wsX6_badge := by decide +kernel
  have hin6 : ∀ w ∈ u_ws RX6 TX6 8, w ∈ wsX6_badge := by decide +kernel
  refine tt_to (lv1 := [(0, .ref (eA E 5 0)), (1, .int v)]) rfl rfl rfl rfl ?_
  refine tt_aload_n C dX6_badge_0 rfl 0 rfl ?_
  refine tt_get (v := .ref (eA E (r 0) 0)) C oT0 rfl hin6 0 (by decide) (List.mem_of_getElem? (i := 1) (by decide +kernel)) rfl dX6_badge_1 ?_
  refine tt_iload_n C dX6_badge_4 rfl 1 rfl ?_
  refine tt_cVI C (CT_comm hi5 (c_X2_refusesBadge E (ub u 5 h) r g (r 0) v hi)) gX6_badge_X2_refusesBadge rfl ⟨rfl, rfl⟩ 1 (by decide +kernel) ⟨Nat.le_of_ble_eq_true rfl, Nat.le_of_ble_eq_true rfl⟩ rfl (oH0 hi) rfl (Nat.le_of_ble_eq_true rfl) dX6_badge_5 rfl ?_
  refine tt_istore_n (lv' := [(0, .ref (eA E 5 0)), (1, .int v), (2, .int (H_rBadge g v))]) C dX6_badge_8 rfl (by decide) [1, 2, 0] rfl ?_
  refine tt_iload_n C dX6_badge_9 rfl 2 rfl ?_
  refine tt_if_eq C (tgt := 19) dX6_badge_10 (by decide) Iff.rfl (fun c_1 => ?_) (fun c_1 => ?_)
  · skip
    refine tt_aload_n C dX6_badge_19 rfl 0 rfl ?_
    refine tt_cVV C (c_X6_keepState_L E u r h g hr hrn hD hB hm f0) gX6_badge_X6_keepState rfl ⟨rfl, rfl⟩ 0 (by decide +kernel) ⟨Nat.le_of_ble_eq_true rfl, Nat.le_of_ble_eq_true rfl⟩ rfl oT0 rfl (Nat.le_of_ble_eq_true rfl) dX6_badge_20 rfl ?_
    generalize e_3 : up2 (up2 h 0 0 (nI 3)) 0 0 (nI 4) = h_2
    refine tt_aload_n C dX6_badge_23 rfl 0 rfl ?_
    refine tt_get (v := .ref (eA E (r 0) 0)) C oT0 rfl hin6 0 (by decide) (List.mem_of_getElem? (i := 1) (by decide +kernel)) rfl dX6_badge_24 ?_
    refine tt_get (v := .ref (eA E (r 0) 18)) C (oH0 hi) rfl hin2 1 (by decide) (List.mem_of_getElem? (i := 2) (by decide +kernel)) rfl dX6_badge_27 ?_
    refine tt_iload_n C dX6_badge_30 rfl 1 rfl ?_
    refine tt_cVI C (CT_comm hi5 (c_X0_add E (ub (kA u (r 1) g) 5 h_2) (kR r) g (r 0) v hi hm8)) gX6_badge_X0_add rfl ⟨rfl, rfl⟩ 1 (by decide +kernel) ⟨Nat.le_of_ble_eq_true rfl, Nat.le_of_ble_eq_true rfl⟩ rfl (oH18 hi) rfl (Nat.le_of_ble_eq_true rfl) dX6_badge_31 rfl ?_
    generalize e_5 : H_badd g v = h_4
    exact tt_iret K dX6_badge_34 (by subst e_3; subst e_5; rfl) (by subst e_3; subst e_5; rfl) rfl
  · skip
    exact absurd hr0 c_1

set_option maxHeartbeats 4000000 in
set_option maxRecDepth 100000 in
theorem c_X6_door_B (E : EN) (u : U3) (r : R1) (h : HB) (g : HB) (f : Int32) (t : Int32) (a : Int32) (b : Int32) (hi : r 0 < 5) (hi5 : r 0 ≠ 5) (hv : H_rDoor g f t a b = -2 ∨ H_rDoor g f t a b = -3 ∨ H_rDoor g f t a b = -4) (hr0 : ¬ H_rDoor g f t a b = 0) : CT E yX6_door wsX6_door (rmT 5 104) [.ref (eA E 5 0), .int f, .int t, .int a, .int b] (ub (ub u (r 0) g) 5 h) r (some (.int (H_rDoor g f t a b))) (ub (ub u (r 0) g) 5 (H_ref h (H_rDoor g f t a b))) r := by
  refine CT_ofI (cc := cX6_door) (nL := 6) (own := RX6) (by decide) rfl rfl rfl (Nat.le_of_ble_eq_true rfl) (fun F C K => ?_)
  have hin6 : ∀ w ∈ u_ws RX6 TX6 8, w ∈ wsX6_door := by decide +kernel
  refine tt_to (lv1 := [(0, .ref (eA E 5 0)), (1, .int f), (2, .int t), (3, .int a), (4, .int b)]) rfl rfl rfl rfl ?_
  refine tt_aload_n C dX6_door_0 rfl 0 rfl ?_
  refine tt_get (v := .ref (eA E (r 0) 0)) C oT0 rfl hin6 0 (by decide) (List.mem_of_getElem? (i := 1) (by decide +kernel)) rfl dX6_door_1 ?_
  refine tt_iload_n C dX6_door_4 rfl 1 rfl ?_
  refine tt_iload_n C dX6_door_5 rfl 2 rfl ?_
  refine tt_iload_n C dX6_door_6 rfl 3 rfl ?_
  refine tt_iload C dX6_door_7 4 rfl ?_
  refine tt_cVI C (CT_comm hi5 (c_X2_refusesDoor E (ub u 5 h) r g (r 0) f t a b hi)) gX6_door_X2_refusesDoor rfl ⟨rfl, rfl⟩ 4 (by decide +kernel) ⟨Nat.le_of_ble_eq_true rfl, Nat.le_of_ble_eq_true rfl⟩ rfl (oH0 hi) rfl (Nat.le_of_ble_eq_true rfl) dX6_door_9 rfl ?_
  refine tt_istore (lv' := [(0, .ref (eA E 5 0)), (1, .int f), (2, .int t), (3, .int a), (4, .int b), (5, .int (H_rDoor g f t a b))]) C dX6_door_12 (by decide) [1, 2, 3, 4, 5, 0] rfl ?_
  refine tt_iload C dX6_door_14 5 rfl ?_
  refine tt_if_eq C (tgt := 26) dX6_door_16 (by decide) Iff.rfl (fun c_1 => ?_) (fun c_1 => ?_)
  · skip
    exact absurd c_1 hr0
  · skip
    refine tt_aload_n C dX6_door_19 rfl 0 rfl ?_
    refine tt_iload C dX6_door_20 5 rfl ?_
    refine tt_cVI C (c_X6_refuse E (ub u (r 0) g) r h (H_rDoor g f t a b) hv) gX6_door_X6_refuse rfl ⟨rfl, rfl⟩ 1 (by decide +kernel) ⟨Nat.le_of_ble_eq_true rfl, Nat.le_of_ble_eq_true rfl⟩ rfl oT0 rfl (Nat.le_of_ble_eq_true rfl) dX6_door_22 rfl ?_
    generalize e_3 : H_ref h (H_rDoor g f t a b) = h_2
    exact tt_iret K dX6_door_25 (by subst e_3; rfl) (by subst e_3; rfl) rfl

set_option maxHeartbeats 4000000 in
set_option maxRecDepth 100000 in
theorem c_X6_door_K (E : EN) (u : U3) (r : R1) (h : HB) (g : HB) (f : Int32) (t : Int32) (a : Int32) (b : Int32) (s : Nat) (hi : r 0 < 5) (hi5 : r 0 ≠ 5) (hr : ∀ j, j < 5 → r j < 5) (hrn : ∀ j, j < 4 → r 0 ≠ r (j + 1)) (hD : vI (g 1 0) 9) (hB : vI (g 18 0) 9) (hm : vI (g 25 0) 65) (f0 : h 0 0 = nI s) (hs : s < 4) (hr0 : H_rDoor g f t a b = 0) (hm8 : vI (g 1 0) 8) : CT E yX6_door wsX6_door (rmT 5 104) [.ref (eA E 5 0), .int f, .int t, .int a, .int b] (ub (ub u (r 0) g) 5 h) r (some (.int (nI (ix (g 1 0))))) (ub (ub (kA u (r (s + 1)) g) (r 0) (H_dadd g f t a b)) 5 (up2 h 0 0 (nI (s + 1)))) r := by
  refine CT_ofI (cc := cX6_door) (nL := 6) (own := RX6) (by decide) rfl rfl rfl (Nat.le_of_ble_eq_true rfl) (fun F C K => ?_)
  have hin2 : ∀ w ∈ u_ws RX2 TX2 8, w ∈ wsX6_door := by decide +kernel
  have hin6 : ∀ w ∈ u_ws RX6 TX6 8, w ∈ wsX6_door := by decide +kernel
  refine tt_to (lv1 := [(0, .ref (eA E 5 0)), (1, .int f), (2, .int t), (3, .int a), (4, .int b)]) rfl rfl rfl rfl ?_
  refine tt_aload_n C dX6_door_0 rfl 0 rfl ?_
  refine tt_get (v := .ref (eA E (r 0) 0)) C oT0 rfl hin6 0 (by decide) (List.mem_of_getElem? (i := 1) (by decide +kernel)) rfl dX6_door_1 ?_
  refine tt_iload_n C dX6_door_4 rfl 1 rfl ?_
  refine tt_iload_n C dX6_door_5 rfl 2 rfl ?_
  refine tt_iload_n C dX6_door_6 rfl 3 rfl ?_
  refine tt_iload C dX6_door_7 4 rfl ?_
  refine tt_cVI C (CT_comm hi5 (c_X2_refusesDoor E (ub u 5 h) r g (r 0) f t a b hi)) gX6_door_X2_refusesDoor rfl ⟨rfl, rfl⟩ 4 (by decide +kernel) ⟨Nat.le_of_ble_eq_true rfl, Nat.le_of_ble_eq_true rfl⟩ rfl (oH0 hi) rfl (Nat.le_of_ble_eq_true rfl) dX6_door_9 rfl ?_
  refine tt_istore (lv' := [(0, .ref (eA E 5 0)), (1, .int f), (2, .int t), (3, .int a), (4, .int b), (5, .int (H_rDoor g f t a b))]) C dX6_door_12 (by decide) [1, 2, 3, 4, 5, 0] rfl ?_
  refine tt_iload C dX6_door_14 5 rfl ?_
  refine tt_if_eq C (tgt := 26) dX6_door_16 (by decide) Iff.rfl (fun c_1 => ?_) (fun c_1 => ?_)
  · skip
    refine tt_aload_n C dX6_door_26 rfl 0 rfl ?_
    refine tt_cVV C (c_X6_keepState_K E u r h g s hr hrn hD hB hm f0 hs) gX6_door_X6_keepState rfl ⟨rfl, rfl⟩ 0 (by decide +kernel) ⟨Nat.le_of_ble_eq_true rfl, Nat.le_of_ble_eq_true rfl⟩ rfl oT0 rfl (Nat.le_of_ble_eq_true rfl) dX6_door_27 rfl ?_
    generalize e_3 : up2 h 0 0 (nI (s + 1)) = h_2
    refine tt_aload_n C dX6_door_30 rfl 0 rfl ?_
    refine tt_get (v := .ref (eA E (r 0) 0)) C oT0 rfl hin6 0 (by decide) (List.mem_of_getElem? (i := 1) (by decide +kernel)) rfl dX6_door_31 ?_
    refine tt_get (v := .ref (eA E (r 0) 1)) C (oH0 hi) rfl hin2 0 (by decide) (List.mem_of_getElem? (i := 2) (by decide +kernel)) rfl dX6_door_34 ?_
    refine tt_iload_n C dX6_door_37 rfl 1 rfl ?_
    refine tt_iload_n C dX6_door_38 rfl 2 rfl ?_
    refine tt_iload_n C dX6_door_39 rfl 3 rfl ?_
    refine tt_iload C dX6_door_40 4 rfl ?_
    refine tt_cVI C (CT_comm hi5 (c_X1_add E (ub (kA u (r (s + 1)) g) 5 h_2) r g (r 0) f t a b hi hm8)) gX6_door_X1_add rfl ⟨rfl, rfl⟩ 4 (by decide +kernel) ⟨Nat.le_of_ble_eq_true rfl, Nat.le_of_ble_eq_true rfl⟩ rfl (oH1 hi) rfl (Nat.le_of_ble_eq_true rfl) dX6_door_42 rfl ?_
    generalize e_5 : H_dadd g f t a b = h_4
    exact tt_iret K dX6_door_45 (by subst e_3; subst e_5; rfl) (by subst e_3; subst e_5; rfl) rfl
  · skip
    exact absurd hr0 c_1

set_option maxHeartbeats 4000000 in
set_option maxRecDepth 100000 in
theorem c_X6_door_L (E : EN) (u : U3) (r : R1) (h : HB) (g : HB) (f : Int32) (t : Int32) (a : Int32) (b : Int32) (hi : r 0 < 5) (hi5 : r 0 ≠ 5) (hr : ∀ j, j < 5 → r j < 5) (hrn : ∀ j, j < 4 → r 0 ≠ r (j + 1)) (hD : vI (g 1 0) 9) (hB : vI (g 18 0) 9) (hm : vI (g 25 0) 65) (f0 : h 0 0 = nI 4) (hr0 : H_rDoor g f t a b = 0) (hm8 : vI (g 1 0) 8) : CT E yX6_door wsX6_door (rmT 5 104) [.ref (eA E 5 0), .int f, .int t, .int a, .int b] (ub (ub u (r 0) g) 5 h) r (some (.int (nI (ix (g 1 0))))) (ub (ub (kA u (r 1) g) (r 0) (H_dadd g f t a b)) 5 (up2 (up2 h 0 0 (nI 3)) 0 0 (nI 4))) (kR r) := by
  refine CT_ofI (cc := cX6_door) (nL := 6) (own := RX6) (by decide) rfl rfl rfl (Nat.le_of_ble_eq_true rfl) (fun F C K => ?_)
  have hin2 : ∀ w ∈ u_ws RX2 TX2 8, w ∈ wsX6_door := by decide +kernel
  have hin6 : ∀ w ∈ u_ws RX6 TX6 8, w ∈ wsX6_door := by decide +kernel
  refine tt_to (lv1 := [(0, .ref (eA E 5 0)), (1, .int f), (2, .int t), (3, .int a), (4, .int b)]) rfl rfl rfl rfl ?_
  refine tt_aload_n C dX6_door_0 rfl 0 rfl ?_
  refine tt_get (v := .ref (eA E (r 0) 0)) C oT0 rfl hin6 0 (by decide) (List.mem_of_getElem? (i := 1) (by decide +kernel)) rfl dX6_door_1 ?_
  refine tt_iload_n C dX6_door_4 rfl 1 rfl ?_
  refine tt_iload_n C dX6_door_5 rfl 2 rfl ?_
  refine tt_iload_n C dX6_door_6 rfl 3 rfl ?_
  refine tt_iload C dX6_door_7 4 rfl ?_
  refine tt_cVI C (CT_comm hi5 (c_X2_refusesDoor E (ub u 5 h) r g (r 0) f t a b hi)) gX6_door_X2_refusesDoor rfl ⟨rfl, rfl⟩ 4 (by decide +kernel) ⟨Nat.le_of_ble_eq_true rfl, Nat.le_of_ble_eq_true rfl⟩ rfl (oH0 hi) rfl (Nat.le_of_ble_eq_true rfl) dX6_door_9 rfl ?_
  refine tt_istore (lv' := [(0, .ref (eA E 5 0)), (1, .int f), (2, .int t), (3, .int a), (4, .int b), (5, .int (H_rDoor g f t a b))]) C dX6_door_12 (by decide) [1, 2, 3, 4, 5, 0] rfl ?_
  refine tt_iload C dX6_door_14 5 rfl ?_
  refine tt_if_eq C (tgt := 26) dX6_door_16 (by decide) Iff.rfl (fun c_1 => ?_) (fun c_1 => ?_)
  · skip
    refine tt_aload_n C dX6_door_26 rfl 0 rfl ?_
    refine tt_cVV C (c_X6_keepState_L E u r h g hr hrn hD hB hm f0) gX6_door_X6_keepState rfl ⟨rfl, rfl⟩ 0 (by decide +kernel) ⟨Nat.le_of_ble_eq_true rfl, Nat.le_of_ble_eq_true rfl⟩ rfl oT0 rfl (Nat.le_of_ble_eq_true rfl) dX6_door_27 rfl ?_
    generalize e_3 : up2 (up2 h 0 0 (nI 3)) 0 0 (nI 4) = h_2
    refine tt_aload_n C dX6_door_30 rfl 0 rfl ?_
    refine tt_get (v := .ref (eA E (r 0) 0)) C oT0 rfl hin6 0 (by decide) (List.mem_of_getElem? (i := 1) (by decide +kernel)) rfl dX6_door_31 ?_
    refine tt_get (v := .ref (eA E (r 0) 1)) C (oH0 hi) rfl hin2 0 (by decide) (List.mem_of_getElem? (i := 2) (by decide +kernel)) rfl dX6_door_34 ?_
    refine tt_iload_n C dX6_door_37 rfl 1 rfl ?_
    refine tt_iload_n C dX6_door_38 rfl 2 rfl ?_
    refine tt_iload_n C dX6_door_39 rfl 3 rfl ?_
    refine tt_iload C dX6_door_40 4 rfl ?_
    refine tt_cVI C (CT_comm hi5 (c_X1_add E (ub (kA u (r 1) g) 5 h_2) (kR r) g (r 0) f t a b hi hm8)) gX6_door_X1_add rfl ⟨rfl, rfl⟩ 4 (by decide +kernel) ⟨Nat.le_of_ble_eq_true rfl, Nat.le_of_ble_eq_true rfl⟩ rfl (oH1 hi) rfl (Nat.le_of_ble_eq_true rfl) dX6_door_42 rfl ?_
    generalize e_5 : H_dadd g f t a b = h_4
    exact tt_iret K dX6_door_45 (by subst e_3; subst e_5; rfl) (by subst e_3; subst e_5; rfl) rfl
  · skip
    exact absurd hr0 c_1

set_option maxHeartbeats 4000000 in
set_option maxRecDepth 100000 in
theorem c_X6_bars_B (E : EN) (u : U3) (r : R1) (h : HB) (g : HB) (b : Int32) (s0 : Int32) (hi : r 0 < 5) (hi5 : r 0 ≠ 5) (hv : H_rBar g b s0 = -2 ∨ H_rBar g b s0 = -3 ∨ H_rBar g b s0 = -4) (hr0 : ¬ H_rBar g b s0 = 0) : CT E yX6_bars wsX6_bars (rmT 5 104) [.ref (eA E 5 0), .int b, .int s0] (ub (ub u (r 0) g) 5 h) r (some (.int (H_rBar g b s0))) (ub (ub u (r 0) g) 5 (H_ref h (H_rBar g b s0))) r := by
  refine CT_ofI (cc := cX6_bars) (nL := 4) (own := RX6) (by decide) rfl rfl rfl (Nat.le_of_ble_eq_true rfl) (fun F C K => ?_)
  have hin6 : ∀ w ∈ u_ws RX6 TX6 8, w ∈ wsX6_bars := by decide +kernel
  refine tt_to (lv1 := [(0, .ref (eA E 5 0)), (1, .int b), (2, .int s0)]) rfl rfl rfl rfl ?_
  refine tt_aload_n C dX6_bars_0 rfl 0 rfl ?_
  refine tt_get (v := .ref (eA E (r 0) 0)) C oT0 rfl hin6 0 (by decide) (List.mem_of_getElem? (i := 1) (by decide +kernel)) rfl dX6_bars_1 ?_
  refine tt_iload_n C dX6_bars_4 rfl 1 rfl ?_
  refine tt_iload_n C dX6_bars_5 rfl 2 rfl ?_
  refine tt_cVI C (CT_comm hi5 (c_X2_refusesBar E (ub u 5 h) r g (r 0) b s0 hi)) gX6_bars_X2_refusesBar rfl ⟨rfl, rfl⟩ 2 (by decide +kernel) ⟨Nat.le_of_ble_eq_true rfl, Nat.le_of_ble_eq_true rfl⟩ rfl (oH0 hi) rfl (Nat.le_of_ble_eq_true rfl) dX6_bars_6 rfl ?_
  refine tt_istore_n (lv' := [(0, .ref (eA E 5 0)), (1, .int b), (2, .int s0), (3, .int (H_rBar g b s0))]) C dX6_bars_9 rfl (by decide) [1, 2, 3, 0] rfl ?_
  refine tt_iload_n C dX6_bars_10 rfl 3 rfl ?_
  refine tt_if_eq C (tgt := 20) dX6_bars_11 (by decide) Iff.rfl (fun c_1 => ?_) (fun c_1 => ?_)
  · skip
    exact absurd c_1 hr0
  · skip
    refine tt_aload_n C dX6_bars_14 rfl 0 rfl ?_
    refine tt_iload_n C dX6_bars_15 rfl 3 rfl ?_
    refine tt_cVI C (c_X6_refuse E (ub u (r 0) g) r h (H_rBar g b s0) hv) gX6_bars_X6_refuse rfl ⟨rfl, rfl⟩ 1 (by decide +kernel) ⟨Nat.le_of_ble_eq_true rfl, Nat.le_of_ble_eq_true rfl⟩ rfl oT0 rfl (Nat.le_of_ble_eq_true rfl) dX6_bars_16 rfl ?_
    generalize e_3 : H_ref h (H_rBar g b s0) = h_2
    exact tt_iret K dX6_bars_19 (by subst e_3; rfl) (by subst e_3; rfl) rfl

set_option maxHeartbeats 4000000 in
set_option maxRecDepth 100000 in
theorem c_X6_bars_K (E : EN) (u : U3) (r : R1) (h : HB) (g : HB) (b : Nat) (s0 : Int32) (s : Nat) (hi : r 0 < 5) (hi5 : r 0 ≠ 5) (hr : ∀ j, j < 5 → r j < 5) (hrn : ∀ j, j < 4 → r 0 ≠ r (j + 1)) (hD : vI (g 1 0) 9) (hB : vI (g 18 0) 9) (hm : vI (g 25 0) 65) (f0 : h 0 0 = nI s) (hs : s < 4) (hr0 : H_rBar g (nI b) s0 = 0) (hb : b < 8) : CT E yX6_bars wsX6_bars (rmT 5 104) [.ref (eA E 5 0), .int (nI b), .int s0] (ub (ub u (r 0) g) 5 h) r (some (.int (g 20 b))) (ub (ub (kA u (r (s + 1)) g) (r 0) (up2 g 20 b s0)) 5 (up2 h 0 0 (nI (s + 1)))) r := by
  refine CT_ofI (cc := cX6_bars) (nL := 4) (own := RX6) (by decide) rfl rfl rfl (Nat.le_of_ble_eq_true rfl) (fun F C K => ?_)
  have hin2 : ∀ w ∈ u_ws RX2 TX2 8, w ∈ wsX6_bars := by decide +kernel
  have hin6 : ∀ w ∈ u_ws RX6 TX6 8, w ∈ wsX6_bars := by decide +kernel
  refine tt_to (lv1 := [(0, .ref (eA E 5 0)), (1, .int (nI b)), (2, .int s0)]) rfl rfl rfl rfl ?_
  refine tt_aload_n C dX6_bars_0 rfl 0 rfl ?_
  refine tt_get (v := .ref (eA E (r 0) 0)) C oT0 rfl hin6 0 (by decide) (List.mem_of_getElem? (i := 1) (by decide +kernel)) rfl dX6_bars_1 ?_
  refine tt_iload_n C dX6_bars_4 rfl 1 rfl ?_
  refine tt_iload_n C dX6_bars_5 rfl 2 rfl ?_
  refine tt_cVI C (CT_comm hi5 (c_X2_refusesBar E (ub u 5 h) r g (r 0) (nI b) s0 hi)) gX6_bars_X2_refusesBar rfl ⟨rfl, rfl⟩ 2 (by decide +kernel) ⟨Nat.le_of_ble_eq_true rfl, Nat.le_of_ble_eq_true rfl⟩ rfl (oH0 hi) rfl (Nat.le_of_ble_eq_true rfl) dX6_bars_6 rfl ?_
  refine tt_istore_n (lv' := [(0, .ref (eA E 5 0)), (1, .int (nI b)), (2, .int s0), (3, .int (H_rBar g (nI b) s0))]) C dX6_bars_9 rfl (by decide) [1, 2, 3, 0] rfl ?_
  refine tt_iload_n C dX6_bars_10 rfl 3 rfl ?_
  refine tt_if_eq C (tgt := 20) dX6_bars_11 (by decide) Iff.rfl (fun c_1 => ?_) (fun c_1 => ?_)
  · skip
    refine tt_aload_n C dX6_bars_20 rfl 0 rfl ?_
    refine tt_cVV C (c_X6_keepState_K E u r h g s hr hrn hD hB hm f0 hs) gX6_bars_X6_keepState rfl ⟨rfl, rfl⟩ 0 (by decide +kernel) ⟨Nat.le_of_ble_eq_true rfl, Nat.le_of_ble_eq_true rfl⟩ rfl oT0 rfl (Nat.le_of_ble_eq_true rfl) dX6_bars_21 rfl ?_
    generalize e_3 : up2 h 0 0 (nI (s + 1)) = h_2
    refine tt_aload_n C dX6_bars_24 rfl 0 rfl ?_
    refine tt_get (v := .ref (eA E (r 0) 0)) C oT0 rfl hin6 0 (by decide) (List.mem_of_getElem? (i := 1) (by decide +kernel)) rfl dX6_bars_25 ?_
    refine tt_get (v := .ref (eA E (r 0) 18)) C (oH0 hi) rfl hin2 1 (by decide) (List.mem_of_getElem? (i := 2) (by decide +kernel)) rfl dX6_bars_28 ?_
    refine tt_iload_n C dX6_bars_31 rfl 1 rfl ?_
    refine tt_iload_n C dX6_bars_32 rfl 2 rfl ?_
    refine tt_cVI C (CT_comm hi5 (c_X0_changeBarred E (ub (kA u (r (s + 1)) g) 5 h_2) r g (r 0) b s0 hi hb)) gX6_bars_X0_changeBarred rfl ⟨rfl, rfl⟩ 2 (by decide +kernel) ⟨Nat.le_of_ble_eq_true rfl, Nat.le_of_ble_eq_true rfl⟩ rfl (oH18 hi) rfl (Nat.le_of_ble_eq_true rfl) dX6_bars_33 rfl ?_
    generalize e_5 : up2 g 20 b s0 = h_4
    exact tt_iret K dX6_bars_36 (by subst e_3; subst e_5; rfl) (by subst e_3; subst e_5; rfl) rfl
  · skip
    exact absurd hr0 c_1

set_option maxHeartbeats 4000000 in
set_option maxRecDepth 100000 in
theorem c_X6_bars_L (E : EN) (u : U3) (r : R1) (h : HB) (g : HB) (b : Nat) (s0 : Int32) (hi : r 0 < 5) (hi5 : r 0 ≠ 5) (hr : ∀ j, j < 5 → r j < 5) (hrn : ∀ j, j < 4 → r 0 ≠ r (j + 1)) (hD : vI (g 1 0) 9) (hB : vI (g 18 0) 9) (hm : vI (g 25 0) 65) (f0 : h 0 0 = nI 4) (hr0 : H_rBar g (nI b) s0 = 0) (hb : b < 8) : CT E yX6_bars wsX6_bars (rmT 5 104) [.ref (eA E 5 0), .int (nI b), .int s0] (ub (ub u (r 0) g) 5 h) r (some (.int (g 20 b))) (ub (ub (kA u (r 1) g) (r 0) (up2 g 20 b s0)) 5 (up2 (up2 h 0 0 (nI 3)) 0 0 (nI 4))) (kR r) := by
  refine CT_ofI (cc := cX6_bars) (nL := 4) (own := RX6) (by decide) rfl rfl rfl (Nat.le_of_ble_eq_true rfl) (fun F C K => ?_)
  have hin2 : ∀ w ∈ u_ws RX2 TX2 8, w ∈ wsX6_bars := by decide +kernel
  have hin6 : ∀ w ∈ u_ws RX6 TX6 8, w ∈ wsX6_bars := by decide +kernel
  refine tt_to (lv1 := [(0, .ref (eA E 5 0)), (1, .int (nI b)), (2, .int s0)]) rfl rfl rfl rfl ?_
  refine tt_aload_n C dX6_bars_0 rfl 0 rfl ?_
  refine tt_get (v := .ref (eA E (r 0) 0)) C oT0 rfl hin6 0 (by decide) (List.mem_of_getElem? (i := 1) (by decide +kernel)) rfl dX6_bars_1 ?_
  refine tt_iload_n C dX6_bars_4 rfl 1 rfl ?_
  refine tt_iload_n C dX6_bars_5 rfl 2 rfl ?_
  refine tt_cVI C (CT_comm hi5 (c_X2_refusesBar E (ub u 5 h) r g (r 0) (nI b) s0 hi)) gX6_bars_X2_refusesBar rfl ⟨rfl, rfl⟩ 2 (by decide +kernel) ⟨Nat.le_of_ble_eq_true rfl, Nat.le_of_ble_eq_true rfl⟩ rfl (oH0 hi) rfl (Nat.le_of_ble_eq_true rfl) dX6_bars_6 rfl ?_
  refine tt_istore_n (lv' := [(0, .ref (eA E 5 0)), (1, .int (nI b)), (2, .int s0), (3, .int (H_rBar g (nI b) s0))]) C dX6_bars_9 rfl (by decide) [1, 2, 3, 0] rfl ?_
  refine tt_iload_n C dX6_bars_10 rfl 3 rfl ?_
  refine tt_if_eq C (tgt := 20) dX6_bars_11 (by decide) Iff.rfl (fun c_1 => ?_) (fun c_1 => ?_)
  · skip
    refine tt_aload_n C dX6_bars_20 rfl 0 rfl ?_
    refine tt_cVV C (c_X6_keepState_L E u r h g hr hrn hD hB hm f0) gX6_bars_X6_keepState rfl ⟨rfl, rfl⟩ 0 (by decide +kernel) ⟨Nat.le_of_ble_eq_true rfl, Nat.le_of_ble_eq_true rfl⟩ rfl oT0 rfl (Nat.le_of_ble_eq_true rfl) dX6_bars_21 rfl ?_
    generalize e_3 : up2 (up2 h 0 0 (nI 3)) 0 0 (nI 4) = h_2
    refine tt_aload_n C dX6_bars_24 rfl 0 rfl ?_
    refine tt_get (v := .ref (eA E (r 0) 0)) C oT0 rfl hin6 0 (by decide) (List.mem_of_getElem? (i := 1) (by decide +kernel)) rfl dX6_bars_25 ?_
    refine tt_get (v := .ref (eA E (r 0) 18)) C (oH0 hi) rfl hin2 1 (by decide) (List.mem_of_getElem? (i := 2) (by decide +kernel)) rfl dX6_bars_28 ?_
    refine tt_iload_n C dX6_bars_31 rfl 1 rfl ?_
    refine tt_iload_n C dX6_bars_32 rfl 2 rfl ?_
    refine tt_cVI C (CT_comm hi5 (c_X0_changeBarred E (ub (kA u (r 1) g) 5 h_2) (kR r) g (r 0) b s0 hi hb)) gX6_bars_X0_changeBarred rfl ⟨rfl, rfl⟩ 2 (by decide +kernel) ⟨Nat.le_of_ble_eq_true rfl, Nat.le_of_ble_eq_true rfl⟩ rfl (oH18 hi) rfl (Nat.le_of_ble_eq_true rfl) dX6_bars_33 rfl ?_
    generalize e_5 : up2 g 20 b s0 = h_4
    exact tt_iret K dX6_bars_36 (by subst e_3; subst e_5; rfl) (by subst e_3; subst e_5; rfl) rfl
  · skip
    exact absurd hr0 c_1

set_option maxHeartbeats 4000000 in
set_option maxRecDepth 100000 in
theorem c_X6_waits_B (E : EN) (u : U3) (r : R1) (h : HB) (g : HB) (n : Int32) (hi : r 0 < 5) (hi5 : r 0 ≠ 5) (hv : H_rWait n = -2 ∨ H_rWait n = -3 ∨ H_rWait n = -4) (hr0 : ¬ H_rWait n = 0) : CT E yX6_waits wsX6_waits (rmT 5 104) [.ref (eA E 5 0), .int n] (ub (ub u (r 0) g) 5 h) r (some (.int (H_rWait n))) (ub (ub u (r 0) g) 5 (H_ref h (H_rWait n))) r := by
  refine CT_ofI (cc := cX6_waits) (nL := 3) (own := RX6) (by decide) rfl rfl rfl (Nat.le_of_ble_eq_true rfl) (fun F C K => ?_)
  have hin6 : ∀ w ∈ u_ws RX6 TX6 8, w ∈ wsX6_waits := by decide +kernel
  refine tt_to (lv1 := [(0, .ref (eA E 5 0)), (1, .int n)]) rfl rfl rfl rfl ?_
  refine tt_aload_n C dX6_waits_0 rfl 0 rfl ?_
  refine tt_get (v := .ref (eA E (r 0) 0)) C oT0 rfl hin6 0 (by decide) (List.mem_of_getElem? (i := 1) (by decide +kernel)) rfl dX6_waits_1 ?_
  refine tt_iload_n C dX6_waits_4 rfl 1 rfl ?_
  refine tt_cVI C (CT_comm hi5 (c_X2_refusesWait E (ub u 5 h) r g (r 0) n hi)) gX6_waits_X2_refusesWait rfl ⟨rfl, rfl⟩ 1 (by decide +kernel) ⟨Nat.le_of_ble_eq_true rfl, Nat.le_of_ble_eq_true rfl⟩ rfl (oH0 hi) rfl (Nat.le_of_ble_eq_true rfl) dX6_waits_5 rfl ?_
  refine tt_istore_n (lv' := [(0, .ref (eA E 5 0)), (1, .int n), (2, .int (H_rWait n))]) C dX6_waits_8 rfl (by decide) [1, 2, 0] rfl ?_
  refine tt_iload_n C dX6_waits_9 rfl 2 rfl ?_
  refine tt_if_eq C (tgt := 19) dX6_waits_10 (by decide) Iff.rfl (fun c_1 => ?_) (fun c_1 => ?_)
  · skip
    exact absurd c_1 hr0
  · skip
    refine tt_aload_n C dX6_waits_13 rfl 0 rfl ?_
    refine tt_iload_n C dX6_waits_14 rfl 2 rfl ?_
    refine tt_cVI C (c_X6_refuse E (ub u (r 0) g) r h (H_rWait n) hv) gX6_waits_X6_refuse rfl ⟨rfl, rfl⟩ 1 (by decide +kernel) ⟨Nat.le_of_ble_eq_true rfl, Nat.le_of_ble_eq_true rfl⟩ rfl oT0 rfl (Nat.le_of_ble_eq_true rfl) dX6_waits_15 rfl ?_
    generalize e_3 : H_ref h (H_rWait n) = h_2
    exact tt_iret K dX6_waits_18 (by subst e_3; rfl) (by subst e_3; rfl) rfl

set_option maxHeartbeats 4000000 in
set_option maxRecDepth 100000 in
theorem c_X6_waits_K (E : EN) (u : U3) (r : R1) (h : HB) (g : HB) (n : Int32) (s : Nat) (hi : r 0 < 5) (hi5 : r 0 ≠ 5) (hr : ∀ j, j < 5 → r j < 5) (hrn : ∀ j, j < 4 → r 0 ≠ r (j + 1)) (hD : vI (g 1 0) 9) (hB : vI (g 18 0) 9) (hm : vI (g 25 0) 65) (f0 : h 0 0 = nI s) (hs : s < 4) (hr0 : H_rWait n = 0) : CT E yX6_waits wsX6_waits (rmT 5 104) [.ref (eA E 5 0), .int n] (ub (ub u (r 0) g) 5 h) r (some (.int (rem24 (g 0 0 + n)))) (ub (ub (kA u (r (s + 1)) g) (r 0) (H_wait g n)) 5 (up2 h 0 0 (nI (s + 1)))) r := by
  refine CT_ofI (cc := cX6_waits) (nL := 3) (own := RX6) (by decide) rfl rfl rfl (Nat.le_of_ble_eq_true rfl) (fun F C K => ?_)
  have hin6 : ∀ w ∈ u_ws RX6 TX6 8, w ∈ wsX6_waits := by decide +kernel
  refine tt_to (lv1 := [(0, .ref (eA E 5 0)), (1, .int n)]) rfl rfl rfl rfl ?_
  refine tt_aload_n C dX6_waits_0 rfl 0 rfl ?_
  refine tt_get (v := .ref (eA E (r 0) 0)) C oT0 rfl hin6 0 (by decide) (List.mem_of_getElem? (i := 1) (by decide +kernel)) rfl dX6_waits_1 ?_
  refine tt_iload_n C dX6_waits_4 rfl 1 rfl ?_
  refine tt_cVI C (CT_comm hi5 (c_X2_refusesWait E (ub u 5 h) r g (r 0) n hi)) gX6_waits_X2_refusesWait rfl ⟨rfl, rfl⟩ 1 (by decide +kernel) ⟨Nat.le_of_ble_eq_true rfl, Nat.le_of_ble_eq_true rfl⟩ rfl (oH0 hi) rfl (Nat.le_of_ble_eq_true rfl) dX6_waits_5 rfl ?_
  refine tt_istore_n (lv' := [(0, .ref (eA E 5 0)), (1, .int n), (2, .int (H_rWait n))]) C dX6_waits_8 rfl (by decide) [1, 2, 0] rfl ?_
  refine tt_iload_n C dX6_waits_9 rfl 2 rfl ?_
  refine tt_if_eq C (tgt := 19) dX6_waits_10 (by decide) Iff.rfl (fun c_1 => ?_) (fun c_1 => ?_)
  · skip
    refine tt_aload_n C dX6_waits_19 rfl 0 rfl ?_
    refine tt_cVV C (c_X6_keepState_K E u r h g s hr hrn hD hB hm f0 hs) gX6_waits_X6_keepState rfl ⟨rfl, rfl⟩ 0 (by decide +kernel) ⟨Nat.le_of_ble_eq_true rfl, Nat.le_of_ble_eq_true rfl⟩ rfl oT0 rfl (Nat.le_of_ble_eq_true rfl) dX6_waits_20 rfl ?_
    generalize e_3 : up2 h 0 0 (nI (s + 1)) = h_2
    refine tt_aload_n C dX6_waits_23 rfl 0 rfl ?_
    refine tt_get (v := .ref (eA E (r 0) 0)) C oT0 rfl hin6 0 (by decide) (List.mem_of_getElem? (i := 1) (by decide +kernel)) rfl dX6_waits_24 ?_
    refine tt_iload_n C dX6_waits_27 rfl 1 rfl ?_
    refine tt_cVI C (CT_comm hi5 (c_X2_letTimeGoBy E (ub (kA u (r (s + 1)) g) 5 h_2) r g (r 0) n hi hD)) gX6_waits_X2_letTimeGoBy rfl ⟨rfl, rfl⟩ 1 (by decide +kernel) ⟨Nat.le_of_ble_eq_true rfl, Nat.le_of_ble_eq_true rfl⟩ rfl (oH0 hi) rfl (Nat.le_of_ble_eq_true rfl) dX6_waits_28 rfl ?_
    generalize e_5 : H_wait g n = h_4
    exact tt_iret K dX6_waits_31 (by subst e_3; subst e_5; rfl) (by subst e_3; subst e_5; rfl) rfl
  · skip
    exact absurd hr0 c_1

set_option maxHeartbeats 4000000 in
set_option maxRecDepth 100000 in
theorem c_X6_waits_L (E : EN) (u : U3) (r : R1) (h : HB) (g : HB) (n : Int32) (hi : r 0 < 5) (hi5 : r 0 ≠ 5) (hr : ∀ j, j < 5 → r j < 5) (hrn : ∀ j, j < 4 → r 0 ≠ r (j + 1)) (hD : vI (g 1 0) 9) (hB : vI (g 18 0) 9) (hm : vI (g 25 0) 65) (f0 : h 0 0 = nI 4) (hr0 : H_rWait n = 0) : CT E yX6_waits wsX6_waits (rmT 5 104) [.ref (eA E 5 0), .int n] (ub (ub u (r 0) g) 5 h) r (some (.int (rem24 (g 0 0 + n)))) (ub (ub (kA u (r 1) g) (r 0) (H_wait g n)) 5 (up2 (up2 h 0 0 (nI 3)) 0 0 (nI 4))) (kR r) := by
  refine CT_ofI (cc := cX6_waits) (nL := 3) (own := RX6) (by decide) rfl rfl rfl (Nat.le_of_ble_eq_true rfl) (fun F C K => ?_)
  have hin6 : ∀ w ∈ u_ws RX6 TX6 8, w ∈ wsX6_waits := by decide +kernel
  refine tt_to (lv1 := [(0, .ref (eA E 5 0)), (1, .int n)]) rfl rfl rfl rfl ?_
  refine tt_aload_n C dX6_waits_0 rfl 0 rfl ?_
  refine tt_get (v := .ref (eA E (r 0) 0)) C oT0 rfl hin6 0 (by decide) (List.mem_of_getElem? (i := 1) (by decide +kernel)) rfl dX6_waits_1 ?_
  refine tt_iload_n C dX6_waits_4 rfl 1 rfl ?_
  refine tt_cVI C (CT_comm hi5 (c_X2_refusesWait E (ub u 5 h) r g (r 0) n hi)) gX6_waits_X2_refusesWait rfl ⟨rfl, rfl⟩ 1 (by decide +kernel) ⟨Nat.le_of_ble_eq_true rfl, Nat.le_of_ble_eq_true rfl⟩ rfl (oH0 hi) rfl (Nat.le_of_ble_eq_true rfl) dX6_waits_5 rfl ?_
  refine tt_istore_n (lv' := [(0, .ref (eA E 5 0)), (1, .int n), (2, .int (H_rWait n))]) C dX6_waits_8 rfl (by decide) [1, 2, 0] rfl ?_
  refine tt_iload_n C dX6_waits_9 rfl 2 rfl ?_
  refine tt_if_eq C (tgt := 19) dX6_waits_10 (by decide) Iff.rfl (fun c_1 => ?_) (fun c_1 => ?_)
  · skip
    refine tt_aload_n C dX6_waits_19 rfl 0 rfl ?_
    refine tt_cVV C (c_X6_keepState_L E u r h g hr hrn hD hB hm f0) gX6_waits_X6_keepState rfl ⟨rfl, rfl⟩ 0 (by decide +kernel) ⟨Nat.le_of_ble_eq_true rfl, Nat.le_of_ble_eq_true rfl⟩ rfl oT0 rfl (Nat.le_of_ble_eq_true rfl) dX6_waits_20 rfl ?_
    generalize e_3 : up2 (up2 h 0 0 (nI 3)) 0 0 (nI 4) = h_2
    refine tt_aload_n C dX6_waits_23 rfl 0 rfl ?_
    refine tt_get (v := .ref (eA E (r 0) 0)) C oT0 rfl hin6 0 (by decide) (List.mem_of_getElem? (i := 1) (by decide +kernel)) rfl dX6_waits_24 ?_
    refine tt_iload_n C dX6_waits_27 rfl 1 rfl ?_
    refine tt_cVI C (CT_comm hi5 (c_X2_letTimeGoBy E (ub (kA u (r 1) g) 5 h_2) (kR r) g (r 0) n hi hD)) gX6_waits_X2_letTimeGoBy rfl ⟨rfl, rfl⟩ 1 (by decide +kernel) ⟨Nat.le_of_ble_eq_true rfl, Nat.le_of_ble_eq_true rfl⟩ rfl (oH0 hi) rfl (Nat.le_of_ble_eq_true rfl) dX6_waits_28 rfl ?_
    generalize e_5 : H_wait g n = h_4
    exact tt_iret K dX6_waits_31 (by subst e_3; subst e_5; rfl) (by subst e_3; subst e_5; rfl) rfl
  · skip
    exact absurd hr0 c_1

set_option maxHeartbeats 4000000 in
set_option maxRecDepth 100000 in
theorem c_X6_asks_B (E : EN) (u : U3) (r : R1) (h : HB) (g : HB) (b : Int32) (d : Int32) (s0 : Int32) (hi : r 0 < 5) (hi5 : r 0 ≠ 5) (hv : H_rAsk g b d s0 = -2 ∨ H_rAsk g b d s0 = -3 ∨ H_rAsk g b d s0 = -4) (hr0 : ¬ H_rAsk g b d s0 = 0) : CT E yX6_asks wsX6_asks (rmT 5 104) [.ref (eA E 5 0), .int b, .int d, .int s0] (ub (ub u (r 0) g) 5 h) r (some (.int (H_rAsk g b d s0))) (ub (ub u (r 0) g) 5 (H_ref h (H_rAsk g b d s0))) r := by
  refine CT_ofI (cc := cX6_asks) (nL := 5) (own := RX6) (by decide) rfl rfl rfl (Nat.le_of_ble_eq_true rfl) (fun F C K => ?_)
  have hin6 : ∀ w ∈ u_ws RX6 TX6 8, w ∈ wsX6_asks := by decide +kernel
  refine tt_to (lv1 := [(0, .ref (eA E 5 0)), (1, .int b), (2, .int d), (3, .int s0)]) rfl rfl rfl rfl ?_
  refine tt_aload_n C dX6_asks_0 rfl 0 rfl ?_
  refine tt_get (v := .ref (eA E (r 0) 0)) C oT0 rfl hin6 0 (by decide) (List.mem_of_getElem? (i := 1) (by decide +kernel)) rfl dX6_asks_1 ?_
  refine tt_iload_n C dX6_asks_4 rfl 1 rfl ?_
  refine tt_iload_n C dX6_asks_5 rfl 2 rfl ?_
  refine tt_iload_n C dX6_asks_6 rfl 3 rfl ?_
  refine tt_cVI C (CT_comm hi5 (c_X2_refusesAsk E (ub u 5 h) r g (r 0) b d s0 hi)) gX6_asks_X2_refusesAsk rfl ⟨rfl, rfl⟩ 3 (by decide +kernel) ⟨Nat.le_of_ble_eq_true rfl, Nat.le_of_ble_eq_true rfl⟩ rfl (oH0 hi) rfl (Nat.le_of_ble_eq_true rfl) dX6_asks_7 rfl ?_
  refine tt_istore (lv' := [(0, .ref (eA E 5 0)), (1, .int b), (2, .int d), (3, .int s0), (4, .int (H_rAsk g b d s0))]) C dX6_asks_10 (by decide) [1, 2, 3, 4, 0] rfl ?_
  refine tt_iload C dX6_asks_12 4 rfl ?_
  refine tt_if_eq C (tgt := 24) dX6_asks_14 (by decide) Iff.rfl (fun c_1 => ?_) (fun c_1 => ?_)
  · skip
    exact absurd c_1 hr0
  · skip
    refine tt_aload_n C dX6_asks_17 rfl 0 rfl ?_
    refine tt_iload C dX6_asks_18 4 rfl ?_
    refine tt_cVI C (c_X6_refuse E (ub u (r 0) g) r h (H_rAsk g b d s0) hv) gX6_asks_X6_refuse rfl ⟨rfl, rfl⟩ 1 (by decide +kernel) ⟨Nat.le_of_ble_eq_true rfl, Nat.le_of_ble_eq_true rfl⟩ rfl oT0 rfl (Nat.le_of_ble_eq_true rfl) dX6_asks_20 rfl ?_
    generalize e_3 : H_ref h (H_rAsk g b d s0) = h_2
    exact tt_iret K dX6_asks_23 (by subst e_3; rfl) (by subst e_3; rfl) rfl

set_option maxHeartbeats 4000000 in
set_option maxRecDepth 100000 in
theorem c_X6_asks_K (E : EN) (u : U3) (r : R1) (h : HB) (g : HB) (b : Nat) (d : Nat) (s0 : Int32) (s : Nat) (hi : r 0 < 5) (hi5 : r 0 ≠ 5) (hr : ∀ j, j < 5 → r j < 5) (hrn : ∀ j, j < 4 → r 0 ≠ r (j + 1)) (hD : vI (g 1 0) 9) (hB : vI (g 18 0) 9) (hm : vI (g 25 0) 65) (f0 : h 0 0 = nI s) (hs : s < 4) (hr0 : H_rAsk g (nI b) (nI d) s0 = 0) (hb : b < 8) (hd : d < 8) (ho : g 8 d = -1 ∨ vI (g 8 d) 8) (hn : vI (g 12 d) 21) (hw : g 11 d = -1 ∨ vI (g 11 d) 8) : CT E yX6_asks wsX6_asks (rmT 5 104) [.ref (eA E 5 0), .int (nI b), .int (nI d), .int s0] (ub (ub u (r 0) g) 5 h) r (some (.int (nI (H_dec g b d)))) (ub (ub (kA u (r (s + 1)) g) (r 0) (H_ask g b d s0)) 5 (up2 h 0 0 (nI (s + 1)))) r := by
  refine CT_ofI (cc := cX6_asks) (nL := 5) (own := RX6) (by decide) rfl rfl rfl (Nat.le_of_ble_eq_true rfl) (fun F C K => ?_)
  have hin6 : ∀ w ∈ u_ws RX6 TX6 8, w ∈ wsX6_asks := by decide +kernel
  refine tt_to (lv1 := [(0, .ref (eA E 5 0)), (1, .int (nI b)), (2, .int (nI d)), (3, .int s0)]) rfl rfl rfl rfl ?_
  refine tt_aload_n C dX6_asks_0 rfl 0 rfl ?_
  refine tt_get (v := .ref (eA E (r 0) 0)) C oT0 rfl hin6 0 (by decide) (List.mem_of_getElem? (i := 1) (by decide +kernel)) rfl dX6_asks_1 ?_
  refine tt_iload_n C dX6_asks_4 rfl 1 rfl ?_
  refine tt_iload_n C dX6_asks_5 rfl 2 rfl ?_
  refine tt_iload_n C dX6_asks_6 rfl 3 rfl ?_
  refine tt_cVI C (CT_comm hi5 (c_X2_refusesAsk E (ub u 5 h) r g (r 0) (nI b) (nI d) s0 hi)) gX6_asks_X2_refusesAsk rfl ⟨rfl, rfl⟩ 3 (by decide +kernel) ⟨Nat.le_of_ble_eq_true rfl, Nat.le_of_ble_eq_true rfl⟩ rfl (oH0 hi) rfl (Nat.le_of_ble_eq_true rfl) dX6_asks_7 rfl ?_
  refine tt_istore (lv' := [(0, .ref (eA E 5 0)), (1, .int (nI b)), (2, .int (nI d)), (3, .int s0), (4, .int (H_rAsk g (nI b) (nI d) s0))]) C dX6_asks_10 (by decide) [1, 2, 3, 4, 0] rfl ?_
  refine tt_iload C dX6_asks_12 4 rfl ?_
  refine tt_if_eq C (tgt := 24) dX6_asks_14 (by decide) Iff.rfl (fun c_1 => ?_) (fun c_1 => ?_)
  · skip
    refine tt_aload_n C dX6_asks_24 rfl 0 rfl ?_
    refine tt_cVV C (c_X6_keepState_K E u r h g s hr hrn hD hB hm f0 hs) gX6_asks_X6_keepState rfl ⟨rfl, rfl⟩ 0 (by decide +kernel) ⟨Nat.le_of_ble_eq_true rfl, Nat.le_of_ble_eq_true rfl⟩ rfl oT0 rfl (Nat.le_of_ble_eq_true rfl) dX6_asks_25 rfl ?_
    generalize e_3 : up2 h 0 0 (nI (s + 1)) = h_2
    refine tt_aload_n C dX6_asks_28 rfl 0 rfl ?_
    refine tt_get (v := .ref (eA E (r 0) 0)) C oT0 rfl hin6 0 (by decide) (List.mem_of_getElem? (i := 1) (by decide +kernel)) rfl dX6_asks_29 ?_
    refine tt_iload_n C dX6_asks_32 rfl 1 rfl ?_
    refine tt_iload_n C dX6_asks_33 rfl 2 rfl ?_
    refine tt_iload_n C dX6_asks_34 rfl 3 rfl ?_
    refine tt_cVI C (CT_comm hi5 (c_X2_ask E (ub (kA u (r (s + 1)) g) 5 h_2) r g (r 0) b d s0 hi hb hd ho hm hn hw)) gX6_asks_X2_ask rfl ⟨rfl, rfl⟩ 3 (by decide +kernel) ⟨Nat.le_of_ble_eq_true rfl, Nat.le_of_ble_eq_true rfl⟩ rfl (oH0 hi) rfl (Nat.le_of_ble_eq_true rfl) dX6_asks_35 rfl ?_
    generalize e_5 : H_ask g b d s0 = h_4
    exact tt_iret K dX6_asks_38 (by subst e_3; subst e_5; rfl) (by subst e_3; subst e_5; rfl) rfl
  · skip
    exact absurd hr0 c_1

set_option maxHeartbeats 4000000 in
set_option maxRecDepth 100000 in
theorem c_X6_asks_L (E : EN) (u : U3) (r : R1) (h : HB) (g : HB) (b : Nat) (d : Nat) (s0 : Int32) (hi : r 0 < 5) (hi5 : r 0 ≠ 5) (hr : ∀ j, j < 5 → r j < 5) (hrn : ∀ j, j < 4 → r 0 ≠ r (j + 1)) (hD : vI (g 1 0) 9) (hB : vI (g 18 0) 9) (hm : vI (g 25 0) 65) (f0 : h 0 0 = nI 4) (hr0 : H_rAsk g (nI b) (nI d) s0 = 0) (hb : b < 8) (hd : d < 8) (ho : g 8 d = -1 ∨ vI (g 8 d) 8) (hn : vI (g 12 d) 21) (hw : g 11 d = -1 ∨ vI (g 11 d) 8) : CT E yX6_asks wsX6_asks (rmT 5 104) [.ref (eA E 5 0), .int (nI b), .int (nI d), .int s0] (ub (ub u (r 0) g) 5 h) r (some (.int (nI (H_dec g b d)))) (ub (ub (kA u (r 1) g) (r 0) (H_ask g b d s0)) 5 (up2 (up2 h 0 0 (nI 3)) 0 0 (nI 4))) (kR r) := by
  refine CT_ofI (cc := cX6_asks) (nL := 5) (own := RX6) (by decide) rfl rfl rfl (Nat.le_of_ble_eq_true rfl) (fun F C K => ?_)
  have hin6 : ∀ w ∈ u_ws RX6 TX6 8, w ∈ wsX6_asks := by decide +kernel
  refine tt_to (lv1 := [(0, .ref (eA E 5 0)), (1, .int (nI b)), (2, .int (nI d)), (3, .int s0)]) rfl rfl rfl rfl ?_
  refine tt_aload_n C dX6_asks_0 rfl 0 rfl ?_
  refine tt_get (v := .ref (eA E (r 0) 0)) C oT0 rfl hin6 0 (by decide) (List.mem_of_getElem? (i := 1) (by decide +kernel)) rfl dX6_asks_1 ?_
  refine tt_iload_n C dX6_asks_4 rfl 1 rfl ?_
  refine tt_iload_n C dX6_asks_5 rfl 2 rfl ?_
  refine tt_iload_n C dX6_asks_6 rfl 3 rfl ?_
  refine tt_cVI C (CT_comm hi5 (c_X2_refusesAsk E (ub u 5 h) r g (r 0) (nI b) (nI d) s0 hi)) gX6_asks_X2_refusesAsk rfl ⟨rfl, rfl⟩ 3 (by decide +kernel) ⟨Nat.le_of_ble_eq_true rfl, Nat.le_of_ble_eq_true rfl⟩ rfl (oH0 hi) rfl (Nat.le_of_ble_eq_true rfl) dX6_asks_7 rfl ?_
  refine tt_istore (lv' := [(0, .ref (eA E 5 0)), (1, .int (nI b)), (2, .int (nI d)), (3, .int s0), (4, .int (H_rAsk g (nI b) (nI d) s0))]) C dX6_asks_10 (by decide) [1, 2, 3, 4, 0] rfl ?_
  refine tt_iload C dX6_asks_12 4 rfl ?_
  refine tt_if_eq C (tgt := 24) dX6_asks_14 (by decide) Iff.rfl (fun c_1 => ?_) (fun c_1 => ?_)
  · skip
    refine tt_aload_n C dX6_asks_24 rfl 0 rfl ?_
    refine tt_cVV C (c_X6_keepState_L E u r h g hr hrn hD hB hm f0) gX6_asks_X6_keepState rfl ⟨rfl, rfl⟩ 0 (by decide +kernel) ⟨Nat.le_of_ble_eq_true rfl, Nat.le_of_ble_eq_true rfl⟩ rfl oT0 rfl (Nat.le_of_ble_eq_true rfl) dX6_asks_25 rfl ?_
    generalize e_3 : up2 (up2 h 0 0 (nI 3)) 0 0 (nI 4) = h_2
    refine tt_aload_n C dX6_asks_28 rfl 0 rfl ?_
    refine tt_get (v := .ref (eA E (r 0) 0)) C oT0 rfl hin6 0 (by decide) (List.mem_of_getElem? (i := 1) (by decide +kernel)) rfl dX6_asks_29 ?_
    refine tt_iload_n C dX6_asks_32 rfl 1 rfl ?_
    refine tt_iload_n C dX6_asks_33 rfl 2 rfl ?_
    refine tt_iload_n C dX6_asks_34 rfl 3 rfl ?_
    refine tt_cVI C (CT_comm hi5 (c_X2_ask E (ub (kA u (r 1) g) 5 h_2) (kR r) g (r 0) b d s0 hi hb hd ho hm hn hw)) gX6_asks_X2_ask rfl ⟨rfl, rfl⟩ 3 (by decide +kernel) ⟨Nat.le_of_ble_eq_true rfl, Nat.le_of_ble_eq_true rfl⟩ rfl (oH0 hi) rfl (Nat.le_of_ble_eq_true rfl) dX6_asks_35 rfl ?_
    generalize e_5 : H_ask g b d s0 = h_4
    exact tt_iret K dX6_asks_38 (by subst e_3; subst e_5; rfl) (by subst e_3; subst e_5; rfl) rfl
  · skip
    exact absurd hr0 c_1

set_option maxHeartbeats 4000000 in
set_option maxRecDepth 100000 in
theorem c_X6_online_B (E : EN) (u : U3) (r : R1) (h : HB) (g : HB) (d : Int32) (s0 : Int32) (hi : r 0 < 5) (hi5 : r 0 ≠ 5) (hD : vI (g 1 0) 9) (hv : H_rOnline g d s0 = -2 ∨ H_rOnline g d s0 = -3 ∨ H_rOnline g d s0 = -4) (hr0 : ¬ H_rOnline g d s0 = 0) : CT E yX6_online wsX6_online (rmT 5 104) [.ref (eA E 5 0), .int d, .int s0] (ub (ub u (r 0) g) 5 h) r (some (.int (H_rOnline g d s0))) (ub (ub u (r 0) g) 5 (H_ref h (H_rOnline g d s0))) r := by
  refine CT_ofI (cc := cX6_online) (nL := 4) (own := RX6) (by decide) rfl rfl rfl (Nat.le_of_ble_eq_true rfl) (fun F C K => ?_)
  have hin6 : ∀ w ∈ u_ws RX6 TX6 8, w ∈ wsX6_online := by decide +kernel
  refine tt_to (lv1 := [(0, .ref (eA E 5 0)), (1, .int d), (2, .int s0)]) rfl rfl rfl rfl ?_
  refine tt_aload_n C dX6_online_0 rfl 0 rfl ?_
  refine tt_get (v := .ref (eA E (r 0) 0)) C oT0 rfl hin6 0 (by decide) (List.mem_of_getElem? (i := 1) (by decide +kernel)) rfl dX6_online_1 ?_
  refine tt_iload_n C dX6_online_4 rfl 1 rfl ?_
  refine tt_iload_n C dX6_online_5 rfl 2 rfl ?_
  refine tt_cVI C (CT_comm hi5 (c_X2_refusesOnline E (ub u 5 h) r g (r 0) d s0 hi hD)) gX6_online_X2_refusesOnline rfl ⟨rfl, rfl⟩ 2 (by decide +kernel) ⟨Nat.le_of_ble_eq_true rfl, Nat.le_of_ble_eq_true rfl⟩ rfl (oH0 hi) rfl (Nat.le_of_ble_eq_true rfl) dX6_online_6 rfl ?_
  refine tt_istore_n (lv' := [(0, .ref (eA E 5 0)), (1, .int d), (2, .int s0), (3, .int (H_rOnline g d s0))]) C dX6_online_9 rfl (by decide) [1, 2, 3, 0] rfl ?_
  refine tt_iload_n C dX6_online_10 rfl 3 rfl ?_
  refine tt_if_eq C (tgt := 20) dX6_online_11 (by decide) Iff.rfl (fun c_1 => ?_) (fun c_1 => ?_)
  · skip
    exact absurd c_1 hr0
  · skip
    refine tt_aload_n C dX6_online_14 rfl 0 rfl ?_
    refine tt_iload_n C dX6_online_15 rfl 3 rfl ?_
    refine tt_cVI C (c_X6_refuse E (ub u (r 0) g) r h (H_rOnline g d s0) hv) gX6_online_X6_refuse rfl ⟨rfl, rfl⟩ 1 (by decide +kernel) ⟨Nat.le_of_ble_eq_true rfl, Nat.le_of_ble_eq_true rfl⟩ rfl oT0 rfl (Nat.le_of_ble_eq_true rfl) dX6_online_16 rfl ?_
    generalize e_3 : H_ref h (H_rOnline g d s0) = h_2
    exact tt_iret K dX6_online_19 (by subst e_3; rfl) (by subst e_3; rfl) rfl

set_option maxHeartbeats 4000000 in
set_option maxRecDepth 100000 in
theorem c_X6_online_KA (E : EN) (u : U3) (r : R1) (h : HB) (g : HB) (d : Nat) (s : Nat) (hi : r 0 < 5) (hi5 : r 0 ≠ 5) (hr : ∀ j, j < 5 → r j < 5) (hrn : ∀ j, j < 4 → r 0 ≠ r (j + 1)) (hD : vI (g 1 0) 9) (hB : vI (g 18 0) 9) (hm : vI (g 25 0) 65) (f0 : h 0 0 = nI s) (hs : s < 4) (hr0 : H_rOnline g (nI d) (nI 1) = 0) (hd : d < 8) (hn : vI (g 12 d) 21) (hN : ∀ a, a < ix (g 12 d) → vI (g 14 (d * 20 + a)) 8) : CT E yX6_online wsX6_online (rmT 5 104) [.ref (eA E 5 0), .int (nI d), .int (nI 1)] (ub (ub u (r 0) g) 5 h) r (some (.int (nI (ix (g 12 d))))) (ub (ub (kA u (r (s + 1)) g) (r 0) (H_online g d)) 5 (up2 h 0 0 (nI (s + 1)))) r := by
  refine CT_ofI (cc := cX6_online) (nL := 4) (own := RX6) (by decide) rfl rfl rfl (Nat.le_of_ble_eq_true rfl) (fun F C K => ?_)
  have hin6 : ∀ w ∈ u_ws RX6 TX6 8, w ∈ wsX6_online := by decide +kernel
  refine tt_to (lv1 := [(0, .ref (eA E 5 0)), (1, .int (nI d)), (2, .int (nI 1))]) rfl rfl rfl rfl ?_
  refine tt_aload_n C dX6_online_0 rfl 0 rfl ?_
  refine tt_get (v := .ref (eA E (r 0) 0)) C oT0 rfl hin6 0 (by decide) (List.mem_of_getElem? (i := 1) (by decide +kernel)) rfl dX6_online_1 ?_
  refine tt_iload_n C dX6_online_4 rfl 1 rfl ?_
  refine tt_iload_n C dX6_online_5 rfl 2 rfl ?_
  refine tt_cVI C (CT_comm hi5 (c_X2_refusesOnline E (ub u 5 h) r g (r 0) (nI d) (nI 1) hi hD)) gX6_online_X2_refusesOnline rfl ⟨rfl, rfl⟩ 2 (by decide +kernel) ⟨Nat.le_of_ble_eq_true rfl, Nat.le_of_ble_eq_true rfl⟩ rfl (oH0 hi) rfl (Nat.le_of_ble_eq_true rfl) dX6_online_6 rfl ?_
  refine tt_istore_n (lv' := [(0, .ref (eA E 5 0)), (1, .int (nI d)), (2, .int (nI 1)), (3, .int (H_rOnline g (nI d) (nI 1)))]) C dX6_online_9 rfl (by decide) [1, 2, 3, 0] rfl ?_
  refine tt_iload_n C dX6_online_10 rfl 3 rfl ?_
  refine tt_if_eq C (tgt := 20) dX6_online_11 (by decide) Iff.rfl (fun c_1 => ?_) (fun c_1 => ?_)
  · skip
    refine tt_aload_n C dX6_online_20 rfl 0 rfl ?_
    refine tt_cVV C (c_X6_keepState_K E u r h g s hr hrn hD hB hm f0 hs) gX6_online_X6_keepState rfl ⟨rfl, rfl⟩ 0 (by decide +kernel) ⟨Nat.le_of_ble_eq_true rfl, Nat.le_of_ble_eq_true rfl⟩ rfl oT0 rfl (Nat.le_of_ble_eq_true rfl) dX6_online_21 rfl ?_
    generalize e_3 : up2 h 0 0 (nI (s + 1)) = h_2
    refine tt_aload_n C dX6_online_24 rfl 0 rfl ?_
    refine tt_get (v := .ref (eA E (r 0) 0)) C oT0 rfl hin6 0 (by decide) (List.mem_of_getElem? (i := 1) (by decide +kernel)) rfl dX6_online_25 ?_
    refine tt_iload_n C dX6_online_28 rfl 1 rfl ?_
    refine tt_iload_n C dX6_online_29 rfl 2 rfl ?_
    refine tt_cVI C (CT_comm hi5 (c_X2_changeOnline_A E (ub (kA u (r (s + 1)) g) 5 h_2) r g (r 0) d hi hd hn hN)) gX6_online_X2_changeOnline rfl ⟨rfl, rfl⟩ 2 (by decide +kernel) ⟨Nat.le_of_ble_eq_true rfl, Nat.le_of_ble_eq_true rfl⟩ rfl (oH0 hi) rfl (Nat.le_of_ble_eq_true rfl) dX6_online_30 rfl ?_
    generalize e_5 : H_online g d = h_4
    exact tt_iret K dX6_online_33 (by subst e_3; subst e_5; rfl) (by subst e_3; subst e_5; rfl) rfl
  · skip
    exact absurd hr0 c_1

set_option maxHeartbeats 4000000 in
set_option maxRecDepth 100000 in
theorem c_X6_online_LA (E : EN) (u : U3) (r : R1) (h : HB) (g : HB) (d : Nat) (hi : r 0 < 5) (hi5 : r 0 ≠ 5) (hr : ∀ j, j < 5 → r j < 5) (hrn : ∀ j, j < 4 → r 0 ≠ r (j + 1)) (hD : vI (g 1 0) 9) (hB : vI (g 18 0) 9) (hm : vI (g 25 0) 65) (f0 : h 0 0 = nI 4) (hr0 : H_rOnline g (nI d) (nI 1) = 0) (hd : d < 8) (hn : vI (g 12 d) 21) (hN : ∀ a, a < ix (g 12 d) → vI (g 14 (d * 20 + a)) 8) : CT E yX6_online wsX6_online (rmT 5 104) [.ref (eA E 5 0), .int (nI d), .int (nI 1)] (ub (ub u (r 0) g) 5 h) r (some (.int (nI (ix (g 12 d))))) (ub (ub (kA u (r 1) g) (r 0) (H_online g d)) 5 (up2 (up2 h 0 0 (nI 3)) 0 0 (nI 4))) (kR r) := by
  refine CT_ofI (cc := cX6_online) (nL := 4) (own := RX6) (by decide) rfl rfl rfl (Nat.le_of_ble_eq_true rfl) (fun F C K => ?_)
  have hin6 : ∀ w ∈ u_ws RX6 TX6 8, w ∈ wsX6_online := by decide +kernel
  refine tt_to (lv1 := [(0, .ref (eA E 5 0)), (1, .int (nI d)), (2, .int (nI 1))]) rfl rfl rfl rfl ?_
  refine tt_aload_n C dX6_online_0 rfl 0 rfl ?_
  refine tt_get (v := .ref (eA E (r 0) 0)) C oT0 rfl hin6 0 (by decide) (List.mem_of_getElem? (i := 1) (by decide +kernel)) rfl dX6_online_1 ?_
  refine tt_iload_n C dX6_online_4 rfl 1 rfl ?_
  refine tt_iload_n C dX6_online_5 rfl 2 rfl ?_
  refine tt_cVI C (CT_comm hi5 (c_X2_refusesOnline E (ub u 5 h) r g (r 0) (nI d) (nI 1) hi hD)) gX6_online_X2_refusesOnline rfl ⟨rfl, rfl⟩ 2 (by decide +kernel) ⟨Nat.le_of_ble_eq_true rfl, Nat.le_of_ble_eq_true rfl⟩ rfl (oH0 hi) rfl (Nat.le_of_ble_eq_true rfl) dX6_online_6 rfl ?_
  refine tt_istore_n (lv' := [(0, .ref (eA E 5 0)), (1, .int (nI d)), (2, .int (nI 1)), (3, .int (H_rOnline g (nI d) (nI 1)))]) C dX6_online_9 rfl (by decide) [1, 2, 3, 0] rfl ?_
  refine tt_iload_n C dX6_online_10 rfl 3 rfl ?_
  refine tt_if_eq C (tgt := 20) dX6_online_11 (by decide) Iff.rfl (fun c_1 => ?_) (fun c_1 => ?_)
  · skip
    refine tt_aload_n C dX6_online_20 rfl 0 rfl ?_
    refine tt_cVV C (c_X6_keepState_L E u r h g hr hrn hD hB hm f0) gX6_online_X6_keepState rfl ⟨rfl, rfl⟩ 0 (by decide +kernel) ⟨Nat.le_of_ble_eq_true rfl, Nat.le_of_ble_eq_true rfl⟩ rfl oT0 rfl (Nat.le_of_ble_eq_true rfl) dX6_online_21 rfl ?_
    generalize e_3 : up2 (up2 h 0 0 (nI 3)) 0 0 (nI 4) = h_2
    refine tt_aload_n C dX6_online_24 rfl 0 rfl ?_
    refine tt_get (v := .ref (eA E (r 0) 0)) C oT0 rfl hin6 0 (by decide) (List.mem_of_getElem? (i := 1) (by decide +kernel)) rfl dX6_online_25 ?_
    refine tt_iload_n C dX6_online_28 rfl 1 rfl ?_
    refine tt_iload_n C dX6_online_29 rfl 2 rfl ?_
    refine tt_cVI C (CT_comm hi5 (c_X2_changeOnline_A E (ub (kA u (r 1) g) 5 h_2) (kR r) g (r 0) d hi hd hn hN)) gX6_online_X2_changeOnline rfl ⟨rfl, rfl⟩ 2 (by decide +kernel) ⟨Nat.le_of_ble_eq_true rfl, Nat.le_of_ble_eq_true rfl⟩ rfl (oH0 hi) rfl (Nat.le_of_ble_eq_true rfl) dX6_online_30 rfl ?_
    generalize e_5 : H_online g d = h_4
    exact tt_iret K dX6_online_33 (by subst e_3; subst e_5; rfl) (by subst e_3; subst e_5; rfl) rfl
  · skip
    exact absurd hr0 c_1

set_option maxHeartbeats 4000000 in
set_option maxRecDepth 100000 in
theorem c_X6_online_KZ (E : EN) (u : U3) (r : R1) (h : HB) (g : HB) (d : Nat) (s : Nat) (hi : r 0 < 5) (hi5 : r 0 ≠ 5) (hr : ∀ j, j < 5 → r j < 5) (hrn : ∀ j, j < 4 → r 0 ≠ r (j + 1)) (hD : vI (g 1 0) 9) (hB : vI (g 18 0) 9) (hm : vI (g 25 0) 65) (f0 : h 0 0 = nI s) (hs : s < 4) (hr0 : H_rOnline g (nI d) (nI 0) = 0) (hd : d < 8) : CT E yX6_online wsX6_online (rmT 5 104) [.ref (eA E 5 0), .int (nI d), .int (nI 0)] (ub (ub u (r 0) g) 5 h) r (some (.int (nI 0))) (ub (ub (kA u (r (s + 1)) g) (r 0) (H_offline g d)) 5 (up2 h 0 0 (nI (s + 1)))) r := by
  refine CT_ofI (cc := cX6_online) (nL := 4) (own := RX6) (by decide) rfl rfl rfl (Nat.le_of_ble_eq_true rfl) (fun F C K => ?_)
  have hin6 : ∀ w ∈ u_ws RX6 TX6 8, w ∈ wsX6_online := by decide +kernel
  refine tt_to (lv1 := [(0, .ref (eA E 5 0)), (1, .int (nI d)), (2, .int (nI 0))]) rfl rfl rfl rfl ?_
  refine tt_aload_n C dX6_online_0 rfl 0 rfl ?_
  refine tt_get (v := .ref (eA E (r 0) 0)) C oT0 rfl hin6 0 (by decide) (List.mem_of_getElem? (i := 1) (by decide +kernel)) rfl dX6_online_1 ?_
  refine tt_iload_n C dX6_online_4 rfl 1 rfl ?_
  refine tt_iload_n C dX6_online_5 rfl 2 rfl ?_
  refine tt_cVI C (CT_comm hi5 (c_X2_refusesOnline E (ub u 5 h) r g (r 0) (nI d) (nI 0) hi hD)) gX6_online_X2_refusesOnline rfl ⟨rfl, rfl⟩ 2 (by decide +kernel) ⟨Nat.le_of_ble_eq_true rfl, Nat.le_of_ble_eq_true rfl⟩ rfl (oH0 hi) rfl (Nat.le_of_ble_eq_true rfl) dX6_online_6 rfl ?_
  refine tt_istore_n (lv' := [(0, .ref (eA E 5 0)), (1, .int (nI d)), (2, .int (nI 0)), (3, .int (H_rOnline g (nI d) (nI 0)))]) C dX6_online_9 rfl (by decide) [1, 2, 3, 0] rfl ?_
  refine tt_iload_n C dX6_online_10 rfl 3 rfl ?_
  refine tt_if_eq C (tgt := 20) dX6_online_11 (by decide) Iff.rfl (fun c_1 => ?_) (fun c_1 => ?_)
  · skip
    refine tt_aload_n C dX6_online_20 rfl 0 rfl ?_
    refine tt_cVV C (c_X6_keepState_K E u r h g s hr hrn hD hB hm f0 hs) gX6_online_X6_keepState rfl ⟨rfl, rfl⟩ 0 (by decide +kernel) ⟨Nat.le_of_ble_eq_true rfl, Nat.le_of_ble_eq_true rfl⟩ rfl oT0 rfl (Nat.le_of_ble_eq_true rfl) dX6_online_21 rfl ?_
    generalize e_3 : up2 h 0 0 (nI (s + 1)) = h_2
    refine tt_aload_n C dX6_online_24 rfl 0 rfl ?_
    refine tt_get (v := .ref (eA E (r 0) 0)) C oT0 rfl hin6 0 (by decide) (List.mem_of_getElem? (i := 1) (by decide +kernel)) rfl dX6_online_25 ?_
    refine tt_iload_n C dX6_online_28 rfl 1 rfl ?_
    refine tt_iload_n C dX6_online_29 rfl 2 rfl ?_
    refine tt_cVI C (CT_comm hi5 (c_X2_changeOnline_Z E (ub (kA u (r (s + 1)) g) 5 h_2) r g (r 0) d hi hd hB)) gX6_online_X2_changeOnline rfl ⟨rfl, rfl⟩ 2 (by decide +kernel) ⟨Nat.le_of_ble_eq_true rfl, Nat.le_of_ble_eq_true rfl⟩ rfl (oH0 hi) rfl (Nat.le_of_ble_eq_true rfl) dX6_online_30 rfl ?_
    generalize e_5 : H_offline g d = h_4
    exact tt_iret K dX6_online_33 (by subst e_3; subst e_5; rfl) (by subst e_3; subst e_5; rfl) rfl
  · skip
    exact absurd hr0 c_1

set_option maxHeartbeats 4000000 in
set_option maxRecDepth 100000 in
theorem c_X6_online_LZ (E : EN) (u : U3) (r : R1) (h : HB) (g : HB) (d : Nat) (hi : r 0 < 5) (hi5 : r 0 ≠ 5) (hr : ∀ j, j < 5 → r j < 5) (hrn : ∀ j, j < 4 → r 0 ≠ r (j + 1)) (hD : vI (g 1 0) 9) (hB : vI (g 18 0) 9) (hm : vI (g 25 0) 65) (f0 : h 0 0 = nI 4) (hr0 : H_rOnline g (nI d) (nI 0) = 0) (hd : d < 8) : CT E yX6_online wsX6_online (rmT 5 104) [.ref (eA E 5 0), .int (nI d), .int (nI 0)] (ub (ub u (r 0) g) 5 h) r (some (.int (nI 0))) (ub (ub (kA u (r 1) g) (r 0) (H_offline g d)) 5 (up2 (up2 h 0 0 (nI 3)) 0 0 (nI 4))) (kR r) := by
  refine CT_ofI (cc := cX6_online) (nL := 4) (own := RX6) (by decide) rfl rfl rfl (Nat.le_of_ble_eq_true rfl) (fun F C K => ?_)
  have hin6 : ∀ w ∈ u_ws RX6 TX6 8, w ∈ wsX6_online := by decide +kernel
  refine tt_to (lv1 := [(0, .ref (eA E 5 0)), (1, .int (nI d)), (2, .int (nI 0))]) rfl rfl rfl rfl ?_
  refine tt_aload_n C dX6_online_0 rfl 0 rfl ?_
  refine tt_get (v := .ref (eA E (r 0) 0)) C oT0 rfl hin6 0 (by decide) (List.mem_of_getElem? (i := 1) (by decide +kernel)) rfl dX6_online_1 ?_
  refine tt_iload_n C dX6_online_4 rfl 1 rfl ?_
  refine tt_iload_n C dX6_online_5 rfl 2 rfl ?_
  refine tt_cVI C (CT_comm hi5 (c_X2_refusesOnline E (ub u 5 h) r g (r 0) (nI d) (nI 0) hi hD)) gX6_online_X2_refusesOnline rfl ⟨rfl, rfl⟩ 2 (by decide +kernel) ⟨Nat.le_of_ble_eq_true rfl, Nat.le_of_ble_eq_true rfl⟩ rfl (oH0 hi) rfl (Nat.le_of_ble_eq_true rfl) dX6_online_6 rfl ?_
  refine tt_istore_n (lv' := [(0, .ref (eA E 5 0)), (1, .int (nI d)), (2, .int (nI 0)), (3, .int (H_rOnline g (nI d) (nI 0)))]) C dX6_online_9 rfl (by decide) [1, 2, 3, 0] rfl ?_
  refine tt_iload_n C dX6_online_10 rfl 3 rfl ?_
  refine tt_if_eq C (tgt := 20) dX6_online_11 (by decide) Iff.rfl (fun c_1 => ?_) (fun c_1 => ?_)
  · skip
    refine tt_aload_n C dX6_online_20 rfl 0 rfl ?_
    refine tt_cVV C (c_X6_keepState_L E u r h g hr hrn hD hB hm f0) gX6_online_X6_keepState rfl ⟨rfl, rfl⟩ 0 (by decide +kernel) ⟨Nat.le_of_ble_eq_true rfl, Nat.le_of_ble_eq_true rfl⟩ rfl oT0 rfl (Nat.le_of_ble_eq_true rfl) dX6_online_21 rfl ?_
    generalize e_3 : up2 (up2 h 0 0 (nI 3)) 0 0 (nI 4) = h_2
    refine tt_aload_n C dX6_online_24 rfl 0 rfl ?_
    refine tt_get (v := .ref (eA E (r 0) 0)) C oT0 rfl hin6 0 (by decide) (List.mem_of_getElem? (i := 1) (by decide +kernel)) rfl dX6_online_25 ?_
    refine tt_iload_n C dX6_online_28 rfl 1 rfl ?_
    refine tt_iload_n C dX6_online_29 rfl 2 rfl ?_
    refine tt_cVI C (CT_comm hi5 (c_X2_changeOnline_Z E (ub (kA u (r 1) g) 5 h_2) (kR r) g (r 0) d hi hd hB)) gX6_online_X2_changeOnline rfl ⟨rfl, rfl⟩ 2 (by decide +kernel) ⟨Nat.le_of_ble_eq_true rfl, Nat.le_of_ble_eq_true rfl⟩ rfl (oH0 hi) rfl (Nat.le_of_ble_eq_true rfl) dX6_online_30 rfl ?_
    generalize e_5 : H_offline g d = h_4
    exact tt_iret K dX6_online_33 (by subst e_3; subst e_5; rfl) (by subst e_3; subst e_5; rfl) rfl
  · skip
    exact absurd hr0 c_1
