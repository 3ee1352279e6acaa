set_option maxHeartbeats 4000000 in
set_option maxRecDepth 100000 in
theorem c_X6_back_B (E : EN) (u : U3) (r : R1) (h : HB)  (f0 : h 0 0 = nI 0) : CT E yX6_back wsX6_back (rmT 1 21) [.ref (eA E 5 0)] (ub u 5 h) r (some (.int (-3))) (ub u 5 (H_ref h (-3))) r := by
  refine CT_ofI (cc := cX6_back) (nL := 2) (own := RX6) (by decide) rfl rfl rfl (Nat.le_of_ble_eq_true rfl) (fun F C K => ?_)
  have hin6 : ∀ w ∈ u_ws RX6 TX6 8, w ∈ wsX6_back := by decide +kernel
  refine tt_to (lv1 := [(0, .ref (eA E 5 0))]) rfl rfl rfl rfl ?_
  refine tt_aload_n C dX6_back_0 rfl 0 rfl ?_
  refine tt_getI (v := nI 0) C oT0 rfl hin6 2 (by decide) (List.mem_of_getElem? (i := 1) (by decide +kernel)) rfl (ub_v.trans f0) dX6_back_1 ?_
  refine tt_if_gt C (tgt := 14) dX6_back_4 (by decide) (nI_gt0 (by omega)) (fun c_1 => ?_) (fun c_1 => ?_)
  · skip
    exact absurd c_1 (by decide)
  · skip
    refine tt_aload_n C dX6_back_7 rfl 0 rfl ?_
    refine tt_bipush (v := (-3 : Int32)) C dX6_back_8 (by decide) ?_
    refine tt_cVI C (c_X6_refuse E u r h (-3 : Int32) (by decide)) gX6_back_X6_refuse rfl ⟨rfl, rfl⟩ 1 (by decide +kernel) ⟨Nat.le_of_ble_eq_true rfl, Nat.le_of_ble_eq_true rfl⟩ rfl oT0 rfl (Nat.le_of_ble_eq_true rfl) dX6_back_10 rfl ?_
    generalize e_3 : H_ref h (-3 : Int32) = h_2
    exact tt_iret K dX6_back_13 (by subst e_3; rfl) (by subst e_3; rfl) rfl

set_option maxHeartbeats 4000000 in
set_option maxRecDepth 100000 in
theorem c_X6_back_O (E : EN) (u : U3) (r : R1) (h : HB) (s : Nat) (hi : r 0 < 5) (f0 : h 0 0 = nI s) (hs0 : 0 < s) (hs : s ≤ 4) : CT E yX6_back wsX6_back (rmT 1 21) [.ref (eA E 5 0)] (ub u 5 h) r (some (.int (nI (s - 1)))) (ub u 5 (up2 h 0 0 (nI (s - 1)))) (upr (upr r (s - 1 + 1) (r 0)) 0 (r (s - 1 + 1))) := by
  refine CT_ofI (cc := cX6_back) (nL := 2) (own := RX6) (by decide) rfl rfl rfl (Nat.le_of_ble_eq_true rfl) (fun F C K => ?_)
  have hin6 : ∀ w ∈ u_ws RX6 TX6 8, w ∈ wsX6_back := by decide +kernel
  refine tt_to (lv1 := [(0, .ref (eA E 5 0))]) rfl rfl rfl rfl ?_
  refine tt_aload_n C dX6_back_0 rfl 0 rfl ?_
  refine tt_getI (v := nI s) C oT0 rfl hin6 2 (by decide) (List.mem_of_getElem? (i := 1) (by decide +kernel)) rfl (ub_v.trans f0) dX6_back_1 ?_
  refine tt_if_gt C (tgt := 14) dX6_back_4 (by decide) (nI_gt0 (by omega)) (fun c_1 => ?_) (fun c_1 => ?_)
  · skip
    refine tt_aload_n C dX6_back_14 rfl 0 rfl ?_
    refine tt_dup C dX6_back_15 rfl ?_
    refine tt_getI (v := nI s) C oT0 rfl hin6 2 (by decide) (List.mem_of_getElem? (i := 1) (by decide +kernel)) rfl (ub_v.trans f0) dX6_back_16 ?_
    refine tt_iconst (v := nI 1) C dX6_back_19 (by decide) ?_
    refine tt_isub (v := nI (s - 1)) C dX6_back_20 (pk_sub (by omega)) ?_
    refine tt_putIB C fT0_0 rfl hin6 tyX6 tyX6_ok nmX6 (by decide) (List.mem_of_getElem? (i := 1) (by decide +kernel)) (by decide +kernel) (by decide +kernel) dX6_back_21 ?_
    generalize e_3 : up2 h 0 0 (nI (s - 1)) = h_2
    refine tt_aload_n C dX6_back_24 rfl 0 rfl ?_
    refine tt_get (v := .ref (eA E 5 1)) C oT0 rfl hin6 1 (by decide) (List.mem_of_getElem? (i := 2) (by decide +kernel)) rfl dX6_back_25 ?_
    refine tt_aload_n C dX6_back_28 rfl 0 rfl ?_
    refine tt_getI (v := nI (s - 1)) C oT0 rfl hin6 2 (by decide) (List.mem_of_getElem? (i := 1) (by decide +kernel)) rfl (ub_v.trans (by rw [← e_3]; exact up2_s _ _ _ _)) dX6_back_29 ?_
    refine tt_aaldK C (s - 1) rfl (by omega) dX6_back_32 ?_
    refine tt_astore_n (lv' := [(0, .ref (eA E 5 0)), (1, .ref (eA E (r (s - 1 + 1)) 0))]) C dX6_back_33 rfl (by decide) [1, 0] rfl ?_
    refine tt_aload_n C dX6_back_34 rfl 0 rfl ?_
    refine tt_get (v := .ref (eA E 5 1)) C oT0 rfl hin6 1 (by decide) (List.mem_of_getElem? (i := 2) (by decide +kernel)) rfl dX6_back_35 ?_
    refine tt_aload_n C dX6_back_38 rfl 0 rfl ?_
    refine tt_getI (v := nI (s - 1)) C oT0 rfl hin6 2 (by decide) (List.mem_of_getElem? (i := 1) (by decide +kernel)) rfl (ub_v.trans (by rw [← e_3]; exact up2_s _ _ _ _)) dX6_back_39 ?_
    refine tt_aload_n C dX6_back_42 rfl 0 rfl ?_
    refine tt_get (v := .ref (eA E (r 0) 0)) C oT0 rfl hin6 0 (by decide) (List.mem_of_getElem? (i := 3) (by decide +kernel)) rfl dX6_back_43 ?_
    refine tt_aastK C (s - 1) (r 0) hi rfl (by omega) dX6_back_46 ?_
    refine tt_aload_n C dX6_back_47 rfl 0 rfl ?_
    refine tt_aload_n C dX6_back_48 rfl 1 rfl ?_
    refine tt_putNow C (r (s - 1 + 1)) rfl hin6 tyX6 tyX6_ok nmX6 (List.mem_of_getElem? (i := 3) (by decide +kernel)) (by decide +kernel) (by decide +kernel) dX6_back_49 ?_
    refine tt_aload_n C dX6_back_52 rfl 0 rfl ?_
    refine tt_getI (v := nI (s - 1)) C oT0 rfl hin6 2 (by decide) (List.mem_of_getElem? (i := 1) (by decide +kernel)) rfl (ub_v.trans (by rw [← e_3]; exact up2_s _ _ _ _)) dX6_back_53 ?_
    exact tt_iret K dX6_back_56 (by subst e_3; rfl) (by subst e_3; rfl) rfl
  · skip
    exact absurd hs0 c_1
