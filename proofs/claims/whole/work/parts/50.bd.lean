def H_ref (h : HB) (v : Int32) : HB := if v = -2 then up2 h 0 1 (h 0 1 + nI 1) else if v = -3 then up2 h 0 2 (h 0 2 + nI 1) else up2 h 0 3 (h 0 3 + nI 1)

set_option maxHeartbeats 4000000 in
set_option maxRecDepth 100000 in
theorem c_X6_refuse (E : EN) (u : U3) (r : R1) (h : HB) (v : Int32) (hv : v = -2 ∨ v = -3 ∨ v = -4) : CT E yX6_refuse wsX6_refuse (rmT 0 0) [.ref (eA E 5 0), .int v] (ub u 5 h) r (some (.int (v))) (ub u 5 (H_ref h v)) r := by
  refine CT_ofI (cc := cX6_refuse) (nL := 2) (own := RX6) (by decide) rfl rfl rfl (Nat.le_of_ble_eq_true rfl) (fun F C K => ?_)
  have hin6 : ∀ w ∈ u_ws RX6 TX6 8, w ∈ wsX6_refuse := by decide +kernel
  refine tt_to (lv1 := [(0, .ref (eA E 5 0)), (1, .int v)]) rfl rfl rfl rfl ?_
  refine tt_iload_n C dX6_refuse_0 rfl 1 rfl ?_
  rcases (hv) with rfl | rfl | rfl
  · skip
    refine tt_look (off := 27) (tgt := 28) C dX6_refuse_1 (by decide) (by decide) (by decide) ?_
    refine tt_aload_n C dX6_refuse_28 rfl 0 rfl ?_
    refine tt_dup C dX6_refuse_29 rfl ?_
    refine tt_getI (v := h 0 1) C oT0 rfl hin6 5 (by decide) (List.mem_of_getElem? (i := 1) (by decide +kernel)) rfl (ub_v.trans rfl) dX6_refuse_30 ?_
    refine tt_iconst (v := nI 1) C dX6_refuse_33 (by decide) ?_
    refine tt_iadd C dX6_refuse_34 rfl ?_
    refine tt_putIB C fT0_1 rfl hin6 tyX6 tyX6_ok nmX6 (by decide) (List.mem_of_getElem? (i := 1) (by decide +kernel)) (by decide +kernel) (by decide +kernel) dX6_refuse_35 ?_
    generalize e_2 : up2 h 0 1 ((h 0 1) + (nI 1)) = h_1
    refine tt_goto (tgt := 64) C dX6_refuse_38 (by decide) ?_
    refine tt_iload_n C dX6_refuse_64 rfl 1 rfl ?_
    exact tt_iret K dX6_refuse_65 (by subst e_2; rfl) (by subst e_2; first | rfl | (simp []; done) | (refine congrArg _ ?_; grind [])) rfl
  · skip
    refine tt_look (off := 40) (tgt := 41) C dX6_refuse_1 (by decide) (by decide) (by decide) ?_
    refine tt_aload_n C dX6_refuse_41 rfl 0 rfl ?_
    refine tt_dup C dX6_refuse_42 rfl ?_
    refine tt_getI (v := h 0 2) C oT0 rfl hin6 6 (by decide) (List.mem_of_getElem? (i := 2) (by decide +kernel)) rfl (ub_v.trans rfl) dX6_refuse_43 ?_
    refine tt_iconst (v := nI 1) C dX6_refuse_46 (by decide) ?_
    refine tt_iadd C dX6_refuse_47 rfl ?_
    refine tt_putIB C fT0_2 rfl hin6 tyX6 tyX6_ok nmX6 (by decide) (List.mem_of_getElem? (i := 2) (by decide +kernel)) (by decide +kernel) (by decide +kernel) dX6_refuse_48 ?_
    generalize e_4 : up2 h 0 2 ((h 0 2) + (nI 1)) = h_3
    refine tt_goto (tgt := 64) C dX6_refuse_51 (by decide) ?_
    refine tt_iload_n C dX6_refuse_64 rfl 1 rfl ?_
    exact tt_iret K dX6_refuse_65 (by subst e_4; rfl) (by subst e_4; first | rfl | (simp []; done) | (refine congrArg _ ?_; grind [])) rfl
  · skip
    refine tt_look (off := 53) (tgt := 54) C dX6_refuse_1 (by decide) (by decide) (by decide) ?_
    refine tt_aload_n C dX6_refuse_54 rfl 0 rfl ?_
    refine tt_dup C dX6_refuse_55 rfl ?_
    refine tt_getI (v := h 0 3) C oT0 rfl hin6 7 (by decide) (List.mem_of_getElem? (i := 3) (by decide +kernel)) rfl (ub_v.trans rfl) dX6_refuse_56 ?_
    refine tt_iconst (v := nI 1) C dX6_refuse_59 (by decide) ?_
    refine tt_iadd C dX6_refuse_60 rfl ?_
    refine tt_putIB C fT0_3 rfl hin6 tyX6 tyX6_ok nmX6 (by decide) (List.mem_of_getElem? (i := 3) (by decide +kernel)) (by decide +kernel) (by decide +kernel) dX6_refuse_61 ?_
    generalize e_6 : up2 h 0 3 ((h 0 3) + (nI 1)) = h_5
    refine tt_iload_n C dX6_refuse_64 rfl 1 rfl ?_
    exact tt_iret K dX6_refuse_65 (by subst e_6; rfl) (by subst e_6; first | rfl | (simp []; done) | (refine congrArg _ ?_; grind [])) rfl

set_option maxHeartbeats 4000000 in
set_option maxRecDepth 100000 in
theorem c_X6_of_B (E : EN) (u : U3) (r : R1) (h : HB) (g : HB) (d : Int32) (w : Int32) (hi : r 0 < 5) (hi5 : r 0 ≠ 5) (hc : ¬ ((¬ d < 0 ∧ ¬ g 1 0 ≤ d) ∧ (¬ w < 0 ∧ ¬ nI 11 ≤ w))) : CT E yX6_of wsX6_of (rmT 2 43) [.ref (eA E 5 0), .int d, .int w] (ub (ub u (r 0) g) 5 h) r (some (.int (-2))) (ub (ub u (r 0) g) 5 (H_ref h (-2))) r := by
  refine CT_ofI (cc := cX6_of) (nL := 3) (own := RX6) (by decide) rfl rfl rfl (Nat.le_of_ble_eq_true rfl) (fun F C K => ?_)
  have hin6 : ∀ w ∈ u_ws RX6 TX6 8, w ∈ wsX6_of := by decide +kernel
  refine tt_to (lv1 := [(0, .ref (eA E 5 0)), (1, .int d), (2, .int w)]) rfl rfl rfl rfl ?_
  refine tt_aload_n C dX6_of_0 rfl 0 rfl ?_
  refine tt_get (v := .ref (eA E (r 0) 0)) C oT0 rfl hin6 0 (by decide) (List.mem_of_getElem? (i := 1) (by decide +kernel)) rfl dX6_of_1 ?_
  refine tt_iload_n C dX6_of_4 rfl 1 rfl ?_
  refine tt_cVI C (CT_comm hi5 (c_X2_hasDoor E (ub u 5 h) r g (r 0) d hi)) gX6_of_X2_hasDoor rfl ⟨rfl, rfl⟩ 1 (by decide +kernel) ⟨Nat.le_of_ble_eq_true rfl, Nat.le_of_ble_eq_true rfl⟩ rfl (oH0 hi) rfl (Nat.le_of_ble_eq_true rfl) dX6_of_5 rfl ?_
  refine tt_if_eqB C (tgt := 20) dX6_of_8 (by decide) (fun c_1 => ?_) (fun c_1 => ?_)
  · skip
    refine tt_aload_n C dX6_of_20 rfl 0 rfl ?_
    refine tt_bipush (v := (-2 : Int32)) C dX6_of_21 (by decide) ?_
    refine tt_cVI C (c_X6_refuse E (ub u (r 0) g) r h (-2 : Int32) (by decide)) gX6_of_X6_refuse rfl ⟨rfl, rfl⟩ 1 (by decide +kernel) ⟨Nat.le_of_ble_eq_true rfl, Nat.le_of_ble_eq_true rfl⟩ rfl oT0 rfl (Nat.le_of_ble_eq_true rfl) dX6_of_23 rfl ?_
    generalize e_3 : H_ref h (-2 : Int32) = h_2
    exact tt_iret K dX6_of_26 (by subst e_3; rfl) (by subst e_3; rfl) rfl
  · skip
    refine tt_iload_n C dX6_of_11 rfl 2 rfl ?_
    refine tt_bipush (v := nI 11) C dX6_of_12 (by decide) ?_
    refine tt_cSI C (c_X6_isBelow E (ub (ub u (r 0) g) 5 h) r w (nI 11)) gX6_of_X6_isBelow rfl ⟨rfl, rfl⟩ 2 (by decide +kernel) ⟨Nat.le_of_ble_eq_true rfl, Nat.le_of_ble_eq_true rfl⟩ rfl (Nat.le_of_ble_eq_true rfl) dX6_of_14 rfl ?_
    refine tt_if_neB C (tgt := 27) dX6_of_17 (by decide) (fun c_4 => ?_) (fun c_4 => ?_)
    · skip
      exact absurd ⟨(by assumption), c_4⟩ hc
    · skip
      refine tt_aload_n C dX6_of_20 rfl 0 rfl ?_
      refine tt_bipush (v := (-2 : Int32)) C dX6_of_21 (by decide) ?_
      refine tt_cVI C (c_X6_refuse E (ub u (r 0) g) r h (-2 : Int32) (by decide)) gX6_of_X6_refuse rfl ⟨rfl, rfl⟩ 1 (by decide +kernel) ⟨Nat.le_of_ble_eq_true rfl, Nat.le_of_ble_eq_true rfl⟩ rfl oT0 rfl (Nat.le_of_ble_eq_true rfl) dX6_of_23 rfl ?_
      generalize e_6 : H_ref h (-2 : Int32) = h_5
      exact tt_iret K dX6_of_26 (by subst e_6; rfl) (by subst e_6; rfl) rfl
