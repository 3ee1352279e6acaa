set_option maxHeartbeats 4000000 in
set_option maxRecDepth 100000 in
theorem c_X6_clear (E : EN) (u : U3) (r : R1) (h : HB)   : CT E yX6_clear wsX6_clear (rmT 1 21) [.ref (eA E 5 0)] (ub u 5 h) r (some (.int (h 2 0))) (ub u 5 (up2 h 2 0 (nI 0))) r := by
  refine CT_ofI (cc := cX6_clear) (nL := 1) (own := RX6) (by decide) rfl rfl rfl (Nat.le_of_ble_eq_true rfl) (fun F C K => ?_)
  have hin6 : ∀ w ∈ u_ws RX6 TX6 8, w ∈ wsX6_clear := by decide +kernel
  refine tt_to (lv1 := [(0, .ref (eA E 5 0))]) rfl rfl rfl rfl ?_
  refine tt_aload_n C dX6_clear_0 rfl 0 rfl ?_
  refine tt_get (v := .ref (eA E 5 2)) C oT0 rfl hin6 3 (by decide) (List.mem_of_getElem? (i := 1) (by decide +kernel)) rfl dX6_clear_1 ?_
  refine tt_cVI C (c_X4_empty E u r h) gX6_clear_X4_empty rfl ⟨rfl, rfl⟩ 0 (by decide +kernel) ⟨Nat.le_of_ble_eq_true rfl, Nat.le_of_ble_eq_true rfl⟩ rfl oT2 rfl (Nat.le_of_ble_eq_true rfl) dX6_clear_4 rfl ?_
  generalize e_2 : up2 h 2 0 (nI 0) = h_1
  exact tt_iret K dX6_clear_7 (by subst e_2; rfl) (by subst e_2; rfl) rfl

set_option maxHeartbeats 4000000 in
set_option maxRecDepth 100000 in
theorem c_X6_type_B (E : EN) (u : U3) (r : R1) (h : HB) (c : Int32) (hc : ¬ (¬ c < 0 ∧ c ≤ nI 127)) : CT E yX6_type wsX6_type (rmT 1 21) [.ref (eA E 5 0), .int c] (ub u 5 h) r (some (.int (-2))) (ub u 5 (H_ref h (-2))) r := by
  refine CT_ofI (cc := cX6_type) (nL := 2) (own := RX6) (by decide) rfl rfl rfl (Nat.le_of_ble_eq_true rfl) (fun F C K => ?_)
  refine tt_to (lv1 := [(0, .ref (eA E 5 0)), (1, .int c)]) rfl rfl rfl rfl ?_
  refine tt_iload_n C dX6_type_0 rfl 1 rfl ?_
  refine tt_if_lt C (tgt := 10) dX6_type_1 (by decide) Iff.rfl (fun c_1 => ?_) (fun c_1 => ?_)
  · skip
    refine tt_aload_n C dX6_type_10 rfl 0 rfl ?_
    refine tt_bipush (v := (-2 : Int32)) C dX6_type_11 (by decide) ?_
    refine tt_cVI C (c_X6_refuse E u r h (-2 : Int32) (by decide)) gX6_type_X6_refuse rfl ⟨rfl, rfl⟩ 1 (by decide +kernel) ⟨Nat.le_of_ble_eq_true rfl, Nat.le_of_ble_eq_true rfl⟩ rfl oT0 rfl (Nat.le_of_ble_eq_true rfl) dX6_type_13 rfl ?_
    generalize e_3 : H_ref h (-2 : Int32) = h_2
    exact tt_iret K dX6_type_16 (by subst e_3; rfl) (by subst e_3; rfl) rfl
  · skip
    refine tt_iload_n C dX6_type_4 rfl 1 rfl ?_
    refine tt_bipush (v := nI 127) C dX6_type_5 (by decide) ?_
    refine tt_icmp_le C (tgt := 17) dX6_type_7 (by decide) Iff.rfl (fun c_4 => ?_) (fun c_4 => ?_)
    · skip
      exact absurd ⟨(by assumption), c_4⟩ hc
    · skip
      refine tt_aload_n C dX6_type_10 rfl 0 rfl ?_
      refine tt_bipush (v := (-2 : Int32)) C dX6_type_11 (by decide) ?_
      refine tt_cVI C (c_X6_refuse E u r h (-2 : Int32) (by decide)) gX6_type_X6_refuse rfl ⟨rfl, rfl⟩ 1 (by decide +kernel) ⟨Nat.le_of_ble_eq_true rfl, Nat.le_of_ble_eq_true rfl⟩ rfl oT0 rfl (Nat.le_of_ble_eq_true rfl) dX6_type_13 rfl ?_
      generalize e_6 : H_ref h (-2 : Int32) = h_5
      exact tt_iret K dX6_type_16 (by subst e_6; rfl) (by subst e_6; rfl) rfl

set_option maxHeartbeats 4000000 in
set_option maxRecDepth 100000 in
theorem c_X6_type_F (E : EN) (u : U3) (r : R1) (h : HB) (c : Int32) (hc : ¬ c < 0 ∧ c ≤ nI 127) (hf : h 2 0 = nI 150) : CT E yX6_type wsX6_type (rmT 1 21) [.ref (eA E 5 0), .int c] (ub u 5 h) r (some (.int (-4))) (ub u 5 (H_ref h (-4))) r := by
  refine CT_ofI (cc := cX6_type) (nL := 2) (own := RX6) (by decide) rfl rfl rfl (Nat.le_of_ble_eq_true rfl) (fun F C K => ?_)
  have hin4 : ∀ w ∈ u_ws RX4 TX4 5, w ∈ wsX6_type := by decide +kernel
  have hin6 : ∀ w ∈ u_ws RX6 TX6 8, w ∈ wsX6_type := by decide +kernel
  refine tt_to (lv1 := [(0, .ref (eA E 5 0)), (1, .int c)]) rfl rfl rfl rfl ?_
  refine tt_iload_n C dX6_type_0 rfl 1 rfl ?_
  refine tt_if_lt C (tgt := 10) dX6_type_1 (by decide) Iff.rfl (fun c_1 => ?_) (fun c_1 => ?_)
  · skip
    exact absurd c_1 hc.1
  · skip
    refine tt_iload_n C dX6_type_4 rfl 1 rfl ?_
    refine tt_bipush (v := nI 127) C dX6_type_5 (by decide) ?_
    refine tt_icmp_le C (tgt := 17) dX6_type_7 (by decide) Iff.rfl (fun c_2 => ?_) (fun c_2 => ?_)
    · skip
      refine tt_aload_n C dX6_type_17 rfl 0 rfl ?_
      refine tt_get (v := .ref (eA E 5 2)) C oT0 rfl hin6 3 (by decide) (List.mem_of_getElem? (i := 1) (by decide +kernel)) rfl dX6_type_18 ?_
      refine tt_getI (v := nI 150) C oT2 rfl hin4 0 (by decide) (List.mem_of_getElem? (i := 2) (by decide +kernel)) rfl (ub_v.trans hf) dX6_type_21 ?_
      refine tt_sipush (v := nI 150) C dX6_type_24 (by decide) ?_
      refine tt_icmp_lt C (tgt := 37) dX6_type_27 (by decide) (nI_ltI (by omega) (by omega)) (fun c_3 => ?_) (fun c_3 => ?_)
      · skip
        exact absurd c_3 (by decide)
      · skip
        refine tt_aload_n C dX6_type_30 rfl 0 rfl ?_
        refine tt_bipush (v := (-4 : Int32)) C dX6_type_31 (by decide) ?_
        refine tt_cVI C (c_X6_refuse E u r h (-4 : Int32) (by decide)) gX6_type_X6_refuse rfl ⟨rfl, rfl⟩ 1 (by decide +kernel) ⟨Nat.le_of_ble_eq_true rfl, Nat.le_of_ble_eq_true rfl⟩ rfl oT0 rfl (Nat.le_of_ble_eq_true rfl) dX6_type_33 rfl ?_
        generalize e_5 : H_ref h (-4 : Int32) = h_4
        exact tt_iret K dX6_type_36 (by subst e_5; rfl) (by subst e_5; rfl) rfl
    · skip
      exact absurd hc.2 c_2

set_option maxHeartbeats 4000000 in
set_option maxRecDepth 100000 in
theorem c_X6_type_O (E : EN) (u : U3) (r : R1) (h : HB) (c : Int32) (L : Nat) (hc : ¬ c < 0 ∧ c ≤ nI 127) (fl : h 2 0 = nI L) (hL : L < 150) : CT E yX6_type wsX6_type (rmT 1 21) [.ref (eA E 5 0), .int c] (ub u 5 h) r (some (.int (nI (L + 1)))) (ub u 5 (up2 (up2 h 4 L c) 2 0 (nI (L + 1)))) r := by
  refine CT_ofI (cc := cX6_type) (nL := 2) (own := RX6) (by decide) rfl rfl rfl (Nat.le_of_ble_eq_true rfl) (fun F C K => ?_)
  have hin4 : ∀ w ∈ u_ws RX4 TX4 5, w ∈ wsX6_type := by decide +kernel
  have hin6 : ∀ w ∈ u_ws RX6 TX6 8, w ∈ wsX6_type := by decide +kernel
  refine tt_to (lv1 := [(0, .ref (eA E 5 0)), (1, .int c)]) rfl rfl rfl rfl ?_
  refine tt_iload_n C dX6_type_0 rfl 1 rfl ?_
  refine tt_if_lt C (tgt := 10) dX6_type_1 (by decide) Iff.rfl (fun c_1 => ?_) (fun c_1 => ?_)
  · skip
    exact absurd c_1 hc.1
  · skip
    refine tt_iload_n C dX6_type_4 rfl 1 rfl ?_
    refine tt_bipush (v := nI 127) C dX6_type_5 (by decide) ?_
    refine tt_icmp_le C (tgt := 17) dX6_type_7 (by decide) Iff.rfl (fun c_2 => ?_) (fun c_2 => ?_)
    · skip
      refine tt_aload_n C dX6_type_17 rfl 0 rfl ?_
      refine tt_get (v := .ref (eA E 5 2)) C oT0 rfl hin6 3 (by decide) (List.mem_of_getElem? (i := 1) (by decide +kernel)) rfl dX6_type_18 ?_
      refine tt_getI (v := nI L) C oT2 rfl hin4 0 (by decide) (List.mem_of_getElem? (i := 2) (by decide +kernel)) rfl (ub_v.trans fl) dX6_type_21 ?_
      refine tt_sipush (v := nI 150) C dX6_type_24 (by decide) ?_
      refine tt_icmp_lt C (tgt := 37) dX6_type_27 (by decide) (nI_ltI (by omega) (by omega)) (fun c_3 => ?_) (fun c_3 => ?_)
      · skip
        refine tt_aload_n C dX6_type_37 rfl 0 rfl ?_
        refine tt_get (v := .ref (eA E 5 2)) C oT0 rfl hin6 3 (by decide) (List.mem_of_getElem? (i := 1) (by decide +kernel)) rfl dX6_type_38 ?_
        refine tt_iload_n C dX6_type_41 rfl 1 rfl ?_
        refine tt_cVI C (c_X4_append E u r h c L fl hL) gX6_type_X4_append rfl ⟨rfl, rfl⟩ 1 (by decide +kernel) ⟨Nat.le_of_ble_eq_true rfl, Nat.le_of_ble_eq_true rfl⟩ rfl oT2 rfl (Nat.le_of_ble_eq_true rfl) dX6_type_42 rfl ?_
        generalize e_5 : up2 (up2 h 4 L c) 2 0 (nI (L + 1)) = h_4
        exact tt_iret K dX6_type_45 (by subst e_5; rfl) (by subst e_5; rfl) rfl
      · skip
        exact absurd (by omega) c_3
    · skip
      exact absurd hc.2 c_2

set_option maxHeartbeats 4000000 in
set_option maxRecDepth 100000 in
theorem c_X6_orderBadge_B (E : EN) (u : U3) (r : R1) (h : HB) (g : HB) (v : Int32) (hi : r 0 < 5) (hi5 : r 0 ≠ 5) (hr : ¬ H_rBadge g v = 0) : CT E yX6_orderBadge wsX6_orderBadge (rmT 2 41) [.ref (eA E 5 0), .int v] (ub (ub u (r 0) g) 5 h) r (some (.int (b2i (False)))) (ub (ub u (r 0) g) 5 h) r := by
  refine CT_ofI (cc := cX6_orderBadge) (nL := 3) (own := RX6) (by decide) rfl rfl (b2i_z _) (Nat.le_of_ble_eq_true rfl) (fun F C K => ?_)
  have hin6 : ∀ w ∈ u_ws RX6 TX6 8, w ∈ wsX6_orderBadge := by decide +kernel
  refine tt_to (lv1 := [(0, .ref (eA E 5 0)), (1, .int v)]) rfl rfl rfl rfl ?_
  refine tt_aload_n C dX6_orderBadge_0 rfl 0 rfl ?_
  refine tt_get (v := .ref (eA E (r 0) 0)) C oT0 rfl hin6 0 (by decide) (List.mem_of_getElem? (i := 1) (by decide +kernel)) rfl dX6_orderBadge_1 ?_
  refine tt_iload_n C dX6_orderBadge_4 rfl 1 rfl ?_
  refine tt_cVI C (CT_comm hi5 (c_X2_refusesBadge E (ub u 5 h) r g (r 0) v hi)) gX6_orderBadge_X2_refusesBadge rfl ⟨rfl, rfl⟩ 1 (by decide +kernel) ⟨Nat.le_of_ble_eq_true rfl, Nat.le_of_ble_eq_true rfl⟩ rfl (oH0 hi) rfl (Nat.le_of_ble_eq_true rfl) dX6_orderBadge_5 rfl ?_
  refine tt_if_ne C (tgt := 15) dX6_orderBadge_8 (by decide) Iff.rfl (fun c_1 => ?_) (fun c_1 => ?_)
  · skip
    refine tt_iconst (v := nI 0) C dX6_orderBadge_15 (by decide) ?_
    refine tt_istore_n (lv' := [(0, .ref (eA E 5 0)), (1, .int v), (2, .int (nI 0))]) C dX6_orderBadge_16 rfl (by decide) [1, 2, 0] rfl ?_
    refine tt_iload_n C dX6_orderBadge_17 rfl 2 rfl ?_
    refine tt_if_eq C (tgt := 33) dX6_orderBadge_18 (by decide) (nI_eq0 (by omega)) (fun c_2 => ?_) (fun c_2 => ?_)
    · skip
      refine tt_iload_n C dX6_orderBadge_33 rfl 2 rfl ?_
      exact tt_iret K dX6_orderBadge_34 (by exact b1_f (by first | (simp only [c_1, c_2, not_false_eq_true, not_true_eq_false, and_true, true_and, and_false, false_and, and_self, or_true, true_or, or_false, false_or, or_self, if_true, if_false]; done) | grind)) (by first | rfl | (simp [c_1, c_2]; done) | (refine congrArg _ ?_; grind [])) rfl
    · skip
      exact absurd (by decide) c_2
  · skip
    exact absurd c_1 hr

set_option maxHeartbeats 4000000 in
set_option maxRecDepth 100000 in
theorem c_X6_orderBadge_O (E : EN) (u : U3) (r : R1) (h : HB) (g : HB) (v : Int32) (hi : r 0 < 5) (hi5 : r 0 ≠ 5) (hr : H_rBadge g v = 0) (hm : vI (g 18 0) 8) : CT E yX6_orderBadge wsX6_orderBadge (rmT 2 41) [.ref (eA E 5 0), .int v] (ub (ub u (r 0) g) 5 h) r (some (.int (b2i (True)))) (ub (ub u (r 0) (H_badd g v)) 5 h) r := by
  refine CT_ofI (cc := cX6_orderBadge) (nL := 3) (own := RX6) (by decide) rfl rfl (b2i_z _) (Nat.le_of_ble_eq_true rfl) (fun F C K => ?_)
  have hin2 : ∀ w ∈ u_ws RX2 TX2 8, w ∈ wsX6_orderBadge := by decide +kernel
  have hin6 : ∀ w ∈ u_ws RX6 TX6 8, w ∈ wsX6_orderBadge := by decide +kernel
  refine tt_to (lv1 := [(0, .ref (eA E 5 0)), (1, .int v)]) rfl rfl rfl rfl ?_
  refine tt_aload_n C dX6_orderBadge_0 rfl 0 rfl ?_
  refine tt_get (v := .ref (eA E (r 0) 0)) C oT0 rfl hin6 0 (by decide) (List.mem_of_getElem? (i := 1) (by decide +kernel)) rfl dX6_orderBadge_1 ?_
  refine tt_iload_n C dX6_orderBadge_4 rfl 1 rfl ?_
  refine tt_cVI C (CT_comm hi5 (c_X2_refusesBadge E (ub u 5 h) r g (r 0) v hi)) gX6_orderBadge_X2_refusesBadge rfl ⟨rfl, rfl⟩ 1 (by decide +kernel) ⟨Nat.le_of_ble_eq_true rfl, Nat.le_of_ble_eq_true rfl⟩ rfl (oH0 hi) rfl (Nat.le_of_ble_eq_true rfl) dX6_orderBadge_5 rfl ?_
  refine tt_if_ne C (tgt := 15) dX6_orderBadge_8 (by decide) Iff.rfl (fun c_1 => ?_) (fun c_1 => ?_)
  · skip
    exact absurd hr c_1
  · skip
    refine tt_iconst (v := nI 1) C dX6_orderBadge_11 (by decide) ?_
    refine tt_goto (tgt := 16) C dX6_orderBadge_12 (by decide) ?_
    refine tt_istore_n (lv' := [(0, .ref (eA E 5 0)), (1, .int v), (2, .int (nI 1))]) C dX6_orderBadge_16 rfl (by decide) [1, 2, 0] rfl ?_
    refine tt_iload_n C dX6_orderBadge_17 rfl 2 rfl ?_
    refine tt_if_eq C (tgt := 33) dX6_orderBadge_18 (by decide) (nI_eq0 (by omega)) (fun c_2 => ?_) (fun c_2 => ?_)
    · skip
      exact absurd c_2 (by decide)
    · skip
      refine tt_aload_n C dX6_orderBadge_21 rfl 0 rfl ?_
      refine tt_get (v := .ref (eA E (r 0) 0)) C oT0 rfl hin6 0 (by decide) (List.mem_of_getElem? (i := 1) (by decide +kernel)) rfl dX6_orderBadge_22 ?_
      refine tt_get (v := .ref (eA E (r 0) 18)) C (oH0 hi) rfl hin2 1 (by decide) (List.mem_of_getElem? (i := 2) (by decide +kernel)) rfl dX6_orderBadge_25 ?_
      refine tt_iload_n C dX6_orderBadge_28 rfl 1 rfl ?_
      refine tt_cVI C (CT_comm hi5 (c_X0_add E (ub u 5 h) r g (r 0) v hi hm)) gX6_orderBadge_X0_add rfl ⟨rfl, rfl⟩ 1 (by decide +kernel) ⟨Nat.le_of_ble_eq_true rfl, Nat.le_of_ble_eq_true rfl⟩ rfl (oH18 hi) rfl (Nat.le_of_ble_eq_true rfl) dX6_orderBadge_29 rfl ?_
      generalize e_4 : H_badd g v = h_3
      refine tt_pop C dX6_orderBadge_32 rfl ?_
      refine tt_iload_n C dX6_orderBadge_33 rfl 2 rfl ?_
      exact tt_iret K dX6_orderBadge_34 (by subst e_4; exact b1_t (by first | (simp only [c_1, c_2, not_false_eq_true, not_true_eq_false, and_true, true_and, and_false, false_and, and_self, or_true, true_or, or_false, false_or, or_self, if_true, if_false]; done) | grind)) (by subst e_4; rfl) rfl

set_option maxHeartbeats 4000000 in
set_option maxRecDepth 100000 in
theorem c_X6_orderDoor_B (E : EN) (u : U3) (r : R1) (h : HB) (g : HB) (f : Int32) (t : Int32) (a : Int32) (b : Int32) (hi : r 0 < 5) (hi5 : r 0 ≠ 5) (hr : ¬ H_rDoor g f t a b = 0) : CT E yX6_orderDoor wsX6_orderDoor (rmT 3 65) [.ref (eA E 5 0), .int f, .int t, .int a, .int b] (ub (ub u (r 0) g) 5 h) r (some (.int (b2i (False)))) (ub (ub u (r 0) g) 5 h) r := by
  refine CT_ofI (cc := cX6_orderDoor) (nL := 6) (own := RX6) (by decide) rfl rfl (b2i_z _) (Nat.le_of_ble_eq_true rfl) (fun F C K => ?_)
  have hin6 : ∀ w ∈ u_ws RX6 TX6 8, w ∈ wsX6_orderDoor := by decide +kernel
  refine tt_to (lv1 := [(0, .ref (eA E 5 0)), (1, .int f), (2, .int t), (3, .int a), (4, .int b)]) rfl rfl rfl rfl ?_
  refine tt_aload_n C dX6_orderDoor_0 rfl 0 rfl ?_
  refine tt_get (v := .ref (eA E (r 0) 0)) C oT0 rfl hin6 0 (by decide) (List.mem_of_getElem? (i := 1) (by decide +kernel)) rfl dX6_orderDoor_1 ?_
  refine tt_iload_n C dX6_orderDoor_4 rfl 1 rfl ?_
  refine tt_iload_n C dX6_orderDoor_5 rfl 2 rfl ?_
  refine tt_iload_n C dX6_orderDoor_6 rfl 3 rfl ?_
  refine tt_iload C dX6_orderDoor_7 4 rfl ?_
  refine tt_cVI C (CT_comm hi5 (c_X2_refusesDoor E (ub u 5 h) r g (r 0) f t a b hi)) gX6_orderDoor_X2_refusesDoor rfl ⟨rfl, rfl⟩ 4 (by decide +kernel) ⟨Nat.le_of_ble_eq_true rfl, Nat.le_of_ble_eq_true rfl⟩ rfl (oH0 hi) rfl (Nat.le_of_ble_eq_true rfl) dX6_orderDoor_9 rfl ?_
  refine tt_if_ne C (tgt := 19) dX6_orderDoor_12 (by decide) Iff.rfl (fun c_1 => ?_) (fun c_1 => ?_)
  · skip
    refine tt_iconst (v := nI 0) C dX6_orderDoor_19 (by decide) ?_
    refine tt_istore (lv' := [(0, .ref (eA E 5 0)), (1, .int f), (2, .int t), (3, .int a), (4, .int b), (5, .int (nI 0))]) C dX6_orderDoor_20 (by decide) [1, 2, 3, 4, 5, 0] rfl ?_
    refine tt_iload C dX6_orderDoor_22 5 rfl ?_
    refine tt_if_eq C (tgt := 43) dX6_orderDoor_24 (by decide) (nI_eq0 (by omega)) (fun c_2 => ?_) (fun c_2 => ?_)
    · skip
      refine tt_iload C dX6_orderDoor_43 5 rfl ?_
      exact tt_iret K dX6_orderDoor_45 (by exact b1_f (by first | (simp only [c_1, c_2, not_false_eq_true, not_true_eq_false, and_true, true_and, and_false, false_and, and_self, or_true, true_or, or_false, false_or, or_self, if_true, if_false]; done) | grind)) (by first | rfl | (simp [c_1, c_2]; done) | (refine congrArg _ ?_; grind [])) rfl
    · skip
      exact absurd (by decide) c_2
  · skip
    exact absurd c_1 hr

set_option maxHeartbeats 4000000 in
set_option maxRecDepth 100000 in
theorem c_X6_orderDoor_O (E : EN) (u : U3) (r : R1) (h : HB) (g : HB) (f : Int32) (t : Int32) (a : Int32) (b : Int32) (hi : r 0 < 5) (hi5 : r 0 ≠ 5) (hr : H_rDoor g f t a b = 0) (hm : vI (g 1 0) 8) : CT E yX6_orderDoor wsX6_orderDoor (rmT 3 65) [.ref (eA E 5 0), .int f, .int t, .int a, .int b] (ub (ub u (r 0) g) 5 h) r (some (.int (b2i (True)))) (ub (ub u (r 0) (H_dadd g f t a b)) 5 h) r := by
  refine CT_ofI (cc := cX6_orderDoor) (nL := 6) (own := RX6) (by decide) rfl rfl (b2i_z _) (Nat.le_of_ble_eq_true rfl) (fun F C K => ?_)
  have hin2 : ∀ w ∈ u_ws RX2 TX2 8, w ∈ wsX6_orderDoor := by decide +kernel
  have hin6 : ∀ w ∈ u_ws RX6 TX6 8, w ∈ wsX6_orderDoor := by decide +kernel
  refine tt_to (lv1 := [(0, .ref (eA E 5 0)), (1, .int f), (2, .int t), (3, .int a), (4, .int b)]) rfl rfl rfl rfl ?_
  refine tt_aload_n C dX6_orderDoor_0 rfl 0 rfl ?_
  refine tt_get (v := .ref (eA E (r 0) 0)) C oT0 rfl hin6 0 (by decide) (List.mem_of_getElem? (i := 1) (by decide +kernel)) rfl dX6_orderDoor_1 ?_
  refine tt_iload_n C dX6_orderDoor_4 rfl 1 rfl ?_
  refine tt_iload_n C dX6_orderDoor_5 rfl 2 rfl ?_
  refine tt_iload_n C dX6_orderDoor_6 rfl 3 rfl ?_
  refine tt_iload C dX6_orderDoor_7 4 rfl ?_
  refine tt_cVI C (CT_comm hi5 (c_X2_refusesDoor E (ub u 5 h) r g (r 0) f t a b hi)) gX6_orderDoor_X2_refusesDoor rfl ⟨rfl, rfl⟩ 4 (by decide +kernel) ⟨Nat.le_of_ble_eq_true rfl, Nat.le_of_ble_eq_true rfl⟩ rfl (oH0 hi) rfl (Nat.le_of_ble_eq_true rfl) dX6_orderDoor_9 rfl ?_
  refine tt_if_ne C (tgt := 19) dX6_orderDoor_12 (by decide) Iff.rfl (fun c_1 => ?_) (fun c_1 => ?_)
  · skip
    exact absurd hr c_1
  · skip
    refine tt_iconst (v := nI 1) C dX6_orderDoor_15 (by decide) ?_
    refine tt_goto (tgt := 20) C dX6_orderDoor_16 (by decide) ?_
    refine tt_istore (lv' := [(0, .ref (eA E 5 0)), (1, .int f), (2, .int t), (3, .int a), (4, .int b), (5, .int (nI 1))]) C dX6_orderDoor_20 (by decide) [1, 2, 3, 4, 5, 0] rfl ?_
    refine tt_iload C dX6_orderDoor_22 5 rfl ?_
    refine tt_if_eq C (tgt := 43) dX6_orderDoor_24 (by decide) (nI_eq0 (by omega)) (fun c_2 => ?_) (fun c_2 => ?_)
    · skip
      exact absurd c_2 (by decide)
    · skip
      refine tt_aload_n C dX6_orderDoor_27 rfl 0 rfl ?_
      refine tt_get (v := .ref (eA E (r 0) 0)) C oT0 rfl hin6 0 (by decide) (List.mem_of_getElem? (i := 1) (by decide +kernel)) rfl dX6_orderDoor_28 ?_
      refine tt_get (v := .ref (eA E (r 0) 1)) C (oH0 hi) rfl hin2 0 (by decide) (List.mem_of_getElem? (i := 2) (by decide +kernel)) rfl dX6_orderDoor_31 ?_
      refine tt_iload_n C dX6_orderDoor_34 rfl 1 rfl ?_
      refine tt_iload_n C dX6_orderDoor_35 rfl 2 rfl ?_
      refine tt_iload_n C dX6_orderDoor_36 rfl 3 rfl ?_
      refine tt_iload C dX6_orderDoor_37 4 rfl ?_
      refine tt_cVI C (CT_comm hi5 (c_X1_add E (ub u 5 h) r g (r 0) f t a b hi hm)) gX6_orderDoor_X1_add rfl ⟨rfl, rfl⟩ 4 (by decide +kernel) ⟨Nat.le_of_ble_eq_true rfl, Nat.le_of_ble_eq_true rfl⟩ rfl (oH1 hi) rfl (Nat.le_of_ble_eq_true rfl) dX6_orderDoor_39 rfl ?_
      generalize e_4 : H_dadd g f t a b = h_3
      refine tt_pop C dX6_orderDoor_42 rfl ?_
      refine tt_iload C dX6_orderDoor_43 5 rfl ?_
      exact tt_iret K dX6_orderDoor_45 (by subst e_4; exact b1_t (by first | (simp only [c_1, c_2, not_false_eq_true, not_true_eq_false, and_true, true_and, and_false, false_and, and_self, or_true, true_or, or_false, false_or, or_self, if_true, if_false]; done) | grind)) (by subst e_4; rfl) rfl

set_option maxHeartbeats 4000000 in
set_option maxRecDepth 100000 in
theorem c_X6_orderAsk_B (E : EN) (u : U3) (r : R1) (h : HB) (g : HB) (b : Int32) (d : Int32) (s : Int32) (hi : r 0 < 5) (hi5 : r 0 ≠ 5) (hr : ¬ H_rAsk g b d s = 0) : CT E yX6_orderAsk wsX6_orderAsk (rmT 4 93) [.ref (eA E 5 0), .int b, .int d, .int s] (ub (ub u (r 0) g) 5 h) r (some (.int (b2i (False)))) (ub (ub u (r 0) g) 5 h) r := by
  refine CT_ofI (cc := cX6_orderAsk) (nL := 5) (own := RX6) (by decide) rfl rfl (b2i_z _) (Nat.le_of_ble_eq_true rfl) (fun F C K => ?_)
  have hin6 : ∀ w ∈ u_ws RX6 TX6 8, w ∈ wsX6_orderAsk := by decide +kernel
  refine tt_to (lv1 := [(0, .ref (eA E 5 0)), (1, .int b), (2, .int d), (3, .int s)]) rfl rfl rfl rfl ?_
  refine tt_aload_n C dX6_orderAsk_0 rfl 0 rfl ?_
  refine tt_get (v := .ref (eA E (r 0) 0)) C oT0 rfl hin6 0 (by decide) (List.mem_of_getElem? (i := 1) (by decide +kernel)) rfl dX6_orderAsk_1 ?_
  refine tt_iload_n C dX6_orderAsk_4 rfl 1 rfl ?_
  refine tt_iload_n C dX6_orderAsk_5 rfl 2 rfl ?_
  refine tt_iload_n C dX6_orderAsk_6 rfl 3 rfl ?_
  refine tt_cVI C (CT_comm hi5 (c_X2_refusesAsk E (ub u 5 h) r g (r 0) b d s hi)) gX6_orderAsk_X2_refusesAsk rfl ⟨rfl, rfl⟩ 3 (by decide +kernel) ⟨Nat.le_of_ble_eq_true rfl, Nat.le_of_ble_eq_true rfl⟩ rfl (oH0 hi) rfl (Nat.le_of_ble_eq_true rfl) dX6_orderAsk_7 rfl ?_
  refine tt_if_ne C (tgt := 17) dX6_orderAsk_10 (by decide) Iff.rfl (fun c_1 => ?_) (fun c_1 => ?_)
  · skip
    refine tt_iconst (v := nI 0) C dX6_orderAsk_17 (by decide) ?_
    refine tt_istore (lv' := [(0, .ref (eA E 5 0)), (1, .int b), (2, .int d), (3, .int s), (4, .int (nI 0))]) C dX6_orderAsk_18 (by decide) [1, 2, 3, 4, 0] rfl ?_
    refine tt_iload C dX6_orderAsk_20 4 rfl ?_
    refine tt_if_eq C (tgt := 36) dX6_orderAsk_22 (by decide) (nI_eq0 (by omega)) (fun c_2 => ?_) (fun c_2 => ?_)
    · skip
      refine tt_iload C dX6_orderAsk_36 4 rfl ?_
      exact tt_iret K dX6_orderAsk_38 (by exact b1_f (by first | (simp only [c_1, c_2, not_false_eq_true, not_true_eq_false, and_true, true_and, and_false, false_and, and_self, or_true, true_or, or_false, false_or, or_self, if_true, if_false]; done) | grind)) (by first | rfl | (simp [c_1, c_2]; done) | (refine congrArg _ ?_; grind [])) rfl
    · skip
      exact absurd (by decide) c_2
  · skip
    exact absurd c_1 hr

set_option maxHeartbeats 4000000 in
set_option maxRecDepth 100000 in
theorem c_X6_orderAsk_O (E : EN) (u : U3) (r : R1) (h : HB) (g : HB) (b : Nat) (d : Nat) (s : Int32) (hi : r 0 < 5) (hi5 : r 0 ≠ 5) (hr : H_rAsk g (nI b) (nI d) s = 0) (hb : b < 8) (hd : d < 8) (ho : g 8 d = -1 ∨ vI (g 8 d) 8) (hm : vI (g 25 0) 65) (hn : vI (g 12 d) 21) (hw : g 11 d = -1 ∨ vI (g 11 d) 8) : CT E yX6_orderAsk wsX6_orderAsk (rmT 4 93) [.ref (eA E 5 0), .int (nI b), .int (nI d), .int s] (ub (ub u (r 0) g) 5 h) r (some (.int (b2i (True)))) (ub (ub u (r 0) (H_ask g b d s)) 5 h) r := by
  refine CT_ofI (cc := cX6_orderAsk) (nL := 5) (own := RX6) (by decide) rfl rfl (b2i_z _) (Nat.le_of_ble_eq_true rfl) (fun F C K => ?_)
  have hin6 : ∀ w ∈ u_ws RX6 TX6 8, w ∈ wsX6_orderAsk := by decide +kernel
  refine tt_to (lv1 := [(0, .ref (eA E 5 0)), (1, .int (nI b)), (2, .int (nI d)), (3, .int s)]) rfl rfl rfl rfl ?_
  refine tt_aload_n C dX6_orderAsk_0 rfl 0 rfl ?_
  refine tt_get (v := .ref (eA E (r 0) 0)) C oT0 rfl hin6 0 (by decide) (List.mem_of_getElem? (i := 1) (by decide +kernel)) rfl dX6_orderAsk_1 ?_
  refine tt_iload_n C dX6_orderAsk_4 rfl 1 rfl ?_
  refine tt_iload_n C dX6_orderAsk_5 rfl 2 rfl ?_
  refine tt_iload_n C dX6_orderAsk_6 rfl 3 rfl ?_
  refine tt_cVI C (CT_comm hi5 (c_X2_refusesAsk E (ub u 5 h) r g (r 0) (nI b) (nI d) s hi)) gX6_orderAsk_X2_refusesAsk rfl ⟨rfl, rfl⟩ 3 (by decide +kernel) ⟨Nat.le_of_ble_eq_true rfl, Nat.le_of_ble_eq_true rfl⟩ rfl (oH0 hi) rfl (Nat.le_of_ble_eq_true rfl) dX6_orderAsk_7 rfl ?_
  refine tt_if_ne C (tgt := 17) dX6_orderAsk_10 (by decide) Iff.rfl (fun c_1 => ?_) (fun c_1 => ?_)
  · skip
    exact absurd hr c_1
  · skip
    refine tt_iconst (v := nI 1) C dX6_orderAsk_13 (by decide) ?_
    refine tt_goto (tgt := 18) C dX6_orderAsk_14 (by decide) ?_
    refine tt_istore (lv' := [(0, .ref (eA E 5 0)), (1, .int (nI b)), (2, .int (nI d)), (3, .int s), (4, .int (nI 1))]) C dX6_orderAsk_18 (by decide) [1, 2, 3, 4, 0] rfl ?_
    refine tt_iload C dX6_orderAsk_20 4 rfl ?_
    refine tt_if_eq C (tgt := 36) dX6_orderAsk_22 (by decide) (nI_eq0 (by omega)) (fun c_2 => ?_) (fun c_2 => ?_)
    · skip
      exact absurd c_2 (by decide)
    · skip
      refine tt_aload_n C dX6_orderAsk_25 rfl 0 rfl ?_
      refine tt_get (v := .ref (eA E (r 0) 0)) C oT0 rfl hin6 0 (by decide) (List.mem_of_getElem? (i := 1) (by decide +kernel)) rfl dX6_orderAsk_26 ?_
      refine tt_iload_n C dX6_orderAsk_29 rfl 1 rfl ?_
      refine tt_iload_n C dX6_orderAsk_30 rfl 2 rfl ?_
      refine tt_iload_n C dX6_orderAsk_31 rfl 3 rfl ?_
      refine tt_cVI C (CT_comm hi5 (c_X2_ask E (ub u 5 h) r g (r 0) b d s hi hb hd ho hm hn hw)) gX6_orderAsk_X2_ask rfl ⟨rfl, rfl⟩ 3 (by decide +kernel) ⟨Nat.le_of_ble_eq_true rfl, Nat.le_of_ble_eq_true rfl⟩ rfl (oH0 hi) rfl (Nat.le_of_ble_eq_true rfl) dX6_orderAsk_32 rfl ?_
      generalize e_4 : H_ask g b d s = h_3
      refine tt_pop C dX6_orderAsk_35 rfl ?_
      refine tt_iload C dX6_orderAsk_36 4 rfl ?_
      exact tt_iret K dX6_orderAsk_38 (by subst e_4; exact b1_t (by first | (simp only [c_1, c_2, not_false_eq_true, not_true_eq_false, and_true, true_and, and_false, false_and, and_self, or_true, true_or, or_false, false_or, or_self, if_true, if_false]; done) | grind)) (by subst e_4; rfl) rfl

set_option maxHeartbeats 4000000 in
set_option maxRecDepth 100000 in
theorem c_X6_orderWait_B (E : EN) (u : U3) (r : R1) (h : HB) (g : HB) (n : Int32) (hi : r 0 < 5) (hi5 : r 0 ≠ 5) (hr : ¬ H_rWait n = 0) : CT E yX6_orderWait wsX6_orderWait (rmT 2 42) [.ref (eA E 5 0), .int n] (ub (ub u (r 0) g) 5 h) r (some (.int (b2i (False)))) (ub (ub u (r 0) g) 5 h) r := by
  refine CT_ofI (cc := cX6_orderWait) (nL := 3) (own := RX6) (by decide) rfl rfl (b2i_z _) (Nat.le_of_ble_eq_true rfl) (fun F C K => ?_)
  have hin6 : ∀ w ∈ u_ws RX6 TX6 8, w ∈ wsX6_orderWait := by decide +kernel
  refine tt_to (lv1 := [(0, .ref (eA E 5 0)), (1, .int n)]) rfl rfl rfl rfl ?_
  refine tt_aload_n C dX6_orderWait_0 rfl 0 rfl ?_
  refine tt_get (v := .ref (eA E (r 0) 0)) C oT0 rfl hin6 0 (by decide) (List.mem_of_getElem? (i := 1) (by decide +kernel)) rfl dX6_orderWait_1 ?_
  refine tt_iload_n C dX6_orderWait_4 rfl 1 rfl ?_
  refine tt_cVI C (CT_comm hi5 (c_X2_refusesWait E (ub u 5 h) r g (r 0) n hi)) gX6_orderWait_X2_refusesWait rfl ⟨rfl, rfl⟩ 1 (by decide +kernel) ⟨Nat.le_of_ble_eq_true rfl, Nat.le_of_ble_eq_true rfl⟩ rfl (oH0 hi) rfl (Nat.le_of_ble_eq_true rfl) dX6_orderWait_5 rfl ?_
  refine tt_if_ne C (tgt := 15) dX6_orderWait_8 (by decide) Iff.rfl (fun c_1 => ?_) (fun c_1 => ?_)
  · skip
    refine tt_iconst (v := nI 0) C dX6_orderWait_15 (by decide) ?_
    refine tt_istore_n (lv' := [(0, .ref (eA E 5 0)), (1, .int n), (2, .int (nI 0))]) C dX6_orderWait_16 rfl (by decide) [1, 2, 0] rfl ?_
    refine tt_iload_n C dX6_orderWait_17 rfl 2 rfl ?_
    refine tt_if_eq C (tgt := 30) dX6_orderWait_18 (by decide) (nI_eq0 (by omega)) (fun c_2 => ?_) (fun c_2 => ?_)
    · skip
      refine tt_iload_n C dX6_orderWait_30 rfl 2 rfl ?_
      exact tt_iret K dX6_orderWait_31 (by exact b1_f (by first | (simp only [c_1, c_2, not_false_eq_true, not_true_eq_false, and_true, true_and, and_false, false_and, and_self, or_true, true_or, or_false, false_or, or_self, if_true, if_false]; done) | grind)) (by first | rfl | (simp [c_1, c_2]; done) | (refine congrArg _ ?_; grind [])) rfl
    · skip
      exact absurd (by decide) c_2
  · skip
    exact absurd c_1 hr

set_option maxHeartbeats 4000000 in
set_option maxRecDepth 100000 in
theorem c_X6_orderWait_O (E : EN) (u : U3) (r : R1) (h : HB) (g : HB) (n : Int32) (hi : r 0 < 5) (hi5 : r 0 ≠ 5) (hr : H_rWait n = 0) (hD : vI (g 1 0) 9) : CT E yX6_orderWait wsX6_orderWait (rmT 2 42) [.ref (eA E 5 0), .int n] (ub (ub u (r 0) g) 5 h) r (some (.int (b2i (True)))) (ub (ub u (r 0) (H_wait g n)) 5 h) r := by
  refine CT_ofI (cc := cX6_orderWait) (nL := 3) (own := RX6) (by decide) rfl rfl (b2i_z _) (Nat.le_of_ble_eq_true rfl) (fun F C K => ?_)
  have hin6 : ∀ w ∈ u_ws RX6 TX6 8, w ∈ wsX6_orderWait := by decide +kernel
  refine tt_to (lv1 := [(0, .ref (eA E 5 0)), (1, .int n)]) rfl rfl rfl rfl ?_
  refine tt_aload_n C dX6_orderWait_0 rfl 0 rfl ?_
  refine tt_get (v := .ref (eA E (r 0) 0)) C oT0 rfl hin6 0 (by decide) (List.mem_of_getElem? (i := 1) (by decide +kernel)) rfl dX6_orderWait_1 ?_
  refine tt_iload_n C dX6_orderWait_4 rfl 1 rfl ?_
  refine tt_cVI C (CT_comm hi5 (c_X2_refusesWait E (ub u 5 h) r g (r 0) n hi)) gX6_orderWait_X2_refusesWait rfl ⟨rfl, rfl⟩ 1 (by decide +kernel) ⟨Nat.le_of_ble_eq_true rfl, Nat.le_of_ble_eq_true rfl⟩ rfl (oH0 hi) rfl (Nat.le_of_ble_eq_true rfl) dX6_orderWait_5 rfl ?_
  refine tt_if_ne C (tgt := 15) dX6_orderWait_8 (by decide) Iff.rfl (fun c_1 => ?_) (fun c_1 => ?_)
  · skip
    exact absurd hr c_1
  · skip
    refine tt_iconst (v := nI 1) C dX6_orderWait_11 (by decide) ?_
    refine tt_goto (tgt := 16) C dX6_orderWait_12 (by decide) ?_
    refine tt_istore_n (lv' := [(0, .ref (eA E 5 0)), (1, .int n), (2, .int (nI 1))]) C dX6_orderWait_16 rfl (by decide) [1, 2, 0] rfl ?_
    refine tt_iload_n C dX6_orderWait_17 rfl 2 rfl ?_
    refine tt_if_eq C (tgt := 30) dX6_orderWait_18 (by decide) (nI_eq0 (by omega)) (fun c_2 => ?_) (fun c_2 => ?_)
    · skip
      exact absurd c_2 (by decide)
    · skip
      refine tt_aload_n C dX6_orderWait_21 rfl 0 rfl ?_
      refine tt_get (v := .ref (eA E (r 0) 0)) C oT0 rfl hin6 0 (by decide) (List.mem_of_getElem? (i := 1) (by decide +kernel)) rfl dX6_orderWait_22 ?_
      refine tt_iload_n C dX6_orderWait_25 rfl 1 rfl ?_
      refine tt_cVI C (CT_comm hi5 (c_X2_letTimeGoBy E (ub u 5 h) r g (r 0) n hi hD)) gX6_orderWait_X2_letTimeGoBy rfl ⟨rfl, rfl⟩ 1 (by decide +kernel) ⟨Nat.le_of_ble_eq_true rfl, Nat.le_of_ble_eq_true rfl⟩ rfl (oH0 hi) rfl (Nat.le_of_ble_eq_true rfl) dX6_orderWait_26 rfl ?_
      generalize e_4 : H_wait g n = h_3
      refine tt_pop C dX6_orderWait_29 rfl ?_
      refine tt_iload_n C dX6_orderWait_30 rfl 2 rfl ?_
      exact tt_iret K dX6_orderWait_31 (by subst e_4; exact b1_t (by first | (simp only [c_1, c_2, not_false_eq_true, not_true_eq_false, and_true, true_and, and_false, false_and, and_self, or_true, true_or, or_false, false_or, or_self, if_true, if_false]; done) | grind)) (by subst e_4; rfl) rfl

set_option maxHeartbeats 4000000 in
set_option maxRecDepth 100000 in
theorem c_X6_orderOnline_B (E : EN) (u : U3) (r : R1) (h : HB) (g : HB) (d : Int32) (s : Int32) (hi : r 0 < 5) (hi5 : r 0 ≠ 5) (hD : vI (g 1 0) 9) (hr : ¬ H_rOnline g d s = 0) : CT E yX6_orderOnline wsX6_orderOnline (rmT 4 92) [.ref (eA E 5 0), .int d, .int s] (ub (ub u (r 0) g) 5 h) r (some (.int (b2i (False)))) (ub (ub u (r 0) g) 5 h) r := by
  refine CT_ofI (cc := cX6_orderOnline) (nL := 4) (own := RX6) (by decide) rfl rfl (b2i_z _) (Nat.le_of_ble_eq_true rfl) (fun F C K => ?_)
  have hin6 : ∀ w ∈ u_ws RX6 TX6 8, w ∈ wsX6_orderOnline := by decide +kernel
  refine tt_to (lv1 := [(0, .ref (eA E 5 0)), (1, .int d), (2, .int s)]) rfl rfl rfl rfl ?_
  refine tt_aload_n C dX6_orderOnline_0 rfl 0 rfl ?_
  refine tt_get (v := .ref (eA E (r 0) 0)) C oT0 rfl hin6 0 (by decide) (List.mem_of_getElem? (i := 1) (by decide +kernel)) rfl dX6_orderOnline_1 ?_
  refine tt_iload_n C dX6_orderOnline_4 rfl 1 rfl ?_
  refine tt_iload_n C dX6_orderOnline_5 rfl 2 rfl ?_
  refine tt_cVI C (CT_comm hi5 (c_X2_refusesOnline E (ub u 5 h) r g (r 0) d s hi hD)) gX6_orderOnline_X2_refusesOnline rfl ⟨rfl, rfl⟩ 2 (by decide +kernel) ⟨Nat.le_of_ble_eq_true rfl, Nat.le_of_ble_eq_true rfl⟩ rfl (oH0 hi) rfl (Nat.le_of_ble_eq_true rfl) dX6_orderOnline_6 rfl ?_
  refine tt_if_ne C (tgt := 16) dX6_orderOnline_9 (by decide) Iff.rfl (fun c_1 => ?_) (fun c_1 => ?_)
  · skip
    refine tt_iconst (v := nI 0) C dX6_orderOnline_16 (by decide) ?_
    refine tt_istore_n (lv' := [(0, .ref (eA E 5 0)), (1, .int d), (2, .int s), (3, .int (nI 0))]) C dX6_orderOnline_17 rfl (by decide) [1, 2, 3, 0] rfl ?_
    refine tt_iload_n C dX6_orderOnline_18 rfl 3 rfl ?_
    refine tt_if_eq C (tgt := 32) dX6_orderOnline_19 (by decide) (nI_eq0 (by omega)) (fun c_2 => ?_) (fun c_2 => ?_)
    · skip
      refine tt_iload_n C dX6_orderOnline_32 rfl 3 rfl ?_
      exact tt_iret K dX6_orderOnline_33 (by exact b1_f (by first | (simp only [c_1, c_2, not_false_eq_true, not_true_eq_false, and_true, true_and, and_false, false_and, and_self, or_true, true_or, or_false, false_or, or_self, if_true, if_false]; done) | grind)) (by first | rfl | (simp [c_1, c_2]; done) | (refine congrArg _ ?_; grind [])) rfl
    · skip
      exact absurd (by decide) c_2
  · skip
    exact absurd c_1 hr

set_option maxHeartbeats 4000000 in
set_option maxRecDepth 100000 in
theorem c_X6_orderOnline_A (E : EN) (u : U3) (r : R1) (h : HB) (g : HB) (d : Nat) (hi : r 0 < 5) (hi5 : r 0 ≠ 5) (hD : vI (g 1 0) 9) (hr : H_rOnline g (nI d) (nI 1) = 0) (hd : d < 8) (hn : vI (g 12 d) 21) (hN : ∀ a, a < ix (g 12 d) → vI (g 14 (d * 20 + a)) 8) : CT E yX6_orderOnline wsX6_orderOnline (rmT 4 92) [.ref (eA E 5 0), .int (nI d), .int (nI 1)] (ub (ub u (r 0) g) 5 h) r (some (.int (b2i (True)))) (ub (ub u (r 0) (H_online g d)) 5 h) r := by
  refine CT_ofI (cc := cX6_orderOnline) (nL := 4) (own := RX6) (by decide) rfl rfl (b2i_z _) (Nat.le_of_ble_eq_true rfl) (fun F C K => ?_)
  have hin6 : ∀ w ∈ u_ws RX6 TX6 8, w ∈ wsX6_orderOnline := by decide +kernel
  refine tt_to (lv1 := [(0, .ref (eA E 5 0)), (1, .int (nI d)), (2, .int (nI 1))]) rfl rfl rfl rfl ?_
  refine tt_aload_n C dX6_orderOnline_0 rfl 0 rfl ?_
  refine tt_get (v := .ref (eA E (r 0) 0)) C oT0 rfl hin6 0 (by decide) (List.mem_of_getElem? (i := 1) (by decide +kernel)) rfl dX6_orderOnline_1 ?_
  refine tt_iload_n C dX6_orderOnline_4 rfl 1 rfl ?_
  refine tt_iload_n C dX6_orderOnline_5 rfl 2 rfl ?_
  refine tt_cVI C (CT_comm hi5 (c_X2_refusesOnline E (ub u 5 h) r g (r 0) (nI d) (nI 1) hi hD)) gX6_orderOnline_X2_refusesOnline rfl ⟨rfl, rfl⟩ 2 (by decide +kernel) ⟨Nat.le_of_ble_eq_true rfl, Nat.le_of_ble_eq_true rfl⟩ rfl (oH0 hi) rfl (Nat.le_of_ble_eq_true rfl) dX6_orderOnline_6 rfl ?_
  refine tt_if_ne C (tgt := 16) dX6_orderOnline_9 (by decide) Iff.rfl (fun c_1 => ?_) (fun c_1 => ?_)
  · skip
    exact absurd hr c_1
  · skip
    refine tt_iconst (v := nI 1) C dX6_orderOnline_12 (by decide) ?_
    refine tt_goto (tgt := 17) C dX6_orderOnline_13 (by decide) ?_
    refine tt_istore_n (lv' := [(0, .ref (eA E 5 0)), (1, .int (nI d)), (2, .int (nI 1)), (3, .int (nI 1))]) C dX6_orderOnline_17 rfl (by decide) [1, 2, 3, 0] rfl ?_
    refine tt_iload_n C dX6_orderOnline_18 rfl 3 rfl ?_
    refine tt_if_eq C (tgt := 32) dX6_orderOnline_19 (by decide) (nI_eq0 (by omega)) (fun c_2 => ?_) (fun c_2 => ?_)
    · skip
      exact absurd c_2 (by decide)
    · skip
      refine tt_aload_n C dX6_orderOnline_22 rfl 0 rfl ?_
      refine tt_get (v := .ref (eA E (r 0) 0)) C oT0 rfl hin6 0 (by decide) (List.mem_of_getElem? (i := 1) (by decide +kernel)) rfl dX6_orderOnline_23 ?_
      refine tt_iload_n C dX6_orderOnline_26 rfl 1 rfl ?_
      refine tt_iload_n C dX6_orderOnline_27 rfl 2 rfl ?_
      refine tt_cVI C (CT_comm hi5 (c_X2_changeOnline_A E (ub u 5 h) r g (r 0) d hi hd hn hN)) gX6_orderOnline_X2_changeOnline rfl ⟨rfl, rfl⟩ 2 (by decide +kernel) ⟨Nat.le_of_ble_eq_true rfl, Nat.le_of_ble_eq_true rfl⟩ rfl (oH0 hi) rfl (Nat.le_of_ble_eq_true rfl) dX6_orderOnline_28 rfl ?_
      generalize e_4 : H_online g d = h_3
      refine tt_pop C dX6_orderOnline_31 rfl ?_
      refine tt_iload_n C dX6_orderOnline_32 rfl 3 rfl ?_
      exact tt_iret K dX6_orderOnline_33 (by subst e_4; exact b1_t (by first | (simp only [c_1, c_2, not_false_eq_true, not_true_eq_false, and_true, true_and, and_false, false_and, and_self, or_true, true_or, or_false, false_or, or_self, if_true, if_false]; done) | grind)) (by subst e_4; rfl) rfl

set_option maxHeartbeats 4000000 in
set_option maxRecDepth 100000 in
theorem c_X6_orderOnline_Z (E : EN) (u : U3) (r : R1) (h : HB) (g : HB) (d : Nat) (hi : r 0 < 5) (hi5 : r 0 ≠ 5) (hD : vI (g 1 0) 9) (hr : H_rOnline g (nI d) (nI 0) = 0) (hd : d < 8) (hB : vI (g 18 0) 9) : CT E yX6_orderOnline wsX6_orderOnline (rmT 4 92) [.ref (eA E 5 0), .int (nI d), .int (nI 0)] (ub (ub u (r 0) g) 5 h) r (some (.int (b2i (True)))) (ub (ub u (r 0) (H_offline g d)) 5 h) r := by
  refine CT_ofI (cc := cX6_orderOnline) (nL := 4) (own := RX6) (by decide) rfl rfl (b2i_z _) (Nat.le_of_ble_eq_true rfl) (fun F C K => ?_)
  have hin6 : ∀ w ∈ u_ws RX6 TX6 8, w ∈ wsX6_orderOnline := by decide +kernel
  refine tt_to (lv1 := [(0, .ref (eA E 5 0)), (1, .int (nI d)), (2, .int (nI 0))]) rfl rfl rfl rfl ?_
  refine tt_aload_n C dX6_orderOnline_0 rfl 0 rfl ?_
  refine tt_get (v := .ref (eA E (r 0) 0)) C oT0 rfl hin6 0 (by decide) (List.mem_of_getElem? (i := 1) (by decide +kernel)) rfl dX6_orderOnline_1 ?_
  refine tt_iload_n C dX6_orderOnline_4 rfl 1 rfl ?_
  refine tt_iload_n C dX6_orderOnline_5 rfl 2 rfl ?_
  refine tt_cVI C (CT_comm hi5 (c_X2_refusesOnline E (ub u 5 h) r g (r 0) (nI d) (nI 0) hi hD)) gX6_orderOnline_X2_refusesOnline rfl ⟨rfl, rfl⟩ 2 (by decide +kernel) ⟨Nat.le_of_ble_eq_true rfl, Nat.le_of_ble_eq_true rfl⟩ rfl (oH0 hi) rfl (Nat.le_of_ble_eq_true rfl) dX6_orderOnline_6 rfl ?_
  refine tt_if_ne C (tgt := 16) dX6_orderOnline_9 (by decide) Iff.rfl (fun c_1 => ?_) (fun c_1 => ?_)
  · skip
    exact absurd hr c_1
  · skip
    refine tt_iconst (v := nI 1) C dX6_orderOnline_12 (by decide) ?_
    refine tt_goto (tgt := 17) C dX6_orderOnline_13 (by decide) ?_
    refine tt_istore_n (lv' := [(0, .ref (eA E 5 0)), (1, .int (nI d)), (2, .int (nI 0)), (3, .int (nI 1))]) C dX6_orderOnline_17 rfl (by decide) [1, 2, 3, 0] rfl ?_
    refine tt_iload_n C dX6_orderOnline_18 rfl 3 rfl ?_
    refine tt_if_eq C (tgt := 32) dX6_orderOnline_19 (by decide) (nI_eq0 (by omega)) (fun c_2 => ?_) (fun c_2 => ?_)
    · skip
      exact absurd c_2 (by decide)
    · skip
      refine tt_aload_n C dX6_orderOnline_22 rfl 0 rfl ?_
      refine tt_get (v := .ref (eA E (r 0) 0)) C oT0 rfl hin6 0 (by decide) (List.mem_of_getElem? (i := 1) (by decide +kernel)) rfl dX6_orderOnline_23 ?_
      refine tt_iload_n C dX6_orderOnline_26 rfl 1 rfl ?_
      refine tt_iload_n C dX6_orderOnline_27 rfl 2 rfl ?_
      refine tt_cVI C (CT_comm hi5 (c_X2_changeOnline_Z E (ub u 5 h) r g (r 0) d hi hd hB)) gX6_orderOnline_X2_changeOnline rfl ⟨rfl, rfl⟩ 2 (by decide +kernel) ⟨Nat.le_of_ble_eq_true rfl, Nat.le_of_ble_eq_true rfl⟩ rfl (oH0 hi) rfl (Nat.le_of_ble_eq_true rfl) dX6_orderOnline_28 rfl ?_
      generalize e_4 : H_offline g d = h_3
      refine tt_pop C dX6_orderOnline_31 rfl ?_
      refine tt_iload_n C dX6_orderOnline_32 rfl 3 rfl ?_
      exact tt_iret K dX6_orderOnline_33 (by subst e_4; exact b1_t (by first | (simp only [c_1, c_2, not_false_eq_true, not_true_eq_false, and_true, true_and, and_false, false_and, and_self, or_true, true_or, or_false, false_or, or_self, if_true, if_false]; done) | grind)) (by subst e_4; rfl) rfl

set_option maxHeartbeats 4000000 in
set_option maxRecDepth 100000 in
theorem c_X6_orderBar_B (E : EN) (u : U3) (r : R1) (h : HB) (g : HB) (b : Int32) (hi : r 0 < 5) (hi5 : r 0 ≠ 5) (hr : ¬ H_rBar g b (nI 1) = 0) : CT E yX6_orderBar wsX6_orderBar (rmT 3 64) [.ref (eA E 5 0), .int b] (ub (ub u (r 0) g) 5 h) r (some (.int (b2i (False)))) (ub (ub u (r 0) g) 5 h) r := by
  refine CT_ofI (cc := cX6_orderBar) (nL := 3) (own := RX6) (by decide) rfl rfl (b2i_z _) (Nat.le_of_ble_eq_true rfl) (fun F C K => ?_)
  have hin6 : ∀ w ∈ u_ws RX6 TX6 8, w ∈ wsX6_orderBar := by decide +kernel
  refine tt_to (lv1 := [(0, .ref (eA E 5 0)), (1, .int b)]) rfl rfl rfl rfl ?_
  refine tt_aload_n C dX6_orderBar_0 rfl 0 rfl ?_
  refine tt_get (v := .ref (eA E (r 0) 0)) C oT0 rfl hin6 0 (by decide) (List.mem_of_getElem? (i := 1) (by decide +kernel)) rfl dX6_orderBar_1 ?_
  refine tt_iload_n C dX6_orderBar_4 rfl 1 rfl ?_
  refine tt_iconst (v := nI 1) C dX6_orderBar_5 (by decide) ?_
  refine tt_cVI C (CT_comm hi5 (c_X2_refusesBar E (ub u 5 h) r g (r 0) b (nI 1) hi)) gX6_orderBar_X2_refusesBar rfl ⟨rfl, rfl⟩ 2 (by decide +kernel) ⟨Nat.le_of_ble_eq_true rfl, Nat.le_of_ble_eq_true rfl⟩ rfl (oH0 hi) rfl (Nat.le_of_ble_eq_true rfl) dX6_orderBar_6 rfl ?_
  refine tt_if_ne C (tgt := 16) dX6_orderBar_9 (by decide) Iff.rfl (fun c_1 => ?_) (fun c_1 => ?_)
  · skip
    refine tt_iconst (v := nI 0) C dX6_orderBar_16 (by decide) ?_
    refine tt_istore_n (lv' := [(0, .ref (eA E 5 0)), (1, .int b), (2, .int (nI 0))]) C dX6_orderBar_17 rfl (by decide) [1, 2, 0] rfl ?_
    refine tt_iload_n C dX6_orderBar_18 rfl 2 rfl ?_
    refine tt_if_eq C (tgt := 35) dX6_orderBar_19 (by decide) (nI_eq0 (by omega)) (fun c_2 => ?_) (fun c_2 => ?_)
    · skip
      refine tt_iload_n C dX6_orderBar_35 rfl 2 rfl ?_
      exact tt_iret K dX6_orderBar_36 (by exact b1_f (by first | (simp only [c_1, c_2, not_false_eq_true, not_true_eq_false, and_true, true_and, and_false, false_and, and_self, or_true, true_or, or_false, false_or, or_self, if_true, if_false]; done) | grind)) (by first | rfl | (simp [c_1, c_2]; done) | (refine congrArg _ ?_; grind [])) rfl
    · skip
      exact absurd (by decide) c_2
  · skip
    exact absurd c_1 hr

set_option maxHeartbeats 4000000 in
set_option maxRecDepth 100000 in
theorem c_X6_orderBar_O (E : EN) (u : U3) (r : R1) (h : HB) (g : HB) (b : Nat) (hi : r 0 < 5) (hi5 : r 0 ≠ 5) (hr : H_rBar g (nI b) (nI 1) = 0) (hb : b < 8) : CT E yX6_orderBar wsX6_orderBar (rmT 3 64) [.ref (eA E 5 0), .int (nI b)] (ub (ub u (r 0) g) 5 h) r (some (.int (b2i (True)))) (ub (ub u (r 0) (up2 g 20 b (nI 1))) 5 h) r := by
  refine CT_ofI (cc := cX6_orderBar) (nL := 3) (own := RX6) (by decide) rfl rfl (b2i_z _) (Nat.le_of_ble_eq_true rfl) (fun F C K => ?_)
  have hin2 : ∀ w ∈ u_ws RX2 TX2 8, w ∈ wsX6_orderBar := by decide +kernel
  have hin6 : ∀ w ∈ u_ws RX6 TX6 8, w ∈ wsX6_orderBar := by decide +kernel
  refine tt_to (lv1 := [(0, .ref (eA E 5 0)), (1, .int (nI b))]) rfl rfl rfl rfl ?_
  refine tt_aload_n C dX6_orderBar_0 rfl 0 rfl ?_
  refine tt_get (v := .ref (eA E (r 0) 0)) C oT0 rfl hin6 0 (by decide) (List.mem_of_getElem? (i := 1) (by decide +kernel)) rfl dX6_orderBar_1 ?_
  refine tt_iload_n C dX6_orderBar_4 rfl 1 rfl ?_
  refine tt_iconst (v := nI 1) C dX6_orderBar_5 (by decide) ?_
  refine tt_cVI C (CT_comm hi5 (c_X2_refusesBar E (ub u 5 h) r g (r 0) (nI b) (nI 1) hi)) gX6_orderBar_X2_refusesBar rfl ⟨rfl, rfl⟩ 2 (by decide +kernel) ⟨Nat.le_of_ble_eq_true rfl, Nat.le_of_ble_eq_true rfl⟩ rfl (oH0 hi) rfl (Nat.le_of_ble_eq_true rfl) dX6_orderBar_6 rfl ?_
  refine tt_if_ne C (tgt := 16) dX6_orderBar_9 (by decide) Iff.rfl (fun c_1 => ?_) (fun c_1 => ?_)
  · skip
    exact absurd hr c_1
  · skip
    refine tt_iconst (v := nI 1) C dX6_orderBar_12 (by decide) ?_
    refine tt_goto (tgt := 17) C dX6_orderBar_13 (by decide) ?_
    refine tt_istore_n (lv' := [(0, .ref (eA E 5 0)), (1, .int (nI b)), (2, .int (nI 1))]) C dX6_orderBar_17 rfl (by decide) [1, 2, 0] rfl ?_
    refine tt_iload_n C dX6_orderBar_18 rfl 2 rfl ?_
    refine tt_if_eq C (tgt := 35) dX6_orderBar_19 (by decide) (nI_eq0 (by omega)) (fun c_2 => ?_) (fun c_2 => ?_)
    · skip
      exact absurd c_2 (by decide)
    · skip
      refine tt_aload_n C dX6_orderBar_22 rfl 0 rfl ?_
      refine tt_get (v := .ref (eA E (r 0) 0)) C oT0 rfl hin6 0 (by decide) (List.mem_of_getElem? (i := 1) (by decide +kernel)) rfl dX6_orderBar_23 ?_
      refine tt_get (v := .ref (eA E (r 0) 18)) C (oH0 hi) rfl hin2 1 (by decide) (List.mem_of_getElem? (i := 2) (by decide +kernel)) rfl dX6_orderBar_26 ?_
      refine tt_iload_n C dX6_orderBar_29 rfl 1 rfl ?_
      refine tt_iconst (v := nI 1) C dX6_orderBar_30 (by decide) ?_
      refine tt_cVI C (CT_comm hi5 (c_X0_changeBarred E (ub u 5 h) r g (r 0) b (nI 1) hi hb)) gX6_orderBar_X0_changeBarred rfl ⟨rfl, rfl⟩ 2 (by decide +kernel) ⟨Nat.le_of_ble_eq_true rfl, Nat.le_of_ble_eq_true rfl⟩ rfl (oH18 hi) rfl (Nat.le_of_ble_eq_true rfl) dX6_orderBar_31 rfl ?_
      generalize e_4 : up2 g 20 b (nI 1) = h_3
      refine tt_pop C dX6_orderBar_34 rfl ?_
      refine tt_iload_n C dX6_orderBar_35 rfl 2 rfl ?_
      exact tt_iret K dX6_orderBar_36 (by subst e_4; exact b1_t (by first | (simp only [c_1, c_2, not_false_eq_true, not_true_eq_false, and_true, true_and, and_false, false_and, and_self, or_true, true_or, or_false, false_or, or_self, if_true, if_false]; done) | grind)) (by subst e_4; rfl) rfl
