set_option maxHeartbeats 4000000 in
set_option maxRecDepth 100000 in
theorem c_X6_clear (E : EN) (u : U3) (r : R1) (h : HB)   : CT E yX6_clear wsX6_clear (rmT 1 21) [.ref (eA E 5 0)] (ub u 5 h) r (some (.int (h 2 0))) (ub u 5 (up2 h 2 0 (nI 0))) r := by
  refine CT_ofI (cc := cX6_clear) (nL := 1) (own := RX6) (by decide) rfl rfl rfl (Nat.le_of_ble_eq_true rfl) (fun F C K => ?_)
  have hin6 : ∀ w ∈ u_ws RX6 TX6 8, w ∈ wsX6_clear := by decide +kernel
  refine tt_to (lv1 := [(0, .ref (eA E 5 0))]) rfl rfl rfl rfl ?_
  refine tt_aload_n C dX6_clear_0 rfl 0 rfl ?_
  refine tt_get (v := .ref (eA E 5 2)) C oT0 rfl hin6 3 (by decide) (List.mem_of_getElem? (i := 1) (by decide +kernel)) rfl dX6_clear_1 ?_
  refine tt_cVI C (c_X4_empty E u r h) gX6_clear_X4_empty rfl ⟨rfl, rfl⟩ 0 (by decide +kernel) ⟨Nat.le_of_ble_eq_true rfl, Nat.le_of_ble_eq_true rfl⟩ rfl oT2 rfl (Nat.le_of_ble_eq_true rfl) dX6_clear_4 rfl ?_
  generalize e_2 : up2 h 2 0 (nI 0) = h_1
  exact tt_iret K dX6_clear_7 (by subst e_2; rfl) (by subst e_2; rfl) rfl

set_option maxHeartbeats 4000000 in
set_option maxRecDepth 100000 in
theorem c_X6_type_B (E : EN) (u : U3) (r : R1) (h : HB) (c : Int32) (hc : ¬ (¬ c < 0 ∧ c ≤ nI 127)) : CT E yX6_type wsX6_type (rmT 1 21) [.ref (eA E 5 0), .int c] (ub u 5 h) r (some (.int (-2))) (ub u 5 (H_ref h (-2))) r := by
  refine CT_ofI (cc := cX6_type) (nL := 2) (own := RX6) (by decide) rfl rfl rfl (Nat.le_of_ble_eq_true rfl) (fun F C K => ?_)
  refine tt_to (lv1 := [(0, .ref (eA E 5 0)), (1, .int c)]) rfl rfl rfl rfl ?_
  refine tt_iload_n C dX6_type_0 rfl 1 rfl ?_
  refine tt_if_lt C (tgt := 10) dX6_type_1 (by decide) Iff.rfl (fun c_1 => ?_) (fun c_1 => ?_)
  · skip
    refine tt_aload_n C dX6_type_10 rfl 0 rfl ?_
    refine tt_bipush (v := (-2 : Int32)) C dX6_type_11 (by decide) ?_
    refine tt_cVI C (c_X6_refuse E u r h (-2 : Int32) (by decide)) gX6_type_X6_refuse rfl ⟨rfl, rfl⟩ 1 (by decide +kernel) ⟨Nat.le_of_ble_eq_true rfl, Nat.le_of_ble_eq_true rfl⟩ rfl oT0 rfl (Nat.le_of_ble_eq_true rfl) dX6_type_13 rfl ?_
    generalize e_3 : H_ref h (-2 : Int32) = h_2
    exact tt_iret K dX6_type_16 (by subst e_3; rfl) (by subst e_3; rfl) rfl
  · skip
    refine tt_iload_n C dX6_type_4 rfl 1 rfl ?_
    refine tt_bipush (v := nI 127) C dX6_type_5 (by decide) ?_
    refine tt_icmp_le C (tgt := 17) dX6_type_7 (by decide) Iff.rfl (fun c_4 => ?_) (fun c_4 => ?_)
    · skip
      exact absurd ⟨(by assumption), c_4⟩ hc
    · skip
      refine tt_aload_n C dX6_type_10 rfl 0 rfl ?_
      refine tt_bipush (v := (-2 : Int32)) C dX6_type_11 (by decide) ?_
      refine tt_cVI C (c_X6_refuse E u r h (-2 : Int32) (by decide)) gX6_type_X6_refuse rfl ⟨rfl, rfl⟩ 1 (by decide +kernel) ⟨Nat.le_of_ble_eq_true rfl, Nat.le_of_ble_eq_true rfl⟩ rfl oT0 rfl (Nat.le_of_ble_eq_true rfl) dX6_type_13 rfl ?_
      generalize e_6 : H_ref h (-2 : Int32) = h_5
      exact tt_iret K dX6_type_16 (by subst e_6; rfl) (by subst e_6; rfl) rfl

set_option maxHeartbeats 4000000 in
set_option maxRecDepth 100000 in
theorem c_X6_type_F (E : EN) (u : U3) (r : R1) (h : HB) (c : Int32) (hc : ¬ c < 0 ∧ c ≤ nI 127) (hf : h 2 0 = nI 150) : CT E yX6_type wsX6_type (rmT 1 21) [.ref (eA E 5 0), .int c] (ub u 5 h) r (some (.int (-4))) (ub u 5 (H_ref h (-4))) r := by
  refine CT_ofI (cc := cX6_type) (nL := 2) (own := RX6) (by decide) rfl rfl rfl (Nat.le_of_ble_eq_true rfl) (fun F C K => ?_)
  have hin4 : ∀ w ∈ u_ws RX4 TX4 5, w ∈ wsX6_type := by decide +kernel
  have hin6 : ∀ w ∈ u_ws RX6 TX6 8, w ∈ wsX6_type := by decide +kernel
  refine tt_to (lv1 := [(0, .ref (eA E 5 0)), (1, .int c)]) rfl rfl rfl rfl ?_
  refine tt_iload_n C dX6_type_0 rfl 1 rfl ?_
  refine tt_if_lt C (tgt := 10) dX6_type_1 (by decide) Iff.rfl (fun c_1 => ?_) (fun c_1 => ?_)
  · skip
    exact absurd c_1 hc.1
  · skip
    refine tt_iload_n C dX6_type_4 rfl 1 rfl ?_
    refine tt_bipush (v := nI 127) C dX6_type_5 (by decide) ?_
    refine tt_icmp_le C (tgt := 17) dX6_type_7 (by decide) Iff.rfl (fun c_2 => ?_) (fun c_2 => ?_)
    · skip
      refine tt_aload_n C dX6_type_17 rfl 0 rfl ?_
      refine tt_get (v := .ref (eA E 5 2)) C oT0 rfl hin6 3 (by decide) (List.mem_of_getElem? (i := 1) (by decide +kernel)) rfl dX6_type_18 ?_
      refine tt_getI (v := nI 150) C oT2 rfl hin4 0 (by decide) (List.mem_of_getElem? (i := 2) (by decide +kernel)) rfl (ub_v.trans hf) dX6_type_21 ?_
      refine tt_sipush (v := nI 150) C dX6_type_24 (by decide) ?_
      refine tt_icmp_lt C (tgt := 37) dX6_type_27 (by decide) (nI_ltI (by omega) (by omega)) (fun c_3 => ?_) (fun c_3 => ?_)
      · skip
        exact absurd c_3 (by decide)
      · skip
        refine tt_aload_n C dX6_type_30 rfl 0 rfl ?_
        refine tt_bipush (v := (-4 : Int32)) C dX6_type_31 (by decide) ?_
        refine tt_cVI C (c_X6_refuse E u r h (-4 : Int32) (by decide)) gX6_type_X6_refuse rfl ⟨rfl, rfl⟩ 1 (by decide +kernel) ⟨Nat.le_of_ble_eq_true rfl, Nat.le_of_ble_eq_true rfl⟩ rfl oT0 rfl (Nat.le_of_ble_eq_true rfl) dX6_type_33 rfl ?_
        generalize e_5 : H_ref h (-4 : Int32) = h_4
        exact tt_iret K dX6_type_36 (by subst e_5; rfl) (by subst e_5; rfl) rfl
    · skip
      exact absurd hc.2 c_2

set_option maxHeartbeats 4000000 in
set_option maxRecDepth 100000 in
theorem c_X6_type_O (E : EN) (u : U3) (r : R1) (h : HB) (c : Int32) (L : Nat) (hc : ¬ c < 0 ∧ c ≤ nI 127) (fl : h 2 0 = nI L) (hL : L < 150) : CT E yX6_type wsX6_type (rmT 1 21) [.ref (eA E 5 0), .int c] (ub u 5 h) r (some (.int (nI (L + 1)))) (ub u 5 (up2 (up2 h 4 L c) 2 0 (nI (L + 1)))) r := by
  refine CT_ofI (cc := cX6_type) (nL := 2) (own := RX6) (by decide) rfl rfl rfl (Nat.le_of_ble_eq_true rfl) (fun F C K => ?_)
  have hin4 : ∀ w ∈ u_ws RX4 TX4 5, w ∈ wsX6_type := by decide +kernel
  have hin6 : ∀ w ∈ u_ws RX6 TX6 8, w ∈ wsX6_type := by decide +kernel
  refine tt_to (lv1 := [(0, .ref (eA E 5 0)), (1, .int c)]) rfl rfl rfl rfl ?_
  refine tt_iload_n C dX6_type_0 rfl 1 rfl ?_
  refine tt_if_lt C (tgt := 10) dX6_type_1 (by decide) Iff.rfl (fun c_1 => ?_) (fun c_1 => ?_)
  · skip
    exact absurd c_1 hc.1
  · skip
    refine tt_iload_n C dX6_type_4 rfl 1 rfl ?_
    refine tt_bipush (v := nI 127) C dX6_type_5 (by decide) ?_
    refine tt_icmp_le C (tgt := 17) dX6_type_7 (by decide) Iff.rfl (fun c_2 => ?_) (fun c_2 => ?_)
    · skip
      refine tt_aload_n C dX6_type_17 rfl 0 rfl ?_
      refine tt_get (v := .ref (eA E 5 2)) C oT0 rfl hin6 3 (by decide) (List.mem_of_getElem? (i := 1) (by decide +kernel)) rfl dX6_type_18 ?_
      refine tt_getI (v := nI L) C oT2 rfl hin4 0 (by decide) (List.mem_of_getElem? (i := 2) (by decide +kernel)) rfl (ub_v.trans fl) dX6_type_21 ?_
      refine tt_sipush (v := nI 150) C dX6_type_24 (by decide) ?_
      refine tt_icmp_lt C (tgt := 37) dX6_type_27 (by decide) (nI_ltI (by omega) (by omega)) (fun c_3 => ?_) (fun c_3 => ?_)
      · skip
        refine tt_aload_n C dX6_type_37 rfl 0 rfl ?_
        refine tt_get (v := .ref (eA E 5 2)) C oT0 rfl hin6 3 (by decide) (List.mem_of_getElem? (i := 1) (by decide +kernel)) rfl dX6_type_38 ?_
        refine tt_iload_n C dX6_type_41 rfl 1 rfl ?_
        refine tt_cVI C (c_X4_append E u r h c L fl hL) gX6_type_X4_append rfl ⟨rfl, rfl⟩ 1 (by decide +kernel) ⟨Nat.le_of_ble_eq_true rfl, Nat.le_of_ble_eq_true rfl⟩ rfl oT2 rfl (Nat.le_of_ble_eq_true rfl) dX6_type_42 rfl ?_
        generalize e_5 : up2 (up2 h 4 L c) 2 0 (nI (L + 1)) = h_4
        exact tt_iret K dX6_type_45 (by subst e_5; rfl) (by subst e_5; rfl) rfl
      · skip
        exact absurd (by omega) c_3
    · skip
      exact absurd hc.2 c_2

set_option maxHeartbeats 4000000 in
set_option maxRecDepth 100000 in
theorem c_X6_orderBadge_B (E : EN) (u : U3) (r : R1) (h : HB) (g : HB) (v : Int32) (hi : r 0 < 5) (hi5 : r 0 ≠ 5) (hr : ¬ H_rBadge g v = 0) : CT E yX6_orderBadge wsX6_orderBadge (rmT 2 41) [.ref (eA E 5 0), .int v] (ub (ub u (r 0) g) 5 h) r (some (.int (b2i (False)))) (ub (ub u (r 0) g) 5 h) r := by
  refine CT_ofI (cc := cX6_orderBadge) (nL := 3) (own := RX6) (by decide) rfl rfl (b2i_z _) (Nat.le_of_ble_eq_true rfl) (fun F C K => ?_)
  have hin6 : ∀ w ∈ u_ws RX6 TX6 8, w ∈ wsX6_orderBadge := by decide +kernel
  refine tt_to (lv1 := [(0, .ref (eA E 5 0)), (1, .int v)]) rfl rfl rfl rfl ?_
  refine tt_aload_n C dX6_orderBadge_0 rfl 0 rfl ?_
  refine tt_get (v := .ref (eA E (r 0) 0)) C oT0 rfl hin6 0 (by decide) (List.mem_of_getElem? (i := 1) (by decide +kernel)) rfl dX6_orderBadge_1 ?_
  refine tt_iload_n C dX6_orderBadge_4 rfl 1 rfl ?_
  refine tt_cVI C (CT_comm hi5 (c_X2_refusesBadge E (ub u 5 h) r g (r 0) v hi)) gX6_orderBadge_X2_refusesBadge rfl ⟨rfl, rfl⟩ 1 (by decide +kernel) ⟨Nat.le_of_ble_eq_true rfl, Nat.le_of_ble_eq_true rfl⟩ rfl (oH0 hi) rfl (Nat.le_of_ble_eq_true rfl) dX6_orderBadge_5 rfl ?_
  refine tt_if_ne C (tgt := 15) dX6_orderBadge_8 (by decide) Iff.rfl (fun c_1 => ?_) (fun c_1 => ?_)
  · skip
    refine tt_iconst (v := nI 0) C dX6_orderBadge_15 (by decide) ?_
    refine tt_istore_n (lv' := [(0, .ref (eA E 5 0)), (1, .int v), (2, .int (nI 0))]) C dX6_orderBadge_16 rfl (by decide) [1, 2, 0] rfl ?_
    refine tt_iload_n C dX6_orderBadge_17 rfl 2 rfl ?_
    refine tt_if_eq C (tgt := 33) dX6_orderBadge_18 (by decide) (nI_eq0 (by omega)) (fun c_2 => ?_) (fun c_2 => ?_)
    · skip
      refine tt_iload_n C dX6_orderBadge_33 rfl 2 rfl ?_
      exact tt_iret K dX6_orderBadge_34 (by exact b1_f (by first | (simp only [c_1, c_2, not_false_eq_true, not_true_eq_false, and_true, true_and, and_false, false_and, and_self, or_true, true_or, or_false, false_or, or_self, if_true, if_false]; done) | grind)) (by first | rfl | (simp [c_1, c_2]; done) | (refine congrArg _ ?_; grind [])) rfl
    · skip
      exact absurd (by decide) c_2
  · skip
    exact absurd c_1 hr

set_option maxHeartbeats 4000000 in
set_option maxRecDepth 100000 in
theorem c_X6_orderBadge_O (E : EN) (u : U3) (r : R1) (h : HB) (g : HB) (v : Int32) (hi : r 0 < 5) (hi5 : r 0 ≠ 5) (hr : H_rBadge g v = 0) (hm : vI (g 18 0) 8) : CT E yX6_orderBadge wsX6_orderBadge (rmT 2 41) [.ref (eA E 5 0), .int v] (ub (ub u (r 0) g) 5 h) r (some (.int (b2i (True)))) (ub (ub u (r 0) (H_badd g v)) 5 h) r := by
  refine CT_ofI (cc := cX6_orderBadge) (nL := 3) (own := RX6) (by decide) rfl rfl (b2i_z _) (Nat.le_of_ble_eq_true rfl) (fun F C K => ?_)
  have hin2 : ∀ w ∈ u_ws RX2 TX2 8, w ∈ wsX6_orderBadge := by decide +kernel
  have hin6 : ∀ w ∈ u_ws RX6 TX6 8, w ∈ wsX6_orderBadge := by decide +kernel
  refine tt_to (lv1 := [(0, .ref (eA E 5 0)), (1, .int v)]) rfl rfl rfl rfl ?_
  refine tt_aload_n C dX6_orderBadge_0 rfl 0 rfl ?_
  refine tt_get (v := .ref (eA E (r 0) 0)) C oT0 rfl hin6 0 (by decide) (List.mem_of_getElem? (i := 1) (by decide +kernel)) rfl dX6_orderBadge_1 ?_
  refine tt_iload_n C dX6_orderBadge_4 rfl 1 rfl ?_
  refine tt_cVI C (CT_comm hi5 (c_X2_refusesBadge E (ub u 5 h) r g (r 0) v hi)) gX6_orderBadge_X2_refusesBadge rfl ⟨rfl, rfl⟩ 1 (by decide +kernel) ⟨Nat.le_of_ble_eq_true rfl, Nat.le_of_ble_eq_true rfl⟩ rfl (oH0 hi) rfl (Nat.le_of_ble_eq_true rfl) dX6_orderBadge_5 rfl ?_
  refine tt_if_ne C (tgt := 15) dX6_orderBadge_8 (by decide) Iff.rfl (fun c_1 => ?_) (fun c_1 => ?_)
  · skip
    exact absurd hr c_1
  · skip
    refine tt_iconst (v := nI 1) C dX6_orderBadge_11 (by decide) ?_
    refine tt_goto (tgt := 16) C dX6_orderBadge_12 (by decide) ?_
    refine tt_istore_n (lv' := [(0, .ref (eA E 5 0)), (1, .int v), (2, .int (nI 1))]) C dX6_orderBadge_16 rfl (by decide) [1, 2, 0] rfl ?_
    refine tt_iload_n C dX6_orderBadge_17 rfl 2 rfl ?_
    refine tt_if_eq C (tgt := 33) dX6_orderBadge_18 (by decide) (nI_eq0 (by omega)) (fun c_2 => ?_) (fun c_2 => ?_)
    · skip
      exact absurd c_2 (by decide)
    · skip
      refine tt_aload_n C dX6_orderBadge_21 rfl 0 rfl ?_
      refine tt_get (v := .ref (eA E (r 0) 0)) C oT0 rfl hin6 0 (by decide) (List.mem_of_getElem? (i := 1) (by decide +kernel)) rfl dX6_orderBadge_22 ?_
      refine tt_get (v := .ref (eA E (r 0) 18)) C (oH0 hi) rfl hin2 1 (by decide) (List.mem_of_getElem? (i := 2) (by decide +kernel)) rfl dX6_orderBadge_25 ?_
      refine tt_iload_n C dX6_orderBadge_28 rfl 1 rfl ?_
      refine tt_cVI C (CT_comm hi5 (c_X0_add E (ub u 5 h) r g (r 0) v hi hm)) gX6_orderBadge_X0_add rfl ⟨rfl, rfl⟩ 1 (by decide +kernel) ⟨Nat.le_of_ble_eq_true rfl, Nat.le_of_ble_eq_true rfl⟩ rfl (oH18 hi) rfl (Nat.le_of_ble_eq_true rfl) dX6_orderBadge_29 rfl ?_
      generalize e_4 : H_badd g v = h_3
      refine tt_pop C dX6_orderBadge_32 rfl ?_
      refine tt_iload_n C dX6_orderBadge_33 rfl 2 rfl ?_
      exact tt_iret K dX6_orderBadge_34 (by subst e_4; exact b1_t (by first | (simp only [c_1, c_2, not_false_eq_true, not_true_eq_false, and_true, true_and, and_false, false_and, and_self, or_true, true_or, or_false, false_or, or_self, if_true, if_false]; done) | grind)) (by subst e_4; rfl) rfl
