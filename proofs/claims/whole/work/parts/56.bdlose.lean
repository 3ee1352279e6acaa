def kR (r : R1) : R1 := upr (upr (upr (upr r 1 (r 2)) 2 (r 3)) 3 (r 4)) 4 (r 1)

set_option maxHeartbeats 4000000 in
set_option maxRecDepth 100000 in
theorem c_X6_loseOldestState (E : EN) (u : U3) (r : R1) (h : HB)  (hr : ∀ j, j < 5 → r j < 5) : CT E yX6_loseOldestState wsX6_loseOldestState (rmT 0 0) [.ref (eA E 5 0)] (ub u 5 h) r none (ub u 5 (up2 h 0 0 (nI 3))) (kR r) := by
  refine CT_ofV (cc := cX6_loseOldestState) (nL := 3) (own := RX6) (by decide) rfl rfl (Nat.le_of_ble_eq_true rfl) (fun F C K => ?_)
  have hin6 : ∀ w ∈ u_ws RX6 TX6 8, w ∈ wsX6_loseOldestState := by decide +kernel
  refine tt_to (lv1 := [(0, .ref (eA E 5 0))]) rfl rfl rfl rfl ?_
  refine tt_aload_n C dX6_loseOldestState_0 rfl 0 rfl ?_
  refine tt_get (v := .ref (eA E 5 1)) C oT0 rfl hin6 1 (by decide) (List.mem_of_getElem? (i := 1) (by decide +kernel)) rfl dX6_loseOldestState_1 ?_
  refine tt_iconst (v := nI 0) C dX6_loseOldestState_4 (by decide) ?_
  refine tt_aaldK C 0 rfl (by omega) dX6_loseOldestState_5 ?_
  refine tt_astore_n (lv' := [(0, .ref (eA E 5 0)), (1, .ref (eA E (r (0 + 1)) 0))]) C dX6_loseOldestState_6 rfl (by decide) [1, 0] rfl ?_
  refine tt_iconst (v := nI 1) C dX6_loseOldestState_7 (by decide) ?_
  refine tt_istore_n (lv' := [(0, .ref (eA E 5 0)), (1, .ref (eA E (r (0 + 1)) 0)), (2, .int (nI 1))]) C dX6_loseOldestState_8 rfl (by decide) [1, 2, 0] rfl ?_
  refine tt_iload_n C dX6_loseOldestState_9 rfl 2 rfl ?_
  refine tt_iconst (v := nI 4) C dX6_loseOldestState_10 (by decide) ?_
  refine tt_icmp_ge C (tgt := 34) dX6_loseOldestState_11 (by decide) (nI_leI (by omega) (by omega)) (fun c_1 => ?_) (fun c_1 => ?_)
  · skip
    exact absurd c_1 (by decide)
  · skip
    refine tt_aload_n C dX6_loseOldestState_14 rfl 0 rfl ?_
    refine tt_get (v := .ref (eA E 5 1)) C oT0 rfl hin6 1 (by decide) (List.mem_of_getElem? (i := 1) (by decide +kernel)) rfl dX6_loseOldestState_15 ?_
    refine tt_iload_n C dX6_loseOldestState_18 rfl 2 rfl ?_
    refine tt_iconst (v := nI 1) C dX6_loseOldestState_19 (by decide) ?_
    refine tt_isub (v := nI (1 - 1)) C dX6_loseOldestState_20 (pk_sub (by omega)) ?_
    refine tt_aload_n C dX6_loseOldestState_21 rfl 0 rfl ?_
    refine tt_get (v := .ref (eA E 5 1)) C oT0 rfl hin6 1 (by decide) (List.mem_of_getElem? (i := 1) (by decide +kernel)) rfl dX6_loseOldestState_22 ?_
    refine tt_iload_n C dX6_loseOldestState_25 rfl 2 rfl ?_
    refine tt_aaldK C 1 rfl (by omega) dX6_loseOldestState_26 ?_
    refine tt_aastK C (1 - 1) (r (1 + 1)) (by first | exact hr _ (by omega) | exact hr _ (by decide) | (simp [upr]; exact hr _ (by decide))) rfl (by omega) dX6_loseOldestState_27 ?_
    refine tt_iinc (p := 2) (v := nI 2) (lv' := [(0, .ref (eA E 5 0)), (1, .ref (eA E (r (0 + 1)) 0)), (2, .int (nI 2))]) C dX6_loseOldestState_28 rfl (by decide) (by decide) [1, 2, 0] rfl ?_
    refine tt_goto (tgt := 9) C dX6_loseOldestState_31 (by decide) ?_
    refine tt_iload_n C dX6_loseOldestState_9 rfl 2 rfl ?_
    refine tt_iconst (v := nI 4) C dX6_loseOldestState_10 (by decide) ?_
    refine tt_icmp_ge C (tgt := 34) dX6_loseOldestState_11 (by decide) (nI_leI (by omega) (by omega)) (fun c_2 => ?_) (fun c_2 => ?_)
    · skip
      exact absurd c_2 (by decide)
    · skip
      refine tt_aload_n C dX6_loseOldestState_14 rfl 0 rfl ?_
      refine tt_get (v := .ref (eA E 5 1)) C oT0 rfl hin6 1 (by decide) (List.mem_of_getElem? (i := 1) (by decide +kernel)) rfl dX6_loseOldestState_15 ?_
      refine tt_iload_n C dX6_loseOldestState_18 rfl 2 rfl ?_
      refine tt_iconst (v := nI 1) C dX6_loseOldestState_19 (by decide) ?_
      refine tt_isub (v := nI (2 - 1)) C dX6_loseOldestState_20 (pk_sub (by omega)) ?_
      refine tt_aload_n C dX6_loseOldestState_21 rfl 0 rfl ?_
      refine tt_get (v := .ref (eA E 5 1)) C oT0 rfl hin6 1 (by decide) (List.mem_of_getElem? (i := 1) (by decide +kernel)) rfl dX6_loseOldestState_22 ?_
      refine tt_iload_n C dX6_loseOldestState_25 rfl 2 rfl ?_
      refine tt_aaldK C 2 rfl (by omega) dX6_loseOldestState_26 ?_
      refine tt_aastK C (2 - 1) ((upr r (1 - 1 + 1) (r (1 + 1))) (2 + 1)) (by first | exact hr _ (by omega) | exact hr _ (by decide) | (simp [upr]; exact hr _ (by decide))) rfl (by omega) dX6_loseOldestState_27 ?_
      refine tt_iinc (p := 2) (v := nI 3) (lv' := [(0, .ref (eA E 5 0)), (1, .ref (eA E (r (0 + 1)) 0)), (2, .int (nI 3))]) C dX6_loseOldestState_28 rfl (by decide) (by decide) [1, 2, 0] rfl ?_
      refine tt_goto (tgt := 9) C dX6_loseOldestState_31 (by decide) ?_
      refine tt_iload_n C dX6_loseOldestState_9 rfl 2 rfl ?_
      refine tt_iconst (v := nI 4) C dX6_loseOldestState_10 (by decide) ?_
      refine tt_icmp_ge C (tgt := 34) dX6_loseOldestState_11 (by decide) (nI_leI (by omega) (by omega)) (fun c_3 => ?_) (fun c_3 => ?_)
      · skip
        exact absurd c_3 (by decide)
      · skip
        refine tt_aload_n C dX6_loseOldestState_14 rfl 0 rfl ?_
        refine tt_get (v := .ref (eA E 5 1)) C oT0 rfl hin6 1 (by decide) (List.mem_of_getElem? (i := 1) (by decide +kernel)) rfl dX6_loseOldestState_15 ?_
        refine tt_iload_n C dX6_loseOldestState_18 rfl 2 rfl ?_
        refine tt_iconst (v := nI 1) C dX6_loseOldestState_19 (by decide) ?_
        refine tt_isub (v := nI (3 - 1)) C dX6_loseOldestState_20 (pk_sub (by omega)) ?_
        refine tt_aload_n C dX6_loseOldestState_21 rfl 0 rfl ?_
        refine tt_get (v := .ref (eA E 5 1)) C oT0 rfl hin6 1 (by decide) (List.mem_of_getElem? (i := 1) (by decide +kernel)) rfl dX6_loseOldestState_22 ?_
        refine tt_iload_n C dX6_loseOldestState_25 rfl 2 rfl ?_
        refine tt_aaldK C 3 rfl (by omega) dX6_loseOldestState_26 ?_
        refine tt_aastK C (3 - 1) ((upr (upr r (1 - 1 + 1) (r (1 + 1))) (2 - 1 + 1) ((upr r (1 - 1 + 1) (r (1 + 1))) (2 + 1))) (3 + 1)) (by first | exact hr _ (by omega) | exact hr _ (by decide) | (simp [upr]; exact hr _ (by decide))) rfl (by omega) dX6_loseOldestState_27 ?_
        refine tt_iinc (p := 2) (v := nI 4) (lv' := [(0, .ref (eA E 5 0)), (1, .ref (eA E (r (0 + 1)) 0)), (2, .int (nI 4))]) C dX6_loseOldestState_28 rfl (by decide) (by decide) [1, 2, 0] rfl ?_
        refine tt_goto (tgt := 9) C dX6_loseOldestState_31 (by decide) ?_
        refine tt_iload_n C dX6_loseOldestState_9 rfl 2 rfl ?_
        refine tt_iconst (v := nI 4) C dX6_loseOldestState_10 (by decide) ?_
        refine tt_icmp_ge C (tgt := 34) dX6_loseOldestState_11 (by decide) (nI_leI (by omega) (by omega)) (fun c_4 => ?_) (fun c_4 => ?_)
        · skip
          refine tt_aload_n C dX6_loseOldestState_34 rfl 0 rfl ?_
          refine tt_get (v := .ref (eA E 5 1)) C oT0 rfl hin6 1 (by decide) (List.mem_of_getElem? (i := 1) (by decide +kernel)) rfl dX6_loseOldestState_35 ?_
          refine tt_iconst (v := nI 3) C dX6_loseOldestState_38 (by decide) ?_
          refine tt_aload_n C dX6_loseOldestState_39 rfl 1 rfl ?_
          refine tt_aastK C 3 (r (0 + 1)) (by first | exact hr _ (by omega) | exact hr _ (by decide) | (simp [upr]; exact hr _ (by decide))) rfl (by omega) dX6_loseOldestState_40 ?_
          refine tt_aload_n C dX6_loseOldestState_41 rfl 0 rfl ?_
          refine tt_iconst (v := nI 3) C dX6_loseOldestState_42 (by decide) ?_
          refine tt_putIB C fT0_0 rfl hin6 tyX6 tyX6_ok nmX6 (by decide) (List.mem_of_getElem? (i := 2) (by decide +kernel)) (by decide +kernel) (by decide +kernel) dX6_loseOldestState_43 ?_
          generalize e_6 : up2 h 0 0 (nI 3) = h_5
          exact tt_vret K dX6_loseOldestState_46 (by subst e_6; rfl) rfl
        · skip
          exact absurd (by decide) c_4
