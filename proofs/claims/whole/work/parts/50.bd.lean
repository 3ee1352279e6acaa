def H_ref (h : HB) (v : Int32) : HB := if v = -2 then up2 h 0 1 (h 0 1 + nI 1) else if v = -3 then up2 h 0 2 (h 0 2 + nI 1) else up2 h 0 3 (h 0 3 + nI 1)

set_option maxHeartbeats 4000000 in
set_option maxRecDepth 100000 in
theorem c_X6_refuse (E : EN) (u : U3) (r : R1) (h : HB) (v : Int32) (hv : v = -2 ∨ v = -3 ∨ v = -4) : CT E yX6_refuse wsX6_refuse (rmT 0 0) [.ref (eA E 5 0), .int v] (ub u 5 h) r (some (.int (v))) (ub u 5 (H_ref h v)) r := by
  refine CT_ofI (cc := cX6_refuse) (nL := 2) (own := RX6) (by decide) rfl rfl rfl (Nat.le_of_ble_eq_true rfl) (fun F C K => ?_)
  have hin6 : ∀ w ∈ u_ws RX6 TX6 8, w ∈ wsX6_refuse := by decide +kernel
  refine tt_to (lv1 := [(0, .ref (eA E 5 0)), (1, .int v)]) rfl rfl rfl rfl ?_
  refine tt_iload_n C dX6_refuse_0 rfl 1 rfl ?_
  rcases (hv) with rfl | rfl | rfl
  · skip
    refine tt_look (off := 27) (tgt := 28) C dX6_refuse_1 (by decide) (by decide) (by decide) ?_
    refine tt_aload_n C dX6_refuse_28 rfl 0 rfl ?_
    refine tt_dup C dX6_refuse_29 rfl ?_
    refine tt_getI (v := h 0 1) C oT0 rfl hin6 5 (by decide) (List.mem_of_getElem? (i := 1) (by decide +kernel)) rfl (ub_v.trans rfl) dX6_refuse_30 ?_
    refine tt_iconst (v := nI 1) C dX6_refuse_33 (by decide) ?_
    refine tt_iadd C dX6_refuse_34 rfl ?_
    refine tt_putIB C fT0_1 rfl hin6 tyX6 tyX6_ok nmX6 (by decide) (List.mem_of_getElem? (i := 1) (by decide +kernel)) (by decide +kernel) (by decide +kernel) dX6_refuse_35 ?_
    generalize e_2 : up2 h 0 1 ((h 0 1) + (nI 1)) = h_1
    refine tt_goto (tgt := 64) C dX6_refuse_38 (by decide) ?_
    refine tt_iload_n C dX6_refuse_64 rfl 1 rfl ?_
    exact tt_iret K dX6_refuse_65 (by subst e_2; rfl) (by subst e_2; first | rfl | (simp []; done) | (refine congrArg _ ?_; grind [])) rfl
  · skip
    refine tt_look (off := 40) (tgt := 41) C dX6_refuse_1 (by decide) (by decide) (by decide) ?_
    refine tt_aload_n C dX6_refuse_41 rfl 0 rfl ?_
    refine tt_dup C dX6_refuse_42 rfl ?_
    refine tt_getI (v := h 0 2) C oT0 rfl hin6 6 (by decide) (List.mem_of_getElem? (i := 2) (by decide +kernel)) rfl (ub_v.trans rfl) dX6_refuse_43 ?_
    refine tt_iconst (v := nI 1) C dX6_refuse_46 (by decide) ?_
    refine tt_iadd C dX6_refuse_47 rfl ?_
    refine tt_putIB C fT0_2 rfl hin6 tyX6 tyX6_ok nmX6 (by decide) (List.mem_of_getElem? (i := 2) (by decide +kernel)) (by decide +kernel) (by decide +kernel) dX6_refuse_48 ?_
    generalize e_4 : up2 h 0 2 ((h 0 2) + (nI 1)) = h_3
    refine tt_goto (tgt := 64) C dX6_refuse_51 (by decide) ?_
    refine tt_iload_n C dX6_refuse_64 rfl 1 rfl ?_
    exact tt_iret K dX6_refuse_65 (by subst e_4; rfl) (by subst e_4; first | rfl | (simp []; done) | (refine congrArg _ ?_; grind [])) rfl
  · skip
    refine tt_look (off := 53) (tgt := 54) C dX6_refuse_1 (by decide) (by decide) (by decide) ?_
    refine tt_aload_n C dX6_refuse_54 rfl 0 rfl ?_
    refine tt_dup C dX6_refuse_55 rfl ?_
    refine tt_getI (v := h 0 3) C oT0 rfl hin6 7 (by decide) (List.mem_of_getElem? (i := 3) (by decide +kernel)) rfl (ub_v.trans rfl) dX6_refuse_56 ?_
    refine tt_iconst (v := nI 1) C dX6_refuse_59 (by decide) ?_
    refine tt_iadd C dX6_refuse_60 rfl ?_
    refine tt_putIB C fT0_3 rfl hin6 tyX6 tyX6_ok nmX6 (by decide) (List.mem_of_getElem? (i := 3) (by decide +kernel)) (by decide +kernel) (by decide +kernel) dX6_refuse_61 ?_
    generalize e_6 : up2 h 0 3 ((h 0 3) + (nI 1)) = h_5
    refine tt_iload_n C dX6_refuse_64 rfl 1 rfl ?_
    exact tt_iret K dX6_refuse_65 (by subst e_6; rfl) (by subst e_6; first | rfl | (simp []; done) | (refine congrArg _ ?_; grind [])) rfl

set_option maxHeartbeats 4000000 in
set_option maxRecDepth 100000 in
theorem c_X6_of_B (E : EN) (u : U3) (r : R1) (h : HB) (g : HB) (d : Int32) (w : Int32) (hi : r 0 < 5) (hi5 : r 0 ≠ 5) (hc : ¬ ((¬ d < 0 ∧ ¬ g 1 0 ≤ d) ∧ (¬ w < 0 ∧ ¬ nI 11 ≤ w))) : CT E yX6_of wsX6_of (rmT 2 43) [.ref (eA E 5 0), .int d, .int w] (ub (ub u (r 0) g) 5 h) r (some (.int (-2))) (ub (ub u (r 0) g) 5 (H_ref h (-2))) r := by
  refine CT_ofI (cc := cX6_of) (nL := 3) (own := RX6) (by decide) rfl rfl rfl (Nat.le_of_ble_eq_true rfl) (fun F C K => ?_)
  have hin6 : ∀ w ∈ u_ws RX6 TX6 8, w ∈ wsX6_of := by decide +kernel
  refine tt_to (lv1 := [(0, .ref (eA E 5 0)), (1, .int d), (2, .int w)]) rfl rfl rfl rfl ?_
  refine tt_aload_n C dX6_of_0 rfl 0 rfl ?_
  refine tt_get (v := .ref (eA E (r 0) 0)) C oT0 rfl hin6 0 (by decide) (List.mem_of_getElem? (i := 1) (by decide +kernel)) rfl dX6_of_1 ?_
  refine tt_iload_n C dX6_of_4 rfl 1 rfl ?_
  refine tt_cVI C (CT_comm hi5 (c_X2_hasDoor E (ub u 5 h) r g (r 0) d hi)) gX6_of_X2_hasDoor rfl ⟨rfl, rfl⟩ 1 (by decide +kernel) ⟨Nat.le_of_ble_eq_true rfl, Nat.le_of_ble_eq_true rfl⟩ rfl (oH0 hi) rfl (Nat.le_of_ble_eq_true rfl) dX6_of_5 rfl ?_
  refine tt_if_eqB C (tgt := 20) dX6_of_8 (by decide) (fun c_1 => ?_) (fun c_1 => ?_)
  · skip
    refine tt_aload_n C dX6_of_20 rfl 0 rfl ?_
    refine tt_bipush (v := (-2 : Int32)) C dX6_of_21 (by decide) ?_
    refine tt_cVI C (c_X6_refuse E (ub u (r 0) g) r h (-2 : Int32) (by decide)) gX6_of_X6_refuse rfl ⟨rfl, rfl⟩ 1 (by decide +kernel) ⟨Nat.le_of_ble_eq_true rfl, Nat.le_of_ble_eq_true rfl⟩ rfl oT0 rfl (Nat.le_of_ble_eq_true rfl) dX6_of_23 rfl ?_
    generalize e_3 : H_ref h (-2 : Int32) = h_2
    exact tt_iret K dX6_of_26 (by subst e_3; rfl) (by subst e_3; rfl) rfl
  · skip
    refine tt_iload_n C dX6_of_11 rfl 2 rfl ?_
    refine tt_bipush (v := nI 11) C dX6_of_12 (by decide) ?_
    refine tt_cSI C (c_X6_isBelow E (ub (ub u (r 0) g) 5 h) r w (nI 11)) gX6_of_X6_isBelow rfl ⟨rfl, rfl⟩ 2 (by decide +kernel) ⟨Nat.le_of_ble_eq_true rfl, Nat.le_of_ble_eq_true rfl⟩ rfl (Nat.le_of_ble_eq_true rfl) dX6_of_14 rfl ?_
    refine tt_if_neB C (tgt := 27) dX6_of_17 (by decide) (fun c_4 => ?_) (fun c_4 => ?_)
    · skip
      exact absurd ⟨(by assumption), c_4⟩ hc
    · skip
      refine tt_aload_n C dX6_of_20 rfl 0 rfl ?_
      refine tt_bipush (v := (-2 : Int32)) C dX6_of_21 (by decide) ?_
      refine tt_cVI C (c_X6_refuse E (ub u (r 0) g) r h (-2 : Int32) (by decide)) gX6_of_X6_refuse rfl ⟨rfl, rfl⟩ 1 (by decide +kernel) ⟨Nat.le_of_ble_eq_true rfl, Nat.le_of_ble_eq_true rfl⟩ rfl oT0 rfl (Nat.le_of_ble_eq_true rfl) dX6_of_23 rfl ?_
      generalize e_6 : H_ref h (-2 : Int32) = h_5
      exact tt_iret K dX6_of_26 (by subst e_6; rfl) (by subst e_6; rfl) rfl

theorem has_ok {x : Int32} {N b : Nat} (hx : vI x (N + 1)) (hN : N < 2 ^ 30) (hb : b < ix x) : ¬ nI b < 0 ∧ ¬ x ≤ nI b := by
  obtain ⟨n, hn, rfl⟩ := hx
  rw [show ix (nI n) = n from ix_nI (by omega)] at hb
  exact ⟨nI_pos (by omega), fun z => absurd ((nI_leI (by omega) (by omega)).mp z) (by omega)⟩
theorem bel_ok {w n : Nat} (hw : w < n) (hn : n < 2 ^ 31) : ¬ nI w < 0 ∧ ¬ nI n ≤ nI w := ⟨nI_pos (by omega), fun z => absurd ((nI_leI (by omega) (by omega)).mp z) (by omega)⟩

set_option maxHeartbeats 4000000 in
set_option maxRecDepth 100000 in
theorem c_X6_of_O (E : EN) (u : U3) (r : R1) (h : HB) (g : HB) (d : Nat) (w : Nat) (hi : r 0 < 5) (hi5 : r 0 ≠ 5) (hD : vI (g 1 0) 9) (hdm : d < ix (g 1 0)) (hw : w < 11) : CT E yX6_of wsX6_of (rmT 2 43) [.ref (eA E 5 0), .int (nI d), .int (nI w)] (ub (ub u (r 0) g) 5 h) r (some (.int (H_df g d w))) (ub (ub u (r 0) g) 5 h) r := by
  refine CT_ofI (cc := cX6_of) (nL := 3) (own := RX6) (by decide) rfl rfl rfl (Nat.le_of_ble_eq_true rfl) (fun F C K => ?_)
  have hin6 : ∀ w ∈ u_ws RX6 TX6 8, w ∈ wsX6_of := by decide +kernel
  refine tt_to (lv1 := [(0, .ref (eA E 5 0)), (1, .int (nI d)), (2, .int (nI w))]) rfl rfl rfl rfl ?_
  have hD' := ix_lt hD (by decide)
  have hd : d < 8 := by omega
  refine tt_aload_n C dX6_of_0 rfl 0 rfl ?_
  refine tt_get (v := .ref (eA E (r 0) 0)) C oT0 rfl hin6 0 (by decide) (List.mem_of_getElem? (i := 1) (by decide +kernel)) rfl dX6_of_1 ?_
  refine tt_iload_n C dX6_of_4 rfl 1 rfl ?_
  refine tt_cVI C (CT_comm hi5 (c_X2_hasDoor E (ub u 5 h) r g (r 0) (nI d) hi)) gX6_of_X2_hasDoor rfl ⟨rfl, rfl⟩ 1 (by decide +kernel) ⟨Nat.le_of_ble_eq_true rfl, Nat.le_of_ble_eq_true rfl⟩ rfl (oH0 hi) rfl (Nat.le_of_ble_eq_true rfl) dX6_of_5 rfl ?_
  refine tt_if_eqB C (tgt := 20) dX6_of_8 (by decide) (fun c_1 => ?_) (fun c_1 => ?_)
  · skip
    exact absurd (has_ok hD (by decide) hdm) c_1
  · skip
    refine tt_iload_n C dX6_of_11 rfl 2 rfl ?_
    refine tt_bipush (v := nI 11) C dX6_of_12 (by decide) ?_
    refine tt_cSI C (c_X6_isBelow E (ub (ub u (r 0) g) 5 h) r (nI w) (nI 11)) gX6_of_X6_isBelow rfl ⟨rfl, rfl⟩ 2 (by decide +kernel) ⟨Nat.le_of_ble_eq_true rfl, Nat.le_of_ble_eq_true rfl⟩ rfl (Nat.le_of_ble_eq_true rfl) dX6_of_14 rfl ?_
    refine tt_if_neB C (tgt := 27) dX6_of_17 (by decide) (fun c_2 => ?_) (fun c_2 => ?_)
    · skip
      refine tt_aload_n C dX6_of_27 rfl 0 rfl ?_
      refine tt_get (v := .ref (eA E (r 0) 0)) C oT0 rfl hin6 0 (by decide) (List.mem_of_getElem? (i := 1) (by decide +kernel)) rfl dX6_of_28 ?_
      refine tt_iload_n C dX6_of_31 rfl 1 rfl ?_
      refine tt_iload_n C dX6_of_32 rfl 2 rfl ?_
      refine tt_cVI C (CT_comm hi5 (c_X2_doorFact E (ub u 5 h) r g (r 0) d w hi (by first | assumption | omega) hw)) gX6_of_X2_doorFact rfl ⟨rfl, rfl⟩ 2 (by decide +kernel) ⟨Nat.le_of_ble_eq_true rfl, Nat.le_of_ble_eq_true rfl⟩ rfl (oH0 hi) rfl (Nat.le_of_ble_eq_true rfl) dX6_of_33 rfl ?_
      exact tt_iret K dX6_of_36 (by rfl) (by rfl) rfl
    · skip
      exact absurd (bel_ok hw (by decide)) c_2

set_option maxHeartbeats 4000000 in
set_option maxRecDepth 100000 in
theorem c_X6_about_B (E : EN) (u : U3) (r : R1) (h : HB) (g : HB) (b : Int32) (w : Int32) (hi : r 0 < 5) (hi5 : r 0 ≠ 5) (hc : ¬ ((¬ b < 0 ∧ ¬ g 18 0 ≤ b) ∧ (¬ w < 0 ∧ ¬ nI 6 ≤ w))) : CT E yX6_about wsX6_about (rmT 2 42) [.ref (eA E 5 0), .int b, .int w] (ub (ub u (r 0) g) 5 h) r (some (.int (-2))) (ub (ub u (r 0) g) 5 (H_ref h (-2))) r := by
  refine CT_ofI (cc := cX6_about) (nL := 3) (own := RX6) (by decide) rfl rfl rfl (Nat.le_of_ble_eq_true rfl) (fun F C K => ?_)
  have hin6 : ∀ w ∈ u_ws RX6 TX6 8, w ∈ wsX6_about := by decide +kernel
  refine tt_to (lv1 := [(0, .ref (eA E 5 0)), (1, .int b), (2, .int w)]) rfl rfl rfl rfl ?_
  refine tt_aload_n C dX6_about_0 rfl 0 rfl ?_
  refine tt_get (v := .ref (eA E (r 0) 0)) C oT0 rfl hin6 0 (by decide) (List.mem_of_getElem? (i := 1) (by decide +kernel)) rfl dX6_about_1 ?_
  refine tt_iload_n C dX6_about_4 rfl 1 rfl ?_
  refine tt_cVI C (CT_comm hi5 (c_X2_hasBadge E (ub u 5 h) r g (r 0) b hi)) gX6_about_X2_hasBadge rfl ⟨rfl, rfl⟩ 1 (by decide +kernel) ⟨Nat.le_of_ble_eq_true rfl, Nat.le_of_ble_eq_true rfl⟩ rfl (oH0 hi) rfl (Nat.le_of_ble_eq_true rfl) dX6_about_5 rfl ?_
  refine tt_if_eqB C (tgt := 20) dX6_about_8 (by decide) (fun c_1 => ?_) (fun c_1 => ?_)
  · skip
    refine tt_aload_n C dX6_about_20 rfl 0 rfl ?_
    refine tt_bipush (v := (-2 : Int32)) C dX6_about_21 (by decide) ?_
    refine tt_cVI C (c_X6_refuse E (ub u (r 0) g) r h (-2 : Int32) (by decide)) gX6_about_X6_refuse rfl ⟨rfl, rfl⟩ 1 (by decide +kernel) ⟨Nat.le_of_ble_eq_true rfl, Nat.le_of_ble_eq_true rfl⟩ rfl oT0 rfl (Nat.le_of_ble_eq_true rfl) dX6_about_23 rfl ?_
    generalize e_3 : H_ref h (-2 : Int32) = h_2
    exact tt_iret K dX6_about_26 (by subst e_3; rfl) (by subst e_3; rfl) rfl
  · skip
    refine tt_iload_n C dX6_about_11 rfl 2 rfl ?_
    refine tt_bipush (v := nI 6) C dX6_about_12 (by decide) ?_
    refine tt_cSI C (c_X6_isBelow E (ub (ub u (r 0) g) 5 h) r w (nI 6)) gX6_about_X6_isBelow rfl ⟨rfl, rfl⟩ 2 (by decide +kernel) ⟨Nat.le_of_ble_eq_true rfl, Nat.le_of_ble_eq_true rfl⟩ rfl (Nat.le_of_ble_eq_true rfl) dX6_about_14 rfl ?_
    refine tt_if_neB C (tgt := 27) dX6_about_17 (by decide) (fun c_4 => ?_) (fun c_4 => ?_)
    · skip
      exact absurd ⟨(by assumption), c_4⟩ hc
    · skip
      refine tt_aload_n C dX6_about_20 rfl 0 rfl ?_
      refine tt_bipush (v := (-2 : Int32)) C dX6_about_21 (by decide) ?_
      refine tt_cVI C (c_X6_refuse E (ub u (r 0) g) r h (-2 : Int32) (by decide)) gX6_about_X6_refuse rfl ⟨rfl, rfl⟩ 1 (by decide +kernel) ⟨Nat.le_of_ble_eq_true rfl, Nat.le_of_ble_eq_true rfl⟩ rfl oT0 rfl (Nat.le_of_ble_eq_true rfl) dX6_about_23 rfl ?_
      generalize e_6 : H_ref h (-2 : Int32) = h_5
      exact tt_iret K dX6_about_26 (by subst e_6; rfl) (by subst e_6; rfl) rfl

set_option maxHeartbeats 4000000 in
set_option maxRecDepth 100000 in
theorem c_X6_about_O (E : EN) (u : U3) (r : R1) (h : HB) (g : HB) (b : Nat) (w : Nat) (hi : r 0 < 5) (hi5 : r 0 ≠ 5) (hB : vI (g 18 0) 9) (hbm : b < ix (g 18 0)) (hw : w < 6) : CT E yX6_about wsX6_about (rmT 2 42) [.ref (eA E 5 0), .int (nI b), .int (nI w)] (ub (ub u (r 0) g) 5 h) r (some (.int (g (19 + w) b))) (ub (ub u (r 0) g) 5 h) r := by
  refine CT_ofI (cc := cX6_about) (nL := 3) (own := RX6) (by decide) rfl rfl rfl (Nat.le_of_ble_eq_true rfl) (fun F C K => ?_)
  have hin2 : ∀ w ∈ u_ws RX2 TX2 8, w ∈ wsX6_about := by decide +kernel
  have hin6 : ∀ w ∈ u_ws RX6 TX6 8, w ∈ wsX6_about := by decide +kernel
  refine tt_to (lv1 := [(0, .ref (eA E 5 0)), (1, .int (nI b)), (2, .int (nI w))]) rfl rfl rfl rfl ?_
  have hB' := ix_lt hB (by decide)
  have hb : b < 8 := by omega
  refine tt_aload_n C dX6_about_0 rfl 0 rfl ?_
  refine tt_get (v := .ref (eA E (r 0) 0)) C oT0 rfl hin6 0 (by decide) (List.mem_of_getElem? (i := 1) (by decide +kernel)) rfl dX6_about_1 ?_
  refine tt_iload_n C dX6_about_4 rfl 1 rfl ?_
  refine tt_cVI C (CT_comm hi5 (c_X2_hasBadge E (ub u 5 h) r g (r 0) (nI b) hi)) gX6_about_X2_hasBadge rfl ⟨rfl, rfl⟩ 1 (by decide +kernel) ⟨Nat.le_of_ble_eq_true rfl, Nat.le_of_ble_eq_true rfl⟩ rfl (oH0 hi) rfl (Nat.le_of_ble_eq_true rfl) dX6_about_5 rfl ?_
  refine tt_if_eqB C (tgt := 20) dX6_about_8 (by decide) (fun c_1 => ?_) (fun c_1 => ?_)
  · skip
    exact absurd (has_ok hB (by decide) hbm) c_1
  · skip
    refine tt_iload_n C dX6_about_11 rfl 2 rfl ?_
    refine tt_bipush (v := nI 6) C dX6_about_12 (by decide) ?_
    refine tt_cSI C (c_X6_isBelow E (ub (ub u (r 0) g) 5 h) r (nI w) (nI 6)) gX6_about_X6_isBelow rfl ⟨rfl, rfl⟩ 2 (by decide +kernel) ⟨Nat.le_of_ble_eq_true rfl, Nat.le_of_ble_eq_true rfl⟩ rfl (Nat.le_of_ble_eq_true rfl) dX6_about_14 rfl ?_
    refine tt_if_neB C (tgt := 27) dX6_about_17 (by decide) (fun c_2 => ?_) (fun c_2 => ?_)
    · skip
      refine tt_aload_n C dX6_about_27 rfl 0 rfl ?_
      refine tt_get (v := .ref (eA E (r 0) 0)) C oT0 rfl hin6 0 (by decide) (List.mem_of_getElem? (i := 1) (by decide +kernel)) rfl dX6_about_28 ?_
      refine tt_get (v := .ref (eA E (r 0) 18)) C (oH0 hi) rfl hin2 1 (by decide) (List.mem_of_getElem? (i := 2) (by decide +kernel)) rfl dX6_about_31 ?_
      refine tt_iload_n C dX6_about_34 rfl 1 rfl ?_
      refine tt_iload_n C dX6_about_35 rfl 2 rfl ?_
      refine tt_cVI C (CT_comm hi5 (c_X0_fact E (ub u 5 h) r g (r 0) b w hi (by first | assumption | omega) hw)) gX6_about_X0_fact rfl ⟨rfl, rfl⟩ 2 (by decide +kernel) ⟨Nat.le_of_ble_eq_true rfl, Nat.le_of_ble_eq_true rfl⟩ rfl (oH18 hi) rfl (Nat.le_of_ble_eq_true rfl) dX6_about_36 rfl ?_
      exact tt_iret K dX6_about_39 (by rfl) (by rfl) rfl
    · skip
      exact absurd (bel_ok hw (by decide)) c_2

set_option maxHeartbeats 4000000 in
set_option maxRecDepth 100000 in
theorem c_X6_note_B (E : EN) (u : U3) (r : R1) (h : HB) (g : HB) (d : Int32) (i : Int32) (w : Int32) (hi : r 0 < 5) (hi5 : r 0 ≠ 5) (hc : ¬ ((¬ d < 0 ∧ ¬ g 1 0 ≤ d) ∧ ¬ i < 0 ∧ (w = 0 ∨ w = nI 1))) : CT E yX6_note wsX6_note (rmT 2 42) [.ref (eA E 5 0), .int d, .int i, .int w] (ub (ub u (r 0) g) 5 h) r (some (.int (-2))) (ub (ub u (r 0) g) 5 (H_ref h (-2))) r := by
  refine CT_ofI (cc := cX6_note) (nL := 4) (own := RX6) (by decide) rfl rfl rfl (Nat.le_of_ble_eq_true rfl) (fun F C K => ?_)
  have hin6 : ∀ w ∈ u_ws RX6 TX6 8, w ∈ wsX6_note := by decide +kernel
  refine tt_to (lv1 := [(0, .ref (eA E 5 0)), (1, .int d), (2, .int i), (3, .int w)]) rfl rfl rfl rfl ?_
  refine tt_aload_n C dX6_note_0 rfl 0 rfl ?_
  refine tt_get (v := .ref (eA E (r 0) 0)) C oT0 rfl hin6 0 (by decide) (List.mem_of_getElem? (i := 1) (by decide +kernel)) rfl dX6_note_1 ?_
  refine tt_iload_n C dX6_note_4 rfl 1 rfl ?_
  refine tt_cVI C (CT_comm hi5 (c_X2_hasDoor E (ub u 5 h) r g (r 0) d hi)) gX6_note_X2_hasDoor rfl ⟨rfl, rfl⟩ 1 (by decide +kernel) ⟨Nat.le_of_ble_eq_true rfl, Nat.le_of_ble_eq_true rfl⟩ rfl (oH0 hi) rfl (Nat.le_of_ble_eq_true rfl) dX6_note_5 rfl ?_
  refine tt_if_eqB C (tgt := 22) dX6_note_8 (by decide) (fun c_1 => ?_) (fun c_1 => ?_)
  · skip
    refine tt_aload_n C dX6_note_22 rfl 0 rfl ?_
    refine tt_bipush (v := (-2 : Int32)) C dX6_note_23 (by decide) ?_
    refine tt_cVI C (c_X6_refuse E (ub u (r 0) g) r h (-2 : Int32) (by decide)) gX6_note_X6_refuse rfl ⟨rfl, rfl⟩ 1 (by decide +kernel) ⟨Nat.le_of_ble_eq_true rfl, Nat.le_of_ble_eq_true rfl⟩ rfl oT0 rfl (Nat.le_of_ble_eq_true rfl) dX6_note_25 rfl ?_
    generalize e_3 : H_ref h (-2 : Int32) = h_2
    exact tt_iret K dX6_note_28 (by subst e_3; rfl) (by subst e_3; rfl) rfl
  · skip
    refine tt_iload_n C dX6_note_11 rfl 2 rfl ?_
    refine tt_if_lt C (tgt := 22) dX6_note_12 (by decide) Iff.rfl (fun c_4 => ?_) (fun c_4 => ?_)
    · skip
      refine tt_aload_n C dX6_note_22 rfl 0 rfl ?_
      refine tt_bipush (v := (-2 : Int32)) C dX6_note_23 (by decide) ?_
      refine tt_cVI C (c_X6_refuse E (ub u (r 0) g) r h (-2 : Int32) (by decide)) gX6_note_X6_refuse rfl ⟨rfl, rfl⟩ 1 (by decide +kernel) ⟨Nat.le_of_ble_eq_true rfl, Nat.le_of_ble_eq_true rfl⟩ rfl oT0 rfl (Nat.le_of_ble_eq_true rfl) dX6_note_25 rfl ?_
      generalize e_6 : H_ref h (-2 : Int32) = h_5
      exact tt_iret K dX6_note_28 (by subst e_6; rfl) (by subst e_6; rfl) rfl
    · skip
      refine tt_iload_n C dX6_note_15 rfl 3 rfl ?_
      refine tt_cSI C (c_X6_isFlag E (ub (ub u (r 0) g) 5 h) r w) gX6_note_X6_isFlag rfl ⟨rfl, rfl⟩ 1 (by decide +kernel) ⟨Nat.le_of_ble_eq_true rfl, Nat.le_of_ble_eq_true rfl⟩ rfl (Nat.le_of_ble_eq_true rfl) dX6_note_16 rfl ?_
      refine tt_if_neB C (tgt := 29) dX6_note_19 (by decide) (fun c_7 => ?_) (fun c_7 => ?_)
      · skip
        exact absurd ⟨(by assumption), (by assumption), c_7⟩ hc
      · skip
        refine tt_aload_n C dX6_note_22 rfl 0 rfl ?_
        refine tt_bipush (v := (-2 : Int32)) C dX6_note_23 (by decide) ?_
        refine tt_cVI C (c_X6_refuse E (ub u (r 0) g) r h (-2 : Int32) (by decide)) gX6_note_X6_refuse rfl ⟨rfl, rfl⟩ 1 (by decide +kernel) ⟨Nat.le_of_ble_eq_true rfl, Nat.le_of_ble_eq_true rfl⟩ rfl oT0 rfl (Nat.le_of_ble_eq_true rfl) dX6_note_25 rfl ?_
        generalize e_9 : H_ref h (-2 : Int32) = h_8
        exact tt_iret K dX6_note_28 (by subst e_9; rfl) (by subst e_9; rfl) rfl

set_option maxHeartbeats 4000000 in
set_option maxRecDepth 100000 in
theorem c_X6_note_O (E : EN) (u : U3) (r : R1) (h : HB) (g : HB) (d : Nat) (j : Nat) (w : Int32) (hi : r 0 < 5) (hi5 : r 0 ≠ 5) (hD : vI (g 1 0) 9) (hdm : d < ix (g 1 0)) (hn : vI (g 12 d) 21) (hj : j < 2 ^ 31) (hw : w = 0 ∨ w = nI 1) : CT E yX6_note wsX6_note (rmT 2 42) [.ref (eA E 5 0), .int (nI d), .int (nI j), .int w] (ub (ub u (r 0) g) 5 h) r (some (.int (if ix (g 12 d) ≤ j then -1 else if w = 0 then g 13 (d * 20 + j) else g 14 (d * 20 + j)))) (ub (ub u (r 0) g) 5 h) r := by
  refine CT_ofI (cc := cX6_note) (nL := 4) (own := RX6) (by decide) rfl rfl rfl (Nat.le_of_ble_eq_true rfl) (fun F C K => ?_)
  have hin2 : ∀ w ∈ u_ws RX2 TX2 8, w ∈ wsX6_note := by decide +kernel
  have hin6 : ∀ w ∈ u_ws RX6 TX6 8, w ∈ wsX6_note := by decide +kernel
  refine tt_to (lv1 := [(0, .ref (eA E 5 0)), (1, .int (nI d)), (2, .int (nI j)), (3, .int w)]) rfl rfl rfl rfl ?_
  have hD' := ix_lt hD (by decide)
  have hd : d < 8 := by omega
  refine tt_aload_n C dX6_note_0 rfl 0 rfl ?_
  refine tt_get (v := .ref (eA E (r 0) 0)) C oT0 rfl hin6 0 (by decide) (List.mem_of_getElem? (i := 1) (by decide +kernel)) rfl dX6_note_1 ?_
  refine tt_iload_n C dX6_note_4 rfl 1 rfl ?_
  refine tt_cVI C (CT_comm hi5 (c_X2_hasDoor E (ub u 5 h) r g (r 0) (nI d) hi)) gX6_note_X2_hasDoor rfl ⟨rfl, rfl⟩ 1 (by decide +kernel) ⟨Nat.le_of_ble_eq_true rfl, Nat.le_of_ble_eq_true rfl⟩ rfl (oH0 hi) rfl (Nat.le_of_ble_eq_true rfl) dX6_note_5 rfl ?_
  refine tt_if_eqB C (tgt := 22) dX6_note_8 (by decide) (fun c_1 => ?_) (fun c_1 => ?_)
  · skip
    exact absurd (has_ok hD (by decide) hdm) c_1
  · skip
    refine tt_iload_n C dX6_note_11 rfl 2 rfl ?_
    refine tt_if_lt C (tgt := 22) dX6_note_12 (by decide) (nI_lt0 (by omega)) (fun c_2 => ?_) (fun c_2 => ?_)
    · skip
      exact c_2.elim
    · skip
      refine tt_iload_n C dX6_note_15 rfl 3 rfl ?_
      refine tt_cSI C (c_X6_isFlag E (ub (ub u (r 0) g) 5 h) r w) gX6_note_X6_isFlag rfl ⟨rfl, rfl⟩ 1 (by decide +kernel) ⟨Nat.le_of_ble_eq_true rfl, Nat.le_of_ble_eq_true rfl⟩ rfl (Nat.le_of_ble_eq_true rfl) dX6_note_16 rfl ?_
      refine tt_if_neB C (tgt := 29) dX6_note_19 (by decide) (fun c_3 => ?_) (fun c_3 => ?_)
      · skip
        refine tt_aload_n C dX6_note_29 rfl 0 rfl ?_
        refine tt_get (v := .ref (eA E (r 0) 0)) C oT0 rfl hin6 0 (by decide) (List.mem_of_getElem? (i := 1) (by decide +kernel)) rfl dX6_note_30 ?_
        refine tt_get (v := .ref (eA E (r 0) 1)) C (oH0 hi) rfl hin2 0 (by decide) (List.mem_of_getElem? (i := 2) (by decide +kernel)) rfl dX6_note_33 ?_
        refine tt_iload_n C dX6_note_36 rfl 1 rfl ?_
        refine tt_iload_n C dX6_note_37 rfl 2 rfl ?_
        refine tt_iload_n C dX6_note_38 rfl 3 rfl ?_
        refine tt_cVI C (CT_comm hi5 (c_X1_noteFact E (ub u 5 h) r g (r 0) d j w hi (by first | assumption | omega) hn hj)) gX6_note_X1_noteFact rfl ⟨rfl, rfl⟩ 3 (by decide +kernel) ⟨Nat.le_of_ble_eq_true rfl, Nat.le_of_ble_eq_true rfl⟩ rfl (oH1 hi) rfl (Nat.le_of_ble_eq_true rfl) dX6_note_39 rfl ?_
        exact tt_iret K dX6_note_42 (by rfl) (by rfl) rfl
      · skip
        exact absurd hw c_3

set_option maxHeartbeats 4000000 in
set_option maxRecDepth 100000 in
theorem c_X6_muster_B (E : EN) (u : U3) (r : R1) (h : HB) (g : HB) (a : Int32) (hi : r 0 < 5) (hi5 : r 0 ≠ 5) (hc : ¬ (¬ a < 0 ∧ ¬ nI 6 ≤ a)) : CT E yX6_muster wsX6_muster (rmT 2 41) [.ref (eA E 5 0), .int a] (ub (ub u (r 0) g) 5 h) r (some (.int (-2))) (ub (ub u (r 0) g) 5 (H_ref h (-2))) r := by
  refine CT_ofI (cc := cX6_muster) (nL := 2) (own := RX6) (by decide) rfl rfl rfl (Nat.le_of_ble_eq_true rfl) (fun F C K => ?_)
  refine tt_to (lv1 := [(0, .ref (eA E 5 0)), (1, .int a)]) rfl rfl rfl rfl ?_
  refine tt_iload_n C dX6_muster_0 rfl 1 rfl ?_
  refine tt_cSI C (c_X6_isArea E (ub (ub u (r 0) g) 5 h) r a) gX6_muster_X6_isArea rfl ⟨rfl, rfl⟩ 1 (by decide +kernel) ⟨Nat.le_of_ble_eq_true rfl, Nat.le_of_ble_eq_true rfl⟩ rfl (Nat.le_of_ble_eq_true rfl) dX6_muster_1 rfl ?_
  refine tt_if_neB C (tgt := 14) dX6_muster_4 (by decide) (fun c_1 => ?_) (fun c_1 => ?_)
  · skip
    exact absurd c_1 hc
  · skip
    refine tt_aload_n C dX6_muster_7 rfl 0 rfl ?_
    refine tt_bipush (v := (-2 : Int32)) C dX6_muster_8 (by decide) ?_
    refine tt_cVI C (c_X6_refuse E (ub u (r 0) g) r h (-2 : Int32) (by decide)) gX6_muster_X6_refuse rfl ⟨rfl, rfl⟩ 1 (by decide +kernel) ⟨Nat.le_of_ble_eq_true rfl, Nat.le_of_ble_eq_true rfl⟩ rfl oT0 rfl (Nat.le_of_ble_eq_true rfl) dX6_muster_10 rfl ?_
    generalize e_3 : H_ref h (-2 : Int32) = h_2
    exact tt_iret K dX6_muster_13 (by subst e_3; rfl) (by subst e_3; rfl) rfl

set_option maxHeartbeats 4000000 in
set_option maxRecDepth 100000 in
theorem c_X6_muster_O (E : EN) (u : U3) (r : R1) (h : HB) (g : HB) (a : Int32) (hi : r 0 < 5) (hi5 : r 0 ≠ 5) (hB : vI (g 18 0) 9) (ha : ¬ a < 0 ∧ ¬ nI 6 ≤ a) : CT E yX6_muster wsX6_muster (rmT 2 41) [.ref (eA E 5 0), .int a] (ub (ub u (r 0) g) 5 h) r (some (.int (H_bitsB g a (ix (g 18 0))))) (ub (ub u (r 0) g) 5 h) r := by
  refine CT_ofI (cc := cX6_muster) (nL := 2) (own := RX6) (by decide) rfl rfl rfl (Nat.le_of_ble_eq_true rfl) (fun F C K => ?_)
  have hin2 : ∀ w ∈ u_ws RX2 TX2 8, w ∈ wsX6_muster := by decide +kernel
  have hin6 : ∀ w ∈ u_ws RX6 TX6 8, w ∈ wsX6_muster := by decide +kernel
  refine tt_to (lv1 := [(0, .ref (eA E 5 0)), (1, .int a)]) rfl rfl rfl rfl ?_
  refine tt_iload_n C dX6_muster_0 rfl 1 rfl ?_
  refine tt_cSI C (c_X6_isArea E (ub (ub u (r 0) g) 5 h) r a) gX6_muster_X6_isArea rfl ⟨rfl, rfl⟩ 1 (by decide +kernel) ⟨Nat.le_of_ble_eq_true rfl, Nat.le_of_ble_eq_true rfl⟩ rfl (Nat.le_of_ble_eq_true rfl) dX6_muster_1 rfl ?_
  refine tt_if_neB C (tgt := 14) dX6_muster_4 (by decide) (fun c_1 => ?_) (fun c_1 => ?_)
  · skip
    refine tt_aload_n C dX6_muster_14 rfl 0 rfl ?_
    refine tt_get (v := .ref (eA E (r 0) 0)) C oT0 rfl hin6 0 (by decide) (List.mem_of_getElem? (i := 1) (by decide +kernel)) rfl dX6_muster_15 ?_
    refine tt_get (v := .ref (eA E (r 0) 18)) C (oH0 hi) rfl hin2 1 (by decide) (List.mem_of_getElem? (i := 2) (by decide +kernel)) rfl dX6_muster_18 ?_
    refine tt_iload_n C dX6_muster_21 rfl 1 rfl ?_
    refine tt_cVI C (CT_comm hi5 (c_X0_bitsInBut E (ub u 5 h) r g (r 0) a hi hB)) gX6_muster_X0_bitsInBut rfl ⟨rfl, rfl⟩ 1 (by decide +kernel) ⟨Nat.le_of_ble_eq_true rfl, Nat.le_of_ble_eq_true rfl⟩ rfl (oH18 hi) rfl (Nat.le_of_ble_eq_true rfl) dX6_muster_22 rfl ?_
    exact tt_iret K dX6_muster_25 (by rfl) (by rfl) rfl
  · skip
    exact absurd ha c_1

set_option maxHeartbeats 4000000 in
set_option maxRecDepth 100000 in
theorem c_X6_passed_B (E : EN) (u : U3) (r : R1) (h : HB) (g : HB) (i : Int32) (w : Int32) (hi : r 0 < 5) (hi5 : r 0 ≠ 5) (hc : ¬ (¬ i < 0 ∧ (¬ w < 0 ∧ ¬ nI 3 ≤ w))) : CT E yX6_passed wsX6_passed (rmT 1 23) [.ref (eA E 5 0), .int i, .int w] (ub (ub u (r 0) g) 5 h) r (some (.int (-2))) (ub (ub u (r 0) g) 5 (H_ref h (-2))) r := by
  refine CT_ofI (cc := cX6_passed) (nL := 3) (own := RX6) (by decide) rfl rfl rfl (Nat.le_of_ble_eq_true rfl) (fun F C K => ?_)
  refine tt_to (lv1 := [(0, .ref (eA E 5 0)), (1, .int i), (2, .int w)]) rfl rfl rfl rfl ?_
  refine tt_iload_n C dX6_passed_0 rfl 1 rfl ?_
  refine tt_if_lt C (tgt := 12) dX6_passed_1 (by decide) Iff.rfl (fun c_1 => ?_) (fun c_1 => ?_)
  · skip
    refine tt_aload_n C dX6_passed_12 rfl 0 rfl ?_
    refine tt_bipush (v := (-2 : Int32)) C dX6_passed_13 (by decide) ?_
    refine tt_cVI C (c_X6_refuse E (ub u (r 0) g) r h (-2 : Int32) (by decide)) gX6_passed_X6_refuse rfl ⟨rfl, rfl⟩ 1 (by decide +kernel) ⟨Nat.le_of_ble_eq_true rfl, Nat.le_of_ble_eq_true rfl⟩ rfl oT0 rfl (Nat.le_of_ble_eq_true rfl) dX6_passed_15 rfl ?_
    generalize e_3 : H_ref h (-2 : Int32) = h_2
    exact tt_iret K dX6_passed_18 (by subst e_3; rfl) (by subst e_3; rfl) rfl
  · skip
    refine tt_iload_n C dX6_passed_4 rfl 2 rfl ?_
    refine tt_iconst (v := nI 3) C dX6_passed_5 (by decide) ?_
    refine tt_cSI C (c_X6_isBelow E (ub (ub u (r 0) g) 5 h) r w (nI 3)) gX6_passed_X6_isBelow rfl ⟨rfl, rfl⟩ 2 (by decide +kernel) ⟨Nat.le_of_ble_eq_true rfl, Nat.le_of_ble_eq_true rfl⟩ rfl (Nat.le_of_ble_eq_true rfl) dX6_passed_6 rfl ?_
    refine tt_if_neB C (tgt := 19) dX6_passed_9 (by decide) (fun c_4 => ?_) (fun c_4 => ?_)
    · skip
      exact absurd ⟨(by assumption), c_4⟩ hc
    · skip
      refine tt_aload_n C dX6_passed_12 rfl 0 rfl ?_
      refine tt_bipush (v := (-2 : Int32)) C dX6_passed_13 (by decide) ?_
      refine tt_cVI C (c_X6_refuse E (ub u (r 0) g) r h (-2 : Int32) (by decide)) gX6_passed_X6_refuse rfl ⟨rfl, rfl⟩ 1 (by decide +kernel) ⟨Nat.le_of_ble_eq_true rfl, Nat.le_of_ble_eq_true rfl⟩ rfl oT0 rfl (Nat.le_of_ble_eq_true rfl) dX6_passed_15 rfl ?_
      generalize e_6 : H_ref h (-2 : Int32) = h_5
      exact tt_iret K dX6_passed_18 (by subst e_6; rfl) (by subst e_6; rfl) rfl

set_option maxHeartbeats 4000000 in
set_option maxRecDepth 100000 in
theorem c_X6_passed_O (E : EN) (u : U3) (r : R1) (h : HB) (g : HB) (j : Nat) (w : Nat) (hi : r 0 < 5) (hi5 : r 0 ≠ 5) (hm : vI (g 25 0) 65) (ho : ∀ a, a < ix (g 25 0) → vI (g 26 a) 64) (hj : j < 2 ^ 31) (hw : w < 3) : CT E yX6_passed wsX6_passed (rmT 1 23) [.ref (eA E 5 0), .int (nI j), .int (nI w)] (ub (ub u (r 0) g) 5 h) r (some (.int (H_twf g j w))) (ub (ub u (r 0) g) 5 h) r := by
  refine CT_ofI (cc := cX6_passed) (nL := 3) (own := RX6) (by decide) rfl rfl rfl (Nat.le_of_ble_eq_true rfl) (fun F C K => ?_)
  have hin2 : ∀ w ∈ u_ws RX2 TX2 8, w ∈ wsX6_passed := by decide +kernel
  have hin6 : ∀ w ∈ u_ws RX6 TX6 8, w ∈ wsX6_passed := by decide +kernel
  refine tt_to (lv1 := [(0, .ref (eA E 5 0)), (1, .int (nI j)), (2, .int (nI w))]) rfl rfl rfl rfl ?_
  refine tt_iload_n C dX6_passed_0 rfl 1 rfl ?_
  refine tt_if_lt C (tgt := 12) dX6_passed_1 (by decide) (nI_lt0 (by omega)) (fun c_1 => ?_) (fun c_1 => ?_)
  · skip
    exact c_1.elim
  · skip
    refine tt_iload_n C dX6_passed_4 rfl 2 rfl ?_
    refine tt_iconst (v := nI 3) C dX6_passed_5 (by decide) ?_
    refine tt_cSI C (c_X6_isBelow E (ub (ub u (r 0) g) 5 h) r (nI w) (nI 3)) gX6_passed_X6_isBelow rfl ⟨rfl, rfl⟩ 2 (by decide +kernel) ⟨Nat.le_of_ble_eq_true rfl, Nat.le_of_ble_eq_true rfl⟩ rfl (Nat.le_of_ble_eq_true rfl) dX6_passed_6 rfl ?_
    refine tt_if_neB C (tgt := 19) dX6_passed_9 (by decide) (fun c_2 => ?_) (fun c_2 => ?_)
    · skip
      refine tt_aload_n C dX6_passed_19 rfl 0 rfl ?_
      refine tt_get (v := .ref (eA E (r 0) 0)) C oT0 rfl hin6 0 (by decide) (List.mem_of_getElem? (i := 1) (by decide +kernel)) rfl dX6_passed_20 ?_
      refine tt_get (v := .ref (eA E (r 0) 25)) C (oH0 hi) rfl hin2 2 (by decide) (List.mem_of_getElem? (i := 2) (by decide +kernel)) rfl dX6_passed_23 ?_
      refine tt_iload_n C dX6_passed_26 rfl 1 rfl ?_
      refine tt_iload_n C dX6_passed_27 rfl 2 rfl ?_
      refine tt_cVI C (CT_comm hi5 (c_X5_fact E (ub u 5 h) r g (r 0) j w hi hj hm ho hw)) gX6_passed_X5_fact rfl ⟨rfl, rfl⟩ 2 (by decide +kernel) ⟨Nat.le_of_ble_eq_true rfl, Nat.le_of_ble_eq_true rfl⟩ rfl (oH25 hi) rfl (Nat.le_of_ble_eq_true rfl) dX6_passed_28 rfl ?_
      exact tt_iret K dX6_passed_31 (by rfl) (by rfl) rfl
    · skip
      exact absurd (bel_ok hw (by decide)) c_2

set_option maxHeartbeats 4000000 in
set_option maxRecDepth 100000 in
theorem c_X6_count_B (E : EN) (u : U3) (r : R1) (h : HB) (g : HB) (w : Int32) (hi : r 0 < 5) (hi5 : r 0 ≠ 5) (hc : ¬ (¬ w < 0 ∧ ¬ nI 12 ≤ w)) : CT E yX6_count wsX6_count (rmT 3 63) [.ref (eA E 5 0), .int w] (ub (ub u (r 0) g) 5 h) r (some (.int (-2))) (ub (ub u (r 0) g) 5 (H_ref h (-2))) r := by
  refine CT_ofI (cc := cX6_count) (nL := 2) (own := RX6) (by decide) rfl rfl rfl (Nat.le_of_ble_eq_true rfl) (fun F C K => ?_)
  refine tt_to (lv1 := [(0, .ref (eA E 5 0)), (1, .int w)]) rfl rfl rfl rfl ?_
  refine tt_iload_n C dX6_count_0 rfl 1 rfl ?_
  refine tt_bipush (v := nI 12) C dX6_count_1 (by decide) ?_
  refine tt_cSI C (c_X6_isBelow E (ub (ub u (r 0) g) 5 h) r w (nI 12)) gX6_count_X6_isBelow rfl ⟨rfl, rfl⟩ 2 (by decide +kernel) ⟨Nat.le_of_ble_eq_true rfl, Nat.le_of_ble_eq_true rfl⟩ rfl (Nat.le_of_ble_eq_true rfl) dX6_count_3 rfl ?_
  refine tt_if_neB C (tgt := 16) dX6_count_6 (by decide) (fun c_1 => ?_) (fun c_1 => ?_)
  · skip
    exact absurd c_1 hc
  · skip
    refine tt_aload_n C dX6_count_9 rfl 0 rfl ?_
    refine tt_bipush (v := (-2 : Int32)) C dX6_count_10 (by decide) ?_
    refine tt_cVI C (c_X6_refuse E (ub u (r 0) g) r h (-2 : Int32) (by decide)) gX6_count_X6_refuse rfl ⟨rfl, rfl⟩ 1 (by decide +kernel) ⟨Nat.le_of_ble_eq_true rfl, Nat.le_of_ble_eq_true rfl⟩ rfl oT0 rfl (Nat.le_of_ble_eq_true rfl) dX6_count_12 rfl ?_
    generalize e_3 : H_ref h (-2 : Int32) = h_2
    exact tt_iret K dX6_count_15 (by subst e_3; rfl) (by subst e_3; rfl) rfl

set_option maxHeartbeats 4000000 in
set_option maxRecDepth 100000 in
theorem c_X6_count_O (E : EN) (u : U3) (r : R1) (h : HB) (g : HB) (w : Nat) (hi : r 0 < 5) (hi5 : r 0 ≠ 5) (hw : w < 12) : CT E yX6_count wsX6_count (rmT 3 63) [.ref (eA E 5 0), .int (nI w)] (ub (ub u (r 0) g) 5 h) r (some (.int (H_cnt g w))) (ub (ub u (r 0) g) 5 h) r := by
  refine CT_ofI (cc := cX6_count) (nL := 2) (own := RX6) (by decide) rfl rfl rfl (Nat.le_of_ble_eq_true rfl) (fun F C K => ?_)
  have hin6 : ∀ w ∈ u_ws RX6 TX6 8, w ∈ wsX6_count := by decide +kernel
  refine tt_to (lv1 := [(0, .ref (eA E 5 0)), (1, .int (nI w))]) rfl rfl rfl rfl ?_
  refine tt_iload_n C dX6_count_0 rfl 1 rfl ?_
  refine tt_bipush (v := nI 12) C dX6_count_1 (by decide) ?_
  refine tt_cSI C (c_X6_isBelow E (ub (ub u (r 0) g) 5 h) r (nI w) (nI 12)) gX6_count_X6_isBelow rfl ⟨rfl, rfl⟩ 2 (by decide +kernel) ⟨Nat.le_of_ble_eq_true rfl, Nat.le_of_ble_eq_true rfl⟩ rfl (Nat.le_of_ble_eq_true rfl) dX6_count_3 rfl ?_
  refine tt_if_neB C (tgt := 16) dX6_count_6 (by decide) (fun c_1 => ?_) (fun c_1 => ?_)
  · skip
    refine tt_aload_n C dX6_count_16 rfl 0 rfl ?_
    refine tt_get (v := .ref (eA E (r 0) 0)) C oT0 rfl hin6 0 (by decide) (List.mem_of_getElem? (i := 1) (by decide +kernel)) rfl dX6_count_17 ?_
    refine tt_iload_n C dX6_count_20 rfl 1 rfl ?_
    refine tt_cVI C (CT_comm hi5 (c_X2_counted E (ub u 5 h) r g (r 0) w hi hw)) gX6_count_X2_counted rfl ⟨rfl, rfl⟩ 1 (by decide +kernel) ⟨Nat.le_of_ble_eq_true rfl, Nat.le_of_ble_eq_true rfl⟩ rfl (oH0 hi) rfl (Nat.le_of_ble_eq_true rfl) dX6_count_21 rfl ?_
    exact tt_iret K dX6_count_24 (by rfl) (by rfl) rfl
  · skip
    exact absurd (bel_ok hw (by decide)) c_1

def H_told (h g : HB) (w : Nat) : Int32 := if w = 0 then h 0 1 else if w = 1 then h 0 2 else if w = 2 then h 0 3 else if w = 3 then h 2 0 else if w = 4 then g 1 0 else if w = 5 then g 18 0 else h 0 0

set_option maxHeartbeats 4000000 in
set_option maxRecDepth 100000 in
theorem c_X6_toldOf (E : EN) (u : U3) (r : R1) (h : HB) (g : HB) (w : Nat) (hi : r 0 < 5) (hi5 : r 0 ≠ 5) (hw : w < 7) : CT E yX6_toldOf wsX6_toldOf (rmT 0 0) [.ref (eA E 5 0), .int (nI w)] (ub (ub u (r 0) g) 5 h) r (some (.int (H_told h g w))) (ub (ub u (r 0) g) 5 h) r := by
  refine CT_ofI (cc := cX6_toldOf) (nL := 2) (own := RX6) (by decide) rfl rfl rfl (Nat.le_of_ble_eq_true rfl) (fun F C K => ?_)
  have hin0 : ∀ w ∈ u_ws RX0 TX0 7, w ∈ wsX6_toldOf := by decide +kernel
  have hin1 : ∀ w ∈ u_ws RX1 TX1 17, w ∈ wsX6_toldOf := by decide +kernel
  have hin2 : ∀ w ∈ u_ws RX2 TX2 8, w ∈ wsX6_toldOf := by decide +kernel
  have hin4 : ∀ w ∈ u_ws RX4 TX4 5, w ∈ wsX6_toldOf := by decide +kernel
  have hin6 : ∀ w ∈ u_ws RX6 TX6 8, w ∈ wsX6_toldOf := by decide +kernel
  refine tt_to (lv1 := [(0, .ref (eA E 5 0)), (1, .int (nI w))]) rfl rfl rfl rfl ?_
  refine tt_iload_n C dX6_toldOf_0 rfl 1 rfl ?_
  rcases (by omega : w = 0 ∨ w = 1 ∨ w = 2 ∨ w = 3 ∨ w = 4 ∨ w = 5 ∨ w = 6) with rfl | rfl | rfl | rfl | rfl | rfl | rfl
  · skip
    refine tt_tabIn (off := 39) (tgt := 40) C dX6_toldOf_1 (by decide) (by decide) (by decide) (by decide) ?_
    refine tt_aload_n C dX6_toldOf_40 rfl 0 rfl ?_
    refine tt_getI (v := h 0 1) C oT0 rfl hin6 5 (by decide) (List.mem_of_getElem? (i := 1) (by decide +kernel)) rfl (ub_v.trans rfl) dX6_toldOf_41 ?_
    exact tt_iret K dX6_toldOf_44 (by rfl) (by rfl) rfl
  · skip
    refine tt_tabIn (off := 44) (tgt := 45) C dX6_toldOf_1 (by decide) (by decide) (by decide) (by decide) ?_
    refine tt_aload_n C dX6_toldOf_45 rfl 0 rfl ?_
    refine tt_getI (v := h 0 2) C oT0 rfl hin6 6 (by decide) (List.mem_of_getElem? (i := 2) (by decide +kernel)) rfl (ub_v.trans rfl) dX6_toldOf_46 ?_
    exact tt_iret K dX6_toldOf_49 (by rfl) (by rfl) rfl
  · skip
    refine tt_tabIn (off := 49) (tgt := 50) C dX6_toldOf_1 (by decide) (by decide) (by decide) (by decide) ?_
    refine tt_aload_n C dX6_toldOf_50 rfl 0 rfl ?_
    refine tt_getI (v := h 0 3) C oT0 rfl hin6 7 (by decide) (List.mem_of_getElem? (i := 3) (by decide +kernel)) rfl (ub_v.trans rfl) dX6_toldOf_51 ?_
    exact tt_iret K dX6_toldOf_54 (by rfl) (by rfl) rfl
  · skip
    refine tt_tabIn (off := 54) (tgt := 55) C dX6_toldOf_1 (by decide) (by decide) (by decide) (by decide) ?_
    refine tt_aload_n C dX6_toldOf_55 rfl 0 rfl ?_
    refine tt_get (v := .ref (eA E 5 2)) C oT0 rfl hin6 3 (by decide) (List.mem_of_getElem? (i := 4) (by decide +kernel)) rfl dX6_toldOf_56 ?_
    refine tt_getI (v := h 2 0) C oT2 rfl hin4 0 (by decide) (List.mem_of_getElem? (i := 5) (by decide +kernel)) rfl (ub_v.trans rfl) dX6_toldOf_59 ?_
    exact tt_iret K dX6_toldOf_62 (by rfl) (by rfl) rfl
  · skip
    refine tt_tabIn (off := 62) (tgt := 63) C dX6_toldOf_1 (by decide) (by decide) (by decide) (by decide) ?_
    refine tt_aload_n C dX6_toldOf_63 rfl 0 rfl ?_
    refine tt_get (v := .ref (eA E (r 0) 0)) C oT0 rfl hin6 0 (by decide) (List.mem_of_getElem? (i := 6) (by decide +kernel)) rfl dX6_toldOf_64 ?_
    refine tt_get (v := .ref (eA E (r 0) 1)) C (oH0 hi) rfl hin2 0 (by decide) (List.mem_of_getElem? (i := 7) (by decide +kernel)) rfl dX6_toldOf_67 ?_
    refine tt_getI (v := g 1 0) C (oH1 hi) rfl hin1 0 (by decide) (List.mem_of_getElem? (i := 8) (by decide +kernel)) rfl (ub_w hi5) dX6_toldOf_70 ?_
    exact tt_iret K dX6_toldOf_73 (by rfl) (by rfl) rfl
  · skip
    refine tt_tabIn (off := 73) (tgt := 74) C dX6_toldOf_1 (by decide) (by decide) (by decide) (by decide) ?_
    refine tt_aload_n C dX6_toldOf_74 rfl 0 rfl ?_
    refine tt_get (v := .ref (eA E (r 0) 0)) C oT0 rfl hin6 0 (by decide) (List.mem_of_getElem? (i := 6) (by decide +kernel)) rfl dX6_toldOf_75 ?_
    refine tt_get (v := .ref (eA E (r 0) 18)) C (oH0 hi) rfl hin2 1 (by decide) (List.mem_of_getElem? (i := 9) (by decide +kernel)) rfl dX6_toldOf_78 ?_
    refine tt_getI (v := g 18 0) C (oH18 hi) rfl hin0 0 (by decide) (List.mem_of_getElem? (i := 10) (by decide +kernel)) rfl (ub_w hi5) dX6_toldOf_81 ?_
    exact tt_iret K dX6_toldOf_84 (by rfl) (by rfl) rfl
  · skip
    refine tt_tabOut (tgt := 85) C dX6_toldOf_1 (by decide) (by decide) ?_
    refine tt_aload_n C dX6_toldOf_85 rfl 0 rfl ?_
    refine tt_getI (v := h 0 0) C oT0 rfl hin6 2 (by decide) (List.mem_of_getElem? (i := 11) (by decide +kernel)) rfl (ub_v.trans rfl) dX6_toldOf_86 ?_
    exact tt_iret K dX6_toldOf_89 (by rfl) (by rfl) rfl

set_option maxHeartbeats 4000000 in
set_option maxRecDepth 100000 in
theorem c_X6_told_B (E : EN) (u : U3) (r : R1) (h : HB) (g : HB) (w : Int32) (hi : r 0 < 5) (hi5 : r 0 ≠ 5) (hc : ¬ (¬ w < 0 ∧ ¬ nI 7 ≤ w)) : CT E yX6_told wsX6_told (rmT 1 21) [.ref (eA E 5 0), .int w] (ub (ub u (r 0) g) 5 h) r (some (.int (-2))) (ub (ub u (r 0) g) 5 (H_ref h (-2))) r := by
  refine CT_ofI (cc := cX6_told) (nL := 2) (own := RX6) (by decide) rfl rfl rfl (Nat.le_of_ble_eq_true rfl) (fun F C K => ?_)
  refine tt_to (lv1 := [(0, .ref (eA E 5 0)), (1, .int w)]) rfl rfl rfl rfl ?_
  refine tt_iload_n C dX6_told_0 rfl 1 rfl ?_
  refine tt_bipush (v := nI 7) C dX6_told_1 (by decide) ?_
  refine tt_cSI C (c_X6_isBelow E (ub (ub u (r 0) g) 5 h) r w (nI 7)) gX6_told_X6_isBelow rfl ⟨rfl, rfl⟩ 2 (by decide +kernel) ⟨Nat.le_of_ble_eq_true rfl, Nat.le_of_ble_eq_true rfl⟩ rfl (Nat.le_of_ble_eq_true rfl) dX6_told_3 rfl ?_
  refine tt_if_neB C (tgt := 16) dX6_told_6 (by decide) (fun c_1 => ?_) (fun c_1 => ?_)
  · skip
    exact absurd c_1 hc
  · skip
    refine tt_aload_n C dX6_told_9 rfl 0 rfl ?_
    refine tt_bipush (v := (-2 : Int32)) C dX6_told_10 (by decide) ?_
    refine tt_cVI C (c_X6_refuse E (ub u (r 0) g) r h (-2 : Int32) (by decide)) gX6_told_X6_refuse rfl ⟨rfl, rfl⟩ 1 (by decide +kernel) ⟨Nat.le_of_ble_eq_true rfl, Nat.le_of_ble_eq_true rfl⟩ rfl oT0 rfl (Nat.le_of_ble_eq_true rfl) dX6_told_12 rfl ?_
    generalize e_3 : H_ref h (-2 : Int32) = h_2
    exact tt_iret K dX6_told_15 (by subst e_3; rfl) (by subst e_3; rfl) rfl

set_option maxHeartbeats 4000000 in
set_option maxRecDepth 100000 in
theorem c_X6_told_O (E : EN) (u : U3) (r : R1) (h : HB) (g : HB) (w : Nat) (hi : r 0 < 5) (hi5 : r 0 ≠ 5) (hw : w < 7) : CT E yX6_told wsX6_told (rmT 1 21) [.ref (eA E 5 0), .int (nI w)] (ub (ub u (r 0) g) 5 h) r (some (.int (H_told h g w))) (ub (ub u (r 0) g) 5 h) r := by
  refine CT_ofI (cc := cX6_told) (nL := 2) (own := RX6) (by decide) rfl rfl rfl (Nat.le_of_ble_eq_true rfl) (fun F C K => ?_)
  refine tt_to (lv1 := [(0, .ref (eA E 5 0)), (1, .int (nI w))]) rfl rfl rfl rfl ?_
  refine tt_iload_n C dX6_told_0 rfl 1 rfl ?_
  refine tt_bipush (v := nI 7) C dX6_told_1 (by decide) ?_
  refine tt_cSI C (c_X6_isBelow E (ub (ub u (r 0) g) 5 h) r (nI w) (nI 7)) gX6_told_X6_isBelow rfl ⟨rfl, rfl⟩ 2 (by decide +kernel) ⟨Nat.le_of_ble_eq_true rfl, Nat.le_of_ble_eq_true rfl⟩ rfl (Nat.le_of_ble_eq_true rfl) dX6_told_3 rfl ?_
  refine tt_if_neB C (tgt := 16) dX6_told_6 (by decide) (fun c_1 => ?_) (fun c_1 => ?_)
  · skip
    refine tt_aload_n C dX6_told_16 rfl 0 rfl ?_
    refine tt_iload_n C dX6_told_17 rfl 1 rfl ?_
    refine tt_cVI C (c_X6_toldOf E u r h g w hi hi5 hw) gX6_told_X6_toldOf rfl ⟨rfl, rfl⟩ 1 (by decide +kernel) ⟨Nat.le_of_ble_eq_true rfl, Nat.le_of_ble_eq_true rfl⟩ rfl oT0 rfl (Nat.le_of_ble_eq_true rfl) dX6_told_18 rfl ?_
    exact tt_iret K dX6_told_21 (by rfl) (by rfl) rfl
  · skip
    exact absurd (bel_ok hw (by decide)) c_1

set_option maxHeartbeats 4000000 in
set_option maxRecDepth 100000 in
theorem c_X6_mix (E : EN) (u : U3) (r : R1) (x : Int64) (v : Int32)  : CT E yX6_mix wsX6_mix (rmT 0 0) [.long x, .int v] (u) r (some (.long (31 * x + v.toInt64))) (u) r := by
  refine CT_ofL (cc := cX6_mix) (nL := 3) (own := RX6) (by decide) rfl rfl (Nat.le_of_ble_eq_true rfl) (fun F C K => ?_)
  refine tt_to (lv1 := [(0, .long x), (2, .int v)]) rfl rfl rfl rfl ?_
  refine tt_ldc2 (v := 31) C (List.mem_of_getElem? (i := 1) (by decide +kernel)) dX6_mix_0 ?_
  refine tt_lload_n C dX6_mix_3 rfl 0 rfl ?_
  refine tt_lmul C dX6_mix_4 rfl ?_
  refine tt_iload_n C dX6_mix_5 rfl 1 rfl ?_
  refine tt_i2l C dX6_mix_6 rfl ?_
  refine tt_ladd C dX6_mix_7 rfl ?_
  exact tt_lret K dX6_mix_8 (by rfl) rfl rfl
