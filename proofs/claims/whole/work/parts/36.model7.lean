def M_ref (h : HB) (v : Int32) : HB := up2 h 4 (ix ((-2 : Int32) - v)) (h 4 (ix ((-2 : Int32) - v)) + nI 1)
theorem nref {n : Nat} (hn : n < 2 ^ 30) : ¬ (¬ (-2 : Int32) < nI n ∧ ¬ nI n < (-4 : Int32)) := fun z => z.1 (Int32.lt_of_lt_of_le (by decide) (nI_pos' (by omega)))
abbrev M_sv (h : HB) : HB := M_bring h 1 0 2 0

def M_abD (h : HB) (d w : Nat) : Int32 := if w = 8 then (if h 1 (60 * d + 8) = h 1 528 then nI 1 else nI 0) else if w = 10 then h 1 (60 * d + 19) else h 1 (60 * d + w)
set_option maxHeartbeats 4000000 in
set_option maxRecDepth 100000 in
theorem c_X7_aboutDoor (E : EN) (u : U3) (r : R1) (h : HB) (d : Nat) (w : Nat) (hd : d < 8) (hw : w < 11) : CT E yX7_aboutDoor wsX7_aboutDoor (rmT 2 43) [.ref (eA E 6 0), .int (nI d), .int (nI w)] (ub u 6 h) r (some (.int (M_abD h d w))) (ub u 6 h) r := by
  refine CT_ofI (cc := cX7_aboutDoor) (nL := 3) (own := RX7) (by decide) rfl rfl rfl (Nat.le_of_ble_eq_true rfl) (fun F C K => ?_)
  refine tt_to (lv1 := [(0, .ref (eA E 6 0)), (1, .int (nI d)), (2, .int (nI w))]) rfl rfl rfl rfl ?_
  refine tt_iload_n C dX7_aboutDoor_0 rfl 2 rfl ?_
  refine tt_bipush (v := nI 8) C dX7_aboutDoor_1 (by decide) ?_
  refine tt_icmp_ne C (tgt := 22) dX7_aboutDoor_3 (by decide) (nI_eq (by omega) (by omega)) (fun c_1 => ?_) (fun c_1 => ?_)
  · skip
    refine tt_iload_n C dX7_aboutDoor_22 rfl 2 rfl ?_
    refine tt_bipush (v := nI 10) C dX7_aboutDoor_23 (by decide) ?_
    refine tt_icmp_ne C (tgt := 38) dX7_aboutDoor_25 (by decide) (nI_eq (by omega) (by omega)) (fun c_2 => ?_) (fun c_2 => ?_)
    · skip
      refine tt_aload_n C dX7_aboutDoor_38 rfl 0 rfl ?_
      refine tt_iload_n C dX7_aboutDoor_39 rfl 1 rfl ?_
      refine tt_iload_n C dX7_aboutDoor_40 rfl 2 rfl ?_
      refine tt_cVI C (c_X7_ofDoor E u r h d w hd (by first | assumption | omega)) gX7_aboutDoor_X7_ofDoor rfl ⟨rfl, rfl⟩ 2 (by decide +kernel) ⟨Nat.le_of_ble_eq_true rfl, Nat.le_of_ble_eq_true rfl⟩ rfl oM0 rfl (Nat.le_of_ble_eq_true rfl) dX7_aboutDoor_41 rfl ?_
      exact tt_iret K dX7_aboutDoor_44 (by simp only [M_abD, eq_true c_1, c_1, eq_true c_2, c_2, not_false_eq_true, not_true_eq_false, and_true, true_and, and_false, false_and, and_self, or_true, true_or, or_false, false_or, or_self, if_true, if_false] <;> first | rfl | (simp; done)) (by first | rfl | (simp [c_1, c_2, M_abD]; done) | (refine congrArg _ ?_; grind [M_abD])) rfl
    · skip
      refine tt_aload_n C dX7_aboutDoor_28 rfl 0 rfl ?_
      refine tt_iload_n C dX7_aboutDoor_29 rfl 1 rfl ?_
      refine tt_bipush (v := nI 19) C dX7_aboutDoor_30 (by decide) ?_
      refine tt_cVI C (c_X7_ofDoor E u r h d 19 hd (by first | assumption | omega)) gX7_aboutDoor_X7_ofDoor rfl ⟨rfl, rfl⟩ 2 (by decide +kernel) ⟨Nat.le_of_ble_eq_true rfl, Nat.le_of_ble_eq_true rfl⟩ rfl oM0 rfl (Nat.le_of_ble_eq_true rfl) dX7_aboutDoor_32 rfl ?_
      refine tt_goto (tgt := 44) C dX7_aboutDoor_35 (by decide) ?_
      exact tt_iret K dX7_aboutDoor_44 (by simp only [M_abD, eq_true c_1, c_1, eq_true c_2, c_2, not_false_eq_true, not_true_eq_false, and_true, true_and, and_false, false_and, and_self, or_true, true_or, or_false, false_or, or_self, if_true, if_false] <;> first | rfl | (simp; done)) (by first | rfl | (simp [c_1, c_2, M_abD]; done) | (refine congrArg _ ?_; grind [M_abD])) rfl
  · skip
    refine tt_aload_n C dX7_aboutDoor_6 rfl 0 rfl ?_
    refine tt_iload_n C dX7_aboutDoor_7 rfl 1 rfl ?_
    refine tt_cVI C (c_X7_isOpen_D E u r h d hd) gX7_aboutDoor_X7_isOpen rfl ⟨rfl, rfl⟩ 1 (by decide +kernel) ⟨Nat.le_of_ble_eq_true rfl, Nat.le_of_ble_eq_true rfl⟩ rfl oM0 rfl (Nat.le_of_ble_eq_true rfl) dX7_aboutDoor_8 rfl ?_
    refine tt_if_eqB C (tgt := 18) dX7_aboutDoor_11 (by decide) (fun c_3 => ?_) (fun c_3 => ?_)
    · skip
      refine tt_iconst (v := nI 0) C dX7_aboutDoor_18 (by decide) ?_
      refine tt_goto (tgt := 44) C dX7_aboutDoor_19 (by decide) ?_
      exact tt_iret K dX7_aboutDoor_44 (by simp only [M_abD, eq_true c_1, c_1, eq_true c_3, c_3, not_false_eq_true, not_true_eq_false, and_true, true_and, and_false, false_and, and_self, or_true, true_or, or_false, false_or, or_self, if_true, if_false] <;> first | rfl | (simp; done)) (by first | rfl | (simp [c_1, c_3, M_abD]; done) | (refine congrArg _ ?_; grind [M_abD])) rfl
    · skip
      refine tt_iconst (v := nI 1) C dX7_aboutDoor_14 (by decide) ?_
      refine tt_goto (tgt := 44) C dX7_aboutDoor_15 (by decide) ?_
      exact tt_iret K dX7_aboutDoor_44 (by simp only [M_abD, eq_true c_1, c_1, eq_true c_3, c_3, not_false_eq_true, not_true_eq_false, and_true, true_and, and_false, false_and, and_self, or_true, true_or, or_false, false_or, or_self, if_true, if_false] <;> first | rfl | (simp; done)) (by first | rfl | (simp [c_1, c_3, M_abD]; done) | (refine congrArg _ ?_; grind [M_abD])) rfl

set_option maxHeartbeats 4000000 in
set_option maxRecDepth 100000 in
theorem c_X7_of_B (E : EN) (u : U3) (r : R1) (h : HB) (d : Int32) (w : Int32) (hc : ¬ ((¬ d < nI 0 ∧ ¬ h 1 529 - nI 1 < d) ∧ (¬ w < nI 0 ∧ ¬ nI 10 < w))) : CT E yX7_of wsX7_of (rmT 3 65) [.ref (eA E 6 0), .int d, .int w] (ub u 6 h) r (some (.int (-2))) (ub u 6 (M_ref h (-2))) r := by
  refine CT_ofI (cc := cX7_of) (nL := 3) (own := RX7) (by decide) rfl rfl rfl (Nat.le_of_ble_eq_true rfl) (fun F C K => ?_)
  refine tt_to (lv1 := [(0, .ref (eA E 6 0)), (1, .int d), (2, .int w)]) rfl rfl rfl rfl ?_
  refine tt_aload_n C dX7_of_0 rfl 0 rfl ?_
  refine tt_iload_n C dX7_of_1 rfl 1 rfl ?_
  refine tt_cVI C (c_X7_isDoor E u r h d) gX7_of_X7_isDoor rfl ⟨rfl, rfl⟩ 1 (by decide +kernel) ⟨Nat.le_of_ble_eq_true rfl, Nat.le_of_ble_eq_true rfl⟩ rfl oM0 rfl (Nat.le_of_ble_eq_true rfl) dX7_of_2 rfl ?_
  refine tt_if_eqB C (tgt := 27) dX7_of_5 (by decide) (fun c_1 => ?_) (fun c_1 => ?_)
  · skip
    refine tt_aload_n C dX7_of_27 rfl 0 rfl ?_
    refine tt_bipush (v := (-2 : Int32)) C dX7_of_28 (by decide) ?_
    refine tt_cVI C (c_X7_refuse E u r h (-2 : Int32) ⟨0, by decide, by decide⟩) gX7_of_X7_refuse rfl ⟨rfl, rfl⟩ 1 (by decide +kernel) ⟨Nat.le_of_ble_eq_true rfl, Nat.le_of_ble_eq_true rfl⟩ rfl oM0 rfl (Nat.le_of_ble_eq_true rfl) dX7_of_30 rfl ?_
    generalize e_3 : M_ref h (-2 : Int32) = h_2
    exact tt_iret K dX7_of_33 (by subst e_3; rfl) (by subst e_3; rfl) rfl
  · skip
    refine tt_iload_n C dX7_of_8 rfl 2 rfl ?_
    refine tt_iconst (v := nI 0) C dX7_of_9 (by decide) ?_
    refine tt_bipush (v := nI 10) C dX7_of_10 (by decide) ?_
    refine tt_cSI C (c_X7_in E (ub u 6 h) r w (nI 0) (nI 10)) gX7_of_X7_in rfl ⟨rfl, rfl⟩ 3 (by decide +kernel) ⟨Nat.le_of_ble_eq_true rfl, Nat.le_of_ble_eq_true rfl⟩ rfl (Nat.le_of_ble_eq_true rfl) dX7_of_12 rfl ?_
    refine tt_if_eqB C (tgt := 27) dX7_of_15 (by decide) (fun c_4 => ?_) (fun c_4 => ?_)
    · skip
      refine tt_aload_n C dX7_of_27 rfl 0 rfl ?_
      refine tt_bipush (v := (-2 : Int32)) C dX7_of_28 (by decide) ?_
      refine tt_cVI C (c_X7_refuse E u r h (-2 : Int32) ⟨0, by decide, by decide⟩) gX7_of_X7_refuse rfl ⟨rfl, rfl⟩ 1 (by decide +kernel) ⟨Nat.le_of_ble_eq_true rfl, Nat.le_of_ble_eq_true rfl⟩ rfl oM0 rfl (Nat.le_of_ble_eq_true rfl) dX7_of_30 rfl ?_
      generalize e_6 : M_ref h (-2 : Int32) = h_5
      exact tt_iret K dX7_of_33 (by subst e_6; rfl) (by subst e_6; rfl) rfl
    · skip
      exact absurd ⟨c_1, c_4⟩ hc

set_option maxHeartbeats 4000000 in
set_option maxRecDepth 100000 in
theorem c_X7_of_O (E : EN) (u : U3) (r : R1) (h : HB) (d : Nat) (w : Nat) (hD : vI (h 1 529) 9) (hdm : d < ix (h 1 529)) (hw : w < 11) : CT E yX7_of wsX7_of (rmT 3 65) [.ref (eA E 6 0), .int (nI d), .int (nI w)] (ub u 6 h) r (some (.int (M_abD h d w))) (ub u 6 h) r := by
  refine CT_ofI (cc := cX7_of) (nL := 3) (own := RX7) (by decide) rfl rfl rfl (Nat.le_of_ble_eq_true rfl) (fun F C K => ?_)
  refine tt_to (lv1 := [(0, .ref (eA E 6 0)), (1, .int (nI d)), (2, .int (nI w))]) rfl rfl rfl rfl ?_
  have hD' := ix_lt hD (by decide)
  have hd : d < 8 := by omega
  refine tt_aload_n C dX7_of_0 rfl 0 rfl ?_
  refine tt_iload_n C dX7_of_1 rfl 1 rfl ?_
  refine tt_cVI C (c_X7_isDoor E u r h (nI d)) gX7_of_X7_isDoor rfl ⟨rfl, rfl⟩ 1 (by decide +kernel) ⟨Nat.le_of_ble_eq_true rfl, Nat.le_of_ble_eq_true rfl⟩ rfl oM0 rfl (Nat.le_of_ble_eq_true rfl) dX7_of_2 rfl ?_
  refine tt_if_eqB C (tgt := 27) dX7_of_5 (by decide) (fun c_1 => ?_) (fun c_1 => ?_)
  · skip
    exact absurd (in_ok hD (by decide) hdm) c_1
  · skip
    refine tt_iload_n C dX7_of_8 rfl 2 rfl ?_
    refine tt_iconst (v := nI 0) C dX7_of_9 (by decide) ?_
    refine tt_bipush (v := nI 10) C dX7_of_10 (by decide) ?_
    refine tt_cSI C (c_X7_in E (ub u 6 h) r (nI w) (nI 0) (nI 10)) gX7_of_X7_in rfl ⟨rfl, rfl⟩ 3 (by decide +kernel) ⟨Nat.le_of_ble_eq_true rfl, Nat.le_of_ble_eq_true rfl⟩ rfl (Nat.le_of_ble_eq_true rfl) dX7_of_12 rfl ?_
    refine tt_if_eqB C (tgt := 27) dX7_of_15 (by decide) (fun c_2 => ?_) (fun c_2 => ?_)
    · skip
      exact absurd (show ¬ nI w < nI 0 ∧ ¬ nI 10 < nI w from ⟨nI_nlt (by omega) (by omega), nI_nlt (by omega) (by omega)⟩) c_2
    · skip
      refine tt_aload_n C dX7_of_18 rfl 0 rfl ?_
      refine tt_iload_n C dX7_of_19 rfl 1 rfl ?_
      refine tt_iload_n C dX7_of_20 rfl 2 rfl ?_
      refine tt_cVI C (c_X7_aboutDoor E u r h d w (by first | assumption | omega) hw) gX7_of_X7_aboutDoor rfl ⟨rfl, rfl⟩ 2 (by decide +kernel) ⟨Nat.le_of_ble_eq_true rfl, Nat.le_of_ble_eq_true rfl⟩ rfl oM0 rfl (Nat.le_of_ble_eq_true rfl) dX7_of_21 rfl ?_
      refine tt_goto (tgt := 33) C dX7_of_24 (by decide) ?_
      exact tt_iret K dX7_of_33 (by rfl) (by rfl) rfl

set_option maxHeartbeats 4000000 in
set_option maxRecDepth 100000 in
theorem c_X7_about_B (E : EN) (u : U3) (r : R1) (h : HB) (b : Int32) (w : Int32) (hc : ¬ ((¬ b < nI 0 ∧ ¬ h 1 530 - nI 1 < b) ∧ (¬ w < nI 0 ∧ ¬ nI 5 < w))) : CT E yX7_about wsX7_about (rmT 2 43) [.ref (eA E 6 0), .int b, .int w] (ub u 6 h) r (some (.int (-2))) (ub u 6 (M_ref h (-2))) r := by
  refine CT_ofI (cc := cX7_about) (nL := 3) (own := RX7) (by decide) rfl rfl rfl (Nat.le_of_ble_eq_true rfl) (fun F C K => ?_)
  refine tt_to (lv1 := [(0, .ref (eA E 6 0)), (1, .int b), (2, .int w)]) rfl rfl rfl rfl ?_
  refine tt_aload_n C dX7_about_0 rfl 0 rfl ?_
  refine tt_iload_n C dX7_about_1 rfl 1 rfl ?_
  refine tt_cVI C (c_X7_isBadge E u r h b) gX7_about_X7_isBadge rfl ⟨rfl, rfl⟩ 1 (by decide +kernel) ⟨Nat.le_of_ble_eq_true rfl, Nat.le_of_ble_eq_true rfl⟩ rfl oM0 rfl (Nat.le_of_ble_eq_true rfl) dX7_about_2 rfl ?_
  refine tt_if_eqB C (tgt := 26) dX7_about_5 (by decide) (fun c_1 => ?_) (fun c_1 => ?_)
  · skip
    refine tt_aload_n C dX7_about_26 rfl 0 rfl ?_
    refine tt_bipush (v := (-2 : Int32)) C dX7_about_27 (by decide) ?_
    refine tt_cVI C (c_X7_refuse E u r h (-2 : Int32) ⟨0, by decide, by decide⟩) gX7_about_X7_refuse rfl ⟨rfl, rfl⟩ 1 (by decide +kernel) ⟨Nat.le_of_ble_eq_true rfl, Nat.le_of_ble_eq_true rfl⟩ rfl oM0 rfl (Nat.le_of_ble_eq_true rfl) dX7_about_29 rfl ?_
    generalize e_3 : M_ref h (-2 : Int32) = h_2
    exact tt_iret K dX7_about_32 (by subst e_3; rfl) (by subst e_3; rfl) rfl
  · skip
    refine tt_iload_n C dX7_about_8 rfl 2 rfl ?_
    refine tt_iconst (v := nI 0) C dX7_about_9 (by decide) ?_
    refine tt_iconst (v := nI 5) C dX7_about_10 (by decide) ?_
    refine tt_cSI C (c_X7_in E (ub u 6 h) r w (nI 0) (nI 5)) gX7_about_X7_in rfl ⟨rfl, rfl⟩ 3 (by decide +kernel) ⟨Nat.le_of_ble_eq_true rfl, Nat.le_of_ble_eq_true rfl⟩ rfl (Nat.le_of_ble_eq_true rfl) dX7_about_11 rfl ?_
    refine tt_if_eqB C (tgt := 26) dX7_about_14 (by decide) (fun c_4 => ?_) (fun c_4 => ?_)
    · skip
      refine tt_aload_n C dX7_about_26 rfl 0 rfl ?_
      refine tt_bipush (v := (-2 : Int32)) C dX7_about_27 (by decide) ?_
      refine tt_cVI C (c_X7_refuse E u r h (-2 : Int32) ⟨0, by decide, by decide⟩) gX7_about_X7_refuse rfl ⟨rfl, rfl⟩ 1 (by decide +kernel) ⟨Nat.le_of_ble_eq_true rfl, Nat.le_of_ble_eq_true rfl⟩ rfl oM0 rfl (Nat.le_of_ble_eq_true rfl) dX7_about_29 rfl ?_
      generalize e_6 : M_ref h (-2 : Int32) = h_5
      exact tt_iret K dX7_about_32 (by subst e_6; rfl) (by subst e_6; rfl) rfl
    · skip
      exact absurd ⟨c_1, c_4⟩ hc

set_option maxHeartbeats 4000000 in
set_option maxRecDepth 100000 in
theorem c_X7_about_O (E : EN) (u : U3) (r : R1) (h : HB) (b : Nat) (w : Nat) (hB : vI (h 1 530) 9) (hbm : b < ix (h 1 530)) (hw : w < 6) : CT E yX7_about wsX7_about (rmT 2 43) [.ref (eA E 6 0), .int (nI b), .int (nI w)] (ub u 6 h) r (some (.int (h 1 (480 + 6 * b + w)))) (ub u 6 h) r := by
  refine CT_ofI (cc := cX7_about) (nL := 3) (own := RX7) (by decide) rfl rfl rfl (Nat.le_of_ble_eq_true rfl) (fun F C K => ?_)
  refine tt_to (lv1 := [(0, .ref (eA E 6 0)), (1, .int (nI b)), (2, .int (nI w))]) rfl rfl rfl rfl ?_
  have hB' := ix_lt hB (by decide)
  have hb : b < 8 := by omega
  refine tt_aload_n C dX7_about_0 rfl 0 rfl ?_
  refine tt_iload_n C dX7_about_1 rfl 1 rfl ?_
  refine tt_cVI C (c_X7_isBadge E u r h (nI b)) gX7_about_X7_isBadge rfl ⟨rfl, rfl⟩ 1 (by decide +kernel) ⟨Nat.le_of_ble_eq_true rfl, Nat.le_of_ble_eq_true rfl⟩ rfl oM0 rfl (Nat.le_of_ble_eq_true rfl) dX7_about_2 rfl ?_
  refine tt_if_eqB C (tgt := 26) dX7_about_5 (by decide) (fun c_1 => ?_) (fun c_1 => ?_)
  · skip
    exact absurd (in_ok hB (by decide) hbm) c_1
  · skip
    refine tt_iload_n C dX7_about_8 rfl 2 rfl ?_
    refine tt_iconst (v := nI 0) C dX7_about_9 (by decide) ?_
    refine tt_iconst (v := nI 5) C dX7_about_10 (by decide) ?_
    refine tt_cSI C (c_X7_in E (ub u 6 h) r (nI w) (nI 0) (nI 5)) gX7_about_X7_in rfl ⟨rfl, rfl⟩ 3 (by decide +kernel) ⟨Nat.le_of_ble_eq_true rfl, Nat.le_of_ble_eq_true rfl⟩ rfl (Nat.le_of_ble_eq_true rfl) dX7_about_11 rfl ?_
    refine tt_if_eqB C (tgt := 26) dX7_about_14 (by decide) (fun c_2 => ?_) (fun c_2 => ?_)
    · skip
      exact absurd (show ¬ nI w < nI 0 ∧ ¬ nI 5 < nI w from ⟨nI_nlt (by omega) (by omega), nI_nlt (by omega) (by omega)⟩) c_2
    · skip
      refine tt_aload_n C dX7_about_17 rfl 0 rfl ?_
      refine tt_iload_n C dX7_about_18 rfl 1 rfl ?_
      refine tt_iload_n C dX7_about_19 rfl 2 rfl ?_
      refine tt_cVI C (c_X7_ofBadge E u r h b w (by first | assumption | omega) hw) gX7_about_X7_ofBadge rfl ⟨rfl, rfl⟩ 2 (by decide +kernel) ⟨Nat.le_of_ble_eq_true rfl, Nat.le_of_ble_eq_true rfl⟩ rfl oM0 rfl (Nat.le_of_ble_eq_true rfl) dX7_about_20 rfl ?_
      refine tt_goto (tgt := 32) C dX7_about_23 (by decide) ?_
      exact tt_iret K dX7_about_32 (by rfl) (by rfl) rfl

set_option maxHeartbeats 4000000 in
set_option maxRecDepth 100000 in
theorem c_X7_note_B (E : EN) (u : U3) (r : R1) (h : HB) (d : Int32) (i : Int32) (w : Int32) (hc : ¬ ((¬ d < nI 0 ∧ ¬ h 1 529 - nI 1 < d) ∧ ¬ i < 0 ∧ (¬ w < nI 0 ∧ ¬ nI 1 < w))) : CT E yX7_note wsX7_note (rmT 2 43) [.ref (eA E 6 0), .int d, .int i, .int w] (ub u 6 h) r (some (.int (-2))) (ub u 6 (M_ref h (-2))) r := by
  refine CT_ofI (cc := cX7_note) (nL := 4) (own := RX7) (by decide) rfl rfl rfl (Nat.le_of_ble_eq_true rfl) (fun F C K => ?_)
  refine tt_to (lv1 := [(0, .ref (eA E 6 0)), (1, .int d), (2, .int i), (3, .int w)]) rfl rfl rfl rfl ?_
  refine tt_aload_n C dX7_note_0 rfl 0 rfl ?_
  refine tt_iload_n C dX7_note_1 rfl 1 rfl ?_
  refine tt_cVI C (c_X7_isDoor E u r h d) gX7_note_X7_isDoor rfl ⟨rfl, rfl⟩ 1 (by decide +kernel) ⟨Nat.le_of_ble_eq_true rfl, Nat.le_of_ble_eq_true rfl⟩ rfl oM0 rfl (Nat.le_of_ble_eq_true rfl) dX7_note_2 rfl ?_
  refine tt_if_eqB C (tgt := 21) dX7_note_5 (by decide) (fun c_1 => ?_) (fun c_1 => ?_)
  · skip
    refine tt_aload_n C dX7_note_21 rfl 0 rfl ?_
    refine tt_bipush (v := (-2 : Int32)) C dX7_note_22 (by decide) ?_
    refine tt_cVI C (c_X7_refuse E u r h (-2 : Int32) ⟨0, by decide, by decide⟩) gX7_note_X7_refuse rfl ⟨rfl, rfl⟩ 1 (by decide +kernel) ⟨Nat.le_of_ble_eq_true rfl, Nat.le_of_ble_eq_true rfl⟩ rfl oM0 rfl (Nat.le_of_ble_eq_true rfl) dX7_note_24 rfl ?_
    generalize e_3 : M_ref h (-2 : Int32) = h_2
    exact tt_iret K dX7_note_27 (by subst e_3; rfl) (by subst e_3; rfl) rfl
  · skip
    refine tt_iload_n C dX7_note_8 rfl 2 rfl ?_
    refine tt_if_lt C (tgt := 21) dX7_note_9 (by decide) Iff.rfl (fun c_4 => ?_) (fun c_4 => ?_)
    · skip
      refine tt_aload_n C dX7_note_21 rfl 0 rfl ?_
      refine tt_bipush (v := (-2 : Int32)) C dX7_note_22 (by decide) ?_
      refine tt_cVI C (c_X7_refuse E u r h (-2 : Int32) ⟨0, by decide, by decide⟩) gX7_note_X7_refuse rfl ⟨rfl, rfl⟩ 1 (by decide +kernel) ⟨Nat.le_of_ble_eq_true rfl, Nat.le_of_ble_eq_true rfl⟩ rfl oM0 rfl (Nat.le_of_ble_eq_true rfl) dX7_note_24 rfl ?_
      generalize e_6 : M_ref h (-2 : Int32) = h_5
      exact tt_iret K dX7_note_27 (by subst e_6; rfl) (by subst e_6; rfl) rfl
    · skip
      refine tt_iload_n C dX7_note_12 rfl 3 rfl ?_
      refine tt_iconst (v := nI 0) C dX7_note_13 (by decide) ?_
      refine tt_iconst (v := nI 1) C dX7_note_14 (by decide) ?_
      refine tt_cSI C (c_X7_in E (ub u 6 h) r w (nI 0) (nI 1)) gX7_note_X7_in rfl ⟨rfl, rfl⟩ 3 (by decide +kernel) ⟨Nat.le_of_ble_eq_true rfl, Nat.le_of_ble_eq_true rfl⟩ rfl (Nat.le_of_ble_eq_true rfl) dX7_note_15 rfl ?_
      refine tt_if_neB C (tgt := 28) dX7_note_18 (by decide) (fun c_7 => ?_) (fun c_7 => ?_)
      · skip
        exact absurd ⟨c_1, (by assumption), c_7⟩ hc
      · skip
        refine tt_aload_n C dX7_note_21 rfl 0 rfl ?_
        refine tt_bipush (v := (-2 : Int32)) C dX7_note_22 (by decide) ?_
        refine tt_cVI C (c_X7_refuse E u r h (-2 : Int32) ⟨0, by decide, by decide⟩) gX7_note_X7_refuse rfl ⟨rfl, rfl⟩ 1 (by decide +kernel) ⟨Nat.le_of_ble_eq_true rfl, Nat.le_of_ble_eq_true rfl⟩ rfl oM0 rfl (Nat.le_of_ble_eq_true rfl) dX7_note_24 rfl ?_
        generalize e_9 : M_ref h (-2 : Int32) = h_8
        exact tt_iret K dX7_note_27 (by subst e_9; rfl) (by subst e_9; rfl) rfl

def M_noteR (h : HB) (d i w : Nat) : Int32 := if ix (h 1 (60 * d + 19)) ≤ i then -1 else h 1 (60 * d + (20 + 2 * i + w))
set_option maxHeartbeats 4000000 in
set_option maxRecDepth 100000 in
theorem c_X7_note_O (E : EN) (u : U3) (r : R1) (h : HB) (d : Nat) (i : Nat) (w : Nat) (hD : vI (h 1 529) 9) (hdm : d < ix (h 1 529)) (hii : i < 2 ^ 31) (hw : w < 2) (hn : vI (h 1 (60 * d + 19)) 21) : CT E yX7_note wsX7_note (rmT 2 43) [.ref (eA E 6 0), .int (nI d), .int (nI i), .int (nI w)] (ub u 6 h) r (some (.int (M_noteR h d i w))) (ub u 6 h) r := by
  refine CT_ofI (cc := cX7_note) (nL := 4) (own := RX7) (by decide) rfl rfl rfl (Nat.le_of_ble_eq_true rfl) (fun F C K => ?_)
  refine tt_to (lv1 := [(0, .ref (eA E 6 0)), (1, .int (nI d)), (2, .int (nI i)), (3, .int (nI w))]) rfl rfl rfl rfl ?_
  have hD' := ix_lt hD (by decide)
  have hd : d < 8 := by omega
  have hn' := ix_lt hn (by decide)
  refine tt_aload_n C dX7_note_0 rfl 0 rfl ?_
  refine tt_iload_n C dX7_note_1 rfl 1 rfl ?_
  refine tt_cVI C (c_X7_isDoor E u r h (nI d)) gX7_note_X7_isDoor rfl ⟨rfl, rfl⟩ 1 (by decide +kernel) ⟨Nat.le_of_ble_eq_true rfl, Nat.le_of_ble_eq_true rfl⟩ rfl oM0 rfl (Nat.le_of_ble_eq_true rfl) dX7_note_2 rfl ?_
  refine tt_if_eqB C (tgt := 21) dX7_note_5 (by decide) (fun c_1 => ?_) (fun c_1 => ?_)
  · skip
    exact absurd (in_ok hD (by decide) hdm) c_1
  · skip
    refine tt_iload_n C dX7_note_8 rfl 2 rfl ?_
    refine tt_if_lt C (tgt := 21) dX7_note_9 (by decide) (nI_lt0 (by omega)) (fun c_2 => ?_) (fun c_2 => ?_)
    · skip
      exact c_2.elim
    · skip
      refine tt_iload_n C dX7_note_12 rfl 3 rfl ?_
      refine tt_iconst (v := nI 0) C dX7_note_13 (by decide) ?_
      refine tt_iconst (v := nI 1) C dX7_note_14 (by decide) ?_
      refine tt_cSI C (c_X7_in E (ub u 6 h) r (nI w) (nI 0) (nI 1)) gX7_note_X7_in rfl ⟨rfl, rfl⟩ 3 (by decide +kernel) ⟨Nat.le_of_ble_eq_true rfl, Nat.le_of_ble_eq_true rfl⟩ rfl (Nat.le_of_ble_eq_true rfl) dX7_note_15 rfl ?_
      refine tt_if_neB C (tgt := 28) dX7_note_18 (by decide) (fun c_3 => ?_) (fun c_3 => ?_)
      · skip
        refine tt_iload_n C dX7_note_28 rfl 2 rfl ?_
        refine tt_aload_n C dX7_note_29 rfl 0 rfl ?_
        refine tt_iload_n C dX7_note_30 rfl 1 rfl ?_
        refine tt_bipush (v := nI 19) C dX7_note_31 (by decide) ?_
        refine tt_cVI C (c_X7_ofDoor E u r h d 19 (by first | assumption | omega) (by first | assumption | omega)) gX7_note_X7_ofDoor rfl ⟨rfl, rfl⟩ 2 (by decide +kernel) ⟨Nat.le_of_ble_eq_true rfl, Nat.le_of_ble_eq_true rfl⟩ rfl oM0 rfl (Nat.le_of_ble_eq_true rfl) dX7_note_33 rfl ?_
        refine tt_to (st1 := [.int (nI (ix (h 1 (60 * d + 19)))), .int (nI i)]) rfl rfl rfl (congrArg (fun z => ([.int z, .int (nI i)] : List Value)) (ix_eq hn (by decide))) ?_
        refine tt_icmp_ge C (tgt := 55) dX7_note_36 (by decide) (nI_leI (by omega) (by omega)) (fun c_4 => ?_) (fun c_4 => ?_)
        · skip
          refine tt_iconst (v := (-1 : Int32)) C dX7_note_55 (by decide) ?_
          exact tt_iret K dX7_note_56 (by simp only [M_noteR, eq_true c_1, c_1, eq_true c_2, c_2, eq_true c_3, c_3, eq_true c_4, c_4, not_false_eq_true, not_true_eq_false, and_true, true_and, and_false, false_and, and_self, or_true, true_or, or_false, false_or, or_self, if_true, if_false]) (by rfl) rfl
        · skip
          refine tt_aload_n C dX7_note_39 rfl 0 rfl ?_
          refine tt_iload_n C dX7_note_40 rfl 1 rfl ?_
          refine tt_bipush (v := nI 20) C dX7_note_41 (by decide) ?_
          refine tt_iconst (v := nI 2) C dX7_note_43 (by decide) ?_
          refine tt_iload_n C dX7_note_44 rfl 2 rfl ?_
          refine tt_imul (v := nI (2 * i)) C dX7_note_45 (pk_mul _ _) ?_
          refine tt_iadd (v := nI (20 + (2 * i))) C dX7_note_46 (nI_add _ _) ?_
          refine tt_iload_n C dX7_note_47 rfl 3 rfl ?_
          refine tt_iadd (v := nI (20 + (2 * i) + w)) C dX7_note_48 (nI_add _ _) ?_
          refine tt_cVI C (c_X7_ofDoor E u r h d (20 + (2 * i) + w) (by first | assumption | omega) (by first | assumption | omega)) gX7_note_X7_ofDoor rfl ⟨rfl, rfl⟩ 2 (by decide +kernel) ⟨Nat.le_of_ble_eq_true rfl, Nat.le_of_ble_eq_true rfl⟩ rfl oM0 rfl (Nat.le_of_ble_eq_true rfl) dX7_note_49 rfl ?_
          refine tt_goto (tgt := 56) C dX7_note_52 (by decide) ?_
          exact tt_iret K dX7_note_56 (by simp only [M_noteR, eq_true c_1, c_1, eq_true c_2, c_2, eq_true c_3, c_3, eq_true c_4, c_4, not_false_eq_true, not_true_eq_false, and_true, true_and, and_false, false_and, and_self, or_true, true_or, or_false, false_or, or_self, if_true, if_false]) (by rfl) rfl
      · skip
        exact absurd (show ¬ nI w < nI 0 ∧ ¬ nI 1 < nI w from ⟨nI_nlt (by omega) (by omega), nI_nlt (by omega) (by omega)⟩) c_3

def M_ones (x : Int32) : Nat → Int32
  | 0 => nI 0
  | j + 1 => M_ones x j + ((x >>> (nI j &&& 31)) &&& nI 1)
def M_insA (h : HB) (a : Int32) : Nat → Int32
  | 0 => nI 0
  | j + 1 => M_insA h a j ||| (if h 1 (480 + 6 * j + 2) = a then nI 1 <<< (nI j &&& 31) else nI 0)
abbrev M_ins (h : HB) (a : Int32) : Int32 := M_insA h a (ix (h 1 530))
def M_musA (h : HB) (a : Int32) : Nat → Int32
  | 0 => nI 0
  | j + 1 => M_musA h a j ||| (if nI (j + 1) = a then nI 0 else M_ins h (nI (j + 1)))

set_option maxHeartbeats 4000000 in
set_option maxRecDepth 100000 in
theorem l_ones (E : EN) (u : U3) (r : R1) (x : Int32)  (F : FX) (C : Cx E F cX7_ones 3 RX7 wsX7_ones (rmT 0 0)) (K : RtI E F cX7_ones (M_ones x 8) (u) r) : ∀ (n j : Nat), j ≤ 8 → 8 + 1 ≤ j + n → T E F 3 (u) r 4 [(0, .int x), (1, .int (M_ones x j)), (2, .int (nI j))] [] := by
  intro n
  induction n with
  | zero => intro j h1 h2; exact absurd h2 (by omega)
  | succ n ih =>
    intro j h1 h2
    refine tt_iload_n C dX7_ones_4 rfl 2 rfl ?_
    refine tt_bipush (v := nI 8) C dX7_ones_5 (by decide) ?_
    refine tt_icmp_ge C (tgt := 24) dX7_ones_7 (by decide) (nI_leI (by omega) (by omega)) (fun c_101 => ?_) (fun c_101 => ?_)
    · skip
      have hje : j = 8 := (by omega); subst hje
      refine tt_iload_n C dX7_ones_24 rfl 1 rfl ?_
      exact tt_iret K dX7_ones_25 (by first | rfl | (have hje : j = 8 := (by omega); subst hje; rfl) | (simp [c_101]; done) | grind []) rfl rfl
    · skip
      refine tt_iload_n C dX7_ones_10 rfl 1 rfl ?_
      refine tt_iload_n C dX7_ones_11 rfl 0 rfl ?_
      refine tt_iload_n C dX7_ones_12 rfl 2 rfl ?_
      refine tt_ishr C dX7_ones_13 rfl ?_
      refine tt_iconst (v := nI 1) C dX7_ones_14 (by decide) ?_
      refine tt_iand C dX7_ones_15 rfl ?_
      refine tt_iadd C dX7_ones_16 rfl ?_
      refine tt_istore_n (lv' := [(0, .int x), (1, .int ((M_ones x j) + ((x >>> ((nI j) &&& 31)) &&& (nI 1)))), (2, .int (nI j))]) C dX7_ones_17 rfl (by decide) [1, 0, 2] rfl ?_
      refine tt_iinc (p := 2) (v := nI (j + 1)) (lv' := [(0, .int x), (1, .int ((M_ones x j) + ((x >>> ((nI j) &&& 31)) &&& (nI 1)))), (2, .int (nI (j + 1)))]) C dX7_ones_18 rfl (by rw [show Int32.ofInt 1 = nI 1 from by decide]; exact nI_add _ _) (by decide) [1, 2, 0] rfl ?_
      refine tt_goto (tgt := 4) C dX7_ones_21 (by decide) ?_
      exact ih (j + 1) (by omega) (by omega)

set_option maxHeartbeats 4000000 in
set_option maxRecDepth 100000 in
theorem c_X7_ones (E : EN) (u : U3) (r : R1) (x : Int32)  : CT E yX7_ones wsX7_ones (rmT 0 0) [.int x] (u) r (some (.int (M_ones x 8))) (u) r := by
  refine CT_ofI (cc := cX7_ones) (nL := 3) (own := RX7) (by decide) rfl rfl rfl (Nat.le_of_ble_eq_true rfl) (fun F C K => ?_)
  refine tt_to (lv1 := [(0, .int x)]) rfl rfl rfl rfl ?_
  refine tt_iconst (v := nI 0) C dX7_ones_0 (by decide) ?_
  refine tt_istore_n (lv' := [(0, .int x), (1, .int (nI 0))]) C dX7_ones_1 rfl (by decide) [1, 0] rfl ?_
  refine tt_iconst (v := nI 0) C dX7_ones_2 (by decide) ?_
  refine tt_istore_n (lv' := [(0, .int x), (1, .int (nI 0)), (2, .int (nI 0))]) C dX7_ones_3 rfl (by decide) [1, 2, 0] rfl ?_
  exact l_ones E u r x F C K 9 0 (by omega) (by omega)

set_option maxHeartbeats 4000000 in
set_option maxRecDepth 100000 in
theorem l_ins (E : EN) (u : U3) (r : R1) (h : HB) (a : Int32) (hB : vI (h 1 530) 9) (F : FX) (C : Cx E F cX7_insideOf 4 RX7 wsX7_insideOf (rmT 1 22)) (K : RtI E F cX7_insideOf (M_ins h a) (ub u 6 h) r) : ∀ (n j : Nat), j ≤ ix (h 1 530) → ix (h 1 530) + 1 ≤ j + n → T E F 4 (ub u 6 h) r 4 [(0, .ref (eA E 6 0)), (1, .int a), (2, .int (M_insA h a j)), (3, .int (nI j))] [] := by
  have hin7 : ∀ w ∈ u_ws RX7 TX7 15, w ∈ wsX7_insideOf := by decide +kernel
  intro n
  induction n with
  | zero => intro j h1 h2; exact absurd h2 (by omega)
  | succ n ih =>
    intro j h1 h2
    have hB' := ix_lt hB (by decide)
    refine tt_iload_n C dX7_insideOf_4 rfl 3 rfl ?_
    refine tt_aload_n C dX7_insideOf_5 rfl 0 rfl ?_
    refine tt_get (v := .ref (eA E 6 1)) C oM0 rfl hin7 0 (by decide) (List.mem_of_getElem? (i := 1) (by decide +kernel)) rfl dX7_insideOf_6 ?_
    refine tt_sipush (v := nI 530) C dX7_insideOf_9 (by decide) ?_
    refine tt_ialdB (v := nI (ix (h 1 530))) C aM1 530 rfl (by omega) (ix_eq hB (by decide)) dX7_insideOf_12 ?_
    refine tt_icmp_ge C (tgt := 42) dX7_insideOf_13 (by decide) (nI_leI (by omega) (by omega)) (fun c_101 => ?_) (fun c_101 => ?_)
    · skip
      have hje : j = ix (h 1 530) := (by omega); subst hje
      refine tt_iload_n C dX7_insideOf_42 rfl 2 rfl ?_
      exact tt_iret K dX7_insideOf_43 (by rfl) (by rfl) rfl
    · skip
      refine tt_iload_n C dX7_insideOf_16 rfl 2 rfl ?_
      refine tt_aload_n C dX7_insideOf_17 rfl 0 rfl ?_
      refine tt_iload_n C dX7_insideOf_18 rfl 3 rfl ?_
      refine tt_iconst (v := nI 2) C dX7_insideOf_19 (by decide) ?_
      refine tt_cVI C (c_X7_ofBadge E u r h j 2 (by first | assumption | omega) (by first | assumption | omega)) gX7_insideOf_X7_ofBadge rfl ⟨rfl, rfl⟩ 2 (by decide +kernel) ⟨Nat.le_of_ble_eq_true rfl, Nat.le_of_ble_eq_true rfl⟩ rfl oM0 rfl (Nat.le_of_ble_eq_true rfl) dX7_insideOf_20 rfl ?_
      refine tt_iload_n C dX7_insideOf_23 rfl 1 rfl ?_
      refine tt_icmp_ne C (tgt := 33) dX7_insideOf_24 (by decide) Iff.rfl (fun c_102 => ?_) (fun c_102 => ?_)
      · skip
        refine tt_iconst (v := nI 0) C dX7_insideOf_33 (by decide) ?_
        refine tt_ior C dX7_insideOf_34 rfl ?_
        refine tt_istore_n (lv' := [(0, .ref (eA E 6 0)), (1, .int a), (2, .int ((M_insA h a j) ||| (nI 0))), (3, .int (nI j))]) C dX7_insideOf_35 rfl (by decide) [1, 2, 0, 3] rfl ?_
        refine tt_iinc (p := 3) (v := nI (j + 1)) (lv' := [(0, .ref (eA E 6 0)), (1, .int a), (2, .int ((M_insA h a j) ||| (nI 0))), (3, .int (nI (j + 1)))]) C dX7_insideOf_36 rfl (by rw [show Int32.ofInt 1 = nI 1 from by decide]; exact nI_add _ _) (by decide) [1, 2, 3, 0] rfl ?_
        refine tt_goto (tgt := 4) C dX7_insideOf_39 (by decide) ?_
        refine tt_to (lv1 := [(0, .ref (eA E 6 0)), (1, .int a), (2, .int (M_insA h a (j + 1))), (3, .int (nI (j + 1)))]) rfl rfl ?_ rfl (ih (j + 1) (by omega) (by omega))
        rw [M_insA, if_neg c_102]
      · skip
        refine tt_iconst (v := nI 1) C dX7_insideOf_27 (by decide) ?_
        refine tt_iload_n C dX7_insideOf_28 rfl 3 rfl ?_
        refine tt_ishl C dX7_insideOf_29 rfl ?_
        refine tt_goto (tgt := 34) C dX7_insideOf_30 (by decide) ?_
        refine tt_ior C dX7_insideOf_34 rfl ?_
        refine tt_istore_n (lv' := [(0, .ref (eA E 6 0)), (1, .int a), (2, .int ((M_insA h a j) ||| ((nI 1) <<< ((nI j) &&& 31)))), (3, .int (nI j))]) C dX7_insideOf_35 rfl (by decide) [1, 2, 0, 3] rfl ?_
        refine tt_iinc (p := 3) (v := nI (j + 1)) (lv' := [(0, .ref (eA E 6 0)), (1, .int a), (2, .int ((M_insA h a j) ||| ((nI 1) <<< ((nI j) &&& 31)))), (3, .int (nI (j + 1)))]) C dX7_insideOf_36 rfl (by rw [show Int32.ofInt 1 = nI 1 from by decide]; exact nI_add _ _) (by decide) [1, 2, 3, 0] rfl ?_
        refine tt_goto (tgt := 4) C dX7_insideOf_39 (by decide) ?_
        refine tt_to (lv1 := [(0, .ref (eA E 6 0)), (1, .int a), (2, .int (M_insA h a (j + 1))), (3, .int (nI (j + 1)))]) rfl rfl ?_ rfl (ih (j + 1) (by omega) (by omega))
        rw [M_insA, if_pos c_102]

set_option maxHeartbeats 4000000 in
set_option maxRecDepth 100000 in
theorem c_X7_insideOf (E : EN) (u : U3) (r : R1) (h : HB) (a : Int32) (hB : vI (h 1 530) 9) : CT E yX7_insideOf wsX7_insideOf (rmT 1 22) [.ref (eA E 6 0), .int a] (ub u 6 h) r (some (.int (M_ins h a))) (ub u 6 h) r := by
  refine CT_ofI (cc := cX7_insideOf) (nL := 4) (own := RX7) (by decide) rfl rfl rfl (Nat.le_of_ble_eq_true rfl) (fun F C K => ?_)
  refine tt_to (lv1 := [(0, .ref (eA E 6 0)), (1, .int a)]) rfl rfl rfl rfl ?_
  have hB' := ix_lt hB (by decide)
  refine tt_iconst (v := nI 0) C dX7_insideOf_0 (by decide) ?_
  refine tt_istore_n (lv' := [(0, .ref (eA E 6 0)), (1, .int a), (2, .int (nI 0))]) C dX7_insideOf_1 rfl (by decide) [1, 2, 0] rfl ?_
  refine tt_iconst (v := nI 0) C dX7_insideOf_2 (by decide) ?_
  refine tt_istore_n (lv' := [(0, .ref (eA E 6 0)), (1, .int a), (2, .int (nI 0)), (3, .int (nI 0))]) C dX7_insideOf_3 rfl (by decide) [1, 2, 3, 0] rfl ?_
  exact l_ins E u r h a hB F C K (ix (h 1 530) + 1) 0 (by omega) (by omega)

set_option maxHeartbeats 4000000 in
set_option maxRecDepth 100000 in
theorem c_X7_inside_B (E : EN) (u : U3) (r : R1) (h : HB) (a : Int32) (w : Int32) (hc : ¬ ((¬ a < nI 0 ∧ ¬ nI 5 < a) ∧ (¬ w < nI 0 ∧ ¬ nI 1 < w))) : CT E yX7_inside wsX7_inside (rmT 2 45) [.ref (eA E 6 0), .int a, .int w] (ub u 6 h) r (some (.int (-2))) (ub u 6 (M_ref h (-2))) r := by
  refine CT_ofI (cc := cX7_inside) (nL := 3) (own := RX7) (by decide) rfl rfl rfl (Nat.le_of_ble_eq_true rfl) (fun F C K => ?_)
  refine tt_to (lv1 := [(0, .ref (eA E 6 0)), (1, .int a), (2, .int w)]) rfl rfl rfl rfl ?_
  refine tt_iload_n C dX7_inside_0 rfl 1 rfl ?_
  refine tt_cSI C (c_X7_isArea E (ub u 6 h) r a) gX7_inside_X7_isArea rfl ⟨rfl, rfl⟩ 1 (by decide +kernel) ⟨Nat.le_of_ble_eq_true rfl, Nat.le_of_ble_eq_true rfl⟩ rfl (Nat.le_of_ble_eq_true rfl) dX7_inside_1 rfl ?_
  refine tt_if_eqB C (tgt := 16) dX7_inside_4 (by decide) (fun c_1 => ?_) (fun c_1 => ?_)
  · skip
    refine tt_aload_n C dX7_inside_16 rfl 0 rfl ?_
    refine tt_bipush (v := (-2 : Int32)) C dX7_inside_17 (by decide) ?_
    refine tt_cVI C (c_X7_refuse E u r h (-2 : Int32) ⟨0, by decide, by decide⟩) gX7_inside_X7_refuse rfl ⟨rfl, rfl⟩ 1 (by decide +kernel) ⟨Nat.le_of_ble_eq_true rfl, Nat.le_of_ble_eq_true rfl⟩ rfl oM0 rfl (Nat.le_of_ble_eq_true rfl) dX7_inside_19 rfl ?_
    generalize e_3 : M_ref h (-2 : Int32) = h_2
    exact tt_iret K dX7_inside_22 (by subst e_3; rfl) (by subst e_3; rfl) rfl
  · skip
    refine tt_iload_n C dX7_inside_7 rfl 2 rfl ?_
    refine tt_iconst (v := nI 0) C dX7_inside_8 (by decide) ?_
    refine tt_iconst (v := nI 1) C dX7_inside_9 (by decide) ?_
    refine tt_cSI C (c_X7_in E (ub u 6 h) r w (nI 0) (nI 1)) gX7_inside_X7_in rfl ⟨rfl, rfl⟩ 3 (by decide +kernel) ⟨Nat.le_of_ble_eq_true rfl, Nat.le_of_ble_eq_true rfl⟩ rfl (Nat.le_of_ble_eq_true rfl) dX7_inside_10 rfl ?_
    refine tt_if_neB C (tgt := 23) dX7_inside_13 (by decide) (fun c_4 => ?_) (fun c_4 => ?_)
    · skip
      exact absurd ⟨c_1, c_4⟩ hc
    · skip
      refine tt_aload_n C dX7_inside_16 rfl 0 rfl ?_
      refine tt_bipush (v := (-2 : Int32)) C dX7_inside_17 (by decide) ?_
      refine tt_cVI C (c_X7_refuse E u r h (-2 : Int32) ⟨0, by decide, by decide⟩) gX7_inside_X7_refuse rfl ⟨rfl, rfl⟩ 1 (by decide +kernel) ⟨Nat.le_of_ble_eq_true rfl, Nat.le_of_ble_eq_true rfl⟩ rfl oM0 rfl (Nat.le_of_ble_eq_true rfl) dX7_inside_19 rfl ?_
      generalize e_6 : M_ref h (-2 : Int32) = h_5
      exact tt_iret K dX7_inside_22 (by subst e_6; rfl) (by subst e_6; rfl) rfl

set_option maxHeartbeats 4000000 in
set_option maxRecDepth 100000 in
theorem c_X7_inside_C (E : EN) (u : U3) (r : R1) (h : HB) (a : Int32) (hB : vI (h 1 530) 9) (ha : ¬ a < nI 0 ∧ ¬ nI 5 < a) : CT E yX7_inside wsX7_inside (rmT 2 45) [.ref (eA E 6 0), .int a, .int (nI 0)] (ub u 6 h) r (some (.int (M_ones (M_ins h a) 8))) (ub u 6 h) r := by
  refine CT_ofI (cc := cX7_inside) (nL := 3) (own := RX7) (by decide) rfl rfl rfl (Nat.le_of_ble_eq_true rfl) (fun F C K => ?_)
  refine tt_to (lv1 := [(0, .ref (eA E 6 0)), (1, .int a), (2, .int (nI 0))]) rfl rfl rfl rfl ?_
  refine tt_iload_n C dX7_inside_0 rfl 1 rfl ?_
  refine tt_cSI C (c_X7_isArea E (ub u 6 h) r a) gX7_inside_X7_isArea rfl ⟨rfl, rfl⟩ 1 (by decide +kernel) ⟨Nat.le_of_ble_eq_true rfl, Nat.le_of_ble_eq_true rfl⟩ rfl (Nat.le_of_ble_eq_true rfl) dX7_inside_1 rfl ?_
  refine tt_if_eqB C (tgt := 16) dX7_inside_4 (by decide) (fun c_1 => ?_) (fun c_1 => ?_)
  · skip
    exact absurd ha c_1
  · skip
    refine tt_iload_n C dX7_inside_7 rfl 2 rfl ?_
    refine tt_iconst (v := nI 0) C dX7_inside_8 (by decide) ?_
    refine tt_iconst (v := nI 1) C dX7_inside_9 (by decide) ?_
    refine tt_cSI C (c_X7_in E (ub u 6 h) r (nI 0) (nI 0) (nI 1)) gX7_inside_X7_in rfl ⟨rfl, rfl⟩ 3 (by decide +kernel) ⟨Nat.le_of_ble_eq_true rfl, Nat.le_of_ble_eq_true rfl⟩ rfl (Nat.le_of_ble_eq_true rfl) dX7_inside_10 rfl ?_
    refine tt_if_neB C (tgt := 23) dX7_inside_13 (by decide) (fun c_2 => ?_) (fun c_2 => ?_)
    · skip
      refine tt_iload_n C dX7_inside_23 rfl 2 rfl ?_
      refine tt_if_ne C (tgt := 38) dX7_inside_24 (by decide) (nI_eq0 (by omega)) (fun c_3 => ?_) (fun c_3 => ?_)
      · skip
        exact absurd (by decide) c_3
      · skip
        refine tt_aload_n C dX7_inside_27 rfl 0 rfl ?_
        refine tt_iload_n C dX7_inside_28 rfl 1 rfl ?_
        refine tt_cVI C (c_X7_insideOf E u r h a hB) gX7_inside_X7_insideOf rfl ⟨rfl, rfl⟩ 1 (by decide +kernel) ⟨Nat.le_of_ble_eq_true rfl, Nat.le_of_ble_eq_true rfl⟩ rfl oM0 rfl (Nat.le_of_ble_eq_true rfl) dX7_inside_29 rfl ?_
        refine tt_cSI C (c_X7_ones E (ub u 6 h) r (M_ins h a)) gX7_inside_X7_ones rfl ⟨rfl, rfl⟩ 1 (by decide +kernel) ⟨Nat.le_of_ble_eq_true rfl, Nat.le_of_ble_eq_true rfl⟩ rfl (Nat.le_of_ble_eq_true rfl) dX7_inside_32 rfl ?_
        refine tt_goto (tgt := 43) C dX7_inside_35 (by decide) ?_
        exact tt_iret K dX7_inside_43 (by rfl) (by rfl) rfl
    · skip
      exact absurd (by decide) c_2

set_option maxHeartbeats 4000000 in
set_option maxRecDepth 100000 in
theorem c_X7_inside_S (E : EN) (u : U3) (r : R1) (h : HB) (a : Int32) (hB : vI (h 1 530) 9) (ha : ¬ a < nI 0 ∧ ¬ nI 5 < a) : CT E yX7_inside wsX7_inside (rmT 2 45) [.ref (eA E 6 0), .int a, .int (nI 1)] (ub u 6 h) r (some (.int (M_ins h a))) (ub u 6 h) r := by
  refine CT_ofI (cc := cX7_inside) (nL := 3) (own := RX7) (by decide) rfl rfl rfl (Nat.le_of_ble_eq_true rfl) (fun F C K => ?_)
  refine tt_to (lv1 := [(0, .ref (eA E 6 0)), (1, .int a), (2, .int (nI 1))]) rfl rfl rfl rfl ?_
  refine tt_iload_n C dX7_inside_0 rfl 1 rfl ?_
  refine tt_cSI C (c_X7_isArea E (ub u 6 h) r a) gX7_inside_X7_isArea rfl ⟨rfl, rfl⟩ 1 (by decide +kernel) ⟨Nat.le_of_ble_eq_true rfl, Nat.le_of_ble_eq_true rfl⟩ rfl (Nat.le_of_ble_eq_true rfl) dX7_inside_1 rfl ?_
  refine tt_if_eqB C (tgt := 16) dX7_inside_4 (by decide) (fun c_1 => ?_) (fun c_1 => ?_)
  · skip
    exact absurd ha c_1
  · skip
    refine tt_iload_n C dX7_inside_7 rfl 2 rfl ?_
    refine tt_iconst (v := nI 0) C dX7_inside_8 (by decide) ?_
    refine tt_iconst (v := nI 1) C dX7_inside_9 (by decide) ?_
    refine tt_cSI C (c_X7_in E (ub u 6 h) r (nI 1) (nI 0) (nI 1)) gX7_inside_X7_in rfl ⟨rfl, rfl⟩ 3 (by decide +kernel) ⟨Nat.le_of_ble_eq_true rfl, Nat.le_of_ble_eq_true rfl⟩ rfl (Nat.le_of_ble_eq_true rfl) dX7_inside_10 rfl ?_
    refine tt_if_neB C (tgt := 23) dX7_inside_13 (by decide) (fun c_2 => ?_) (fun c_2 => ?_)
    · skip
      refine tt_iload_n C dX7_inside_23 rfl 2 rfl ?_
      refine tt_if_ne C (tgt := 38) dX7_inside_24 (by decide) (nI_eq0 (by omega)) (fun c_3 => ?_) (fun c_3 => ?_)
      · skip
        refine tt_aload_n C dX7_inside_38 rfl 0 rfl ?_
        refine tt_iload_n C dX7_inside_39 rfl 1 rfl ?_
        refine tt_cVI C (c_X7_insideOf E u r h a hB) gX7_inside_X7_insideOf rfl ⟨rfl, rfl⟩ 1 (by decide +kernel) ⟨Nat.le_of_ble_eq_true rfl, Nat.le_of_ble_eq_true rfl⟩ rfl oM0 rfl (Nat.le_of_ble_eq_true rfl) dX7_inside_40 rfl ?_
        exact tt_iret K dX7_inside_43 (by rfl) (by rfl) rfl
      · skip
        exact absurd c_3 (by decide)
    · skip
      exact absurd (by decide) c_2

set_option maxHeartbeats 4000000 in
set_option maxRecDepth 100000 in
theorem c_X7_muster_B (E : EN) (u : U3) (r : R1) (h : HB) (a : Int32) (hc : ¬ (¬ a < nI 0 ∧ ¬ nI 5 < a)) : CT E yX7_muster wsX7_muster (rmT 2 45) [.ref (eA E 6 0), .int a] (ub u 6 h) r (some (.int (-2))) (ub u 6 (M_ref h (-2))) r := by
  refine CT_ofI (cc := cX7_muster) (nL := 4) (own := RX7) (by decide) rfl rfl rfl (Nat.le_of_ble_eq_true rfl) (fun F C K => ?_)
  refine tt_to (lv1 := [(0, .ref (eA E 6 0)), (1, .int a)]) rfl rfl rfl rfl ?_
  refine tt_iload_n C dX7_muster_0 rfl 1 rfl ?_
  refine tt_cSI C (c_X7_isArea E (ub u 6 h) r a) gX7_muster_X7_isArea rfl ⟨rfl, rfl⟩ 1 (by decide +kernel) ⟨Nat.le_of_ble_eq_true rfl, Nat.le_of_ble_eq_true rfl⟩ rfl (Nat.le_of_ble_eq_true rfl) dX7_muster_1 rfl ?_
  refine tt_if_neB C (tgt := 14) dX7_muster_4 (by decide) (fun c_1 => ?_) (fun c_1 => ?_)
  · skip
    exact absurd c_1 hc
  · skip
    refine tt_aload_n C dX7_muster_7 rfl 0 rfl ?_
    refine tt_bipush (v := (-2 : Int32)) C dX7_muster_8 (by decide) ?_
    refine tt_cVI C (c_X7_refuse E u r h (-2 : Int32) ⟨0, by decide, by decide⟩) gX7_muster_X7_refuse rfl ⟨rfl, rfl⟩ 1 (by decide +kernel) ⟨Nat.le_of_ble_eq_true rfl, Nat.le_of_ble_eq_true rfl⟩ rfl oM0 rfl (Nat.le_of_ble_eq_true rfl) dX7_muster_10 rfl ?_
    generalize e_3 : M_ref h (-2 : Int32) = h_2
    exact tt_iret K dX7_muster_13 (by subst e_3; rfl) (by subst e_3; rfl) rfl

set_option maxHeartbeats 4000000 in
set_option maxRecDepth 100000 in
theorem l_mus (E : EN) (u : U3) (r : R1) (h : HB) (a : Int32) (hB : vI (h 1 530) 9) (ha : ¬ a < nI 0 ∧ ¬ nI 5 < a) (F : FX) (C : Cx E F cX7_muster 4 RX7 wsX7_muster (rmT 2 45)) (K : RtI E F cX7_muster (M_musA h a 5) (ub u 6 h) r) : ∀ (n j : Nat), j ≤ 5 → 5 + 1 ≤ j + n → T E F 4 (ub u 6 h) r 18 [(0, .ref (eA E 6 0)), (1, .int a), (2, .int (M_musA h a j)), (3, .int (nI (j + 1)))] [] := by
  intro n
  induction n with
  | zero => intro j h1 h2; exact absurd h2 (by omega)
  | succ n ih =>
    intro j h1 h2
    refine tt_iload_n C dX7_muster_18 rfl 3 rfl ?_
    refine tt_bipush (v := nI 6) C dX7_muster_19 (by decide) ?_
    refine tt_icmp_ge C (tgt := 47) dX7_muster_21 (by decide) (nI_leI (by omega) (by omega)) (fun c_101 => ?_) (fun c_101 => ?_)
    · skip
      have hje : j = 5 := (by omega); subst hje
      refine tt_iload_n C dX7_muster_47 rfl 2 rfl ?_
      exact tt_iret K dX7_muster_48 (by rfl) (by rfl) rfl
    · skip
      refine tt_iload_n C dX7_muster_24 rfl 2 rfl ?_
      refine tt_iload_n C dX7_muster_25 rfl 3 rfl ?_
      refine tt_iload_n C dX7_muster_26 rfl 1 rfl ?_
      refine tt_icmp_ne C (tgt := 34) dX7_muster_27 (by decide) Iff.rfl (fun c_102 => ?_) (fun c_102 => ?_)
      · skip
        refine tt_aload_n C dX7_muster_34 rfl 0 rfl ?_
        refine tt_iload_n C dX7_muster_35 rfl 3 rfl ?_
        refine tt_cVI C (c_X7_insideOf E u r h (nI (j + 1)) hB) gX7_muster_X7_insideOf rfl ⟨rfl, rfl⟩ 1 (by decide +kernel) ⟨Nat.le_of_ble_eq_true rfl, Nat.le_of_ble_eq_true rfl⟩ rfl oM0 rfl (Nat.le_of_ble_eq_true rfl) dX7_muster_36 rfl ?_
        refine tt_ior C dX7_muster_39 rfl ?_
        refine tt_istore_n (lv' := [(0, .ref (eA E 6 0)), (1, .int a), (2, .int ((M_musA h a j) ||| (M_ins h (nI (j + 1))))), (3, .int (nI (j + 1)))]) C dX7_muster_40 rfl (by decide) [1, 2, 0, 3] rfl ?_
        refine tt_iinc (p := 3) (v := nI (j + 1 + 1)) (lv' := [(0, .ref (eA E 6 0)), (1, .int a), (2, .int ((M_musA h a j) ||| (M_ins h (nI (j + 1))))), (3, .int (nI (j + 1 + 1)))]) C dX7_muster_41 rfl (by rw [show Int32.ofInt 1 = nI 1 from by decide]; exact nI_add _ _) (by decide) [1, 2, 3, 0] rfl ?_
        refine tt_goto (tgt := 18) C dX7_muster_44 (by decide) ?_
        refine tt_to (lv1 := [(0, .ref (eA E 6 0)), (1, .int a), (2, .int (M_musA h a (j + 1))), (3, .int (nI (j + 1 + 1)))]) rfl rfl ?_ rfl (ih (j + 1) (by omega) (by omega))
        rw [M_musA, if_neg c_102]
      · skip
        refine tt_iconst (v := nI 0) C dX7_muster_30 (by decide) ?_
        refine tt_goto (tgt := 39) C dX7_muster_31 (by decide) ?_
        refine tt_ior C dX7_muster_39 rfl ?_
        refine tt_istore_n (lv' := [(0, .ref (eA E 6 0)), (1, .int a), (2, .int ((M_musA h a j) ||| (nI 0))), (3, .int (nI (j + 1)))]) C dX7_muster_40 rfl (by decide) [1, 2, 0, 3] rfl ?_
        refine tt_iinc (p := 3) (v := nI (j + 1 + 1)) (lv' := [(0, .ref (eA E 6 0)), (1, .int a), (2, .int ((M_musA h a j) ||| (nI 0))), (3, .int (nI (j + 1 + 1)))]) C dX7_muster_41 rfl (by rw [show Int32.ofInt 1 = nI 1 from by decide]; exact nI_add _ _) (by decide) [1, 2, 3, 0] rfl ?_
        refine tt_goto (tgt := 18) C dX7_muster_44 (by decide) ?_
        refine tt_to (lv1 := [(0, .ref (eA E 6 0)), (1, .int a), (2, .int (M_musA h a (j + 1))), (3, .int (nI (j + 1 + 1)))]) rfl rfl ?_ rfl (ih (j + 1) (by omega) (by omega))
        rw [M_musA, if_pos c_102]

set_option maxHeartbeats 4000000 in
set_option maxRecDepth 100000 in
theorem c_X7_muster_O (E : EN) (u : U3) (r : R1) (h : HB) (a : Int32) (hB : vI (h 1 530) 9) (ha : ¬ a < nI 0 ∧ ¬ nI 5 < a) : CT E yX7_muster wsX7_muster (rmT 2 45) [.ref (eA E 6 0), .int a] (ub u 6 h) r (some (.int (M_musA h a 5))) (ub u 6 h) r := by
  refine CT_ofI (cc := cX7_muster) (nL := 4) (own := RX7) (by decide) rfl rfl rfl (Nat.le_of_ble_eq_true rfl) (fun F C K => ?_)
  refine tt_to (lv1 := [(0, .ref (eA E 6 0)), (1, .int a)]) rfl rfl rfl rfl ?_
  refine tt_iload_n C dX7_muster_0 rfl 1 rfl ?_
  refine tt_cSI C (c_X7_isArea E (ub u 6 h) r a) gX7_muster_X7_isArea rfl ⟨rfl, rfl⟩ 1 (by decide +kernel) ⟨Nat.le_of_ble_eq_true rfl, Nat.le_of_ble_eq_true rfl⟩ rfl (Nat.le_of_ble_eq_true rfl) dX7_muster_1 rfl ?_
  refine tt_if_neB C (tgt := 14) dX7_muster_4 (by decide) (fun c_1 => ?_) (fun c_1 => ?_)
  · skip
    refine tt_iconst (v := nI 0) C dX7_muster_14 (by decide) ?_
    refine tt_istore_n (lv' := [(0, .ref (eA E 6 0)), (1, .int a), (2, .int (nI 0))]) C dX7_muster_15 rfl (by decide) [1, 2, 0] rfl ?_
    refine tt_iconst (v := nI 1) C dX7_muster_16 (by decide) ?_
    refine tt_istore_n (lv' := [(0, .ref (eA E 6 0)), (1, .int a), (2, .int (nI 0)), (3, .int (nI 1))]) C dX7_muster_17 rfl (by decide) [1, 2, 3, 0] rfl ?_
    exact l_mus E u r h a hB ha F C K 6 0 (by omega) (by omega)
  · skip
    exact absurd ha c_1

set_option maxHeartbeats 4000000 in
set_option maxRecDepth 100000 in
theorem c_X7_passed_B (E : EN) (u : U3) (r : R1) (h : HB) (i : Int32) (w : Int32) (hc : ¬ (¬ i < 0 ∧ (¬ w < nI 0 ∧ ¬ nI 2 < w))) : CT E yX7_passed wsX7_passed (rmT 1 22) [.ref (eA E 6 0), .int i, .int w] (ub u 6 h) r (some (.int (-2))) (ub u 6 (M_ref h (-2))) r := by
  refine CT_ofI (cc := cX7_passed) (nL := 3) (own := RX7) (by decide) rfl rfl rfl (Nat.le_of_ble_eq_true rfl) (fun F C K => ?_)
  refine tt_to (lv1 := [(0, .ref (eA E 6 0)), (1, .int i), (2, .int w)]) rfl rfl rfl rfl ?_
  refine tt_iload_n C dX7_passed_0 rfl 1 rfl ?_
  refine tt_if_lt C (tgt := 13) dX7_passed_1 (by decide) Iff.rfl (fun c_1 => ?_) (fun c_1 => ?_)
  · skip
    refine tt_aload_n C dX7_passed_13 rfl 0 rfl ?_
    refine tt_bipush (v := (-2 : Int32)) C dX7_passed_14 (by decide) ?_
    refine tt_cVI C (c_X7_refuse E u r h (-2 : Int32) ⟨0, by decide, by decide⟩) gX7_passed_X7_refuse rfl ⟨rfl, rfl⟩ 1 (by decide +kernel) ⟨Nat.le_of_ble_eq_true rfl, Nat.le_of_ble_eq_true rfl⟩ rfl oM0 rfl (Nat.le_of_ble_eq_true rfl) dX7_passed_16 rfl ?_
    generalize e_3 : M_ref h (-2 : Int32) = h_2
    exact tt_iret K dX7_passed_19 (by subst e_3; rfl) (by subst e_3; rfl) rfl
  · skip
    refine tt_iload_n C dX7_passed_4 rfl 2 rfl ?_
    refine tt_iconst (v := nI 0) C dX7_passed_5 (by decide) ?_
    refine tt_iconst (v := nI 2) C dX7_passed_6 (by decide) ?_
    refine tt_cSI C (c_X7_in E (ub u 6 h) r w (nI 0) (nI 2)) gX7_passed_X7_in rfl ⟨rfl, rfl⟩ 3 (by decide +kernel) ⟨Nat.le_of_ble_eq_true rfl, Nat.le_of_ble_eq_true rfl⟩ rfl (Nat.le_of_ble_eq_true rfl) dX7_passed_7 rfl ?_
    refine tt_if_neB C (tgt := 20) dX7_passed_10 (by decide) (fun c_4 => ?_) (fun c_4 => ?_)
    · skip
      exact absurd ⟨c_1, c_4⟩ hc
    · skip
      refine tt_aload_n C dX7_passed_13 rfl 0 rfl ?_
      refine tt_bipush (v := (-2 : Int32)) C dX7_passed_14 (by decide) ?_
      refine tt_cVI C (c_X7_refuse E u r h (-2 : Int32) ⟨0, by decide, by decide⟩) gX7_passed_X7_refuse rfl ⟨rfl, rfl⟩ 1 (by decide +kernel) ⟨Nat.le_of_ble_eq_true rfl, Nat.le_of_ble_eq_true rfl⟩ rfl oM0 rfl (Nat.le_of_ble_eq_true rfl) dX7_passed_16 rfl ?_
      generalize e_6 : M_ref h (-2 : Int32) = h_5
      exact tt_iret K dX7_passed_19 (by subst e_6; rfl) (by subst e_6; rfl) rfl

def M_psdR (h : HB) (i w : Nat) : Int32 := if ix (h 1 540) ≤ i then -1 else h 1 (541 + 3 * i + w)
set_option maxHeartbeats 4000000 in
set_option maxRecDepth 100000 in
theorem c_X7_passed_O (E : EN) (u : U3) (r : R1) (h : HB) (i : Nat) (w : Nat) (hm : vI (h 1 540) 65) (hii : i < 2 ^ 31) (hw : w < 3) : CT E yX7_passed wsX7_passed (rmT 1 22) [.ref (eA E 6 0), .int (nI i), .int (nI w)] (ub u 6 h) r (some (.int (M_psdR h i w))) (ub u 6 h) r := by
  refine CT_ofI (cc := cX7_passed) (nL := 3) (own := RX7) (by decide) rfl rfl rfl (Nat.le_of_ble_eq_true rfl) (fun F C K => ?_)
  have hin7 : ∀ w ∈ u_ws RX7 TX7 15, w ∈ wsX7_passed := by decide +kernel
  refine tt_to (lv1 := [(0, .ref (eA E 6 0)), (1, .int (nI i)), (2, .int (nI w))]) rfl rfl rfl rfl ?_
  have hm' := ix_lt hm (by decide)
  refine tt_iload_n C dX7_passed_0 rfl 1 rfl ?_
  refine tt_if_lt C (tgt := 13) dX7_passed_1 (by decide) (nI_lt0 (by omega)) (fun c_1 => ?_) (fun c_1 => ?_)
  · skip
    exact c_1.elim
  · skip
    refine tt_iload_n C dX7_passed_4 rfl 2 rfl ?_
    refine tt_iconst (v := nI 0) C dX7_passed_5 (by decide) ?_
    refine tt_iconst (v := nI 2) C dX7_passed_6 (by decide) ?_
    refine tt_cSI C (c_X7_in E (ub u 6 h) r (nI w) (nI 0) (nI 2)) gX7_passed_X7_in rfl ⟨rfl, rfl⟩ 3 (by decide +kernel) ⟨Nat.le_of_ble_eq_true rfl, Nat.le_of_ble_eq_true rfl⟩ rfl (Nat.le_of_ble_eq_true rfl) dX7_passed_7 rfl ?_
    refine tt_if_neB C (tgt := 20) dX7_passed_10 (by decide) (fun c_2 => ?_) (fun c_2 => ?_)
    · skip
      refine tt_iload_n C dX7_passed_20 rfl 1 rfl ?_
      refine tt_aload_n C dX7_passed_21 rfl 0 rfl ?_
      refine tt_get (v := .ref (eA E 6 1)) C oM0 rfl hin7 0 (by decide) (List.mem_of_getElem? (i := 1) (by decide +kernel)) rfl dX7_passed_22 ?_
      refine tt_sipush (v := nI 540) C dX7_passed_25 (by decide) ?_
      refine tt_ialdB (v := nI (ix (h 1 540))) C aM1 540 rfl (by omega) (ix_eq hm (by decide)) dX7_passed_28 ?_
      refine tt_icmp_ge C (tgt := 49) dX7_passed_29 (by decide) (nI_leI (by omega) (by omega)) (fun c_3 => ?_) (fun c_3 => ?_)
      · skip
        refine tt_iconst (v := (-1 : Int32)) C dX7_passed_49 (by decide) ?_
        exact tt_iret K dX7_passed_50 (by simp only [M_psdR, eq_true c_1, c_1, eq_true c_2, c_2, eq_true c_3, c_3, not_false_eq_true, not_true_eq_false, and_true, true_and, and_false, false_and, and_self, or_true, true_or, or_false, false_or, or_self, if_true, if_false]) (by rfl) rfl
      · skip
        refine tt_aload_n C dX7_passed_32 rfl 0 rfl ?_
        refine tt_get (v := .ref (eA E 6 1)) C oM0 rfl hin7 0 (by decide) (List.mem_of_getElem? (i := 1) (by decide +kernel)) rfl dX7_passed_33 ?_
        refine tt_sipush (v := nI 541) C dX7_passed_36 (by decide) ?_
        refine tt_iconst (v := nI 3) C dX7_passed_39 (by decide) ?_
        refine tt_iload_n C dX7_passed_40 rfl 1 rfl ?_
        refine tt_imul (v := nI (3 * i)) C dX7_passed_41 (pk_mul _ _) ?_
        refine tt_iadd (v := nI (541 + (3 * i))) C dX7_passed_42 (nI_add _ _) ?_
        refine tt_iload_n C dX7_passed_43 rfl 2 rfl ?_
        refine tt_iadd (v := nI (541 + (3 * i) + w)) C dX7_passed_44 (nI_add _ _) ?_
        refine tt_ialdB (v := h 1 (541 + (3 * i) + w)) C aM1 (541 + (3 * i) + w) rfl (by omega) rfl dX7_passed_45 ?_
        refine tt_goto (tgt := 50) C dX7_passed_46 (by decide) ?_
        exact tt_iret K dX7_passed_50 (by simp only [M_psdR, eq_true c_1, c_1, eq_true c_2, c_2, eq_true c_3, c_3, not_false_eq_true, not_true_eq_false, and_true, true_and, and_false, false_and, and_self, or_true, true_or, or_false, false_or, or_self, if_true, if_false]) (by rfl) rfl
    · skip
      exact absurd (show ¬ nI w < nI 0 ∧ ¬ nI 2 < nI w from ⟨nI_nlt (by omega) (by omega), nI_nlt (by omega) (by omega)⟩) c_2

set_option maxHeartbeats 4000000 in
set_option maxRecDepth 100000 in
theorem c_X7_count_B (E : EN) (u : U3) (r : R1) (h : HB) (w : Int32) (hc : ¬ (¬ w < nI 0 ∧ ¬ nI 11 < w)) : CT E yX7_count wsX7_count (rmT 1 22) [.ref (eA E 6 0), .int w] (ub u 6 h) r (some (.int (-2))) (ub u 6 (M_ref h (-2))) r := by
  refine CT_ofI (cc := cX7_count) (nL := 2) (own := RX7) (by decide) rfl rfl rfl (Nat.le_of_ble_eq_true rfl) (fun F C K => ?_)
  refine tt_to (lv1 := [(0, .ref (eA E 6 0)), (1, .int w)]) rfl rfl rfl rfl ?_
  refine tt_iload_n C dX7_count_0 rfl 1 rfl ?_
  refine tt_iconst (v := nI 0) C dX7_count_1 (by decide) ?_
  refine tt_bipush (v := nI 11) C dX7_count_2 (by decide) ?_
  refine tt_cSI C (c_X7_in E (ub u 6 h) r w (nI 0) (nI 11)) gX7_count_X7_in rfl ⟨rfl, rfl⟩ 3 (by decide +kernel) ⟨Nat.le_of_ble_eq_true rfl, Nat.le_of_ble_eq_true rfl⟩ rfl (Nat.le_of_ble_eq_true rfl) dX7_count_4 rfl ?_
  refine tt_if_eqB C (tgt := 18) dX7_count_7 (by decide) (fun c_1 => ?_) (fun c_1 => ?_)
  · skip
    refine tt_aload_n C dX7_count_18 rfl 0 rfl ?_
    refine tt_bipush (v := (-2 : Int32)) C dX7_count_19 (by decide) ?_
    refine tt_cVI C (c_X7_refuse E u r h (-2 : Int32) ⟨0, by decide, by decide⟩) gX7_count_X7_refuse rfl ⟨rfl, rfl⟩ 1 (by decide +kernel) ⟨Nat.le_of_ble_eq_true rfl, Nat.le_of_ble_eq_true rfl⟩ rfl oM0 rfl (Nat.le_of_ble_eq_true rfl) dX7_count_21 rfl ?_
    generalize e_3 : M_ref h (-2 : Int32) = h_2
    exact tt_iret K dX7_count_24 (by subst e_3; rfl) (by subst e_3; rfl) rfl
  · skip
    exact absurd c_1 hc

set_option maxHeartbeats 4000000 in
set_option maxRecDepth 100000 in
theorem c_X7_count_O (E : EN) (u : U3) (r : R1) (h : HB) (w : Nat) (hw : w < 12) : CT E yX7_count wsX7_count (rmT 1 22) [.ref (eA E 6 0), .int (nI w)] (ub u 6 h) r (some (.int (M_cnt h w))) (ub u 6 h) r := by
  refine CT_ofI (cc := cX7_count) (nL := 2) (own := RX7) (by decide) rfl rfl rfl (Nat.le_of_ble_eq_true rfl) (fun F C K => ?_)
  refine tt_to (lv1 := [(0, .ref (eA E 6 0)), (1, .int (nI w))]) rfl rfl rfl rfl ?_
  refine tt_iload_n C dX7_count_0 rfl 1 rfl ?_
  refine tt_iconst (v := nI 0) C dX7_count_1 (by decide) ?_
  refine tt_bipush (v := nI 11) C dX7_count_2 (by decide) ?_
  refine tt_cSI C (c_X7_in E (ub u 6 h) r (nI w) (nI 0) (nI 11)) gX7_count_X7_in rfl ⟨rfl, rfl⟩ 3 (by decide +kernel) ⟨Nat.le_of_ble_eq_true rfl, Nat.le_of_ble_eq_true rfl⟩ rfl (Nat.le_of_ble_eq_true rfl) dX7_count_4 rfl ?_
  refine tt_if_eqB C (tgt := 18) dX7_count_7 (by decide) (fun c_1 => ?_) (fun c_1 => ?_)
  · skip
    exact absurd (show ¬ nI w < nI 0 ∧ ¬ nI 11 < nI w from ⟨nI_nlt (by omega) (by omega), nI_nlt (by omega) (by omega)⟩) c_1
  · skip
    refine tt_aload_n C dX7_count_10 rfl 0 rfl ?_
    refine tt_iload_n C dX7_count_11 rfl 1 rfl ?_
    refine tt_cVI C (c_X7_countOf E u r h w hw) gX7_count_X7_countOf rfl ⟨rfl, rfl⟩ 1 (by decide +kernel) ⟨Nat.le_of_ble_eq_true rfl, Nat.le_of_ble_eq_true rfl⟩ rfl oM0 rfl (Nat.le_of_ble_eq_true rfl) dX7_count_12 rfl ?_
    refine tt_goto (tgt := 24) C dX7_count_15 (by decide) ?_
    exact tt_iret K dX7_count_24 (by rfl) (by rfl) rfl

set_option maxHeartbeats 4000000 in
set_option maxRecDepth 100000 in
theorem c_X7_told_B (E : EN) (u : U3) (r : R1) (h : HB) (w : Int32) (hc : ¬ (¬ w < nI 0 ∧ ¬ nI 6 < w)) : CT E yX7_told wsX7_told (rmT 1 22) [.ref (eA E 6 0), .int w] (ub u 6 h) r (some (.int (-2))) (ub u 6 (M_ref h (-2))) r := by
  refine CT_ofI (cc := cX7_told) (nL := 2) (own := RX7) (by decide) rfl rfl rfl (Nat.le_of_ble_eq_true rfl) (fun F C K => ?_)
  refine tt_to (lv1 := [(0, .ref (eA E 6 0)), (1, .int w)]) rfl rfl rfl rfl ?_
  refine tt_iload_n C dX7_told_0 rfl 1 rfl ?_
  refine tt_iconst (v := nI 0) C dX7_told_1 (by decide) ?_
  refine tt_bipush (v := nI 6) C dX7_told_2 (by decide) ?_
  refine tt_cSI C (c_X7_in E (ub u 6 h) r w (nI 0) (nI 6)) gX7_told_X7_in rfl ⟨rfl, rfl⟩ 3 (by decide +kernel) ⟨Nat.le_of_ble_eq_true rfl, Nat.le_of_ble_eq_true rfl⟩ rfl (Nat.le_of_ble_eq_true rfl) dX7_told_4 rfl ?_
  refine tt_if_eqB C (tgt := 18) dX7_told_7 (by decide) (fun c_1 => ?_) (fun c_1 => ?_)
  · skip
    refine tt_aload_n C dX7_told_18 rfl 0 rfl ?_
    refine tt_bipush (v := (-2 : Int32)) C dX7_told_19 (by decide) ?_
    refine tt_cVI C (c_X7_refuse E u r h (-2 : Int32) ⟨0, by decide, by decide⟩) gX7_told_X7_refuse rfl ⟨rfl, rfl⟩ 1 (by decide +kernel) ⟨Nat.le_of_ble_eq_true rfl, Nat.le_of_ble_eq_true rfl⟩ rfl oM0 rfl (Nat.le_of_ble_eq_true rfl) dX7_told_21 rfl ?_
    generalize e_3 : M_ref h (-2 : Int32) = h_2
    exact tt_iret K dX7_told_24 (by subst e_3; rfl) (by subst e_3; rfl) rfl
  · skip
    exact absurd c_1 hc

set_option maxHeartbeats 4000000 in
set_option maxRecDepth 100000 in
theorem c_X7_told_O (E : EN) (u : U3) (r : R1) (h : HB) (w : Nat) (hw : w < 7) : CT E yX7_told wsX7_told (rmT 1 22) [.ref (eA E 6 0), .int (nI w)] (ub u 6 h) r (some (.int (M_told h w))) (ub u 6 h) r := by
  refine CT_ofI (cc := cX7_told) (nL := 2) (own := RX7) (by decide) rfl rfl rfl (Nat.le_of_ble_eq_true rfl) (fun F C K => ?_)
  refine tt_to (lv1 := [(0, .ref (eA E 6 0)), (1, .int (nI w))]) rfl rfl rfl rfl ?_
  refine tt_iload_n C dX7_told_0 rfl 1 rfl ?_
  refine tt_iconst (v := nI 0) C dX7_told_1 (by decide) ?_
  refine tt_bipush (v := nI 6) C dX7_told_2 (by decide) ?_
  refine tt_cSI C (c_X7_in E (ub u 6 h) r (nI w) (nI 0) (nI 6)) gX7_told_X7_in rfl ⟨rfl, rfl⟩ 3 (by decide +kernel) ⟨Nat.le_of_ble_eq_true rfl, Nat.le_of_ble_eq_true rfl⟩ rfl (Nat.le_of_ble_eq_true rfl) dX7_told_4 rfl ?_
  refine tt_if_eqB C (tgt := 18) dX7_told_7 (by decide) (fun c_1 => ?_) (fun c_1 => ?_)
  · skip
    exact absurd (show ¬ nI w < nI 0 ∧ ¬ nI 6 < nI w from ⟨nI_nlt (by omega) (by omega), nI_nlt (by omega) (by omega)⟩) c_1
  · skip
    refine tt_aload_n C dX7_told_10 rfl 0 rfl ?_
    refine tt_iload_n C dX7_told_11 rfl 1 rfl ?_
    refine tt_cVI C (c_X7_toldOf E u r h w hw) gX7_told_X7_toldOf rfl ⟨rfl, rfl⟩ 1 (by decide +kernel) ⟨Nat.le_of_ble_eq_true rfl, Nat.le_of_ble_eq_true rfl⟩ rfl oM0 rfl (Nat.le_of_ble_eq_true rfl) dX7_told_12 rfl ?_
    refine tt_goto (tgt := 24) C dX7_told_15 (by decide) ?_
    exact tt_iret K dX7_told_24 (by rfl) (by rfl) rfl

set_option maxHeartbeats 4000000 in
set_option maxRecDepth 100000 in
theorem c_X7_type_B (E : EN) (u : U3) (r : R1) (h : HB) (c : Int32) (hc : ¬ (¬ c < nI 0 ∧ ¬ nI 127 < c)) : CT E yX7_type wsX7_type (rmT 1 22) [.ref (eA E 6 0), .int c] (ub u 6 h) r (some (.int (-2))) (ub u 6 (M_ref h (-2))) r := by
  refine CT_ofI (cc := cX7_type) (nL := 2) (own := RX7) (by decide) rfl rfl rfl (Nat.le_of_ble_eq_true rfl) (fun F C K => ?_)
  refine tt_to (lv1 := [(0, .ref (eA E 6 0)), (1, .int c)]) rfl rfl rfl rfl ?_
  refine tt_iload_n C dX7_type_0 rfl 1 rfl ?_
  refine tt_iconst (v := nI 0) C dX7_type_1 (by decide) ?_
  refine tt_bipush (v := nI 127) C dX7_type_2 (by decide) ?_
  refine tt_cSI C (c_X7_in E (ub u 6 h) r c (nI 0) (nI 127)) gX7_type_X7_in rfl ⟨rfl, rfl⟩ 3 (by decide +kernel) ⟨Nat.le_of_ble_eq_true rfl, Nat.le_of_ble_eq_true rfl⟩ rfl (Nat.le_of_ble_eq_true rfl) dX7_type_4 rfl ?_
  refine tt_if_neB C (tgt := 17) dX7_type_7 (by decide) (fun c_1 => ?_) (fun c_1 => ?_)
  · skip
    exact absurd c_1 hc
  · skip
    refine tt_aload_n C dX7_type_10 rfl 0 rfl ?_
    refine tt_bipush (v := (-2 : Int32)) C dX7_type_11 (by decide) ?_
    refine tt_cVI C (c_X7_refuse E u r h (-2 : Int32) ⟨0, by decide, by decide⟩) gX7_type_X7_refuse rfl ⟨rfl, rfl⟩ 1 (by decide +kernel) ⟨Nat.le_of_ble_eq_true rfl, Nat.le_of_ble_eq_true rfl⟩ rfl oM0 rfl (Nat.le_of_ble_eq_true rfl) dX7_type_13 rfl ?_
    generalize e_3 : M_ref h (-2 : Int32) = h_2
    exact tt_iret K dX7_type_16 (by subst e_3; rfl) (by subst e_3; rfl) rfl

set_option maxHeartbeats 4000000 in
set_option maxRecDepth 100000 in
theorem c_X7_type_F (E : EN) (u : U3) (r : R1) (h : HB) (c : Int32) (hc : ¬ c < nI 0 ∧ ¬ nI 127 < c) (hf : h 0 1 = nI 150) : CT E yX7_type wsX7_type (rmT 1 22) [.ref (eA E 6 0), .int c] (ub u 6 h) r (some (.int (-4))) (ub u 6 (M_ref h (-4))) r := by
  refine CT_ofI (cc := cX7_type) (nL := 2) (own := RX7) (by decide) rfl rfl rfl (Nat.le_of_ble_eq_true rfl) (fun F C K => ?_)
  have hin7 : ∀ w ∈ u_ws RX7 TX7 15, w ∈ wsX7_type := by decide +kernel
  refine tt_to (lv1 := [(0, .ref (eA E 6 0)), (1, .int c)]) rfl rfl rfl rfl ?_
  refine tt_iload_n C dX7_type_0 rfl 1 rfl ?_
  refine tt_iconst (v := nI 0) C dX7_type_1 (by decide) ?_
  refine tt_bipush (v := nI 127) C dX7_type_2 (by decide) ?_
  refine tt_cSI C (c_X7_in E (ub u 6 h) r c (nI 0) (nI 127)) gX7_type_X7_in rfl ⟨rfl, rfl⟩ 3 (by decide +kernel) ⟨Nat.le_of_ble_eq_true rfl, Nat.le_of_ble_eq_true rfl⟩ rfl (Nat.le_of_ble_eq_true rfl) dX7_type_4 rfl ?_
  refine tt_if_neB C (tgt := 17) dX7_type_7 (by decide) (fun c_1 => ?_) (fun c_1 => ?_)
  · skip
    refine tt_aload_n C dX7_type_17 rfl 0 rfl ?_
    refine tt_getI (v := nI 150) C oM0 rfl hin7 6 (by decide) (List.mem_of_getElem? (i := 1) (by decide +kernel)) rfl (ub_v.trans hf) dX7_type_18 ?_
    refine tt_sipush (v := nI 150) C dX7_type_21 (by decide) ?_
    refine tt_icmp_ne C (tgt := 34) dX7_type_24 (by decide) (nI_eq (by omega) (by omega)) (fun c_2 => ?_) (fun c_2 => ?_)
    · skip
      exact absurd (by decide) c_2
    · skip
      refine tt_aload_n C dX7_type_27 rfl 0 rfl ?_
      refine tt_bipush (v := (-4 : Int32)) C dX7_type_28 (by decide) ?_
      refine tt_cVI C (c_X7_refuse E u r h (-4 : Int32) ⟨2, by decide, by decide⟩) gX7_type_X7_refuse rfl ⟨rfl, rfl⟩ 1 (by decide +kernel) ⟨Nat.le_of_ble_eq_true rfl, Nat.le_of_ble_eq_true rfl⟩ rfl oM0 rfl (Nat.le_of_ble_eq_true rfl) dX7_type_30 rfl ?_
      generalize e_4 : M_ref h (-4 : Int32) = h_3
      exact tt_iret K dX7_type_33 (by subst e_4; rfl) (by subst e_4; rfl) rfl
  · skip
    exact absurd hc c_1

set_option maxHeartbeats 4000000 in
set_option maxRecDepth 100000 in
theorem c_X7_type_O (E : EN) (u : U3) (r : R1) (h : HB) (c : Int32) (hc : ¬ c < nI 0 ∧ ¬ nI 127 < c) (hn : vI (h 0 1) 150) : CT E yX7_type wsX7_type (rmT 1 22) [.ref (eA E 6 0), .int c] (ub u 6 h) r (some (.int (nI (ix (h 0 1) + 1)))) (ub u 6 (up2 (up2 h 5 (ix (h 0 1)) c) 0 1 (nI (ix (h 0 1) + 1)))) r := by
  refine CT_ofI (cc := cX7_type) (nL := 2) (own := RX7) (by decide) rfl rfl rfl (Nat.le_of_ble_eq_true rfl) (fun F C K => ?_)
  have hin7 : ∀ w ∈ u_ws RX7 TX7 15, w ∈ wsX7_type := by decide +kernel
  refine tt_to (lv1 := [(0, .ref (eA E 6 0)), (1, .int c)]) rfl rfl rfl rfl ?_
  have hn' := ix_lt hn (by decide)
  refine tt_iload_n C dX7_type_0 rfl 1 rfl ?_
  refine tt_iconst (v := nI 0) C dX7_type_1 (by decide) ?_
  refine tt_bipush (v := nI 127) C dX7_type_2 (by decide) ?_
  refine tt_cSI C (c_X7_in E (ub u 6 h) r c (nI 0) (nI 127)) gX7_type_X7_in rfl ⟨rfl, rfl⟩ 3 (by decide +kernel) ⟨Nat.le_of_ble_eq_true rfl, Nat.le_of_ble_eq_true rfl⟩ rfl (Nat.le_of_ble_eq_true rfl) dX7_type_4 rfl ?_
  refine tt_if_neB C (tgt := 17) dX7_type_7 (by decide) (fun c_1 => ?_) (fun c_1 => ?_)
  · skip
    refine tt_aload_n C dX7_type_17 rfl 0 rfl ?_
    refine tt_getI (v := nI (ix (h 0 1))) C oM0 rfl hin7 6 (by decide) (List.mem_of_getElem? (i := 1) (by decide +kernel)) rfl (ub_v.trans (ix_eq hn (by decide))) dX7_type_18 ?_
    refine tt_sipush (v := nI 150) C dX7_type_21 (by decide) ?_
    refine tt_icmp_ne C (tgt := 34) dX7_type_24 (by decide) (nI_eq (by omega) (by omega)) (fun c_2 => ?_) (fun c_2 => ?_)
    · skip
      refine tt_aload_n C dX7_type_34 rfl 0 rfl ?_
      refine tt_get (v := .ref (eA E 6 5)) C oM0 rfl hin7 5 (by decide) (List.mem_of_getElem? (i := 2) (by decide +kernel)) rfl dX7_type_35 ?_
      refine tt_aload_n C dX7_type_38 rfl 0 rfl ?_
      refine tt_getI (v := nI (ix (h 0 1))) C oM0 rfl hin7 6 (by decide) (List.mem_of_getElem? (i := 1) (by decide +kernel)) rfl (ub_v.trans (ix_eq hn (by decide))) dX7_type_39 ?_
      refine tt_iload_n C dX7_type_42 rfl 1 rfl ?_
      refine tt_iastB C aM5 (ix (h 0 1)) rfl (by omega) dX7_type_43 ?_
      generalize e_4 : up2 h 5 (ix (h 0 1)) c = h_3
      refine tt_aload_n C dX7_type_44 rfl 0 rfl ?_
      refine tt_dup C dX7_type_45 rfl ?_
      refine tt_getI (v := nI (ix (h 0 1))) C oM0 rfl hin7 6 (by decide) (List.mem_of_getElem? (i := 1) (by decide +kernel)) rfl (ub_v.trans (by rw [← e_4, up2_n (fun z => absurd z.1 (by decide))]; exact (ix_eq hn (by decide)))) dX7_type_46 ?_
      refine tt_iconst (v := nI 1) C dX7_type_49 (by decide) ?_
      refine tt_iadd (v := nI (ix (h 0 1) + 1)) C dX7_type_50 (nI_add _ _) ?_
      refine tt_putIB C fM0_1 rfl hin7 tyX7 tyX7_ok nmX7 (by decide) (List.mem_of_getElem? (i := 1) (by decide +kernel)) (by decide +kernel) (by decide +kernel) dX7_type_51 ?_
      generalize e_6 : up2 h_3 0 1 (nI (ix (h 0 1) + 1)) = h_5
      refine tt_aload_n C dX7_type_54 rfl 0 rfl ?_
      refine tt_getI (v := nI (ix (h 0 1) + 1)) C oM0 rfl hin7 6 (by decide) (List.mem_of_getElem? (i := 1) (by decide +kernel)) rfl (ub_v.trans (by rw [← e_6]; exact up2_s _ _ _ _)) dX7_type_55 ?_
      exact tt_iret K dX7_type_58 (by subst e_6; subst e_4; rfl) (by subst e_6; subst e_4; rfl) rfl
    · skip
      exact absurd c_2 (by omega)
  · skip
    exact absurd hc c_1

set_option maxHeartbeats 4000000 in
set_option maxRecDepth 100000 in
theorem c_X7_back_B (E : EN) (u : U3) (r : R1) (h : HB)  (h0 : h 0 0 = nI 0) : CT E yX7_back wsX7_back (rmT 1 24) [.ref (eA E 6 0)] (ub u 6 h) r (some (.int (-3))) (ub u 6 (M_ref h (-3))) r := by
  refine CT_ofI (cc := cX7_back) (nL := 1) (own := RX7) (by decide) rfl rfl rfl (Nat.le_of_ble_eq_true rfl) (fun F C K => ?_)
  have hin7 : ∀ w ∈ u_ws RX7 TX7 15, w ∈ wsX7_back := by decide +kernel
  refine tt_to (lv1 := [(0, .ref (eA E 6 0))]) rfl rfl rfl rfl ?_
  refine tt_aload_n C dX7_back_0 rfl 0 rfl ?_
  refine tt_getI (v := nI 0) C oM0 rfl hin7 3 (by decide) (List.mem_of_getElem? (i := 1) (by decide +kernel)) rfl (ub_v.trans h0) dX7_back_1 ?_
  refine tt_if_ne C (tgt := 14) dX7_back_4 (by decide) (nI_eq0 (by omega)) (fun c_1 => ?_) (fun c_1 => ?_)
  · skip
    exact absurd (by decide) c_1
  · skip
    refine tt_aload_n C dX7_back_7 rfl 0 rfl ?_
    refine tt_bipush (v := (-3 : Int32)) C dX7_back_8 (by decide) ?_
    refine tt_cVI C (c_X7_refuse E u r h (-3 : Int32) ⟨1, by decide, by decide⟩) gX7_back_X7_refuse rfl ⟨rfl, rfl⟩ 1 (by decide +kernel) ⟨Nat.le_of_ble_eq_true rfl, Nat.le_of_ble_eq_true rfl⟩ rfl oM0 rfl (Nat.le_of_ble_eq_true rfl) dX7_back_10 rfl ?_
    generalize e_3 : M_ref h (-3 : Int32) = h_2
    exact tt_iret K dX7_back_13 (by subst e_3; rfl) (by subst e_3; rfl) rfl

set_option maxHeartbeats 4000000 in
set_option maxRecDepth 100000 in
theorem c_X7_back_O (E : EN) (u : U3) (r : R1) (h : HB)  (h0 : ¬ ix (h 0 0) = 0) (hs : vI (h 0 0) 5) : CT E yX7_back wsX7_back (rmT 1 24) [.ref (eA E 6 0)] (ub u 6 h) r (some (.int (nI (ix (h 0 0) - 1)))) (ub u 6 (M_bring (up2 h 0 0 (nI (ix (h 0 0) - 1))) 3 (733 * (ix (h 0 0) - 1)) 1 0)) r := by
  refine CT_ofI (cc := cX7_back) (nL := 1) (own := RX7) (by decide) rfl rfl rfl (Nat.le_of_ble_eq_true rfl) (fun F C K => ?_)
  have hin7 : ∀ w ∈ u_ws RX7 TX7 15, w ∈ wsX7_back := by decide +kernel
  refine tt_to (lv1 := [(0, .ref (eA E 6 0))]) rfl rfl rfl rfl ?_
  have hs' := ix_lt hs (by decide)
  refine tt_aload_n C dX7_back_0 rfl 0 rfl ?_
  refine tt_getI (v := nI (ix (h 0 0))) C oM0 rfl hin7 3 (by decide) (List.mem_of_getElem? (i := 1) (by decide +kernel)) rfl (ub_v.trans (ix_eq hs (by decide))) dX7_back_1 ?_
  refine tt_if_ne C (tgt := 14) dX7_back_4 (by decide) (nI_eq0 (by omega)) (fun c_1 => ?_) (fun c_1 => ?_)
  · skip
    refine tt_aload_n C dX7_back_14 rfl 0 rfl ?_
    refine tt_dup C dX7_back_15 rfl ?_
    refine tt_getI (v := nI (ix (h 0 0))) C oM0 rfl hin7 3 (by decide) (List.mem_of_getElem? (i := 1) (by decide +kernel)) rfl (ub_v.trans (ix_eq hs (by decide))) dX7_back_16 ?_
    refine tt_iconst (v := nI 1) C dX7_back_19 (by decide) ?_
    refine tt_isub (v := nI ((ix (h 0 0)) - 1)) C dX7_back_20 (pk_sub (by omega)) ?_
    refine tt_putIB C fM0_0 rfl hin7 tyX7 tyX7_ok nmX7 (by decide) (List.mem_of_getElem? (i := 1) (by decide +kernel)) (by decide +kernel) (by decide +kernel) dX7_back_21 ?_
    generalize e_3 : up2 h 0 0 (nI ((ix (h 0 0)) - 1)) = h_2
    refine tt_aload_n C dX7_back_24 rfl 0 rfl ?_
    refine tt_get (v := .ref (eA E 6 3)) C oM0 rfl hin7 2 (by decide) (List.mem_of_getElem? (i := 2) (by decide +kernel)) rfl dX7_back_25 ?_
    refine tt_sipush (v := nI 733) C dX7_back_28 (by decide) ?_
    refine tt_aload_n C dX7_back_31 rfl 0 rfl ?_
    refine tt_getI (v := nI ((ix (h 0 0)) - 1)) C oM0 rfl hin7 3 (by decide) (List.mem_of_getElem? (i := 1) (by decide +kernel)) rfl (ub_v.trans (by rw [← e_3]; exact up2_s _ _ _ _)) dX7_back_32 ?_
    refine tt_imul (v := nI (733 * ((ix (h 0 0)) - 1))) C dX7_back_35 (pk_mul _ _) ?_
    refine tt_aload_n C dX7_back_36 rfl 0 rfl ?_
    refine tt_get (v := .ref (eA E 6 1)) C oM0 rfl hin7 0 (by decide) (List.mem_of_getElem? (i := 3) (by decide +kernel)) rfl dX7_back_37 ?_
    refine tt_iconst (v := nI 0) C dX7_back_40 (by decide) ?_
    refine tt_cSV C (c_X7_bring E u r h_2 3 (733 * ((ix (h 0 0)) - 1)) 1 0 aM3 aM1 (by omega) (by omega)) gX7_back_X7_bring rfl ⟨rfl, rfl⟩ 4 (by decide +kernel) ⟨Nat.le_of_ble_eq_true rfl, Nat.le_of_ble_eq_true rfl⟩ rfl (Nat.le_of_ble_eq_true rfl) dX7_back_41 rfl ?_
    generalize e_5 : M_bring h_2 3 (733 * ((ix (h 0 0)) - 1)) 1 0 = h_4
    refine tt_aload_n C dX7_back_44 rfl 0 rfl ?_
    refine tt_getI (v := nI ((ix (h 0 0)) - 1)) C oM0 rfl hin7 3 (by decide) (List.mem_of_getElem? (i := 1) (by decide +kernel)) rfl (ub_v.trans (by rw [← e_5, M_bring_n (by decide), ← e_3]; exact up2_s _ _ _ _)) dX7_back_45 ?_
    exact tt_iret K dX7_back_48 (by subst e_5; subst e_3; rfl) (by subst e_5; subst e_3; rfl) rfl
  · skip
    exact absurd c_1 h0
