/-! THE REFERENCE: m 1 its row of now, m 0 its numbers -/
theorem vI_in {v x : Int32} {N : Nat} (hx : vI x (N + 1)) (hN : N < 2 ^ 30) (hc : ¬ v < nI 0 ∧ ¬ x - nI 1 < v) : vI v N ∧ ix v < ix x := by
  obtain ⟨n, hn, rfl⟩ := hx
  obtain ⟨hc1, hc2⟩ := hc
  have hc1 : ¬ v < 0 := hc1
  obtain ⟨j, hj, rfl⟩ := nI_of hc1
  rw [show ix (nI n) = n from ix_nI (by omega), show ix (nI j) = j from ix_nI hj]
  have hlt : j < n := by
    rcases Nat.eq_zero_or_pos n with q | q
    · subst q
      exfalso
      apply hc2
      have : (nI 0 - nI 1 : Int32) < 0 := by decide
      exact Int32.lt_of_lt_of_le this (nI_pos' hj)
    · rw [pk_sub q] at hc2
      have := mt (nI_lt (a := n - 1) (b := j) · hj) hc2
      omega
  exact ⟨⟨j, by omega, rfl⟩, hlt⟩

set_option maxHeartbeats 4000000 in
set_option maxRecDepth 100000 in
theorem c_X7_in (E : EN) (u : U3) (r : R1) (v : Int32) (lo : Int32) (hi : Int32)  : CT E yX7_in wsX7_in (rmT 0 0) [.int v, .int lo, .int hi] (u) r (some (.int (b2i (¬ v < lo ∧ ¬ hi < v)))) (u) r := by
  refine CT_ofI (cc := cX7_in) (nL := 3) (own := RX7) (by decide) rfl rfl (b2i_z _) (Nat.le_of_ble_eq_true rfl) (fun F C K => ?_)
  refine tt_to (lv1 := [(0, .int v), (1, .int lo), (2, .int hi)]) rfl rfl rfl rfl ?_
  refine tt_iload_n C dX7_in_0 rfl 0 rfl ?_
  refine tt_iload_n C dX7_in_1 rfl 1 rfl ?_
  refine tt_icmp_lt C (tgt := 14) dX7_in_2 (by decide) Iff.rfl (fun c_1 => ?_) (fun c_1 => ?_)
  · skip
    refine tt_iconst (v := nI 0) C dX7_in_14 (by decide) ?_
    exact tt_iret K dX7_in_15 (by exact b1_f (by first | (simp only [c_1, not_false_eq_true, not_true_eq_false, and_true, true_and, and_false, false_and, and_self, or_true, true_or, or_false, false_or, or_self, if_true, if_false]; done) | grind)) rfl rfl
  · skip
    refine tt_iload_n C dX7_in_5 rfl 0 rfl ?_
    refine tt_iload_n C dX7_in_6 rfl 2 rfl ?_
    refine tt_icmp_gt C (tgt := 14) dX7_in_7 (by decide) Iff.rfl (fun c_2 => ?_) (fun c_2 => ?_)
    · skip
      refine tt_iconst (v := nI 0) C dX7_in_14 (by decide) ?_
      exact tt_iret K dX7_in_15 (by exact b1_f (by first | (simp only [c_1, c_2, not_false_eq_true, not_true_eq_false, and_true, true_and, and_false, false_and, and_self, or_true, true_or, or_false, false_or, or_self, if_true, if_false]; done) | grind)) rfl rfl
    · skip
      refine tt_iconst (v := nI 1) C dX7_in_10 (by decide) ?_
      refine tt_goto (tgt := 15) C dX7_in_11 (by decide) ?_
      exact tt_iret K dX7_in_15 (by exact b1_t (by first | (simp only [c_1, c_2, not_false_eq_true, not_true_eq_false, and_true, true_and, and_false, false_and, and_self, or_true, true_or, or_false, false_or, or_self, if_true, if_false]; done) | grind)) rfl rfl

set_option maxHeartbeats 4000000 in
set_option maxRecDepth 100000 in
theorem c_X7_isArea (E : EN) (u : U3) (r : R1) (v : Int32)  : CT E yX7_isArea wsX7_isArea (rmT 1 22) [.int v] (u) r (some (.int (b2i (¬ v < nI 0 ∧ ¬ nI 5 < v)))) (u) r := by
  refine CT_ofI (cc := cX7_isArea) (nL := 1) (own := RX7) (by decide) rfl rfl (b2i_z _) (Nat.le_of_ble_eq_true rfl) (fun F C K => ?_)
  refine tt_to (lv1 := [(0, .int v)]) rfl rfl rfl rfl ?_
  refine tt_iload_n C dX7_isArea_0 rfl 0 rfl ?_
  refine tt_iconst (v := nI 0) C dX7_isArea_1 (by decide) ?_
  refine tt_iconst (v := nI 5) C dX7_isArea_2 (by decide) ?_
  refine tt_cSI C (c_X7_in E u r v (nI 0) (nI 5)) gX7_isArea_X7_in rfl ⟨rfl, rfl⟩ 3 (by decide +kernel) ⟨Nat.le_of_ble_eq_true rfl, Nat.le_of_ble_eq_true rfl⟩ rfl (Nat.le_of_ble_eq_true rfl) dX7_isArea_3 rfl ?_
  exact tt_iret K dX7_isArea_6 (by first | rfl | (simp []; done) | grind []) rfl rfl

set_option maxHeartbeats 4000000 in
set_option maxRecDepth 100000 in
theorem c_X7_isLevel (E : EN) (u : U3) (r : R1) (v : Int32)  : CT E yX7_isLevel wsX7_isLevel (rmT 1 22) [.int v] (u) r (some (.int (b2i (¬ v < nI 0 ∧ ¬ nI 3 < v)))) (u) r := by
  refine CT_ofI (cc := cX7_isLevel) (nL := 1) (own := RX7) (by decide) rfl rfl (b2i_z _) (Nat.le_of_ble_eq_true rfl) (fun F C K => ?_)
  refine tt_to (lv1 := [(0, .int v)]) rfl rfl rfl rfl ?_
  refine tt_iload_n C dX7_isLevel_0 rfl 0 rfl ?_
  refine tt_iconst (v := nI 0) C dX7_isLevel_1 (by decide) ?_
  refine tt_iconst (v := nI 3) C dX7_isLevel_2 (by decide) ?_
  refine tt_cSI C (c_X7_in E u r v (nI 0) (nI 3)) gX7_isLevel_X7_in rfl ⟨rfl, rfl⟩ 3 (by decide +kernel) ⟨Nat.le_of_ble_eq_true rfl, Nat.le_of_ble_eq_true rfl⟩ rfl (Nat.le_of_ble_eq_true rfl) dX7_isLevel_3 rfl ?_
  exact tt_iret K dX7_isLevel_6 (by first | rfl | (simp []; done) | grind []) rfl rfl

set_option maxHeartbeats 4000000 in
set_option maxRecDepth 100000 in
theorem c_X7_isRefused (E : EN) (u : U3) (r : R1) (v : Int32)  : CT E yX7_isRefused wsX7_isRefused (rmT 0 0) [.int v] (u) r (some (.int (b2i (¬ (-2 : Int32) < v ∧ ¬ v < (-4 : Int32))))) (u) r := by
  refine CT_ofI (cc := cX7_isRefused) (nL := 1) (own := RX7) (by decide) rfl rfl (b2i_z _) (Nat.le_of_ble_eq_true rfl) (fun F C K => ?_)
  refine tt_to (lv1 := [(0, .int v)]) rfl rfl rfl rfl ?_
  refine tt_iload_n C dX7_isRefused_0 rfl 0 rfl ?_
  refine tt_bipush (v := (-2 : Int32)) C dX7_isRefused_1 (by decide) ?_
  refine tt_icmp_gt C (tgt := 16) dX7_isRefused_3 (by decide) Iff.rfl (fun c_1 => ?_) (fun c_1 => ?_)
  · skip
    refine tt_iconst (v := nI 0) C dX7_isRefused_16 (by decide) ?_
    exact tt_iret K dX7_isRefused_17 (by exact b1_f (by first | (simp only [c_1, not_false_eq_true, not_true_eq_false, and_true, true_and, and_false, false_and, and_self, or_true, true_or, or_false, false_or, or_self, if_true, if_false]; done) | grind)) rfl rfl
  · skip
    refine tt_iload_n C dX7_isRefused_6 rfl 0 rfl ?_
    refine tt_bipush (v := (-4 : Int32)) C dX7_isRefused_7 (by decide) ?_
    refine tt_icmp_lt C (tgt := 16) dX7_isRefused_9 (by decide) Iff.rfl (fun c_2 => ?_) (fun c_2 => ?_)
    · skip
      refine tt_iconst (v := nI 0) C dX7_isRefused_16 (by decide) ?_
      exact tt_iret K dX7_isRefused_17 (by exact b1_f (by first | (simp only [c_1, c_2, not_false_eq_true, not_true_eq_false, and_true, true_and, and_false, false_and, and_self, or_true, true_or, or_false, false_or, or_self, if_true, if_false]; done) | grind)) rfl rfl
    · skip
      refine tt_iconst (v := nI 1) C dX7_isRefused_12 (by decide) ?_
      refine tt_goto (tgt := 17) C dX7_isRefused_13 (by decide) ?_
      exact tt_iret K dX7_isRefused_17 (by exact b1_t (by first | (simp only [c_1, c_2, not_false_eq_true, not_true_eq_false, and_true, true_and, and_false, false_and, and_self, or_true, true_or, or_false, false_or, or_self, if_true, if_false]; done) | grind)) rfl rfl

set_option maxHeartbeats 4000000 in
set_option maxRecDepth 100000 in
theorem c_X7_refuse (E : EN) (u : U3) (r : R1) (h : HB) (v : Int32) (hv : vI ((-2 : Int32) - v) 3) : CT E yX7_refuse wsX7_refuse (rmT 0 0) [.ref (eA E 6 0), .int v] (ub u 6 h) r (some (.int (v))) (ub u 6 (up2 h 4 (ix ((-2 : Int32) - v)) (h 4 (ix ((-2 : Int32) - v)) + nI 1))) r := by
  refine CT_ofI (cc := cX7_refuse) (nL := 2) (own := RX7) (by decide) rfl rfl rfl (Nat.le_of_ble_eq_true rfl) (fun F C K => ?_)
  have hin7 : ∀ w ∈ u_ws RX7 TX7 15, w ∈ wsX7_refuse := by decide +kernel
  refine tt_to (lv1 := [(0, .ref (eA E 6 0)), (1, .int v)]) rfl rfl rfl rfl ?_
  refine tt_aload_n C dX7_refuse_0 rfl 0 rfl ?_
  refine tt_get (v := .ref (eA E 6 4)) C oM0 rfl hin7 4 (by decide) (List.mem_of_getElem? (i := 1) (by decide +kernel)) rfl dX7_refuse_1 ?_
  refine tt_bipush (v := (-2 : Int32)) C dX7_refuse_4 (by decide) ?_
  refine tt_iload_n C dX7_refuse_6 rfl 1 rfl ?_
  refine tt_isub C dX7_refuse_7 rfl ?_
  refine tt_dup2 C dX7_refuse_8 rfl rfl ?_
  refine tt_ialdB (v := h 4 (ix ((-2 : Int32) - v))) C aM4 (ix ((-2 : Int32) - v)) (ix_eq hv (by decide)) (ix_lt hv (by decide)) rfl dX7_refuse_9 ?_
  refine tt_iconst (v := nI 1) C dX7_refuse_10 (by decide) ?_
  refine tt_iadd C dX7_refuse_11 rfl ?_
  refine tt_iastB C aM4 (ix ((-2 : Int32) - v)) (ix_eq hv (by decide)) (ix_lt hv (by decide)) dX7_refuse_12 ?_
  generalize e_2 : up2 h 4 (ix ((-2 : Int32) - v)) ((h 4 (ix ((-2 : Int32) - v))) + (nI 1)) = h_1
  refine tt_iload_n C dX7_refuse_13 rfl 1 rfl ?_
  exact tt_iret K dX7_refuse_14 (by subst e_2; first | rfl | (simp []; done) | grind []) (by subst e_2; first | rfl | (simp []; done) | (refine congrArg _ ?_; grind [])) rfl

set_option maxHeartbeats 4000000 in
set_option maxRecDepth 100000 in
theorem c_X7_ofDoor (E : EN) (u : U3) (r : R1) (h : HB) (d : Nat) (a : Nat) (hd : d < 8) (ha : a < 60) : CT E yX7_ofDoor wsX7_ofDoor (rmT 0 0) [.ref (eA E 6 0), .int (nI d), .int (nI a)] (ub u 6 h) r (some (.int (h 1 (60 * d + a)))) (ub u 6 h) r := by
  refine CT_ofI (cc := cX7_ofDoor) (nL := 3) (own := RX7) (by decide) rfl rfl rfl (Nat.le_of_ble_eq_true rfl) (fun F C K => ?_)
  have hin7 : ∀ w ∈ u_ws RX7 TX7 15, w ∈ wsX7_ofDoor := by decide +kernel
  refine tt_to (lv1 := [(0, .ref (eA E 6 0)), (1, .int (nI d)), (2, .int (nI a))]) rfl rfl rfl rfl ?_
  refine tt_aload_n C dX7_ofDoor_0 rfl 0 rfl ?_
  refine tt_get (v := .ref (eA E 6 1)) C oM0 rfl hin7 0 (by decide) (List.mem_of_getElem? (i := 1) (by decide +kernel)) rfl dX7_ofDoor_1 ?_
  refine tt_bipush (v := nI 60) C dX7_ofDoor_4 (by decide) ?_
  refine tt_iload_n C dX7_ofDoor_6 rfl 1 rfl ?_
  refine tt_imul (v := nI (60 * d)) C dX7_ofDoor_7 (pk_mul _ _) ?_
  refine tt_iload_n C dX7_ofDoor_8 rfl 2 rfl ?_
  refine tt_iadd (v := nI (60 * d + a)) C dX7_ofDoor_9 (nI_add _ _) ?_
  refine tt_ialdB (v := h 1 (60 * d + a)) C aM1 (60 * d + a) rfl (by omega) rfl dX7_ofDoor_10 ?_
  exact tt_iret K dX7_ofDoor_11 (by first | rfl | (simp []; done) | grind []) (by first | rfl | (simp []; done) | (refine congrArg _ ?_; grind [])) rfl

set_option maxHeartbeats 4000000 in
set_option maxRecDepth 100000 in
theorem c_X7_ofBadge (E : EN) (u : U3) (r : R1) (h : HB) (b : Nat) (a : Nat) (hb : b < 8) (ha : a < 6) : CT E yX7_ofBadge wsX7_ofBadge (rmT 0 0) [.ref (eA E 6 0), .int (nI b), .int (nI a)] (ub u 6 h) r (some (.int (h 1 (480 + 6 * b + a)))) (ub u 6 h) r := by
  refine CT_ofI (cc := cX7_ofBadge) (nL := 3) (own := RX7) (by decide) rfl rfl rfl (Nat.le_of_ble_eq_true rfl) (fun F C K => ?_)
  have hin7 : ∀ w ∈ u_ws RX7 TX7 15, w ∈ wsX7_ofBadge := by decide +kernel
  refine tt_to (lv1 := [(0, .ref (eA E 6 0)), (1, .int (nI b)), (2, .int (nI a))]) rfl rfl rfl rfl ?_
  refine tt_aload_n C dX7_ofBadge_0 rfl 0 rfl ?_
  refine tt_get (v := .ref (eA E 6 1)) C oM0 rfl hin7 0 (by decide) (List.mem_of_getElem? (i := 1) (by decide +kernel)) rfl dX7_ofBadge_1 ?_
  refine tt_sipush (v := nI 480) C dX7_ofBadge_4 (by decide) ?_
  refine tt_bipush (v := nI 6) C dX7_ofBadge_7 (by decide) ?_
  refine tt_iload_n C dX7_ofBadge_9 rfl 1 rfl ?_
  refine tt_imul (v := nI (6 * b)) C dX7_ofBadge_10 (pk_mul _ _) ?_
  refine tt_iadd (v := nI (480 + (6 * b))) C dX7_ofBadge_11 (nI_add _ _) ?_
  refine tt_iload_n C dX7_ofBadge_12 rfl 2 rfl ?_
  refine tt_iadd (v := nI (480 + (6 * b) + a)) C dX7_ofBadge_13 (nI_add _ _) ?_
  refine tt_ialdB (v := h 1 (480 + (6 * b) + a)) C aM1 (480 + (6 * b) + a) rfl (by omega) rfl dX7_ofBadge_14 ?_
  exact tt_iret K dX7_ofBadge_15 (by first | rfl | (simp []; done) | grind []) (by first | rfl | (simp []; done) | (refine congrArg _ ?_; grind [])) rfl

set_option maxHeartbeats 4000000 in
set_option maxRecDepth 100000 in
theorem c_X7_change (E : EN) (u : U3) (r : R1) (h : HB) (p : Nat) (v : Int32) (hp : p < 733) : CT E yX7_change wsX7_change (rmT 0 0) [.ref (eA E 6 0), .int (nI p), .int v] (ub u 6 h) r (some (.int (h 1 p))) (ub u 6 (up2 h 1 p v)) r := by
  refine CT_ofI (cc := cX7_change) (nL := 4) (own := RX7) (by decide) rfl rfl rfl (Nat.le_of_ble_eq_true rfl) (fun F C K => ?_)
  have hin7 : ∀ w ∈ u_ws RX7 TX7 15, w ∈ wsX7_change := by decide +kernel
  refine tt_to (lv1 := [(0, .ref (eA E 6 0)), (1, .int (nI p)), (2, .int v)]) rfl rfl rfl rfl ?_
  refine tt_aload_n C dX7_change_0 rfl 0 rfl ?_
  refine tt_get (v := .ref (eA E 6 1)) C oM0 rfl hin7 0 (by decide) (List.mem_of_getElem? (i := 1) (by decide +kernel)) rfl dX7_change_1 ?_
  refine tt_iload_n C dX7_change_4 rfl 1 rfl ?_
  refine tt_ialdB (v := h 1 p) C aM1 p rfl (by omega) rfl dX7_change_5 ?_
  refine tt_istore_n (lv' := [(0, .ref (eA E 6 0)), (1, .int (nI p)), (2, .int v), (3, .int (h 1 p))]) C dX7_change_6 rfl (by decide) [1, 2, 3, 0] rfl ?_
  refine tt_aload_n C dX7_change_7 rfl 0 rfl ?_
  refine tt_get (v := .ref (eA E 6 1)) C oM0 rfl hin7 0 (by decide) (List.mem_of_getElem? (i := 1) (by decide +kernel)) rfl dX7_change_8 ?_
  refine tt_iload_n C dX7_change_11 rfl 1 rfl ?_
  refine tt_iload_n C dX7_change_12 rfl 2 rfl ?_
  refine tt_iastB C aM1 p rfl (by omega) dX7_change_13 ?_
  generalize e_2 : up2 h 1 p v = h_1
  refine tt_iload_n C dX7_change_14 rfl 3 rfl ?_
  exact tt_iret K dX7_change_15 (by subst e_2; first | rfl | (simp []; done) | grind []) (by subst e_2; first | rfl | (simp []; done) | (refine congrArg _ ?_; grind [])) rfl

set_option maxHeartbeats 4000000 in
set_option maxRecDepth 100000 in
theorem c_X7_isDoor (E : EN) (u : U3) (r : R1) (h : HB) (d : Int32)  : CT E yX7_isDoor wsX7_isDoor (rmT 1 22) [.ref (eA E 6 0), .int d] (ub u 6 h) r (some (.int (b2i (¬ d < nI 0 ∧ ¬ h 1 529 - nI 1 < d)))) (ub u 6 h) r := by
  refine CT_ofI (cc := cX7_isDoor) (nL := 2) (own := RX7) (by decide) rfl rfl (b2i_z _) (Nat.le_of_ble_eq_true rfl) (fun F C K => ?_)
  have hin7 : ∀ w ∈ u_ws RX7 TX7 15, w ∈ wsX7_isDoor := by decide +kernel
  refine tt_to (lv1 := [(0, .ref (eA E 6 0)), (1, .int d)]) rfl rfl rfl rfl ?_
  refine tt_iload_n C dX7_isDoor_0 rfl 1 rfl ?_
  refine tt_iconst (v := nI 0) C dX7_isDoor_1 (by decide) ?_
  refine tt_aload_n C dX7_isDoor_2 rfl 0 rfl ?_
  refine tt_get (v := .ref (eA E 6 1)) C oM0 rfl hin7 0 (by decide) (List.mem_of_getElem? (i := 1) (by decide +kernel)) rfl dX7_isDoor_3 ?_
  refine tt_sipush (v := nI 529) C dX7_isDoor_6 (by decide) ?_
  refine tt_ialdB (v := h 1 529) C aM1 529 rfl (by omega) rfl dX7_isDoor_9 ?_
  refine tt_iconst (v := nI 1) C dX7_isDoor_10 (by decide) ?_
  refine tt_isub C dX7_isDoor_11 rfl ?_
  refine tt_cSI C (c_X7_in E (ub u 6 h) r d (nI 0) ((h 1 529) - (nI 1))) gX7_isDoor_X7_in rfl ⟨rfl, rfl⟩ 3 (by decide +kernel) ⟨Nat.le_of_ble_eq_true rfl, Nat.le_of_ble_eq_true rfl⟩ rfl (Nat.le_of_ble_eq_true rfl) dX7_isDoor_12 rfl ?_
  exact tt_iret K dX7_isDoor_15 (by first | rfl | (simp []; done) | grind []) (by first | rfl | (simp []; done) | (refine congrArg _ ?_; grind [])) rfl

set_option maxHeartbeats 4000000 in
set_option maxRecDepth 100000 in
theorem c_X7_isBadge (E : EN) (u : U3) (r : R1) (h : HB) (b : Int32)  : CT E yX7_isBadge wsX7_isBadge (rmT 1 22) [.ref (eA E 6 0), .int b] (ub u 6 h) r (some (.int (b2i (¬ b < nI 0 ∧ ¬ h 1 530 - nI 1 < b)))) (ub u 6 h) r := by
  refine CT_ofI (cc := cX7_isBadge) (nL := 2) (own := RX7) (by decide) rfl rfl (b2i_z _) (Nat.le_of_ble_eq_true rfl) (fun F C K => ?_)
  have hin7 : ∀ w ∈ u_ws RX7 TX7 15, w ∈ wsX7_isBadge := by decide +kernel
  refine tt_to (lv1 := [(0, .ref (eA E 6 0)), (1, .int b)]) rfl rfl rfl rfl ?_
  refine tt_iload_n C dX7_isBadge_0 rfl 1 rfl ?_
  refine tt_iconst (v := nI 0) C dX7_isBadge_1 (by decide) ?_
  refine tt_aload_n C dX7_isBadge_2 rfl 0 rfl ?_
  refine tt_get (v := .ref (eA E 6 1)) C oM0 rfl hin7 0 (by decide) (List.mem_of_getElem? (i := 1) (by decide +kernel)) rfl dX7_isBadge_3 ?_
  refine tt_sipush (v := nI 530) C dX7_isBadge_6 (by decide) ?_
  refine tt_ialdB (v := h 1 530) C aM1 530 rfl (by omega) rfl dX7_isBadge_9 ?_
  refine tt_iconst (v := nI 1) C dX7_isBadge_10 (by decide) ?_
  refine tt_isub C dX7_isBadge_11 rfl ?_
  refine tt_cSI C (c_X7_in E (ub u 6 h) r b (nI 0) ((h 1 530) - (nI 1))) gX7_isBadge_X7_in rfl ⟨rfl, rfl⟩ 3 (by decide +kernel) ⟨Nat.le_of_ble_eq_true rfl, Nat.le_of_ble_eq_true rfl⟩ rfl (Nat.le_of_ble_eq_true rfl) dX7_isBadge_12 rfl ?_
  exact tt_iret K dX7_isBadge_15 (by first | rfl | (simp []; done) | grind []) (by first | rfl | (simp []; done) | (refine congrArg _ ?_; grind [])) rfl

set_option maxHeartbeats 4000000 in
set_option maxRecDepth 100000 in
theorem c_X7_isDay (E : EN) (u : U3) (r : R1) (h : HB)   : CT E yX7_isDay wsX7_isDay (rmT 1 22) [.ref (eA E 6 0)] (ub u 6 h) r (some (.int (b2i (¬ rem24 (h 1 528) < nI 8 ∧ ¬ nI 17 < rem24 (h 1 528))))) (ub u 6 h) r := by
  refine CT_ofI (cc := cX7_isDay) (nL := 1) (own := RX7) (by decide) rfl rfl (b2i_z _) (Nat.le_of_ble_eq_true rfl) (fun F C K => ?_)
  have hin7 : ∀ w ∈ u_ws RX7 TX7 15, w ∈ wsX7_isDay := by decide +kernel
  refine tt_to (lv1 := [(0, .ref (eA E 6 0))]) rfl rfl rfl rfl ?_
  refine tt_aload_n C dX7_isDay_0 rfl 0 rfl ?_
  refine tt_get (v := .ref (eA E 6 1)) C oM0 rfl hin7 0 (by decide) (List.mem_of_getElem? (i := 1) (by decide +kernel)) rfl dX7_isDay_1 ?_
  refine tt_sipush (v := nI 528) C dX7_isDay_4 (by decide) ?_
  refine tt_ialdB (v := h 1 528) C aM1 528 rfl (by omega) rfl dX7_isDay_7 ?_
  refine tt_bipush (v := nI 24) C dX7_isDay_8 (by decide) ?_
  refine tt_irem (v := (h 1 528) - (h 1 528) / (nI 24) * (nI 24)) C dX7_isDay_10 (by decide) rfl ?_
  refine tt_bipush (v := nI 8) C dX7_isDay_11 (by decide) ?_
  refine tt_bipush (v := nI 17) C dX7_isDay_13 (by decide) ?_
  refine tt_cSI C (c_X7_in E (ub u 6 h) r ((h 1 528) - (h 1 528) / (nI 24) * (nI 24)) (nI 8) (nI 17)) gX7_isDay_X7_in rfl ⟨rfl, rfl⟩ 3 (by decide +kernel) ⟨Nat.le_of_ble_eq_true rfl, Nat.le_of_ble_eq_true rfl⟩ rfl (Nat.le_of_ble_eq_true rfl) dX7_isDay_15 rfl ?_
  exact tt_iret K dX7_isDay_18 (by first | rfl | (simp []; done) | grind []) (by first | rfl | (simp []; done) | (refine congrArg _ ?_; grind [])) rfl

def M_lev (h : HB) (d : Nat) : Int32 := if ¬ rem24 (h 1 528) < nI 8 ∧ ¬ nI 17 < rem24 (h 1 528) then h 1 (60 * d + 2) else h 1 (60 * d + 3)
set_option maxHeartbeats 4000000 in
set_option maxRecDepth 100000 in
theorem c_X7_levelOf (E : EN) (u : U3) (r : R1) (h : HB) (d : Nat) (hd : d < 8) : CT E yX7_levelOf wsX7_levelOf (rmT 2 42) [.ref (eA E 6 0), .int (nI d)] (ub u 6 h) r (some (.int (M_lev h d))) (ub u 6 h) r := by
  refine CT_ofI (cc := cX7_levelOf) (nL := 2) (own := RX7) (by decide) rfl rfl rfl (Nat.le_of_ble_eq_true rfl) (fun F C K => ?_)
  refine tt_to (lv1 := [(0, .ref (eA E 6 0)), (1, .int (nI d))]) rfl rfl rfl rfl ?_
  refine tt_aload_n C dX7_levelOf_0 rfl 0 rfl ?_
  refine tt_iload_n C dX7_levelOf_1 rfl 1 rfl ?_
  refine tt_aload_n C dX7_levelOf_2 rfl 0 rfl ?_
  refine tt_cVI C (c_X7_isDay E u r h) gX7_levelOf_X7_isDay rfl ⟨rfl, rfl⟩ 0 (by decide +kernel) ⟨Nat.le_of_ble_eq_true rfl, Nat.le_of_ble_eq_true rfl⟩ rfl oM0 rfl (Nat.le_of_ble_eq_true rfl) dX7_levelOf_3 rfl ?_
  refine tt_if_eqB C (tgt := 13) dX7_levelOf_6 (by decide) (fun c_1 => ?_) (fun c_1 => ?_)
  · skip
    refine tt_iconst (v := nI 3) C dX7_levelOf_13 (by decide) ?_
    refine tt_cVI C (c_X7_ofDoor E u r h d 3 hd (by first | assumption | omega)) gX7_levelOf_X7_ofDoor rfl ⟨rfl, rfl⟩ 2 (by decide +kernel) ⟨Nat.le_of_ble_eq_true rfl, Nat.le_of_ble_eq_true rfl⟩ rfl oM0 rfl (Nat.le_of_ble_eq_true rfl) dX7_levelOf_14 rfl ?_
    exact tt_iret K dX7_levelOf_17 (by first | rfl | (simp [c_1, M_lev]; done) | grind [M_lev]) (by first | rfl | (simp [c_1, M_lev]; done) | (refine congrArg _ ?_; grind [M_lev])) rfl
  · skip
    refine tt_iconst (v := nI 2) C dX7_levelOf_9 (by decide) ?_
    refine tt_goto (tgt := 14) C dX7_levelOf_10 (by decide) ?_
    refine tt_cVI C (c_X7_ofDoor E u r h d 2 hd (by first | assumption | omega)) gX7_levelOf_X7_ofDoor rfl ⟨rfl, rfl⟩ 2 (by decide +kernel) ⟨Nat.le_of_ble_eq_true rfl, Nat.le_of_ble_eq_true rfl⟩ rfl oM0 rfl (Nat.le_of_ble_eq_true rfl) dX7_levelOf_14 rfl ?_
    exact tt_iret K dX7_levelOf_17 (by first | rfl | (simp [c_1, M_lev]; done) | grind [M_lev]) (by first | rfl | (simp [c_1, M_lev]; done) | (refine congrArg _ ?_; grind [M_lev])) rfl

set_option maxHeartbeats 4000000 in
set_option maxRecDepth 100000 in
theorem c_X7_isOpen_D (E : EN) (u : U3) (r : R1) (h : HB) (d : Nat) (hd : d < 8) : CT E yX7_isOpen wsX7_isOpen (rmT 1 22) [.ref (eA E 6 0), .int (nI d)] (ub u 6 h) r (some (.int (b2i (h 1 (60 * d + 8) = h 1 528)))) (ub u 6 h) r := by
  refine CT_ofI (cc := cX7_isOpen) (nL := 2) (own := RX7) (by decide) rfl rfl (b2i_z _) (Nat.le_of_ble_eq_true rfl) (fun F C K => ?_)
  have hin7 : ∀ w ∈ u_ws RX7 TX7 15, w ∈ wsX7_isOpen := by decide +kernel
  refine tt_to (lv1 := [(0, .ref (eA E 6 0)), (1, .int (nI d))]) rfl rfl rfl rfl ?_
  refine tt_iload_n C dX7_isOpen_0 rfl 1 rfl ?_
  refine tt_iconst (v := (-1 : Int32)) C dX7_isOpen_1 (by decide) ?_
  refine tt_icmp_eq C (tgt := 27) dX7_isOpen_2 (by decide) (by exact ⟨fun z => absurd z (vI_ne (vI_nI hd) (by decide)), fun z => z.elim⟩ : (nI d = -1) ↔ False) (fun c_1 => ?_) (fun c_1 => ?_)
  · skip
    exact c_1.elim
  · skip
    refine tt_aload_n C dX7_isOpen_5 rfl 0 rfl ?_
    refine tt_iload_n C dX7_isOpen_6 rfl 1 rfl ?_
    refine tt_bipush (v := nI 8) C dX7_isOpen_7 (by decide) ?_
    refine tt_cVI C (c_X7_ofDoor E u r h d 8 hd (by first | assumption | omega)) gX7_isOpen_X7_ofDoor rfl ⟨rfl, rfl⟩ 2 (by decide +kernel) ⟨Nat.le_of_ble_eq_true rfl, Nat.le_of_ble_eq_true rfl⟩ rfl oM0 rfl (Nat.le_of_ble_eq_true rfl) dX7_isOpen_9 rfl ?_
    refine tt_aload_n C dX7_isOpen_12 rfl 0 rfl ?_
    refine tt_get (v := .ref (eA E 6 1)) C oM0 rfl hin7 0 (by decide) (List.mem_of_getElem? (i := 1) (by decide +kernel)) rfl dX7_isOpen_13 ?_
    refine tt_sipush (v := nI 528) C dX7_isOpen_16 (by decide) ?_
    refine tt_ialdB (v := h 1 528) C aM1 528 rfl (by omega) rfl dX7_isOpen_19 ?_
    refine tt_icmp_ne C (tgt := 27) dX7_isOpen_20 (by decide) Iff.rfl (fun c_2 => ?_) (fun c_2 => ?_)
    · skip
      refine tt_iconst (v := nI 0) C dX7_isOpen_27 (by decide) ?_
      exact tt_iret K dX7_isOpen_28 (by exact b1_f (by first | (simp only [c_1, c_2, not_false_eq_true, not_true_eq_false, and_true, true_and, and_false, false_and, and_self, or_true, true_or, or_false, false_or, or_self, if_true, if_false]; done) | grind)) (by first | rfl | (simp [c_1, c_2]; done) | (refine congrArg _ ?_; grind [])) rfl
    · skip
      refine tt_iconst (v := nI 1) C dX7_isOpen_23 (by decide) ?_
      refine tt_goto (tgt := 28) C dX7_isOpen_24 (by decide) ?_
      exact tt_iret K dX7_isOpen_28 (by exact b1_t (by first | (simp only [c_1, c_2, not_false_eq_true, not_true_eq_false, and_true, true_and, and_false, false_and, and_self, or_true, true_or, or_false, false_or, or_self, if_true, if_false]; done) | grind)) (by first | rfl | (simp [c_1, c_2]; done) | (refine congrArg _ ?_; grind [])) rfl

set_option maxHeartbeats 4000000 in
set_option maxRecDepth 100000 in
theorem c_X7_isOpen_N (E : EN) (u : U3) (r : R1) (h : HB)   : CT E yX7_isOpen wsX7_isOpen (rmT 1 22) [.ref (eA E 6 0), .int (-1)] (ub u 6 h) r (some (.int (b2i (False)))) (ub u 6 h) r := by
  refine CT_ofI (cc := cX7_isOpen) (nL := 2) (own := RX7) (by decide) rfl rfl (b2i_z _) (Nat.le_of_ble_eq_true rfl) (fun F C K => ?_)
  refine tt_to (lv1 := [(0, .ref (eA E 6 0)), (1, .int (-1))]) rfl rfl rfl rfl ?_
  refine tt_iload_n C dX7_isOpen_0 rfl 1 rfl ?_
  refine tt_iconst (v := (-1 : Int32)) C dX7_isOpen_1 (by decide) ?_
  refine tt_icmp_eq C (tgt := 27) dX7_isOpen_2 (by decide) Iff.rfl (fun c_1 => ?_) (fun c_1 => ?_)
  · skip
    refine tt_iconst (v := nI 0) C dX7_isOpen_27 (by decide) ?_
    exact tt_iret K dX7_isOpen_28 (by exact b1_f (by first | (simp only [c_1, not_false_eq_true, not_true_eq_false, and_true, true_and, and_false, false_and, and_self, or_true, true_or, or_false, false_or, or_self, if_true, if_false]; done) | grind)) (by first | rfl | (simp [c_1]; done) | (refine congrArg _ ?_; grind [])) rfl
  · skip
    exact absurd rfl c_1

set_option maxHeartbeats 4000000 in
set_option maxRecDepth 100000 in
theorem c_X7_couldPass (E : EN) (u : U3) (r : R1) (h : HB) (b : Nat) (d : Nat) (hb : b < 8) (hd : d < 8) : CT E yX7_couldPass wsX7_couldPass (rmT 3 63) [.ref (eA E 6 0), .int (nI b), .int (nI d)] (ub u 6 h) r (some (.int (b2i (h 1 (60 * d + 1) = 0 ∨ (h 1 (480 + 6 * b + 1) = 0 ∧ ¬ h 1 (480 + 6 * b + 0) < M_lev h d))))) (ub u 6 h) r := by
  refine CT_ofI (cc := cX7_couldPass) (nL := 3) (own := RX7) (by decide) rfl rfl (b2i_z _) (Nat.le_of_ble_eq_true rfl) (fun F C K => ?_)
  refine tt_to (lv1 := [(0, .ref (eA E 6 0)), (1, .int (nI b)), (2, .int (nI d))]) rfl rfl rfl rfl ?_
  refine tt_aload_n C dX7_couldPass_0 rfl 0 rfl ?_
  refine tt_iload_n C dX7_couldPass_1 rfl 2 rfl ?_
  refine tt_iconst (v := nI 1) C dX7_couldPass_2 (by decide) ?_
  refine tt_cVI C (c_X7_ofDoor E u r h d 1 hd (by first | assumption | omega)) gX7_couldPass_X7_ofDoor rfl ⟨rfl, rfl⟩ 2 (by decide +kernel) ⟨Nat.le_of_ble_eq_true rfl, Nat.le_of_ble_eq_true rfl⟩ rfl oM0 rfl (Nat.le_of_ble_eq_true rfl) dX7_couldPass_3 rfl ?_
  refine tt_if_eq C (tgt := 32) dX7_couldPass_6 (by decide) Iff.rfl (fun c_1 => ?_) (fun c_1 => ?_)
  · skip
    refine tt_iconst (v := nI 1) C dX7_couldPass_32 (by decide) ?_
    refine tt_goto (tgt := 37) C dX7_couldPass_33 (by decide) ?_
    exact tt_iret K dX7_couldPass_37 (by exact b1_t (by first | (simp only [c_1, not_false_eq_true, not_true_eq_false, and_true, true_and, and_false, false_and, and_self, or_true, true_or, or_false, false_or, or_self, if_true, if_false]; done) | grind)) (by first | rfl | (simp [c_1]; done) | (refine congrArg _ ?_; grind [])) rfl
  · skip
    refine tt_aload_n C dX7_couldPass_9 rfl 0 rfl ?_
    refine tt_iload_n C dX7_couldPass_10 rfl 1 rfl ?_
    refine tt_iconst (v := nI 1) C dX7_couldPass_11 (by decide) ?_
    refine tt_cVI C (c_X7_ofBadge E u r h b 1 hb (by first | assumption | omega)) gX7_couldPass_X7_ofBadge rfl ⟨rfl, rfl⟩ 2 (by decide +kernel) ⟨Nat.le_of_ble_eq_true rfl, Nat.le_of_ble_eq_true rfl⟩ rfl oM0 rfl (Nat.le_of_ble_eq_true rfl) dX7_couldPass_12 rfl ?_
    refine tt_if_ne C (tgt := 36) dX7_couldPass_15 (by decide) Iff.rfl (fun c_2 => ?_) (fun c_2 => ?_)
    · skip
      refine tt_iconst (v := nI 0) C dX7_couldPass_36 (by decide) ?_
      exact tt_iret K dX7_couldPass_37 (by exact b1_f (by first | (simp only [c_1, c_2, not_false_eq_true, not_true_eq_false, and_true, true_and, and_false, false_and, and_self, or_true, true_or, or_false, false_or, or_self, if_true, if_false]; done) | grind)) (by first | rfl | (simp [c_1, c_2]; done) | (refine congrArg _ ?_; grind [])) rfl
    · skip
      refine tt_aload_n C dX7_couldPass_18 rfl 0 rfl ?_
      refine tt_iload_n C dX7_couldPass_19 rfl 1 rfl ?_
      refine tt_iconst (v := nI 0) C dX7_couldPass_20 (by decide) ?_
      refine tt_cVI C (c_X7_ofBadge E u r h b 0 hb (by first | assumption | omega)) gX7_couldPass_X7_ofBadge rfl ⟨rfl, rfl⟩ 2 (by decide +kernel) ⟨Nat.le_of_ble_eq_true rfl, Nat.le_of_ble_eq_true rfl⟩ rfl oM0 rfl (Nat.le_of_ble_eq_true rfl) dX7_couldPass_21 rfl ?_
      refine tt_aload_n C dX7_couldPass_24 rfl 0 rfl ?_
      refine tt_iload_n C dX7_couldPass_25 rfl 2 rfl ?_
      refine tt_cVI C (c_X7_levelOf E u r h d hd) gX7_couldPass_X7_levelOf rfl ⟨rfl, rfl⟩ 1 (by decide +kernel) ⟨Nat.le_of_ble_eq_true rfl, Nat.le_of_ble_eq_true rfl⟩ rfl oM0 rfl (Nat.le_of_ble_eq_true rfl) dX7_couldPass_26 rfl ?_
      refine tt_icmp_lt C (tgt := 36) dX7_couldPass_29 (by decide) Iff.rfl (fun c_3 => ?_) (fun c_3 => ?_)
      · skip
        refine tt_iconst (v := nI 0) C dX7_couldPass_36 (by decide) ?_
        exact tt_iret K dX7_couldPass_37 (by exact b1_f (by first | (simp only [c_1, c_2, c_3, not_false_eq_true, not_true_eq_false, and_true, true_and, and_false, false_and, and_self, or_true, true_or, or_false, false_or, or_self, if_true, if_false]; done) | grind)) (by first | rfl | (simp [c_1, c_2, c_3]; done) | (refine congrArg _ ?_; grind [])) rfl
      · skip
        refine tt_iconst (v := nI 1) C dX7_couldPass_32 (by decide) ?_
        refine tt_goto (tgt := 37) C dX7_couldPass_33 (by decide) ?_
        exact tt_iret K dX7_couldPass_37 (by exact b1_t (by first | (simp only [c_1, c_2, c_3, not_false_eq_true, not_true_eq_false, and_true, true_and, and_false, false_and, and_self, or_true, true_or, or_false, false_or, or_self, if_true, if_false]; done) | grind)) (by first | rfl | (simp [c_1, c_2, c_3]; done) | (refine congrArg _ ?_; grind [])) rfl

def M_cnt (h : HB) (w : Nat) : Int32 := if w = 0 then h 1 528 else if w = 1 then rem24 (h 1 528) else h 1 (531 + w - 2)
set_option maxHeartbeats 4000000 in
set_option maxRecDepth 100000 in
theorem c_X7_countOf (E : EN) (u : U3) (r : R1) (h : HB) (w : Nat) (hw : w < 12) : CT E yX7_countOf wsX7_countOf (rmT 0 0) [.ref (eA E 6 0), .int (nI w)] (ub u 6 h) r (some (.int (M_cnt h w))) (ub u 6 h) r := by
  refine CT_ofI (cc := cX7_countOf) (nL := 2) (own := RX7) (by decide) rfl rfl rfl (Nat.le_of_ble_eq_true rfl) (fun F C K => ?_)
  have hin7 : ∀ w ∈ u_ws RX7 TX7 15, w ∈ wsX7_countOf := by decide +kernel
  refine tt_to (lv1 := [(0, .ref (eA E 6 0)), (1, .int (nI w))]) rfl rfl rfl rfl ?_
  refine tt_iload_n C dX7_countOf_0 rfl 1 rfl ?_
  refine tt_if_ne C (tgt := 15) dX7_countOf_1 (by decide) (nI_eq0 (by omega)) (fun c_1 => ?_) (fun c_1 => ?_)
  · skip
    refine tt_iload_n C dX7_countOf_15 rfl 1 rfl ?_
    refine tt_iconst (v := nI 1) C dX7_countOf_16 (by decide) ?_
    refine tt_icmp_ne C (tgt := 34) dX7_countOf_17 (by decide) (nI_eq (by omega) (by omega)) (fun c_2 => ?_) (fun c_2 => ?_)
    · skip
      refine tt_aload_n C dX7_countOf_34 rfl 0 rfl ?_
      refine tt_get (v := .ref (eA E 6 1)) C oM0 rfl hin7 0 (by decide) (List.mem_of_getElem? (i := 1) (by decide +kernel)) rfl dX7_countOf_35 ?_
      refine tt_sipush (v := nI 531) C dX7_countOf_38 (by decide) ?_
      refine tt_iload_n C dX7_countOf_41 rfl 1 rfl ?_
      refine tt_iadd (v := nI (531 + w)) C dX7_countOf_42 (nI_add _ _) ?_
      refine tt_iconst (v := nI 2) C dX7_countOf_43 (by decide) ?_
      refine tt_isub (v := nI ((531 + w) - 2)) C dX7_countOf_44 (pk_sub (by omega)) ?_
      refine tt_ialdB (v := h 1 ((531 + w) - 2)) C aM1 ((531 + w) - 2) rfl (by omega) rfl dX7_countOf_45 ?_
      exact tt_iret K dX7_countOf_46 (by first | rfl | (simp [c_1, c_2, M_cnt, rem24]; done) | grind [M_cnt, rem24]) (by first | rfl | (simp [c_1, c_2, M_cnt, rem24]; done) | (refine congrArg _ ?_; grind [M_cnt, rem24])) rfl
    · skip
      refine tt_aload_n C dX7_countOf_20 rfl 0 rfl ?_
      refine tt_get (v := .ref (eA E 6 1)) C oM0 rfl hin7 0 (by decide) (List.mem_of_getElem? (i := 1) (by decide +kernel)) rfl dX7_countOf_21 ?_
      refine tt_sipush (v := nI 528) C dX7_countOf_24 (by decide) ?_
      refine tt_ialdB (v := h 1 528) C aM1 528 rfl (by omega) rfl dX7_countOf_27 ?_
      refine tt_bipush (v := nI 24) C dX7_countOf_28 (by decide) ?_
      refine tt_irem (v := (h 1 528) - (h 1 528) / (nI 24) * (nI 24)) C dX7_countOf_30 (by decide) rfl ?_
      refine tt_goto (tgt := 46) C dX7_countOf_31 (by decide) ?_
      exact tt_iret K dX7_countOf_46 (by first | rfl | (simp [c_1, c_2, M_cnt, rem24]; done) | grind [M_cnt, rem24]) (by first | rfl | (simp [c_1, c_2, M_cnt, rem24]; done) | (refine congrArg _ ?_; grind [M_cnt, rem24])) rfl
  · skip
    refine tt_aload_n C dX7_countOf_4 rfl 0 rfl ?_
    refine tt_get (v := .ref (eA E 6 1)) C oM0 rfl hin7 0 (by decide) (List.mem_of_getElem? (i := 1) (by decide +kernel)) rfl dX7_countOf_5 ?_
    refine tt_sipush (v := nI 528) C dX7_countOf_8 (by decide) ?_
    refine tt_ialdB (v := h 1 528) C aM1 528 rfl (by omega) rfl dX7_countOf_11 ?_
    refine tt_goto (tgt := 46) C dX7_countOf_12 (by decide) ?_
    exact tt_iret K dX7_countOf_46 (by first | rfl | (simp [c_1, M_cnt, rem24]; done) | grind [M_cnt, rem24]) (by first | rfl | (simp [c_1, M_cnt, rem24]; done) | (refine congrArg _ ?_; grind [M_cnt, rem24])) rfl

def M_told (h : HB) (w : Nat) : Int32 := if w < 3 then h 4 w else if w = 3 then h 0 1 else if w = 4 then h 1 529 else if w = 5 then h 1 530 else h 0 0
set_option maxHeartbeats 4000000 in
set_option maxRecDepth 100000 in
theorem c_X7_toldOf (E : EN) (u : U3) (r : R1) (h : HB) (w : Nat) (hw : w < 7) : CT E yX7_toldOf wsX7_toldOf (rmT 0 0) [.ref (eA E 6 0), .int (nI w)] (ub u 6 h) r (some (.int (M_told h w))) (ub u 6 h) r := by
  refine CT_ofI (cc := cX7_toldOf) (nL := 2) (own := RX7) (by decide) rfl rfl rfl (Nat.le_of_ble_eq_true rfl) (fun F C K => ?_)
  have hin7 : ∀ w ∈ u_ws RX7 TX7 15, w ∈ wsX7_toldOf := by decide +kernel
  refine tt_to (lv1 := [(0, .ref (eA E 6 0)), (1, .int (nI w))]) rfl rfl rfl rfl ?_
  refine tt_iload_n C dX7_toldOf_0 rfl 1 rfl ?_
  refine tt_iconst (v := nI 3) C dX7_toldOf_1 (by decide) ?_
  refine tt_icmp_ge C (tgt := 14) dX7_toldOf_2 (by decide) (nI_leI (by omega) (by omega)) (fun c_1 => ?_) (fun c_1 => ?_)
  · skip
    refine tt_iload_n C dX7_toldOf_14 rfl 1 rfl ?_
    refine tt_iconst (v := nI 3) C dX7_toldOf_15 (by decide) ?_
    refine tt_icmp_ne C (tgt := 26) dX7_toldOf_16 (by decide) (nI_eq (by omega) (by omega)) (fun c_2 => ?_) (fun c_2 => ?_)
    · skip
      refine tt_iload_n C dX7_toldOf_26 rfl 1 rfl ?_
      refine tt_iconst (v := nI 4) C dX7_toldOf_27 (by decide) ?_
      refine tt_icmp_ne C (tgt := 42) dX7_toldOf_28 (by decide) (nI_eq (by omega) (by omega)) (fun c_3 => ?_) (fun c_3 => ?_)
      · skip
        refine tt_iload_n C dX7_toldOf_42 rfl 1 rfl ?_
        refine tt_iconst (v := nI 5) C dX7_toldOf_43 (by decide) ?_
        refine tt_icmp_ne C (tgt := 58) dX7_toldOf_44 (by decide) (nI_eq (by omega) (by omega)) (fun c_4 => ?_) (fun c_4 => ?_)
        · skip
          refine tt_aload_n C dX7_toldOf_58 rfl 0 rfl ?_
          refine tt_getI (v := h 0 0) C oM0 rfl hin7 3 (by decide) (List.mem_of_getElem? (i := 4) (by decide +kernel)) rfl (ub_v.trans rfl) dX7_toldOf_59 ?_
          exact tt_iret K dX7_toldOf_62 (by first | rfl | (simp [c_1, c_2, c_3, c_4, M_told]; done) | grind [M_told]) (by first | rfl | (simp [c_1, c_2, c_3, c_4, M_told]; done) | (refine congrArg _ ?_; grind [M_told])) rfl
        · skip
          refine tt_aload_n C dX7_toldOf_47 rfl 0 rfl ?_
          refine tt_get (v := .ref (eA E 6 1)) C oM0 rfl hin7 0 (by decide) (List.mem_of_getElem? (i := 3) (by decide +kernel)) rfl dX7_toldOf_48 ?_
          refine tt_sipush (v := nI 530) C dX7_toldOf_51 (by decide) ?_
          refine tt_ialdB (v := h 1 530) C aM1 530 rfl (by omega) rfl dX7_toldOf_54 ?_
          refine tt_goto (tgt := 62) C dX7_toldOf_55 (by decide) ?_
          exact tt_iret K dX7_toldOf_62 (by first | rfl | (simp [c_1, c_2, c_3, c_4, M_told]; done) | grind [M_told]) (by first | rfl | (simp [c_1, c_2, c_3, c_4, M_told]; done) | (refine congrArg _ ?_; grind [M_told])) rfl
      · skip
        refine tt_aload_n C dX7_toldOf_31 rfl 0 rfl ?_
        refine tt_get (v := .ref (eA E 6 1)) C oM0 rfl hin7 0 (by decide) (List.mem_of_getElem? (i := 3) (by decide +kernel)) rfl dX7_toldOf_32 ?_
        refine tt_sipush (v := nI 529) C dX7_toldOf_35 (by decide) ?_
        refine tt_ialdB (v := h 1 529) C aM1 529 rfl (by omega) rfl dX7_toldOf_38 ?_
        refine tt_goto (tgt := 62) C dX7_toldOf_39 (by decide) ?_
        exact tt_iret K dX7_toldOf_62 (by first | rfl | (simp [c_1, c_2, c_3, M_told]; done) | grind [M_told]) (by first | rfl | (simp [c_1, c_2, c_3, M_told]; done) | (refine congrArg _ ?_; grind [M_told])) rfl
    · skip
      refine tt_aload_n C dX7_toldOf_19 rfl 0 rfl ?_
      refine tt_getI (v := h 0 1) C oM0 rfl hin7 6 (by decide) (List.mem_of_getElem? (i := 2) (by decide +kernel)) rfl (ub_v.trans rfl) dX7_toldOf_20 ?_
      refine tt_goto (tgt := 62) C dX7_toldOf_23 (by decide) ?_
      exact tt_iret K dX7_toldOf_62 (by first | rfl | (simp [c_1, c_2, M_told]; done) | grind [M_told]) (by first | rfl | (simp [c_1, c_2, M_told]; done) | (refine congrArg _ ?_; grind [M_told])) rfl
  · skip
    refine tt_aload_n C dX7_toldOf_5 rfl 0 rfl ?_
    refine tt_get (v := .ref (eA E 6 4)) C oM0 rfl hin7 4 (by decide) (List.mem_of_getElem? (i := 1) (by decide +kernel)) rfl dX7_toldOf_6 ?_
    refine tt_iload_n C dX7_toldOf_9 rfl 1 rfl ?_
    refine tt_ialdB (v := h 4 w) C aM4 w rfl (by omega) rfl dX7_toldOf_10 ?_
    refine tt_goto (tgt := 62) C dX7_toldOf_11 (by decide) ?_
    exact tt_iret K dX7_toldOf_62 (by first | rfl | (simp [c_1, M_told]; done) | grind [M_told]) (by first | rfl | (simp [c_1, M_told]; done) | (refine congrArg _ ?_; grind [M_told])) rfl

set_option maxHeartbeats 4000000 in
set_option maxRecDepth 100000 in
theorem c_X7_clear (E : EN) (u : U3) (r : R1) (h : HB)   : CT E yX7_clear wsX7_clear (rmT 0 0) [.ref (eA E 6 0)] (ub u 6 h) r (some (.int (h 0 1))) (ub u 6 (up2 h 0 1 (nI 0))) r := by
  refine CT_ofI (cc := cX7_clear) (nL := 2) (own := RX7) (by decide) rfl rfl rfl (Nat.le_of_ble_eq_true rfl) (fun F C K => ?_)
  have hin7 : ∀ w ∈ u_ws RX7 TX7 15, w ∈ wsX7_clear := by decide +kernel
  refine tt_to (lv1 := [(0, .ref (eA E 6 0))]) rfl rfl rfl rfl ?_
  refine tt_aload_n C dX7_clear_0 rfl 0 rfl ?_
  refine tt_getI (v := h 0 1) C oM0 rfl hin7 6 (by decide) (List.mem_of_getElem? (i := 1) (by decide +kernel)) rfl (ub_v.trans rfl) dX7_clear_1 ?_
  refine tt_istore_n (lv' := [(0, .ref (eA E 6 0)), (1, .int (h 0 1))]) C dX7_clear_4 rfl (by decide) [1, 0] rfl ?_
  refine tt_aload_n C dX7_clear_5 rfl 0 rfl ?_
  refine tt_iconst (v := nI 0) C dX7_clear_6 (by decide) ?_
  refine tt_putIB C fM0_1 rfl hin7 tyX7 tyX7_ok nmX7 (by decide) (List.mem_of_getElem? (i := 1) (by decide +kernel)) (by decide +kernel) (by decide +kernel) dX7_clear_7 ?_
  generalize e_2 : up2 h 0 1 (nI 0) = h_1
  refine tt_iload_n C dX7_clear_10 rfl 1 rfl ?_
  exact tt_iret K dX7_clear_11 (by subst e_2; first | rfl | (simp []; done) | grind []) (by subst e_2; first | rfl | (simp []; done) | (refine congrArg _ ?_; grind [])) rfl

def M_move (h : HB) (b d : Nat) (w : Int32) : HB := up2 (up2 (up2 h 1 531 (h 1 531 + (if ¬ h 1 (60 * d + 4) = 0 ∧ ¬ h 1 (480 + 6 * b + 2) = h 1 (60 * d + 0) then nI 1 else nI 0))) 1 (480 + 6 * b + 2) (h 1 (60 * d + 1))) 1 (480 + 6 * b + 3) w
set_option maxHeartbeats 4000000 in
set_option maxRecDepth 100000 in
theorem c_X7_move (E : EN) (u : U3) (r : R1) (h : HB) (b : Nat) (d : Nat) (w : Int32) (hb : b < 8) (hd : d < 8) : CT E yX7_move wsX7_move (rmT 1 22) [.ref (eA E 6 0), .int (nI b), .int (nI d), .int w] (ub u 6 h) r none (ub u 6 (M_move h b d w)) r := by
  refine CT_ofV (cc := cX7_move) (nL := 4) (own := RX7) (by decide) rfl rfl (Nat.le_of_ble_eq_true rfl) (fun F C K => ?_)
  have hin7 : ∀ w ∈ u_ws RX7 TX7 15, w ∈ wsX7_move := by decide +kernel
  refine tt_to (lv1 := [(0, .ref (eA E 6 0)), (1, .int (nI b)), (2, .int (nI d)), (3, .int w)]) rfl rfl rfl rfl ?_
  refine tt_aload_n C dX7_move_0 rfl 0 rfl ?_
  refine tt_get (v := .ref (eA E 6 1)) C oM0 rfl hin7 0 (by decide) (List.mem_of_getElem? (i := 1) (by decide +kernel)) rfl dX7_move_1 ?_
  refine tt_sipush (v := nI 531) C dX7_move_4 (by decide) ?_
  refine tt_dup2 C dX7_move_7 rfl rfl ?_
  refine tt_ialdB (v := h 1 531) C aM1 531 rfl (by omega) rfl dX7_move_8 ?_
  refine tt_aload_n C dX7_move_9 rfl 0 rfl ?_
  refine tt_iload_n C dX7_move_10 rfl 2 rfl ?_
  refine tt_iconst (v := nI 4) C dX7_move_11 (by decide) ?_
  refine tt_cVI C (c_X7_ofDoor E u r h d 4 hd (by first | assumption | omega)) gX7_move_X7_ofDoor rfl ⟨rfl, rfl⟩ 2 (by decide +kernel) ⟨Nat.le_of_ble_eq_true rfl, Nat.le_of_ble_eq_true rfl⟩ rfl oM0 rfl (Nat.le_of_ble_eq_true rfl) dX7_move_12 rfl ?_
  refine tt_if_eq C (tgt := 37) dX7_move_15 (by decide) Iff.rfl (fun c_1 => ?_) (fun c_1 => ?_)
  · skip
    refine tt_iconst (v := nI 0) C dX7_move_37 (by decide) ?_
    refine tt_iadd C dX7_move_38 rfl ?_
    refine tt_iastB C aM1 531 rfl (by omega) dX7_move_39 ?_
    generalize e_3 : up2 h 1 531 ((h 1 531) + (nI 0)) = h_2
    refine tt_aload_n C dX7_move_40 rfl 0 rfl ?_
    refine tt_get (v := .ref (eA E 6 1)) C oM0 rfl hin7 0 (by decide) (List.mem_of_getElem? (i := 1) (by decide +kernel)) rfl dX7_move_41 ?_
    refine tt_sipush (v := nI 480) C dX7_move_44 (by decide) ?_
    refine tt_bipush (v := nI 6) C dX7_move_47 (by decide) ?_
    refine tt_iload_n C dX7_move_49 rfl 1 rfl ?_
    refine tt_imul (v := nI (6 * b)) C dX7_move_50 (pk_mul _ _) ?_
    refine tt_iadd (v := nI (480 + (6 * b))) C dX7_move_51 (nI_add _ _) ?_
    refine tt_iconst (v := nI 2) C dX7_move_52 (by decide) ?_
    refine tt_iadd (v := nI (480 + (6 * b) + 2)) C dX7_move_53 (nI_add _ _) ?_
    refine tt_aload_n C dX7_move_54 rfl 0 rfl ?_
    refine tt_iload_n C dX7_move_55 rfl 2 rfl ?_
    refine tt_iconst (v := nI 1) C dX7_move_56 (by decide) ?_
    refine tt_cVI C (c_X7_ofDoor E u r h_2 d 1 hd (by first | assumption | omega)) gX7_move_X7_ofDoor rfl ⟨rfl, rfl⟩ 2 (by decide +kernel) ⟨Nat.le_of_ble_eq_true rfl, Nat.le_of_ble_eq_true rfl⟩ rfl oM0 rfl (Nat.le_of_ble_eq_true rfl) dX7_move_57 rfl ?_
    refine tt_to (st1 := [.int (h 1 (60 * d + 1)), .int (nI (480 + (6 * b) + 2)), .ref (eA E 6 1)]) rfl rfl rfl (congrArg (fun z => ([.int z, .int (nI (480 + (6 * b) + 2)), .ref (eA E 6 1)] : List Value)) (by rw [← e_3, up2_n (fun z => absurd z.2 (by omega))])) ?_
    refine tt_iastB C aM1 (480 + (6 * b) + 2) rfl (by omega) dX7_move_60 ?_
    generalize e_5 : up2 h_2 1 (480 + (6 * b) + 2) (h 1 (60 * d + 1)) = h_4
    refine tt_aload_n C dX7_move_61 rfl 0 rfl ?_
    refine tt_get (v := .ref (eA E 6 1)) C oM0 rfl hin7 0 (by decide) (List.mem_of_getElem? (i := 1) (by decide +kernel)) rfl dX7_move_62 ?_
    refine tt_sipush (v := nI 480) C dX7_move_65 (by decide) ?_
    refine tt_bipush (v := nI 6) C dX7_move_68 (by decide) ?_
    refine tt_iload_n C dX7_move_70 rfl 1 rfl ?_
    refine tt_imul (v := nI (6 * b)) C dX7_move_71 (pk_mul _ _) ?_
    refine tt_iadd (v := nI (480 + (6 * b))) C dX7_move_72 (nI_add _ _) ?_
    refine tt_iconst (v := nI 3) C dX7_move_73 (by decide) ?_
    refine tt_iadd (v := nI (480 + (6 * b) + 3)) C dX7_move_74 (nI_add _ _) ?_
    refine tt_iload_n C dX7_move_75 rfl 3 rfl ?_
    refine tt_iastB C aM1 (480 + (6 * b) + 3) rfl (by omega) dX7_move_76 ?_
    generalize e_7 : up2 h_4 1 (480 + (6 * b) + 3) w = h_6
    exact tt_vret K dX7_move_77 (by subst e_7; subst e_5; subst e_3; first | rfl | (simp [c_1, M_move]; done) | (refine congrArg _ ?_; grind [M_move])) rfl
  · skip
    refine tt_aload_n C dX7_move_18 rfl 0 rfl ?_
    refine tt_iload_n C dX7_move_19 rfl 1 rfl ?_
    refine tt_iconst (v := nI 2) C dX7_move_20 (by decide) ?_
    refine tt_cVI C (c_X7_ofBadge E u r h b 2 hb (by first | assumption | omega)) gX7_move_X7_ofBadge rfl ⟨rfl, rfl⟩ 2 (by decide +kernel) ⟨Nat.le_of_ble_eq_true rfl, Nat.le_of_ble_eq_true rfl⟩ rfl oM0 rfl (Nat.le_of_ble_eq_true rfl) dX7_move_21 rfl ?_
    refine tt_aload_n C dX7_move_24 rfl 0 rfl ?_
    refine tt_iload_n C dX7_move_25 rfl 2 rfl ?_
    refine tt_iconst (v := nI 0) C dX7_move_26 (by decide) ?_
    refine tt_cVI C (c_X7_ofDoor E u r h d 0 hd (by first | assumption | omega)) gX7_move_X7_ofDoor rfl ⟨rfl, rfl⟩ 2 (by decide +kernel) ⟨Nat.le_of_ble_eq_true rfl, Nat.le_of_ble_eq_true rfl⟩ rfl oM0 rfl (Nat.le_of_ble_eq_true rfl) dX7_move_27 rfl ?_
    refine tt_icmp_eq C (tgt := 37) dX7_move_30 (by decide) Iff.rfl (fun c_8 => ?_) (fun c_8 => ?_)
    · skip
      refine tt_iconst (v := nI 0) C dX7_move_37 (by decide) ?_
      refine tt_iadd C dX7_move_38 rfl ?_
      refine tt_iastB C aM1 531 rfl (by omega) dX7_move_39 ?_
      generalize e_10 : up2 h 1 531 ((h 1 531) + (nI 0)) = h_9
      refine tt_aload_n C dX7_move_40 rfl 0 rfl ?_
      refine tt_get (v := .ref (eA E 6 1)) C oM0 rfl hin7 0 (by decide) (List.mem_of_getElem? (i := 1) (by decide +kernel)) rfl dX7_move_41 ?_
      refine tt_sipush (v := nI 480) C dX7_move_44 (by decide) ?_
      refine tt_bipush (v := nI 6) C dX7_move_47 (by decide) ?_
      refine tt_iload_n C dX7_move_49 rfl 1 rfl ?_
      refine tt_imul (v := nI (6 * b)) C dX7_move_50 (pk_mul _ _) ?_
      refine tt_iadd (v := nI (480 + (6 * b))) C dX7_move_51 (nI_add _ _) ?_
      refine tt_iconst (v := nI 2) C dX7_move_52 (by decide) ?_
      refine tt_iadd (v := nI (480 + (6 * b) + 2)) C dX7_move_53 (nI_add _ _) ?_
      refine tt_aload_n C dX7_move_54 rfl 0 rfl ?_
      refine tt_iload_n C dX7_move_55 rfl 2 rfl ?_
      refine tt_iconst (v := nI 1) C dX7_move_56 (by decide) ?_
      refine tt_cVI C (c_X7_ofDoor E u r h_9 d 1 hd (by first | assumption | omega)) gX7_move_X7_ofDoor rfl ⟨rfl, rfl⟩ 2 (by decide +kernel) ⟨Nat.le_of_ble_eq_true rfl, Nat.le_of_ble_eq_true rfl⟩ rfl oM0 rfl (Nat.le_of_ble_eq_true rfl) dX7_move_57 rfl ?_
      refine tt_to (st1 := [.int (h 1 (60 * d + 1)), .int (nI (480 + (6 * b) + 2)), .ref (eA E 6 1)]) rfl rfl rfl (congrArg (fun z => ([.int z, .int (nI (480 + (6 * b) + 2)), .ref (eA E 6 1)] : List Value)) (by rw [← e_10, up2_n (fun z => absurd z.2 (by omega))])) ?_
      refine tt_iastB C aM1 (480 + (6 * b) + 2) rfl (by omega) dX7_move_60 ?_
      generalize e_12 : up2 h_9 1 (480 + (6 * b) + 2) (h 1 (60 * d + 1)) = h_11
      refine tt_aload_n C dX7_move_61 rfl 0 rfl ?_
      refine tt_get (v := .ref (eA E 6 1)) C oM0 rfl hin7 0 (by decide) (List.mem_of_getElem? (i := 1) (by decide +kernel)) rfl dX7_move_62 ?_
      refine tt_sipush (v := nI 480) C dX7_move_65 (by decide) ?_
      refine tt_bipush (v := nI 6) C dX7_move_68 (by decide) ?_
      refine tt_iload_n C dX7_move_70 rfl 1 rfl ?_
      refine tt_imul (v := nI (6 * b)) C dX7_move_71 (pk_mul _ _) ?_
      refine tt_iadd (v := nI (480 + (6 * b))) C dX7_move_72 (nI_add _ _) ?_
      refine tt_iconst (v := nI 3) C dX7_move_73 (by decide) ?_
      refine tt_iadd (v := nI (480 + (6 * b) + 3)) C dX7_move_74 (nI_add _ _) ?_
      refine tt_iload_n C dX7_move_75 rfl 3 rfl ?_
      refine tt_iastB C aM1 (480 + (6 * b) + 3) rfl (by omega) dX7_move_76 ?_
      generalize e_14 : up2 h_11 1 (480 + (6 * b) + 3) w = h_13
      exact tt_vret K dX7_move_77 (by subst e_14; subst e_12; subst e_10; first | rfl | (simp [c_1, c_8, M_move]; done) | (refine congrArg _ ?_; grind [M_move])) rfl
    · skip
      refine tt_iconst (v := nI 1) C dX7_move_33 (by decide) ?_
      refine tt_goto (tgt := 38) C dX7_move_34 (by decide) ?_
      refine tt_iadd C dX7_move_38 rfl ?_
      refine tt_iastB C aM1 531 rfl (by omega) dX7_move_39 ?_
      generalize e_16 : up2 h 1 531 ((h 1 531) + (nI 1)) = h_15
      refine tt_aload_n C dX7_move_40 rfl 0 rfl ?_
      refine tt_get (v := .ref (eA E 6 1)) C oM0 rfl hin7 0 (by decide) (List.mem_of_getElem? (i := 1) (by decide +kernel)) rfl dX7_move_41 ?_
      refine tt_sipush (v := nI 480) C dX7_move_44 (by decide) ?_
      refine tt_bipush (v := nI 6) C dX7_move_47 (by decide) ?_
      refine tt_iload_n C dX7_move_49 rfl 1 rfl ?_
      refine tt_imul (v := nI (6 * b)) C dX7_move_50 (pk_mul _ _) ?_
      refine tt_iadd (v := nI (480 + (6 * b))) C dX7_move_51 (nI_add _ _) ?_
      refine tt_iconst (v := nI 2) C dX7_move_52 (by decide) ?_
      refine tt_iadd (v := nI (480 + (6 * b) + 2)) C dX7_move_53 (nI_add _ _) ?_
      refine tt_aload_n C dX7_move_54 rfl 0 rfl ?_
      refine tt_iload_n C dX7_move_55 rfl 2 rfl ?_
      refine tt_iconst (v := nI 1) C dX7_move_56 (by decide) ?_
      refine tt_cVI C (c_X7_ofDoor E u r h_15 d 1 hd (by first | assumption | omega)) gX7_move_X7_ofDoor rfl ⟨rfl, rfl⟩ 2 (by decide +kernel) ⟨Nat.le_of_ble_eq_true rfl, Nat.le_of_ble_eq_true rfl⟩ rfl oM0 rfl (Nat.le_of_ble_eq_true rfl) dX7_move_57 rfl ?_
      refine tt_to (st1 := [.int (h 1 (60 * d + 1)), .int (nI (480 + (6 * b) + 2)), .ref (eA E 6 1)]) rfl rfl rfl (congrArg (fun z => ([.int z, .int (nI (480 + (6 * b) + 2)), .ref (eA E 6 1)] : List Value)) (by rw [← e_16, up2_n (fun z => absurd z.2 (by omega))])) ?_
      refine tt_iastB C aM1 (480 + (6 * b) + 2) rfl (by omega) dX7_move_60 ?_
      generalize e_18 : up2 h_15 1 (480 + (6 * b) + 2) (h 1 (60 * d + 1)) = h_17
      refine tt_aload_n C dX7_move_61 rfl 0 rfl ?_
      refine tt_get (v := .ref (eA E 6 1)) C oM0 rfl hin7 0 (by decide) (List.mem_of_getElem? (i := 1) (by decide +kernel)) rfl dX7_move_62 ?_
      refine tt_sipush (v := nI 480) C dX7_move_65 (by decide) ?_
      refine tt_bipush (v := nI 6) C dX7_move_68 (by decide) ?_
      refine tt_iload_n C dX7_move_70 rfl 1 rfl ?_
      refine tt_imul (v := nI (6 * b)) C dX7_move_71 (pk_mul _ _) ?_
      refine tt_iadd (v := nI (480 + (6 * b))) C dX7_move_72 (nI_add _ _) ?_
      refine tt_iconst (v := nI 3) C dX7_move_73 (by decide) ?_
      refine tt_iadd (v := nI (480 + (6 * b) + 3)) C dX7_move_74 (nI_add _ _) ?_
      refine tt_iload_n C dX7_move_75 rfl 3 rfl ?_
      refine tt_iastB C aM1 (480 + (6 * b) + 3) rfl (by omega) dX7_move_76 ?_
      generalize e_20 : up2 h_17 1 (480 + (6 * b) + 3) w = h_19
      exact tt_vret K dX7_move_77 (by subst e_20; subst e_18; subst e_16; first | rfl | (simp [c_1, c_8, M_move]; done) | (refine congrArg _ ?_; grind [M_move])) rfl

def bringB (k1 a k2 b k : Nat) (x : HB) : HB := up2 x k2 (b + k) (x k1 (a + k))
def M_bring (h : HB) (k1 a k2 b : Nat) : HB := iter (bringB k1 a k2 b) 733 h
theorem M_bring_n {h : HB} {k1 a k2 b k j : Nat} (hk : k ≠ k2) : M_bring h k1 a k2 b k j = h k j := iter_keep (fun x : HB => x k j) (fun n x => up2_n (fun z => hk z.1)) 733 h
set_option maxHeartbeats 4000000 in
set_option maxRecDepth 100000 in
theorem l_bring (E : EN) (u : U3) (r : R1) (h : HB) (k1 a k2 b : Nat) {n1 n2 : Nat} (hA1 : Arr 6 k1 n1) (hA2 : Arr 6 k2 n2) (h1 : a + 733 ≤ n1) (h2 : b + 733 ≤ n2) (F : FX) (C : Cx E F cX7_bring 5 RX7 wsX7_bring (rmT 0 0)) (K : RtV E F cX7_bring (ub u 6 (M_bring h k1 a k2 b)) r) : ∀ (n j : Nat), j ≤ 733 → 733 + 1 ≤ j + n → T E F 5 (ub u 6 (iter (bringB k1 a k2 b) j h)) r 3 [(0, .ref (eA E 6 k1)), (1, .int (nI a)), (2, .ref (eA E 6 k2)), (3, .int (nI b)), (4, .int (nI j))] [] := by
  have l1 : n1 < 3000 := hA1.1.2
  have l2 : n2 < 3000 := hA2.1.2
  intro n
  induction n with
  | zero => intro j q1 q2; exact absurd q2 (by omega)
  | succ n ih =>
    intro j q1 q2
    refine tt_iload C dX7_bring_3 4 rfl ?_
    refine tt_sipush (v := nI 733) C dX7_bring_5 (by decide) ?_
    refine tt_icmp_ge C (tgt := 29) dX7_bring_8 (by decide) (nI_leI (by omega) (by omega)) (fun c1 => ?_) (fun c1 => ?_)
    · have hje : j = 733 := (by omega)
      subst hje
      exact tt_vret K dX7_bring_29 rfl rfl
    · refine tt_aload_n C dX7_bring_11 rfl 2 rfl ?_
      refine tt_iload_n C dX7_bring_12 rfl 3 rfl ?_
      refine tt_iload C dX7_bring_13 4 rfl ?_
      refine tt_iadd (v := nI (b + j)) C dX7_bring_15 (nI_add _ _) ?_
      refine tt_aload_n C dX7_bring_16 rfl 0 rfl ?_
      refine tt_iload_n C dX7_bring_17 rfl 1 rfl ?_
      refine tt_iload C dX7_bring_18 4 rfl ?_
      refine tt_iadd (v := nI (a + j)) C dX7_bring_20 (nI_add _ _) ?_
      refine tt_ialdB (v := iter (bringB k1 a k2 b) j h k1 (a + j)) C hA1 (a + j) rfl (by omega) rfl dX7_bring_21 ?_
      refine tt_iastB C hA2 (b + j) rfl (by omega) dX7_bring_22 ?_
      refine tt_iinc (p := 4) (v := nI (j + 1)) (lv' := [(0, .ref (eA E 6 k1)), (1, .int (nI a)), (2, .ref (eA E 6 k2)), (3, .int (nI b)), (4, .int (nI (j + 1)))]) C dX7_bring_23 rfl (by rw [show Int32.ofInt 1 = nI 1 from by decide]; exact nI_add _ _) (by decide) [1, 2, 3, 4, 0] rfl ?_
      refine tt_goto (tgt := 3) C dX7_bring_26 (by decide) ?_
      exact ih (j + 1) (by omega) (by omega)
set_option maxHeartbeats 4000000 in
set_option maxRecDepth 100000 in
theorem c_X7_bring (E : EN) (u : U3) (r : R1) (h : HB) (k1 a k2 b : Nat) {n1 n2 : Nat} (hA1 : Arr 6 k1 n1) (hA2 : Arr 6 k2 n2) (h1 : a + 733 ≤ n1) (h2 : b + 733 ≤ n2) : CT E yX7_bring wsX7_bring (rmT 0 0) [.ref (eA E 6 k1), .int (nI a), .ref (eA E 6 k2), .int (nI b)] (ub u 6 h) r none (ub u 6 (M_bring h k1 a k2 b)) r := by
  refine CT_ofV (cc := cX7_bring) (nL := 5) (own := RX7) (by decide) rfl rfl (Nat.le_of_ble_eq_true rfl) (fun F C K => ?_)
  refine tt_to (lv1 := [(0, .ref (eA E 6 k1)), (1, .int (nI a)), (2, .ref (eA E 6 k2)), (3, .int (nI b))]) rfl rfl rfl rfl ?_
  refine tt_iconst (v := nI 0) C dX7_bring_0 (by decide) ?_
  refine tt_istore (lv' := [(0, .ref (eA E 6 k1)), (1, .int (nI a)), (2, .ref (eA E 6 k2)), (3, .int (nI b)), (4, .int (nI 0))]) C dX7_bring_1 (by decide) [1, 2, 3, 4, 0] rfl ?_
  exact l_bring E u r h k1 a k2 b hA1 hA2 h1 h2 F C K 734 0 (by omega) (by omega)

set_option maxHeartbeats 4000000 in
set_option maxRecDepth 100000 in
theorem c_X7_save (E : EN) (u : U3) (r : R1) (h : HB)   : CT E yX7_save wsX7_save (rmT 1 24) [.ref (eA E 6 0)] (ub u 6 h) r none (ub u 6 (M_bring h 1 0 2 0)) r := by
  refine CT_ofV (cc := cX7_save) (nL := 1) (own := RX7) (by decide) rfl rfl (Nat.le_of_ble_eq_true rfl) (fun F C K => ?_)
  have hin7 : ∀ w ∈ u_ws RX7 TX7 15, w ∈ wsX7_save := by decide +kernel
  refine tt_to (lv1 := [(0, .ref (eA E 6 0))]) rfl rfl rfl rfl ?_
  refine tt_aload_n C dX7_save_0 rfl 0 rfl ?_
  refine tt_get (v := .ref (eA E 6 1)) C oM0 rfl hin7 0 (by decide) (List.mem_of_getElem? (i := 1) (by decide +kernel)) rfl dX7_save_1 ?_
  refine tt_iconst (v := nI 0) C dX7_save_4 (by decide) ?_
  refine tt_aload_n C dX7_save_5 rfl 0 rfl ?_
  refine tt_get (v := .ref (eA E 6 2)) C oM0 rfl hin7 1 (by decide) (List.mem_of_getElem? (i := 2) (by decide +kernel)) rfl dX7_save_6 ?_
  refine tt_iconst (v := nI 0) C dX7_save_9 (by decide) ?_
  refine tt_cSV C (c_X7_bring E u r h 1 0 2 0 aM1 aM2 (by omega) (by omega)) gX7_save_X7_bring rfl ⟨rfl, rfl⟩ 4 (by decide +kernel) ⟨Nat.le_of_ble_eq_true rfl, Nat.le_of_ble_eq_true rfl⟩ rfl (Nat.le_of_ble_eq_true rfl) dX7_save_10 rfl ?_
  generalize e_2 : M_bring h 1 0 2 0 = h_1
  exact tt_vret K dX7_save_13 (by subst e_2; first | rfl | (simp []; done) | (refine congrArg _ ?_; grind [])) rfl

def M_shB (k : Nat) (x : HB) : HB := up2 x 3 k (x 3 (k + 733))
def M_sh (h : HB) : HB := iter M_shB 2199 h
theorem M_shB_k (h : HB) (n k j : Nat) (hk : k ≠ 3) : iter M_shB n h k j = h k j := iter_keep (fun x : HB => x k j) (fun n x => up2_n (fun z => hk z.1)) n h
def M_push (h : HB) : HB := if ix (h 0 0) = 4 then up2 (M_bring (up2 (M_sh h) 0 0 (nI (ix (h 0 0) - 1))) 2 0 3 (733 * (ix (h 0 0) - 1))) 0 0 (nI (ix (h 0 0) - 1 + 1)) else up2 (M_bring h 2 0 3 (733 * ix (h 0 0))) 0 0 (nI (ix (h 0 0) + 1))

set_option maxHeartbeats 4000000 in
set_option maxRecDepth 100000 in
theorem c_X7_finish_R (E : EN) (u : U3) (r : R1) (h : HB) (v : Int32) (hv : vI ((-2 : Int32) - v) 3) (hc : ¬ (-2 : Int32) < v ∧ ¬ v < (-4 : Int32)) : CT E yX7_finish wsX7_finish (rmT 1 24) [.ref (eA E 6 0), .int v] (ub u 6 h) r (some (.int (v))) (ub u 6 (up2 h 4 (ix ((-2 : Int32) - v)) (h 4 (ix ((-2 : Int32) - v)) + nI 1))) r := by
  refine CT_ofI (cc := cX7_finish) (nL := 3) (own := RX7) (by decide) rfl rfl rfl (Nat.le_of_ble_eq_true rfl) (fun F C K => ?_)
  refine tt_to (lv1 := [(0, .ref (eA E 6 0)), (1, .int v)]) rfl rfl rfl rfl ?_
  refine tt_iload_n C dX7_finish_0 rfl 1 rfl ?_
  refine tt_cSI C (c_X7_isRefused E (ub u 6 h) r v) gX7_finish_X7_isRefused rfl ⟨rfl, rfl⟩ 1 (by decide +kernel) ⟨Nat.le_of_ble_eq_true rfl, Nat.le_of_ble_eq_true rfl⟩ rfl (Nat.le_of_ble_eq_true rfl) dX7_finish_1 rfl ?_
  refine tt_if_eqB C (tgt := 13) dX7_finish_4 (by decide) (fun c_1 => ?_) (fun c_1 => ?_)
  · skip
    exact absurd hc c_1
  · skip
    refine tt_aload_n C dX7_finish_7 rfl 0 rfl ?_
    refine tt_iload_n C dX7_finish_8 rfl 1 rfl ?_
    refine tt_cVI C (c_X7_refuse E u r h v hv) gX7_finish_X7_refuse rfl ⟨rfl, rfl⟩ 1 (by decide +kernel) ⟨Nat.le_of_ble_eq_true rfl, Nat.le_of_ble_eq_true rfl⟩ rfl oM0 rfl (Nat.le_of_ble_eq_true rfl) dX7_finish_9 rfl ?_
    generalize e_3 : up2 h 4 (ix ((-2 : Int32) - v)) (h 4 (ix ((-2 : Int32) - v)) + nI 1) = h_2
    exact tt_iret K dX7_finish_12 (by subst e_3; first | rfl | (simp [c_1]; done) | grind []) (by subst e_3; first | rfl | (simp [c_1]; done) | (refine congrArg _ ?_; grind [])) rfl

set_option maxHeartbeats 4000000 in
set_option maxRecDepth 100000 in
theorem l_fin (E : EN) (u : U3) (r : R1) (h : HB) (v : Int32) (h4 : ix (h 0 0) = 4) (hc : ¬ (¬ (-2 : Int32) < v ∧ ¬ v < (-4 : Int32))) (hs : vI (h 0 0) 5) (F : FX) (C : Cx E F cX7_finish 3 RX7 wsX7_finish (rmT 1 24)) (K : RtI E F cX7_finish (v) (ub u 6 (M_push h)) r) : ∀ (n j : Nat), j ≤ 2199 → 2199 + 1 ≤ j + n → T E F 3 (ub u 6 (iter M_shB j h)) r 23 [(0, .ref (eA E 6 0)), (1, .int v), (2, .int (nI j))] [] := by
  have hin7 : ∀ w ∈ u_ws RX7 TX7 15, w ∈ wsX7_finish := by decide +kernel
  intro n
  induction n with
  | zero => intro j h1 h2; exact absurd h2 (by omega)
  | succ n ih =>
    intro j h1 h2
    generalize ej : iter M_shB j h = hj
    have hs' := ix_lt hs (by decide)
    have f0 : hj 0 0 = nI (ix (h 0 0)) := by rw [← ej, M_shB_k _ _ _ _ (by decide)]; exact ix_eq hs (by decide)
    refine tt_iload_n C dX7_finish_23 rfl 2 rfl ?_
    refine tt_sipush (v := nI 2199) C dX7_finish_24 (by decide) ?_
    refine tt_icmp_ge C (tgt := 52) dX7_finish_27 (by decide) (nI_leI (by omega) (by omega)) (fun c_101 => ?_) (fun c_101 => ?_)
    · skip
      have hje : j = 2199 := (by omega); subst hje
      refine tt_aload_n C dX7_finish_52 rfl 0 rfl ?_
      refine tt_dup C dX7_finish_53 rfl ?_
      refine tt_getI (v := nI (ix (h 0 0))) C oM0 rfl hin7 3 (by decide) (List.mem_of_getElem? (i := 1) (by decide +kernel)) rfl (ub_v.trans f0) dX7_finish_54 ?_
      refine tt_iconst (v := nI 1) C dX7_finish_57 (by decide) ?_
      refine tt_isub (v := nI ((ix (h 0 0)) - 1)) C dX7_finish_58 (pk_sub (by omega)) ?_
      refine tt_putIB C fM0_0 rfl hin7 tyX7 tyX7_ok nmX7 (by decide) (List.mem_of_getElem? (i := 1) (by decide +kernel)) (by decide +kernel) (by decide +kernel) dX7_finish_59 ?_
      generalize e_103 : up2 hj 0 0 (nI ((ix (h 0 0)) - 1)) = h_102
      refine tt_aload_n C dX7_finish_62 rfl 0 rfl ?_
      refine tt_get (v := .ref (eA E 6 2)) C oM0 rfl hin7 1 (by decide) (List.mem_of_getElem? (i := 3) (by decide +kernel)) rfl dX7_finish_63 ?_
      refine tt_iconst (v := nI 0) C dX7_finish_66 (by decide) ?_
      refine tt_aload_n C dX7_finish_67 rfl 0 rfl ?_
      refine tt_get (v := .ref (eA E 6 3)) C oM0 rfl hin7 2 (by decide) (List.mem_of_getElem? (i := 2) (by decide +kernel)) rfl dX7_finish_68 ?_
      refine tt_sipush (v := nI 733) C dX7_finish_71 (by decide) ?_
      refine tt_aload_n C dX7_finish_74 rfl 0 rfl ?_
      refine tt_getI (v := nI ((ix (h 0 0)) - 1)) C oM0 rfl hin7 3 (by decide) (List.mem_of_getElem? (i := 1) (by decide +kernel)) rfl (ub_v.trans (by rw [← e_103]; exact up2_s _ _ _ _)) dX7_finish_75 ?_
      refine tt_imul (v := nI (733 * ((ix (h 0 0)) - 1))) C dX7_finish_78 (pk_mul _ _) ?_
      refine tt_cSV C (c_X7_bring E u r h_102 2 0 3 (733 * ((ix (h 0 0)) - 1)) aM2 aM3 (by omega) (by omega)) gX7_finish_X7_bring rfl ⟨rfl, rfl⟩ 4 (by decide +kernel) ⟨Nat.le_of_ble_eq_true rfl, Nat.le_of_ble_eq_true rfl⟩ rfl (Nat.le_of_ble_eq_true rfl) dX7_finish_79 rfl ?_
      generalize e_105 : M_bring h_102 2 0 3 (733 * ((ix (h 0 0)) - 1)) = h_104
      refine tt_aload_n C dX7_finish_82 rfl 0 rfl ?_
      refine tt_dup C dX7_finish_83 rfl ?_
      refine tt_getI (v := nI ((ix (h 0 0)) - 1)) C oM0 rfl hin7 3 (by decide) (List.mem_of_getElem? (i := 1) (by decide +kernel)) rfl (ub_v.trans (by rw [← e_105, M_bring_n (by decide), ← e_103]; exact up2_s _ _ _ _)) dX7_finish_84 ?_
      refine tt_iconst (v := nI 1) C dX7_finish_87 (by decide) ?_
      refine tt_iadd (v := nI ((ix (h 0 0)) - 1 + 1)) C dX7_finish_88 (nI_add _ _) ?_
      refine tt_putIB C fM0_0 rfl hin7 tyX7 tyX7_ok nmX7 (by decide) (List.mem_of_getElem? (i := 1) (by decide +kernel)) (by decide +kernel) (by decide +kernel) dX7_finish_89 ?_
      generalize e_107 : up2 h_104 0 0 (nI ((ix (h 0 0)) - 1 + 1)) = h_106
      refine tt_iload_n C dX7_finish_92 rfl 1 rfl ?_
      exact tt_iret K dX7_finish_93 (by subst e_107; subst e_105; subst e_103; subst ej; rfl) (by subst e_107; subst e_105; subst e_103; subst ej; unfold M_push; rw [if_pos h4]; rfl) rfl
    · skip
      refine tt_aload_n C dX7_finish_30 rfl 0 rfl ?_
      refine tt_get (v := .ref (eA E 6 3)) C oM0 rfl hin7 2 (by decide) (List.mem_of_getElem? (i := 2) (by decide +kernel)) rfl dX7_finish_31 ?_
      refine tt_iload_n C dX7_finish_34 rfl 2 rfl ?_
      refine tt_aload_n C dX7_finish_35 rfl 0 rfl ?_
      refine tt_get (v := .ref (eA E 6 3)) C oM0 rfl hin7 2 (by decide) (List.mem_of_getElem? (i := 2) (by decide +kernel)) rfl dX7_finish_36 ?_
      refine tt_iload_n C dX7_finish_39 rfl 2 rfl ?_
      refine tt_sipush (v := nI 733) C dX7_finish_40 (by decide) ?_
      refine tt_iadd (v := nI (j + 733)) C dX7_finish_43 (nI_add _ _) ?_
      refine tt_ialdB (v := hj 3 (j + 733)) C aM3 (j + 733) rfl (by omega) rfl dX7_finish_44 ?_
      refine tt_iastB C aM3 j rfl (by omega) dX7_finish_45 ?_
      generalize e_109 : up2 hj 3 j (hj 3 (j + 733)) = h_108
      refine tt_iinc (p := 2) (v := nI (j + 1)) (lv' := [(0, .ref (eA E 6 0)), (1, .int v), (2, .int (nI (j + 1)))]) C dX7_finish_46 rfl (by rw [show Int32.ofInt 1 = nI 1 from by decide]; exact nI_add _ _) (by decide) [1, 2, 0] rfl ?_
      refine tt_goto (tgt := 23) C dX7_finish_49 (by decide) ?_
      subst e_109
      subst ej
      exact ih (j + 1) (by omega) (by omega)

set_option maxHeartbeats 4000000 in
set_option maxRecDepth 100000 in
theorem c_X7_finish_O (E : EN) (u : U3) (r : R1) (h : HB) (v : Int32) (hc : ¬ (¬ (-2 : Int32) < v ∧ ¬ v < (-4 : Int32))) (hs : vI (h 0 0) 5) : CT E yX7_finish wsX7_finish (rmT 1 24) [.ref (eA E 6 0), .int v] (ub u 6 h) r (some (.int (v))) (ub u 6 (M_push h)) r := by
  refine CT_ofI (cc := cX7_finish) (nL := 3) (own := RX7) (by decide) rfl rfl rfl (Nat.le_of_ble_eq_true rfl) (fun F C K => ?_)
  have hin7 : ∀ w ∈ u_ws RX7 TX7 15, w ∈ wsX7_finish := by decide +kernel
  refine tt_to (lv1 := [(0, .ref (eA E 6 0)), (1, .int v)]) rfl rfl rfl rfl ?_
  have hs' := ix_lt hs (by decide)
  refine tt_iload_n C dX7_finish_0 rfl 1 rfl ?_
  refine tt_cSI C (c_X7_isRefused E (ub u 6 h) r v) gX7_finish_X7_isRefused rfl ⟨rfl, rfl⟩ 1 (by decide +kernel) ⟨Nat.le_of_ble_eq_true rfl, Nat.le_of_ble_eq_true rfl⟩ rfl (Nat.le_of_ble_eq_true rfl) dX7_finish_1 rfl ?_
  refine tt_if_eqB C (tgt := 13) dX7_finish_4 (by decide) (fun c_1 => ?_) (fun c_1 => ?_)
  · skip
    refine tt_aload_n C dX7_finish_13 rfl 0 rfl ?_
    refine tt_getI (v := nI (ix (h 0 0))) C oM0 rfl hin7 3 (by decide) (List.mem_of_getElem? (i := 1) (by decide +kernel)) rfl (ub_v.trans (ix_eq hs (by decide))) dX7_finish_14 ?_
    refine tt_iconst (v := nI 4) C dX7_finish_17 (by decide) ?_
    refine tt_icmp_ne C (tgt := 62) dX7_finish_18 (by decide) (nI_eq (by omega) (by omega)) (fun c_2 => ?_) (fun c_2 => ?_)
    · skip
      refine tt_aload_n C dX7_finish_62 rfl 0 rfl ?_
      refine tt_get (v := .ref (eA E 6 2)) C oM0 rfl hin7 1 (by decide) (List.mem_of_getElem? (i := 3) (by decide +kernel)) rfl dX7_finish_63 ?_
      refine tt_iconst (v := nI 0) C dX7_finish_66 (by decide) ?_
      refine tt_aload_n C dX7_finish_67 rfl 0 rfl ?_
      refine tt_get (v := .ref (eA E 6 3)) C oM0 rfl hin7 2 (by decide) (List.mem_of_getElem? (i := 2) (by decide +kernel)) rfl dX7_finish_68 ?_
      refine tt_sipush (v := nI 733) C dX7_finish_71 (by decide) ?_
      refine tt_aload_n C dX7_finish_74 rfl 0 rfl ?_
      refine tt_getI (v := nI (ix (h 0 0))) C oM0 rfl hin7 3 (by decide) (List.mem_of_getElem? (i := 1) (by decide +kernel)) rfl (ub_v.trans (ix_eq hs (by decide))) dX7_finish_75 ?_
      refine tt_imul (v := nI (733 * (ix (h 0 0)))) C dX7_finish_78 (pk_mul _ _) ?_
      refine tt_cSV C (c_X7_bring E u r h 2 0 3 (733 * (ix (h 0 0))) aM2 aM3 (by omega) (by omega)) gX7_finish_X7_bring rfl ⟨rfl, rfl⟩ 4 (by decide +kernel) ⟨Nat.le_of_ble_eq_true rfl, Nat.le_of_ble_eq_true rfl⟩ rfl (Nat.le_of_ble_eq_true rfl) dX7_finish_79 rfl ?_
      generalize e_4 : M_bring h 2 0 3 (733 * (ix (h 0 0))) = h_3
      refine tt_aload_n C dX7_finish_82 rfl 0 rfl ?_
      refine tt_dup C dX7_finish_83 rfl ?_
      refine tt_getI (v := nI (ix (h 0 0))) C oM0 rfl hin7 3 (by decide) (List.mem_of_getElem? (i := 1) (by decide +kernel)) rfl (ub_v.trans (by rw [← e_4, M_bring_n (by decide)]; exact (ix_eq hs (by decide)))) dX7_finish_84 ?_
      refine tt_iconst (v := nI 1) C dX7_finish_87 (by decide) ?_
      refine tt_iadd (v := nI (ix (h 0 0) + 1)) C dX7_finish_88 (nI_add _ _) ?_
      refine tt_putIB C fM0_0 rfl hin7 tyX7 tyX7_ok nmX7 (by decide) (List.mem_of_getElem? (i := 1) (by decide +kernel)) (by decide +kernel) (by decide +kernel) dX7_finish_89 ?_
      generalize e_6 : up2 h_3 0 0 (nI (ix (h 0 0) + 1)) = h_5
      refine tt_iload_n C dX7_finish_92 rfl 1 rfl ?_
      exact tt_iret K dX7_finish_93 (by subst e_6; subst e_4; rfl) (by subst e_6; subst e_4; unfold M_push; rw [if_neg (by assumption)]) rfl
    · skip
      refine tt_iconst (v := nI 0) C dX7_finish_21 (by decide) ?_
      refine tt_istore_n (lv' := [(0, .ref (eA E 6 0)), (1, .int v), (2, .int (nI 0))]) C dX7_finish_22 rfl (by decide) [1, 2, 0] rfl ?_
      exact l_fin E u r h v c_2 hc hs F C K 2200 0 (by omega) (by omega)
  · skip
    exact absurd c_1 hc

def pfF (h : HB) (b d : Nat) : Nat → Nat → Nat
  | 0, j => j
  | n + 1, j => if j < ix (h 1 540) ∧ ¬ (h 1 (541 + 3 * j) = nI b ∧ h 1 (541 + 3 * j + 1) = nI d) then pfF h b d n (j + 1) else j
theorem pfF_le (h : HB) (b d : Nat) : ∀ n j, j ≤ ix (h 1 540) → pfF h b d n j ≤ ix (h 1 540)
  | 0, j, q => q
  | n + 1, j, q => by
    unfold pfF
    split
    · next hc => exact pfF_le h b d n (j + 1) hc.1
    · exact q
def M_p0 (h : HB) (b d : Nat) : HB := up2 (up2 (up2 h 1 (60 * d + 8) (h 1 528)) 1 534 (h 1 534 + nI 1)) 1 (480 + 6 * b + 5) (h 1 (480 + 6 * b + 5) + nI 1)
def M_p1 (h : HB) (b d j : Nat) : HB := if j = ix (h 1 540) then up2 (up2 (up2 (up2 (up2 h 1 (541 + 3 * j) (nI b)) 1 (541 + 3 * j + 1) (nI d)) 1 (541 + 3 * j + 2) (nI 0)) 1 540 (nI (ix (h 1 540) + 1))) 1 (541 + 3 * j + 2) (nI (0 + 1)) else up2 h 1 (541 + 3 * j + 2) (h 1 (541 + 3 * j + 2) + nI 1)
def M_pass (h : HB) (b d : Nat) : HB := M_p1 (M_p0 h b d) b d (pfF (M_p0 h b d) b d 66 0)

set_option maxHeartbeats 4000000 in
set_option maxRecDepth 100000 in
theorem l_pass (E : EN) (u : U3) (r : R1) (h : HB) (b d : Nat) (hb : b < 8) (hd : d < 8) (hm : vI (h 1 540) 65) (F : FX) (C : Cx E F cX7_pass 4 RX7 wsX7_pass (rmT 0 0)) : ∀ (n j : Nat), j ≤ ix (h 1 540) → ix (h 1 540) + 1 ≤ j + n → pfF h b d n j < 64 → RtV E F cX7_pass (ub u 6 (M_p1 h b d (pfF h b d n j))) r → T E F 4 (ub u 6 h) r 53 [(0, .ref (eA E 6 0)), (1, .int (nI b)), (2, .int (nI d)), (3, .int (nI j))] [] := by
  have hin7 : ∀ w ∈ u_ws RX7 TX7 15, w ∈ wsX7_pass := by decide +kernel
  have hm' := ix_lt hm (by decide)
  intro n
  induction n with
  | zero => intro j h1 h2; exact absurd h2 (by omega)
  | succ n ih =>
    intro j h1 h2 h3 K
    refine tt_iload_n C dX7_pass_53 rfl 3 rfl ?_
    refine tt_aload_n C dX7_pass_54 rfl 0 rfl ?_
    refine tt_get (v := .ref (eA E 6 1)) C oM0 rfl hin7 0 (by decide) (List.mem_of_getElem? (i := 1) (by decide +kernel)) rfl dX7_pass_55 ?_
    refine tt_sipush (v := nI 540) C dX7_pass_58 (by decide) ?_
    refine tt_ialdB (v := nI (ix (h 1 540))) C aM1 540 rfl (by omega) (ix_eq hm (by decide)) dX7_pass_61 ?_
    refine tt_icmp_ge C (tgt := 105) dX7_pass_62 (by decide) (nI_leI (by omega) (by omega)) (fun c_301 => ?_) (fun c_301 => ?_)
    · skip
      have e9 : pfF h b d (n + 1) j = j := by rw [pfF, if_neg (fun z => absurd z.1 (by omega))]
      rw [e9] at K h3
      refine tt_iload_n C dX7_pass_105 rfl 3 rfl ?_
      refine tt_aload_n C dX7_pass_106 rfl 0 rfl ?_
      refine tt_get (v := .ref (eA E 6 1)) C oM0 rfl hin7 0 (by decide) (List.mem_of_getElem? (i := 1) (by decide +kernel)) rfl dX7_pass_107 ?_
      refine tt_sipush (v := nI 540) C dX7_pass_110 (by decide) ?_
      refine tt_ialdB (v := nI (ix (h 1 540))) C aM1 540 rfl (by omega) (ix_eq hm (by decide)) dX7_pass_113 ?_
      refine tt_icmp_ne C (tgt := 172) dX7_pass_114 (by decide) (nI_eq (by omega) (by omega)) (fun c_302 => ?_) (fun c_302 => ?_)
      · skip
        refine tt_aload_n C dX7_pass_172 rfl 0 rfl ?_
        refine tt_get (v := .ref (eA E 6 1)) C oM0 rfl hin7 0 (by decide) (List.mem_of_getElem? (i := 1) (by decide +kernel)) rfl dX7_pass_173 ?_
        refine tt_sipush (v := nI 541) C dX7_pass_176 (by decide) ?_
        refine tt_iconst (v := nI 3) C dX7_pass_179 (by decide) ?_
        refine tt_iload_n C dX7_pass_180 rfl 3 rfl ?_
        refine tt_imul (v := nI (3 * j)) C dX7_pass_181 (pk_mul _ _) ?_
        refine tt_iadd (v := nI (541 + (3 * j))) C dX7_pass_182 (nI_add _ _) ?_
        refine tt_iconst (v := nI 2) C dX7_pass_183 (by decide) ?_
        refine tt_iadd (v := nI (541 + (3 * j) + 2)) C dX7_pass_184 (nI_add _ _) ?_
        refine tt_dup2 C dX7_pass_185 rfl rfl ?_
        refine tt_ialdB (v := h 1 (541 + (3 * j) + 2)) C aM1 (541 + (3 * j) + 2) rfl (by omega) rfl dX7_pass_186 ?_
        refine tt_iconst (v := nI 1) C dX7_pass_187 (by decide) ?_
        refine tt_iadd C dX7_pass_188 rfl ?_
        refine tt_iastB C aM1 (541 + (3 * j) + 2) rfl (by omega) dX7_pass_189 ?_
        generalize e_304 : up2 h 1 (541 + (3 * j) + 2) ((h 1 (541 + (3 * j) + 2)) + (nI 1)) = h_303
        exact tt_vret K dX7_pass_190 (by subst e_304; unfold M_p1; first | (exfalso; omega) | rw [if_pos (by omega)] | rw [if_neg (by omega)]) rfl
      · skip
        refine tt_aload_n C dX7_pass_117 rfl 0 rfl ?_
        refine tt_get (v := .ref (eA E 6 1)) C oM0 rfl hin7 0 (by decide) (List.mem_of_getElem? (i := 1) (by decide +kernel)) rfl dX7_pass_118 ?_
        refine tt_sipush (v := nI 541) C dX7_pass_121 (by decide) ?_
        refine tt_iconst (v := nI 3) C dX7_pass_124 (by decide) ?_
        refine tt_iload_n C dX7_pass_125 rfl 3 rfl ?_
        refine tt_imul (v := nI (3 * j)) C dX7_pass_126 (pk_mul _ _) ?_
        refine tt_iadd (v := nI (541 + (3 * j))) C dX7_pass_127 (nI_add _ _) ?_
        refine tt_iload_n C dX7_pass_128 rfl 1 rfl ?_
        refine tt_iastB C aM1 (541 + (3 * j)) rfl (by omega) dX7_pass_129 ?_
        generalize e_306 : up2 h 1 (541 + (3 * j)) (nI b) = h_305
        refine tt_aload_n C dX7_pass_130 rfl 0 rfl ?_
        refine tt_get (v := .ref (eA E 6 1)) C oM0 rfl hin7 0 (by decide) (List.mem_of_getElem? (i := 1) (by decide +kernel)) rfl dX7_pass_131 ?_
        refine tt_sipush (v := nI 541) C dX7_pass_134 (by decide) ?_
        refine tt_iconst (v := nI 3) C dX7_pass_137 (by decide) ?_
        refine tt_iload_n C dX7_pass_138 rfl 3 rfl ?_
        refine tt_imul (v := nI (3 * j)) C dX7_pass_139 (pk_mul _ _) ?_
        refine tt_iadd (v := nI (541 + (3 * j))) C dX7_pass_140 (nI_add _ _) ?_
        refine tt_iconst (v := nI 1) C dX7_pass_141 (by decide) ?_
        refine tt_iadd (v := nI (541 + (3 * j) + 1)) C dX7_pass_142 (nI_add _ _) ?_
        refine tt_iload_n C dX7_pass_143 rfl 2 rfl ?_
        refine tt_iastB C aM1 (541 + (3 * j) + 1) rfl (by omega) dX7_pass_144 ?_
        generalize e_308 : up2 h_305 1 (541 + (3 * j) + 1) (nI d) = h_307
        refine tt_aload_n C dX7_pass_145 rfl 0 rfl ?_
        refine tt_get (v := .ref (eA E 6 1)) C oM0 rfl hin7 0 (by decide) (List.mem_of_getElem? (i := 1) (by decide +kernel)) rfl dX7_pass_146 ?_
        refine tt_sipush (v := nI 541) C dX7_pass_149 (by decide) ?_
        refine tt_iconst (v := nI 3) C dX7_pass_152 (by decide) ?_
        refine tt_iload_n C dX7_pass_153 rfl 3 rfl ?_
        refine tt_imul (v := nI (3 * j)) C dX7_pass_154 (pk_mul _ _) ?_
        refine tt_iadd (v := nI (541 + (3 * j))) C dX7_pass_155 (nI_add _ _) ?_
        refine tt_iconst (v := nI 2) C dX7_pass_156 (by decide) ?_
        refine tt_iadd (v := nI (541 + (3 * j) + 2)) C dX7_pass_157 (nI_add _ _) ?_
        refine tt_iconst (v := nI 0) C dX7_pass_158 (by decide) ?_
        refine tt_iastB C aM1 (541 + (3 * j) + 2) rfl (by omega) dX7_pass_159 ?_
        generalize e_310 : up2 h_307 1 (541 + (3 * j) + 2) (nI 0) = h_309
        refine tt_aload_n C dX7_pass_160 rfl 0 rfl ?_
        refine tt_get (v := .ref (eA E 6 1)) C oM0 rfl hin7 0 (by decide) (List.mem_of_getElem? (i := 1) (by decide +kernel)) rfl dX7_pass_161 ?_
        refine tt_sipush (v := nI 540) C dX7_pass_164 (by decide) ?_
        refine tt_dup2 C dX7_pass_167 rfl rfl ?_
        refine tt_ialdB (v := nI (ix (h 1 540))) C aM1 540 rfl (by omega) (by rw [← e_310, up2_n (fun z => absurd z.2 (by omega)), ← e_308, up2_n (fun z => absurd z.2 (by omega)), ← e_306, up2_n (fun z => absurd z.2 (by omega))]; exact (ix_eq hm (by decide))) dX7_pass_168 ?_
        refine tt_iconst (v := nI 1) C dX7_pass_169 (by decide) ?_
        refine tt_iadd (v := nI (ix (h 1 540) + 1)) C dX7_pass_170 (nI_add _ _) ?_
        refine tt_iastB C aM1 540 rfl (by omega) dX7_pass_171 ?_
        generalize e_312 : up2 h_309 1 540 (nI (ix (h 1 540) + 1)) = h_311
        refine tt_aload_n C dX7_pass_172 rfl 0 rfl ?_
        refine tt_get (v := .ref (eA E 6 1)) C oM0 rfl hin7 0 (by decide) (List.mem_of_getElem? (i := 1) (by decide +kernel)) rfl dX7_pass_173 ?_
        refine tt_sipush (v := nI 541) C dX7_pass_176 (by decide) ?_
        refine tt_iconst (v := nI 3) C dX7_pass_179 (by decide) ?_
        refine tt_iload_n C dX7_pass_180 rfl 3 rfl ?_
        refine tt_imul (v := nI (3 * j)) C dX7_pass_181 (pk_mul _ _) ?_
        refine tt_iadd (v := nI (541 + (3 * j))) C dX7_pass_182 (nI_add _ _) ?_
        refine tt_iconst (v := nI 2) C dX7_pass_183 (by decide) ?_
        refine tt_iadd (v := nI (541 + (3 * j) + 2)) C dX7_pass_184 (nI_add _ _) ?_
        refine tt_dup2 C dX7_pass_185 rfl rfl ?_
        refine tt_ialdB (v := nI 0) C aM1 (541 + (3 * j) + 2) rfl (by omega) (by rw [← e_312, up2_n (fun z => absurd z.2 (by omega)), ← e_310]; exact up2_s _ _ _ _) dX7_pass_186 ?_
        refine tt_iconst (v := nI 1) C dX7_pass_187 (by decide) ?_
        refine tt_iadd (v := nI (0 + 1)) C dX7_pass_188 (nI_add _ _) ?_
        refine tt_iastB C aM1 (541 + (3 * j) + 2) rfl (by omega) dX7_pass_189 ?_
        generalize e_314 : up2 h_311 1 (541 + (3 * j) + 2) (nI (0 + 1)) = h_313
        exact tt_vret K dX7_pass_190 (by subst e_314; subst e_312; subst e_310; subst e_308; subst e_306; unfold M_p1; first | (exfalso; omega) | rw [if_pos (by omega)] | rw [if_neg (by omega)]) rfl
    · skip
      refine tt_aload_n C dX7_pass_65 rfl 0 rfl ?_
      refine tt_get (v := .ref (eA E 6 1)) C oM0 rfl hin7 0 (by decide) (List.mem_of_getElem? (i := 1) (by decide +kernel)) rfl dX7_pass_66 ?_
      refine tt_sipush (v := nI 541) C dX7_pass_69 (by decide) ?_
      refine tt_iconst (v := nI 3) C dX7_pass_72 (by decide) ?_
      refine tt_iload_n C dX7_pass_73 rfl 3 rfl ?_
      refine tt_imul (v := nI (3 * j)) C dX7_pass_74 (pk_mul _ _) ?_
      refine tt_iadd (v := nI (541 + (3 * j))) C dX7_pass_75 (nI_add _ _) ?_
      refine tt_ialdB (v := h 1 (541 + (3 * j))) C aM1 (541 + (3 * j)) rfl (by omega) rfl dX7_pass_76 ?_
      refine tt_iload_n C dX7_pass_77 rfl 1 rfl ?_
      refine tt_icmp_ne C (tgt := 99) dX7_pass_78 (by decide) Iff.rfl (fun c_315 => ?_) (fun c_315 => ?_)
      · skip
        refine tt_iinc (p := 3) (v := nI (j + 1)) (lv' := [(0, .ref (eA E 6 0)), (1, .int (nI b)), (2, .int (nI d)), (3, .int (nI (j + 1)))]) C dX7_pass_99 rfl (by rw [show Int32.ofInt 1 = nI 1 from by decide]; exact nI_add _ _) (by decide) [1, 2, 3, 0] rfl ?_
        refine tt_goto (tgt := 53) C dX7_pass_102 (by decide) ?_
        have e9 : pfF h b d (n + 1) j = pfF h b d n (j + 1) := by rw [pfF, if_pos ⟨(by omega), fun z => c_315 z.1⟩]
        rw [e9] at K h3
        exact ih (j + 1) (by omega) (by omega) h3 K
      · skip
        refine tt_aload_n C dX7_pass_81 rfl 0 rfl ?_
        refine tt_get (v := .ref (eA E 6 1)) C oM0 rfl hin7 0 (by decide) (List.mem_of_getElem? (i := 1) (by decide +kernel)) rfl dX7_pass_82 ?_
        refine tt_sipush (v := nI 541) C dX7_pass_85 (by decide) ?_
        refine tt_iconst (v := nI 3) C dX7_pass_88 (by decide) ?_
        refine tt_iload_n C dX7_pass_89 rfl 3 rfl ?_
        refine tt_imul (v := nI (3 * j)) C dX7_pass_90 (pk_mul _ _) ?_
        refine tt_iadd (v := nI (541 + (3 * j))) C dX7_pass_91 (nI_add _ _) ?_
        refine tt_iconst (v := nI 1) C dX7_pass_92 (by decide) ?_
        refine tt_iadd (v := nI (541 + (3 * j) + 1)) C dX7_pass_93 (nI_add _ _) ?_
        refine tt_ialdB (v := h 1 (541 + (3 * j) + 1)) C aM1 (541 + (3 * j) + 1) rfl (by omega) rfl dX7_pass_94 ?_
        refine tt_iload_n C dX7_pass_95 rfl 2 rfl ?_
        refine tt_icmp_eq C (tgt := 105) dX7_pass_96 (by decide) Iff.rfl (fun c_316 => ?_) (fun c_316 => ?_)
        · skip
          have e9 : pfF h b d (n + 1) j = j := by rw [pfF, if_neg (fun z => z.2 ⟨c_315, c_316⟩)]
          rw [e9] at K h3
          refine tt_iload_n C dX7_pass_105 rfl 3 rfl ?_
          refine tt_aload_n C dX7_pass_106 rfl 0 rfl ?_
          refine tt_get (v := .ref (eA E 6 1)) C oM0 rfl hin7 0 (by decide) (List.mem_of_getElem? (i := 1) (by decide +kernel)) rfl dX7_pass_107 ?_
          refine tt_sipush (v := nI 540) C dX7_pass_110 (by decide) ?_
          refine tt_ialdB (v := nI (ix (h 1 540))) C aM1 540 rfl (by omega) (ix_eq hm (by decide)) dX7_pass_113 ?_
          refine tt_icmp_ne C (tgt := 172) dX7_pass_114 (by decide) (nI_eq (by omega) (by omega)) (fun c_317 => ?_) (fun c_317 => ?_)
          · skip
            refine tt_aload_n C dX7_pass_172 rfl 0 rfl ?_
            refine tt_get (v := .ref (eA E 6 1)) C oM0 rfl hin7 0 (by decide) (List.mem_of_getElem? (i := 1) (by decide +kernel)) rfl dX7_pass_173 ?_
            refine tt_sipush (v := nI 541) C dX7_pass_176 (by decide) ?_
            refine tt_iconst (v := nI 3) C dX7_pass_179 (by decide) ?_
            refine tt_iload_n C dX7_pass_180 rfl 3 rfl ?_
            refine tt_imul (v := nI (3 * j)) C dX7_pass_181 (pk_mul _ _) ?_
            refine tt_iadd (v := nI (541 + (3 * j))) C dX7_pass_182 (nI_add _ _) ?_
            refine tt_iconst (v := nI 2) C dX7_pass_183 (by decide) ?_
            refine tt_iadd (v := nI (541 + (3 * j) + 2)) C dX7_pass_184 (nI_add _ _) ?_
            refine tt_dup2 C dX7_pass_185 rfl rfl ?_
            refine tt_ialdB (v := h 1 (541 + (3 * j) + 2)) C aM1 (541 + (3 * j) + 2) rfl (by omega) rfl dX7_pass_186 ?_
            refine tt_iconst (v := nI 1) C dX7_pass_187 (by decide) ?_
            refine tt_iadd C dX7_pass_188 rfl ?_
            refine tt_iastB C aM1 (541 + (3 * j) + 2) rfl (by omega) dX7_pass_189 ?_
            generalize e_319 : up2 h 1 (541 + (3 * j) + 2) ((h 1 (541 + (3 * j) + 2)) + (nI 1)) = h_318
            exact tt_vret K dX7_pass_190 (by subst e_319; unfold M_p1; first | (exfalso; omega) | rw [if_pos (by omega)] | rw [if_neg (by omega)]) rfl
          · skip
            refine tt_aload_n C dX7_pass_117 rfl 0 rfl ?_
            refine tt_get (v := .ref (eA E 6 1)) C oM0 rfl hin7 0 (by decide) (List.mem_of_getElem? (i := 1) (by decide +kernel)) rfl dX7_pass_118 ?_
            refine tt_sipush (v := nI 541) C dX7_pass_121 (by decide) ?_
            refine tt_iconst (v := nI 3) C dX7_pass_124 (by decide) ?_
            refine tt_iload_n C dX7_pass_125 rfl 3 rfl ?_
            refine tt_imul (v := nI (3 * j)) C dX7_pass_126 (pk_mul _ _) ?_
            refine tt_iadd (v := nI (541 + (3 * j))) C dX7_pass_127 (nI_add _ _) ?_
            refine tt_iload_n C dX7_pass_128 rfl 1 rfl ?_
            refine tt_iastB C aM1 (541 + (3 * j)) rfl (by omega) dX7_pass_129 ?_
            generalize e_321 : up2 h 1 (541 + (3 * j)) (nI b) = h_320
            refine tt_aload_n C dX7_pass_130 rfl 0 rfl ?_
            refine tt_get (v := .ref (eA E 6 1)) C oM0 rfl hin7 0 (by decide) (List.mem_of_getElem? (i := 1) (by decide +kernel)) rfl dX7_pass_131 ?_
            refine tt_sipush (v := nI 541) C dX7_pass_134 (by decide) ?_
            refine tt_iconst (v := nI 3) C dX7_pass_137 (by decide) ?_
            refine tt_iload_n C dX7_pass_138 rfl 3 rfl ?_
            refine tt_imul (v := nI (3 * j)) C dX7_pass_139 (pk_mul _ _) ?_
            refine tt_iadd (v := nI (541 + (3 * j))) C dX7_pass_140 (nI_add _ _) ?_
            refine tt_iconst (v := nI 1) C dX7_pass_141 (by decide) ?_
            refine tt_iadd (v := nI (541 + (3 * j) + 1)) C dX7_pass_142 (nI_add _ _) ?_
            refine tt_iload_n C dX7_pass_143 rfl 2 rfl ?_
            refine tt_iastB C aM1 (541 + (3 * j) + 1) rfl (by omega) dX7_pass_144 ?_
            generalize e_323 : up2 h_320 1 (541 + (3 * j) + 1) (nI d) = h_322
            refine tt_aload_n C dX7_pass_145 rfl 0 rfl ?_
            refine tt_get (v := .ref (eA E 6 1)) C oM0 rfl hin7 0 (by decide) (List.mem_of_getElem? (i := 1) (by decide +kernel)) rfl dX7_pass_146 ?_
            refine tt_sipush (v := nI 541) C dX7_pass_149 (by decide) ?_
            refine tt_iconst (v := nI 3) C dX7_pass_152 (by decide) ?_
            refine tt_iload_n C dX7_pass_153 rfl 3 rfl ?_
            refine tt_imul (v := nI (3 * j)) C dX7_pass_154 (pk_mul _ _) ?_
            refine tt_iadd (v := nI (541 + (3 * j))) C dX7_pass_155 (nI_add _ _) ?_
            refine tt_iconst (v := nI 2) C dX7_pass_156 (by decide) ?_
            refine tt_iadd (v := nI (541 + (3 * j) + 2)) C dX7_pass_157 (nI_add _ _) ?_
            refine tt_iconst (v := nI 0) C dX7_pass_158 (by decide) ?_
            refine tt_iastB C aM1 (541 + (3 * j) + 2) rfl (by omega) dX7_pass_159 ?_
            generalize e_325 : up2 h_322 1 (541 + (3 * j) + 2) (nI 0) = h_324
            refine tt_aload_n C dX7_pass_160 rfl 0 rfl ?_
            refine tt_get (v := .ref (eA E 6 1)) C oM0 rfl hin7 0 (by decide) (List.mem_of_getElem? (i := 1) (by decide +kernel)) rfl dX7_pass_161 ?_
            refine tt_sipush (v := nI 540) C dX7_pass_164 (by decide) ?_
            refine tt_dup2 C dX7_pass_167 rfl rfl ?_
            refine tt_ialdB (v := nI (ix (h 1 540))) C aM1 540 rfl (by omega) (by rw [← e_325, up2_n (fun z => absurd z.2 (by omega)), ← e_323, up2_n (fun z => absurd z.2 (by omega)), ← e_321, up2_n (fun z => absurd z.2 (by omega))]; exact (ix_eq hm (by decide))) dX7_pass_168 ?_
            refine tt_iconst (v := nI 1) C dX7_pass_169 (by decide) ?_
            refine tt_iadd (v := nI (ix (h 1 540) + 1)) C dX7_pass_170 (nI_add _ _) ?_
            refine tt_iastB C aM1 540 rfl (by omega) dX7_pass_171 ?_
            generalize e_327 : up2 h_324 1 540 (nI (ix (h 1 540) + 1)) = h_326
            refine tt_aload_n C dX7_pass_172 rfl 0 rfl ?_
            refine tt_get (v := .ref (eA E 6 1)) C oM0 rfl hin7 0 (by decide) (List.mem_of_getElem? (i := 1) (by decide +kernel)) rfl dX7_pass_173 ?_
            refine tt_sipush (v := nI 541) C dX7_pass_176 (by decide) ?_
            refine tt_iconst (v := nI 3) C dX7_pass_179 (by decide) ?_
            refine tt_iload_n C dX7_pass_180 rfl 3 rfl ?_
            refine tt_imul (v := nI (3 * j)) C dX7_pass_181 (pk_mul _ _) ?_
            refine tt_iadd (v := nI (541 + (3 * j))) C dX7_pass_182 (nI_add _ _) ?_
            refine tt_iconst (v := nI 2) C dX7_pass_183 (by decide) ?_
            refine tt_iadd (v := nI (541 + (3 * j) + 2)) C dX7_pass_184 (nI_add _ _) ?_
            refine tt_dup2 C dX7_pass_185 rfl rfl ?_
            refine tt_ialdB (v := nI 0) C aM1 (541 + (3 * j) + 2) rfl (by omega) (by rw [← e_327, up2_n (fun z => absurd z.2 (by omega)), ← e_325]; exact up2_s _ _ _ _) dX7_pass_186 ?_
            refine tt_iconst (v := nI 1) C dX7_pass_187 (by decide) ?_
            refine tt_iadd (v := nI (0 + 1)) C dX7_pass_188 (nI_add _ _) ?_
            refine tt_iastB C aM1 (541 + (3 * j) + 2) rfl (by omega) dX7_pass_189 ?_
            generalize e_329 : up2 h_326 1 (541 + (3 * j) + 2) (nI (0 + 1)) = h_328
            exact tt_vret K dX7_pass_190 (by subst e_329; subst e_327; subst e_325; subst e_323; subst e_321; unfold M_p1; first | (exfalso; omega) | rw [if_pos (by omega)] | rw [if_neg (by omega)]) rfl
        · skip
          refine tt_iinc (p := 3) (v := nI (j + 1)) (lv' := [(0, .ref (eA E 6 0)), (1, .int (nI b)), (2, .int (nI d)), (3, .int (nI (j + 1)))]) C dX7_pass_99 rfl (by rw [show Int32.ofInt 1 = nI 1 from by decide]; exact nI_add _ _) (by decide) [1, 2, 3, 0] rfl ?_
          refine tt_goto (tgt := 53) C dX7_pass_102 (by decide) ?_
          have e9 : pfF h b d (n + 1) j = pfF h b d n (j + 1) := by rw [pfF, if_pos ⟨(by omega), fun z => c_316 z.2⟩]
          rw [e9] at K h3
          exact ih (j + 1) (by omega) (by omega) h3 K

set_option maxHeartbeats 4000000 in
set_option maxRecDepth 100000 in
theorem c_X7_pass (E : EN) (u : U3) (r : R1) (h : HB) (b : Nat) (d : Nat) (hb : b < 8) (hd : d < 8) (hm : vI (h 1 540) 65) (hq : pfF (M_p0 h b d) b d 66 0 < 64) : CT E yX7_pass wsX7_pass (rmT 0 0) [.ref (eA E 6 0), .int (nI b), .int (nI d)] (ub u 6 h) r none (ub u 6 (M_pass h b d)) r := by
  refine CT_ofV (cc := cX7_pass) (nL := 4) (own := RX7) (by decide) rfl rfl (Nat.le_of_ble_eq_true rfl) (fun F C K => ?_)
  have hin7 : ∀ w ∈ u_ws RX7 TX7 15, w ∈ wsX7_pass := by decide +kernel
  refine tt_to (lv1 := [(0, .ref (eA E 6 0)), (1, .int (nI b)), (2, .int (nI d))]) rfl rfl rfl rfl ?_
  have hm' := ix_lt hm (by decide)
  refine tt_aload_n C dX7_pass_0 rfl 0 rfl ?_
  refine tt_get (v := .ref (eA E 6 1)) C oM0 rfl hin7 0 (by decide) (List.mem_of_getElem? (i := 1) (by decide +kernel)) rfl dX7_pass_1 ?_
  refine tt_bipush (v := nI 60) C dX7_pass_4 (by decide) ?_
  refine tt_iload_n C dX7_pass_6 rfl 2 rfl ?_
  refine tt_imul (v := nI (60 * d)) C dX7_pass_7 (pk_mul _ _) ?_
  refine tt_bipush (v := nI 8) C dX7_pass_8 (by decide) ?_
  refine tt_iadd (v := nI (60 * d + 8)) C dX7_pass_10 (nI_add _ _) ?_
  refine tt_aload_n C dX7_pass_11 rfl 0 rfl ?_
  refine tt_get (v := .ref (eA E 6 1)) C oM0 rfl hin7 0 (by decide) (List.mem_of_getElem? (i := 1) (by decide +kernel)) rfl dX7_pass_12 ?_
  refine tt_sipush (v := nI 528) C dX7_pass_15 (by decide) ?_
  refine tt_ialdB (v := h 1 528) C aM1 528 rfl (by omega) rfl dX7_pass_18 ?_
  refine tt_iastB C aM1 (60 * d + 8) rfl (by omega) dX7_pass_19 ?_
  generalize e_2 : up2 h 1 (60 * d + 8) (h 1 528) = h_1
  refine tt_aload_n C dX7_pass_20 rfl 0 rfl ?_
  refine tt_get (v := .ref (eA E 6 1)) C oM0 rfl hin7 0 (by decide) (List.mem_of_getElem? (i := 1) (by decide +kernel)) rfl dX7_pass_21 ?_
  refine tt_sipush (v := nI 534) C dX7_pass_24 (by decide) ?_
  refine tt_dup2 C dX7_pass_27 rfl rfl ?_
  refine tt_ialdB (v := h 1 534) C aM1 534 rfl (by omega) (by rw [← e_2, up2_n (fun z => absurd z.2 (by omega))]) dX7_pass_28 ?_
  refine tt_iconst (v := nI 1) C dX7_pass_29 (by decide) ?_
  refine tt_iadd C dX7_pass_30 rfl ?_
  refine tt_iastB C aM1 534 rfl (by omega) dX7_pass_31 ?_
  generalize e_4 : up2 h_1 1 534 ((h 1 534) + (nI 1)) = h_3
  refine tt_aload_n C dX7_pass_32 rfl 0 rfl ?_
  refine tt_get (v := .ref (eA E 6 1)) C oM0 rfl hin7 0 (by decide) (List.mem_of_getElem? (i := 1) (by decide +kernel)) rfl dX7_pass_33 ?_
  refine tt_sipush (v := nI 480) C dX7_pass_36 (by decide) ?_
  refine tt_bipush (v := nI 6) C dX7_pass_39 (by decide) ?_
  refine tt_iload_n C dX7_pass_41 rfl 1 rfl ?_
  refine tt_imul (v := nI (6 * b)) C dX7_pass_42 (pk_mul _ _) ?_
  refine tt_iadd (v := nI (480 + (6 * b))) C dX7_pass_43 (nI_add _ _) ?_
  refine tt_iconst (v := nI 5) C dX7_pass_44 (by decide) ?_
  refine tt_iadd (v := nI (480 + (6 * b) + 5)) C dX7_pass_45 (nI_add _ _) ?_
  refine tt_dup2 C dX7_pass_46 rfl rfl ?_
  refine tt_ialdB (v := h 1 (480 + (6 * b) + 5)) C aM1 (480 + (6 * b) + 5) rfl (by omega) (by rw [← e_4, up2_n (fun z => absurd z.2 (by omega)), ← e_2, up2_n (fun z => absurd z.2 (by omega))]) dX7_pass_47 ?_
  refine tt_iconst (v := nI 1) C dX7_pass_48 (by decide) ?_
  refine tt_iadd C dX7_pass_49 rfl ?_
  refine tt_iastB C aM1 (480 + (6 * b) + 5) rfl (by omega) dX7_pass_50 ?_
  generalize e_6 : up2 h_3 1 (480 + (6 * b) + 5) ((h 1 (480 + (6 * b) + 5)) + (nI 1)) = h_5
  refine tt_iconst (v := nI 0) C dX7_pass_51 (by decide) ?_
  refine tt_istore_n (lv' := [(0, .ref (eA E 6 0)), (1, .int (nI b)), (2, .int (nI d)), (3, .int (nI 0))]) C dX7_pass_52 rfl (by decide) [1, 2, 3, 0] rfl ?_
  subst e_6
  subst e_4
  subst e_2
  have e5 : (M_p0 h b d) 1 540 = h 1 540 := by unfold M_p0; rw [up2_n (fun z => absurd z.2 (by omega)), up2_n (fun z => absurd z.2 (by decide)), up2_n (fun z => absurd z.2 (by omega))]
  exact l_pass E u r (M_p0 h b d) b d hb hd (by rw [e5]; exact hm) F C 66 0 (by omega) (by rw [e5]; omega) hq K
