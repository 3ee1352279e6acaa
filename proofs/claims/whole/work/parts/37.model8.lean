set_option maxHeartbeats 4000000 in
set_option maxRecDepth 100000 in
theorem c_X7_door_B (E : EN) (u : U3) (r : R1) (h : HB) (f : Int32) (t : Int32) (a : Int32) (b : Int32) (hc : ¬ ((¬ f < nI 0 ∧ ¬ nI 5 < f) ∧ (¬ t < nI 0 ∧ ¬ nI 5 < t) ∧ ¬ f = t ∧ (¬ a < nI 0 ∧ ¬ nI 3 < a) ∧ (¬ b < nI 0 ∧ ¬ nI 3 < b))) : CT E yX7_door wsX7_door (rmT 3 68) [.ref (eA E 6 0), .int f, .int t, .int a, .int b] (ub u 6 h) r (some (.int (-2))) (ub u 6 (M_ref (M_bring h 1 0 2 0) (-2))) r := by
  refine CT_ofI (cc := cX7_door) (nL := 5) (own := RX7) (by decide) rfl rfl rfl (Nat.le_of_ble_eq_true rfl) (fun F C K => ?_)
  refine tt_to (lv1 := [(0, .ref (eA E 6 0)), (1, .int f), (2, .int t), (3, .int a), (4, .int b)]) rfl rfl rfl rfl ?_
  refine tt_aload_n C dX7_door_0 rfl 0 rfl ?_
  refine tt_cVV C (c_X7_save E u r h) gX7_door_X7_save rfl ⟨rfl, rfl⟩ 0 (by decide +kernel) ⟨Nat.le_of_ble_eq_true rfl, Nat.le_of_ble_eq_true rfl⟩ rfl oM0 rfl (Nat.le_of_ble_eq_true rfl) dX7_door_1 rfl ?_
  generalize e_2 : M_bring h 1 0 2 0 = h_1
  subst e_2
  refine tt_aload_n C dX7_door_4 rfl 0 rfl ?_
  refine tt_aload_n C dX7_door_5 rfl 0 rfl ?_
  refine tt_iload_n C dX7_door_6 rfl 1 rfl ?_
  refine tt_iload_n C dX7_door_7 rfl 2 rfl ?_
  refine tt_iload_n C dX7_door_8 rfl 3 rfl ?_
  refine tt_iload C dX7_door_9 4 rfl ?_
  refine tt_cVI C (c_X7_putDoor_B E u r (M_bring h 1 0 2 0) f t a b hc) gX7_door_X7_putDoor rfl ⟨rfl, rfl⟩ 4 (by decide +kernel) ⟨Nat.le_of_ble_eq_true rfl, Nat.le_of_ble_eq_true rfl⟩ rfl oM0 rfl (Nat.le_of_ble_eq_true rfl) dX7_door_11 rfl ?_
  refine tt_cVI C (c_X7_finish_R E u r (M_bring h 1 0 2 0) (-2) ⟨0, by decide, by decide⟩ (by decide)) gX7_door_X7_finish rfl ⟨rfl, rfl⟩ 1 (by decide +kernel) ⟨Nat.le_of_ble_eq_true rfl, Nat.le_of_ble_eq_true rfl⟩ rfl oM0 rfl (Nat.le_of_ble_eq_true rfl) dX7_door_14 rfl ?_
  generalize e_4 : M_ref (M_bring h 1 0 2 0) (-2) = h_3
  exact tt_iret K dX7_door_17 (by subst e_4; rfl) (by subst e_4; rfl) rfl

set_option maxHeartbeats 4000000 in
set_option maxRecDepth 100000 in
theorem c_X7_door_F (E : EN) (u : U3) (r : R1) (h : HB) (f : Int32) (t : Int32) (a : Int32) (b : Int32) (hc : (¬ f < nI 0 ∧ ¬ nI 5 < f) ∧ (¬ t < nI 0 ∧ ¬ nI 5 < t) ∧ ¬ f = t ∧ (¬ a < nI 0 ∧ ¬ nI 3 < a) ∧ (¬ b < nI 0 ∧ ¬ nI 3 < b)) (hf : (M_bring h 1 0 2 0) 1 529 = nI 8) : CT E yX7_door wsX7_door (rmT 3 68) [.ref (eA E 6 0), .int f, .int t, .int a, .int b] (ub u 6 h) r (some (.int (-4))) (ub u 6 (M_ref (M_bring h 1 0 2 0) (-4))) r := by
  refine CT_ofI (cc := cX7_door) (nL := 5) (own := RX7) (by decide) rfl rfl rfl (Nat.le_of_ble_eq_true rfl) (fun F C K => ?_)
  refine tt_to (lv1 := [(0, .ref (eA E 6 0)), (1, .int f), (2, .int t), (3, .int a), (4, .int b)]) rfl rfl rfl rfl ?_
  refine tt_aload_n C dX7_door_0 rfl 0 rfl ?_
  refine tt_cVV C (c_X7_save E u r h) gX7_door_X7_save rfl ⟨rfl, rfl⟩ 0 (by decide +kernel) ⟨Nat.le_of_ble_eq_true rfl, Nat.le_of_ble_eq_true rfl⟩ rfl oM0 rfl (Nat.le_of_ble_eq_true rfl) dX7_door_1 rfl ?_
  generalize e_2 : M_bring h 1 0 2 0 = h_1
  subst e_2
  refine tt_aload_n C dX7_door_4 rfl 0 rfl ?_
  refine tt_aload_n C dX7_door_5 rfl 0 rfl ?_
  refine tt_iload_n C dX7_door_6 rfl 1 rfl ?_
  refine tt_iload_n C dX7_door_7 rfl 2 rfl ?_
  refine tt_iload_n C dX7_door_8 rfl 3 rfl ?_
  refine tt_iload C dX7_door_9 4 rfl ?_
  refine tt_cVI C (c_X7_putDoor_F E u r (M_bring h 1 0 2 0) f t a b hc hf) gX7_door_X7_putDoor rfl ⟨rfl, rfl⟩ 4 (by decide +kernel) ⟨Nat.le_of_ble_eq_true rfl, Nat.le_of_ble_eq_true rfl⟩ rfl oM0 rfl (Nat.le_of_ble_eq_true rfl) dX7_door_11 rfl ?_
  refine tt_cVI C (c_X7_finish_R E u r (M_bring h 1 0 2 0) (-4) ⟨2, by decide, by decide⟩ (by decide)) gX7_door_X7_finish rfl ⟨rfl, rfl⟩ 1 (by decide +kernel) ⟨Nat.le_of_ble_eq_true rfl, Nat.le_of_ble_eq_true rfl⟩ rfl oM0 rfl (Nat.le_of_ble_eq_true rfl) dX7_door_14 rfl ?_
  generalize e_4 : M_ref (M_bring h 1 0 2 0) (-4) = h_3
  exact tt_iret K dX7_door_17 (by subst e_4; rfl) (by subst e_4; rfl) rfl

set_option maxHeartbeats 4000000 in
set_option maxRecDepth 100000 in
theorem c_X7_door_O (E : EN) (u : U3) (r : R1) (h : HB) (f : Int32) (t : Int32) (a : Int32) (b : Int32) (hc : (¬ f < nI 0 ∧ ¬ nI 5 < f) ∧ (¬ t < nI 0 ∧ ¬ nI 5 < t) ∧ ¬ f = t ∧ (¬ a < nI 0 ∧ ¬ nI 3 < a) ∧ (¬ b < nI 0 ∧ ¬ nI 3 < b)) (hD : vI ((M_bring h 1 0 2 0) 1 529) 8) (hs9 : vI ((M_door (M_bring h 1 0 2 0) f t a b) 0 0) 5) : CT E yX7_door wsX7_door (rmT 3 68) [.ref (eA E 6 0), .int f, .int t, .int a, .int b] (ub u 6 h) r (some (.int (nI (ix ((M_bring h 1 0 2 0) 1 529))))) (ub u 6 (M_push (M_door (M_bring h 1 0 2 0) f t a b))) r := by
  refine CT_ofI (cc := cX7_door) (nL := 5) (own := RX7) (by decide) rfl rfl rfl (Nat.le_of_ble_eq_true rfl) (fun F C K => ?_)
  refine tt_to (lv1 := [(0, .ref (eA E 6 0)), (1, .int f), (2, .int t), (3, .int a), (4, .int b)]) rfl rfl rfl rfl ?_
  refine tt_aload_n C dX7_door_0 rfl 0 rfl ?_
  refine tt_cVV C (c_X7_save E u r h) gX7_door_X7_save rfl ⟨rfl, rfl⟩ 0 (by decide +kernel) ⟨Nat.le_of_ble_eq_true rfl, Nat.le_of_ble_eq_true rfl⟩ rfl oM0 rfl (Nat.le_of_ble_eq_true rfl) dX7_door_1 rfl ?_
  generalize e_2 : M_bring h 1 0 2 0 = h_1
  subst e_2
  refine tt_aload_n C dX7_door_4 rfl 0 rfl ?_
  refine tt_aload_n C dX7_door_5 rfl 0 rfl ?_
  refine tt_iload_n C dX7_door_6 rfl 1 rfl ?_
  refine tt_iload_n C dX7_door_7 rfl 2 rfl ?_
  refine tt_iload_n C dX7_door_8 rfl 3 rfl ?_
  refine tt_iload C dX7_door_9 4 rfl ?_
  refine tt_cVI C (c_X7_putDoor_O E u r (M_bring h 1 0 2 0) f t a b hc hD) gX7_door_X7_putDoor rfl ⟨rfl, rfl⟩ 4 (by decide +kernel) ⟨Nat.le_of_ble_eq_true rfl, Nat.le_of_ble_eq_true rfl⟩ rfl oM0 rfl (Nat.le_of_ble_eq_true rfl) dX7_door_11 rfl ?_
  generalize e_4 : M_door (M_bring h 1 0 2 0) f t a b = h_3
  refine tt_cVI C (c_X7_finish_O E u r h_3 (nI (ix ((M_bring h 1 0 2 0) 1 529))) (nref (by have := ix_lt hD (by decide); omega)) (by rw [← e_4]; exact hs9)) gX7_door_X7_finish rfl ⟨rfl, rfl⟩ 1 (by decide +kernel) ⟨Nat.le_of_ble_eq_true rfl, Nat.le_of_ble_eq_true rfl⟩ rfl oM0 rfl (Nat.le_of_ble_eq_true rfl) dX7_door_14 rfl ?_
  generalize e_6 : M_push h_3 = h_5
  exact tt_iret K dX7_door_17 (by subst e_6; subst e_4; rfl) (by subst e_6; subst e_4; rfl) rfl

set_option maxHeartbeats 4000000 in
set_option maxRecDepth 100000 in
theorem c_X7_badge_B (E : EN) (u : U3) (r : R1) (h : HB) (v : Int32) (hc : ¬ (¬ v < nI 0 ∧ ¬ nI 3 < v)) : CT E yX7_badge wsX7_badge (rmT 3 65) [.ref (eA E 6 0), .int v] (ub u 6 h) r (some (.int (-2))) (ub u 6 (M_ref (M_bring h 1 0 2 0) (-2))) r := by
  refine CT_ofI (cc := cX7_badge) (nL := 2) (own := RX7) (by decide) rfl rfl rfl (Nat.le_of_ble_eq_true rfl) (fun F C K => ?_)
  refine tt_to (lv1 := [(0, .ref (eA E 6 0)), (1, .int v)]) rfl rfl rfl rfl ?_
  refine tt_aload_n C dX7_badge_0 rfl 0 rfl ?_
  refine tt_cVV C (c_X7_save E u r h) gX7_badge_X7_save rfl ⟨rfl, rfl⟩ 0 (by decide +kernel) ⟨Nat.le_of_ble_eq_true rfl, Nat.le_of_ble_eq_true rfl⟩ rfl oM0 rfl (Nat.le_of_ble_eq_true rfl) dX7_badge_1 rfl ?_
  generalize e_2 : M_bring h 1 0 2 0 = h_1
  subst e_2
  refine tt_aload_n C dX7_badge_4 rfl 0 rfl ?_
  refine tt_aload_n C dX7_badge_5 rfl 0 rfl ?_
  refine tt_iload_n C dX7_badge_6 rfl 1 rfl ?_
  refine tt_cVI C (c_X7_putBadge_B E u r (M_bring h 1 0 2 0) v hc) gX7_badge_X7_putBadge rfl ⟨rfl, rfl⟩ 1 (by decide +kernel) ⟨Nat.le_of_ble_eq_true rfl, Nat.le_of_ble_eq_true rfl⟩ rfl oM0 rfl (Nat.le_of_ble_eq_true rfl) dX7_badge_7 rfl ?_
  refine tt_cVI C (c_X7_finish_R E u r (M_bring h 1 0 2 0) (-2) ⟨0, by decide, by decide⟩ (by decide)) gX7_badge_X7_finish rfl ⟨rfl, rfl⟩ 1 (by decide +kernel) ⟨Nat.le_of_ble_eq_true rfl, Nat.le_of_ble_eq_true rfl⟩ rfl oM0 rfl (Nat.le_of_ble_eq_true rfl) dX7_badge_10 rfl ?_
  generalize e_4 : M_ref (M_bring h 1 0 2 0) (-2) = h_3
  exact tt_iret K dX7_badge_13 (by subst e_4; rfl) (by subst e_4; rfl) rfl

set_option maxHeartbeats 4000000 in
set_option maxRecDepth 100000 in
theorem c_X7_badge_F (E : EN) (u : U3) (r : R1) (h : HB) (v : Int32) (hc : ¬ v < nI 0 ∧ ¬ nI 3 < v) (hf : (M_bring h 1 0 2 0) 1 530 = nI 8) : CT E yX7_badge wsX7_badge (rmT 3 65) [.ref (eA E 6 0), .int v] (ub u 6 h) r (some (.int (-4))) (ub u 6 (M_ref (M_bring h 1 0 2 0) (-4))) r := by
  refine CT_ofI (cc := cX7_badge) (nL := 2) (own := RX7) (by decide) rfl rfl rfl (Nat.le_of_ble_eq_true rfl) (fun F C K => ?_)
  refine tt_to (lv1 := [(0, .ref (eA E 6 0)), (1, .int v)]) rfl rfl rfl rfl ?_
  refine tt_aload_n C dX7_badge_0 rfl 0 rfl ?_
  refine tt_cVV C (c_X7_save E u r h) gX7_badge_X7_save rfl ⟨rfl, rfl⟩ 0 (by decide +kernel) ⟨Nat.le_of_ble_eq_true rfl, Nat.le_of_ble_eq_true rfl⟩ rfl oM0 rfl (Nat.le_of_ble_eq_true rfl) dX7_badge_1 rfl ?_
  generalize e_2 : M_bring h 1 0 2 0 = h_1
  subst e_2
  refine tt_aload_n C dX7_badge_4 rfl 0 rfl ?_
  refine tt_aload_n C dX7_badge_5 rfl 0 rfl ?_
  refine tt_iload_n C dX7_badge_6 rfl 1 rfl ?_
  refine tt_cVI C (c_X7_putBadge_F E u r (M_bring h 1 0 2 0) v hc hf) gX7_badge_X7_putBadge rfl ⟨rfl, rfl⟩ 1 (by decide +kernel) ⟨Nat.le_of_ble_eq_true rfl, Nat.le_of_ble_eq_true rfl⟩ rfl oM0 rfl (Nat.le_of_ble_eq_true rfl) dX7_badge_7 rfl ?_
  refine tt_cVI C (c_X7_finish_R E u r (M_bring h 1 0 2 0) (-4) ⟨2, by decide, by decide⟩ (by decide)) gX7_badge_X7_finish rfl ⟨rfl, rfl⟩ 1 (by decide +kernel) ⟨Nat.le_of_ble_eq_true rfl, Nat.le_of_ble_eq_true rfl⟩ rfl oM0 rfl (Nat.le_of_ble_eq_true rfl) dX7_badge_10 rfl ?_
  generalize e_4 : M_ref (M_bring h 1 0 2 0) (-4) = h_3
  exact tt_iret K dX7_badge_13 (by subst e_4; rfl) (by subst e_4; rfl) rfl

set_option maxHeartbeats 4000000 in
set_option maxRecDepth 100000 in
theorem c_X7_badge_O (E : EN) (u : U3) (r : R1) (h : HB) (v : Int32) (hc : ¬ v < nI 0 ∧ ¬ nI 3 < v) (hB : vI ((M_bring h 1 0 2 0) 1 530) 8) (hs9 : vI ((M_badge (M_bring h 1 0 2 0) v) 0 0) 5) : CT E yX7_badge wsX7_badge (rmT 3 65) [.ref (eA E 6 0), .int v] (ub u 6 h) r (some (.int (nI (ix ((M_bring h 1 0 2 0) 1 530))))) (ub u 6 (M_push (M_badge (M_bring h 1 0 2 0) v))) r := by
  refine CT_ofI (cc := cX7_badge) (nL := 2) (own := RX7) (by decide) rfl rfl rfl (Nat.le_of_ble_eq_true rfl) (fun F C K => ?_)
  refine tt_to (lv1 := [(0, .ref (eA E 6 0)), (1, .int v)]) rfl rfl rfl rfl ?_
  refine tt_aload_n C dX7_badge_0 rfl 0 rfl ?_
  refine tt_cVV C (c_X7_save E u r h) gX7_badge_X7_save rfl ⟨rfl, rfl⟩ 0 (by decide +kernel) ⟨Nat.le_of_ble_eq_true rfl, Nat.le_of_ble_eq_true rfl⟩ rfl oM0 rfl (Nat.le_of_ble_eq_true rfl) dX7_badge_1 rfl ?_
  generalize e_2 : M_bring h 1 0 2 0 = h_1
  subst e_2
  refine tt_aload_n C dX7_badge_4 rfl 0 rfl ?_
  refine tt_aload_n C dX7_badge_5 rfl 0 rfl ?_
  refine tt_iload_n C dX7_badge_6 rfl 1 rfl ?_
  refine tt_cVI C (c_X7_putBadge_O E u r (M_bring h 1 0 2 0) v hc hB) gX7_badge_X7_putBadge rfl ⟨rfl, rfl⟩ 1 (by decide +kernel) ⟨Nat.le_of_ble_eq_true rfl, Nat.le_of_ble_eq_true rfl⟩ rfl oM0 rfl (Nat.le_of_ble_eq_true rfl) dX7_badge_7 rfl ?_
  generalize e_4 : M_badge (M_bring h 1 0 2 0) v = h_3
  refine tt_cVI C (c_X7_finish_O E u r h_3 (nI (ix ((M_bring h 1 0 2 0) 1 530))) (nref (by have := ix_lt hB (by decide); omega)) (by rw [← e_4]; exact hs9)) gX7_badge_X7_finish rfl ⟨rfl, rfl⟩ 1 (by decide +kernel) ⟨Nat.le_of_ble_eq_true rfl, Nat.le_of_ble_eq_true rfl⟩ rfl oM0 rfl (Nat.le_of_ble_eq_true rfl) dX7_badge_10 rfl ?_
  generalize e_6 : M_push h_3 = h_5
  exact tt_iret K dX7_badge_13 (by subst e_6; subst e_4; rfl) (by subst e_6; subst e_4; rfl) rfl

set_option maxHeartbeats 4000000 in
set_option maxRecDepth 100000 in
theorem c_X7_locks_B (E : EN) (u : U3) (r : R1) (h : HB) (d : Int32) (e : Int32) (hc : ¬ ((¬ d < nI 0 ∧ ¬ (M_bring h 1 0 2 0) 1 529 - nI 1 < d) ∧ (e = -1 ∨ (¬ e < nI 0 ∧ ¬ (M_bring h 1 0 2 0) 1 529 - nI 1 < e)) ∧ ¬ d = e)) : CT E yX7_locks wsX7_locks (rmT 3 67) [.ref (eA E 6 0), .int d, .int e] (ub u 6 h) r (some (.int (-2))) (ub u 6 (M_ref (M_bring h 1 0 2 0) (-2))) r := by
  refine CT_ofI (cc := cX7_locks) (nL := 3) (own := RX7) (by decide) rfl rfl rfl (Nat.le_of_ble_eq_true rfl) (fun F C K => ?_)
  refine tt_to (lv1 := [(0, .ref (eA E 6 0)), (1, .int d), (2, .int e)]) rfl rfl rfl rfl ?_
  refine tt_aload_n C dX7_locks_0 rfl 0 rfl ?_
  refine tt_cVV C (c_X7_save E u r h) gX7_locks_X7_save rfl ⟨rfl, rfl⟩ 0 (by decide +kernel) ⟨Nat.le_of_ble_eq_true rfl, Nat.le_of_ble_eq_true rfl⟩ rfl oM0 rfl (Nat.le_of_ble_eq_true rfl) dX7_locks_1 rfl ?_
  generalize e_2 : M_bring h 1 0 2 0 = h_1
  subst e_2
  refine tt_aload_n C dX7_locks_4 rfl 0 rfl ?_
  refine tt_aload_n C dX7_locks_5 rfl 0 rfl ?_
  refine tt_iload_n C dX7_locks_6 rfl 1 rfl ?_
  refine tt_iload_n C dX7_locks_7 rfl 2 rfl ?_
  refine tt_cVI C (c_X7_putLock_B E u r (M_bring h 1 0 2 0) d e hc) gX7_locks_X7_putLock rfl ⟨rfl, rfl⟩ 2 (by decide +kernel) ⟨Nat.le_of_ble_eq_true rfl, Nat.le_of_ble_eq_true rfl⟩ rfl oM0 rfl (Nat.le_of_ble_eq_true rfl) dX7_locks_8 rfl ?_
  refine tt_cVI C (c_X7_finish_R E u r (M_bring h 1 0 2 0) (-2) ⟨0, by decide, by decide⟩ (by decide)) gX7_locks_X7_finish rfl ⟨rfl, rfl⟩ 1 (by decide +kernel) ⟨Nat.le_of_ble_eq_true rfl, Nat.le_of_ble_eq_true rfl⟩ rfl oM0 rfl (Nat.le_of_ble_eq_true rfl) dX7_locks_11 rfl ?_
  generalize e_4 : M_ref (M_bring h 1 0 2 0) (-2) = h_3
  exact tt_iret K dX7_locks_14 (by subst e_4; rfl) (by subst e_4; rfl) rfl

set_option maxHeartbeats 4000000 in
set_option maxRecDepth 100000 in
theorem c_X7_locks_N (E : EN) (u : U3) (r : R1) (h : HB) (d : Nat) (hD : vI ((M_bring h 1 0 2 0) 1 529) 9) (hdm : d < ix ((M_bring h 1 0 2 0) 1 529)) (ho : (M_bring h 1 0 2 0) 1 (60 * d + 6) = -1 ∨ vI ((M_bring h 1 0 2 0) 1 (60 * d + 6)) 8) (hs9 : vI ((M_lockN (M_bring h 1 0 2 0) d) 0 0) 5) (hr9 : ¬ (¬ (-2 : Int32) < ((M_bring h 1 0 2 0) 1 (60 * d + 6)) ∧ ¬ ((M_bring h 1 0 2 0) 1 (60 * d + 6)) < (-4 : Int32))) : CT E yX7_locks wsX7_locks (rmT 3 67) [.ref (eA E 6 0), .int (nI d), .int (-1)] (ub u 6 h) r (some (.int ((M_bring h 1 0 2 0) 1 (60 * d + 6)))) (ub u 6 (M_push (M_lockN (M_bring h 1 0 2 0) d))) r := by
  refine CT_ofI (cc := cX7_locks) (nL := 3) (own := RX7) (by decide) rfl rfl rfl (Nat.le_of_ble_eq_true rfl) (fun F C K => ?_)
  refine tt_to (lv1 := [(0, .ref (eA E 6 0)), (1, .int (nI d)), (2, .int (-1))]) rfl rfl rfl rfl ?_
  refine tt_aload_n C dX7_locks_0 rfl 0 rfl ?_
  refine tt_cVV C (c_X7_save E u r h) gX7_locks_X7_save rfl ⟨rfl, rfl⟩ 0 (by decide +kernel) ⟨Nat.le_of_ble_eq_true rfl, Nat.le_of_ble_eq_true rfl⟩ rfl oM0 rfl (Nat.le_of_ble_eq_true rfl) dX7_locks_1 rfl ?_
  generalize e_2 : M_bring h 1 0 2 0 = h_1
  subst e_2
  refine tt_aload_n C dX7_locks_4 rfl 0 rfl ?_
  refine tt_aload_n C dX7_locks_5 rfl 0 rfl ?_
  refine tt_iload_n C dX7_locks_6 rfl 1 rfl ?_
  refine tt_iload_n C dX7_locks_7 rfl 2 rfl ?_
  refine tt_cVI C (c_X7_putLock_N E u r (M_bring h 1 0 2 0) d hD hdm ho) gX7_locks_X7_putLock rfl ⟨rfl, rfl⟩ 2 (by decide +kernel) ⟨Nat.le_of_ble_eq_true rfl, Nat.le_of_ble_eq_true rfl⟩ rfl oM0 rfl (Nat.le_of_ble_eq_true rfl) dX7_locks_8 rfl ?_
  generalize e_4 : M_lockN (M_bring h 1 0 2 0) d = h_3
  refine tt_cVI C (c_X7_finish_O E u r h_3 ((M_bring h 1 0 2 0) 1 (60 * d + 6)) hr9 (by rw [← e_4]; exact hs9)) gX7_locks_X7_finish rfl ⟨rfl, rfl⟩ 1 (by decide +kernel) ⟨Nat.le_of_ble_eq_true rfl, Nat.le_of_ble_eq_true rfl⟩ rfl oM0 rfl (Nat.le_of_ble_eq_true rfl) dX7_locks_11 rfl ?_
  generalize e_6 : M_push h_3 = h_5
  exact tt_iret K dX7_locks_14 (by subst e_6; subst e_4; rfl) (by subst e_6; subst e_4; rfl) rfl

set_option maxHeartbeats 4000000 in
set_option maxRecDepth 100000 in
theorem c_X7_locks_E (E : EN) (u : U3) (r : R1) (h : HB) (d : Nat) (e : Nat) (hD : vI ((M_bring h 1 0 2 0) 1 529) 9) (hdm : d < ix ((M_bring h 1 0 2 0) 1 529)) (hem : e < ix ((M_bring h 1 0 2 0) 1 529)) (hne : d ≠ e) (ho : (M_bring h 1 0 2 0) 1 (60 * d + 6) = -1 ∨ vI ((M_bring h 1 0 2 0) 1 (60 * d + 6)) 8) (ho9 : (M_bring h 1 0 2 0) 1 (60 * e + 6) = -1 ∨ vI ((M_bring h 1 0 2 0) 1 (60 * e + 6)) 8) (hs9 : vI ((M_lockE (M_bring h 1 0 2 0) d e) 0 0) 5) (hr9 : ¬ (¬ (-2 : Int32) < ((M_bring h 1 0 2 0) 1 (60 * d + 6)) ∧ ¬ ((M_bring h 1 0 2 0) 1 (60 * d + 6)) < (-4 : Int32))) : CT E yX7_locks wsX7_locks (rmT 3 67) [.ref (eA E 6 0), .int (nI d), .int (nI e)] (ub u 6 h) r (some (.int ((M_bring h 1 0 2 0) 1 (60 * d + 6)))) (ub u 6 (M_push (M_lockE (M_bring h 1 0 2 0) d e))) r := by
  refine CT_ofI (cc := cX7_locks) (nL := 3) (own := RX7) (by decide) rfl rfl rfl (Nat.le_of_ble_eq_true rfl) (fun F C K => ?_)
  refine tt_to (lv1 := [(0, .ref (eA E 6 0)), (1, .int (nI d)), (2, .int (nI e))]) rfl rfl rfl rfl ?_
  refine tt_aload_n C dX7_locks_0 rfl 0 rfl ?_
  refine tt_cVV C (c_X7_save E u r h) gX7_locks_X7_save rfl ⟨rfl, rfl⟩ 0 (by decide +kernel) ⟨Nat.le_of_ble_eq_true rfl, Nat.le_of_ble_eq_true rfl⟩ rfl oM0 rfl (Nat.le_of_ble_eq_true rfl) dX7_locks_1 rfl ?_
  generalize e_2 : M_bring h 1 0 2 0 = h_1
  subst e_2
  refine tt_aload_n C dX7_locks_4 rfl 0 rfl ?_
  refine tt_aload_n C dX7_locks_5 rfl 0 rfl ?_
  refine tt_iload_n C dX7_locks_6 rfl 1 rfl ?_
  refine tt_iload_n C dX7_locks_7 rfl 2 rfl ?_
  refine tt_cVI C (c_X7_putLock_E E u r (M_bring h 1 0 2 0) d e hD hdm hem hne ho ho9) gX7_locks_X7_putLock rfl ⟨rfl, rfl⟩ 2 (by decide +kernel) ⟨Nat.le_of_ble_eq_true rfl, Nat.le_of_ble_eq_true rfl⟩ rfl oM0 rfl (Nat.le_of_ble_eq_true rfl) dX7_locks_8 rfl ?_
  generalize e_4 : M_lockE (M_bring h 1 0 2 0) d e = h_3
  refine tt_cVI C (c_X7_finish_O E u r h_3 ((M_bring h 1 0 2 0) 1 (60 * d + 6)) hr9 (by rw [← e_4]; exact hs9)) gX7_locks_X7_finish rfl ⟨rfl, rfl⟩ 1 (by decide +kernel) ⟨Nat.le_of_ble_eq_true rfl, Nat.le_of_ble_eq_true rfl⟩ rfl oM0 rfl (Nat.le_of_ble_eq_true rfl) dX7_locks_11 rfl ?_
  generalize e_6 : M_push h_3 = h_5
  exact tt_iret K dX7_locks_14 (by subst e_6; subst e_4; rfl) (by subst e_6; subst e_4; rfl) rfl

set_option maxHeartbeats 4000000 in
set_option maxRecDepth 100000 in
theorem c_X7_bars_B (E : EN) (u : U3) (r : R1) (h : HB) (b : Int32) (s : Int32) (hc : ¬ ((¬ b < nI 0 ∧ ¬ (M_bring h 1 0 2 0) 1 530 - nI 1 < b) ∧ (¬ s < nI 0 ∧ ¬ nI 1 < s))) : CT E yX7_bars wsX7_bars (rmT 3 65) [.ref (eA E 6 0), .int b, .int s] (ub u 6 h) r (some (.int (-2))) (ub u 6 (M_ref (M_bring h 1 0 2 0) (-2))) r := by
  refine CT_ofI (cc := cX7_bars) (nL := 3) (own := RX7) (by decide) rfl rfl rfl (Nat.le_of_ble_eq_true rfl) (fun F C K => ?_)
  refine tt_to (lv1 := [(0, .ref (eA E 6 0)), (1, .int b), (2, .int s)]) rfl rfl rfl rfl ?_
  refine tt_aload_n C dX7_bars_0 rfl 0 rfl ?_
  refine tt_cVV C (c_X7_save E u r h) gX7_bars_X7_save rfl ⟨rfl, rfl⟩ 0 (by decide +kernel) ⟨Nat.le_of_ble_eq_true rfl, Nat.le_of_ble_eq_true rfl⟩ rfl oM0 rfl (Nat.le_of_ble_eq_true rfl) dX7_bars_1 rfl ?_
  generalize e_2 : M_bring h 1 0 2 0 = h_1
  subst e_2
  refine tt_aload_n C dX7_bars_4 rfl 0 rfl ?_
  refine tt_aload_n C dX7_bars_5 rfl 0 rfl ?_
  refine tt_iload_n C dX7_bars_6 rfl 1 rfl ?_
  refine tt_iload_n C dX7_bars_7 rfl 2 rfl ?_
  refine tt_cVI C (c_X7_putBarred_B E u r (M_bring h 1 0 2 0) b s hc) gX7_bars_X7_putBarred rfl ⟨rfl, rfl⟩ 2 (by decide +kernel) ⟨Nat.le_of_ble_eq_true rfl, Nat.le_of_ble_eq_true rfl⟩ rfl oM0 rfl (Nat.le_of_ble_eq_true rfl) dX7_bars_8 rfl ?_
  refine tt_cVI C (c_X7_finish_R E u r (M_bring h 1 0 2 0) (-2) ⟨0, by decide, by decide⟩ (by decide)) gX7_bars_X7_finish rfl ⟨rfl, rfl⟩ 1 (by decide +kernel) ⟨Nat.le_of_ble_eq_true rfl, Nat.le_of_ble_eq_true rfl⟩ rfl oM0 rfl (Nat.le_of_ble_eq_true rfl) dX7_bars_11 rfl ?_
  generalize e_4 : M_ref (M_bring h 1 0 2 0) (-2) = h_3
  exact tt_iret K dX7_bars_14 (by subst e_4; rfl) (by subst e_4; rfl) rfl

set_option maxHeartbeats 4000000 in
set_option maxRecDepth 100000 in
theorem c_X7_bars_O (E : EN) (u : U3) (r : R1) (h : HB) (b : Nat) (s : Int32) (hB : vI ((M_bring h 1 0 2 0) 1 530) 9) (hbm : b < ix ((M_bring h 1 0 2 0) 1 530)) (hs : ¬ s < nI 0 ∧ ¬ nI 1 < s) (hs9 : vI ((up2 (M_bring h 1 0 2 0) 1 (480 + 6 * b + 1) s) 0 0) 5) (hr9 : ¬ (¬ (-2 : Int32) < ((M_bring h 1 0 2 0) 1 (480 + 6 * b + 1)) ∧ ¬ ((M_bring h 1 0 2 0) 1 (480 + 6 * b + 1)) < (-4 : Int32))) : CT E yX7_bars wsX7_bars (rmT 3 65) [.ref (eA E 6 0), .int (nI b), .int s] (ub u 6 h) r (some (.int ((M_bring h 1 0 2 0) 1 (480 + 6 * b + 1)))) (ub u 6 (M_push (up2 (M_bring h 1 0 2 0) 1 (480 + 6 * b + 1) s))) r := by
  refine CT_ofI (cc := cX7_bars) (nL := 3) (own := RX7) (by decide) rfl rfl rfl (Nat.le_of_ble_eq_true rfl) (fun F C K => ?_)
  refine tt_to (lv1 := [(0, .ref (eA E 6 0)), (1, .int (nI b)), (2, .int s)]) rfl rfl rfl rfl ?_
  refine tt_aload_n C dX7_bars_0 rfl 0 rfl ?_
  refine tt_cVV C (c_X7_save E u r h) gX7_bars_X7_save rfl ⟨rfl, rfl⟩ 0 (by decide +kernel) ⟨Nat.le_of_ble_eq_true rfl, Nat.le_of_ble_eq_true rfl⟩ rfl oM0 rfl (Nat.le_of_ble_eq_true rfl) dX7_bars_1 rfl ?_
  generalize e_2 : M_bring h 1 0 2 0 = h_1
  subst e_2
  refine tt_aload_n C dX7_bars_4 rfl 0 rfl ?_
  refine tt_aload_n C dX7_bars_5 rfl 0 rfl ?_
  refine tt_iload_n C dX7_bars_6 rfl 1 rfl ?_
  refine tt_iload_n C dX7_bars_7 rfl 2 rfl ?_
  refine tt_cVI C (c_X7_putBarred_O E u r (M_bring h 1 0 2 0) b s hB hbm hs) gX7_bars_X7_putBarred rfl ⟨rfl, rfl⟩ 2 (by decide +kernel) ⟨Nat.le_of_ble_eq_true rfl, Nat.le_of_ble_eq_true rfl⟩ rfl oM0 rfl (Nat.le_of_ble_eq_true rfl) dX7_bars_8 rfl ?_
  generalize e_4 : up2 (M_bring h 1 0 2 0) 1 (480 + 6 * b + 1) s = h_3
  refine tt_cVI C (c_X7_finish_O E u r h_3 ((M_bring h 1 0 2 0) 1 (480 + 6 * b + 1)) hr9 (by rw [← e_4]; exact hs9)) gX7_bars_X7_finish rfl ⟨rfl, rfl⟩ 1 (by decide +kernel) ⟨Nat.le_of_ble_eq_true rfl, Nat.le_of_ble_eq_true rfl⟩ rfl oM0 rfl (Nat.le_of_ble_eq_true rfl) dX7_bars_11 rfl ?_
  generalize e_6 : M_push h_3 = h_5
  exact tt_iret K dX7_bars_14 (by subst e_6; subst e_4; rfl) (by subst e_6; subst e_4; rfl) rfl

set_option maxHeartbeats 4000000 in
set_option maxRecDepth 100000 in
theorem c_X7_online_B (E : EN) (u : U3) (r : R1) (h : HB) (d : Int32) (s : Int32) (hc : ¬ ((¬ d < nI 0 ∧ ¬ (M_bring h 1 0 2 0) 1 529 - nI 1 < d) ∧ (¬ s < nI 0 ∧ ¬ nI 1 < s))) : CT E yX7_online wsX7_online (rmT 4 92) [.ref (eA E 6 0), .int d, .int s] (ub u 6 h) r (some (.int (-2))) (ub u 6 (M_ref (M_bring h 1 0 2 0) (-2))) r := by
  refine CT_ofI (cc := cX7_online) (nL := 3) (own := RX7) (by decide) rfl rfl rfl (Nat.le_of_ble_eq_true rfl) (fun F C K => ?_)
  refine tt_to (lv1 := [(0, .ref (eA E 6 0)), (1, .int d), (2, .int s)]) rfl rfl rfl rfl ?_
  refine tt_aload_n C dX7_online_0 rfl 0 rfl ?_
  refine tt_cVV C (c_X7_save E u r h) gX7_online_X7_save rfl ⟨rfl, rfl⟩ 0 (by decide +kernel) ⟨Nat.le_of_ble_eq_true rfl, Nat.le_of_ble_eq_true rfl⟩ rfl oM0 rfl (Nat.le_of_ble_eq_true rfl) dX7_online_1 rfl ?_
  generalize e_2 : M_bring h 1 0 2 0 = h_1
  subst e_2
  refine tt_aload_n C dX7_online_4 rfl 0 rfl ?_
  refine tt_aload_n C dX7_online_5 rfl 0 rfl ?_
  refine tt_iload_n C dX7_online_6 rfl 1 rfl ?_
  refine tt_iload_n C dX7_online_7 rfl 2 rfl ?_
  refine tt_cVI C (c_X7_putOnline_B E u r (M_bring h 1 0 2 0) d s hc) gX7_online_X7_putOnline rfl ⟨rfl, rfl⟩ 2 (by decide +kernel) ⟨Nat.le_of_ble_eq_true rfl, Nat.le_of_ble_eq_true rfl⟩ rfl oM0 rfl (Nat.le_of_ble_eq_true rfl) dX7_online_8 rfl ?_
  refine tt_cVI C (c_X7_finish_R E u r (M_bring h 1 0 2 0) (-2) ⟨0, by decide, by decide⟩ (by decide)) gX7_online_X7_finish rfl ⟨rfl, rfl⟩ 1 (by decide +kernel) ⟨Nat.le_of_ble_eq_true rfl, Nat.le_of_ble_eq_true rfl⟩ rfl oM0 rfl (Nat.le_of_ble_eq_true rfl) dX7_online_11 rfl ?_
  generalize e_4 : M_ref (M_bring h 1 0 2 0) (-2) = h_3
  exact tt_iret K dX7_online_14 (by subst e_4; rfl) (by subst e_4; rfl) rfl

set_option maxHeartbeats 4000000 in
set_option maxRecDepth 100000 in
theorem c_X7_online_N (E : EN) (u : U3) (r : R1) (h : HB) (d : Nat) (s : Int32) (hD : vI ((M_bring h 1 0 2 0) 1 529) 9) (hdm : d < ix ((M_bring h 1 0 2 0) 1 529)) (hs : ¬ s < nI 0 ∧ ¬ nI 1 < s) (hg : (M_bring h 1 0 2 0) 1 (60 * d + 7) = s) : CT E yX7_online wsX7_online (rmT 4 92) [.ref (eA E 6 0), .int (nI d), .int s] (ub u 6 h) r (some (.int (-3))) (ub u 6 (M_ref (M_bring h 1 0 2 0) (-3))) r := by
  refine CT_ofI (cc := cX7_online) (nL := 3) (own := RX7) (by decide) rfl rfl rfl (Nat.le_of_ble_eq_true rfl) (fun F C K => ?_)
  refine tt_to (lv1 := [(0, .ref (eA E 6 0)), (1, .int (nI d)), (2, .int s)]) rfl rfl rfl rfl ?_
  refine tt_aload_n C dX7_online_0 rfl 0 rfl ?_
  refine tt_cVV C (c_X7_save E u r h) gX7_online_X7_save rfl ⟨rfl, rfl⟩ 0 (by decide +kernel) ⟨Nat.le_of_ble_eq_true rfl, Nat.le_of_ble_eq_true rfl⟩ rfl oM0 rfl (Nat.le_of_ble_eq_true rfl) dX7_online_1 rfl ?_
  generalize e_2 : M_bring h 1 0 2 0 = h_1
  subst e_2
  refine tt_aload_n C dX7_online_4 rfl 0 rfl ?_
  refine tt_aload_n C dX7_online_5 rfl 0 rfl ?_
  refine tt_iload_n C dX7_online_6 rfl 1 rfl ?_
  refine tt_iload_n C dX7_online_7 rfl 2 rfl ?_
  refine tt_cVI C (c_X7_putOnline_N E u r (M_bring h 1 0 2 0) d s hD hdm hs hg) gX7_online_X7_putOnline rfl ⟨rfl, rfl⟩ 2 (by decide +kernel) ⟨Nat.le_of_ble_eq_true rfl, Nat.le_of_ble_eq_true rfl⟩ rfl oM0 rfl (Nat.le_of_ble_eq_true rfl) dX7_online_8 rfl ?_
  refine tt_cVI C (c_X7_finish_R E u r (M_bring h 1 0 2 0) (-3) ⟨1, by decide, by decide⟩ (by decide)) gX7_online_X7_finish rfl ⟨rfl, rfl⟩ 1 (by decide +kernel) ⟨Nat.le_of_ble_eq_true rfl, Nat.le_of_ble_eq_true rfl⟩ rfl oM0 rfl (Nat.le_of_ble_eq_true rfl) dX7_online_11 rfl ?_
  generalize e_4 : M_ref (M_bring h 1 0 2 0) (-3) = h_3
  exact tt_iret K dX7_online_14 (by subst e_4; rfl) (by subst e_4; rfl) rfl

set_option maxHeartbeats 4000000 in
set_option maxRecDepth 100000 in
theorem c_X7_online_Z (E : EN) (u : U3) (r : R1) (h : HB) (d : Nat) (hD : vI ((M_bring h 1 0 2 0) 1 529) 9) (hdm : d < ix ((M_bring h 1 0 2 0) 1 529)) (hg : ¬ (M_bring h 1 0 2 0) 1 (60 * d + 7) = nI 0) (hs9 : vI ((M_copy (up2 (M_bring h 1 0 2 0) 1 (60 * d + 7) (nI 0)) d) 0 0) 5) : CT E yX7_online wsX7_online (rmT 4 92) [.ref (eA E 6 0), .int (nI d), .int (nI 0)] (ub u 6 h) r (some (.int (nI 0))) (ub u 6 (M_push (M_copy (up2 (M_bring h 1 0 2 0) 1 (60 * d + 7) (nI 0)) d))) r := by
  refine CT_ofI (cc := cX7_online) (nL := 3) (own := RX7) (by decide) rfl rfl rfl (Nat.le_of_ble_eq_true rfl) (fun F C K => ?_)
  refine tt_to (lv1 := [(0, .ref (eA E 6 0)), (1, .int (nI d)), (2, .int (nI 0))]) rfl rfl rfl rfl ?_
  refine tt_aload_n C dX7_online_0 rfl 0 rfl ?_
  refine tt_cVV C (c_X7_save E u r h) gX7_online_X7_save rfl ⟨rfl, rfl⟩ 0 (by decide +kernel) ⟨Nat.le_of_ble_eq_true rfl, Nat.le_of_ble_eq_true rfl⟩ rfl oM0 rfl (Nat.le_of_ble_eq_true rfl) dX7_online_1 rfl ?_
  generalize e_2 : M_bring h 1 0 2 0 = h_1
  subst e_2
  refine tt_aload_n C dX7_online_4 rfl 0 rfl ?_
  refine tt_aload_n C dX7_online_5 rfl 0 rfl ?_
  refine tt_iload_n C dX7_online_6 rfl 1 rfl ?_
  refine tt_iload_n C dX7_online_7 rfl 2 rfl ?_
  refine tt_cVI C (c_X7_putOnline_Z E u r (M_bring h 1 0 2 0) d hD hdm hg) gX7_online_X7_putOnline rfl ⟨rfl, rfl⟩ 2 (by decide +kernel) ⟨Nat.le_of_ble_eq_true rfl, Nat.le_of_ble_eq_true rfl⟩ rfl oM0 rfl (Nat.le_of_ble_eq_true rfl) dX7_online_8 rfl ?_
  generalize e_4 : M_copy (up2 (M_bring h 1 0 2 0) 1 (60 * d + 7) (nI 0)) d = h_3
  refine tt_cVI C (c_X7_finish_O E u r h_3 (nI 0) (nref (by omega)) (by rw [← e_4]; exact hs9)) gX7_online_X7_finish rfl ⟨rfl, rfl⟩ 1 (by decide +kernel) ⟨Nat.le_of_ble_eq_true rfl, Nat.le_of_ble_eq_true rfl⟩ rfl oM0 rfl (Nat.le_of_ble_eq_true rfl) dX7_online_11 rfl ?_
  generalize e_6 : M_push h_3 = h_5
  exact tt_iret K dX7_online_14 (by subst e_6; subst e_4; rfl) (by subst e_6; subst e_4; rfl) rfl

set_option maxHeartbeats 4000000 in
set_option maxRecDepth 100000 in
theorem c_X7_online_A (E : EN) (u : U3) (r : R1) (h : HB) (d : Nat) (hD : vI ((M_bring h 1 0 2 0) 1 529) 9) (hdm : d < ix ((M_bring h 1 0 2 0) 1 529)) (hg : ¬ (M_bring h 1 0 2 0) 1 (60 * d + 7) = nI 1) (hn : vI ((M_bring h 1 0 2 0) 1 (60 * d + 19)) 21) (hnb : ∀ i, i < ix ((M_bring h 1 0 2 0) 1 (60 * d + 19)) → vI ((M_bring h 1 0 2 0) 1 (60 * d + (20 + 2 * i + 1))) 8) (hs9 : vI ((M_merge (up2 (M_bring h 1 0 2 0) 1 (60 * d + 7) (nI 1)) d) 0 0) 5) : CT E yX7_online wsX7_online (rmT 4 92) [.ref (eA E 6 0), .int (nI d), .int (nI 1)] (ub u 6 h) r (some (.int (nI (ix ((M_bring h 1 0 2 0) 1 (60 * d + 19)))))) (ub u 6 (M_push (M_merge (up2 (M_bring h 1 0 2 0) 1 (60 * d + 7) (nI 1)) d))) r := by
  refine CT_ofI (cc := cX7_online) (nL := 3) (own := RX7) (by decide) rfl rfl rfl (Nat.le_of_ble_eq_true rfl) (fun F C K => ?_)
  refine tt_to (lv1 := [(0, .ref (eA E 6 0)), (1, .int (nI d)), (2, .int (nI 1))]) rfl rfl rfl rfl ?_
  refine tt_aload_n C dX7_online_0 rfl 0 rfl ?_
  refine tt_cVV C (c_X7_save E u r h) gX7_online_X7_save rfl ⟨rfl, rfl⟩ 0 (by decide +kernel) ⟨Nat.le_of_ble_eq_true rfl, Nat.le_of_ble_eq_true rfl⟩ rfl oM0 rfl (Nat.le_of_ble_eq_true rfl) dX7_online_1 rfl ?_
  generalize e_2 : M_bring h 1 0 2 0 = h_1
  subst e_2
  refine tt_aload_n C dX7_online_4 rfl 0 rfl ?_
  refine tt_aload_n C dX7_online_5 rfl 0 rfl ?_
  refine tt_iload_n C dX7_online_6 rfl 1 rfl ?_
  refine tt_iload_n C dX7_online_7 rfl 2 rfl ?_
  refine tt_cVI C (c_X7_putOnline_A E u r (M_bring h 1 0 2 0) d hD hdm hg hn hnb) gX7_online_X7_putOnline rfl ⟨rfl, rfl⟩ 2 (by decide +kernel) ⟨Nat.le_of_ble_eq_true rfl, Nat.le_of_ble_eq_true rfl⟩ rfl oM0 rfl (Nat.le_of_ble_eq_true rfl) dX7_online_8 rfl ?_
  generalize e_4 : M_merge (up2 (M_bring h 1 0 2 0) 1 (60 * d + 7) (nI 1)) d = h_3
  refine tt_cVI C (c_X7_finish_O E u r h_3 (nI (ix ((M_bring h 1 0 2 0) 1 (60 * d + 19)))) (nref (by have := ix_lt hn (by decide); omega)) (by rw [← e_4]; exact hs9)) gX7_online_X7_finish rfl ⟨rfl, rfl⟩ 1 (by decide +kernel) ⟨Nat.le_of_ble_eq_true rfl, Nat.le_of_ble_eq_true rfl⟩ rfl oM0 rfl (Nat.le_of_ble_eq_true rfl) dX7_online_11 rfl ?_
  generalize e_6 : M_push h_3 = h_5
  exact tt_iret K dX7_online_14 (by subst e_6; subst e_4; rfl) (by subst e_6; subst e_4; rfl) rfl

set_option maxHeartbeats 4000000 in
set_option maxRecDepth 100000 in
theorem c_X7_asks_B (E : EN) (u : U3) (r : R1) (h : HB) (b : Int32) (d : Int32) (s : Int32) (hc : ¬ ((¬ b < nI 0 ∧ ¬ (M_bring h 1 0 2 0) 1 530 - nI 1 < b) ∧ (¬ d < nI 0 ∧ ¬ (M_bring h 1 0 2 0) 1 529 - nI 1 < d) ∧ (¬ s < nI 0 ∧ ¬ nI 1 < s))) : CT E yX7_asks wsX7_asks (rmT 5 115) [.ref (eA E 6 0), .int b, .int d, .int s] (ub u 6 h) r (some (.int (-2))) (ub u 6 (M_ref (M_bring h 1 0 2 0) (-2))) r := by
  refine CT_ofI (cc := cX7_asks) (nL := 4) (own := RX7) (by decide) rfl rfl rfl (Nat.le_of_ble_eq_true rfl) (fun F C K => ?_)
  refine tt_to (lv1 := [(0, .ref (eA E 6 0)), (1, .int b), (2, .int d), (3, .int s)]) rfl rfl rfl rfl ?_
  refine tt_aload_n C dX7_asks_0 rfl 0 rfl ?_
  refine tt_cVV C (c_X7_save E u r h) gX7_asks_X7_save rfl ⟨rfl, rfl⟩ 0 (by decide +kernel) ⟨Nat.le_of_ble_eq_true rfl, Nat.le_of_ble_eq_true rfl⟩ rfl oM0 rfl (Nat.le_of_ble_eq_true rfl) dX7_asks_1 rfl ?_
  generalize e_2 : M_bring h 1 0 2 0 = h_1
  subst e_2
  refine tt_aload_n C dX7_asks_4 rfl 0 rfl ?_
  refine tt_aload_n C dX7_asks_5 rfl 0 rfl ?_
  refine tt_iload_n C dX7_asks_6 rfl 1 rfl ?_
  refine tt_iload_n C dX7_asks_7 rfl 2 rfl ?_
  refine tt_iload_n C dX7_asks_8 rfl 3 rfl ?_
  refine tt_cVI C (c_X7_ask_B E u r (M_bring h 1 0 2 0) b d s hc) gX7_asks_X7_ask rfl ⟨rfl, rfl⟩ 3 (by decide +kernel) ⟨Nat.le_of_ble_eq_true rfl, Nat.le_of_ble_eq_true rfl⟩ rfl oM0 rfl (Nat.le_of_ble_eq_true rfl) dX7_asks_9 rfl ?_
  refine tt_cVI C (c_X7_finish_R E u r (M_bring h 1 0 2 0) (-2) ⟨0, by decide, by decide⟩ (by decide)) gX7_asks_X7_finish rfl ⟨rfl, rfl⟩ 1 (by decide +kernel) ⟨Nat.le_of_ble_eq_true rfl, Nat.le_of_ble_eq_true rfl⟩ rfl oM0 rfl (Nat.le_of_ble_eq_true rfl) dX7_asks_12 rfl ?_
  generalize e_4 : M_ref (M_bring h 1 0 2 0) (-2) = h_3
  exact tt_iret K dX7_asks_15 (by subst e_4; rfl) (by subst e_4; rfl) rfl

set_option maxHeartbeats 4000000 in
set_option maxRecDepth 100000 in
theorem c_X7_asks_O (E : EN) (u : U3) (r : R1) (h : HB) (b : Nat) (d : Nat) (s : Int32) (hB : vI ((M_bring h 1 0 2 0) 1 530) 9) (hD : vI ((M_bring h 1 0 2 0) 1 529) 9) (hbm : b < ix ((M_bring h 1 0 2 0) 1 530)) (hdm : d < ix ((M_bring h 1 0 2 0) 1 529)) (hs : ¬ s < nI 0 ∧ ¬ nI 1 < s) (ho : (M_bring h 1 0 2 0) 1 (60 * d + 6) = -1 ∨ vI ((M_bring h 1 0 2 0) 1 (60 * d + 6)) 8) (hm : vI ((M_bring h 1 0 2 0) 1 540) 65) (hq : PQ (M_move (M_bring h 1 0 2 0) b d ((M_bring h 1 0 2 0) 1 528)) b d) (hw : (M_bring h 1 0 2 0) 1 (60 * d + 9) = -1 ∨ vI ((M_bring h 1 0 2 0) 1 (60 * d + 9)) 8) (hq2 : PQ (M_move (M_let (M_bring h 1 0 2 0) b d) (ix ((M_bring h 1 0 2 0) 1 (60 * d + 9))) d ((M_let (M_bring h 1 0 2 0) b d) 1 528)) (ix ((M_bring h 1 0 2 0) 1 (60 * d + 9))) d) (hn : vI ((M_bring h 1 0 2 0) 1 (60 * d + 19)) 21) (hqa : PQ (M_note (M_bring h 1 0 2 0) b d) b d) (hs9 : vI ((M_askH (M_bring h 1 0 2 0) b d s) 0 0) 5) : CT E yX7_asks wsX7_asks (rmT 5 115) [.ref (eA E 6 0), .int (nI b), .int (nI d), .int s] (ub u 6 h) r (some (.int (nI (M_askR (M_bring h 1 0 2 0) b d)))) (ub u 6 (M_push (M_askH (M_bring h 1 0 2 0) b d s))) r := by
  refine CT_ofI (cc := cX7_asks) (nL := 4) (own := RX7) (by decide) rfl rfl rfl (Nat.le_of_ble_eq_true rfl) (fun F C K => ?_)
  refine tt_to (lv1 := [(0, .ref (eA E 6 0)), (1, .int (nI b)), (2, .int (nI d)), (3, .int s)]) rfl rfl rfl rfl ?_
  refine tt_aload_n C dX7_asks_0 rfl 0 rfl ?_
  refine tt_cVV C (c_X7_save E u r h) gX7_asks_X7_save rfl ⟨rfl, rfl⟩ 0 (by decide +kernel) ⟨Nat.le_of_ble_eq_true rfl, Nat.le_of_ble_eq_true rfl⟩ rfl oM0 rfl (Nat.le_of_ble_eq_true rfl) dX7_asks_1 rfl ?_
  generalize e_2 : M_bring h 1 0 2 0 = h_1
  subst e_2
  refine tt_aload_n C dX7_asks_4 rfl 0 rfl ?_
  refine tt_aload_n C dX7_asks_5 rfl 0 rfl ?_
  refine tt_iload_n C dX7_asks_6 rfl 1 rfl ?_
  refine tt_iload_n C dX7_asks_7 rfl 2 rfl ?_
  refine tt_iload_n C dX7_asks_8 rfl 3 rfl ?_
  refine tt_cVI C (c_X7_ask_O E u r (M_bring h 1 0 2 0) b d s hB hD hbm hdm hs ho hm hq hw hq2 hn hqa) gX7_asks_X7_ask rfl ⟨rfl, rfl⟩ 3 (by decide +kernel) ⟨Nat.le_of_ble_eq_true rfl, Nat.le_of_ble_eq_true rfl⟩ rfl oM0 rfl (Nat.le_of_ble_eq_true rfl) dX7_asks_9 rfl ?_
  generalize e_4 : M_askH (M_bring h 1 0 2 0) b d s = h_3
  refine tt_cVI C (c_X7_finish_O E u r h_3 (nI (M_askR (M_bring h 1 0 2 0) b d)) (nref (by have : M_askR (M_bring h 1 0 2 0) b d < 6 := (by unfold M_askR; have := M_onR_lt (M_bring h 1 0 2 0) b d; have := M_alR_lt (M_bring h 1 0 2 0) b d; (repeat' split) <;> omega); omega)) (by rw [← e_4]; exact hs9)) gX7_asks_X7_finish rfl ⟨rfl, rfl⟩ 1 (by decide +kernel) ⟨Nat.le_of_ble_eq_true rfl, Nat.le_of_ble_eq_true rfl⟩ rfl oM0 rfl (Nat.le_of_ble_eq_true rfl) dX7_asks_12 rfl ?_
  generalize e_6 : M_push h_3 = h_5
  exact tt_iret K dX7_asks_15 (by subst e_6; subst e_4; rfl) (by subst e_6; subst e_4; rfl) rfl

set_option maxHeartbeats 4000000 in
set_option maxRecDepth 100000 in
theorem c_X7_waits_B (E : EN) (u : U3) (r : R1) (h : HB) (n : Int32) (hc : ¬ (¬ n < nI 1 ∧ ¬ nI 99 < n)) : CT E yX7_waits wsX7_waits (rmT 2 46) [.ref (eA E 6 0), .int n] (ub u 6 h) r (some (.int (-2))) (ub u 6 (M_ref (M_bring h 1 0 2 0) (-2))) r := by
  refine CT_ofI (cc := cX7_waits) (nL := 2) (own := RX7) (by decide) rfl rfl rfl (Nat.le_of_ble_eq_true rfl) (fun F C K => ?_)
  refine tt_to (lv1 := [(0, .ref (eA E 6 0)), (1, .int n)]) rfl rfl rfl rfl ?_
  refine tt_aload_n C dX7_waits_0 rfl 0 rfl ?_
  refine tt_cVV C (c_X7_save E u r h) gX7_waits_X7_save rfl ⟨rfl, rfl⟩ 0 (by decide +kernel) ⟨Nat.le_of_ble_eq_true rfl, Nat.le_of_ble_eq_true rfl⟩ rfl oM0 rfl (Nat.le_of_ble_eq_true rfl) dX7_waits_1 rfl ?_
  generalize e_2 : M_bring h 1 0 2 0 = h_1
  subst e_2
  refine tt_aload_n C dX7_waits_4 rfl 0 rfl ?_
  refine tt_aload_n C dX7_waits_5 rfl 0 rfl ?_
  refine tt_iload_n C dX7_waits_6 rfl 1 rfl ?_
  refine tt_cVI C (c_X7_wait_B E u r (M_bring h 1 0 2 0) n hc) gX7_waits_X7_wait rfl ⟨rfl, rfl⟩ 1 (by decide +kernel) ⟨Nat.le_of_ble_eq_true rfl, Nat.le_of_ble_eq_true rfl⟩ rfl oM0 rfl (Nat.le_of_ble_eq_true rfl) dX7_waits_7 rfl ?_
  refine tt_cVI C (c_X7_finish_R E u r (M_bring h 1 0 2 0) (-2) ⟨0, by decide, by decide⟩ (by decide)) gX7_waits_X7_finish rfl ⟨rfl, rfl⟩ 1 (by decide +kernel) ⟨Nat.le_of_ble_eq_true rfl, Nat.le_of_ble_eq_true rfl⟩ rfl oM0 rfl (Nat.le_of_ble_eq_true rfl) dX7_waits_10 rfl ?_
  generalize e_4 : M_ref (M_bring h 1 0 2 0) (-2) = h_3
  exact tt_iret K dX7_waits_13 (by subst e_4; rfl) (by subst e_4; rfl) rfl

set_option maxHeartbeats 4000000 in
set_option maxRecDepth 100000 in
theorem c_X7_waits_O (E : EN) (u : U3) (r : R1) (h : HB) (n : Int32) (hc : ¬ n < nI 1 ∧ ¬ nI 99 < n) (hD : vI ((M_bring h 1 0 2 0) 1 529) 9) (hs9 : vI ((M_wait (M_bring h 1 0 2 0) n) 0 0) 5) (hr9 : ¬ (¬ (-2 : Int32) < (rem24 ((M_bring h 1 0 2 0) 1 528 + n)) ∧ ¬ (rem24 ((M_bring h 1 0 2 0) 1 528 + n)) < (-4 : Int32))) : CT E yX7_waits wsX7_waits (rmT 2 46) [.ref (eA E 6 0), .int n] (ub u 6 h) r (some (.int (rem24 ((M_bring h 1 0 2 0) 1 528 + n)))) (ub u 6 (M_push (M_wait (M_bring h 1 0 2 0) n))) r := by
  refine CT_ofI (cc := cX7_waits) (nL := 2) (own := RX7) (by decide) rfl rfl rfl (Nat.le_of_ble_eq_true rfl) (fun F C K => ?_)
  refine tt_to (lv1 := [(0, .ref (eA E 6 0)), (1, .int n)]) rfl rfl rfl rfl ?_
  refine tt_aload_n C dX7_waits_0 rfl 0 rfl ?_
  refine tt_cVV C (c_X7_save E u r h) gX7_waits_X7_save rfl ⟨rfl, rfl⟩ 0 (by decide +kernel) ⟨Nat.le_of_ble_eq_true rfl, Nat.le_of_ble_eq_true rfl⟩ rfl oM0 rfl (Nat.le_of_ble_eq_true rfl) dX7_waits_1 rfl ?_
  generalize e_2 : M_bring h 1 0 2 0 = h_1
  subst e_2
  refine tt_aload_n C dX7_waits_4 rfl 0 rfl ?_
  refine tt_aload_n C dX7_waits_5 rfl 0 rfl ?_
  refine tt_iload_n C dX7_waits_6 rfl 1 rfl ?_
  refine tt_cVI C (c_X7_wait_O E u r (M_bring h 1 0 2 0) n hc hD) gX7_waits_X7_wait rfl ⟨rfl, rfl⟩ 1 (by decide +kernel) ⟨Nat.le_of_ble_eq_true rfl, Nat.le_of_ble_eq_true rfl⟩ rfl oM0 rfl (Nat.le_of_ble_eq_true rfl) dX7_waits_7 rfl ?_
  generalize e_4 : M_wait (M_bring h 1 0 2 0) n = h_3
  refine tt_cVI C (c_X7_finish_O E u r h_3 (rem24 ((M_bring h 1 0 2 0) 1 528 + n)) hr9 (by rw [← e_4]; exact hs9)) gX7_waits_X7_finish rfl ⟨rfl, rfl⟩ 1 (by decide +kernel) ⟨Nat.le_of_ble_eq_true rfl, Nat.le_of_ble_eq_true rfl⟩ rfl oM0 rfl (Nat.le_of_ble_eq_true rfl) dX7_waits_10 rfl ?_
  generalize e_6 : M_push h_3 = h_5
  exact tt_iret K dX7_waits_13 (by subst e_6; subst e_4; rfl) (by subst e_6; subst e_4; rfl) rfl

set_option maxHeartbeats 4000000 in
set_option maxRecDepth 100000 in
theorem c_X7_sets_B (E : EN) (u : U3) (r : R1) (h : HB) (d : Int32) (w : Int32) (v : Int32) (hc : ¬ ((¬ d < nI 0 ∧ ¬ (M_bring h 1 0 2 0) 1 529 - nI 1 < d) ∧ (¬ w < nI 0 ∧ ¬ nI 1 < w) ∧ (¬ v < nI 0 ∧ ¬ nI 2 - w < v))) : CT E yX7_sets wsX7_sets (rmT 2 46) [.ref (eA E 6 0), .int d, .int w, .int v] (ub u 6 h) r (some (.int (-2))) (ub u 6 (M_ref (M_bring h 1 0 2 0) (-2))) r := by
  refine CT_ofI (cc := cX7_sets) (nL := 5) (own := RX7) (by decide) rfl rfl rfl (Nat.le_of_ble_eq_true rfl) (fun F C K => ?_)
  refine tt_to (lv1 := [(0, .ref (eA E 6 0)), (1, .int d), (2, .int w), (3, .int v)]) rfl rfl rfl rfl ?_
  refine tt_aload_n C dX7_sets_0 rfl 0 rfl ?_
  refine tt_cVV C (c_X7_save E u r h) gX7_sets_X7_save rfl ⟨rfl, rfl⟩ 0 (by decide +kernel) ⟨Nat.le_of_ble_eq_true rfl, Nat.le_of_ble_eq_true rfl⟩ rfl oM0 rfl (Nat.le_of_ble_eq_true rfl) dX7_sets_1 rfl ?_
  generalize e_2 : M_bring h 1 0 2 0 = h_1
  subst e_2
  refine tt_aload_n C dX7_sets_4 rfl 0 rfl ?_
  refine tt_iload_n C dX7_sets_5 rfl 1 rfl ?_
  refine tt_cVI C (c_X7_isDoor E u r (M_bring h 1 0 2 0) d) gX7_sets_X7_isDoor rfl ⟨rfl, rfl⟩ 1 (by decide +kernel) ⟨Nat.le_of_ble_eq_true rfl, Nat.le_of_ble_eq_true rfl⟩ rfl oM0 rfl (Nat.le_of_ble_eq_true rfl) dX7_sets_6 rfl ?_
  refine tt_if_eqB C (tgt := 36) dX7_sets_9 (by decide) (fun c_3 => ?_) (fun c_3 => ?_)
  · skip
    refine tt_iconst (v := nI 0) C dX7_sets_36 (by decide) ?_
    refine tt_istore (lv' := [(0, .ref (eA E 6 0)), (1, .int d), (2, .int w), (3, .int v), (4, .int (nI 0))]) C dX7_sets_37 (by decide) [1, 2, 3, 4, 0] rfl ?_
    refine tt_aload_n C dX7_sets_39 rfl 0 rfl ?_
    refine tt_iload C dX7_sets_40 4 rfl ?_
    refine tt_if_eq C (tgt := 61) dX7_sets_42 (by decide) (nI_eq0 (by omega)) (fun c_4 => ?_) (fun c_4 => ?_)
    · skip
      refine tt_bipush (v := (-2 : Int32)) C dX7_sets_61 (by decide) ?_
      refine tt_cVI C (c_X7_finish_R E u r (M_bring h 1 0 2 0) (-2 : Int32) ⟨0, by decide, by decide⟩ (by decide)) gX7_sets_X7_finish rfl ⟨rfl, rfl⟩ 1 (by decide +kernel) ⟨Nat.le_of_ble_eq_true rfl, Nat.le_of_ble_eq_true rfl⟩ rfl oM0 rfl (Nat.le_of_ble_eq_true rfl) dX7_sets_63 rfl ?_
      generalize e_6 : M_ref (M_bring h 1 0 2 0) (-2 : Int32) = h_5
      exact tt_iret K dX7_sets_66 (by subst e_6; rfl) (by subst e_6; rfl) rfl
    · skip
      exact absurd (by decide) c_4
  · skip
    refine tt_iload_n C dX7_sets_12 rfl 2 rfl ?_
    refine tt_iconst (v := nI 0) C dX7_sets_13 (by decide) ?_
    refine tt_iconst (v := nI 1) C dX7_sets_14 (by decide) ?_
    refine tt_cSI C (c_X7_in E (ub u 6 (M_bring h 1 0 2 0)) r w (nI 0) (nI 1)) gX7_sets_X7_in rfl ⟨rfl, rfl⟩ 3 (by decide +kernel) ⟨Nat.le_of_ble_eq_true rfl, Nat.le_of_ble_eq_true rfl⟩ rfl (Nat.le_of_ble_eq_true rfl) dX7_sets_15 rfl ?_
    refine tt_if_eqB C (tgt := 36) dX7_sets_18 (by decide) (fun c_7 => ?_) (fun c_7 => ?_)
    · skip
      refine tt_iconst (v := nI 0) C dX7_sets_36 (by decide) ?_
      refine tt_istore (lv' := [(0, .ref (eA E 6 0)), (1, .int d), (2, .int w), (3, .int v), (4, .int (nI 0))]) C dX7_sets_37 (by decide) [1, 2, 3, 4, 0] rfl ?_
      refine tt_aload_n C dX7_sets_39 rfl 0 rfl ?_
      refine tt_iload C dX7_sets_40 4 rfl ?_
      refine tt_if_eq C (tgt := 61) dX7_sets_42 (by decide) (nI_eq0 (by omega)) (fun c_8 => ?_) (fun c_8 => ?_)
      · skip
        refine tt_bipush (v := (-2 : Int32)) C dX7_sets_61 (by decide) ?_
        refine tt_cVI C (c_X7_finish_R E u r (M_bring h 1 0 2 0) (-2 : Int32) ⟨0, by decide, by decide⟩ (by decide)) gX7_sets_X7_finish rfl ⟨rfl, rfl⟩ 1 (by decide +kernel) ⟨Nat.le_of_ble_eq_true rfl, Nat.le_of_ble_eq_true rfl⟩ rfl oM0 rfl (Nat.le_of_ble_eq_true rfl) dX7_sets_63 rfl ?_
        generalize e_10 : M_ref (M_bring h 1 0 2 0) (-2 : Int32) = h_9
        exact tt_iret K dX7_sets_66 (by subst e_10; rfl) (by subst e_10; rfl) rfl
      · skip
        exact absurd (by decide) c_8
    · skip
      refine tt_iload_n C dX7_sets_21 rfl 3 rfl ?_
      refine tt_iconst (v := nI 0) C dX7_sets_22 (by decide) ?_
      refine tt_iconst (v := nI 2) C dX7_sets_23 (by decide) ?_
      refine tt_iload_n C dX7_sets_24 rfl 2 rfl ?_
      refine tt_isub C dX7_sets_25 rfl ?_
      refine tt_cSI C (c_X7_in E (ub u 6 (M_bring h 1 0 2 0)) r v (nI 0) ((nI 2) - w)) gX7_sets_X7_in rfl ⟨rfl, rfl⟩ 3 (by decide +kernel) ⟨Nat.le_of_ble_eq_true rfl, Nat.le_of_ble_eq_true rfl⟩ rfl (Nat.le_of_ble_eq_true rfl) dX7_sets_26 rfl ?_
      refine tt_if_eqB C (tgt := 36) dX7_sets_29 (by decide) (fun c_11 => ?_) (fun c_11 => ?_)
      · skip
        refine tt_iconst (v := nI 0) C dX7_sets_36 (by decide) ?_
        refine tt_istore (lv' := [(0, .ref (eA E 6 0)), (1, .int d), (2, .int w), (3, .int v), (4, .int (nI 0))]) C dX7_sets_37 (by decide) [1, 2, 3, 4, 0] rfl ?_
        refine tt_aload_n C dX7_sets_39 rfl 0 rfl ?_
        refine tt_iload C dX7_sets_40 4 rfl ?_
        refine tt_if_eq C (tgt := 61) dX7_sets_42 (by decide) (nI_eq0 (by omega)) (fun c_12 => ?_) (fun c_12 => ?_)
        · skip
          refine tt_bipush (v := (-2 : Int32)) C dX7_sets_61 (by decide) ?_
          refine tt_cVI C (c_X7_finish_R E u r (M_bring h 1 0 2 0) (-2 : Int32) ⟨0, by decide, by decide⟩ (by decide)) gX7_sets_X7_finish rfl ⟨rfl, rfl⟩ 1 (by decide +kernel) ⟨Nat.le_of_ble_eq_true rfl, Nat.le_of_ble_eq_true rfl⟩ rfl oM0 rfl (Nat.le_of_ble_eq_true rfl) dX7_sets_63 rfl ?_
          generalize e_14 : M_ref (M_bring h 1 0 2 0) (-2 : Int32) = h_13
          exact tt_iret K dX7_sets_66 (by subst e_14; rfl) (by subst e_14; rfl) rfl
        · skip
          exact absurd (by decide) c_12
      · skip
        exact absurd ⟨(by assumption), (by assumption), c_11⟩ hc

set_option maxHeartbeats 4000000 in
set_option maxRecDepth 100000 in
theorem c_X7_sets_O (E : EN) (u : U3) (r : R1) (h : HB) (d : Nat) (w : Nat) (v : Nat) (hD : vI ((M_bring h 1 0 2 0) 1 529) 9) (hdm : d < ix ((M_bring h 1 0 2 0) 1 529)) (hw : w < 2) (hv : v ≤ 2 - w) (hs9 : vI ((up2 (M_bring h 1 0 2 0) 1 (60 * d + 4 + w) (nI v)) 0 0) 5) (hr9 : ¬ (¬ (-2 : Int32) < (M_bring h 1 0 2 0) 1 (60 * d + 4 + w) ∧ ¬ (M_bring h 1 0 2 0) 1 (60 * d + 4 + w) < (-4 : Int32))) : CT E yX7_sets wsX7_sets (rmT 2 46) [.ref (eA E 6 0), .int (nI d), .int (nI w), .int (nI v)] (ub u 6 h) r (some (.int ((M_bring h 1 0 2 0) 1 (60 * d + 4 + w)))) (ub u 6 (M_push (up2 (M_bring h 1 0 2 0) 1 (60 * d + 4 + w) (nI v)))) r := by
  refine CT_ofI (cc := cX7_sets) (nL := 5) (own := RX7) (by decide) rfl rfl rfl (Nat.le_of_ble_eq_true rfl) (fun F C K => ?_)
  refine tt_to (lv1 := [(0, .ref (eA E 6 0)), (1, .int (nI d)), (2, .int (nI w)), (3, .int (nI v))]) rfl rfl rfl rfl ?_
  have hD' := ix_lt hD (by decide)
  have hd : d < 8 := by omega
  refine tt_aload_n C dX7_sets_0 rfl 0 rfl ?_
  refine tt_cVV C (c_X7_save E u r h) gX7_sets_X7_save rfl ⟨rfl, rfl⟩ 0 (by decide +kernel) ⟨Nat.le_of_ble_eq_true rfl, Nat.le_of_ble_eq_true rfl⟩ rfl oM0 rfl (Nat.le_of_ble_eq_true rfl) dX7_sets_1 rfl ?_
  generalize e_2 : M_bring h 1 0 2 0 = h_1
  subst e_2
  refine tt_aload_n C dX7_sets_4 rfl 0 rfl ?_
  refine tt_iload_n C dX7_sets_5 rfl 1 rfl ?_
  refine tt_cVI C (c_X7_isDoor E u r (M_bring h 1 0 2 0) (nI d)) gX7_sets_X7_isDoor rfl ⟨rfl, rfl⟩ 1 (by decide +kernel) ⟨Nat.le_of_ble_eq_true rfl, Nat.le_of_ble_eq_true rfl⟩ rfl oM0 rfl (Nat.le_of_ble_eq_true rfl) dX7_sets_6 rfl ?_
  refine tt_if_eqB C (tgt := 36) dX7_sets_9 (by decide) (fun c_3 => ?_) (fun c_3 => ?_)
  · skip
    exact absurd (in_ok hD (by decide) hdm) c_3
  · skip
    refine tt_iload_n C dX7_sets_12 rfl 2 rfl ?_
    refine tt_iconst (v := nI 0) C dX7_sets_13 (by decide) ?_
    refine tt_iconst (v := nI 1) C dX7_sets_14 (by decide) ?_
    refine tt_cSI C (c_X7_in E (ub u 6 (M_bring h 1 0 2 0)) r (nI w) (nI 0) (nI 1)) gX7_sets_X7_in rfl ⟨rfl, rfl⟩ 3 (by decide +kernel) ⟨Nat.le_of_ble_eq_true rfl, Nat.le_of_ble_eq_true rfl⟩ rfl (Nat.le_of_ble_eq_true rfl) dX7_sets_15 rfl ?_
    refine tt_if_eqB C (tgt := 36) dX7_sets_18 (by decide) (fun c_4 => ?_) (fun c_4 => ?_)
    · skip
      exact absurd (show ¬ nI w < nI 0 ∧ ¬ nI 1 < nI w from ⟨nI_nlt (by omega) (by omega), nI_nlt (by omega) (by omega)⟩) c_4
    · skip
      refine tt_iload_n C dX7_sets_21 rfl 3 rfl ?_
      refine tt_iconst (v := nI 0) C dX7_sets_22 (by decide) ?_
      refine tt_iconst (v := nI 2) C dX7_sets_23 (by decide) ?_
      refine tt_iload_n C dX7_sets_24 rfl 2 rfl ?_
      refine tt_isub (v := nI (2 - w)) C dX7_sets_25 (pk_sub (by omega)) ?_
      refine tt_cSI C (c_X7_in E (ub u 6 (M_bring h 1 0 2 0)) r (nI v) (nI 0) (nI (2 - w))) gX7_sets_X7_in rfl ⟨rfl, rfl⟩ 3 (by decide +kernel) ⟨Nat.le_of_ble_eq_true rfl, Nat.le_of_ble_eq_true rfl⟩ rfl (Nat.le_of_ble_eq_true rfl) dX7_sets_26 rfl ?_
      refine tt_if_eqB C (tgt := 36) dX7_sets_29 (by decide) (fun c_5 => ?_) (fun c_5 => ?_)
      · skip
        exact absurd (show ¬ nI v < nI 0 ∧ ¬ nI (2 - w) < nI v from ⟨nI_nlt (by omega) (by omega), nI_nlt (by omega) (by omega)⟩) c_5
      · skip
        refine tt_iconst (v := nI 1) C dX7_sets_32 (by decide) ?_
        refine tt_goto (tgt := 37) C dX7_sets_33 (by decide) ?_
        refine tt_istore (lv' := [(0, .ref (eA E 6 0)), (1, .int (nI d)), (2, .int (nI w)), (3, .int (nI v)), (4, .int (nI 1))]) C dX7_sets_37 (by decide) [1, 2, 3, 4, 0] rfl ?_
        refine tt_aload_n C dX7_sets_39 rfl 0 rfl ?_
        refine tt_iload C dX7_sets_40 4 rfl ?_
        refine tt_if_eq C (tgt := 61) dX7_sets_42 (by decide) (nI_eq0 (by omega)) (fun c_6 => ?_) (fun c_6 => ?_)
        · skip
          exact absurd c_6 (by decide)
        · skip
          refine tt_aload_n C dX7_sets_45 rfl 0 rfl ?_
          refine tt_bipush (v := nI 60) C dX7_sets_46 (by decide) ?_
          refine tt_iload_n C dX7_sets_48 rfl 1 rfl ?_
          refine tt_imul (v := nI (60 * d)) C dX7_sets_49 (pk_mul _ _) ?_
          refine tt_iconst (v := nI 4) C dX7_sets_50 (by decide) ?_
          refine tt_iadd (v := nI (60 * d + 4)) C dX7_sets_51 (nI_add _ _) ?_
          refine tt_iload_n C dX7_sets_52 rfl 2 rfl ?_
          refine tt_iadd (v := nI (60 * d + 4 + w)) C dX7_sets_53 (nI_add _ _) ?_
          refine tt_iload_n C dX7_sets_54 rfl 3 rfl ?_
          refine tt_cVI C (c_X7_change E u r (M_bring h 1 0 2 0) (60 * d + 4 + w) (nI v) (by first | assumption | omega)) gX7_sets_X7_change rfl ⟨rfl, rfl⟩ 2 (by decide +kernel) ⟨Nat.le_of_ble_eq_true rfl, Nat.le_of_ble_eq_true rfl⟩ rfl oM0 rfl (Nat.le_of_ble_eq_true rfl) dX7_sets_55 rfl ?_
          generalize e_8 : up2 (M_bring h 1 0 2 0) 1 (60 * d + 4 + w) (nI v) = h_7
          refine tt_goto (tgt := 63) C dX7_sets_58 (by decide) ?_
          refine tt_cVI C (c_X7_finish_O E u r h_7 ((M_bring h 1 0 2 0) 1 (60 * d + 4 + w)) hr9 (by rw [← e_8]; exact hs9)) gX7_sets_X7_finish rfl ⟨rfl, rfl⟩ 1 (by decide +kernel) ⟨Nat.le_of_ble_eq_true rfl, Nat.le_of_ble_eq_true rfl⟩ rfl oM0 rfl (Nat.le_of_ble_eq_true rfl) dX7_sets_63 rfl ?_
          generalize e_10 : M_push h_7 = h_9
          exact tt_iret K dX7_sets_66 (by subst e_10; subst e_8; rfl) (by subst e_10; subst e_8; rfl) rfl

set_option maxHeartbeats 4000000 in
set_option maxRecDepth 100000 in
theorem c_X7_levels_B (E : EN) (u : U3) (r : R1) (h : HB) (b : Int32) (v : Int32) (hc : ¬ ((¬ b < nI 0 ∧ ¬ (M_bring h 1 0 2 0) 1 530 - nI 1 < b) ∧ (¬ v < nI 0 ∧ ¬ nI 3 < v))) : CT E yX7_levels wsX7_levels (rmT 2 46) [.ref (eA E 6 0), .int b, .int v] (ub u 6 h) r (some (.int (-2))) (ub u 6 (M_ref (M_bring h 1 0 2 0) (-2))) r := by
  refine CT_ofI (cc := cX7_levels) (nL := 3) (own := RX7) (by decide) rfl rfl rfl (Nat.le_of_ble_eq_true rfl) (fun F C K => ?_)
  refine tt_to (lv1 := [(0, .ref (eA E 6 0)), (1, .int b), (2, .int v)]) rfl rfl rfl rfl ?_
  refine tt_aload_n C dX7_levels_0 rfl 0 rfl ?_
  refine tt_cVV C (c_X7_save E u r h) gX7_levels_X7_save rfl ⟨rfl, rfl⟩ 0 (by decide +kernel) ⟨Nat.le_of_ble_eq_true rfl, Nat.le_of_ble_eq_true rfl⟩ rfl oM0 rfl (Nat.le_of_ble_eq_true rfl) dX7_levels_1 rfl ?_
  generalize e_2 : M_bring h 1 0 2 0 = h_1
  subst e_2
  refine tt_aload_n C dX7_levels_4 rfl 0 rfl ?_
  refine tt_aload_n C dX7_levels_5 rfl 0 rfl ?_
  refine tt_iload_n C dX7_levels_6 rfl 1 rfl ?_
  refine tt_cVI C (c_X7_isBadge E u r (M_bring h 1 0 2 0) b) gX7_levels_X7_isBadge rfl ⟨rfl, rfl⟩ 1 (by decide +kernel) ⟨Nat.le_of_ble_eq_true rfl, Nat.le_of_ble_eq_true rfl⟩ rfl oM0 rfl (Nat.le_of_ble_eq_true rfl) dX7_levels_7 rfl ?_
  refine tt_if_eqB C (tgt := 36) dX7_levels_10 (by decide) (fun c_3 => ?_) (fun c_3 => ?_)
  · skip
    refine tt_bipush (v := (-2 : Int32)) C dX7_levels_36 (by decide) ?_
    refine tt_cVI C (c_X7_finish_R E u r (M_bring h 1 0 2 0) (-2 : Int32) ⟨0, by decide, by decide⟩ (by decide)) gX7_levels_X7_finish rfl ⟨rfl, rfl⟩ 1 (by decide +kernel) ⟨Nat.le_of_ble_eq_true rfl, Nat.le_of_ble_eq_true rfl⟩ rfl oM0 rfl (Nat.le_of_ble_eq_true rfl) dX7_levels_38 rfl ?_
    generalize e_5 : M_ref (M_bring h 1 0 2 0) (-2 : Int32) = h_4
    exact tt_iret K dX7_levels_41 (by subst e_5; rfl) (by subst e_5; rfl) rfl
  · skip
    refine tt_iload_n C dX7_levels_13 rfl 2 rfl ?_
    refine tt_cSI C (c_X7_isLevel E (ub u 6 (M_bring h 1 0 2 0)) r v) gX7_levels_X7_isLevel rfl ⟨rfl, rfl⟩ 1 (by decide +kernel) ⟨Nat.le_of_ble_eq_true rfl, Nat.le_of_ble_eq_true rfl⟩ rfl (Nat.le_of_ble_eq_true rfl) dX7_levels_14 rfl ?_
    refine tt_if_eqB C (tgt := 36) dX7_levels_17 (by decide) (fun c_6 => ?_) (fun c_6 => ?_)
    · skip
      refine tt_bipush (v := (-2 : Int32)) C dX7_levels_36 (by decide) ?_
      refine tt_cVI C (c_X7_finish_R E u r (M_bring h 1 0 2 0) (-2 : Int32) ⟨0, by decide, by decide⟩ (by decide)) gX7_levels_X7_finish rfl ⟨rfl, rfl⟩ 1 (by decide +kernel) ⟨Nat.le_of_ble_eq_true rfl, Nat.le_of_ble_eq_true rfl⟩ rfl oM0 rfl (Nat.le_of_ble_eq_true rfl) dX7_levels_38 rfl ?_
      generalize e_8 : M_ref (M_bring h 1 0 2 0) (-2 : Int32) = h_7
      exact tt_iret K dX7_levels_41 (by subst e_8; rfl) (by subst e_8; rfl) rfl
    · skip
      exact absurd ⟨(by assumption), c_6⟩ hc

set_option maxHeartbeats 4000000 in
set_option maxRecDepth 100000 in
theorem c_X7_levels_O (E : EN) (u : U3) (r : R1) (h : HB) (b : Nat) (v : Int32) (hB : vI ((M_bring h 1 0 2 0) 1 530) 9) (hbm : b < ix ((M_bring h 1 0 2 0) 1 530)) (hv : ¬ v < nI 0 ∧ ¬ nI 3 < v) (hs9 : vI ((up2 (M_bring h 1 0 2 0) 1 (480 + 6 * b) v) 0 0) 5) (hr9 : ¬ (¬ (-2 : Int32) < (M_bring h 1 0 2 0) 1 (480 + 6 * b) ∧ ¬ (M_bring h 1 0 2 0) 1 (480 + 6 * b) < (-4 : Int32))) : CT E yX7_levels wsX7_levels (rmT 2 46) [.ref (eA E 6 0), .int (nI b), .int v] (ub u 6 h) r (some (.int ((M_bring h 1 0 2 0) 1 (480 + 6 * b)))) (ub u 6 (M_push (up2 (M_bring h 1 0 2 0) 1 (480 + 6 * b) v))) r := by
  refine CT_ofI (cc := cX7_levels) (nL := 3) (own := RX7) (by decide) rfl rfl rfl (Nat.le_of_ble_eq_true rfl) (fun F C K => ?_)
  refine tt_to (lv1 := [(0, .ref (eA E 6 0)), (1, .int (nI b)), (2, .int v)]) rfl rfl rfl rfl ?_
  have hB' := ix_lt hB (by decide)
  have hb : b < 8 := by omega
  refine tt_aload_n C dX7_levels_0 rfl 0 rfl ?_
  refine tt_cVV C (c_X7_save E u r h) gX7_levels_X7_save rfl ⟨rfl, rfl⟩ 0 (by decide +kernel) ⟨Nat.le_of_ble_eq_true rfl, Nat.le_of_ble_eq_true rfl⟩ rfl oM0 rfl (Nat.le_of_ble_eq_true rfl) dX7_levels_1 rfl ?_
  generalize e_2 : M_bring h 1 0 2 0 = h_1
  subst e_2
  refine tt_aload_n C dX7_levels_4 rfl 0 rfl ?_
  refine tt_aload_n C dX7_levels_5 rfl 0 rfl ?_
  refine tt_iload_n C dX7_levels_6 rfl 1 rfl ?_
  refine tt_cVI C (c_X7_isBadge E u r (M_bring h 1 0 2 0) (nI b)) gX7_levels_X7_isBadge rfl ⟨rfl, rfl⟩ 1 (by decide +kernel) ⟨Nat.le_of_ble_eq_true rfl, Nat.le_of_ble_eq_true rfl⟩ rfl oM0 rfl (Nat.le_of_ble_eq_true rfl) dX7_levels_7 rfl ?_
  refine tt_if_eqB C (tgt := 36) dX7_levels_10 (by decide) (fun c_3 => ?_) (fun c_3 => ?_)
  · skip
    exact absurd (in_ok hB (by decide) hbm) c_3
  · skip
    refine tt_iload_n C dX7_levels_13 rfl 2 rfl ?_
    refine tt_cSI C (c_X7_isLevel E (ub u 6 (M_bring h 1 0 2 0)) r v) gX7_levels_X7_isLevel rfl ⟨rfl, rfl⟩ 1 (by decide +kernel) ⟨Nat.le_of_ble_eq_true rfl, Nat.le_of_ble_eq_true rfl⟩ rfl (Nat.le_of_ble_eq_true rfl) dX7_levels_14 rfl ?_
    refine tt_if_eqB C (tgt := 36) dX7_levels_17 (by decide) (fun c_4 => ?_) (fun c_4 => ?_)
    · skip
      exact absurd hv c_4
    · skip
      refine tt_aload_n C dX7_levels_20 rfl 0 rfl ?_
      refine tt_sipush (v := nI 480) C dX7_levels_21 (by decide) ?_
      refine tt_bipush (v := nI 6) C dX7_levels_24 (by decide) ?_
      refine tt_iload_n C dX7_levels_26 rfl 1 rfl ?_
      refine tt_imul (v := nI (6 * b)) C dX7_levels_27 (pk_mul _ _) ?_
      refine tt_iadd (v := nI (480 + (6 * b))) C dX7_levels_28 (nI_add _ _) ?_
      refine tt_iload_n C dX7_levels_29 rfl 2 rfl ?_
      refine tt_cVI C (c_X7_change E u r (M_bring h 1 0 2 0) (480 + (6 * b)) v (by first | assumption | omega)) gX7_levels_X7_change rfl ⟨rfl, rfl⟩ 2 (by decide +kernel) ⟨Nat.le_of_ble_eq_true rfl, Nat.le_of_ble_eq_true rfl⟩ rfl oM0 rfl (Nat.le_of_ble_eq_true rfl) dX7_levels_30 rfl ?_
      generalize e_6 : up2 (M_bring h 1 0 2 0) 1 (480 + (6 * b)) v = h_5
      refine tt_goto (tgt := 38) C dX7_levels_33 (by decide) ?_
      refine tt_cVI C (c_X7_finish_O E u r h_5 ((M_bring h 1 0 2 0) 1 (480 + (6 * b))) hr9 (by rw [← e_6]; exact hs9)) gX7_levels_X7_finish rfl ⟨rfl, rfl⟩ 1 (by decide +kernel) ⟨Nat.le_of_ble_eq_true rfl, Nat.le_of_ble_eq_true rfl⟩ rfl oM0 rfl (Nat.le_of_ble_eq_true rfl) dX7_levels_38 rfl ?_
      generalize e_8 : M_push h_5 = h_7
      exact tt_iret K dX7_levels_41 (by subst e_8; subst e_6; rfl) (by subst e_8; subst e_6; rfl) rfl
