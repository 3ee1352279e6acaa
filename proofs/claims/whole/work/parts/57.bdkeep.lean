theorem ub_id9 (u : U3) (i : Nat) : ub u i (u i) = u := by
  funext a k j
  by_cases e : a = i
  · subst e; rw [ub_v]
  · exact congrFun (congrFun (ub_ne e) k) j
theorem ub_comm5 (u : U3) {i : Nat} (h k : HB) (hi : i ≠ 5) : ub (ub u 5 h) i k = ub (ub u i k) 5 h := by
  funext a
  by_cases e : a = i
  · subst e; rw [ub_at, ub_ne hi, ub_at]
  · by_cases e5 : a = 5
    · subst e5; rw [ub_ne e, ub_at, ub_at]
    · rw [ub_ne e, ub_ne e5, ub_ne e5, ub_ne e]
theorem c_X2_copyFrom_U (E : EN) (u : U3) (r : R1) (h : HB) (i i2 : Nat) (hi : i < 5) (hi2 : i2 < 5) (hne : i2 ≠ i) (hG1 : vI (u i2 1 0) 9) (hG2 : vI (u i2 18 0) 9) (hG3 : vI (u i2 25 0) 65) : CT E yX2_copyFrom wsX2_copyFrom (rmT 3 63) [.ref (eA E i 0), .ref (eA E i2 0)] (ub u 5 h) r none (ub (ub u i (H_copy (u i) (u i2))) 5 h) r := by
  have h1 := c_X2_copyFrom E (ub u 5 h) r (u i) (u i2) i i2 hi hi2 hne hG1 hG2 hG3
  have e2 : ub (ub u 5 h) i2 (u i2) = ub u 5 h := by rw [ub_comm5 _ _ _ (by omega), ub_id9]
  rw [e2, ub_comm5 _ _ _ (by omega), ub_comm5 _ _ _ (by omega), ub_id9] at h1
  exact h1
def kU (u : U3) (r : R1) (s : Nat) : U3 := ub u (r (s + 1)) (H_copy (u (r (s + 1))) (u (r 0)))

set_option maxHeartbeats 4000000 in
set_option maxRecDepth 100000 in
theorem c_X6_keepState_O (E : EN) (u : U3) (r : R1) (h : HB) (s : Nat) (hr : ∀ j, j < 5 → r j < 5) (hrn : ∀ j, j < 4 → r 0 ≠ r (j + 1)) (hG1 : vI (u (r 0) 1 0) 9) (hG2 : vI (u (r 0) 18 0) 9) (hG3 : vI (u (r 0) 25 0) 65) (f0 : h 0 0 = nI s) (hs : s < 4) : CT E yX6_keepState wsX6_keepState (rmT 4 84) [.ref (eA E 5 0)] (ub u 5 h) r none (ub (kU u r s) 5 (up2 h 0 0 (nI (s + 1)))) r := by
  refine CT_ofV (cc := cX6_keepState) (nL := 1) (own := RX6) (by decide) rfl rfl (Nat.le_of_ble_eq_true rfl) (fun F C K => ?_)
  have hin6 : ∀ w ∈ u_ws RX6 TX6 8, w ∈ wsX6_keepState := by decide +kernel
  refine tt_to (lv1 := [(0, .ref (eA E 5 0))]) rfl rfl rfl rfl ?_
  refine tt_aload_n C dX6_keepState_0 rfl 0 rfl ?_
  refine tt_getI (v := nI s) C oT0 rfl hin6 2 (by decide) (List.mem_of_getElem? (i := 1) (by decide +kernel)) rfl (ub_v.trans f0) dX6_keepState_1 ?_
  refine tt_iconst (v := nI 4) C dX6_keepState_4 (by decide) ?_
  refine tt_icmp_lt C (tgt := 12) dX6_keepState_5 (by decide) (nI_ltI (by omega) (by omega)) (fun c_1 => ?_) (fun c_1 => ?_)
  · skip
    refine tt_aload_n C dX6_keepState_12 rfl 0 rfl ?_
    refine tt_get (v := .ref (eA E 5 1)) C oT0 rfl hin6 1 (by decide) (List.mem_of_getElem? (i := 2) (by decide +kernel)) rfl dX6_keepState_13 ?_
    refine tt_aload_n C dX6_keepState_16 rfl 0 rfl ?_
    refine tt_getI (v := nI s) C oT0 rfl hin6 2 (by decide) (List.mem_of_getElem? (i := 1) (by decide +kernel)) rfl (ub_v.trans f0) dX6_keepState_17 ?_
    refine tt_aaldK C s rfl (by omega) dX6_keepState_20 ?_
    refine tt_aload_n C dX6_keepState_21 rfl 0 rfl ?_
    refine tt_get (v := .ref (eA E (r 0) 0)) C oT0 rfl hin6 0 (by decide) (List.mem_of_getElem? (i := 3) (by decide +kernel)) rfl dX6_keepState_22 ?_
    refine tt_cVV C (c_X2_copyFrom_U E u r h (r (s + 1)) (r 0) (hr _ (by omega)) (hr 0 (by decide)) (hrn _ (by omega)) hG1 hG2 hG3) gX6_keepState_X2_copyFrom rfl ⟨rfl, rfl⟩ 1 (by decide +kernel) ⟨Nat.le_of_ble_eq_true rfl, Nat.le_of_ble_eq_true rfl⟩ rfl (oH0 (by first | exact hr _ (by omega) | exact hr _ (by decide) | (simp [upr]; exact hr _ (by decide)))) rfl (Nat.le_of_ble_eq_true rfl) dX6_keepState_25 rfl ?_
    refine tt_aload_n C dX6_keepState_28 rfl 0 rfl ?_
    refine tt_dup C dX6_keepState_29 rfl ?_
    refine tt_getI (v := nI s) C oT0 rfl hin6 2 (by decide) (List.mem_of_getElem? (i := 1) (by decide +kernel)) rfl (ub_v.trans f0) dX6_keepState_30 ?_
    refine tt_iconst (v := nI 1) C dX6_keepState_33 (by decide) ?_
    refine tt_iadd (v := nI (s + 1)) C dX6_keepState_34 (nI_add _ _) ?_
    refine tt_putIB C fT0_0 rfl hin6 tyX6 tyX6_ok nmX6 (by decide) (List.mem_of_getElem? (i := 1) (by decide +kernel)) (by decide +kernel) (by decide +kernel) dX6_keepState_35 ?_
    generalize e_3 : up2 h 0 0 (nI (s + 1)) = h_2
    exact tt_vret K dX6_keepState_38 (by subst e_3; rfl) rfl
  · skip
    exact absurd hs c_1

set_option maxHeartbeats 4000000 in
set_option maxRecDepth 100000 in
theorem c_X6_keepState_F (E : EN) (u : U3) (r : R1) (h : HB)  (hr : ∀ j, j < 5 → r j < 5) (hrn : ∀ j, j < 4 → r 0 ≠ r (j + 1)) (hG1 : vI (u (r 0) 1 0) 9) (hG2 : vI (u (r 0) 18 0) 9) (hG3 : vI (u (r 0) 25 0) 65) (f0 : h 0 0 = nI 4) : CT E yX6_keepState wsX6_keepState (rmT 4 84) [.ref (eA E 5 0)] (ub u 5 h) r none (ub (kU u (kR r) 3) 5 (up2 (up2 h 0 0 (nI 3)) 0 0 (nI 4))) (kR r) := by
  refine CT_ofV (cc := cX6_keepState) (nL := 1) (own := RX6) (by decide) rfl rfl (Nat.le_of_ble_eq_true rfl) (fun F C K => ?_)
  have hin6 : ∀ w ∈ u_ws RX6 TX6 8, w ∈ wsX6_keepState := by decide +kernel
  refine tt_to (lv1 := [(0, .ref (eA E 5 0))]) rfl rfl rfl rfl ?_
  refine tt_aload_n C dX6_keepState_0 rfl 0 rfl ?_
  refine tt_getI (v := nI 4) C oT0 rfl hin6 2 (by decide) (List.mem_of_getElem? (i := 1) (by decide +kernel)) rfl (ub_v.trans f0) dX6_keepState_1 ?_
  refine tt_iconst (v := nI 4) C dX6_keepState_4 (by decide) ?_
  refine tt_icmp_lt C (tgt := 12) dX6_keepState_5 (by decide) (nI_ltI (by omega) (by omega)) (fun c_1 => ?_) (fun c_1 => ?_)
  · skip
    exact absurd c_1 (by decide)
  · skip
    refine tt_aload_n C dX6_keepState_8 rfl 0 rfl ?_
    refine tt_cVV C (c_X6_loseOldestState E u r h hr) gX6_keepState_X6_loseOldestState rfl ⟨rfl, rfl⟩ 0 (by decide +kernel) ⟨Nat.le_of_ble_eq_true rfl, Nat.le_of_ble_eq_true rfl⟩ rfl oT0 rfl (Nat.le_of_ble_eq_true rfl) dX6_keepState_9 rfl ?_
    generalize e_3 : up2 h 0 0 (nI 3) = h_2
    refine tt_aload_n C dX6_keepState_12 rfl 0 rfl ?_
    refine tt_get (v := .ref (eA E 5 1)) C oT0 rfl hin6 1 (by decide) (List.mem_of_getElem? (i := 2) (by decide +kernel)) rfl dX6_keepState_13 ?_
    refine tt_aload_n C dX6_keepState_16 rfl 0 rfl ?_
    refine tt_getI (v := nI 3) C oT0 rfl hin6 2 (by decide) (List.mem_of_getElem? (i := 1) (by decide +kernel)) rfl (ub_v.trans (by rw [← e_3]; exact up2_s _ _ _ _)) dX6_keepState_17 ?_
    refine tt_aaldK C 3 rfl (by omega) dX6_keepState_20 ?_
    refine tt_aload_n C dX6_keepState_21 rfl 0 rfl ?_
    refine tt_get (v := .ref (eA E (r 0) 0)) C oT0 rfl hin6 0 (by decide) (List.mem_of_getElem? (i := 3) (by decide +kernel)) rfl dX6_keepState_22 ?_
    refine tt_cVV C (c_X2_copyFrom_U E u (kR r) h_2 ((kR r) (3 + 1)) (r 0) (hr 1 (by decide)) (hr 0 (by decide)) (hrn 0 (by decide)) hG1 hG2 hG3) gX6_keepState_X2_copyFrom rfl ⟨rfl, rfl⟩ 1 (by decide +kernel) ⟨Nat.le_of_ble_eq_true rfl, Nat.le_of_ble_eq_true rfl⟩ rfl (oH0 (by first | exact hr _ (by omega) | exact hr _ (by decide) | (simp [upr]; exact hr _ (by decide)))) rfl (Nat.le_of_ble_eq_true rfl) dX6_keepState_25 rfl ?_
    refine tt_aload_n C dX6_keepState_28 rfl 0 rfl ?_
    refine tt_dup C dX6_keepState_29 rfl ?_
    refine tt_getI (v := nI 3) C oT0 rfl hin6 2 (by decide) (List.mem_of_getElem? (i := 1) (by decide +kernel)) rfl (ub_v.trans (by rw [← e_3]; exact up2_s _ _ _ _)) dX6_keepState_30 ?_
    refine tt_iconst (v := nI 1) C dX6_keepState_33 (by decide) ?_
    refine tt_iadd (v := nI (3 + 1)) C dX6_keepState_34 (nI_add _ _) ?_
    refine tt_putIB C fT0_0 rfl hin6 tyX6 tyX6_ok nmX6 (by decide) (List.mem_of_getElem? (i := 1) (by decide +kernel)) (by decide +kernel) (by decide +kernel) dX6_keepState_35 ?_
    generalize e_5 : up2 h_2 0 0 (nI (3 + 1)) = h_4
    exact tt_vret K dX6_keepState_38 (by subst e_5; subst e_3; rfl) rfl
