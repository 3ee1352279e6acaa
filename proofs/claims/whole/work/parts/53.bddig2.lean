abbrev hdg2 (g : HB) (x : Int64) : Int64 := dgD (H_twf g) 3 (dgM (H_cnt g) x 12) (ix (g 25 0))
def H_dig (h g : HB) : Int64 := hdg2 g (dgD (H_bw g) 6 (dgD (H_df g) 11 (dgM (H_told h g) 2437 7) (ix (g 1 0))) (ix (g 18 0)))

set_option maxHeartbeats 4000000 in
set_option maxRecDepth 100000 in
theorem l_hd2 (E : EN) (u : U3) (r : R1) (h : HB) (g : HB) (x : Int64) (hi : r 0 < 5) (hi5 : r 0 ≠ 5) (hD : vI (g 1 0) 9) (hB : vI (g 18 0) 9) (hm : vI (g 25 0) 65) (ho : ∀ a, a < ix (g 25 0) → vI (g 26 a) 64) (F : FX) (C : Cx E F cX6_digest 4 RX6 wsX6_digest (rmT 3 69)) (K : RtL E F cX6_digest (hdg2 g x) (ub (ub u (r 0) g) 5 h) r) : ∀ (n j : Nat), j ≤ 12 → 12 + 1 ≤ j + n → T E F 4 (ub (ub u (r 0) g) 5 h) r 42 [(0, .ref (eA E 5 0)), (1, .long (dgM (H_cnt g) x j)), (3, .int (nI j))] [] := by
  have hin6 : ∀ w ∈ u_ws RX6 TX6 8, w ∈ wsX6_digest := by decide +kernel
  intro n
  induction n with
  | zero => intro j h1 h2; exact absurd h2 (by omega)
  | succ n ih =>
    intro j h1 h2
    refine tt_iload_n C dX6_digest_42 rfl 2 rfl ?_
    refine tt_bipush (v := nI 12) C dX6_digest_43 (by decide) ?_
    refine tt_icmp_ge C (tgt := 67) dX6_digest_45 (by decide) (nI_leI (by omega) (by omega)) (fun c_101 => ?_) (fun c_101 => ?_)
    · skip
      have hje : j = 12 := (by omega); subst hje
      refine tt_aload_n C dX6_digest_67 rfl 0 rfl ?_
      refine tt_lload_n C dX6_digest_68 rfl 1 rfl ?_
      refine tt_cVL C (c_X6_mixTwos E u r h g (dgM (H_cnt g) x 12) hi hi5 hm ho) gX6_digest_X6_mixTwos rfl ⟨rfl, rfl⟩ 1 (by decide +kernel) ⟨Nat.le_of_ble_eq_true rfl, Nat.le_of_ble_eq_true rfl⟩ rfl oT0 rfl (Nat.le_of_ble_eq_true rfl) dX6_digest_69 rfl ?_
      exact tt_lret K dX6_digest_72 (by rfl) (by rfl) rfl
    · skip
      refine tt_lload_n C dX6_digest_48 rfl 1 rfl ?_
      refine tt_aload_n C dX6_digest_49 rfl 0 rfl ?_
      refine tt_get (v := .ref (eA E (r 0) 0)) C oT0 rfl hin6 0 (by decide) (List.mem_of_getElem? (i := 2) (by decide +kernel)) rfl dX6_digest_50 ?_
      refine tt_iload_n C dX6_digest_53 rfl 2 rfl ?_
      refine tt_cVI C (CT_comm hi5 (c_X2_counted E (ub u 5 h) r g (r 0) j hi (by first | assumption | omega))) gX6_digest_X2_counted rfl ⟨rfl, rfl⟩ 1 (by decide +kernel) ⟨Nat.le_of_ble_eq_true rfl, Nat.le_of_ble_eq_true rfl⟩ rfl (oH0 hi) rfl (Nat.le_of_ble_eq_true rfl) dX6_digest_54 rfl ?_
      refine tt_cSL C (c_X6_mix E (ub (ub u (r 0) g) 5 h) r (dgM (H_cnt g) x j) (H_cnt g j)) gX6_digest_X6_mix rfl ⟨rfl, rfl⟩ 2 (by decide +kernel) ⟨Nat.le_of_ble_eq_true rfl, Nat.le_of_ble_eq_true rfl⟩ rfl (Nat.le_of_ble_eq_true rfl) dX6_digest_57 rfl ?_
      refine tt_lstore_n (lv' := [(0, .ref (eA E 5 0)), (1, .long (31 * (dgM (H_cnt g) x j) + (H_cnt g j).toInt64)), (3, .int (nI j))]) C dX6_digest_60 rfl (by decide) [1, 0, 2] rfl ?_
      refine tt_iinc (p := 2) (v := nI (j + 1)) (lv' := [(0, .ref (eA E 5 0)), (1, .long (31 * (dgM (H_cnt g) x j) + (H_cnt g j).toInt64)), (3, .int (nI (j + 1)))]) C dX6_digest_61 rfl (by rw [show Int32.ofInt 1 = nI 1 from by decide]; exact nI_add _ _) (by decide) [1, 2, 0] rfl ?_
      refine tt_goto (tgt := 42) C dX6_digest_64 (by decide) ?_
      exact ih (j + 1) (by omega) (by omega)

set_option maxHeartbeats 4000000 in
set_option maxRecDepth 100000 in
theorem l_hd1 (E : EN) (u : U3) (r : R1) (h : HB) (g : HB)  (hi : r 0 < 5) (hi5 : r 0 ≠ 5) (hD : vI (g 1 0) 9) (hB : vI (g 18 0) 9) (hm : vI (g 25 0) 65) (ho : ∀ a, a < ix (g 25 0) → vI (g 26 a) 64) (F : FX) (C : Cx E F cX6_digest 4 RX6 wsX6_digest (rmT 3 69)) (K : RtL E F cX6_digest (H_dig h g) (ub (ub u (r 0) g) 5 h) r) : ∀ (n j : Nat), j ≤ 7 → 7 + 1 ≤ j + n → T E F 4 (ub (ub u (r 0) g) 5 h) r 6 [(0, .ref (eA E 5 0)), (1, .long (dgM (H_told h g) 2437 j)), (3, .int (nI j))] [] := by
  intro n
  induction n with
  | zero => intro j h1 h2; exact absurd h2 (by omega)
  | succ n ih =>
    intro j h1 h2
    refine tt_iload_n C dX6_digest_6 rfl 2 rfl ?_
    refine tt_bipush (v := nI 7) C dX6_digest_7 (by decide) ?_
    refine tt_icmp_ge C (tgt := 28) dX6_digest_9 (by decide) (nI_leI (by omega) (by omega)) (fun c_101 => ?_) (fun c_101 => ?_)
    · skip
      have hje : j = 7 := (by omega); subst hje
      refine tt_aload_n C dX6_digest_28 rfl 0 rfl ?_
      refine tt_lload_n C dX6_digest_29 rfl 1 rfl ?_
      refine tt_cVL C (c_X6_mixDoors E u r h g (dgM (H_told h g) 2437 7) hi hi5 hD) gX6_digest_X6_mixDoors rfl ⟨rfl, rfl⟩ 1 (by decide +kernel) ⟨Nat.le_of_ble_eq_true rfl, Nat.le_of_ble_eq_true rfl⟩ rfl oT0 rfl (Nat.le_of_ble_eq_true rfl) dX6_digest_30 rfl ?_
      refine tt_lstore_n (lv' := [(0, .ref (eA E 5 0)), (1, .long (dgD (H_df g) 11 (dgM (H_told h g) 2437 7) (ix (g 1 0)))), (3, .int (nI 7))]) C dX6_digest_33 rfl (by decide) [1, 0, 2] rfl ?_
      refine tt_aload_n C dX6_digest_34 rfl 0 rfl ?_
      refine tt_lload_n C dX6_digest_35 rfl 1 rfl ?_
      refine tt_cVL C (c_X6_mixBadges E u r h g (dgD (H_df g) 11 (dgM (H_told h g) 2437 7) (ix (g 1 0))) hi hi5 hB) gX6_digest_X6_mixBadges rfl ⟨rfl, rfl⟩ 1 (by decide +kernel) ⟨Nat.le_of_ble_eq_true rfl, Nat.le_of_ble_eq_true rfl⟩ rfl oT0 rfl (Nat.le_of_ble_eq_true rfl) dX6_digest_36 rfl ?_
      refine tt_lstore_n (lv' := [(0, .ref (eA E 5 0)), (1, .long (dgD (H_bw g) 6 (dgD (H_df g) 11 (dgM (H_told h g) 2437 7) (ix (g 1 0))) (ix (g 18 0)))), (3, .int (nI 7))]) C dX6_digest_39 rfl (by decide) [1, 0, 2] rfl ?_
      refine tt_iconst (v := nI 0) C dX6_digest_40 (by decide) ?_
      refine tt_istore_n (lv' := [(0, .ref (eA E 5 0)), (1, .long (dgD (H_bw g) 6 (dgD (H_df g) 11 (dgM (H_told h g) 2437 7) (ix (g 1 0))) (ix (g 18 0)))), (3, .int (nI 0))]) C dX6_digest_41 rfl (by decide) [1, 2, 0] rfl ?_
      exact l_hd2 E u r h g _ hi hi5 hD hB hm ho F C K 13 0 (by omega) (by omega)
    · skip
      refine tt_lload_n C dX6_digest_12 rfl 1 rfl ?_
      refine tt_aload_n C dX6_digest_13 rfl 0 rfl ?_
      refine tt_iload_n C dX6_digest_14 rfl 2 rfl ?_
      refine tt_cVI C (c_X6_toldOf E u r h g j hi hi5 (by first | assumption | omega)) gX6_digest_X6_toldOf rfl ⟨rfl, rfl⟩ 1 (by decide +kernel) ⟨Nat.le_of_ble_eq_true rfl, Nat.le_of_ble_eq_true rfl⟩ rfl oT0 rfl (Nat.le_of_ble_eq_true rfl) dX6_digest_15 rfl ?_
      refine tt_cSL C (c_X6_mix E (ub (ub u (r 0) g) 5 h) r (dgM (H_told h g) 2437 j) (H_told h g j)) gX6_digest_X6_mix rfl ⟨rfl, rfl⟩ 2 (by decide +kernel) ⟨Nat.le_of_ble_eq_true rfl, Nat.le_of_ble_eq_true rfl⟩ rfl (Nat.le_of_ble_eq_true rfl) dX6_digest_18 rfl ?_
      refine tt_lstore_n (lv' := [(0, .ref (eA E 5 0)), (1, .long (31 * (dgM (H_told h g) 2437 j) + (H_told h g j).toInt64)), (3, .int (nI j))]) C dX6_digest_21 rfl (by decide) [1, 0, 2] rfl ?_
      refine tt_iinc (p := 2) (v := nI (j + 1)) (lv' := [(0, .ref (eA E 5 0)), (1, .long (31 * (dgM (H_told h g) 2437 j) + (H_told h g j).toInt64)), (3, .int (nI (j + 1)))]) C dX6_digest_22 rfl (by rw [show Int32.ofInt 1 = nI 1 from by decide]; exact nI_add _ _) (by decide) [1, 2, 0] rfl ?_
      refine tt_goto (tgt := 6) C dX6_digest_25 (by decide) ?_
      exact ih (j + 1) (by omega) (by omega)

set_option maxHeartbeats 4000000 in
set_option maxRecDepth 100000 in
theorem c_X6_digest (E : EN) (u : U3) (r : R1) (h : HB) (g : HB)  (hi : r 0 < 5) (hi5 : r 0 ≠ 5) (hD : vI (g 1 0) 9) (hB : vI (g 18 0) 9) (hm : vI (g 25 0) 65) (ho : ∀ a, a < ix (g 25 0) → vI (g 26 a) 64) : CT E yX6_digest wsX6_digest (rmT 3 69) [.ref (eA E 5 0)] (ub (ub u (r 0) g) 5 h) r (some (.long (H_dig h g))) (ub (ub u (r 0) g) 5 h) r := by
  refine CT_ofL (cc := cX6_digest) (nL := 4) (own := RX6) (by decide) rfl rfl (Nat.le_of_ble_eq_true rfl) (fun F C K => ?_)
  refine tt_to (lv1 := [(0, .ref (eA E 5 0))]) rfl rfl rfl rfl ?_
  refine tt_ldc2 (v := 2437) C (List.mem_of_getElem? (i := 1) (by decide +kernel)) dX6_digest_0 ?_
  refine tt_lstore_n (lv' := [(0, .ref (eA E 5 0)), (1, .long (2437 : Int64))]) C dX6_digest_3 rfl (by decide) [1, 0] rfl ?_
  refine tt_iconst (v := nI 0) C dX6_digest_4 (by decide) ?_
  refine tt_istore_n (lv' := [(0, .ref (eA E 5 0)), (1, .long (2437 : Int64)), (3, .int (nI 0))]) C dX6_digest_5 rfl (by decide) [1, 2, 0] rfl ?_
  exact l_hd1 E u r h g hi hi5 hD hB hm ho F C K 8 0 (by omega) (by omega)
