set_option maxHeartbeats 4000000 in
set_option maxRecDepth 100000 in
theorem c_X6_way_B (E : EN) (u : U3) (r : R1) (h : HB) (g : HB) (b : Int32) (a : Int32) (c : Int32) (i : Int32) (hi : r 0 < 5) (hi5 : r 0 ≠ 5) (hc : ¬ ((¬ b < 0 ∧ ¬ g 18 0 ≤ b) ∧ (¬ a < 0 ∧ ¬ nI 6 ≤ a) ∧ (¬ c < 0 ∧ ¬ nI 6 ≤ c) ∧ ¬ a = c ∧ (-1 : Int32) ≤ i)) : CT E yX6_way wsX6_way (rmT 5 117) [.ref (eA E 5 0), .int b, .int a, .int c, .int i] (ub (ub u (r 0) g) 5 h) r (some (.int (-2))) (ub (ub u (r 0) g) 5 (H_ref h (-2))) r := by
  refine CT_ofI (cc := cX6_way) (nL := 5) (own := RX6) (by decide) rfl rfl rfl (Nat.le_of_ble_eq_true rfl) (fun F C K => ?_)
  have hin6 : ∀ w ∈ u_ws RX6 TX6 8, w ∈ wsX6_way := by decide +kernel
  refine tt_to (lv1 := [(0, .ref (eA E 5 0)), (1, .int b), (2, .int a), (3, .int c), (4, .int i)]) rfl rfl rfl rfl ?_
  refine tt_aload_n C dX6_way_0 rfl 0 rfl ?_
  refine tt_get (v := .ref (eA E (r 0) 0)) C oT0 rfl hin6 0 (by decide) (List.mem_of_getElem? (i := 1) (by decide +kernel)) rfl dX6_way_1 ?_
  refine tt_iload_n C dX6_way_4 rfl 1 rfl ?_
  refine tt_cVI C (CT_comm hi5 (c_X2_hasBadge E (ub u 5 h) r g (r 0) b hi)) gX6_way_X2_hasBadge rfl ⟨rfl, rfl⟩ 1 (by decide +kernel) ⟨Nat.le_of_ble_eq_true rfl, Nat.le_of_ble_eq_true rfl⟩ rfl (oH0 hi) rfl (Nat.le_of_ble_eq_true rfl) dX6_way_5 rfl ?_
  refine tt_if_eqB C (tgt := 36) dX6_way_8 (by decide) (fun c_1 => ?_) (fun c_1 => ?_)
  · skip
    refine tt_aload_n C dX6_way_36 rfl 0 rfl ?_
    refine tt_bipush (v := (-2 : Int32)) C dX6_way_37 (by decide) ?_
    refine tt_cVI C (c_X6_refuse E (ub u (r 0) g) r h (-2 : Int32) (by decide)) gX6_way_X6_refuse rfl ⟨rfl, rfl⟩ 1 (by decide +kernel) ⟨Nat.le_of_ble_eq_true rfl, Nat.le_of_ble_eq_true rfl⟩ rfl oT0 rfl (Nat.le_of_ble_eq_true rfl) dX6_way_39 rfl ?_
    generalize e_3 : H_ref h (-2 : Int32) = h_2
    exact tt_iret K dX6_way_42 (by subst e_3; rfl) (by subst e_3; rfl) rfl
  · skip
    refine tt_iload_n C dX6_way_11 rfl 2 rfl ?_
    refine tt_cSI C (c_X6_isArea E (ub (ub u (r 0) g) 5 h) r a) gX6_way_X6_isArea rfl ⟨rfl, rfl⟩ 1 (by decide +kernel) ⟨Nat.le_of_ble_eq_true rfl, Nat.le_of_ble_eq_true rfl⟩ rfl (Nat.le_of_ble_eq_true rfl) dX6_way_12 rfl ?_
    refine tt_if_eqB C (tgt := 36) dX6_way_15 (by decide) (fun c_4 => ?_) (fun c_4 => ?_)
    · skip
      refine tt_aload_n C dX6_way_36 rfl 0 rfl ?_
      refine tt_bipush (v := (-2 : Int32)) C dX6_way_37 (by decide) ?_
      refine tt_cVI C (c_X6_refuse E (ub u (r 0) g) r h (-2 : Int32) (by decide)) gX6_way_X6_refuse rfl ⟨rfl, rfl⟩ 1 (by decide +kernel) ⟨Nat.le_of_ble_eq_true rfl, Nat.le_of_ble_eq_true rfl⟩ rfl oT0 rfl (Nat.le_of_ble_eq_true rfl) dX6_way_39 rfl ?_
      generalize e_6 : H_ref h (-2 : Int32) = h_5
      exact tt_iret K dX6_way_42 (by subst e_6; rfl) (by subst e_6; rfl) rfl
    · skip
      refine tt_iload_n C dX6_way_18 rfl 3 rfl ?_
      refine tt_cSI C (c_X6_isArea E (ub (ub u (r 0) g) 5 h) r c) gX6_way_X6_isArea rfl ⟨rfl, rfl⟩ 1 (by decide +kernel) ⟨Nat.le_of_ble_eq_true rfl, Nat.le_of_ble_eq_true rfl⟩ rfl (Nat.le_of_ble_eq_true rfl) dX6_way_19 rfl ?_
      refine tt_if_eqB C (tgt := 36) dX6_way_22 (by decide) (fun c_7 => ?_) (fun c_7 => ?_)
      · skip
        refine tt_aload_n C dX6_way_36 rfl 0 rfl ?_
        refine tt_bipush (v := (-2 : Int32)) C dX6_way_37 (by decide) ?_
        refine tt_cVI C (c_X6_refuse E (ub u (r 0) g) r h (-2 : Int32) (by decide)) gX6_way_X6_refuse rfl ⟨rfl, rfl⟩ 1 (by decide +kernel) ⟨Nat.le_of_ble_eq_true rfl, Nat.le_of_ble_eq_true rfl⟩ rfl oT0 rfl (Nat.le_of_ble_eq_true rfl) dX6_way_39 rfl ?_
        generalize e_9 : H_ref h (-2 : Int32) = h_8
        exact tt_iret K dX6_way_42 (by subst e_9; rfl) (by subst e_9; rfl) rfl
      · skip
        refine tt_iload_n C dX6_way_25 rfl 2 rfl ?_
        refine tt_iload_n C dX6_way_26 rfl 3 rfl ?_
        refine tt_icmp_eq C (tgt := 36) dX6_way_27 (by decide) Iff.rfl (fun c_10 => ?_) (fun c_10 => ?_)
        · skip
          refine tt_aload_n C dX6_way_36 rfl 0 rfl ?_
          refine tt_bipush (v := (-2 : Int32)) C dX6_way_37 (by decide) ?_
          refine tt_cVI C (c_X6_refuse E (ub u (r 0) g) r h (-2 : Int32) (by decide)) gX6_way_X6_refuse rfl ⟨rfl, rfl⟩ 1 (by decide +kernel) ⟨Nat.le_of_ble_eq_true rfl, Nat.le_of_ble_eq_true rfl⟩ rfl oT0 rfl (Nat.le_of_ble_eq_true rfl) dX6_way_39 rfl ?_
          generalize e_12 : H_ref h (-2 : Int32) = h_11
          exact tt_iret K dX6_way_42 (by subst e_12; rfl) (by subst e_12; rfl) rfl
        · skip
          refine tt_iload C dX6_way_30 4 rfl ?_
          refine tt_iconst (v := (-1 : Int32)) C dX6_way_32 (by decide) ?_
          refine tt_icmp_ge C (tgt := 43) dX6_way_33 (by decide) Iff.rfl (fun c_13 => ?_) (fun c_13 => ?_)
          · skip
            exact absurd ⟨(by assumption), (by assumption), (by assumption), (by assumption), c_13⟩ hc
          · skip
            refine tt_aload_n C dX6_way_36 rfl 0 rfl ?_
            refine tt_bipush (v := (-2 : Int32)) C dX6_way_37 (by decide) ?_
            refine tt_cVI C (c_X6_refuse E (ub u (r 0) g) r h (-2 : Int32) (by decide)) gX6_way_X6_refuse rfl ⟨rfl, rfl⟩ 1 (by decide +kernel) ⟨Nat.le_of_ble_eq_true rfl, Nat.le_of_ble_eq_true rfl⟩ rfl oT0 rfl (Nat.le_of_ble_eq_true rfl) dX6_way_39 rfl ?_
            generalize e_15 : H_ref h (-2 : Int32) = h_14
            exact tt_iret K dX6_way_42 (by subst e_15; rfl) (by subst e_15; rfl) rfl

set_option maxHeartbeats 4000000 in
set_option maxRecDepth 100000 in
theorem c_X6_way_N (E : EN) (u : U3) (r : R1) (h : HB) (g : HB) (b : Nat) (a : Nat) (c : Nat) (hi : r 0 < 5) (hi5 : r 0 ≠ 5) (hB : vI (g 18 0) 9) (hbm : b < ix (g 18 0)) (ha : a < 6) (hcc : c < 6) (hac : a ≠ c) (hG : vI (g 1 0) 9) (hA : ∀ d, d < ix (g 1 0) → vI (g 2 d) 6 ∧ vI (g 3 d) 6) : CT E yX6_way wsX6_way (rmT 5 117) [.ref (eA E 5 0), .int (nI b), .int (nI a), .int (nI c), .int (-1)] (ub (ub u (r 0) g) 5 h) r (some (.int ((R_meas g b c h) 6 a))) (ub (ub u (r 0) g) 5 (R_meas g b c h)) r := by
  refine CT_ofI (cc := cX6_way) (nL := 5) (own := RX6) (by decide) rfl rfl rfl (Nat.le_of_ble_eq_true rfl) (fun F C K => ?_)
  have hin6 : ∀ w ∈ u_ws RX6 TX6 8, w ∈ wsX6_way := by decide +kernel
  refine tt_to (lv1 := [(0, .ref (eA E 5 0)), (1, .int (nI b)), (2, .int (nI a)), (3, .int (nI c)), (4, .int (-1))]) rfl rfl rfl rfl ?_
  have hB' := ix_lt hB (by decide)
  have hb : b < 8 := by omega
  refine tt_aload_n C dX6_way_0 rfl 0 rfl ?_
  refine tt_get (v := .ref (eA E (r 0) 0)) C oT0 rfl hin6 0 (by decide) (List.mem_of_getElem? (i := 1) (by decide +kernel)) rfl dX6_way_1 ?_
  refine tt_iload_n C dX6_way_4 rfl 1 rfl ?_
  refine tt_cVI C (CT_comm hi5 (c_X2_hasBadge E (ub u 5 h) r g (r 0) (nI b) hi)) gX6_way_X2_hasBadge rfl ⟨rfl, rfl⟩ 1 (by decide +kernel) ⟨Nat.le_of_ble_eq_true rfl, Nat.le_of_ble_eq_true rfl⟩ rfl (oH0 hi) rfl (Nat.le_of_ble_eq_true rfl) dX6_way_5 rfl ?_
  refine tt_if_eqB C (tgt := 36) dX6_way_8 (by decide) (fun c_1 => ?_) (fun c_1 => ?_)
  · skip
    exact absurd (has_ok hB (by decide) hbm) c_1
  · skip
    refine tt_iload_n C dX6_way_11 rfl 2 rfl ?_
    refine tt_cSI C (c_X6_isArea E (ub (ub u (r 0) g) 5 h) r (nI a)) gX6_way_X6_isArea rfl ⟨rfl, rfl⟩ 1 (by decide +kernel) ⟨Nat.le_of_ble_eq_true rfl, Nat.le_of_ble_eq_true rfl⟩ rfl (Nat.le_of_ble_eq_true rfl) dX6_way_12 rfl ?_
    refine tt_if_eqB C (tgt := 36) dX6_way_15 (by decide) (fun c_2 => ?_) (fun c_2 => ?_)
    · skip
      exact absurd (bel_ok ha (by decide)) c_2
    · skip
      refine tt_iload_n C dX6_way_18 rfl 3 rfl ?_
      refine tt_cSI C (c_X6_isArea E (ub (ub u (r 0) g) 5 h) r (nI c)) gX6_way_X6_isArea rfl ⟨rfl, rfl⟩ 1 (by decide +kernel) ⟨Nat.le_of_ble_eq_true rfl, Nat.le_of_ble_eq_true rfl⟩ rfl (Nat.le_of_ble_eq_true rfl) dX6_way_19 rfl ?_
      refine tt_if_eqB C (tgt := 36) dX6_way_22 (by decide) (fun c_3 => ?_) (fun c_3 => ?_)
      · skip
        exact absurd (bel_ok hcc (by decide)) c_3
      · skip
        refine tt_iload_n C dX6_way_25 rfl 2 rfl ?_
        refine tt_iload_n C dX6_way_26 rfl 3 rfl ?_
        refine tt_icmp_eq C (tgt := 36) dX6_way_27 (by decide) (nI_eq (by omega) (by omega)) (fun c_4 => ?_) (fun c_4 => ?_)
        · skip
          exact absurd c_4 hac
        · skip
          refine tt_iload C dX6_way_30 4 rfl ?_
          refine tt_iconst (v := (-1 : Int32)) C dX6_way_32 (by decide) ?_
          refine tt_icmp_ge C (tgt := 43) dX6_way_33 (by decide) Iff.rfl (fun c_5 => ?_) (fun c_5 => ?_)
          · skip
            refine tt_aload_n C dX6_way_43 rfl 0 rfl ?_
            refine tt_get (v := .ref (eA E 5 5)) C oT0 rfl hin6 4 (by decide) (List.mem_of_getElem? (i := 2) (by decide +kernel)) rfl dX6_way_44 ?_
            refine tt_aload_n C dX6_way_47 rfl 0 rfl ?_
            refine tt_get (v := .ref (eA E (r 0) 0)) C oT0 rfl hin6 0 (by decide) (List.mem_of_getElem? (i := 1) (by decide +kernel)) rfl dX6_way_48 ?_
            refine tt_iload_n C dX6_way_51 rfl 1 rfl ?_
            refine tt_iload_n C dX6_way_52 rfl 3 rfl ?_
            refine tt_cVV C (c_X3_measure E u r h g (r 0) b c hi hi5 (by first | assumption | omega) hcc hG hA) gX6_way_X3_measure rfl ⟨rfl, rfl⟩ 3 (by decide +kernel) ⟨Nat.le_of_ble_eq_true rfl, Nat.le_of_ble_eq_true rfl⟩ rfl oT5 rfl (Nat.le_of_ble_eq_true rfl) dX6_way_53 rfl ?_
            generalize e_7 : R_meas g b c h = h_6
            refine tt_iload C dX6_way_56 4 rfl ?_
            refine tt_iconst (v := (-1 : Int32)) C dX6_way_58 (by decide) ?_
            refine tt_icmp_ne C (tgt := 73) dX6_way_59 (by decide) Iff.rfl (fun c_8 => ?_) (fun c_8 => ?_)
            · skip
              exact absurd rfl c_8
            · skip
              refine tt_aload_n C dX6_way_62 rfl 0 rfl ?_
              refine tt_get (v := .ref (eA E 5 5)) C oT0 rfl hin6 4 (by decide) (List.mem_of_getElem? (i := 2) (by decide +kernel)) rfl dX6_way_63 ?_
              refine tt_iload_n C dX6_way_66 rfl 2 rfl ?_
              refine tt_cVI C (c_X3_length E (ub u (r 0) g) r h_6 a ha) gX6_way_X3_length rfl ⟨rfl, rfl⟩ 1 (by decide +kernel) ⟨Nat.le_of_ble_eq_true rfl, Nat.le_of_ble_eq_true rfl⟩ rfl oT5 rfl (Nat.le_of_ble_eq_true rfl) dX6_way_67 rfl ?_
              refine tt_goto (tgt := 88) C dX6_way_70 (by decide) ?_
              exact tt_iret K dX6_way_88 (by subst e_7; rfl) (by subst e_7; rfl) rfl
          · skip
            exact absurd (by decide) c_5

set_option maxHeartbeats 4000000 in
set_option maxRecDepth 100000 in
theorem c_X6_way_I (E : EN) (u : U3) (r : R1) (h : HB) (g : HB) (b : Nat) (a : Nat) (c : Nat) (q : Nat) (hi : r 0 < 5) (hi5 : r 0 ≠ 5) (hB : vI (g 18 0) 9) (hbm : b < ix (g 18 0)) (ha : a < 6) (hcc : c < 6) (hac : a ≠ c) (hG : vI (g 1 0) 9) (hA : ∀ d, d < ix (g 1 0) → vI (g 2 d) 6 ∧ vI (g 3 d) 6) (hq : q < 2 ^ 31) : CT E yX6_way wsX6_way (rmT 5 117) [.ref (eA E 5 0), .int (nI b), .int (nI a), .int (nI c), .int (nI q)] (ub (ub u (r 0) g) 5 h) r (some (.int (if ¬ nI q < (R_meas g b c h) 6 a then -5 else fdI (daN g b ((R_meas g b c h) 6) a q)))) (ub (ub u (r 0) g) 5 (R_meas g b c h)) r := by
  refine CT_ofI (cc := cX6_way) (nL := 5) (own := RX6) (by decide) rfl rfl rfl (Nat.le_of_ble_eq_true rfl) (fun F C K => ?_)
  have hin6 : ∀ w ∈ u_ws RX6 TX6 8, w ∈ wsX6_way := by decide +kernel
  refine tt_to (lv1 := [(0, .ref (eA E 5 0)), (1, .int (nI b)), (2, .int (nI a)), (3, .int (nI c)), (4, .int (nI q))]) rfl rfl rfl rfl ?_
  have hB' := ix_lt hB (by decide)
  have hb : b < 8 := by omega
  refine tt_aload_n C dX6_way_0 rfl 0 rfl ?_
  refine tt_get (v := .ref (eA E (r 0) 0)) C oT0 rfl hin6 0 (by decide) (List.mem_of_getElem? (i := 1) (by decide +kernel)) rfl dX6_way_1 ?_
  refine tt_iload_n C dX6_way_4 rfl 1 rfl ?_
  refine tt_cVI C (CT_comm hi5 (c_X2_hasBadge E (ub u 5 h) r g (r 0) (nI b) hi)) gX6_way_X2_hasBadge rfl ⟨rfl, rfl⟩ 1 (by decide +kernel) ⟨Nat.le_of_ble_eq_true rfl, Nat.le_of_ble_eq_true rfl⟩ rfl (oH0 hi) rfl (Nat.le_of_ble_eq_true rfl) dX6_way_5 rfl ?_
  refine tt_if_eqB C (tgt := 36) dX6_way_8 (by decide) (fun c_1 => ?_) (fun c_1 => ?_)
  · skip
    exact absurd (has_ok hB (by decide) hbm) c_1
  · skip
    refine tt_iload_n C dX6_way_11 rfl 2 rfl ?_
    refine tt_cSI C (c_X6_isArea E (ub (ub u (r 0) g) 5 h) r (nI a)) gX6_way_X6_isArea rfl ⟨rfl, rfl⟩ 1 (by decide +kernel) ⟨Nat.le_of_ble_eq_true rfl, Nat.le_of_ble_eq_true rfl⟩ rfl (Nat.le_of_ble_eq_true rfl) dX6_way_12 rfl ?_
    refine tt_if_eqB C (tgt := 36) dX6_way_15 (by decide) (fun c_2 => ?_) (fun c_2 => ?_)
    · skip
      exact absurd (bel_ok ha (by decide)) c_2
    · skip
      refine tt_iload_n C dX6_way_18 rfl 3 rfl ?_
      refine tt_cSI C (c_X6_isArea E (ub (ub u (r 0) g) 5 h) r (nI c)) gX6_way_X6_isArea rfl ⟨rfl, rfl⟩ 1 (by decide +kernel) ⟨Nat.le_of_ble_eq_true rfl, Nat.le_of_ble_eq_true rfl⟩ rfl (Nat.le_of_ble_eq_true rfl) dX6_way_19 rfl ?_
      refine tt_if_eqB C (tgt := 36) dX6_way_22 (by decide) (fun c_3 => ?_) (fun c_3 => ?_)
      · skip
        exact absurd (bel_ok hcc (by decide)) c_3
      · skip
        refine tt_iload_n C dX6_way_25 rfl 2 rfl ?_
        refine tt_iload_n C dX6_way_26 rfl 3 rfl ?_
        refine tt_icmp_eq C (tgt := 36) dX6_way_27 (by decide) (nI_eq (by omega) (by omega)) (fun c_4 => ?_) (fun c_4 => ?_)
        · skip
          exact absurd c_4 hac
        · skip
          refine tt_iload C dX6_way_30 4 rfl ?_
          refine tt_iconst (v := (-1 : Int32)) C dX6_way_32 (by decide) ?_
          refine tt_icmp_ge C (tgt := 43) dX6_way_33 (by decide) Iff.rfl (fun c_5 => ?_) (fun c_5 => ?_)
          · skip
            refine tt_aload_n C dX6_way_43 rfl 0 rfl ?_
            refine tt_get (v := .ref (eA E 5 5)) C oT0 rfl hin6 4 (by decide) (List.mem_of_getElem? (i := 2) (by decide +kernel)) rfl dX6_way_44 ?_
            refine tt_aload_n C dX6_way_47 rfl 0 rfl ?_
            refine tt_get (v := .ref (eA E (r 0) 0)) C oT0 rfl hin6 0 (by decide) (List.mem_of_getElem? (i := 1) (by decide +kernel)) rfl dX6_way_48 ?_
            refine tt_iload_n C dX6_way_51 rfl 1 rfl ?_
            refine tt_iload_n C dX6_way_52 rfl 3 rfl ?_
            refine tt_cVV C (c_X3_measure E u r h g (r 0) b c hi hi5 (by first | assumption | omega) hcc hG hA) gX6_way_X3_measure rfl ⟨rfl, rfl⟩ 3 (by decide +kernel) ⟨Nat.le_of_ble_eq_true rfl, Nat.le_of_ble_eq_true rfl⟩ rfl oT5 rfl (Nat.le_of_ble_eq_true rfl) dX6_way_53 rfl ?_
            generalize e_7 : R_meas g b c h = h_6
            refine tt_iload C dX6_way_56 4 rfl ?_
            refine tt_iconst (v := (-1 : Int32)) C dX6_way_58 (by decide) ?_
            refine tt_icmp_ne C (tgt := 73) dX6_way_59 (by decide) Iff.rfl (fun c_8 => ?_) (fun c_8 => ?_)
            · skip
              refine tt_aload_n C dX6_way_73 rfl 0 rfl ?_
              refine tt_get (v := .ref (eA E 5 5)) C oT0 rfl hin6 4 (by decide) (List.mem_of_getElem? (i := 2) (by decide +kernel)) rfl dX6_way_74 ?_
              refine tt_aload_n C dX6_way_77 rfl 0 rfl ?_
              refine tt_get (v := .ref (eA E (r 0) 0)) C oT0 rfl hin6 0 (by decide) (List.mem_of_getElem? (i := 1) (by decide +kernel)) rfl dX6_way_78 ?_
              refine tt_iload_n C dX6_way_81 rfl 1 rfl ?_
              refine tt_iload_n C dX6_way_82 rfl 2 rfl ?_
              refine tt_iload C dX6_way_83 4 rfl ?_
              refine tt_cVI C (c_X3_doorAt E u r h_6 g (r 0) b a q hi hi5 (by first | assumption | omega) ha hq hG hA) gX6_way_X3_doorAt rfl ⟨rfl, rfl⟩ 4 (by decide +kernel) ⟨Nat.le_of_ble_eq_true rfl, Nat.le_of_ble_eq_true rfl⟩ rfl oT5 rfl (Nat.le_of_ble_eq_true rfl) dX6_way_85 rfl ?_
              exact tt_iret K dX6_way_88 (by subst e_7; rfl) (by subst e_7; rfl) rfl
            · skip
              exact absurd (nI_pos' hq) (by rw [c_8]; decide)
          · skip
            exact absurd (Int32.le_of_lt (Int32.lt_of_lt_of_le (by decide) (nI_pos' hq))) c_5
