set_option maxHeartbeats 4000000 in
set_option maxRecDepth 100000 in
theorem c_X7_way_B (E : EN) (u : U3) (r : R1) (h : HB) (b : Int32) (a : Int32) (c : Int32) (i : Int32) (hc : ¬ ((¬ b < nI 0 ∧ ¬ h 1 530 - nI 1 < b) ∧ (¬ a < nI 0 ∧ ¬ nI 5 < a) ∧ (¬ c < nI 0 ∧ ¬ nI 5 < c) ∧ ¬ a = c ∧ (-1 : Int32) ≤ i)) : CT E yX7_way wsX7_way (rmT 5 112) [.ref (eA E 6 0), .int b, .int a, .int c, .int i] (ub u 6 h) r (some (.int (-2))) (ub u 6 (M_ref h (-2))) r := by
  refine CT_ofI (cc := cX7_way) (nL := 5) (own := RX7) (by decide) rfl rfl rfl (Nat.le_of_ble_eq_true rfl) (fun F C K => ?_)
  refine tt_to (lv1 := [(0, .ref (eA E 6 0)), (1, .int b), (2, .int a), (3, .int c), (4, .int i)]) rfl rfl rfl rfl ?_
  refine tt_aload_n C dX7_way_0 rfl 0 rfl ?_
  refine tt_iload_n C dX7_way_1 rfl 1 rfl ?_
  refine tt_cVI C (c_X7_isBadge E u r h b) gX7_way_X7_isBadge rfl ⟨rfl, rfl⟩ 1 (by decide +kernel) ⟨Nat.le_of_ble_eq_true rfl, Nat.le_of_ble_eq_true rfl⟩ rfl oM0 rfl (Nat.le_of_ble_eq_true rfl) dX7_way_2 rfl ?_
  refine tt_if_eqB C (tgt := 33) dX7_way_5 (by decide) (fun c_1 => ?_) (fun c_1 => ?_)
  · skip
    refine tt_aload_n C dX7_way_33 rfl 0 rfl ?_
    refine tt_bipush (v := (-2 : Int32)) C dX7_way_34 (by decide) ?_
    refine tt_cVI C (c_X7_refuse E u r h (-2 : Int32) ⟨0, by decide, by decide⟩) gX7_way_X7_refuse rfl ⟨rfl, rfl⟩ 1 (by decide +kernel) ⟨Nat.le_of_ble_eq_true rfl, Nat.le_of_ble_eq_true rfl⟩ rfl oM0 rfl (Nat.le_of_ble_eq_true rfl) dX7_way_36 rfl ?_
    generalize e_3 : M_ref h (-2 : Int32) = h_2
    exact tt_iret K dX7_way_39 (by subst e_3; rfl) (by subst e_3; rfl) rfl
  · skip
    refine tt_iload_n C dX7_way_8 rfl 2 rfl ?_
    refine tt_cSI C (c_X7_isArea E (ub u 6 h) r a) gX7_way_X7_isArea rfl ⟨rfl, rfl⟩ 1 (by decide +kernel) ⟨Nat.le_of_ble_eq_true rfl, Nat.le_of_ble_eq_true rfl⟩ rfl (Nat.le_of_ble_eq_true rfl) dX7_way_9 rfl ?_
    refine tt_if_eqB C (tgt := 33) dX7_way_12 (by decide) (fun c_4 => ?_) (fun c_4 => ?_)
    · skip
      refine tt_aload_n C dX7_way_33 rfl 0 rfl ?_
      refine tt_bipush (v := (-2 : Int32)) C dX7_way_34 (by decide) ?_
      refine tt_cVI C (c_X7_refuse E u r h (-2 : Int32) ⟨0, by decide, by decide⟩) gX7_way_X7_refuse rfl ⟨rfl, rfl⟩ 1 (by decide +kernel) ⟨Nat.le_of_ble_eq_true rfl, Nat.le_of_ble_eq_true rfl⟩ rfl oM0 rfl (Nat.le_of_ble_eq_true rfl) dX7_way_36 rfl ?_
      generalize e_6 : M_ref h (-2 : Int32) = h_5
      exact tt_iret K dX7_way_39 (by subst e_6; rfl) (by subst e_6; rfl) rfl
    · skip
      refine tt_iload_n C dX7_way_15 rfl 3 rfl ?_
      refine tt_cSI C (c_X7_isArea E (ub u 6 h) r c) gX7_way_X7_isArea rfl ⟨rfl, rfl⟩ 1 (by decide +kernel) ⟨Nat.le_of_ble_eq_true rfl, Nat.le_of_ble_eq_true rfl⟩ rfl (Nat.le_of_ble_eq_true rfl) dX7_way_16 rfl ?_
      refine tt_if_eqB C (tgt := 33) dX7_way_19 (by decide) (fun c_7 => ?_) (fun c_7 => ?_)
      · skip
        refine tt_aload_n C dX7_way_33 rfl 0 rfl ?_
        refine tt_bipush (v := (-2 : Int32)) C dX7_way_34 (by decide) ?_
        refine tt_cVI C (c_X7_refuse E u r h (-2 : Int32) ⟨0, by decide, by decide⟩) gX7_way_X7_refuse rfl ⟨rfl, rfl⟩ 1 (by decide +kernel) ⟨Nat.le_of_ble_eq_true rfl, Nat.le_of_ble_eq_true rfl⟩ rfl oM0 rfl (Nat.le_of_ble_eq_true rfl) dX7_way_36 rfl ?_
        generalize e_9 : M_ref h (-2 : Int32) = h_8
        exact tt_iret K dX7_way_39 (by subst e_9; rfl) (by subst e_9; rfl) rfl
      · skip
        refine tt_iload_n C dX7_way_22 rfl 2 rfl ?_
        refine tt_iload_n C dX7_way_23 rfl 3 rfl ?_
        refine tt_icmp_eq C (tgt := 33) dX7_way_24 (by decide) Iff.rfl (fun c_10 => ?_) (fun c_10 => ?_)
        · skip
          refine tt_aload_n C dX7_way_33 rfl 0 rfl ?_
          refine tt_bipush (v := (-2 : Int32)) C dX7_way_34 (by decide) ?_
          refine tt_cVI C (c_X7_refuse E u r h (-2 : Int32) ⟨0, by decide, by decide⟩) gX7_way_X7_refuse rfl ⟨rfl, rfl⟩ 1 (by decide +kernel) ⟨Nat.le_of_ble_eq_true rfl, Nat.le_of_ble_eq_true rfl⟩ rfl oM0 rfl (Nat.le_of_ble_eq_true rfl) dX7_way_36 rfl ?_
          generalize e_12 : M_ref h (-2 : Int32) = h_11
          exact tt_iret K dX7_way_39 (by subst e_12; rfl) (by subst e_12; rfl) rfl
        · skip
          refine tt_iload C dX7_way_27 4 rfl ?_
          refine tt_iconst (v := (-1 : Int32)) C dX7_way_29 (by decide) ?_
          refine tt_icmp_ge C (tgt := 40) dX7_way_30 (by decide) Iff.rfl (fun c_13 => ?_) (fun c_13 => ?_)
          · skip
            exact absurd ⟨(by assumption), (by assumption), (by assumption), (by assumption), c_13⟩ hc
          · skip
            refine tt_aload_n C dX7_way_33 rfl 0 rfl ?_
            refine tt_bipush (v := (-2 : Int32)) C dX7_way_34 (by decide) ?_
            refine tt_cVI C (c_X7_refuse E u r h (-2 : Int32) ⟨0, by decide, by decide⟩) gX7_way_X7_refuse rfl ⟨rfl, rfl⟩ 1 (by decide +kernel) ⟨Nat.le_of_ble_eq_true rfl, Nat.le_of_ble_eq_true rfl⟩ rfl oM0 rfl (Nat.le_of_ble_eq_true rfl) dX7_way_36 rfl ?_
            generalize e_15 : M_ref h (-2 : Int32) = h_14
            exact tt_iret K dX7_way_39 (by subst e_15; rfl) (by subst e_15; rfl) rfl

def M_wayN (l : List Nat) : Int32 := if l.length = 0 then -5 else nI l.length
def M_wayI (z : HB) (l : List Nat) (i : Nat) : Int32 := if l.length = 0 then -5 else if i < l.length then z 10 i else -5

set_option maxHeartbeats 4000000 in
set_option maxRecDepth 100000 in
theorem c_X7_way_N (E : EN) (u : U3) (r : R1) (h : HB) (b : Nat) (a : Nat) (c : Nat) (l : List Nat) (hB : vI (h 1 530) 9) (hbm : b < ix (h 1 530)) (ha : a < 6) (hcc : c < 6) (hac : a ≠ c) (hD : vI (h 1 529) 9) (hO : DOk h) (hl : l.length ≤ 8) (hW : WkOk (M_far h b c) b l a) : CT E yX7_way wsX7_way (rmT 5 112) [.ref (eA E 6 0), .int (nI b), .int (nI a), .int (nI c), .int (-1)] (ub u 6 h) r (some (.int (M_wayN l))) (ub u 6 (M_way h b c l)) r := by
  refine CT_ofI (cc := cX7_way) (nL := 5) (own := RX7) (by decide) rfl rfl rfl (Nat.le_of_ble_eq_true rfl) (fun F C K => ?_)
  have hin7 : ∀ w ∈ u_ws RX7 TX7 15, w ∈ wsX7_way := by decide +kernel
  refine tt_to (lv1 := [(0, .ref (eA E 6 0)), (1, .int (nI b)), (2, .int (nI a)), (3, .int (nI c)), (4, .int (-1))]) rfl rfl rfl rfl ?_
  have hB' := ix_lt hB (by decide)
  have hb : b < 8 := by omega
  refine tt_aload_n C dX7_way_0 rfl 0 rfl ?_
  refine tt_iload_n C dX7_way_1 rfl 1 rfl ?_
  refine tt_cVI C (c_X7_isBadge E u r h (nI b)) gX7_way_X7_isBadge rfl ⟨rfl, rfl⟩ 1 (by decide +kernel) ⟨Nat.le_of_ble_eq_true rfl, Nat.le_of_ble_eq_true rfl⟩ rfl oM0 rfl (Nat.le_of_ble_eq_true rfl) dX7_way_2 rfl ?_
  refine tt_if_eqB C (tgt := 33) dX7_way_5 (by decide) (fun c_1 => ?_) (fun c_1 => ?_)
  · skip
    exact absurd (in_ok hB (by decide) hbm) c_1
  · skip
    refine tt_iload_n C dX7_way_8 rfl 2 rfl ?_
    refine tt_cSI C (c_X7_isArea E (ub u 6 h) r (nI a)) gX7_way_X7_isArea rfl ⟨rfl, rfl⟩ 1 (by decide +kernel) ⟨Nat.le_of_ble_eq_true rfl, Nat.le_of_ble_eq_true rfl⟩ rfl (Nat.le_of_ble_eq_true rfl) dX7_way_9 rfl ?_
    refine tt_if_eqB C (tgt := 33) dX7_way_12 (by decide) (fun c_2 => ?_) (fun c_2 => ?_)
    · skip
      exact absurd (show ¬ nI a < nI 0 ∧ ¬ nI 5 < nI a from ⟨nI_nlt (by omega) (by omega), nI_nlt (by omega) (by omega)⟩) c_2
    · skip
      refine tt_iload_n C dX7_way_15 rfl 3 rfl ?_
      refine tt_cSI C (c_X7_isArea E (ub u 6 h) r (nI c)) gX7_way_X7_isArea rfl ⟨rfl, rfl⟩ 1 (by decide +kernel) ⟨Nat.le_of_ble_eq_true rfl, Nat.le_of_ble_eq_true rfl⟩ rfl (Nat.le_of_ble_eq_true rfl) dX7_way_16 rfl ?_
      refine tt_if_eqB C (tgt := 33) dX7_way_19 (by decide) (fun c_3 => ?_) (fun c_3 => ?_)
      · skip
        exact absurd (show ¬ nI c < nI 0 ∧ ¬ nI 5 < nI c from ⟨nI_nlt (by omega) (by omega), nI_nlt (by omega) (by omega)⟩) c_3
      · skip
        refine tt_iload_n C dX7_way_22 rfl 2 rfl ?_
        refine tt_iload_n C dX7_way_23 rfl 3 rfl ?_
        refine tt_icmp_eq C (tgt := 33) dX7_way_24 (by decide) (nI_eq (by omega) (by omega)) (fun c_4 => ?_) (fun c_4 => ?_)
        · skip
          exact absurd c_4 hac
        · skip
          refine tt_iload C dX7_way_27 4 rfl ?_
          refine tt_iconst (v := (-1 : Int32)) C dX7_way_29 (by decide) ?_
          refine tt_icmp_ge C (tgt := 40) dX7_way_30 (by decide) Iff.rfl (fun c_5 => ?_) (fun c_5 => ?_)
          · skip
            refine tt_aload_n C dX7_way_40 rfl 0 rfl ?_
            refine tt_iload_n C dX7_way_41 rfl 1 rfl ?_
            refine tt_iload_n C dX7_way_42 rfl 2 rfl ?_
            refine tt_iload_n C dX7_way_43 rfl 3 rfl ?_
            refine tt_cVV C (c_X7_findWay E u r h b a c l hb ha hcc hD hO hl hW) gX7_way_X7_findWay rfl ⟨rfl, rfl⟩ 3 (by decide +kernel) ⟨Nat.le_of_ble_eq_true rfl, Nat.le_of_ble_eq_true rfl⟩ rfl oM0 rfl (Nat.le_of_ble_eq_true rfl) dX7_way_44 rfl ?_
            generalize e_7 : M_way h b c l = h_6
            have f3 : h_6 0 3 = nI l.length := by rw [← e_7]; unfold M_way; rw [wkH_m l 0 _ (up2_s _ _ _ _), Nat.zero_add]
            refine tt_aload_n C dX7_way_47 rfl 0 rfl ?_
            refine tt_getI (v := nI l.length) C oM0 rfl hin7 13 (by decide) (List.mem_of_getElem? (i := 1) (by decide +kernel)) rfl (ub_v.trans f3) dX7_way_48 ?_
            refine tt_if_eq C (tgt := 63) dX7_way_51 (by decide) (nI_eq0 (by omega)) (fun c_8 => ?_) (fun c_8 => ?_)
            · skip
              refine tt_bipush (v := (-5 : Int32)) C dX7_way_63 (by decide) ?_
              refine tt_goto (tgt := 88) C dX7_way_65 (by decide) ?_
              exact tt_iret K dX7_way_88 (by subst e_7; simp only [M_wayN, eq_true c_1, c_1, eq_true c_2, c_2, eq_true c_3, c_3, eq_true c_4, c_4, eq_true c_5, c_5, eq_true c_8, c_8, not_false_eq_true, not_true_eq_false, and_true, true_and, and_false, false_and, and_self, or_true, true_or, or_false, false_or, or_self, if_true, if_false] <;> first | rfl | (simp; done)) (by subst e_7; rfl) rfl
            · skip
              refine tt_iload C dX7_way_54 4 rfl ?_
              refine tt_aload_n C dX7_way_56 rfl 0 rfl ?_
              refine tt_getI (v := nI l.length) C oM0 rfl hin7 13 (by decide) (List.mem_of_getElem? (i := 1) (by decide +kernel)) rfl (ub_v.trans f3) dX7_way_57 ?_
              refine tt_icmp_lt C (tgt := 68) dX7_way_60 (by decide) Iff.rfl (fun c_9 => ?_) (fun c_9 => ?_)
              · skip
                refine tt_iload C dX7_way_68 4 rfl ?_
                refine tt_iconst (v := (-1 : Int32)) C dX7_way_70 (by decide) ?_
                refine tt_icmp_ne C (tgt := 81) dX7_way_71 (by decide) Iff.rfl (fun c_10 => ?_) (fun c_10 => ?_)
                · skip
                  exact absurd rfl c_10
                · skip
                  refine tt_aload_n C dX7_way_74 rfl 0 rfl ?_
                  refine tt_getI (v := nI l.length) C oM0 rfl hin7 13 (by decide) (List.mem_of_getElem? (i := 1) (by decide +kernel)) rfl (ub_v.trans f3) dX7_way_75 ?_
                  refine tt_goto (tgt := 88) C dX7_way_78 (by decide) ?_
                  exact tt_iret K dX7_way_88 (by subst e_7; simp only [M_wayN, eq_true c_1, c_1, eq_true c_2, c_2, eq_true c_3, c_3, eq_true c_4, c_4, eq_true c_5, c_5, eq_true c_8, c_8, eq_true c_9, c_9, eq_true c_10, c_10, not_false_eq_true, not_true_eq_false, and_true, true_and, and_false, false_and, and_self, or_true, true_or, or_false, false_or, or_self, if_true, if_false] <;> first | rfl | (simp; done)) (by subst e_7; rfl) rfl
              · skip
                exact absurd (Int32.lt_of_lt_of_le (by decide) (nI_pos' (by omega))) c_9
          · skip
            exact absurd (by decide) c_5

set_option maxHeartbeats 4000000 in
set_option maxRecDepth 100000 in
theorem c_X7_way_I (E : EN) (u : U3) (r : R1) (h : HB) (b : Nat) (a : Nat) (c : Nat) (l : List Nat) (i : Nat) (hB : vI (h 1 530) 9) (hbm : b < ix (h 1 530)) (ha : a < 6) (hcc : c < 6) (hac : a ≠ c) (hD : vI (h 1 529) 9) (hO : DOk h) (hl : l.length ≤ 8) (hW : WkOk (M_far h b c) b l a) (hii : i < 2 ^ 31) : CT E yX7_way wsX7_way (rmT 5 112) [.ref (eA E 6 0), .int (nI b), .int (nI a), .int (nI c), .int (nI i)] (ub u 6 h) r (some (.int (M_wayI (M_way h b c l) l i))) (ub u 6 (M_way h b c l)) r := by
  refine CT_ofI (cc := cX7_way) (nL := 5) (own := RX7) (by decide) rfl rfl rfl (Nat.le_of_ble_eq_true rfl) (fun F C K => ?_)
  have hin7 : ∀ w ∈ u_ws RX7 TX7 15, w ∈ wsX7_way := by decide +kernel
  refine tt_to (lv1 := [(0, .ref (eA E 6 0)), (1, .int (nI b)), (2, .int (nI a)), (3, .int (nI c)), (4, .int (nI i))]) rfl rfl rfl rfl ?_
  have hB' := ix_lt hB (by decide)
  have hb : b < 8 := by omega
  refine tt_aload_n C dX7_way_0 rfl 0 rfl ?_
  refine tt_iload_n C dX7_way_1 rfl 1 rfl ?_
  refine tt_cVI C (c_X7_isBadge E u r h (nI b)) gX7_way_X7_isBadge rfl ⟨rfl, rfl⟩ 1 (by decide +kernel) ⟨Nat.le_of_ble_eq_true rfl, Nat.le_of_ble_eq_true rfl⟩ rfl oM0 rfl (Nat.le_of_ble_eq_true rfl) dX7_way_2 rfl ?_
  refine tt_if_eqB C (tgt := 33) dX7_way_5 (by decide) (fun c_1 => ?_) (fun c_1 => ?_)
  · skip
    exact absurd (in_ok hB (by decide) hbm) c_1
  · skip
    refine tt_iload_n C dX7_way_8 rfl 2 rfl ?_
    refine tt_cSI C (c_X7_isArea E (ub u 6 h) r (nI a)) gX7_way_X7_isArea rfl ⟨rfl, rfl⟩ 1 (by decide +kernel) ⟨Nat.le_of_ble_eq_true rfl, Nat.le_of_ble_eq_true rfl⟩ rfl (Nat.le_of_ble_eq_true rfl) dX7_way_9 rfl ?_
    refine tt_if_eqB C (tgt := 33) dX7_way_12 (by decide) (fun c_2 => ?_) (fun c_2 => ?_)
    · skip
      exact absurd (show ¬ nI a < nI 0 ∧ ¬ nI 5 < nI a from ⟨nI_nlt (by omega) (by omega), nI_nlt (by omega) (by omega)⟩) c_2
    · skip
      refine tt_iload_n C dX7_way_15 rfl 3 rfl ?_
      refine tt_cSI C (c_X7_isArea E (ub u 6 h) r (nI c)) gX7_way_X7_isArea rfl ⟨rfl, rfl⟩ 1 (by decide +kernel) ⟨Nat.le_of_ble_eq_true rfl, Nat.le_of_ble_eq_true rfl⟩ rfl (Nat.le_of_ble_eq_true rfl) dX7_way_16 rfl ?_
      refine tt_if_eqB C (tgt := 33) dX7_way_19 (by decide) (fun c_3 => ?_) (fun c_3 => ?_)
      · skip
        exact absurd (show ¬ nI c < nI 0 ∧ ¬ nI 5 < nI c from ⟨nI_nlt (by omega) (by omega), nI_nlt (by omega) (by omega)⟩) c_3
      · skip
        refine tt_iload_n C dX7_way_22 rfl 2 rfl ?_
        refine tt_iload_n C dX7_way_23 rfl 3 rfl ?_
        refine tt_icmp_eq C (tgt := 33) dX7_way_24 (by decide) (nI_eq (by omega) (by omega)) (fun c_4 => ?_) (fun c_4 => ?_)
        · skip
          exact absurd c_4 hac
        · skip
          refine tt_iload C dX7_way_27 4 rfl ?_
          refine tt_iconst (v := (-1 : Int32)) C dX7_way_29 (by decide) ?_
          refine tt_icmp_ge C (tgt := 40) dX7_way_30 (by decide) Iff.rfl (fun c_5 => ?_) (fun c_5 => ?_)
          · skip
            refine tt_aload_n C dX7_way_40 rfl 0 rfl ?_
            refine tt_iload_n C dX7_way_41 rfl 1 rfl ?_
            refine tt_iload_n C dX7_way_42 rfl 2 rfl ?_
            refine tt_iload_n C dX7_way_43 rfl 3 rfl ?_
            refine tt_cVV C (c_X7_findWay E u r h b a c l hb ha hcc hD hO hl hW) gX7_way_X7_findWay rfl ⟨rfl, rfl⟩ 3 (by decide +kernel) ⟨Nat.le_of_ble_eq_true rfl, Nat.le_of_ble_eq_true rfl⟩ rfl oM0 rfl (Nat.le_of_ble_eq_true rfl) dX7_way_44 rfl ?_
            generalize e_7 : M_way h b c l = h_6
            have f3 : h_6 0 3 = nI l.length := by rw [← e_7]; unfold M_way; rw [wkH_m l 0 _ (up2_s _ _ _ _), Nat.zero_add]
            refine tt_aload_n C dX7_way_47 rfl 0 rfl ?_
            refine tt_getI (v := nI l.length) C oM0 rfl hin7 13 (by decide) (List.mem_of_getElem? (i := 1) (by decide +kernel)) rfl (ub_v.trans f3) dX7_way_48 ?_
            refine tt_if_eq C (tgt := 63) dX7_way_51 (by decide) (nI_eq0 (by omega)) (fun c_8 => ?_) (fun c_8 => ?_)
            · skip
              refine tt_bipush (v := (-5 : Int32)) C dX7_way_63 (by decide) ?_
              refine tt_goto (tgt := 88) C dX7_way_65 (by decide) ?_
              exact tt_iret K dX7_way_88 (by subst e_7; simp only [M_wayI, eq_true c_1, c_1, eq_true c_2, c_2, eq_true c_3, c_3, eq_true c_4, c_4, eq_true c_5, c_5, eq_true c_8, c_8, not_false_eq_true, not_true_eq_false, and_true, true_and, and_false, false_and, and_self, or_true, true_or, or_false, false_or, or_self, if_true, if_false] <;> first | rfl | (simp; done)) (by subst e_7; rfl) rfl
            · skip
              refine tt_iload C dX7_way_54 4 rfl ?_
              refine tt_aload_n C dX7_way_56 rfl 0 rfl ?_
              refine tt_getI (v := nI l.length) C oM0 rfl hin7 13 (by decide) (List.mem_of_getElem? (i := 1) (by decide +kernel)) rfl (ub_v.trans f3) dX7_way_57 ?_
              refine tt_icmp_lt C (tgt := 68) dX7_way_60 (by decide) (nI_ltI (by omega) (by omega)) (fun c_9 => ?_) (fun c_9 => ?_)
              · skip
                refine tt_iload C dX7_way_68 4 rfl ?_
                refine tt_iconst (v := (-1 : Int32)) C dX7_way_70 (by decide) ?_
                refine tt_icmp_ne C (tgt := 81) dX7_way_71 (by decide) Iff.rfl (fun c_10 => ?_) (fun c_10 => ?_)
                · skip
                  refine tt_aload_n C dX7_way_81 rfl 0 rfl ?_
                  refine tt_get (v := .ref (eA E 6 10)) C oM0 rfl hin7 12 (by decide) (List.mem_of_getElem? (i := 2) (by decide +kernel)) rfl dX7_way_82 ?_
                  refine tt_iload C dX7_way_85 4 rfl ?_
                  refine tt_ialdB (v := h_6 10 i) C aM10 i rfl (by omega) rfl dX7_way_87 ?_
                  exact tt_iret K dX7_way_88 (by subst e_7; simp only [M_wayI, eq_true c_1, c_1, eq_true c_2, c_2, eq_true c_3, c_3, eq_true c_4, c_4, eq_true c_5, c_5, eq_true c_8, c_8, eq_true c_9, c_9, eq_true c_10, c_10, not_false_eq_true, not_true_eq_false, and_true, true_and, and_false, false_and, and_self, or_true, true_or, or_false, false_or, or_self, if_true, if_false] <;> first | rfl | (simp; done)) (by subst e_7; rfl) rfl
                · skip
                  exact absurd (nI_pos' hii) (by rw [c_10]; decide)
              · skip
                refine tt_bipush (v := (-5 : Int32)) C dX7_way_63 (by decide) ?_
                refine tt_goto (tgt := 88) C dX7_way_65 (by decide) ?_
                exact tt_iret K dX7_way_88 (by subst e_7; simp only [M_wayI, eq_true c_1, c_1, eq_true c_2, c_2, eq_true c_3, c_3, eq_true c_4, c_4, eq_true c_5, c_5, eq_true c_8, c_8, eq_true c_9, c_9, not_false_eq_true, not_true_eq_false, and_true, true_and, and_false, false_and, and_self, or_true, true_or, or_false, false_or, or_self, if_true, if_false] <;> first | rfl | (simp; done)) (by subst e_7; rfl) rfl
          · skip
            exact absurd (Int32.le_of_lt (Int32.lt_of_lt_of_le (by decide) (nI_pos' hii))) c_5
