set_option maxHeartbeats 4000000 in
set_option maxRecDepth 100000 in
theorem c_X7_putLock_B (E : EN) (u : U3) (r : R1) (h : HB) (d : Int32) (e : Int32) (hc : ¬ ((¬ d < nI 0 ∧ ¬ h 1 529 - nI 1 < d) ∧ (e = -1 ∨ (¬ e < nI 0 ∧ ¬ h 1 529 - nI 1 < e)) ∧ ¬ d = e)) : CT E yX7_putLock wsX7_putLock (rmT 2 43) [.ref (eA E 6 0), .int d, .int e] (ub u 6 h) r (some (.int (-2))) (ub u 6 h) r := by
  refine CT_ofI (cc := cX7_putLock) (nL := 5) (own := RX7) (by decide) rfl rfl rfl (Nat.le_of_ble_eq_true rfl) (fun F C K => ?_)
  refine tt_to (lv1 := [(0, .ref (eA E 6 0)), (1, .int d), (2, .int e)]) rfl rfl rfl rfl ?_
  refine tt_aload_n C dX7_putLock_0 rfl 0 rfl ?_
  refine tt_iload_n C dX7_putLock_1 rfl 1 rfl ?_
  refine tt_cVI C (c_X7_isDoor E u r h d) gX7_putLock_X7_isDoor rfl ⟨rfl, rfl⟩ 1 (by decide +kernel) ⟨Nat.le_of_ble_eq_true rfl, Nat.le_of_ble_eq_true rfl⟩ rfl oM0 rfl (Nat.le_of_ble_eq_true rfl) dX7_putLock_2 rfl ?_
  refine tt_if_eqB C (tgt := 26) dX7_putLock_5 (by decide) (fun c_1 => ?_) (fun c_1 => ?_)
  · skip
    refine tt_bipush (v := (-2 : Int32)) C dX7_putLock_26 (by decide) ?_
    exact tt_iret K dX7_putLock_28 (by first | rfl | (simp [c_1]; done) | grind []) (by first | rfl | (simp [c_1]; done) | (refine congrArg _ ?_; grind [])) rfl
  · skip
    refine tt_iload_n C dX7_putLock_8 rfl 2 rfl ?_
    refine tt_iconst (v := (-1 : Int32)) C dX7_putLock_9 (by decide) ?_
    refine tt_icmp_eq C (tgt := 21) dX7_putLock_10 (by decide) Iff.rfl (fun c_2 => ?_) (fun c_2 => ?_)
    · skip
      refine tt_iload_n C dX7_putLock_21 rfl 1 rfl ?_
      refine tt_iload_n C dX7_putLock_22 rfl 2 rfl ?_
      refine tt_icmp_ne C (tgt := 29) dX7_putLock_23 (by decide) Iff.rfl (fun c_3 => ?_) (fun c_3 => ?_)
      · skip
        exact absurd ⟨c_1, (by first | (left; assumption) | (right; assumption)), c_3⟩ hc
      · skip
        refine tt_bipush (v := (-2 : Int32)) C dX7_putLock_26 (by decide) ?_
        exact tt_iret K dX7_putLock_28 (by first | rfl | (simp [c_1, c_2, c_3]; done) | grind []) (by first | rfl | (simp [c_1, c_2, c_3]; done) | (refine congrArg _ ?_; grind [])) rfl
    · skip
      refine tt_aload_n C dX7_putLock_13 rfl 0 rfl ?_
      refine tt_iload_n C dX7_putLock_14 rfl 2 rfl ?_
      refine tt_cVI C (c_X7_isDoor E u r h e) gX7_putLock_X7_isDoor rfl ⟨rfl, rfl⟩ 1 (by decide +kernel) ⟨Nat.le_of_ble_eq_true rfl, Nat.le_of_ble_eq_true rfl⟩ rfl oM0 rfl (Nat.le_of_ble_eq_true rfl) dX7_putLock_15 rfl ?_
      refine tt_if_eqB C (tgt := 26) dX7_putLock_18 (by decide) (fun c_4 => ?_) (fun c_4 => ?_)
      · skip
        refine tt_bipush (v := (-2 : Int32)) C dX7_putLock_26 (by decide) ?_
        exact tt_iret K dX7_putLock_28 (by first | rfl | (simp [c_1, c_2, c_4]; done) | grind []) (by first | rfl | (simp [c_1, c_2, c_4]; done) | (refine congrArg _ ?_; grind [])) rfl
      · skip
        refine tt_iload_n C dX7_putLock_21 rfl 1 rfl ?_
        refine tt_iload_n C dX7_putLock_22 rfl 2 rfl ?_
        refine tt_icmp_ne C (tgt := 29) dX7_putLock_23 (by decide) Iff.rfl (fun c_5 => ?_) (fun c_5 => ?_)
        · skip
          exact absurd ⟨c_1, (by first | (left; assumption) | (right; assumption)), c_5⟩ hc
        · skip
          refine tt_bipush (v := (-2 : Int32)) C dX7_putLock_26 (by decide) ?_
          exact tt_iret K dX7_putLock_28 (by first | rfl | (simp [c_1, c_2, c_4, c_5]; done) | grind []) (by first | rfl | (simp [c_1, c_2, c_4, c_5]; done) | (refine congrArg _ ?_; grind [])) rfl

def M_unl (h : HB) (x : Int32) : HB := if x = -1 then h else up2 h 1 (60 * ix x + 6) (-1)
def M_lockN (h : HB) (d : Nat) : HB := up2 (M_unl h (h 1 (60 * d + 6))) 1 (60 * d + 6) (-1)
def M_lockE (h : HB) (d e : Nat) : HB := up2 (up2 (M_unl (M_unl h (h 1 (60 * d + 6))) (h 1 (60 * e + 6))) 1 (60 * d + 6) (nI e)) 1 (60 * e + 6) (nI d)

set_option maxHeartbeats 4000000 in
set_option maxRecDepth 100000 in
theorem c_X7_putLock_N (E : EN) (u : U3) (r : R1) (h : HB) (d : Nat) (hD : vI (h 1 529) 9) (hdm : d < ix (h 1 529)) (ho : h 1 (60 * d + 6) = -1 ∨ vI (h 1 (60 * d + 6)) 8) : CT E yX7_putLock wsX7_putLock (rmT 2 43) [.ref (eA E 6 0), .int (nI d), .int (-1)] (ub u 6 h) r (some (.int (h 1 (60 * d + 6)))) (ub u 6 (M_lockN h d)) r := by
  refine CT_ofI (cc := cX7_putLock) (nL := 5) (own := RX7) (by decide) rfl rfl rfl (Nat.le_of_ble_eq_true rfl) (fun F C K => ?_)
  have hin7 : ∀ w ∈ u_ws RX7 TX7 15, w ∈ wsX7_putLock := by decide +kernel
  refine tt_to (lv1 := [(0, .ref (eA E 6 0)), (1, .int (nI d)), (2, .int (-1))]) rfl rfl rfl rfl ?_
  have hD' := ix_lt hD (by decide)
  have hd : d < 8 := by omega
  have hdn : ¬ nI d = -1 := vI_ne (vI_nI hd) (by decide)
  refine tt_aload_n C dX7_putLock_0 rfl 0 rfl ?_
  refine tt_iload_n C dX7_putLock_1 rfl 1 rfl ?_
  refine tt_cVI C (c_X7_isDoor E u r h (nI d)) gX7_putLock_X7_isDoor rfl ⟨rfl, rfl⟩ 1 (by decide +kernel) ⟨Nat.le_of_ble_eq_true rfl, Nat.le_of_ble_eq_true rfl⟩ rfl oM0 rfl (Nat.le_of_ble_eq_true rfl) dX7_putLock_2 rfl ?_
  refine tt_if_eqB C (tgt := 26) dX7_putLock_5 (by decide) (fun c_1 => ?_) (fun c_1 => ?_)
  · skip
    exact absurd (in_ok hD (by decide) hdm) c_1
  · skip
    refine tt_iload_n C dX7_putLock_8 rfl 2 rfl ?_
    refine tt_iconst (v := (-1 : Int32)) C dX7_putLock_9 (by decide) ?_
    refine tt_icmp_eq C (tgt := 21) dX7_putLock_10 (by decide) Iff.rfl (fun c_2 => ?_) (fun c_2 => ?_)
    · skip
      refine tt_iload_n C dX7_putLock_21 rfl 1 rfl ?_
      refine tt_iload_n C dX7_putLock_22 rfl 2 rfl ?_
      refine tt_icmp_ne C (tgt := 29) dX7_putLock_23 (by decide) Iff.rfl (fun c_3 => ?_) (fun c_3 => ?_)
      · skip
        refine tt_aload_n C dX7_putLock_29 rfl 0 rfl ?_
        refine tt_iload_n C dX7_putLock_30 rfl 1 rfl ?_
        refine tt_bipush (v := nI 6) C dX7_putLock_31 (by decide) ?_
        refine tt_cVI C (c_X7_ofDoor E u r h d 6 (by first | assumption | omega) (by first | assumption | omega)) gX7_putLock_X7_ofDoor rfl ⟨rfl, rfl⟩ 2 (by decide +kernel) ⟨Nat.le_of_ble_eq_true rfl, Nat.le_of_ble_eq_true rfl⟩ rfl oM0 rfl (Nat.le_of_ble_eq_true rfl) dX7_putLock_33 rfl ?_
        refine tt_istore_n (lv' := [(0, .ref (eA E 6 0)), (1, .int (nI d)), (2, .int (-1)), (3, .int (h 1 (60 * d + 6)))]) C dX7_putLock_36 rfl (by decide) [1, 2, 3, 0] rfl ?_
        refine tt_iload_n C dX7_putLock_37 rfl 2 rfl ?_
        refine tt_iconst (v := (-1 : Int32)) C dX7_putLock_38 (by decide) ?_
        refine tt_icmp_ne C (tgt := 46) dX7_putLock_39 (by decide) Iff.rfl (fun c_4 => ?_) (fun c_4 => ?_)
        · skip
          exact absurd rfl c_4
        · skip
          refine tt_iconst (v := (-1 : Int32)) C dX7_putLock_42 (by decide) ?_
          refine tt_goto (tgt := 53) C dX7_putLock_43 (by decide) ?_
          refine tt_istore (lv' := [(0, .ref (eA E 6 0)), (1, .int (nI d)), (2, .int (-1)), (3, .int (h 1 (60 * d + 6))), (4, .int (-1 : Int32))]) C dX7_putLock_53 (by decide) [1, 2, 3, 4, 0] rfl ?_
          refine tt_iload_n C dX7_putLock_55 rfl 3 rfl ?_
          refine tt_iconst (v := (-1 : Int32)) C dX7_putLock_56 (by decide) ?_
          refine tt_icmp_eq C (tgt := 73) dX7_putLock_57 (by decide) Iff.rfl (fun c_5 => ?_) (fun c_5 => ?_)
          · skip
            refine tt_iload C dX7_putLock_73 4 rfl ?_
            refine tt_iconst (v := (-1 : Int32)) C dX7_putLock_75 (by decide) ?_
            refine tt_icmp_eq C (tgt := 93) dX7_putLock_76 (by decide) Iff.rfl (fun c_6 => ?_) (fun c_6 => ?_)
            · skip
              refine tt_aload_n C dX7_putLock_93 rfl 0 rfl ?_
              refine tt_get (v := .ref (eA E 6 1)) C oM0 rfl hin7 0 (by decide) (List.mem_of_getElem? (i := 1) (by decide +kernel)) rfl dX7_putLock_94 ?_
              refine tt_bipush (v := nI 60) C dX7_putLock_97 (by decide) ?_
              refine tt_iload_n C dX7_putLock_99 rfl 1 rfl ?_
              refine tt_imul (v := nI (60 * d)) C dX7_putLock_100 (pk_mul _ _) ?_
              refine tt_bipush (v := nI 6) C dX7_putLock_101 (by decide) ?_
              refine tt_iadd (v := nI (60 * d + 6)) C dX7_putLock_103 (nI_add _ _) ?_
              refine tt_iload_n C dX7_putLock_104 rfl 2 rfl ?_
              refine tt_iastB C aM1 (60 * d + 6) rfl (by omega) dX7_putLock_105 ?_
              generalize e_8 : up2 h 1 (60 * d + 6) (-1) = h_7
              refine tt_iload_n C dX7_putLock_106 rfl 2 rfl ?_
              refine tt_iconst (v := (-1 : Int32)) C dX7_putLock_107 (by decide) ?_
              refine tt_icmp_eq C (tgt := 124) dX7_putLock_108 (by decide) Iff.rfl (fun c_9 => ?_) (fun c_9 => ?_)
              · skip
                refine tt_iload_n C dX7_putLock_124 rfl 3 rfl ?_
                exact tt_iret K dX7_putLock_125 (by subst e_8; rfl) (by subst e_8; refine congrArg _ ?_; simp only [M_lockN, M_unl, eq_true c_1, c_1, eq_true c_2, c_2, eq_true c_3, c_3, eq_true c_4, c_4, eq_true c_5, c_5, eq_true c_6, c_6, eq_true c_9, c_9, not_false_eq_true, not_true_eq_false, and_true, true_and, and_false, false_and, and_self, or_true, true_or, or_false, false_or, or_self, if_true, if_false]) rfl
              · skip
                exact absurd rfl c_9
            · skip
              exact absurd rfl c_6
          · skip
            have ho2 := ho.resolve_left c_5
            have ho2' := ix_lt ho2 (by decide)
            refine tt_aload_n C dX7_putLock_60 rfl 0 rfl ?_
            refine tt_get (v := .ref (eA E 6 1)) C oM0 rfl hin7 0 (by decide) (List.mem_of_getElem? (i := 1) (by decide +kernel)) rfl dX7_putLock_61 ?_
            refine tt_bipush (v := nI 60) C dX7_putLock_64 (by decide) ?_
            refine tt_iload_n C dX7_putLock_66 rfl 3 rfl ?_
            refine tt_to (st1 := [.int (nI (ix (h 1 (60 * d + 6)))), .int (nI 60), .ref (eA E 6 1)]) rfl rfl rfl (congrArg (fun z => ([.int z, .int (nI 60), .ref (eA E 6 1)] : List Value)) (ix_eq ho2 (by decide))) ?_
            refine tt_imul (v := nI (60 * (ix (h 1 (60 * d + 6))))) C dX7_putLock_67 (pk_mul _ _) ?_
            refine tt_bipush (v := nI 6) C dX7_putLock_68 (by decide) ?_
            refine tt_iadd (v := nI (60 * (ix (h 1 (60 * d + 6))) + 6)) C dX7_putLock_70 (nI_add _ _) ?_
            refine tt_iconst (v := (-1 : Int32)) C dX7_putLock_71 (by decide) ?_
            refine tt_iastB C aM1 (60 * (ix (h 1 (60 * d + 6))) + 6) rfl (by omega) dX7_putLock_72 ?_
            generalize e_11 : up2 h 1 (60 * (ix (h 1 (60 * d + 6))) + 6) (-1 : Int32) = h_10
            refine tt_iload C dX7_putLock_73 4 rfl ?_
            refine tt_iconst (v := (-1 : Int32)) C dX7_putLock_75 (by decide) ?_
            refine tt_icmp_eq C (tgt := 93) dX7_putLock_76 (by decide) Iff.rfl (fun c_12 => ?_) (fun c_12 => ?_)
            · skip
              refine tt_aload_n C dX7_putLock_93 rfl 0 rfl ?_
              refine tt_get (v := .ref (eA E 6 1)) C oM0 rfl hin7 0 (by decide) (List.mem_of_getElem? (i := 1) (by decide +kernel)) rfl dX7_putLock_94 ?_
              refine tt_bipush (v := nI 60) C dX7_putLock_97 (by decide) ?_
              refine tt_iload_n C dX7_putLock_99 rfl 1 rfl ?_
              refine tt_imul (v := nI (60 * d)) C dX7_putLock_100 (pk_mul _ _) ?_
              refine tt_bipush (v := nI 6) C dX7_putLock_101 (by decide) ?_
              refine tt_iadd (v := nI (60 * d + 6)) C dX7_putLock_103 (nI_add _ _) ?_
              refine tt_iload_n C dX7_putLock_104 rfl 2 rfl ?_
              refine tt_iastB C aM1 (60 * d + 6) rfl (by omega) dX7_putLock_105 ?_
              generalize e_14 : up2 h_10 1 (60 * d + 6) (-1) = h_13
              refine tt_iload_n C dX7_putLock_106 rfl 2 rfl ?_
              refine tt_iconst (v := (-1 : Int32)) C dX7_putLock_107 (by decide) ?_
              refine tt_icmp_eq C (tgt := 124) dX7_putLock_108 (by decide) Iff.rfl (fun c_15 => ?_) (fun c_15 => ?_)
              · skip
                refine tt_iload_n C dX7_putLock_124 rfl 3 rfl ?_
                exact tt_iret K dX7_putLock_125 (by subst e_14; subst e_11; rfl) (by subst e_14; subst e_11; refine congrArg _ ?_; simp only [M_lockN, M_unl, eq_true c_1, c_1, eq_true c_2, c_2, eq_true c_3, c_3, eq_true c_4, c_4, eq_true c_5, c_5, eq_true c_12, c_12, eq_true c_15, c_15, not_false_eq_true, not_true_eq_false, and_true, true_and, and_false, false_and, and_self, or_true, true_or, or_false, false_or, or_self, if_true, if_false]) rfl
              · skip
                exact absurd rfl c_15
            · skip
              exact absurd rfl c_12
      · skip
        exact absurd c_3 hdn
    · skip
      exact absurd rfl c_2

set_option maxHeartbeats 4000000 in
set_option maxRecDepth 100000 in
theorem c_X7_putLock_E (E : EN) (u : U3) (r : R1) (h : HB) (d : Nat) (e : Nat) (hD : vI (h 1 529) 9) (hdm : d < ix (h 1 529)) (hem : e < ix (h 1 529)) (hne : d ≠ e) (ho : h 1 (60 * d + 6) = -1 ∨ vI (h 1 (60 * d + 6)) 8) (ho9 : h 1 (60 * e + 6) = -1 ∨ vI (h 1 (60 * e + 6)) 8) : CT E yX7_putLock wsX7_putLock (rmT 2 43) [.ref (eA E 6 0), .int (nI d), .int (nI e)] (ub u 6 h) r (some (.int (h 1 (60 * d + 6)))) (ub u 6 (M_lockE h d e)) r := by
  refine CT_ofI (cc := cX7_putLock) (nL := 5) (own := RX7) (by decide) rfl rfl rfl (Nat.le_of_ble_eq_true rfl) (fun F C K => ?_)
  have hin7 : ∀ w ∈ u_ws RX7 TX7 15, w ∈ wsX7_putLock := by decide +kernel
  refine tt_to (lv1 := [(0, .ref (eA E 6 0)), (1, .int (nI d)), (2, .int (nI e))]) rfl rfl rfl rfl ?_
  have hD' := ix_lt hD (by decide)
  have hd : d < 8 := by omega
  have hdn : ¬ nI d = -1 := vI_ne (vI_nI hd) (by decide)
  have he : e < 8 := by omega
  have hen : ¬ nI e = -1 := vI_ne (vI_nI he) (by decide)
  refine tt_aload_n C dX7_putLock_0 rfl 0 rfl ?_
  refine tt_iload_n C dX7_putLock_1 rfl 1 rfl ?_
  refine tt_cVI C (c_X7_isDoor E u r h (nI d)) gX7_putLock_X7_isDoor rfl ⟨rfl, rfl⟩ 1 (by decide +kernel) ⟨Nat.le_of_ble_eq_true rfl, Nat.le_of_ble_eq_true rfl⟩ rfl oM0 rfl (Nat.le_of_ble_eq_true rfl) dX7_putLock_2 rfl ?_
  refine tt_if_eqB C (tgt := 26) dX7_putLock_5 (by decide) (fun c_1 => ?_) (fun c_1 => ?_)
  · skip
    exact absurd (in_ok hD (by decide) hdm) c_1
  · skip
    refine tt_iload_n C dX7_putLock_8 rfl 2 rfl ?_
    refine tt_iconst (v := (-1 : Int32)) C dX7_putLock_9 (by decide) ?_
    refine tt_icmp_eq C (tgt := 21) dX7_putLock_10 (by decide) Iff.rfl (fun c_2 => ?_) (fun c_2 => ?_)
    · skip
      exact absurd c_2 hen
    · skip
      refine tt_aload_n C dX7_putLock_13 rfl 0 rfl ?_
      refine tt_iload_n C dX7_putLock_14 rfl 2 rfl ?_
      refine tt_cVI C (c_X7_isDoor E u r h (nI e)) gX7_putLock_X7_isDoor rfl ⟨rfl, rfl⟩ 1 (by decide +kernel) ⟨Nat.le_of_ble_eq_true rfl, Nat.le_of_ble_eq_true rfl⟩ rfl oM0 rfl (Nat.le_of_ble_eq_true rfl) dX7_putLock_15 rfl ?_
      refine tt_if_eqB C (tgt := 26) dX7_putLock_18 (by decide) (fun c_3 => ?_) (fun c_3 => ?_)
      · skip
        exact absurd (in_ok hD (by decide) hem) c_3
      · skip
        refine tt_iload_n C dX7_putLock_21 rfl 1 rfl ?_
        refine tt_iload_n C dX7_putLock_22 rfl 2 rfl ?_
        refine tt_icmp_ne C (tgt := 29) dX7_putLock_23 (by decide) (nI_eq (by omega) (by omega)) (fun c_4 => ?_) (fun c_4 => ?_)
        · skip
          refine tt_aload_n C dX7_putLock_29 rfl 0 rfl ?_
          refine tt_iload_n C dX7_putLock_30 rfl 1 rfl ?_
          refine tt_bipush (v := nI 6) C dX7_putLock_31 (by decide) ?_
          refine tt_cVI C (c_X7_ofDoor E u r h d 6 (by first | assumption | omega) (by first | assumption | omega)) gX7_putLock_X7_ofDoor rfl ⟨rfl, rfl⟩ 2 (by decide +kernel) ⟨Nat.le_of_ble_eq_true rfl, Nat.le_of_ble_eq_true rfl⟩ rfl oM0 rfl (Nat.le_of_ble_eq_true rfl) dX7_putLock_33 rfl ?_
          refine tt_istore_n (lv' := [(0, .ref (eA E 6 0)), (1, .int (nI d)), (2, .int (nI e)), (3, .int (h 1 (60 * d + 6)))]) C dX7_putLock_36 rfl (by decide) [1, 2, 3, 0] rfl ?_
          refine tt_iload_n C dX7_putLock_37 rfl 2 rfl ?_
          refine tt_iconst (v := (-1 : Int32)) C dX7_putLock_38 (by decide) ?_
          refine tt_icmp_ne C (tgt := 46) dX7_putLock_39 (by decide) Iff.rfl (fun c_5 => ?_) (fun c_5 => ?_)
          · skip
            refine tt_aload_n C dX7_putLock_46 rfl 0 rfl ?_
            refine tt_iload_n C dX7_putLock_47 rfl 2 rfl ?_
            refine tt_bipush (v := nI 6) C dX7_putLock_48 (by decide) ?_
            refine tt_cVI C (c_X7_ofDoor E u r h e 6 (by first | assumption | omega) (by first | assumption | omega)) gX7_putLock_X7_ofDoor rfl ⟨rfl, rfl⟩ 2 (by decide +kernel) ⟨Nat.le_of_ble_eq_true rfl, Nat.le_of_ble_eq_true rfl⟩ rfl oM0 rfl (Nat.le_of_ble_eq_true rfl) dX7_putLock_50 rfl ?_
            refine tt_istore (lv' := [(0, .ref (eA E 6 0)), (1, .int (nI d)), (2, .int (nI e)), (3, .int (h 1 (60 * d + 6))), (4, .int (h 1 (60 * e + 6)))]) C dX7_putLock_53 (by decide) [1, 2, 3, 4, 0] rfl ?_
            refine tt_iload_n C dX7_putLock_55 rfl 3 rfl ?_
            refine tt_iconst (v := (-1 : Int32)) C dX7_putLock_56 (by decide) ?_
            refine tt_icmp_eq C (tgt := 73) dX7_putLock_57 (by decide) Iff.rfl (fun c_6 => ?_) (fun c_6 => ?_)
            · skip
              refine tt_iload C dX7_putLock_73 4 rfl ?_
              refine tt_iconst (v := (-1 : Int32)) C dX7_putLock_75 (by decide) ?_
              refine tt_icmp_eq C (tgt := 93) dX7_putLock_76 (by decide) Iff.rfl (fun c_7 => ?_) (fun c_7 => ?_)
              · skip
                refine tt_aload_n C dX7_putLock_93 rfl 0 rfl ?_
                refine tt_get (v := .ref (eA E 6 1)) C oM0 rfl hin7 0 (by decide) (List.mem_of_getElem? (i := 1) (by decide +kernel)) rfl dX7_putLock_94 ?_
                refine tt_bipush (v := nI 60) C dX7_putLock_97 (by decide) ?_
                refine tt_iload_n C dX7_putLock_99 rfl 1 rfl ?_
                refine tt_imul (v := nI (60 * d)) C dX7_putLock_100 (pk_mul _ _) ?_
                refine tt_bipush (v := nI 6) C dX7_putLock_101 (by decide) ?_
                refine tt_iadd (v := nI (60 * d + 6)) C dX7_putLock_103 (nI_add _ _) ?_
                refine tt_iload_n C dX7_putLock_104 rfl 2 rfl ?_
                refine tt_iastB C aM1 (60 * d + 6) rfl (by omega) dX7_putLock_105 ?_
                generalize e_9 : up2 h 1 (60 * d + 6) (nI e) = h_8
                refine tt_iload_n C dX7_putLock_106 rfl 2 rfl ?_
                refine tt_iconst (v := (-1 : Int32)) C dX7_putLock_107 (by decide) ?_
                refine tt_icmp_eq C (tgt := 124) dX7_putLock_108 (by decide) Iff.rfl (fun c_10 => ?_) (fun c_10 => ?_)
                · skip
                  exact absurd c_10 hen
                · skip
                  refine tt_aload_n C dX7_putLock_111 rfl 0 rfl ?_
                  refine tt_get (v := .ref (eA E 6 1)) C oM0 rfl hin7 0 (by decide) (List.mem_of_getElem? (i := 1) (by decide +kernel)) rfl dX7_putLock_112 ?_
                  refine tt_bipush (v := nI 60) C dX7_putLock_115 (by decide) ?_
                  refine tt_iload_n C dX7_putLock_117 rfl 2 rfl ?_
                  refine tt_imul (v := nI (60 * e)) C dX7_putLock_118 (pk_mul _ _) ?_
                  refine tt_bipush (v := nI 6) C dX7_putLock_119 (by decide) ?_
                  refine tt_iadd (v := nI (60 * e + 6)) C dX7_putLock_121 (nI_add _ _) ?_
                  refine tt_iload_n C dX7_putLock_122 rfl 1 rfl ?_
                  refine tt_iastB C aM1 (60 * e + 6) rfl (by omega) dX7_putLock_123 ?_
                  generalize e_12 : up2 h_8 1 (60 * e + 6) (nI d) = h_11
                  refine tt_iload_n C dX7_putLock_124 rfl 3 rfl ?_
                  exact tt_iret K dX7_putLock_125 (by subst e_12; subst e_9; rfl) (by subst e_12; subst e_9; refine congrArg _ ?_; simp only [M_lockE, M_unl, eq_true c_1, c_1, eq_true c_2, c_2, eq_true c_3, c_3, eq_true c_4, c_4, eq_true c_5, c_5, eq_true c_6, c_6, eq_true c_7, c_7, eq_true c_10, c_10, not_false_eq_true, not_true_eq_false, and_true, true_and, and_false, false_and, and_self, or_true, true_or, or_false, false_or, or_self, if_true, if_false]) rfl
              · skip
                have he2 := ho9.resolve_left c_7
                have he2' := ix_lt he2 (by decide)
                refine tt_aload_n C dX7_putLock_79 rfl 0 rfl ?_
                refine tt_get (v := .ref (eA E 6 1)) C oM0 rfl hin7 0 (by decide) (List.mem_of_getElem? (i := 1) (by decide +kernel)) rfl dX7_putLock_80 ?_
                refine tt_bipush (v := nI 60) C dX7_putLock_83 (by decide) ?_
                refine tt_iload C dX7_putLock_85 4 rfl ?_
                refine tt_to (st1 := [.int (nI (ix (h 1 (60 * e + 6)))), .int (nI 60), .ref (eA E 6 1)]) rfl rfl rfl (congrArg (fun z => ([.int z, .int (nI 60), .ref (eA E 6 1)] : List Value)) (ix_eq he2 (by decide))) ?_
                refine tt_imul (v := nI (60 * (ix (h 1 (60 * e + 6))))) C dX7_putLock_87 (pk_mul _ _) ?_
                refine tt_bipush (v := nI 6) C dX7_putLock_88 (by decide) ?_
                refine tt_iadd (v := nI (60 * (ix (h 1 (60 * e + 6))) + 6)) C dX7_putLock_90 (nI_add _ _) ?_
                refine tt_iconst (v := (-1 : Int32)) C dX7_putLock_91 (by decide) ?_
                refine tt_iastB C aM1 (60 * (ix (h 1 (60 * e + 6))) + 6) rfl (by omega) dX7_putLock_92 ?_
                generalize e_14 : up2 h 1 (60 * (ix (h 1 (60 * e + 6))) + 6) (-1 : Int32) = h_13
                refine tt_aload_n C dX7_putLock_93 rfl 0 rfl ?_
                refine tt_get (v := .ref (eA E 6 1)) C oM0 rfl hin7 0 (by decide) (List.mem_of_getElem? (i := 1) (by decide +kernel)) rfl dX7_putLock_94 ?_
                refine tt_bipush (v := nI 60) C dX7_putLock_97 (by decide) ?_
                refine tt_iload_n C dX7_putLock_99 rfl 1 rfl ?_
                refine tt_imul (v := nI (60 * d)) C dX7_putLock_100 (pk_mul _ _) ?_
                refine tt_bipush (v := nI 6) C dX7_putLock_101 (by decide) ?_
                refine tt_iadd (v := nI (60 * d + 6)) C dX7_putLock_103 (nI_add _ _) ?_
                refine tt_iload_n C dX7_putLock_104 rfl 2 rfl ?_
                refine tt_iastB C aM1 (60 * d + 6) rfl (by omega) dX7_putLock_105 ?_
                generalize e_16 : up2 h_13 1 (60 * d + 6) (nI e) = h_15
                refine tt_iload_n C dX7_putLock_106 rfl 2 rfl ?_
                refine tt_iconst (v := (-1 : Int32)) C dX7_putLock_107 (by decide) ?_
                refine tt_icmp_eq C (tgt := 124) dX7_putLock_108 (by decide) Iff.rfl (fun c_17 => ?_) (fun c_17 => ?_)
                · skip
                  exact absurd c_17 hen
                · skip
                  refine tt_aload_n C dX7_putLock_111 rfl 0 rfl ?_
                  refine tt_get (v := .ref (eA E 6 1)) C oM0 rfl hin7 0 (by decide) (List.mem_of_getElem? (i := 1) (by decide +kernel)) rfl dX7_putLock_112 ?_
                  refine tt_bipush (v := nI 60) C dX7_putLock_115 (by decide) ?_
                  refine tt_iload_n C dX7_putLock_117 rfl 2 rfl ?_
                  refine tt_imul (v := nI (60 * e)) C dX7_putLock_118 (pk_mul _ _) ?_
                  refine tt_bipush (v := nI 6) C dX7_putLock_119 (by decide) ?_
                  refine tt_iadd (v := nI (60 * e + 6)) C dX7_putLock_121 (nI_add _ _) ?_
                  refine tt_iload_n C dX7_putLock_122 rfl 1 rfl ?_
                  refine tt_iastB C aM1 (60 * e + 6) rfl (by omega) dX7_putLock_123 ?_
                  generalize e_19 : up2 h_15 1 (60 * e + 6) (nI d) = h_18
                  refine tt_iload_n C dX7_putLock_124 rfl 3 rfl ?_
                  exact tt_iret K dX7_putLock_125 (by subst e_19; subst e_16; subst e_14; rfl) (by subst e_19; subst e_16; subst e_14; refine congrArg _ ?_; simp only [M_lockE, M_unl, eq_true c_1, c_1, eq_true c_2, c_2, eq_true c_3, c_3, eq_true c_4, c_4, eq_true c_5, c_5, eq_true c_6, c_6, eq_true c_7, c_7, eq_true c_17, c_17, not_false_eq_true, not_true_eq_false, and_true, true_and, and_false, false_and, and_self, or_true, true_or, or_false, false_or, or_self, if_true, if_false]) rfl
            · skip
              have ho2 := ho.resolve_left c_6
              have ho2' := ix_lt ho2 (by decide)
              refine tt_aload_n C dX7_putLock_60 rfl 0 rfl ?_
              refine tt_get (v := .ref (eA E 6 1)) C oM0 rfl hin7 0 (by decide) (List.mem_of_getElem? (i := 1) (by decide +kernel)) rfl dX7_putLock_61 ?_
              refine tt_bipush (v := nI 60) C dX7_putLock_64 (by decide) ?_
              refine tt_iload_n C dX7_putLock_66 rfl 3 rfl ?_
              refine tt_to (st1 := [.int (nI (ix (h 1 (60 * d + 6)))), .int (nI 60), .ref (eA E 6 1)]) rfl rfl rfl (congrArg (fun z => ([.int z, .int (nI 60), .ref (eA E 6 1)] : List Value)) (ix_eq ho2 (by decide))) ?_
              refine tt_imul (v := nI (60 * (ix (h 1 (60 * d + 6))))) C dX7_putLock_67 (pk_mul _ _) ?_
              refine tt_bipush (v := nI 6) C dX7_putLock_68 (by decide) ?_
              refine tt_iadd (v := nI (60 * (ix (h 1 (60 * d + 6))) + 6)) C dX7_putLock_70 (nI_add _ _) ?_
              refine tt_iconst (v := (-1 : Int32)) C dX7_putLock_71 (by decide) ?_
              refine tt_iastB C aM1 (60 * (ix (h 1 (60 * d + 6))) + 6) rfl (by omega) dX7_putLock_72 ?_
              generalize e_21 : up2 h 1 (60 * (ix (h 1 (60 * d + 6))) + 6) (-1 : Int32) = h_20
              refine tt_iload C dX7_putLock_73 4 rfl ?_
              refine tt_iconst (v := (-1 : Int32)) C dX7_putLock_75 (by decide) ?_
              refine tt_icmp_eq C (tgt := 93) dX7_putLock_76 (by decide) Iff.rfl (fun c_22 => ?_) (fun c_22 => ?_)
              · skip
                refine tt_aload_n C dX7_putLock_93 rfl 0 rfl ?_
                refine tt_get (v := .ref (eA E 6 1)) C oM0 rfl hin7 0 (by decide) (List.mem_of_getElem? (i := 1) (by decide +kernel)) rfl dX7_putLock_94 ?_
                refine tt_bipush (v := nI 60) C dX7_putLock_97 (by decide) ?_
                refine tt_iload_n C dX7_putLock_99 rfl 1 rfl ?_
                refine tt_imul (v := nI (60 * d)) C dX7_putLock_100 (pk_mul _ _) ?_
                refine tt_bipush (v := nI 6) C dX7_putLock_101 (by decide) ?_
                refine tt_iadd (v := nI (60 * d + 6)) C dX7_putLock_103 (nI_add _ _) ?_
                refine tt_iload_n C dX7_putLock_104 rfl 2 rfl ?_
                refine tt_iastB C aM1 (60 * d + 6) rfl (by omega) dX7_putLock_105 ?_
                generalize e_24 : up2 h_20 1 (60 * d + 6) (nI e) = h_23
                refine tt_iload_n C dX7_putLock_106 rfl 2 rfl ?_
                refine tt_iconst (v := (-1 : Int32)) C dX7_putLock_107 (by decide) ?_
                refine tt_icmp_eq C (tgt := 124) dX7_putLock_108 (by decide) Iff.rfl (fun c_25 => ?_) (fun c_25 => ?_)
                · skip
                  exact absurd c_25 hen
                · skip
                  refine tt_aload_n C dX7_putLock_111 rfl 0 rfl ?_
                  refine tt_get (v := .ref (eA E 6 1)) C oM0 rfl hin7 0 (by decide) (List.mem_of_getElem? (i := 1) (by decide +kernel)) rfl dX7_putLock_112 ?_
                  refine tt_bipush (v := nI 60) C dX7_putLock_115 (by decide) ?_
                  refine tt_iload_n C dX7_putLock_117 rfl 2 rfl ?_
                  refine tt_imul (v := nI (60 * e)) C dX7_putLock_118 (pk_mul _ _) ?_
                  refine tt_bipush (v := nI 6) C dX7_putLock_119 (by decide) ?_
                  refine tt_iadd (v := nI (60 * e + 6)) C dX7_putLock_121 (nI_add _ _) ?_
                  refine tt_iload_n C dX7_putLock_122 rfl 1 rfl ?_
                  refine tt_iastB C aM1 (60 * e + 6) rfl (by omega) dX7_putLock_123 ?_
                  generalize e_27 : up2 h_23 1 (60 * e + 6) (nI d) = h_26
                  refine tt_iload_n C dX7_putLock_124 rfl 3 rfl ?_
                  exact tt_iret K dX7_putLock_125 (by subst e_27; subst e_24; subst e_21; rfl) (by subst e_27; subst e_24; subst e_21; refine congrArg _ ?_; simp only [M_lockE, M_unl, eq_true c_1, c_1, eq_true c_2, c_2, eq_true c_3, c_3, eq_true c_4, c_4, eq_true c_5, c_5, eq_true c_6, c_6, eq_true c_22, c_22, eq_true c_25, c_25, not_false_eq_true, not_true_eq_false, and_true, true_and, and_false, false_and, and_self, or_true, true_or, or_false, false_or, or_self, if_true, if_false]) rfl
              · skip
                have he2 := ho9.resolve_left c_22
                have he2' := ix_lt he2 (by decide)
                refine tt_aload_n C dX7_putLock_79 rfl 0 rfl ?_
                refine tt_get (v := .ref (eA E 6 1)) C oM0 rfl hin7 0 (by decide) (List.mem_of_getElem? (i := 1) (by decide +kernel)) rfl dX7_putLock_80 ?_
                refine tt_bipush (v := nI 60) C dX7_putLock_83 (by decide) ?_
                refine tt_iload C dX7_putLock_85 4 rfl ?_
                refine tt_to (st1 := [.int (nI (ix (h 1 (60 * e + 6)))), .int (nI 60), .ref (eA E 6 1)]) rfl rfl rfl (congrArg (fun z => ([.int z, .int (nI 60), .ref (eA E 6 1)] : List Value)) (ix_eq he2 (by decide))) ?_
                refine tt_imul (v := nI (60 * (ix (h 1 (60 * e + 6))))) C dX7_putLock_87 (pk_mul _ _) ?_
                refine tt_bipush (v := nI 6) C dX7_putLock_88 (by decide) ?_
                refine tt_iadd (v := nI (60 * (ix (h 1 (60 * e + 6))) + 6)) C dX7_putLock_90 (nI_add _ _) ?_
                refine tt_iconst (v := (-1 : Int32)) C dX7_putLock_91 (by decide) ?_
                refine tt_iastB C aM1 (60 * (ix (h 1 (60 * e + 6))) + 6) rfl (by omega) dX7_putLock_92 ?_
                generalize e_29 : up2 h_20 1 (60 * (ix (h 1 (60 * e + 6))) + 6) (-1 : Int32) = h_28
                refine tt_aload_n C dX7_putLock_93 rfl 0 rfl ?_
                refine tt_get (v := .ref (eA E 6 1)) C oM0 rfl hin7 0 (by decide) (List.mem_of_getElem? (i := 1) (by decide +kernel)) rfl dX7_putLock_94 ?_
                refine tt_bipush (v := nI 60) C dX7_putLock_97 (by decide) ?_
                refine tt_iload_n C dX7_putLock_99 rfl 1 rfl ?_
                refine tt_imul (v := nI (60 * d)) C dX7_putLock_100 (pk_mul _ _) ?_
                refine tt_bipush (v := nI 6) C dX7_putLock_101 (by decide) ?_
                refine tt_iadd (v := nI (60 * d + 6)) C dX7_putLock_103 (nI_add _ _) ?_
                refine tt_iload_n C dX7_putLock_104 rfl 2 rfl ?_
                refine tt_iastB C aM1 (60 * d + 6) rfl (by omega) dX7_putLock_105 ?_
                generalize e_31 : up2 h_28 1 (60 * d + 6) (nI e) = h_30
                refine tt_iload_n C dX7_putLock_106 rfl 2 rfl ?_
                refine tt_iconst (v := (-1 : Int32)) C dX7_putLock_107 (by decide) ?_
                refine tt_icmp_eq C (tgt := 124) dX7_putLock_108 (by decide) Iff.rfl (fun c_32 => ?_) (fun c_32 => ?_)
                · skip
                  exact absurd c_32 hen
                · skip
                  refine tt_aload_n C dX7_putLock_111 rfl 0 rfl ?_
                  refine tt_get (v := .ref (eA E 6 1)) C oM0 rfl hin7 0 (by decide) (List.mem_of_getElem? (i := 1) (by decide +kernel)) rfl dX7_putLock_112 ?_
                  refine tt_bipush (v := nI 60) C dX7_putLock_115 (by decide) ?_
                  refine tt_iload_n C dX7_putLock_117 rfl 2 rfl ?_
                  refine tt_imul (v := nI (60 * e)) C dX7_putLock_118 (pk_mul _ _) ?_
                  refine tt_bipush (v := nI 6) C dX7_putLock_119 (by decide) ?_
                  refine tt_iadd (v := nI (60 * e + 6)) C dX7_putLock_121 (nI_add _ _) ?_
                  refine tt_iload_n C dX7_putLock_122 rfl 1 rfl ?_
                  refine tt_iastB C aM1 (60 * e + 6) rfl (by omega) dX7_putLock_123 ?_
                  generalize e_34 : up2 h_30 1 (60 * e + 6) (nI d) = h_33
                  refine tt_iload_n C dX7_putLock_124 rfl 3 rfl ?_
                  exact tt_iret K dX7_putLock_125 (by subst e_34; subst e_31; subst e_29; subst e_21; rfl) (by subst e_34; subst e_31; subst e_29; subst e_21; refine congrArg _ ?_; simp only [M_lockE, M_unl, eq_true c_1, c_1, eq_true c_2, c_2, eq_true c_3, c_3, eq_true c_4, c_4, eq_true c_5, c_5, eq_true c_6, c_6, eq_true c_22, c_22, eq_true c_32, c_32, not_false_eq_true, not_true_eq_false, and_true, true_and, and_false, false_and, and_self, or_true, true_or, or_false, false_or, or_self, if_true, if_false]) rfl
          · skip
            exact absurd c_5 hen
        · skip
          exact absurd c_4 hne

abbrev M_is (h : HB) (j : Nat) : Prop := ¬ nI j < nI 0 ∧ ¬ h 1 530 - nI 1 < nI j
def M_tcA (h : HB) : Nat → Int32
  | 0 => nI 0
  | j + 1 => M_tcA h j ||| (if ¬ M_is h j ∨ h 1 (480 + 6 * j + 1) = nI 1 then nI 1 <<< (nI j &&& 31) else nI 0)
def M_tcB (h : HB) (d j : Nat) (x : HB) : HB := up2 x 1 (60 * d + 10 + 1 + j) (if M_is h j then h 1 (480 + 6 * j + 0) else nI 0)
def M_copy (h : HB) (d : Nat) : HB := up2 (iter (M_tcB h d) 8 h) 1 (60 * d + 10) (M_tcA h 8)
theorem M_tcB_n (g h : HB) (d n j : Nat) (hn : n ≤ 8) (hj : j < 60 * d + 11 ∨ 60 * d + 19 ≤ j) : iter (M_tcB g d) n h 1 j = h 1 j := by
  induction n with
  | zero => rfl
  | succ n ih => rw [iter, M_tcB, up2_n (fun z => by omega)]; exact ih (by omega)
theorem M_tcB_k (g h : HB) (d n k j : Nat) (hk : k ≠ 1) : iter (M_tcB g d) n h k j = h k j := iter_keep (fun x : HB => x k j) (fun n x => up2_n (fun z => hk z.1)) n h

set_option maxHeartbeats 4000000 in
set_option maxRecDepth 100000 in
theorem l_tc (E : EN) (u : U3) (r : R1) (h : HB) (d : Nat) (hd : d < 8) (F : FX) (C : Cx E F cX7_takeCopy 5 RX7 wsX7_takeCopy (rmT 2 43)) (K : RtV E F cX7_takeCopy (ub u 6 (M_copy h d)) r) : ∀ (n j : Nat), j ≤ 8 → 8 + 1 ≤ j + n → T E F 5 (ub u 6 (iter (M_tcB h d) j h)) r 4 [(0, .ref (eA E 6 0)), (1, .int (nI d)), (2, .int (M_tcA h j)), (3, .int (nI j))] [] := by
  have hin7 : ∀ w ∈ u_ws RX7 TX7 15, w ∈ wsX7_takeCopy := by decide +kernel
  intro n
  induction n with
  | zero => intro j h1 h2; exact absurd h2 (by omega)
  | succ n ih =>
    intro j h1 h2
    generalize ej : iter (M_tcB h d) j h = hj
    have fb : hj 1 530 = h 1 530 := by rw [← ej]; exact M_tcB_n _ _ _ _ _ h1 (by omega)
    have fq1 : hj 1 (480 + 6 * j + 1) = h 1 (480 + 6 * j + 1) := by rw [← ej]; exact M_tcB_n _ _ _ _ _ h1 (by omega)
    have fq0 : hj 1 (480 + 6 * j + 0) = h 1 (480 + 6 * j + 0) := by rw [← ej]; exact M_tcB_n _ _ _ _ _ h1 (by omega)
    refine tt_iload_n C dX7_takeCopy_4 rfl 3 rfl ?_
    refine tt_bipush (v := nI 8) C dX7_takeCopy_5 (by decide) ?_
    refine tt_icmp_ge C (tgt := 79) dX7_takeCopy_7 (by decide) (nI_leI (by omega) (by omega)) (fun c_101 => ?_) (fun c_101 => ?_)
    · skip
      have hje : j = 8 := (by omega); subst hje
      refine tt_aload_n C dX7_takeCopy_79 rfl 0 rfl ?_
      refine tt_get (v := .ref (eA E 6 1)) C oM0 rfl hin7 0 (by decide) (List.mem_of_getElem? (i := 1) (by decide +kernel)) rfl dX7_takeCopy_80 ?_
      refine tt_bipush (v := nI 60) C dX7_takeCopy_83 (by decide) ?_
      refine tt_iload_n C dX7_takeCopy_85 rfl 1 rfl ?_
      refine tt_imul (v := nI (60 * d)) C dX7_takeCopy_86 (pk_mul _ _) ?_
      refine tt_bipush (v := nI 10) C dX7_takeCopy_87 (by decide) ?_
      refine tt_iadd (v := nI (60 * d + 10)) C dX7_takeCopy_89 (nI_add _ _) ?_
      refine tt_iload_n C dX7_takeCopy_90 rfl 2 rfl ?_
      refine tt_iastB C aM1 (60 * d + 10) rfl (by omega) dX7_takeCopy_91 ?_
      generalize e_103 : up2 hj 1 (60 * d + 10) (M_tcA h 8) = h_102
      exact tt_vret K dX7_takeCopy_92 (by subst e_103; subst ej; rfl) rfl
    · skip
      refine tt_aload_n C dX7_takeCopy_10 rfl 0 rfl ?_
      refine tt_iload_n C dX7_takeCopy_11 rfl 3 rfl ?_
      refine tt_cVI C (c_X7_isBadge E u r hj (nI j)) gX7_takeCopy_X7_isBadge rfl ⟨rfl, rfl⟩ 1 (by decide +kernel) ⟨Nat.le_of_ble_eq_true rfl, Nat.le_of_ble_eq_true rfl⟩ rfl oM0 rfl (Nat.le_of_ble_eq_true rfl) dX7_takeCopy_12 rfl ?_
      refine tt_istore (lv' := [(0, .ref (eA E 6 0)), (1, .int (nI d)), (2, .int (M_tcA h j)), (3, .int (nI j)), (4, .int (b2i (¬ (nI j) < nI 0 ∧ ¬ hj 1 530 - nI 1 < (nI j))))]) C dX7_takeCopy_15 (by decide) [1, 2, 3, 4, 0] rfl ?_
      refine tt_iload_n C dX7_takeCopy_17 rfl 2 rfl ?_
      refine tt_iload C dX7_takeCopy_18 4 rfl ?_
      refine tt_if_eqB C (tgt := 33) dX7_takeCopy_20 (by decide) (fun c_104 => ?_) (fun c_104 => ?_)
      · skip
        refine tt_iconst (v := nI 1) C dX7_takeCopy_33 (by decide) ?_
        refine tt_iload_n C dX7_takeCopy_34 rfl 3 rfl ?_
        refine tt_ishl C dX7_takeCopy_35 rfl ?_
        refine tt_goto (tgt := 40) C dX7_takeCopy_36 (by decide) ?_
        refine tt_ior C dX7_takeCopy_40 rfl ?_
        refine tt_istore_n (lv' := [(0, .ref (eA E 6 0)), (1, .int (nI d)), (2, .int ((M_tcA h j) ||| ((nI 1) <<< ((nI j) &&& 31)))), (3, .int (nI j)), (4, .int (b2i (¬ (nI j) < nI 0 ∧ ¬ hj 1 530 - nI 1 < (nI j))))]) C dX7_takeCopy_41 rfl (by decide) [1, 2, 0, 3, 4] rfl ?_
        refine tt_aload_n C dX7_takeCopy_42 rfl 0 rfl ?_
        refine tt_get (v := .ref (eA E 6 1)) C oM0 rfl hin7 0 (by decide) (List.mem_of_getElem? (i := 1) (by decide +kernel)) rfl dX7_takeCopy_43 ?_
        refine tt_bipush (v := nI 60) C dX7_takeCopy_46 (by decide) ?_
        refine tt_iload_n C dX7_takeCopy_48 rfl 1 rfl ?_
        refine tt_imul (v := nI (60 * d)) C dX7_takeCopy_49 (pk_mul _ _) ?_
        refine tt_bipush (v := nI 10) C dX7_takeCopy_50 (by decide) ?_
        refine tt_iadd (v := nI (60 * d + 10)) C dX7_takeCopy_52 (nI_add _ _) ?_
        refine tt_iconst (v := nI 1) C dX7_takeCopy_53 (by decide) ?_
        refine tt_iadd (v := nI (60 * d + 10 + 1)) C dX7_takeCopy_54 (nI_add _ _) ?_
        refine tt_iload_n C dX7_takeCopy_55 rfl 3 rfl ?_
        refine tt_iadd (v := nI (60 * d + 10 + 1 + j)) C dX7_takeCopy_56 (nI_add _ _) ?_
        refine tt_iload C dX7_takeCopy_57 4 rfl ?_
        refine tt_if_eqB C (tgt := 71) dX7_takeCopy_59 (by decide) (fun c_105 => ?_) (fun c_105 => ?_)
        · skip
          refine tt_iconst (v := nI 0) C dX7_takeCopy_71 (by decide) ?_
          refine tt_iastB C aM1 (60 * d + 10 + 1 + j) rfl (by omega) dX7_takeCopy_72 ?_
          generalize e_107 : up2 hj 1 (60 * d + 10 + 1 + j) (nI 0) = h_106
          refine tt_iinc (p := 3) (v := nI (j + 1)) (lv' := [(0, .ref (eA E 6 0)), (1, .int (nI d)), (2, .int ((M_tcA h j) ||| ((nI 1) <<< ((nI j) &&& 31)))), (3, .int (nI (j + 1))), (4, .int (b2i (¬ (nI j) < nI 0 ∧ ¬ hj 1 530 - nI 1 < (nI j))))]) C dX7_takeCopy_73 rfl (by rw [show Int32.ofInt 1 = nI 1 from by decide]; exact nI_add _ _) (by decide) [1, 2, 3, 0, 4] rfl ?_
          refine tt_goto (tgt := 4) C dX7_takeCopy_76 (by decide) ?_
          subst e_107
          subst ej
          rw [fb] at c_104 c_105
          refine tt_lvsub [0, 1, 2, 3] rfl ?_
          refine tt_to (u1 := ub u 6 (iter (M_tcB h d) (j + 1) h)) (lv1 := [(0, .ref (eA E 6 0)), (1, .int (nI d)), (2, .int (M_tcA h (j + 1))), (3, .int (nI (j + 1)))]) (congrArg _ ?_) ?_ ?_ rfl (ih (j + 1) (by omega) (by omega))
          · rw [iter, M_tcB, if_neg c_105]
          · rfl
          · rw [M_tcA, if_pos (Or.inl c_104)]; rfl
        · skip
          exact absurd c_105 c_104
      · skip
        refine tt_aload_n C dX7_takeCopy_23 rfl 0 rfl ?_
        refine tt_iload_n C dX7_takeCopy_24 rfl 3 rfl ?_
        refine tt_iconst (v := nI 1) C dX7_takeCopy_25 (by decide) ?_
        refine tt_cVI C (c_X7_ofBadge E u r hj j 1 (by first | assumption | omega) (by first | assumption | omega)) gX7_takeCopy_X7_ofBadge rfl ⟨rfl, rfl⟩ 2 (by decide +kernel) ⟨Nat.le_of_ble_eq_true rfl, Nat.le_of_ble_eq_true rfl⟩ rfl oM0 rfl (Nat.le_of_ble_eq_true rfl) dX7_takeCopy_26 rfl ?_
        refine tt_to (st1 := [.int (h 1 (480 + 6 * j + 1)), .int (M_tcA h j)]) rfl rfl rfl (congrArg (fun z => ([.int z, .int (M_tcA h j)] : List Value)) fq1) ?_
        refine tt_iconst (v := nI 1) C dX7_takeCopy_29 (by decide) ?_
        refine tt_icmp_ne C (tgt := 39) dX7_takeCopy_30 (by decide) Iff.rfl (fun c_108 => ?_) (fun c_108 => ?_)
        · skip
          refine tt_iconst (v := nI 0) C dX7_takeCopy_39 (by decide) ?_
          refine tt_ior C dX7_takeCopy_40 rfl ?_
          refine tt_istore_n (lv' := [(0, .ref (eA E 6 0)), (1, .int (nI d)), (2, .int ((M_tcA h j) ||| (nI 0))), (3, .int (nI j)), (4, .int (b2i (¬ (nI j) < nI 0 ∧ ¬ hj 1 530 - nI 1 < (nI j))))]) C dX7_takeCopy_41 rfl (by decide) [1, 2, 0, 3, 4] rfl ?_
          refine tt_aload_n C dX7_takeCopy_42 rfl 0 rfl ?_
          refine tt_get (v := .ref (eA E 6 1)) C oM0 rfl hin7 0 (by decide) (List.mem_of_getElem? (i := 1) (by decide +kernel)) rfl dX7_takeCopy_43 ?_
          refine tt_bipush (v := nI 60) C dX7_takeCopy_46 (by decide) ?_
          refine tt_iload_n C dX7_takeCopy_48 rfl 1 rfl ?_
          refine tt_imul (v := nI (60 * d)) C dX7_takeCopy_49 (pk_mul _ _) ?_
          refine tt_bipush (v := nI 10) C dX7_takeCopy_50 (by decide) ?_
          refine tt_iadd (v := nI (60 * d + 10)) C dX7_takeCopy_52 (nI_add _ _) ?_
          refine tt_iconst (v := nI 1) C dX7_takeCopy_53 (by decide) ?_
          refine tt_iadd (v := nI (60 * d + 10 + 1)) C dX7_takeCopy_54 (nI_add _ _) ?_
          refine tt_iload_n C dX7_takeCopy_55 rfl 3 rfl ?_
          refine tt_iadd (v := nI (60 * d + 10 + 1 + j)) C dX7_takeCopy_56 (nI_add _ _) ?_
          refine tt_iload C dX7_takeCopy_57 4 rfl ?_
          refine tt_if_eqB C (tgt := 71) dX7_takeCopy_59 (by decide) (fun c_109 => ?_) (fun c_109 => ?_)
          · skip
            exact absurd c_104 c_109
          · skip
            refine tt_aload_n C dX7_takeCopy_62 rfl 0 rfl ?_
            refine tt_iload_n C dX7_takeCopy_63 rfl 3 rfl ?_
            refine tt_iconst (v := nI 0) C dX7_takeCopy_64 (by decide) ?_
            refine tt_cVI C (c_X7_ofBadge E u r hj j 0 (by first | assumption | omega) (by first | assumption | omega)) gX7_takeCopy_X7_ofBadge rfl ⟨rfl, rfl⟩ 2 (by decide +kernel) ⟨Nat.le_of_ble_eq_true rfl, Nat.le_of_ble_eq_true rfl⟩ rfl oM0 rfl (Nat.le_of_ble_eq_true rfl) dX7_takeCopy_65 rfl ?_
            refine tt_to (st1 := [.int (h 1 (480 + 6 * j + 0)), .int (nI (60 * d + 10 + 1 + j)), .ref (eA E 6 1)]) rfl rfl rfl (congrArg (fun z => ([.int z, .int (nI (60 * d + 10 + 1 + j)), .ref (eA E 6 1)] : List Value)) fq0) ?_
            refine tt_goto (tgt := 72) C dX7_takeCopy_68 (by decide) ?_
            refine tt_iastB C aM1 (60 * d + 10 + 1 + j) rfl (by omega) dX7_takeCopy_72 ?_
            generalize e_111 : up2 hj 1 (60 * d + 10 + 1 + j) (h 1 (480 + 6 * j + 0)) = h_110
            refine tt_iinc (p := 3) (v := nI (j + 1)) (lv' := [(0, .ref (eA E 6 0)), (1, .int (nI d)), (2, .int ((M_tcA h j) ||| (nI 0))), (3, .int (nI (j + 1))), (4, .int (b2i (¬ (nI j) < nI 0 ∧ ¬ hj 1 530 - nI 1 < (nI j))))]) C dX7_takeCopy_73 rfl (by rw [show Int32.ofInt 1 = nI 1 from by decide]; exact nI_add _ _) (by decide) [1, 2, 3, 0, 4] rfl ?_
            refine tt_goto (tgt := 4) C dX7_takeCopy_76 (by decide) ?_
            subst e_111
            subst ej
            rw [fb] at c_104 c_109
            refine tt_lvsub [0, 1, 2, 3] rfl ?_
            refine tt_to (u1 := ub u 6 (iter (M_tcB h d) (j + 1) h)) (lv1 := [(0, .ref (eA E 6 0)), (1, .int (nI d)), (2, .int (M_tcA h (j + 1))), (3, .int (nI (j + 1)))]) (congrArg _ ?_) ?_ ?_ rfl (ih (j + 1) (by omega) (by omega))
            · rw [iter, M_tcB, if_pos c_109]
            · rfl
            · rw [M_tcA, if_neg (fun z => z.elim (fun y => y c_104) c_108)]; rfl
        · skip
          refine tt_iconst (v := nI 1) C dX7_takeCopy_33 (by decide) ?_
          refine tt_iload_n C dX7_takeCopy_34 rfl 3 rfl ?_
          refine tt_ishl C dX7_takeCopy_35 rfl ?_
          refine tt_goto (tgt := 40) C dX7_takeCopy_36 (by decide) ?_
          refine tt_ior C dX7_takeCopy_40 rfl ?_
          refine tt_istore_n (lv' := [(0, .ref (eA E 6 0)), (1, .int (nI d)), (2, .int ((M_tcA h j) ||| ((nI 1) <<< ((nI j) &&& 31)))), (3, .int (nI j)), (4, .int (b2i (¬ (nI j) < nI 0 ∧ ¬ hj 1 530 - nI 1 < (nI j))))]) C dX7_takeCopy_41 rfl (by decide) [1, 2, 0, 3, 4] rfl ?_
          refine tt_aload_n C dX7_takeCopy_42 rfl 0 rfl ?_
          refine tt_get (v := .ref (eA E 6 1)) C oM0 rfl hin7 0 (by decide) (List.mem_of_getElem? (i := 1) (by decide +kernel)) rfl dX7_takeCopy_43 ?_
          refine tt_bipush (v := nI 60) C dX7_takeCopy_46 (by decide) ?_
          refine tt_iload_n C dX7_takeCopy_48 rfl 1 rfl ?_
          refine tt_imul (v := nI (60 * d)) C dX7_takeCopy_49 (pk_mul _ _) ?_
          refine tt_bipush (v := nI 10) C dX7_takeCopy_50 (by decide) ?_
          refine tt_iadd (v := nI (60 * d + 10)) C dX7_takeCopy_52 (nI_add _ _) ?_
          refine tt_iconst (v := nI 1) C dX7_takeCopy_53 (by decide) ?_
          refine tt_iadd (v := nI (60 * d + 10 + 1)) C dX7_takeCopy_54 (nI_add _ _) ?_
          refine tt_iload_n C dX7_takeCopy_55 rfl 3 rfl ?_
          refine tt_iadd (v := nI (60 * d + 10 + 1 + j)) C dX7_takeCopy_56 (nI_add _ _) ?_
          refine tt_iload C dX7_takeCopy_57 4 rfl ?_
          refine tt_if_eqB C (tgt := 71) dX7_takeCopy_59 (by decide) (fun c_112 => ?_) (fun c_112 => ?_)
          · skip
            exact absurd c_104 c_112
          · skip
            refine tt_aload_n C dX7_takeCopy_62 rfl 0 rfl ?_
            refine tt_iload_n C dX7_takeCopy_63 rfl 3 rfl ?_
            refine tt_iconst (v := nI 0) C dX7_takeCopy_64 (by decide) ?_
            refine tt_cVI C (c_X7_ofBadge E u r hj j 0 (by first | assumption | omega) (by first | assumption | omega)) gX7_takeCopy_X7_ofBadge rfl ⟨rfl, rfl⟩ 2 (by decide +kernel) ⟨Nat.le_of_ble_eq_true rfl, Nat.le_of_ble_eq_true rfl⟩ rfl oM0 rfl (Nat.le_of_ble_eq_true rfl) dX7_takeCopy_65 rfl ?_
            refine tt_to (st1 := [.int (h 1 (480 + 6 * j + 0)), .int (nI (60 * d + 10 + 1 + j)), .ref (eA E 6 1)]) rfl rfl rfl (congrArg (fun z => ([.int z, .int (nI (60 * d + 10 + 1 + j)), .ref (eA E 6 1)] : List Value)) fq0) ?_
            refine tt_goto (tgt := 72) C dX7_takeCopy_68 (by decide) ?_
            refine tt_iastB C aM1 (60 * d + 10 + 1 + j) rfl (by omega) dX7_takeCopy_72 ?_
            generalize e_114 : up2 hj 1 (60 * d + 10 + 1 + j) (h 1 (480 + 6 * j + 0)) = h_113
            refine tt_iinc (p := 3) (v := nI (j + 1)) (lv' := [(0, .ref (eA E 6 0)), (1, .int (nI d)), (2, .int ((M_tcA h j) ||| ((nI 1) <<< ((nI j) &&& 31)))), (3, .int (nI (j + 1))), (4, .int (b2i (¬ (nI j) < nI 0 ∧ ¬ hj 1 530 - nI 1 < (nI j))))]) C dX7_takeCopy_73 rfl (by rw [show Int32.ofInt 1 = nI 1 from by decide]; exact nI_add _ _) (by decide) [1, 2, 3, 0, 4] rfl ?_
            refine tt_goto (tgt := 4) C dX7_takeCopy_76 (by decide) ?_
            subst e_114
            subst ej
            rw [fb] at c_104 c_112
            refine tt_lvsub [0, 1, 2, 3] rfl ?_
            refine tt_to (u1 := ub u 6 (iter (M_tcB h d) (j + 1) h)) (lv1 := [(0, .ref (eA E 6 0)), (1, .int (nI d)), (2, .int (M_tcA h (j + 1))), (3, .int (nI (j + 1)))]) (congrArg _ ?_) ?_ ?_ rfl (ih (j + 1) (by omega) (by omega))
            · rw [iter, M_tcB, if_pos c_112]
            · rfl
            · rw [M_tcA, if_pos (Or.inr c_108)]; rfl

set_option maxHeartbeats 4000000 in
set_option maxRecDepth 100000 in
theorem c_X7_takeCopy (E : EN) (u : U3) (r : R1) (h : HB) (d : Nat) (hd : d < 8) : CT E yX7_takeCopy wsX7_takeCopy (rmT 2 43) [.ref (eA E 6 0), .int (nI d)] (ub u 6 h) r none (ub u 6 (M_copy h d)) r := by
  refine CT_ofV (cc := cX7_takeCopy) (nL := 5) (own := RX7) (by decide) rfl rfl (Nat.le_of_ble_eq_true rfl) (fun F C K => ?_)
  refine tt_to (lv1 := [(0, .ref (eA E 6 0)), (1, .int (nI d))]) rfl rfl rfl rfl ?_
  refine tt_iconst (v := nI 0) C dX7_takeCopy_0 (by decide) ?_
  refine tt_istore_n (lv' := [(0, .ref (eA E 6 0)), (1, .int (nI d)), (2, .int (nI 0))]) C dX7_takeCopy_1 rfl (by decide) [1, 2, 0] rfl ?_
  refine tt_iconst (v := nI 0) C dX7_takeCopy_2 (by decide) ?_
  refine tt_istore_n (lv' := [(0, .ref (eA E 6 0)), (1, .int (nI d)), (2, .int (nI 0)), (3, .int (nI 0))]) C dX7_takeCopy_3 rfl (by decide) [1, 2, 3, 0] rfl ?_
  exact l_tc E u r h d hd F C K 9 0 (by omega) (by omega)

abbrev M_nt (h : HB) (d j : Nat) : Int32 := h 1 (60 * d + (20 + 2 * j))
abbrev M_nb (h : HB) (d j : Nat) : Nat := ix (h 1 (60 * d + (20 + 2 * j + 1)))
def M_mgB (h : HB) (d j : Nat) (x : HB) : HB := if M_nt h d j < x 1 (480 + 6 * M_nb h d j + 3) then up2 x 1 532 (x 1 532 + nI 1) else M_move x (M_nb h d j) d (M_nt h d j)
def M_merge (h : HB) (d : Nat) : HB := up2 (iter (M_mgB h d) (ix (h 1 (60 * d + 19))) h) 1 (60 * d + 19) (nI 0)
theorem M_mgB_n (g h : HB) (d n j : Nat) (hj : j < 480) : iter (M_mgB g d) n h 1 j = h 1 j := by
  refine iter_keep (fun x : HB => x 1 j) (fun n x => ?_) n h
  show M_mgB g d n x 1 j = x 1 j
  unfold M_mgB
  split
  · exact up2_n (fun z => by omega)
  · exact M_move_n (by omega)
theorem M_mgB_k (g h : HB) (d n k j : Nat) (hk : k ≠ 1) : iter (M_mgB g d) n h k j = h k j := by
  refine iter_keep (fun x : HB => x k j) (fun n x => ?_) n h
  show M_mgB g d n x k j = x k j
  unfold M_mgB
  split
  · exact up2_n (fun z => hk z.1)
  · exact M_move_k hk

set_option maxHeartbeats 4000000 in
set_option maxRecDepth 100000 in
theorem l_mg (E : EN) (u : U3) (r : R1) (h : HB) (d : Nat) (hd : d < 8) (hn : vI (h 1 (60 * d + 19)) 21) (hnb : ∀ i, i < ix (h 1 (60 * d + 19)) → vI (h 1 (60 * d + (20 + 2 * i + 1))) 8) (F : FX) (C : Cx E F cX7_merge 6 RX7 wsX7_merge (rmT 2 45)) (K : RtI E F cX7_merge (nI (ix (h 1 (60 * d + 19)))) (ub u 6 (M_merge h d)) r) : ∀ (n j : Nat), j ≤ ix (h 1 (60 * d + 19)) → ix (h 1 (60 * d + 19)) + 1 ≤ j + n → T E F 6 (ub u 6 (iter (M_mgB h d) j h)) r 10 [(0, .ref (eA E 6 0)), (1, .int (nI d)), (2, .int (nI (ix (h 1 (60 * d + 19))))), (3, .int (nI j))] [] := by
  have hin7 : ∀ w ∈ u_ws RX7 TX7 15, w ∈ wsX7_merge := by decide +kernel
  intro n
  induction n with
  | zero => intro j h1 h2; exact absurd h2 (by omega)
  | succ n ih =>
    intro j h1 h2
    generalize ej : iter (M_mgB h d) j h = hj
    have hn' := ix_lt hn (by decide)
    have ft : j < ix (h 1 (60 * d + 19)) → hj 1 (60 * d + (20 + 2 * j)) = M_nt h d j := by intro q; rw [← ej]; exact M_mgB_n _ _ _ _ _ (by omega)
    have fn : j < ix (h 1 (60 * d + 19)) → hj 1 (60 * d + (20 + 2 * j + 1)) = h 1 (60 * d + (20 + 2 * j + 1)) := by intro q; rw [← ej]; exact M_mgB_n _ _ _ _ _ (by omega)
    refine tt_iload_n C dX7_merge_10 rfl 3 rfl ?_
    refine tt_iload_n C dX7_merge_11 rfl 2 rfl ?_
    refine tt_icmp_ge C (tgt := 85) dX7_merge_12 (by decide) (nI_leI (by omega) (by omega)) (fun c_101 => ?_) (fun c_101 => ?_)
    · skip
      have hje : j = ix (h 1 (60 * d + 19)) := (by omega); subst hje
      refine tt_aload_n C dX7_merge_85 rfl 0 rfl ?_
      refine tt_get (v := .ref (eA E 6 1)) C oM0 rfl hin7 0 (by decide) (List.mem_of_getElem? (i := 1) (by decide +kernel)) rfl dX7_merge_86 ?_
      refine tt_bipush (v := nI 60) C dX7_merge_89 (by decide) ?_
      refine tt_iload_n C dX7_merge_91 rfl 1 rfl ?_
      refine tt_imul (v := nI (60 * d)) C dX7_merge_92 (pk_mul _ _) ?_
      refine tt_bipush (v := nI 19) C dX7_merge_93 (by decide) ?_
      refine tt_iadd (v := nI (60 * d + 19)) C dX7_merge_95 (nI_add _ _) ?_
      refine tt_iconst (v := nI 0) C dX7_merge_96 (by decide) ?_
      refine tt_iastB C aM1 (60 * d + 19) rfl (by omega) dX7_merge_97 ?_
      generalize e_103 : up2 hj 1 (60 * d + 19) (nI 0) = h_102
      refine tt_iload_n C dX7_merge_98 rfl 2 rfl ?_
      exact tt_iret K dX7_merge_99 (by subst e_103; subst ej; rfl) (by subst e_103; subst ej; rfl) rfl
    · skip
      refine tt_aload_n C dX7_merge_15 rfl 0 rfl ?_
      refine tt_iload_n C dX7_merge_16 rfl 1 rfl ?_
      refine tt_bipush (v := nI 20) C dX7_merge_17 (by decide) ?_
      refine tt_iconst (v := nI 2) C dX7_merge_19 (by decide) ?_
      refine tt_iload_n C dX7_merge_20 rfl 3 rfl ?_
      refine tt_imul (v := nI (2 * j)) C dX7_merge_21 (pk_mul _ _) ?_
      refine tt_iadd (v := nI (20 + (2 * j))) C dX7_merge_22 (nI_add _ _) ?_
      refine tt_cVI C (c_X7_ofDoor E u r hj d (20 + (2 * j)) hd (by first | assumption | omega)) gX7_merge_X7_ofDoor rfl ⟨rfl, rfl⟩ 2 (by decide +kernel) ⟨Nat.le_of_ble_eq_true rfl, Nat.le_of_ble_eq_true rfl⟩ rfl oM0 rfl (Nat.le_of_ble_eq_true rfl) dX7_merge_23 rfl ?_
      refine tt_to (st1 := [.int (M_nt h d j)]) rfl rfl rfl (congrArg (fun z => ([.int z] : List Value)) (ft (by omega))) ?_
      refine tt_istore (lv' := [(0, .ref (eA E 6 0)), (1, .int (nI d)), (2, .int (nI (ix (h 1 (60 * d + 19))))), (3, .int (nI j)), (4, .int (M_nt h d j))]) C dX7_merge_26 (by decide) [1, 2, 3, 4, 0] rfl ?_
      have hv5 := hnb j (by omega)
      have hv5' : M_nb h d j < 8 := ix_lt hv5 (by decide)
      refine tt_aload_n C dX7_merge_28 rfl 0 rfl ?_
      refine tt_iload_n C dX7_merge_29 rfl 1 rfl ?_
      refine tt_bipush (v := nI 20) C dX7_merge_30 (by decide) ?_
      refine tt_iconst (v := nI 2) C dX7_merge_32 (by decide) ?_
      refine tt_iload_n C dX7_merge_33 rfl 3 rfl ?_
      refine tt_imul (v := nI (2 * j)) C dX7_merge_34 (pk_mul _ _) ?_
      refine tt_iadd (v := nI (20 + (2 * j))) C dX7_merge_35 (nI_add _ _) ?_
      refine tt_iconst (v := nI 1) C dX7_merge_36 (by decide) ?_
      refine tt_iadd (v := nI (20 + (2 * j) + 1)) C dX7_merge_37 (nI_add _ _) ?_
      refine tt_cVI C (c_X7_ofDoor E u r hj d (20 + (2 * j) + 1) hd (by first | assumption | omega)) gX7_merge_X7_ofDoor rfl ⟨rfl, rfl⟩ 2 (by decide +kernel) ⟨Nat.le_of_ble_eq_true rfl, Nat.le_of_ble_eq_true rfl⟩ rfl oM0 rfl (Nat.le_of_ble_eq_true rfl) dX7_merge_38 rfl ?_
      refine tt_to (st1 := [.int (nI (M_nb h d j))]) rfl rfl rfl (congrArg (fun z => ([.int z] : List Value)) ((fn (by omega)).trans (ix_eq hv5 (by decide)))) ?_
      refine tt_istore (lv' := [(0, .ref (eA E 6 0)), (1, .int (nI d)), (2, .int (nI (ix (h 1 (60 * d + 19))))), (3, .int (nI j)), (4, .int (M_nt h d j)), (5, .int (nI (M_nb h d j)))]) C dX7_merge_41 (by decide) [1, 2, 3, 4, 5, 0] rfl ?_
      refine tt_iload C dX7_merge_43 4 rfl ?_
      refine tt_aload_n C dX7_merge_45 rfl 0 rfl ?_
      refine tt_iload C dX7_merge_46 5 rfl ?_
      refine tt_iconst (v := nI 3) C dX7_merge_48 (by decide) ?_
      refine tt_cVI C (c_X7_ofBadge E u r hj (M_nb h d j) 3 (by first | assumption | omega) (by first | assumption | omega)) gX7_merge_X7_ofBadge rfl ⟨rfl, rfl⟩ 2 (by decide +kernel) ⟨Nat.le_of_ble_eq_true rfl, Nat.le_of_ble_eq_true rfl⟩ rfl oM0 rfl (Nat.le_of_ble_eq_true rfl) dX7_merge_49 rfl ?_
      refine tt_icmp_lt C (tgt := 67) dX7_merge_52 (by decide) Iff.rfl (fun c_104 => ?_) (fun c_104 => ?_)
      · skip
        refine tt_aload_n C dX7_merge_67 rfl 0 rfl ?_
        refine tt_get (v := .ref (eA E 6 1)) C oM0 rfl hin7 0 (by decide) (List.mem_of_getElem? (i := 1) (by decide +kernel)) rfl dX7_merge_68 ?_
        refine tt_sipush (v := nI 532) C dX7_merge_71 (by decide) ?_
        refine tt_dup2 C dX7_merge_74 rfl rfl ?_
        refine tt_ialdB (v := hj 1 532) C aM1 532 rfl (by omega) rfl dX7_merge_75 ?_
        refine tt_iconst (v := nI 1) C dX7_merge_76 (by decide) ?_
        refine tt_iadd C dX7_merge_77 rfl ?_
        refine tt_iastB C aM1 532 rfl (by omega) dX7_merge_78 ?_
        generalize e_106 : up2 hj 1 532 ((hj 1 532) + (nI 1)) = h_105
        refine tt_iinc (p := 3) (v := nI (j + 1)) (lv' := [(0, .ref (eA E 6 0)), (1, .int (nI d)), (2, .int (nI (ix (h 1 (60 * d + 19))))), (3, .int (nI (j + 1))), (4, .int (M_nt h d j)), (5, .int (nI (M_nb h d j)))]) C dX7_merge_79 rfl (by rw [show Int32.ofInt 1 = nI 1 from by decide]; exact nI_add _ _) (by decide) [1, 2, 3, 0, 4, 5] rfl ?_
        refine tt_goto (tgt := 10) C dX7_merge_82 (by decide) ?_
        subst e_106
        subst ej
        refine tt_lvsub [0, 1, 2, 3] rfl ?_
        refine tt_to (u1 := ub u 6 (iter (M_mgB h d) (j + 1) h)) (congrArg _ ?_) rfl rfl rfl (ih (j + 1) (by omega) (by omega))
        rw [iter, M_mgB, if_pos c_104]
      · skip
        refine tt_aload_n C dX7_merge_55 rfl 0 rfl ?_
        refine tt_iload C dX7_merge_56 5 rfl ?_
        refine tt_iload_n C dX7_merge_58 rfl 1 rfl ?_
        refine tt_iload C dX7_merge_59 4 rfl ?_
        refine tt_cVV C (c_X7_move E u r hj (M_nb h d j) d (M_nt h d j) (by first | assumption | omega) hd) gX7_merge_X7_move rfl ⟨rfl, rfl⟩ 3 (by decide +kernel) ⟨Nat.le_of_ble_eq_true rfl, Nat.le_of_ble_eq_true rfl⟩ rfl oM0 rfl (Nat.le_of_ble_eq_true rfl) dX7_merge_61 rfl ?_
        generalize e_108 : M_move hj (M_nb h d j) d (M_nt h d j) = h_107
        refine tt_goto (tgt := 79) C dX7_merge_64 (by decide) ?_
        refine tt_iinc (p := 3) (v := nI (j + 1)) (lv' := [(0, .ref (eA E 6 0)), (1, .int (nI d)), (2, .int (nI (ix (h 1 (60 * d + 19))))), (3, .int (nI (j + 1))), (4, .int (M_nt h d j)), (5, .int (nI (M_nb h d j)))]) C dX7_merge_79 rfl (by rw [show Int32.ofInt 1 = nI 1 from by decide]; exact nI_add _ _) (by decide) [1, 2, 3, 0, 4, 5] rfl ?_
        refine tt_goto (tgt := 10) C dX7_merge_82 (by decide) ?_
        subst e_108
        subst ej
        refine tt_lvsub [0, 1, 2, 3] rfl ?_
        refine tt_to (u1 := ub u 6 (iter (M_mgB h d) (j + 1) h)) (congrArg _ ?_) rfl rfl rfl (ih (j + 1) (by omega) (by omega))
        rw [iter, M_mgB, if_neg c_104]

set_option maxHeartbeats 4000000 in
set_option maxRecDepth 100000 in
theorem c_X7_merge (E : EN) (u : U3) (r : R1) (h : HB) (d : Nat) (hd : d < 8) (hn : vI (h 1 (60 * d + 19)) 21) (hnb : ∀ i, i < ix (h 1 (60 * d + 19)) → vI (h 1 (60 * d + (20 + 2 * i + 1))) 8) : CT E yX7_merge wsX7_merge (rmT 2 45) [.ref (eA E 6 0), .int (nI d)] (ub u 6 h) r (some (.int (nI (ix (h 1 (60 * d + 19)))))) (ub u 6 (M_merge h d)) r := by
  refine CT_ofI (cc := cX7_merge) (nL := 6) (own := RX7) (by decide) rfl rfl rfl (Nat.le_of_ble_eq_true rfl) (fun F C K => ?_)
  refine tt_to (lv1 := [(0, .ref (eA E 6 0)), (1, .int (nI d))]) rfl rfl rfl rfl ?_
  have hn' := ix_lt hn (by decide)
  refine tt_aload_n C dX7_merge_0 rfl 0 rfl ?_
  refine tt_iload_n C dX7_merge_1 rfl 1 rfl ?_
  refine tt_bipush (v := nI 19) C dX7_merge_2 (by decide) ?_
  refine tt_cVI C (c_X7_ofDoor E u r h d 19 hd (by first | assumption | omega)) gX7_merge_X7_ofDoor rfl ⟨rfl, rfl⟩ 2 (by decide +kernel) ⟨Nat.le_of_ble_eq_true rfl, Nat.le_of_ble_eq_true rfl⟩ rfl oM0 rfl (Nat.le_of_ble_eq_true rfl) dX7_merge_4 rfl ?_
  refine tt_to (st1 := [.int (nI (ix (h 1 (60 * d + 19))))]) rfl rfl rfl (congrArg (fun z => ([.int z] : List Value)) (ix_eq hn (by decide))) ?_
  refine tt_istore_n (lv' := [(0, .ref (eA E 6 0)), (1, .int (nI d)), (2, .int (nI (ix (h 1 (60 * d + 19)))))]) C dX7_merge_7 rfl (by decide) [1, 2, 0] rfl ?_
  refine tt_iconst (v := nI 0) C dX7_merge_8 (by decide) ?_
  refine tt_istore_n (lv' := [(0, .ref (eA E 6 0)), (1, .int (nI d)), (2, .int (nI (ix (h 1 (60 * d + 19))))), (3, .int (nI 0))]) C dX7_merge_9 rfl (by decide) [1, 2, 3, 0] rfl ?_
  exact l_mg E u r h d hd hn hnb F C K (ix (h 1 (60 * d + 19)) + 1) 0 (by omega) (by omega)

set_option maxHeartbeats 4000000 in
set_option maxRecDepth 100000 in
theorem c_X7_putOnline_B (E : EN) (u : U3) (r : R1) (h : HB) (d : Int32) (s : Int32) (hc : ¬ ((¬ d < nI 0 ∧ ¬ h 1 529 - nI 1 < d) ∧ (¬ s < nI 0 ∧ ¬ nI 1 < s))) : CT E yX7_putOnline wsX7_putOnline (rmT 3 70) [.ref (eA E 6 0), .int d, .int s] (ub u 6 h) r (some (.int (-2))) (ub u 6 h) r := by
  refine CT_ofI (cc := cX7_putOnline) (nL := 3) (own := RX7) (by decide) rfl rfl rfl (Nat.le_of_ble_eq_true rfl) (fun F C K => ?_)
  refine tt_to (lv1 := [(0, .ref (eA E 6 0)), (1, .int d), (2, .int s)]) rfl rfl rfl rfl ?_
  refine tt_aload_n C dX7_putOnline_0 rfl 0 rfl ?_
  refine tt_iload_n C dX7_putOnline_1 rfl 1 rfl ?_
  refine tt_cVI C (c_X7_isDoor E u r h d) gX7_putOnline_X7_isDoor rfl ⟨rfl, rfl⟩ 1 (by decide +kernel) ⟨Nat.le_of_ble_eq_true rfl, Nat.le_of_ble_eq_true rfl⟩ rfl oM0 rfl (Nat.le_of_ble_eq_true rfl) dX7_putOnline_2 rfl ?_
  refine tt_if_eqB C (tgt := 17) dX7_putOnline_5 (by decide) (fun c_1 => ?_) (fun c_1 => ?_)
  · skip
    refine tt_bipush (v := (-2 : Int32)) C dX7_putOnline_17 (by decide) ?_
    exact tt_iret K dX7_putOnline_19 (by first | rfl | (simp [c_1]; done) | grind []) (by first | rfl | (simp [c_1]; done) | (refine congrArg _ ?_; grind [])) rfl
  · skip
    refine tt_iload_n C dX7_putOnline_8 rfl 2 rfl ?_
    refine tt_iconst (v := nI 0) C dX7_putOnline_9 (by decide) ?_
    refine tt_iconst (v := nI 1) C dX7_putOnline_10 (by decide) ?_
    refine tt_cSI C (c_X7_in E (ub u 6 h) r s (nI 0) (nI 1)) gX7_putOnline_X7_in rfl ⟨rfl, rfl⟩ 3 (by decide +kernel) ⟨Nat.le_of_ble_eq_true rfl, Nat.le_of_ble_eq_true rfl⟩ rfl (Nat.le_of_ble_eq_true rfl) dX7_putOnline_11 rfl ?_
    refine tt_if_neB C (tgt := 20) dX7_putOnline_14 (by decide) (fun c_2 => ?_) (fun c_2 => ?_)
    · skip
      exact absurd ⟨c_1, c_2⟩ hc
    · skip
      refine tt_bipush (v := (-2 : Int32)) C dX7_putOnline_17 (by decide) ?_
      exact tt_iret K dX7_putOnline_19 (by first | rfl | (simp [c_1, c_2]; done) | grind []) (by first | rfl | (simp [c_1, c_2]; done) | (refine congrArg _ ?_; grind [])) rfl

set_option maxHeartbeats 4000000 in
set_option maxRecDepth 100000 in
theorem c_X7_putOnline_N (E : EN) (u : U3) (r : R1) (h : HB) (d : Nat) (s : Int32) (hD : vI (h 1 529) 9) (hdm : d < ix (h 1 529)) (hs : ¬ s < nI 0 ∧ ¬ nI 1 < s) (hg : h 1 (60 * d + 7) = s) : CT E yX7_putOnline wsX7_putOnline (rmT 3 70) [.ref (eA E 6 0), .int (nI d), .int s] (ub u 6 h) r (some (.int (-3))) (ub u 6 h) r := by
  refine CT_ofI (cc := cX7_putOnline) (nL := 3) (own := RX7) (by decide) rfl rfl rfl (Nat.le_of_ble_eq_true rfl) (fun F C K => ?_)
  refine tt_to (lv1 := [(0, .ref (eA E 6 0)), (1, .int (nI d)), (2, .int s)]) rfl rfl rfl rfl ?_
  have hD' := ix_lt hD (by decide)
  have hd : d < 8 := by omega
  refine tt_aload_n C dX7_putOnline_0 rfl 0 rfl ?_
  refine tt_iload_n C dX7_putOnline_1 rfl 1 rfl ?_
  refine tt_cVI C (c_X7_isDoor E u r h (nI d)) gX7_putOnline_X7_isDoor rfl ⟨rfl, rfl⟩ 1 (by decide +kernel) ⟨Nat.le_of_ble_eq_true rfl, Nat.le_of_ble_eq_true rfl⟩ rfl oM0 rfl (Nat.le_of_ble_eq_true rfl) dX7_putOnline_2 rfl ?_
  refine tt_if_eqB C (tgt := 17) dX7_putOnline_5 (by decide) (fun c_1 => ?_) (fun c_1 => ?_)
  · skip
    exact absurd (in_ok hD (by decide) hdm) c_1
  · skip
    refine tt_iload_n C dX7_putOnline_8 rfl 2 rfl ?_
    refine tt_iconst (v := nI 0) C dX7_putOnline_9 (by decide) ?_
    refine tt_iconst (v := nI 1) C dX7_putOnline_10 (by decide) ?_
    refine tt_cSI C (c_X7_in E (ub u 6 h) r s (nI 0) (nI 1)) gX7_putOnline_X7_in rfl ⟨rfl, rfl⟩ 3 (by decide +kernel) ⟨Nat.le_of_ble_eq_true rfl, Nat.le_of_ble_eq_true rfl⟩ rfl (Nat.le_of_ble_eq_true rfl) dX7_putOnline_11 rfl ?_
    refine tt_if_neB C (tgt := 20) dX7_putOnline_14 (by decide) (fun c_2 => ?_) (fun c_2 => ?_)
    · skip
      refine tt_aload_n C dX7_putOnline_20 rfl 0 rfl ?_
      refine tt_iload_n C dX7_putOnline_21 rfl 1 rfl ?_
      refine tt_bipush (v := nI 7) C dX7_putOnline_22 (by decide) ?_
      refine tt_cVI C (c_X7_ofDoor E u r h d 7 (by first | assumption | omega) (by first | assumption | omega)) gX7_putOnline_X7_ofDoor rfl ⟨rfl, rfl⟩ 2 (by decide +kernel) ⟨Nat.le_of_ble_eq_true rfl, Nat.le_of_ble_eq_true rfl⟩ rfl oM0 rfl (Nat.le_of_ble_eq_true rfl) dX7_putOnline_24 rfl ?_
      refine tt_iload_n C dX7_putOnline_27 rfl 2 rfl ?_
      refine tt_icmp_ne C (tgt := 34) dX7_putOnline_28 (by decide) Iff.rfl (fun c_3 => ?_) (fun c_3 => ?_)
      · skip
        exact absurd hg c_3
      · skip
        refine tt_bipush (v := (-3 : Int32)) C dX7_putOnline_31 (by decide) ?_
        exact tt_iret K dX7_putOnline_33 (by first | rfl | (simp [c_1, c_2, c_3]; done) | grind []) (by first | rfl | (simp [c_1, c_2, c_3]; done) | (refine congrArg _ ?_; grind [])) rfl
    · skip
      exact absurd hs c_2

set_option maxHeartbeats 4000000 in
set_option maxRecDepth 100000 in
theorem c_X7_putOnline_Z (E : EN) (u : U3) (r : R1) (h : HB) (d : Nat) (hD : vI (h 1 529) 9) (hdm : d < ix (h 1 529)) (hg : ¬ h 1 (60 * d + 7) = nI 0) : CT E yX7_putOnline wsX7_putOnline (rmT 3 70) [.ref (eA E 6 0), .int (nI d), .int (nI 0)] (ub u 6 h) r (some (.int (nI 0))) (ub u 6 (M_copy (up2 h 1 (60 * d + 7) (nI 0)) d)) r := by
  refine CT_ofI (cc := cX7_putOnline) (nL := 3) (own := RX7) (by decide) rfl rfl rfl (Nat.le_of_ble_eq_true rfl) (fun F C K => ?_)
  have hin7 : ∀ w ∈ u_ws RX7 TX7 15, w ∈ wsX7_putOnline := by decide +kernel
  refine tt_to (lv1 := [(0, .ref (eA E 6 0)), (1, .int (nI d)), (2, .int (nI 0))]) rfl rfl rfl rfl ?_
  have hD' := ix_lt hD (by decide)
  have hd : d < 8 := by omega
  refine tt_aload_n C dX7_putOnline_0 rfl 0 rfl ?_
  refine tt_iload_n C dX7_putOnline_1 rfl 1 rfl ?_
  refine tt_cVI C (c_X7_isDoor E u r h (nI d)) gX7_putOnline_X7_isDoor rfl ⟨rfl, rfl⟩ 1 (by decide +kernel) ⟨Nat.le_of_ble_eq_true rfl, Nat.le_of_ble_eq_true rfl⟩ rfl oM0 rfl (Nat.le_of_ble_eq_true rfl) dX7_putOnline_2 rfl ?_
  refine tt_if_eqB C (tgt := 17) dX7_putOnline_5 (by decide) (fun c_1 => ?_) (fun c_1 => ?_)
  · skip
    exact absurd (in_ok hD (by decide) hdm) c_1
  · skip
    refine tt_iload_n C dX7_putOnline_8 rfl 2 rfl ?_
    refine tt_iconst (v := nI 0) C dX7_putOnline_9 (by decide) ?_
    refine tt_iconst (v := nI 1) C dX7_putOnline_10 (by decide) ?_
    refine tt_cSI C (c_X7_in E (ub u 6 h) r (nI 0) (nI 0) (nI 1)) gX7_putOnline_X7_in rfl ⟨rfl, rfl⟩ 3 (by decide +kernel) ⟨Nat.le_of_ble_eq_true rfl, Nat.le_of_ble_eq_true rfl⟩ rfl (Nat.le_of_ble_eq_true rfl) dX7_putOnline_11 rfl ?_
    refine tt_if_neB C (tgt := 20) dX7_putOnline_14 (by decide) (fun c_2 => ?_) (fun c_2 => ?_)
    · skip
      refine tt_aload_n C dX7_putOnline_20 rfl 0 rfl ?_
      refine tt_iload_n C dX7_putOnline_21 rfl 1 rfl ?_
      refine tt_bipush (v := nI 7) C dX7_putOnline_22 (by decide) ?_
      refine tt_cVI C (c_X7_ofDoor E u r h d 7 (by first | assumption | omega) (by first | assumption | omega)) gX7_putOnline_X7_ofDoor rfl ⟨rfl, rfl⟩ 2 (by decide +kernel) ⟨Nat.le_of_ble_eq_true rfl, Nat.le_of_ble_eq_true rfl⟩ rfl oM0 rfl (Nat.le_of_ble_eq_true rfl) dX7_putOnline_24 rfl ?_
      refine tt_iload_n C dX7_putOnline_27 rfl 2 rfl ?_
      refine tt_icmp_ne C (tgt := 34) dX7_putOnline_28 (by decide) Iff.rfl (fun c_3 => ?_) (fun c_3 => ?_)
      · skip
        refine tt_aload_n C dX7_putOnline_34 rfl 0 rfl ?_
        refine tt_get (v := .ref (eA E 6 1)) C oM0 rfl hin7 0 (by decide) (List.mem_of_getElem? (i := 1) (by decide +kernel)) rfl dX7_putOnline_35 ?_
        refine tt_bipush (v := nI 60) C dX7_putOnline_38 (by decide) ?_
        refine tt_iload_n C dX7_putOnline_40 rfl 1 rfl ?_
        refine tt_imul (v := nI (60 * d)) C dX7_putOnline_41 (pk_mul _ _) ?_
        refine tt_bipush (v := nI 7) C dX7_putOnline_42 (by decide) ?_
        refine tt_iadd (v := nI (60 * d + 7)) C dX7_putOnline_44 (nI_add _ _) ?_
        refine tt_iload_n C dX7_putOnline_45 rfl 2 rfl ?_
        refine tt_iastB C aM1 (60 * d + 7) rfl (by omega) dX7_putOnline_46 ?_
        generalize e_5 : up2 h 1 (60 * d + 7) (nI 0) = h_4
        refine tt_iload_n C dX7_putOnline_47 rfl 2 rfl ?_
        refine tt_if_ne C (tgt := 56) dX7_putOnline_48 (by decide) (nI_eq0 (by omega)) (fun c_6 => ?_) (fun c_6 => ?_)
        · skip
          exact absurd (by decide) c_6
        · skip
          refine tt_aload_n C dX7_putOnline_51 rfl 0 rfl ?_
          refine tt_iload_n C dX7_putOnline_52 rfl 1 rfl ?_
          refine tt_cVV C (c_X7_takeCopy E u r h_4 d (by first | assumption | omega)) gX7_putOnline_X7_takeCopy rfl ⟨rfl, rfl⟩ 1 (by decide +kernel) ⟨Nat.le_of_ble_eq_true rfl, Nat.le_of_ble_eq_true rfl⟩ rfl oM0 rfl (Nat.le_of_ble_eq_true rfl) dX7_putOnline_53 rfl ?_
          generalize e_8 : M_copy h_4 d = h_7
          refine tt_iload_n C dX7_putOnline_56 rfl 2 rfl ?_
          refine tt_if_ne C (tgt := 64) dX7_putOnline_57 (by decide) (nI_eq0 (by omega)) (fun c_9 => ?_) (fun c_9 => ?_)
          · skip
            exact absurd (by decide) c_9
          · skip
            refine tt_iconst (v := nI 0) C dX7_putOnline_60 (by decide) ?_
            refine tt_goto (tgt := 69) C dX7_putOnline_61 (by decide) ?_
            exact tt_iret K dX7_putOnline_69 (by subst e_8; subst e_5; rfl) (by subst e_8; subst e_5; rfl) rfl
      · skip
        exact absurd c_3 hg
    · skip
      exact absurd (by decide) c_2

set_option maxHeartbeats 4000000 in
set_option maxRecDepth 100000 in
theorem c_X7_putOnline_A (E : EN) (u : U3) (r : R1) (h : HB) (d : Nat) (hD : vI (h 1 529) 9) (hdm : d < ix (h 1 529)) (hg : ¬ h 1 (60 * d + 7) = nI 1) (hn : vI (h 1 (60 * d + 19)) 21) (hnb : ∀ i, i < ix (h 1 (60 * d + 19)) → vI (h 1 (60 * d + (20 + 2 * i + 1))) 8) : CT E yX7_putOnline wsX7_putOnline (rmT 3 70) [.ref (eA E 6 0), .int (nI d), .int (nI 1)] (ub u 6 h) r (some (.int (nI (ix (h 1 (60 * d + 19)))))) (ub u 6 (M_merge (up2 h 1 (60 * d + 7) (nI 1)) d)) r := by
  refine CT_ofI (cc := cX7_putOnline) (nL := 3) (own := RX7) (by decide) rfl rfl rfl (Nat.le_of_ble_eq_true rfl) (fun F C K => ?_)
  have hin7 : ∀ w ∈ u_ws RX7 TX7 15, w ∈ wsX7_putOnline := by decide +kernel
  refine tt_to (lv1 := [(0, .ref (eA E 6 0)), (1, .int (nI d)), (2, .int (nI 1))]) rfl rfl rfl rfl ?_
  have hD' := ix_lt hD (by decide)
  have hd : d < 8 := by omega
  refine tt_aload_n C dX7_putOnline_0 rfl 0 rfl ?_
  refine tt_iload_n C dX7_putOnline_1 rfl 1 rfl ?_
  refine tt_cVI C (c_X7_isDoor E u r h (nI d)) gX7_putOnline_X7_isDoor rfl ⟨rfl, rfl⟩ 1 (by decide +kernel) ⟨Nat.le_of_ble_eq_true rfl, Nat.le_of_ble_eq_true rfl⟩ rfl oM0 rfl (Nat.le_of_ble_eq_true rfl) dX7_putOnline_2 rfl ?_
  refine tt_if_eqB C (tgt := 17) dX7_putOnline_5 (by decide) (fun c_1 => ?_) (fun c_1 => ?_)
  · skip
    exact absurd (in_ok hD (by decide) hdm) c_1
  · skip
    refine tt_iload_n C dX7_putOnline_8 rfl 2 rfl ?_
    refine tt_iconst (v := nI 0) C dX7_putOnline_9 (by decide) ?_
    refine tt_iconst (v := nI 1) C dX7_putOnline_10 (by decide) ?_
    refine tt_cSI C (c_X7_in E (ub u 6 h) r (nI 1) (nI 0) (nI 1)) gX7_putOnline_X7_in rfl ⟨rfl, rfl⟩ 3 (by decide +kernel) ⟨Nat.le_of_ble_eq_true rfl, Nat.le_of_ble_eq_true rfl⟩ rfl (Nat.le_of_ble_eq_true rfl) dX7_putOnline_11 rfl ?_
    refine tt_if_neB C (tgt := 20) dX7_putOnline_14 (by decide) (fun c_2 => ?_) (fun c_2 => ?_)
    · skip
      refine tt_aload_n C dX7_putOnline_20 rfl 0 rfl ?_
      refine tt_iload_n C dX7_putOnline_21 rfl 1 rfl ?_
      refine tt_bipush (v := nI 7) C dX7_putOnline_22 (by decide) ?_
      refine tt_cVI C (c_X7_ofDoor E u r h d 7 (by first | assumption | omega) (by first | assumption | omega)) gX7_putOnline_X7_ofDoor rfl ⟨rfl, rfl⟩ 2 (by decide +kernel) ⟨Nat.le_of_ble_eq_true rfl, Nat.le_of_ble_eq_true rfl⟩ rfl oM0 rfl (Nat.le_of_ble_eq_true rfl) dX7_putOnline_24 rfl ?_
      refine tt_iload_n C dX7_putOnline_27 rfl 2 rfl ?_
      refine tt_icmp_ne C (tgt := 34) dX7_putOnline_28 (by decide) Iff.rfl (fun c_3 => ?_) (fun c_3 => ?_)
      · skip
        refine tt_aload_n C dX7_putOnline_34 rfl 0 rfl ?_
        refine tt_get (v := .ref (eA E 6 1)) C oM0 rfl hin7 0 (by decide) (List.mem_of_getElem? (i := 1) (by decide +kernel)) rfl dX7_putOnline_35 ?_
        refine tt_bipush (v := nI 60) C dX7_putOnline_38 (by decide) ?_
        refine tt_iload_n C dX7_putOnline_40 rfl 1 rfl ?_
        refine tt_imul (v := nI (60 * d)) C dX7_putOnline_41 (pk_mul _ _) ?_
        refine tt_bipush (v := nI 7) C dX7_putOnline_42 (by decide) ?_
        refine tt_iadd (v := nI (60 * d + 7)) C dX7_putOnline_44 (nI_add _ _) ?_
        refine tt_iload_n C dX7_putOnline_45 rfl 2 rfl ?_
        refine tt_iastB C aM1 (60 * d + 7) rfl (by omega) dX7_putOnline_46 ?_
        generalize e_5 : up2 h 1 (60 * d + 7) (nI 1) = h_4
        refine tt_iload_n C dX7_putOnline_47 rfl 2 rfl ?_
        refine tt_if_ne C (tgt := 56) dX7_putOnline_48 (by decide) (nI_eq0 (by omega)) (fun c_6 => ?_) (fun c_6 => ?_)
        · skip
          refine tt_iload_n C dX7_putOnline_56 rfl 2 rfl ?_
          refine tt_if_ne C (tgt := 64) dX7_putOnline_57 (by decide) (nI_eq0 (by omega)) (fun c_7 => ?_) (fun c_7 => ?_)
          · skip
            refine tt_aload_n C dX7_putOnline_64 rfl 0 rfl ?_
            refine tt_iload_n C dX7_putOnline_65 rfl 1 rfl ?_
            refine tt_cVI C (c_X7_merge E u r h_4 d (by first | assumption | omega) (by rw [← e_5, up2_n (fun z => absurd z.2 (by omega))]; exact hn) (by rw [← e_5, up2_n (fun z => absurd z.2 (by omega))]; intro i hi; have := ix_lt hn (by decide); rw [up2_n (fun z => absurd z.2 (by omega))]; exact hnb i hi)) gX7_putOnline_X7_merge rfl ⟨rfl, rfl⟩ 1 (by decide +kernel) ⟨Nat.le_of_ble_eq_true rfl, Nat.le_of_ble_eq_true rfl⟩ rfl oM0 rfl (Nat.le_of_ble_eq_true rfl) dX7_putOnline_66 rfl ?_
            generalize e_9 : M_merge h_4 d = h_8
            exact tt_iret K dX7_putOnline_69 (by subst e_9; subst e_5; rw [up2_n (fun z => absurd z.2 (by omega))]) (by subst e_9; subst e_5; rfl) rfl
          · skip
            exact absurd c_7 (by decide)
        · skip
          exact absurd c_6 (by decide)
      · skip
        exact absurd c_3 hg
    · skip
      exact absurd (by decide) c_2
