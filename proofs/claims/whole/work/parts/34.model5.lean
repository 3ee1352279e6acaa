set_option maxHeartbeats 4000000 in
set_option maxRecDepth 100000 in
theorem c_X7_putBadge_B (E : EN) (u : U3) (r : R1) (h : HB) (v : Int32) (hc : ¬ (¬ v < nI 0 ∧ ¬ nI 3 < v)) : CT E yX7_putBadge wsX7_putBadge (rmT 2 42) [.ref (eA E 6 0), .int v] (ub u 6 h) r (some (.int (-2))) (ub u 6 h) r := by
  refine CT_ofI (cc := cX7_putBadge) (nL := 4) (own := RX7) (by decide) rfl rfl rfl (Nat.le_of_ble_eq_true rfl) (fun F C K => ?_)
  refine tt_to (lv1 := [(0, .ref (eA E 6 0)), (1, .int v)]) rfl rfl rfl rfl ?_
  refine tt_iload_n C dX7_putBadge_0 rfl 1 rfl ?_
  refine tt_cSI C (c_X7_isLevel E (ub u 6 h) r v) gX7_putBadge_X7_isLevel rfl ⟨rfl, rfl⟩ 1 (by decide +kernel) ⟨Nat.le_of_ble_eq_true rfl, Nat.le_of_ble_eq_true rfl⟩ rfl (Nat.le_of_ble_eq_true rfl) dX7_putBadge_1 rfl ?_
  refine tt_if_neB C (tgt := 10) dX7_putBadge_4 (by decide) (fun c_1 => ?_) (fun c_1 => ?_)
  · skip
    exact absurd c_1 hc
  · skip
    refine tt_bipush (v := (-2 : Int32)) C dX7_putBadge_7 (by decide) ?_
    exact tt_iret K dX7_putBadge_9 (by first | rfl | (simp [c_1]; done) | grind []) (by first | rfl | (simp [c_1]; done) | (refine congrArg _ ?_; grind [])) rfl

set_option maxHeartbeats 4000000 in
set_option maxRecDepth 100000 in
theorem c_X7_putBadge_F (E : EN) (u : U3) (r : R1) (h : HB) (v : Int32) (hc : ¬ v < nI 0 ∧ ¬ nI 3 < v) (hf : h 1 530 = nI 8) : CT E yX7_putBadge wsX7_putBadge (rmT 2 42) [.ref (eA E 6 0), .int v] (ub u 6 h) r (some (.int (-4))) (ub u 6 h) r := by
  refine CT_ofI (cc := cX7_putBadge) (nL := 4) (own := RX7) (by decide) rfl rfl rfl (Nat.le_of_ble_eq_true rfl) (fun F C K => ?_)
  have hin7 : ∀ w ∈ u_ws RX7 TX7 15, w ∈ wsX7_putBadge := by decide +kernel
  refine tt_to (lv1 := [(0, .ref (eA E 6 0)), (1, .int v)]) rfl rfl rfl rfl ?_
  refine tt_iload_n C dX7_putBadge_0 rfl 1 rfl ?_
  refine tt_cSI C (c_X7_isLevel E (ub u 6 h) r v) gX7_putBadge_X7_isLevel rfl ⟨rfl, rfl⟩ 1 (by decide +kernel) ⟨Nat.le_of_ble_eq_true rfl, Nat.le_of_ble_eq_true rfl⟩ rfl (Nat.le_of_ble_eq_true rfl) dX7_putBadge_1 rfl ?_
  refine tt_if_neB C (tgt := 10) dX7_putBadge_4 (by decide) (fun c_1 => ?_) (fun c_1 => ?_)
  · skip
    refine tt_aload_n C dX7_putBadge_10 rfl 0 rfl ?_
    refine tt_get (v := .ref (eA E 6 1)) C oM0 rfl hin7 0 (by decide) (List.mem_of_getElem? (i := 1) (by decide +kernel)) rfl dX7_putBadge_11 ?_
    refine tt_sipush (v := nI 530) C dX7_putBadge_14 (by decide) ?_
    refine tt_ialdB (v := nI 8) C aM1 530 rfl (by omega) hf dX7_putBadge_17 ?_
    refine tt_bipush (v := nI 8) C dX7_putBadge_18 (by decide) ?_
    refine tt_icmp_ne C (tgt := 26) dX7_putBadge_20 (by decide) (nI_eq (by omega) (by omega)) (fun c_2 => ?_) (fun c_2 => ?_)
    · skip
      exact absurd (by decide) c_2
    · skip
      refine tt_bipush (v := (-4 : Int32)) C dX7_putBadge_23 (by decide) ?_
      exact tt_iret K dX7_putBadge_25 (by first | rfl | (simp [c_1, c_2]; done) | grind []) (by first | rfl | (simp [c_1, c_2]; done) | (refine congrArg _ ?_; grind [])) rfl
  · skip
    exact absurd hc c_1

def M_pbB (n : Nat) (v : Int32) (k : Nat) (x : HB) : HB := up2 x 1 (480 + 6 * n + k) (if k = 0 then v else nI 0)
def M_badge (h : HB) (v : Int32) : HB := up2 (iter (M_pbB (ix (h 1 530)) v) 6 h) 1 530 (nI (ix (h 1 530) + 1))
theorem M_pbB_k (h : HB) (n : Nat) (v : Int32) (m j : Nat) (hm : m ≤ 6) (hj : j < 480 + 6 * n ∨ 480 + 6 * n + 6 ≤ j) : iter (M_pbB n v) m h 1 j = h 1 j := by
  induction m with
  | zero => rfl
  | succ m ih => rw [iter, M_pbB, up2_n (fun z => by omega)]; exact ih (by omega)

set_option maxHeartbeats 4000000 in
set_option maxRecDepth 100000 in
theorem l_pb (E : EN) (u : U3) (r : R1) (h : HB) (v : Int32) (hc : ¬ v < nI 0 ∧ ¬ nI 3 < v) (hB : vI (h 1 530) 8) (F : FX) (C : Cx E F cX7_putBadge 4 RX7 wsX7_putBadge (rmT 2 42)) (K : RtI E F cX7_putBadge (nI (ix (h 1 530))) (ub u 6 (M_badge h v)) r) : ∀ (n j : Nat), j ≤ 6 → 6 + 1 ≤ j + n → T E F 4 (ub u 6 (iter (M_pbB (ix (h 1 530)) v) j h)) r 37 [(0, .ref (eA E 6 0)), (1, .int v), (2, .int (nI (ix (h 1 530)))), (3, .int (nI j))] [] := by
  have hin7 : ∀ w ∈ u_ws RX7 TX7 15, w ∈ wsX7_putBadge := by decide +kernel
  intro n
  induction n with
  | zero => intro j h1 h2; exact absurd h2 (by omega)
  | succ n ih =>
    intro j h1 h2
    generalize ej : iter (M_pbB (ix (h 1 530)) v) j h = hj
    have hB' := ix_lt hB (by decide)
    have fb : hj 1 530 = nI (ix (h 1 530)) := by rw [← ej, M_pbB_k _ _ _ _ _ h1 (by omega)]; exact ix_eq hB (by decide)
    refine tt_iload_n C dX7_putBadge_37 rfl 3 rfl ?_
    refine tt_bipush (v := nI 6) C dX7_putBadge_38 (by decide) ?_
    refine tt_icmp_ge C (tgt := 73) dX7_putBadge_40 (by decide) (nI_leI (by omega) (by omega)) (fun c_101 => ?_) (fun c_101 => ?_)
    · skip
      have hje : j = 6 := (by omega); subst hje
      refine tt_aload_n C dX7_putBadge_73 rfl 0 rfl ?_
      refine tt_get (v := .ref (eA E 6 1)) C oM0 rfl hin7 0 (by decide) (List.mem_of_getElem? (i := 1) (by decide +kernel)) rfl dX7_putBadge_74 ?_
      refine tt_sipush (v := nI 530) C dX7_putBadge_77 (by decide) ?_
      refine tt_dup2 C dX7_putBadge_80 rfl rfl ?_
      refine tt_ialdB (v := nI (ix (h 1 530))) C aM1 530 rfl (by omega) fb dX7_putBadge_81 ?_
      refine tt_iconst (v := nI 1) C dX7_putBadge_82 (by decide) ?_
      refine tt_iadd (v := nI (ix (h 1 530) + 1)) C dX7_putBadge_83 (nI_add _ _) ?_
      refine tt_iastB C aM1 530 rfl (by omega) dX7_putBadge_84 ?_
      generalize e_103 : up2 hj 1 530 (nI (ix (h 1 530) + 1)) = h_102
      refine tt_iload_n C dX7_putBadge_85 rfl 2 rfl ?_
      exact tt_iret K dX7_putBadge_86 (by subst e_103; subst ej; rfl) (by subst e_103; subst ej; rfl) rfl
    · skip
      refine tt_aload_n C dX7_putBadge_43 rfl 0 rfl ?_
      refine tt_get (v := .ref (eA E 6 1)) C oM0 rfl hin7 0 (by decide) (List.mem_of_getElem? (i := 1) (by decide +kernel)) rfl dX7_putBadge_44 ?_
      refine tt_sipush (v := nI 480) C dX7_putBadge_47 (by decide) ?_
      refine tt_bipush (v := nI 6) C dX7_putBadge_50 (by decide) ?_
      refine tt_iload_n C dX7_putBadge_52 rfl 2 rfl ?_
      refine tt_imul (v := nI (6 * (ix (h 1 530)))) C dX7_putBadge_53 (pk_mul _ _) ?_
      refine tt_iadd (v := nI (480 + (6 * (ix (h 1 530))))) C dX7_putBadge_54 (nI_add _ _) ?_
      refine tt_iload_n C dX7_putBadge_55 rfl 3 rfl ?_
      refine tt_iadd (v := nI (480 + (6 * (ix (h 1 530))) + j)) C dX7_putBadge_56 (nI_add _ _) ?_
      refine tt_iload_n C dX7_putBadge_57 rfl 3 rfl ?_
      refine tt_if_ne C (tgt := 65) dX7_putBadge_58 (by decide) (nI_eq0 (by omega)) (fun c_104 => ?_) (fun c_104 => ?_)
      · skip
        refine tt_iconst (v := nI 0) C dX7_putBadge_65 (by decide) ?_
        refine tt_iastB C aM1 (480 + (6 * (ix (h 1 530))) + j) rfl (by omega) dX7_putBadge_66 ?_
        generalize e_106 : up2 hj 1 (480 + (6 * (ix (h 1 530))) + j) (nI 0) = h_105
        refine tt_iinc (p := 3) (v := nI (j + 1)) (lv' := [(0, .ref (eA E 6 0)), (1, .int v), (2, .int (nI (ix (h 1 530)))), (3, .int (nI (j + 1)))]) C dX7_putBadge_67 rfl (by rw [show Int32.ofInt 1 = nI 1 from by decide]; exact nI_add _ _) (by decide) [1, 2, 3, 0] rfl ?_
        refine tt_goto (tgt := 37) C dX7_putBadge_70 (by decide) ?_
        subst e_106
        subst ej
        refine tt_to (u1 := ub u 6 (iter (M_pbB (ix (h 1 530)) v) (j + 1) h)) (congrArg _ ?_) rfl rfl rfl (ih (j + 1) (by omega) (by omega))
        rw [iter, M_pbB, if_neg c_104]
      · skip
        refine tt_iload_n C dX7_putBadge_61 rfl 1 rfl ?_
        refine tt_goto (tgt := 66) C dX7_putBadge_62 (by decide) ?_
        refine tt_iastB C aM1 (480 + (6 * (ix (h 1 530))) + j) rfl (by omega) dX7_putBadge_66 ?_
        generalize e_108 : up2 hj 1 (480 + (6 * (ix (h 1 530))) + j) v = h_107
        refine tt_iinc (p := 3) (v := nI (j + 1)) (lv' := [(0, .ref (eA E 6 0)), (1, .int v), (2, .int (nI (ix (h 1 530)))), (3, .int (nI (j + 1)))]) C dX7_putBadge_67 rfl (by rw [show Int32.ofInt 1 = nI 1 from by decide]; exact nI_add _ _) (by decide) [1, 2, 3, 0] rfl ?_
        refine tt_goto (tgt := 37) C dX7_putBadge_70 (by decide) ?_
        subst e_108
        subst ej
        refine tt_to (u1 := ub u 6 (iter (M_pbB (ix (h 1 530)) v) (j + 1) h)) (congrArg _ ?_) rfl rfl rfl (ih (j + 1) (by omega) (by omega))
        rw [iter, M_pbB, if_pos c_104]

set_option maxHeartbeats 4000000 in
set_option maxRecDepth 100000 in
theorem c_X7_putBadge_O (E : EN) (u : U3) (r : R1) (h : HB) (v : Int32) (hc : ¬ v < nI 0 ∧ ¬ nI 3 < v) (hB : vI (h 1 530) 8) : CT E yX7_putBadge wsX7_putBadge (rmT 2 42) [.ref (eA E 6 0), .int v] (ub u 6 h) r (some (.int (nI (ix (h 1 530))))) (ub u 6 (M_badge h v)) r := by
  refine CT_ofI (cc := cX7_putBadge) (nL := 4) (own := RX7) (by decide) rfl rfl rfl (Nat.le_of_ble_eq_true rfl) (fun F C K => ?_)
  have hin7 : ∀ w ∈ u_ws RX7 TX7 15, w ∈ wsX7_putBadge := by decide +kernel
  refine tt_to (lv1 := [(0, .ref (eA E 6 0)), (1, .int v)]) rfl rfl rfl rfl ?_
  have hB' := ix_lt hB (by decide)
  refine tt_iload_n C dX7_putBadge_0 rfl 1 rfl ?_
  refine tt_cSI C (c_X7_isLevel E (ub u 6 h) r v) gX7_putBadge_X7_isLevel rfl ⟨rfl, rfl⟩ 1 (by decide +kernel) ⟨Nat.le_of_ble_eq_true rfl, Nat.le_of_ble_eq_true rfl⟩ rfl (Nat.le_of_ble_eq_true rfl) dX7_putBadge_1 rfl ?_
  refine tt_if_neB C (tgt := 10) dX7_putBadge_4 (by decide) (fun c_1 => ?_) (fun c_1 => ?_)
  · skip
    refine tt_aload_n C dX7_putBadge_10 rfl 0 rfl ?_
    refine tt_get (v := .ref (eA E 6 1)) C oM0 rfl hin7 0 (by decide) (List.mem_of_getElem? (i := 1) (by decide +kernel)) rfl dX7_putBadge_11 ?_
    refine tt_sipush (v := nI 530) C dX7_putBadge_14 (by decide) ?_
    refine tt_ialdB (v := nI (ix (h 1 530))) C aM1 530 rfl (by omega) (ix_eq hB (by decide)) dX7_putBadge_17 ?_
    refine tt_bipush (v := nI 8) C dX7_putBadge_18 (by decide) ?_
    refine tt_icmp_ne C (tgt := 26) dX7_putBadge_20 (by decide) (nI_eq (by omega) (by omega)) (fun c_2 => ?_) (fun c_2 => ?_)
    · skip
      refine tt_aload_n C dX7_putBadge_26 rfl 0 rfl ?_
      refine tt_get (v := .ref (eA E 6 1)) C oM0 rfl hin7 0 (by decide) (List.mem_of_getElem? (i := 1) (by decide +kernel)) rfl dX7_putBadge_27 ?_
      refine tt_sipush (v := nI 530) C dX7_putBadge_30 (by decide) ?_
      refine tt_ialdB (v := nI (ix (h 1 530))) C aM1 530 rfl (by omega) (ix_eq hB (by decide)) dX7_putBadge_33 ?_
      refine tt_istore_n (lv' := [(0, .ref (eA E 6 0)), (1, .int v), (2, .int (nI (ix (h 1 530))))]) C dX7_putBadge_34 rfl (by decide) [1, 2, 0] rfl ?_
      refine tt_iconst (v := nI 0) C dX7_putBadge_35 (by decide) ?_
      refine tt_istore_n (lv' := [(0, .ref (eA E 6 0)), (1, .int v), (2, .int (nI (ix (h 1 530)))), (3, .int (nI 0))]) C dX7_putBadge_36 rfl (by decide) [1, 2, 3, 0] rfl ?_
      exact l_pb E u r h v hc hB F C K 7 0 (by omega) (by omega)
    · skip
      exact absurd c_2 (by omega)
  · skip
    exact absurd hc c_1

set_option maxHeartbeats 4000000 in
set_option maxRecDepth 100000 in
theorem c_X7_putBarred_B (E : EN) (u : U3) (r : R1) (h : HB) (b : Int32) (s : Int32) (hc : ¬ ((¬ b < nI 0 ∧ ¬ h 1 530 - nI 1 < b) ∧ (¬ s < nI 0 ∧ ¬ nI 1 < s))) : CT E yX7_putBarred wsX7_putBarred (rmT 2 43) [.ref (eA E 6 0), .int b, .int s] (ub u 6 h) r (some (.int (-2))) (ub u 6 h) r := by
  refine CT_ofI (cc := cX7_putBarred) (nL := 3) (own := RX7) (by decide) rfl rfl rfl (Nat.le_of_ble_eq_true rfl) (fun F C K => ?_)
  refine tt_to (lv1 := [(0, .ref (eA E 6 0)), (1, .int b), (2, .int s)]) rfl rfl rfl rfl ?_
  refine tt_aload_n C dX7_putBarred_0 rfl 0 rfl ?_
  refine tt_iload_n C dX7_putBarred_1 rfl 1 rfl ?_
  refine tt_cVI C (c_X7_isBadge E u r h b) gX7_putBarred_X7_isBadge rfl ⟨rfl, rfl⟩ 1 (by decide +kernel) ⟨Nat.le_of_ble_eq_true rfl, Nat.le_of_ble_eq_true rfl⟩ rfl oM0 rfl (Nat.le_of_ble_eq_true rfl) dX7_putBarred_2 rfl ?_
  refine tt_if_eqB C (tgt := 35) dX7_putBarred_5 (by decide) (fun c_1 => ?_) (fun c_1 => ?_)
  · skip
    refine tt_bipush (v := (-2 : Int32)) C dX7_putBarred_35 (by decide) ?_
    exact tt_iret K dX7_putBarred_37 (by first | rfl | (simp [c_1]; done) | grind []) (by first | rfl | (simp [c_1]; done) | (refine congrArg _ ?_; grind [])) rfl
  · skip
    refine tt_iload_n C dX7_putBarred_8 rfl 2 rfl ?_
    refine tt_iconst (v := nI 0) C dX7_putBarred_9 (by decide) ?_
    refine tt_iconst (v := nI 1) C dX7_putBarred_10 (by decide) ?_
    refine tt_cSI C (c_X7_in E (ub u 6 h) r s (nI 0) (nI 1)) gX7_putBarred_X7_in rfl ⟨rfl, rfl⟩ 3 (by decide +kernel) ⟨Nat.le_of_ble_eq_true rfl, Nat.le_of_ble_eq_true rfl⟩ rfl (Nat.le_of_ble_eq_true rfl) dX7_putBarred_11 rfl ?_
    refine tt_if_eqB C (tgt := 35) dX7_putBarred_14 (by decide) (fun c_2 => ?_) (fun c_2 => ?_)
    · skip
      refine tt_bipush (v := (-2 : Int32)) C dX7_putBarred_35 (by decide) ?_
      exact tt_iret K dX7_putBarred_37 (by first | rfl | (simp [c_1, c_2]; done) | grind []) (by first | rfl | (simp [c_1, c_2]; done) | (refine congrArg _ ?_; grind [])) rfl
    · skip
      exact absurd ⟨c_1, c_2⟩ hc

set_option maxHeartbeats 4000000 in
set_option maxRecDepth 100000 in
theorem c_X7_putBarred_O (E : EN) (u : U3) (r : R1) (h : HB) (b : Nat) (s : Int32) (hB : vI (h 1 530) 9) (hbm : b < ix (h 1 530)) (hs : ¬ s < nI 0 ∧ ¬ nI 1 < s) : CT E yX7_putBarred wsX7_putBarred (rmT 2 43) [.ref (eA E 6 0), .int (nI b), .int s] (ub u 6 h) r (some (.int (h 1 (480 + 6 * b + 1)))) (ub u 6 (up2 h 1 (480 + 6 * b + 1) s)) r := by
  refine CT_ofI (cc := cX7_putBarred) (nL := 3) (own := RX7) (by decide) rfl rfl rfl (Nat.le_of_ble_eq_true rfl) (fun F C K => ?_)
  refine tt_to (lv1 := [(0, .ref (eA E 6 0)), (1, .int (nI b)), (2, .int s)]) rfl rfl rfl rfl ?_
  have hB' := ix_lt hB (by decide)
  refine tt_aload_n C dX7_putBarred_0 rfl 0 rfl ?_
  refine tt_iload_n C dX7_putBarred_1 rfl 1 rfl ?_
  refine tt_cVI C (c_X7_isBadge E u r h (nI b)) gX7_putBarred_X7_isBadge rfl ⟨rfl, rfl⟩ 1 (by decide +kernel) ⟨Nat.le_of_ble_eq_true rfl, Nat.le_of_ble_eq_true rfl⟩ rfl oM0 rfl (Nat.le_of_ble_eq_true rfl) dX7_putBarred_2 rfl ?_
  refine tt_if_eqB C (tgt := 35) dX7_putBarred_5 (by decide) (fun c_1 => ?_) (fun c_1 => ?_)
  · skip
    exact absurd (in_ok hB (by decide) hbm) c_1
  · skip
    refine tt_iload_n C dX7_putBarred_8 rfl 2 rfl ?_
    refine tt_iconst (v := nI 0) C dX7_putBarred_9 (by decide) ?_
    refine tt_iconst (v := nI 1) C dX7_putBarred_10 (by decide) ?_
    refine tt_cSI C (c_X7_in E (ub u 6 h) r s (nI 0) (nI 1)) gX7_putBarred_X7_in rfl ⟨rfl, rfl⟩ 3 (by decide +kernel) ⟨Nat.le_of_ble_eq_true rfl, Nat.le_of_ble_eq_true rfl⟩ rfl (Nat.le_of_ble_eq_true rfl) dX7_putBarred_11 rfl ?_
    refine tt_if_eqB C (tgt := 35) dX7_putBarred_14 (by decide) (fun c_2 => ?_) (fun c_2 => ?_)
    · skip
      exact absurd hs c_2
    · skip
      refine tt_aload_n C dX7_putBarred_17 rfl 0 rfl ?_
      refine tt_sipush (v := nI 480) C dX7_putBarred_18 (by decide) ?_
      refine tt_bipush (v := nI 6) C dX7_putBarred_21 (by decide) ?_
      refine tt_iload_n C dX7_putBarred_23 rfl 1 rfl ?_
      refine tt_imul (v := nI (6 * b)) C dX7_putBarred_24 (pk_mul _ _) ?_
      refine tt_iadd (v := nI (480 + (6 * b))) C dX7_putBarred_25 (nI_add _ _) ?_
      refine tt_iconst (v := nI 1) C dX7_putBarred_26 (by decide) ?_
      refine tt_iadd (v := nI (480 + (6 * b) + 1)) C dX7_putBarred_27 (nI_add _ _) ?_
      refine tt_iload_n C dX7_putBarred_28 rfl 2 rfl ?_
      refine tt_cVI C (c_X7_change E u r h (480 + (6 * b) + 1) s (by first | assumption | omega)) gX7_putBarred_X7_change rfl ⟨rfl, rfl⟩ 2 (by decide +kernel) ⟨Nat.le_of_ble_eq_true rfl, Nat.le_of_ble_eq_true rfl⟩ rfl oM0 rfl (Nat.le_of_ble_eq_true rfl) dX7_putBarred_29 rfl ?_
      generalize e_4 : up2 h 1 (480 + (6 * b) + 1) s = h_3
      refine tt_goto (tgt := 37) C dX7_putBarred_32 (by decide) ?_
      exact tt_iret K dX7_putBarred_37 (by subst e_4; first | rfl | (simp [c_1, c_2]; done) | grind []) (by subst e_4; first | rfl | (simp [c_1, c_2]; done) | (refine congrArg _ ?_; grind [])) rfl

set_option maxHeartbeats 4000000 in
set_option maxRecDepth 100000 in
theorem c_X7_putDoor_B (E : EN) (u : U3) (r : R1) (h : HB) (f : Int32) (t : Int32) (a : Int32) (b : Int32) (hc : ¬ ((¬ f < nI 0 ∧ ¬ nI 5 < f) ∧ (¬ t < nI 0 ∧ ¬ nI 5 < t) ∧ ¬ f = t ∧ (¬ a < nI 0 ∧ ¬ nI 3 < a) ∧ (¬ b < nI 0 ∧ ¬ nI 3 < b))) : CT E yX7_putDoor wsX7_putDoor (rmT 2 42) [.ref (eA E 6 0), .int f, .int t, .int a, .int b] (ub u 6 h) r (some (.int (-2))) (ub u 6 h) r := by
  refine CT_ofI (cc := cX7_putDoor) (nL := 7) (own := RX7) (by decide) rfl rfl rfl (Nat.le_of_ble_eq_true rfl) (fun F C K => ?_)
  refine tt_to (lv1 := [(0, .ref (eA E 6 0)), (1, .int f), (2, .int t), (3, .int a), (4, .int b)]) rfl rfl rfl rfl ?_
  refine tt_iload_n C dX7_putDoor_0 rfl 1 rfl ?_
  refine tt_cSI C (c_X7_isArea E (ub u 6 h) r f) gX7_putDoor_X7_isArea rfl ⟨rfl, rfl⟩ 1 (by decide +kernel) ⟨Nat.le_of_ble_eq_true rfl, Nat.le_of_ble_eq_true rfl⟩ rfl (Nat.le_of_ble_eq_true rfl) dX7_putDoor_1 rfl ?_
  refine tt_if_eqB C (tgt := 34) dX7_putDoor_4 (by decide) (fun c_1 => ?_) (fun c_1 => ?_)
  · skip
    refine tt_bipush (v := (-2 : Int32)) C dX7_putDoor_34 (by decide) ?_
    exact tt_iret K dX7_putDoor_36 (by first | rfl | (simp [c_1]; done) | grind []) (by first | rfl | (simp [c_1]; done) | (refine congrArg _ ?_; grind [])) rfl
  · skip
    refine tt_iload_n C dX7_putDoor_7 rfl 2 rfl ?_
    refine tt_cSI C (c_X7_isArea E (ub u 6 h) r t) gX7_putDoor_X7_isArea rfl ⟨rfl, rfl⟩ 1 (by decide +kernel) ⟨Nat.le_of_ble_eq_true rfl, Nat.le_of_ble_eq_true rfl⟩ rfl (Nat.le_of_ble_eq_true rfl) dX7_putDoor_8 rfl ?_
    refine tt_if_eqB C (tgt := 34) dX7_putDoor_11 (by decide) (fun c_2 => ?_) (fun c_2 => ?_)
    · skip
      refine tt_bipush (v := (-2 : Int32)) C dX7_putDoor_34 (by decide) ?_
      exact tt_iret K dX7_putDoor_36 (by first | rfl | (simp [c_1, c_2]; done) | grind []) (by first | rfl | (simp [c_1, c_2]; done) | (refine congrArg _ ?_; grind [])) rfl
    · skip
      refine tt_iload_n C dX7_putDoor_14 rfl 1 rfl ?_
      refine tt_iload_n C dX7_putDoor_15 rfl 2 rfl ?_
      refine tt_icmp_eq C (tgt := 34) dX7_putDoor_16 (by decide) Iff.rfl (fun c_3 => ?_) (fun c_3 => ?_)
      · skip
        refine tt_bipush (v := (-2 : Int32)) C dX7_putDoor_34 (by decide) ?_
        exact tt_iret K dX7_putDoor_36 (by first | rfl | (simp [c_1, c_2, c_3]; done) | grind []) (by first | rfl | (simp [c_1, c_2, c_3]; done) | (refine congrArg _ ?_; grind [])) rfl
      · skip
        refine tt_iload_n C dX7_putDoor_19 rfl 3 rfl ?_
        refine tt_cSI C (c_X7_isLevel E (ub u 6 h) r a) gX7_putDoor_X7_isLevel rfl ⟨rfl, rfl⟩ 1 (by decide +kernel) ⟨Nat.le_of_ble_eq_true rfl, Nat.le_of_ble_eq_true rfl⟩ rfl (Nat.le_of_ble_eq_true rfl) dX7_putDoor_20 rfl ?_
        refine tt_if_eqB C (tgt := 34) dX7_putDoor_23 (by decide) (fun c_4 => ?_) (fun c_4 => ?_)
        · skip
          refine tt_bipush (v := (-2 : Int32)) C dX7_putDoor_34 (by decide) ?_
          exact tt_iret K dX7_putDoor_36 (by first | rfl | (simp [c_1, c_2, c_3, c_4]; done) | grind []) (by first | rfl | (simp [c_1, c_2, c_3, c_4]; done) | (refine congrArg _ ?_; grind [])) rfl
        · skip
          refine tt_iload C dX7_putDoor_26 4 rfl ?_
          refine tt_cSI C (c_X7_isLevel E (ub u 6 h) r b) gX7_putDoor_X7_isLevel rfl ⟨rfl, rfl⟩ 1 (by decide +kernel) ⟨Nat.le_of_ble_eq_true rfl, Nat.le_of_ble_eq_true rfl⟩ rfl (Nat.le_of_ble_eq_true rfl) dX7_putDoor_28 rfl ?_
          refine tt_if_neB C (tgt := 37) dX7_putDoor_31 (by decide) (fun c_5 => ?_) (fun c_5 => ?_)
          · skip
            exact absurd ⟨c_1, c_2, c_3, c_4, c_5⟩ hc
          · skip
            refine tt_bipush (v := (-2 : Int32)) C dX7_putDoor_34 (by decide) ?_
            exact tt_iret K dX7_putDoor_36 (by first | rfl | (simp [c_1, c_2, c_3, c_4, c_5]; done) | grind []) (by first | rfl | (simp [c_1, c_2, c_3, c_4, c_5]; done) | (refine congrArg _ ?_; grind [])) rfl

set_option maxHeartbeats 4000000 in
set_option maxRecDepth 100000 in
theorem c_X7_putDoor_F (E : EN) (u : U3) (r : R1) (h : HB) (f : Int32) (t : Int32) (a : Int32) (b : Int32) (hc : (¬ f < nI 0 ∧ ¬ nI 5 < f) ∧ (¬ t < nI 0 ∧ ¬ nI 5 < t) ∧ ¬ f = t ∧ (¬ a < nI 0 ∧ ¬ nI 3 < a) ∧ (¬ b < nI 0 ∧ ¬ nI 3 < b)) (hf : h 1 529 = nI 8) : CT E yX7_putDoor wsX7_putDoor (rmT 2 42) [.ref (eA E 6 0), .int f, .int t, .int a, .int b] (ub u 6 h) r (some (.int (-4))) (ub u 6 h) r := by
  refine CT_ofI (cc := cX7_putDoor) (nL := 7) (own := RX7) (by decide) rfl rfl rfl (Nat.le_of_ble_eq_true rfl) (fun F C K => ?_)
  have hin7 : ∀ w ∈ u_ws RX7 TX7 15, w ∈ wsX7_putDoor := by decide +kernel
  refine tt_to (lv1 := [(0, .ref (eA E 6 0)), (1, .int f), (2, .int t), (3, .int a), (4, .int b)]) rfl rfl rfl rfl ?_
  refine tt_iload_n C dX7_putDoor_0 rfl 1 rfl ?_
  refine tt_cSI C (c_X7_isArea E (ub u 6 h) r f) gX7_putDoor_X7_isArea rfl ⟨rfl, rfl⟩ 1 (by decide +kernel) ⟨Nat.le_of_ble_eq_true rfl, Nat.le_of_ble_eq_true rfl⟩ rfl (Nat.le_of_ble_eq_true rfl) dX7_putDoor_1 rfl ?_
  refine tt_if_eqB C (tgt := 34) dX7_putDoor_4 (by decide) (fun c_1 => ?_) (fun c_1 => ?_)
  · skip
    exact absurd hc.1 c_1
  · skip
    refine tt_iload_n C dX7_putDoor_7 rfl 2 rfl ?_
    refine tt_cSI C (c_X7_isArea E (ub u 6 h) r t) gX7_putDoor_X7_isArea rfl ⟨rfl, rfl⟩ 1 (by decide +kernel) ⟨Nat.le_of_ble_eq_true rfl, Nat.le_of_ble_eq_true rfl⟩ rfl (Nat.le_of_ble_eq_true rfl) dX7_putDoor_8 rfl ?_
    refine tt_if_eqB C (tgt := 34) dX7_putDoor_11 (by decide) (fun c_2 => ?_) (fun c_2 => ?_)
    · skip
      exact absurd hc.2.1 c_2
    · skip
      refine tt_iload_n C dX7_putDoor_14 rfl 1 rfl ?_
      refine tt_iload_n C dX7_putDoor_15 rfl 2 rfl ?_
      refine tt_icmp_eq C (tgt := 34) dX7_putDoor_16 (by decide) Iff.rfl (fun c_3 => ?_) (fun c_3 => ?_)
      · skip
        exact absurd c_3 hc.2.2.1
      · skip
        refine tt_iload_n C dX7_putDoor_19 rfl 3 rfl ?_
        refine tt_cSI C (c_X7_isLevel E (ub u 6 h) r a) gX7_putDoor_X7_isLevel rfl ⟨rfl, rfl⟩ 1 (by decide +kernel) ⟨Nat.le_of_ble_eq_true rfl, Nat.le_of_ble_eq_true rfl⟩ rfl (Nat.le_of_ble_eq_true rfl) dX7_putDoor_20 rfl ?_
        refine tt_if_eqB C (tgt := 34) dX7_putDoor_23 (by decide) (fun c_4 => ?_) (fun c_4 => ?_)
        · skip
          exact absurd hc.2.2.2.1 c_4
        · skip
          refine tt_iload C dX7_putDoor_26 4 rfl ?_
          refine tt_cSI C (c_X7_isLevel E (ub u 6 h) r b) gX7_putDoor_X7_isLevel rfl ⟨rfl, rfl⟩ 1 (by decide +kernel) ⟨Nat.le_of_ble_eq_true rfl, Nat.le_of_ble_eq_true rfl⟩ rfl (Nat.le_of_ble_eq_true rfl) dX7_putDoor_28 rfl ?_
          refine tt_if_neB C (tgt := 37) dX7_putDoor_31 (by decide) (fun c_5 => ?_) (fun c_5 => ?_)
          · skip
            refine tt_aload_n C dX7_putDoor_37 rfl 0 rfl ?_
            refine tt_get (v := .ref (eA E 6 1)) C oM0 rfl hin7 0 (by decide) (List.mem_of_getElem? (i := 1) (by decide +kernel)) rfl dX7_putDoor_38 ?_
            refine tt_sipush (v := nI 529) C dX7_putDoor_41 (by decide) ?_
            refine tt_ialdB (v := nI 8) C aM1 529 rfl (by omega) hf dX7_putDoor_44 ?_
            refine tt_bipush (v := nI 8) C dX7_putDoor_45 (by decide) ?_
            refine tt_icmp_ne C (tgt := 53) dX7_putDoor_47 (by decide) (nI_eq (by omega) (by omega)) (fun c_6 => ?_) (fun c_6 => ?_)
            · skip
              exact absurd (by decide) c_6
            · skip
              refine tt_bipush (v := (-4 : Int32)) C dX7_putDoor_50 (by decide) ?_
              exact tt_iret K dX7_putDoor_52 (by first | rfl | (simp [c_1, c_2, c_3, c_4, c_5, c_6]; done) | grind []) (by first | rfl | (simp [c_1, c_2, c_3, c_4, c_5, c_6]; done) | (refine congrArg _ ?_; grind [])) rfl
          · skip
            exact absurd hc.2.2.2.2 c_5

def pd0 (k : Nat) : Int32 := if k = 7 then nI 1 else if k = 6 ∨ k = 8 ∨ k = 9 then -1 else nI 0
def M_pdB (n k : Nat) (x : HB) : HB := up2 x 1 (60 * n + k) (pd0 k)
def M_door (h : HB) (f t a b : Int32) : HB := up2 (up2 (up2 (up2 (up2 (iter (M_pdB (ix (h 1 529))) 60 h) 1 (60 * ix (h 1 529)) f) 1 (60 * ix (h 1 529) + 1) t) 1 (60 * ix (h 1 529) + 2) a) 1 (60 * ix (h 1 529) + 3) b) 1 529 (nI (ix (h 1 529) + 1))
theorem M_pdB_k (h : HB) (n m j : Nat) (hm : m ≤ 60) (hj : j < 60 * n ∨ 60 * n + 60 ≤ j) : iter (M_pdB n) m h 1 j = h 1 j := by
  induction m with
  | zero => rfl
  | succ m ih => rw [iter, M_pdB, up2_n (fun z => by omega)]; exact ih (by omega)

set_option maxHeartbeats 4000000 in
set_option maxRecDepth 100000 in
theorem l_pd (E : EN) (u : U3) (r : R1) (h : HB) (f : Int32) (t : Int32) (a : Int32) (b : Int32) (hc : (¬ f < nI 0 ∧ ¬ nI 5 < f) ∧ (¬ t < nI 0 ∧ ¬ nI 5 < t) ∧ ¬ f = t ∧ (¬ a < nI 0 ∧ ¬ nI 3 < a) ∧ (¬ b < nI 0 ∧ ¬ nI 3 < b)) (hD : vI (h 1 529) 8) (F : FX) (C : Cx E F cX7_putDoor 7 RX7 wsX7_putDoor (rmT 2 42)) (K : RtI E F cX7_putDoor (nI (ix (h 1 529))) (ub u 6 (M_door h f t a b)) r) : ∀ (n j : Nat), j ≤ 60 → 60 + 1 ≤ j + n → T E F 7 (ub u 6 (iter (M_pdB (ix (h 1 529))) j h)) r 66 [(0, .ref (eA E 6 0)), (1, .int f), (2, .int t), (3, .int a), (4, .int b), (5, .int (nI (ix (h 1 529)))), (6, .int (nI j))] [] := by
  have hin7 : ∀ w ∈ u_ws RX7 TX7 15, w ∈ wsX7_putDoor := by decide +kernel
  intro n
  induction n with
  | zero => intro j h1 h2; exact absurd h2 (by omega)
  | succ n ih =>
    intro j h1 h2
    generalize ej : iter (M_pdB (ix (h 1 529))) j h = hj
    have hD' := ix_lt hD (by decide)
    have fd : hj 1 529 = nI (ix (h 1 529)) := by rw [← ej, M_pdB_k _ _ _ _ h1 (by omega)]; exact ix_eq hD (by decide)
    refine tt_iload C dX7_putDoor_66 6 rfl ?_
    refine tt_bipush (v := nI 60) C dX7_putDoor_68 (by decide) ?_
    refine tt_icmp_ge C (tgt := 129) dX7_putDoor_70 (by decide) (nI_leI (by omega) (by omega)) (fun c_101 => ?_) (fun c_101 => ?_)
    · skip
      have hje : j = 60 := (by omega); subst hje
      refine tt_aload_n C dX7_putDoor_129 rfl 0 rfl ?_
      refine tt_get (v := .ref (eA E 6 1)) C oM0 rfl hin7 0 (by decide) (List.mem_of_getElem? (i := 1) (by decide +kernel)) rfl dX7_putDoor_130 ?_
      refine tt_bipush (v := nI 60) C dX7_putDoor_133 (by decide) ?_
      refine tt_iload C dX7_putDoor_135 5 rfl ?_
      refine tt_imul (v := nI (60 * (ix (h 1 529)))) C dX7_putDoor_137 (pk_mul _ _) ?_
      refine tt_iload_n C dX7_putDoor_138 rfl 1 rfl ?_
      refine tt_iastB C aM1 (60 * (ix (h 1 529))) rfl (by omega) dX7_putDoor_139 ?_
      generalize e_103 : up2 hj 1 (60 * (ix (h 1 529))) f = h_102
      refine tt_aload_n C dX7_putDoor_140 rfl 0 rfl ?_
      refine tt_get (v := .ref (eA E 6 1)) C oM0 rfl hin7 0 (by decide) (List.mem_of_getElem? (i := 1) (by decide +kernel)) rfl dX7_putDoor_141 ?_
      refine tt_bipush (v := nI 60) C dX7_putDoor_144 (by decide) ?_
      refine tt_iload C dX7_putDoor_146 5 rfl ?_
      refine tt_imul (v := nI (60 * (ix (h 1 529)))) C dX7_putDoor_148 (pk_mul _ _) ?_
      refine tt_iconst (v := nI 1) C dX7_putDoor_149 (by decide) ?_
      refine tt_iadd (v := nI (60 * (ix (h 1 529)) + 1)) C dX7_putDoor_150 (nI_add _ _) ?_
      refine tt_iload_n C dX7_putDoor_151 rfl 2 rfl ?_
      refine tt_iastB C aM1 (60 * (ix (h 1 529)) + 1) rfl (by omega) dX7_putDoor_152 ?_
      generalize e_105 : up2 h_102 1 (60 * (ix (h 1 529)) + 1) t = h_104
      refine tt_aload_n C dX7_putDoor_153 rfl 0 rfl ?_
      refine tt_get (v := .ref (eA E 6 1)) C oM0 rfl hin7 0 (by decide) (List.mem_of_getElem? (i := 1) (by decide +kernel)) rfl dX7_putDoor_154 ?_
      refine tt_bipush (v := nI 60) C dX7_putDoor_157 (by decide) ?_
      refine tt_iload C dX7_putDoor_159 5 rfl ?_
      refine tt_imul (v := nI (60 * (ix (h 1 529)))) C dX7_putDoor_161 (pk_mul _ _) ?_
      refine tt_iconst (v := nI 2) C dX7_putDoor_162 (by decide) ?_
      refine tt_iadd (v := nI (60 * (ix (h 1 529)) + 2)) C dX7_putDoor_163 (nI_add _ _) ?_
      refine tt_iload_n C dX7_putDoor_164 rfl 3 rfl ?_
      refine tt_iastB C aM1 (60 * (ix (h 1 529)) + 2) rfl (by omega) dX7_putDoor_165 ?_
      generalize e_107 : up2 h_104 1 (60 * (ix (h 1 529)) + 2) a = h_106
      refine tt_aload_n C dX7_putDoor_166 rfl 0 rfl ?_
      refine tt_get (v := .ref (eA E 6 1)) C oM0 rfl hin7 0 (by decide) (List.mem_of_getElem? (i := 1) (by decide +kernel)) rfl dX7_putDoor_167 ?_
      refine tt_bipush (v := nI 60) C dX7_putDoor_170 (by decide) ?_
      refine tt_iload C dX7_putDoor_172 5 rfl ?_
      refine tt_imul (v := nI (60 * (ix (h 1 529)))) C dX7_putDoor_174 (pk_mul _ _) ?_
      refine tt_iconst (v := nI 3) C dX7_putDoor_175 (by decide) ?_
      refine tt_iadd (v := nI (60 * (ix (h 1 529)) + 3)) C dX7_putDoor_176 (nI_add _ _) ?_
      refine tt_iload C dX7_putDoor_177 4 rfl ?_
      refine tt_iastB C aM1 (60 * (ix (h 1 529)) + 3) rfl (by omega) dX7_putDoor_179 ?_
      generalize e_109 : up2 h_106 1 (60 * (ix (h 1 529)) + 3) b = h_108
      refine tt_aload_n C dX7_putDoor_180 rfl 0 rfl ?_
      refine tt_get (v := .ref (eA E 6 1)) C oM0 rfl hin7 0 (by decide) (List.mem_of_getElem? (i := 1) (by decide +kernel)) rfl dX7_putDoor_181 ?_
      refine tt_sipush (v := nI 529) C dX7_putDoor_184 (by decide) ?_
      refine tt_dup2 C dX7_putDoor_187 rfl rfl ?_
      refine tt_ialdB (v := nI (ix (h 1 529))) C aM1 529 rfl (by omega) (by rw [← e_109, up2_n (fun z => absurd z.2 (by omega)), ← e_107, up2_n (fun z => absurd z.2 (by omega)), ← e_105, up2_n (fun z => absurd z.2 (by omega)), ← e_103, up2_n (fun z => absurd z.2 (by omega))]; exact fd) dX7_putDoor_188 ?_
      refine tt_iconst (v := nI 1) C dX7_putDoor_189 (by decide) ?_
      refine tt_iadd (v := nI (ix (h 1 529) + 1)) C dX7_putDoor_190 (nI_add _ _) ?_
      refine tt_iastB C aM1 529 rfl (by omega) dX7_putDoor_191 ?_
      generalize e_111 : up2 h_108 1 529 (nI (ix (h 1 529) + 1)) = h_110
      refine tt_iload C dX7_putDoor_192 5 rfl ?_
      exact tt_iret K dX7_putDoor_194 (by subst e_111; subst e_109; subst e_107; subst e_105; subst e_103; subst ej; rfl) (by subst e_111; subst e_109; subst e_107; subst e_105; subst e_103; subst ej; rfl) rfl
    · skip
      refine tt_aload_n C dX7_putDoor_73 rfl 0 rfl ?_
      refine tt_get (v := .ref (eA E 6 1)) C oM0 rfl hin7 0 (by decide) (List.mem_of_getElem? (i := 1) (by decide +kernel)) rfl dX7_putDoor_74 ?_
      refine tt_bipush (v := nI 60) C dX7_putDoor_77 (by decide) ?_
      refine tt_iload C dX7_putDoor_79 5 rfl ?_
      refine tt_imul (v := nI (60 * (ix (h 1 529)))) C dX7_putDoor_81 (pk_mul _ _) ?_
      refine tt_iload C dX7_putDoor_82 6 rfl ?_
      refine tt_iadd (v := nI (60 * (ix (h 1 529)) + j)) C dX7_putDoor_84 (nI_add _ _) ?_
      refine tt_iload C dX7_putDoor_85 6 rfl ?_
      refine tt_bipush (v := nI 7) C dX7_putDoor_87 (by decide) ?_
      refine tt_icmp_ne C (tgt := 96) dX7_putDoor_89 (by decide) (nI_eq (by omega) (by omega)) (fun c_112 => ?_) (fun c_112 => ?_)
      · skip
        refine tt_iload C dX7_putDoor_96 6 rfl ?_
        refine tt_bipush (v := nI 6) C dX7_putDoor_98 (by decide) ?_
        refine tt_icmp_eq C (tgt := 117) dX7_putDoor_100 (by decide) (nI_eq (by omega) (by omega)) (fun c_113 => ?_) (fun c_113 => ?_)
        · skip
          refine tt_iconst (v := (-1 : Int32)) C dX7_putDoor_117 (by decide) ?_
          refine tt_goto (tgt := 122) C dX7_putDoor_118 (by decide) ?_
          refine tt_iastB C aM1 (60 * (ix (h 1 529)) + j) rfl (by omega) dX7_putDoor_122 ?_
          generalize e_115 : up2 hj 1 (60 * (ix (h 1 529)) + j) (-1 : Int32) = h_114
          refine tt_iinc (p := 6) (v := nI (j + 1)) (lv' := [(0, .ref (eA E 6 0)), (1, .int f), (2, .int t), (3, .int a), (4, .int b), (5, .int (nI (ix (h 1 529)))), (6, .int (nI (j + 1)))]) C dX7_putDoor_123 rfl (by rw [show Int32.ofInt 1 = nI 1 from by decide]; exact nI_add _ _) (by decide) [1, 2, 3, 4, 5, 6, 0] rfl ?_
          refine tt_goto (tgt := 66) C dX7_putDoor_126 (by decide) ?_
          subst e_115
          subst ej
          refine tt_to (u1 := ub u 6 (iter (M_pdB (ix (h 1 529))) (j + 1) h)) (congrArg _ ?_) rfl rfl rfl (ih (j + 1) (by omega) (by omega))
          rw [iter, M_pdB]; refine congrArg _ ?_; unfold pd0; simp only [eq_true c_112, c_112, eq_true c_113, c_113, not_false_eq_true, not_true_eq_false, and_true, true_and, and_false, false_and, and_self, or_true, true_or, or_false, false_or, or_self, if_true, if_false] <;> first | rfl | decide | (simp; done)
        · skip
          refine tt_iload C dX7_putDoor_103 6 rfl ?_
          refine tt_bipush (v := nI 8) C dX7_putDoor_105 (by decide) ?_
          refine tt_icmp_eq C (tgt := 117) dX7_putDoor_107 (by decide) (nI_eq (by omega) (by omega)) (fun c_116 => ?_) (fun c_116 => ?_)
          · skip
            refine tt_iconst (v := (-1 : Int32)) C dX7_putDoor_117 (by decide) ?_
            refine tt_goto (tgt := 122) C dX7_putDoor_118 (by decide) ?_
            refine tt_iastB C aM1 (60 * (ix (h 1 529)) + j) rfl (by omega) dX7_putDoor_122 ?_
            generalize e_118 : up2 hj 1 (60 * (ix (h 1 529)) + j) (-1 : Int32) = h_117
            refine tt_iinc (p := 6) (v := nI (j + 1)) (lv' := [(0, .ref (eA E 6 0)), (1, .int f), (2, .int t), (3, .int a), (4, .int b), (5, .int (nI (ix (h 1 529)))), (6, .int (nI (j + 1)))]) C dX7_putDoor_123 rfl (by rw [show Int32.ofInt 1 = nI 1 from by decide]; exact nI_add _ _) (by decide) [1, 2, 3, 4, 5, 6, 0] rfl ?_
            refine tt_goto (tgt := 66) C dX7_putDoor_126 (by decide) ?_
            subst e_118
            subst ej
            refine tt_to (u1 := ub u 6 (iter (M_pdB (ix (h 1 529))) (j + 1) h)) (congrArg _ ?_) rfl rfl rfl (ih (j + 1) (by omega) (by omega))
            rw [iter, M_pdB]; refine congrArg _ ?_; unfold pd0; simp only [eq_true c_112, c_112, eq_true c_113, c_113, eq_true c_116, c_116, not_false_eq_true, not_true_eq_false, and_true, true_and, and_false, false_and, and_self, or_true, true_or, or_false, false_or, or_self, if_true, if_false] <;> first | rfl | decide | (simp; done)
          · skip
            refine tt_iload C dX7_putDoor_110 6 rfl ?_
            refine tt_bipush (v := nI 9) C dX7_putDoor_112 (by decide) ?_
            refine tt_icmp_ne C (tgt := 121) dX7_putDoor_114 (by decide) (nI_eq (by omega) (by omega)) (fun c_119 => ?_) (fun c_119 => ?_)
            · skip
              refine tt_iconst (v := nI 0) C dX7_putDoor_121 (by decide) ?_
              refine tt_iastB C aM1 (60 * (ix (h 1 529)) + j) rfl (by omega) dX7_putDoor_122 ?_
              generalize e_121 : up2 hj 1 (60 * (ix (h 1 529)) + j) (nI 0) = h_120
              refine tt_iinc (p := 6) (v := nI (j + 1)) (lv' := [(0, .ref (eA E 6 0)), (1, .int f), (2, .int t), (3, .int a), (4, .int b), (5, .int (nI (ix (h 1 529)))), (6, .int (nI (j + 1)))]) C dX7_putDoor_123 rfl (by rw [show Int32.ofInt 1 = nI 1 from by decide]; exact nI_add _ _) (by decide) [1, 2, 3, 4, 5, 6, 0] rfl ?_
              refine tt_goto (tgt := 66) C dX7_putDoor_126 (by decide) ?_
              subst e_121
              subst ej
              refine tt_to (u1 := ub u 6 (iter (M_pdB (ix (h 1 529))) (j + 1) h)) (congrArg _ ?_) rfl rfl rfl (ih (j + 1) (by omega) (by omega))
              rw [iter, M_pdB]; refine congrArg _ ?_; unfold pd0; simp only [eq_true c_112, c_112, eq_true c_113, c_113, eq_true c_116, c_116, eq_true c_119, c_119, not_false_eq_true, not_true_eq_false, and_true, true_and, and_false, false_and, and_self, or_true, true_or, or_false, false_or, or_self, if_true, if_false] <;> first | rfl | decide | (simp; done)
            · skip
              refine tt_iconst (v := (-1 : Int32)) C dX7_putDoor_117 (by decide) ?_
              refine tt_goto (tgt := 122) C dX7_putDoor_118 (by decide) ?_
              refine tt_iastB C aM1 (60 * (ix (h 1 529)) + j) rfl (by omega) dX7_putDoor_122 ?_
              generalize e_123 : up2 hj 1 (60 * (ix (h 1 529)) + j) (-1 : Int32) = h_122
              refine tt_iinc (p := 6) (v := nI (j + 1)) (lv' := [(0, .ref (eA E 6 0)), (1, .int f), (2, .int t), (3, .int a), (4, .int b), (5, .int (nI (ix (h 1 529)))), (6, .int (nI (j + 1)))]) C dX7_putDoor_123 rfl (by rw [show Int32.ofInt 1 = nI 1 from by decide]; exact nI_add _ _) (by decide) [1, 2, 3, 4, 5, 6, 0] rfl ?_
              refine tt_goto (tgt := 66) C dX7_putDoor_126 (by decide) ?_
              subst e_123
              subst ej
              refine tt_to (u1 := ub u 6 (iter (M_pdB (ix (h 1 529))) (j + 1) h)) (congrArg _ ?_) rfl rfl rfl (ih (j + 1) (by omega) (by omega))
              rw [iter, M_pdB]; refine congrArg _ ?_; unfold pd0; simp only [eq_true c_112, c_112, eq_true c_113, c_113, eq_true c_116, c_116, eq_true c_119, c_119, not_false_eq_true, not_true_eq_false, and_true, true_and, and_false, false_and, and_self, or_true, true_or, or_false, false_or, or_self, if_true, if_false] <;> first | rfl | decide | (simp; done)
      · skip
        refine tt_iconst (v := nI 1) C dX7_putDoor_92 (by decide) ?_
        refine tt_goto (tgt := 122) C dX7_putDoor_93 (by decide) ?_
        refine tt_iastB C aM1 (60 * (ix (h 1 529)) + j) rfl (by omega) dX7_putDoor_122 ?_
        generalize e_125 : up2 hj 1 (60 * (ix (h 1 529)) + j) (nI 1) = h_124
        refine tt_iinc (p := 6) (v := nI (j + 1)) (lv' := [(0, .ref (eA E 6 0)), (1, .int f), (2, .int t), (3, .int a), (4, .int b), (5, .int (nI (ix (h 1 529)))), (6, .int (nI (j + 1)))]) C dX7_putDoor_123 rfl (by rw [show Int32.ofInt 1 = nI 1 from by decide]; exact nI_add _ _) (by decide) [1, 2, 3, 4, 5, 6, 0] rfl ?_
        refine tt_goto (tgt := 66) C dX7_putDoor_126 (by decide) ?_
        subst e_125
        subst ej
        refine tt_to (u1 := ub u 6 (iter (M_pdB (ix (h 1 529))) (j + 1) h)) (congrArg _ ?_) rfl rfl rfl (ih (j + 1) (by omega) (by omega))
        rw [iter, M_pdB]; refine congrArg _ ?_; unfold pd0; simp only [eq_true c_112, c_112, not_false_eq_true, not_true_eq_false, and_true, true_and, and_false, false_and, and_self, or_true, true_or, or_false, false_or, or_self, if_true, if_false] <;> first | rfl | decide | (simp; done)

set_option maxHeartbeats 4000000 in
set_option maxRecDepth 100000 in
theorem c_X7_putDoor_O (E : EN) (u : U3) (r : R1) (h : HB) (f : Int32) (t : Int32) (a : Int32) (b : Int32) (hc : (¬ f < nI 0 ∧ ¬ nI 5 < f) ∧ (¬ t < nI 0 ∧ ¬ nI 5 < t) ∧ ¬ f = t ∧ (¬ a < nI 0 ∧ ¬ nI 3 < a) ∧ (¬ b < nI 0 ∧ ¬ nI 3 < b)) (hD : vI (h 1 529) 8) : CT E yX7_putDoor wsX7_putDoor (rmT 2 42) [.ref (eA E 6 0), .int f, .int t, .int a, .int b] (ub u 6 h) r (some (.int (nI (ix (h 1 529))))) (ub u 6 (M_door h f t a b)) r := by
  refine CT_ofI (cc := cX7_putDoor) (nL := 7) (own := RX7) (by decide) rfl rfl rfl (Nat.le_of_ble_eq_true rfl) (fun F C K => ?_)
  have hin7 : ∀ w ∈ u_ws RX7 TX7 15, w ∈ wsX7_putDoor := by decide +kernel
  refine tt_to (lv1 := [(0, .ref (eA E 6 0)), (1, .int f), (2, .int t), (3, .int a), (4, .int b)]) rfl rfl rfl rfl ?_
  have hD' := ix_lt hD (by decide)
  refine tt_iload_n C dX7_putDoor_0 rfl 1 rfl ?_
  refine tt_cSI C (c_X7_isArea E (ub u 6 h) r f) gX7_putDoor_X7_isArea rfl ⟨rfl, rfl⟩ 1 (by decide +kernel) ⟨Nat.le_of_ble_eq_true rfl, Nat.le_of_ble_eq_true rfl⟩ rfl (Nat.le_of_ble_eq_true rfl) dX7_putDoor_1 rfl ?_
  refine tt_if_eqB C (tgt := 34) dX7_putDoor_4 (by decide) (fun c_1 => ?_) (fun c_1 => ?_)
  · skip
    exact absurd hc.1 c_1
  · skip
    refine tt_iload_n C dX7_putDoor_7 rfl 2 rfl ?_
    refine tt_cSI C (c_X7_isArea E (ub u 6 h) r t) gX7_putDoor_X7_isArea rfl ⟨rfl, rfl⟩ 1 (by decide +kernel) ⟨Nat.le_of_ble_eq_true rfl, Nat.le_of_ble_eq_true rfl⟩ rfl (Nat.le_of_ble_eq_true rfl) dX7_putDoor_8 rfl ?_
    refine tt_if_eqB C (tgt := 34) dX7_putDoor_11 (by decide) (fun c_2 => ?_) (fun c_2 => ?_)
    · skip
      exact absurd hc.2.1 c_2
    · skip
      refine tt_iload_n C dX7_putDoor_14 rfl 1 rfl ?_
      refine tt_iload_n C dX7_putDoor_15 rfl 2 rfl ?_
      refine tt_icmp_eq C (tgt := 34) dX7_putDoor_16 (by decide) Iff.rfl (fun c_3 => ?_) (fun c_3 => ?_)
      · skip
        exact absurd c_3 hc.2.2.1
      · skip
        refine tt_iload_n C dX7_putDoor_19 rfl 3 rfl ?_
        refine tt_cSI C (c_X7_isLevel E (ub u 6 h) r a) gX7_putDoor_X7_isLevel rfl ⟨rfl, rfl⟩ 1 (by decide +kernel) ⟨Nat.le_of_ble_eq_true rfl, Nat.le_of_ble_eq_true rfl⟩ rfl (Nat.le_of_ble_eq_true rfl) dX7_putDoor_20 rfl ?_
        refine tt_if_eqB C (tgt := 34) dX7_putDoor_23 (by decide) (fun c_4 => ?_) (fun c_4 => ?_)
        · skip
          exact absurd hc.2.2.2.1 c_4
        · skip
          refine tt_iload C dX7_putDoor_26 4 rfl ?_
          refine tt_cSI C (c_X7_isLevel E (ub u 6 h) r b) gX7_putDoor_X7_isLevel rfl ⟨rfl, rfl⟩ 1 (by decide +kernel) ⟨Nat.le_of_ble_eq_true rfl, Nat.le_of_ble_eq_true rfl⟩ rfl (Nat.le_of_ble_eq_true rfl) dX7_putDoor_28 rfl ?_
          refine tt_if_neB C (tgt := 37) dX7_putDoor_31 (by decide) (fun c_5 => ?_) (fun c_5 => ?_)
          · skip
            refine tt_aload_n C dX7_putDoor_37 rfl 0 rfl ?_
            refine tt_get (v := .ref (eA E 6 1)) C oM0 rfl hin7 0 (by decide) (List.mem_of_getElem? (i := 1) (by decide +kernel)) rfl dX7_putDoor_38 ?_
            refine tt_sipush (v := nI 529) C dX7_putDoor_41 (by decide) ?_
            refine tt_ialdB (v := nI (ix (h 1 529))) C aM1 529 rfl (by omega) (ix_eq hD (by decide)) dX7_putDoor_44 ?_
            refine tt_bipush (v := nI 8) C dX7_putDoor_45 (by decide) ?_
            refine tt_icmp_ne C (tgt := 53) dX7_putDoor_47 (by decide) (nI_eq (by omega) (by omega)) (fun c_6 => ?_) (fun c_6 => ?_)
            · skip
              refine tt_aload_n C dX7_putDoor_53 rfl 0 rfl ?_
              refine tt_get (v := .ref (eA E 6 1)) C oM0 rfl hin7 0 (by decide) (List.mem_of_getElem? (i := 1) (by decide +kernel)) rfl dX7_putDoor_54 ?_
              refine tt_sipush (v := nI 529) C dX7_putDoor_57 (by decide) ?_
              refine tt_ialdB (v := nI (ix (h 1 529))) C aM1 529 rfl (by omega) (ix_eq hD (by decide)) dX7_putDoor_60 ?_
              refine tt_istore (lv' := [(0, .ref (eA E 6 0)), (1, .int f), (2, .int t), (3, .int a), (4, .int b), (5, .int (nI (ix (h 1 529))))]) C dX7_putDoor_61 (by decide) [1, 2, 3, 4, 5, 0] rfl ?_
              refine tt_iconst (v := nI 0) C dX7_putDoor_63 (by decide) ?_
              refine tt_istore (lv' := [(0, .ref (eA E 6 0)), (1, .int f), (2, .int t), (3, .int a), (4, .int b), (5, .int (nI (ix (h 1 529)))), (6, .int (nI 0))]) C dX7_putDoor_64 (by decide) [1, 2, 3, 4, 5, 6, 0] rfl ?_
              exact l_pd E u r h f t a b hc hD F C K 61 0 (by omega) (by omega)
            · skip
              exact absurd c_6 (by omega)
          · skip
            exact absurd hc.2.2.2.2 c_5
