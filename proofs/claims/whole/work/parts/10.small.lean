set_option maxHeartbeats 4000000 in
set_option maxRecDepth 100000 in
theorem c_X6_isBelow (E : EN) (u : U3) (r : R1) (v : Int32) (e : Int32)  : CT E yX6_isBelow wsX6_isBelow (rmT 0 0) [.int v, .int e] (u) r (some (.int (b2i (¬ v < 0 ∧ ¬ e ≤ v)))) (u) r := by
  refine CT_ofI (cc := cX6_isBelow) (nL := 2) (own := RX6) (by decide) rfl rfl (b2i_z _) (Nat.le_of_ble_eq_true rfl) (fun F C K => ?_)
  refine tt_to (lv1 := [(0, .int v), (1, .int e)]) rfl rfl rfl rfl ?_
  refine tt_iload_n C dX6_isBelow_0 rfl 0 rfl ?_
  refine tt_if_lt C (tgt := 13) dX6_isBelow_1 (by decide) Iff.rfl (fun c_1 => ?_) (fun c_1 => ?_)
  · skip
    refine tt_iconst (v := nI 0) C dX6_isBelow_13 (by decide) ?_
    exact tt_iret K dX6_isBelow_14 (by exact b1_f (by first | (simp only [c_1, not_false_eq_true, not_true_eq_false, and_true, true_and, and_false, false_and, and_self, or_true, true_or, or_false, false_or, or_self, if_true, if_false]; done) | grind)) rfl rfl
  · skip
    refine tt_iload_n C dX6_isBelow_4 rfl 0 rfl ?_
    refine tt_iload_n C dX6_isBelow_5 rfl 1 rfl ?_
    refine tt_icmp_ge C (tgt := 13) dX6_isBelow_6 (by decide) Iff.rfl (fun c_2 => ?_) (fun c_2 => ?_)
    · skip
      refine tt_iconst (v := nI 0) C dX6_isBelow_13 (by decide) ?_
      exact tt_iret K dX6_isBelow_14 (by exact b1_f (by first | (simp only [c_1, c_2, not_false_eq_true, not_true_eq_false, and_true, true_and, and_false, false_and, and_self, or_true, true_or, or_false, false_or, or_self, if_true, if_false]; done) | grind)) rfl rfl
    · skip
      refine tt_iconst (v := nI 1) C dX6_isBelow_9 (by decide) ?_
      refine tt_goto (tgt := 14) C dX6_isBelow_10 (by decide) ?_
      exact tt_iret K dX6_isBelow_14 (by exact b1_t (by first | (simp only [c_1, c_2, not_false_eq_true, not_true_eq_false, and_true, true_and, and_false, false_and, and_self, or_true, true_or, or_false, false_or, or_self, if_true, if_false]; done) | grind)) rfl rfl

set_option maxHeartbeats 4000000 in
set_option maxRecDepth 100000 in
theorem c_X6_isArea (E : EN) (u : U3) (r : R1) (v : Int32)  : CT E yX6_isArea wsX6_isArea (rmT 1 21) [.int v] (u) r (some (.int (b2i (¬ v < 0 ∧ ¬ nI 6 ≤ v)))) (u) r := by
  refine CT_ofI (cc := cX6_isArea) (nL := 1) (own := RX6) (by decide) rfl rfl (b2i_z _) (Nat.le_of_ble_eq_true rfl) (fun F C K => ?_)
  refine tt_to (lv1 := [(0, .int v)]) rfl rfl rfl rfl ?_
  refine tt_iload_n C dX6_isArea_0 rfl 0 rfl ?_
  refine tt_bipush (v := nI 6) C dX6_isArea_1 (by decide) ?_
  refine tt_cSI C (c_X6_isBelow E u r v (nI 6)) gX6_isArea_X6_isBelow rfl ⟨rfl, rfl⟩ 2 (by decide +kernel) ⟨Nat.le_of_ble_eq_true rfl, Nat.le_of_ble_eq_true rfl⟩ rfl (Nat.le_of_ble_eq_true rfl) dX6_isArea_3 rfl ?_
  exact tt_iret K dX6_isArea_6 (by first | rfl | (simp []; done) | grind []) rfl rfl

set_option maxHeartbeats 4000000 in
set_option maxRecDepth 100000 in
theorem c_X6_isLevel (E : EN) (u : U3) (r : R1) (v : Int32)  : CT E yX6_isLevel wsX6_isLevel (rmT 0 0) [.int v] (u) r (some (.int (b2i (¬ v < 0 ∧ ¬ nI 3 < v)))) (u) r := by
  refine CT_ofI (cc := cX6_isLevel) (nL := 1) (own := RX6) (by decide) rfl rfl (b2i_z _) (Nat.le_of_ble_eq_true rfl) (fun F C K => ?_)
  refine tt_to (lv1 := [(0, .int v)]) rfl rfl rfl rfl ?_
  refine tt_iload_n C dX6_isLevel_0 rfl 0 rfl ?_
  refine tt_if_lt C (tgt := 13) dX6_isLevel_1 (by decide) Iff.rfl (fun c_1 => ?_) (fun c_1 => ?_)
  · skip
    refine tt_iconst (v := nI 0) C dX6_isLevel_13 (by decide) ?_
    exact tt_iret K dX6_isLevel_14 (by exact b1_f (by first | (simp only [c_1, not_false_eq_true, not_true_eq_false, and_true, true_and, and_false, false_and, and_self, or_true, true_or, or_false, false_or, or_self, if_true, if_false]; done) | grind)) rfl rfl
  · skip
    refine tt_iload_n C dX6_isLevel_4 rfl 0 rfl ?_
    refine tt_iconst (v := nI 3) C dX6_isLevel_5 (by decide) ?_
    refine tt_icmp_gt C (tgt := 13) dX6_isLevel_6 (by decide) Iff.rfl (fun c_2 => ?_) (fun c_2 => ?_)
    · skip
      refine tt_iconst (v := nI 0) C dX6_isLevel_13 (by decide) ?_
      exact tt_iret K dX6_isLevel_14 (by exact b1_f (by first | (simp only [c_1, c_2, not_false_eq_true, not_true_eq_false, and_true, true_and, and_false, false_and, and_self, or_true, true_or, or_false, false_or, or_self, if_true, if_false]; done) | grind)) rfl rfl
    · skip
      refine tt_iconst (v := nI 1) C dX6_isLevel_9 (by decide) ?_
      refine tt_goto (tgt := 14) C dX6_isLevel_10 (by decide) ?_
      exact tt_iret K dX6_isLevel_14 (by exact b1_t (by first | (simp only [c_1, c_2, not_false_eq_true, not_true_eq_false, and_true, true_and, and_false, false_and, and_self, or_true, true_or, or_false, false_or, or_self, if_true, if_false]; done) | grind)) rfl rfl

set_option maxHeartbeats 4000000 in
set_option maxRecDepth 100000 in
theorem c_X6_isFlag (E : EN) (u : U3) (r : R1) (v : Int32)  : CT E yX6_isFlag wsX6_isFlag (rmT 0 0) [.int v] (u) r (some (.int (b2i (v = 0 ∨ v = nI 1)))) (u) r := by
  refine CT_ofI (cc := cX6_isFlag) (nL := 1) (own := RX6) (by decide) rfl rfl (b2i_z _) (Nat.le_of_ble_eq_true rfl) (fun F C K => ?_)
  refine tt_to (lv1 := [(0, .int v)]) rfl rfl rfl rfl ?_
  refine tt_iload_n C dX6_isFlag_0 rfl 0 rfl ?_
  refine tt_if_eq C (tgt := 9) dX6_isFlag_1 (by decide) Iff.rfl (fun c_1 => ?_) (fun c_1 => ?_)
  · skip
    refine tt_iconst (v := nI 1) C dX6_isFlag_9 (by decide) ?_
    refine tt_goto (tgt := 14) C dX6_isFlag_10 (by decide) ?_
    exact tt_iret K dX6_isFlag_14 (by exact b1_t (by first | (simp only [c_1, not_false_eq_true, not_true_eq_false, and_true, true_and, and_false, false_and, and_self, or_true, true_or, or_false, false_or, or_self, if_true, if_false]; done) | grind)) rfl rfl
  · skip
    refine tt_iload_n C dX6_isFlag_4 rfl 0 rfl ?_
    refine tt_iconst (v := nI 1) C dX6_isFlag_5 (by decide) ?_
    refine tt_icmp_ne C (tgt := 13) dX6_isFlag_6 (by decide) Iff.rfl (fun c_2 => ?_) (fun c_2 => ?_)
    · skip
      refine tt_iconst (v := nI 0) C dX6_isFlag_13 (by decide) ?_
      exact tt_iret K dX6_isFlag_14 (by exact b1_f (by first | (simp only [c_1, c_2, not_false_eq_true, not_true_eq_false, and_true, true_and, and_false, false_and, and_self, or_true, true_or, or_false, false_or, or_self, if_true, if_false]; done) | grind)) rfl rfl
    · skip
      refine tt_iconst (v := nI 1) C dX6_isFlag_9 (by decide) ?_
      refine tt_goto (tgt := 14) C dX6_isFlag_10 (by decide) ?_
      exact tt_iret K dX6_isFlag_14 (by exact b1_t (by first | (simp only [c_1, c_2, not_false_eq_true, not_true_eq_false, and_true, true_and, and_false, false_and, and_self, or_true, true_or, or_false, false_or, or_self, if_true, if_false]; done) | grind)) rfl rfl

set_option maxHeartbeats 4000000 in
set_option maxRecDepth 100000 in
theorem c_X6_isSetting (E : EN) (u : U3) (r : R1) (w : Int32) (v : Int32)  : CT E yX6_isSetting wsX6_isSetting (rmT 1 20) [.int w, .int v] (u) r (some (.int (b2i ((w = 0 ∧ ¬ v < 0 ∧ v ≤ nI 2) ∨ (w = nI 1 ∧ (v = 0 ∨ v = nI 1)))))) (u) r := by
  refine CT_ofI (cc := cX6_isSetting) (nL := 2) (own := RX6) (by decide) rfl rfl (b2i_z _) (Nat.le_of_ble_eq_true rfl) (fun F C K => ?_)
  refine tt_to (lv1 := [(0, .int w), (1, .int v)]) rfl rfl rfl rfl ?_
  refine tt_iload_n C dX6_isSetting_0 rfl 0 rfl ?_
  refine tt_if_ne C (tgt := 13) dX6_isSetting_1 (by decide) Iff.rfl (fun c_1 => ?_) (fun c_1 => ?_)
  · skip
    refine tt_iload_n C dX6_isSetting_13 rfl 0 rfl ?_
    refine tt_iconst (v := nI 1) C dX6_isSetting_14 (by decide) ?_
    refine tt_icmp_ne C (tgt := 29) dX6_isSetting_15 (by decide) Iff.rfl (fun c_2 => ?_) (fun c_2 => ?_)
    · skip
      refine tt_iconst (v := nI 0) C dX6_isSetting_29 (by decide) ?_
      exact tt_iret K dX6_isSetting_30 (by exact b1_f (by first | (simp only [c_1, c_2, not_false_eq_true, not_true_eq_false, and_true, true_and, and_false, false_and, and_self, or_true, true_or, or_false, false_or, or_self, if_true, if_false]; done) | grind)) rfl rfl
    · skip
      refine tt_iload_n C dX6_isSetting_18 rfl 1 rfl ?_
      refine tt_cSI C (c_X6_isFlag E u r v) gX6_isSetting_X6_isFlag rfl ⟨rfl, rfl⟩ 1 (by decide +kernel) ⟨Nat.le_of_ble_eq_true rfl, Nat.le_of_ble_eq_true rfl⟩ rfl (Nat.le_of_ble_eq_true rfl) dX6_isSetting_19 rfl ?_
      refine tt_if_eqB C (tgt := 29) dX6_isSetting_22 (by decide) (fun c_3 => ?_) (fun c_3 => ?_)
      · skip
        refine tt_iconst (v := nI 0) C dX6_isSetting_29 (by decide) ?_
        exact tt_iret K dX6_isSetting_30 (by exact b1_f (by first | (simp only [c_1, c_2, c_3, not_false_eq_true, not_true_eq_false, and_true, true_and, and_false, false_and, and_self, or_true, true_or, or_false, false_or, or_self, if_true, if_false]; done) | grind)) rfl rfl
      · skip
        refine tt_iconst (v := nI 1) C dX6_isSetting_25 (by decide) ?_
        refine tt_goto (tgt := 30) C dX6_isSetting_26 (by decide) ?_
        exact tt_iret K dX6_isSetting_30 (by exact b1_t (by first | (simp only [c_1, c_2, c_3, not_false_eq_true, not_true_eq_false, and_true, true_and, and_false, false_and, and_self, or_true, true_or, or_false, false_or, or_self, if_true, if_false]; done) | grind)) rfl rfl
  · skip
    refine tt_iload_n C dX6_isSetting_4 rfl 1 rfl ?_
    refine tt_if_lt C (tgt := 13) dX6_isSetting_5 (by decide) Iff.rfl (fun c_4 => ?_) (fun c_4 => ?_)
    · skip
      refine tt_iload_n C dX6_isSetting_13 rfl 0 rfl ?_
      refine tt_iconst (v := nI 1) C dX6_isSetting_14 (by decide) ?_
      refine tt_icmp_ne C (tgt := 29) dX6_isSetting_15 (by decide) Iff.rfl (fun c_5 => ?_) (fun c_5 => ?_)
      · skip
        refine tt_iconst (v := nI 0) C dX6_isSetting_29 (by decide) ?_
        exact tt_iret K dX6_isSetting_30 (by exact b1_f (by first | (simp only [c_1, c_4, c_5, not_false_eq_true, not_true_eq_false, and_true, true_and, and_false, false_and, and_self, or_true, true_or, or_false, false_or, or_self, if_true, if_false]; done) | grind)) rfl rfl
      · skip
        refine tt_iload_n C dX6_isSetting_18 rfl 1 rfl ?_
        refine tt_cSI C (c_X6_isFlag E u r v) gX6_isSetting_X6_isFlag rfl ⟨rfl, rfl⟩ 1 (by decide +kernel) ⟨Nat.le_of_ble_eq_true rfl, Nat.le_of_ble_eq_true rfl⟩ rfl (Nat.le_of_ble_eq_true rfl) dX6_isSetting_19 rfl ?_
        refine tt_if_eqB C (tgt := 29) dX6_isSetting_22 (by decide) (fun c_6 => ?_) (fun c_6 => ?_)
        · skip
          refine tt_iconst (v := nI 0) C dX6_isSetting_29 (by decide) ?_
          exact tt_iret K dX6_isSetting_30 (by exact b1_f (by first | (simp only [c_1, c_4, c_5, c_6, not_false_eq_true, not_true_eq_false, and_true, true_and, and_false, false_and, and_self, or_true, true_or, or_false, false_or, or_self, if_true, if_false]; done) | grind)) rfl rfl
        · skip
          refine tt_iconst (v := nI 1) C dX6_isSetting_25 (by decide) ?_
          refine tt_goto (tgt := 30) C dX6_isSetting_26 (by decide) ?_
          exact tt_iret K dX6_isSetting_30 (by exact b1_t (by first | (simp only [c_1, c_4, c_5, c_6, not_false_eq_true, not_true_eq_false, and_true, true_and, and_false, false_and, and_self, or_true, true_or, or_false, false_or, or_self, if_true, if_false]; done) | grind)) rfl rfl
    · skip
      refine tt_iload_n C dX6_isSetting_8 rfl 1 rfl ?_
      refine tt_iconst (v := nI 2) C dX6_isSetting_9 (by decide) ?_
      refine tt_icmp_le C (tgt := 25) dX6_isSetting_10 (by decide) Iff.rfl (fun c_7 => ?_) (fun c_7 => ?_)
      · skip
        refine tt_iconst (v := nI 1) C dX6_isSetting_25 (by decide) ?_
        refine tt_goto (tgt := 30) C dX6_isSetting_26 (by decide) ?_
        exact tt_iret K dX6_isSetting_30 (by exact b1_t (by first | (simp only [c_1, c_4, c_7, not_false_eq_true, not_true_eq_false, and_true, true_and, and_false, false_and, and_self, or_true, true_or, or_false, false_or, or_self, if_true, if_false]; done) | grind)) rfl rfl
      · skip
        refine tt_iload_n C dX6_isSetting_13 rfl 0 rfl ?_
        refine tt_iconst (v := nI 1) C dX6_isSetting_14 (by decide) ?_
        refine tt_icmp_ne C (tgt := 29) dX6_isSetting_15 (by decide) Iff.rfl (fun c_8 => ?_) (fun c_8 => ?_)
        · skip
          refine tt_iconst (v := nI 0) C dX6_isSetting_29 (by decide) ?_
          exact tt_iret K dX6_isSetting_30 (by exact b1_f (by first | (simp only [c_1, c_4, c_7, c_8, not_false_eq_true, not_true_eq_false, and_true, true_and, and_false, false_and, and_self, or_true, true_or, or_false, false_or, or_self, if_true, if_false]; done) | grind)) rfl rfl
        · skip
          refine tt_iload_n C dX6_isSetting_18 rfl 1 rfl ?_
          refine tt_cSI C (c_X6_isFlag E u r v) gX6_isSetting_X6_isFlag rfl ⟨rfl, rfl⟩ 1 (by decide +kernel) ⟨Nat.le_of_ble_eq_true rfl, Nat.le_of_ble_eq_true rfl⟩ rfl (Nat.le_of_ble_eq_true rfl) dX6_isSetting_19 rfl ?_
          refine tt_if_eqB C (tgt := 29) dX6_isSetting_22 (by decide) (fun c_9 => ?_) (fun c_9 => ?_)
          · skip
            refine tt_iconst (v := nI 0) C dX6_isSetting_29 (by decide) ?_
            exact tt_iret K dX6_isSetting_30 (by exact b1_f (by first | (simp only [c_1, c_4, c_7, c_8, c_9, not_false_eq_true, not_true_eq_false, and_true, true_and, and_false, false_and, and_self, or_true, true_or, or_false, false_or, or_self, if_true, if_false]; done) | grind)) rfl rfl
          · skip
            refine tt_iconst (v := nI 1) C dX6_isSetting_25 (by decide) ?_
            refine tt_goto (tgt := 30) C dX6_isSetting_26 (by decide) ?_
            exact tt_iret K dX6_isSetting_30 (by exact b1_t (by first | (simp only [c_1, c_4, c_7, c_8, c_9, not_false_eq_true, not_true_eq_false, and_true, true_and, and_false, false_and, and_self, or_true, true_or, or_false, false_or, or_self, if_true, if_false]; done) | grind)) rfl rfl

set_option maxHeartbeats 4000000 in
set_option maxRecDepth 100000 in
theorem c_X1_changeSetting (E : EN) (u : U3) (r : R1) (h : HB) (i : Nat) (d : Nat) (w : Int32) (v : Int32) (hi : i < 5) (hd : d < 8) : CT E yX1_changeSetting wsX1_changeSetting (rmT 0 0) [.ref (eA E i 1), .int (nI d), .int w, .int v] (ub u i h) r (some (.int (if w = 0 then h 6 d else h 7 d))) (ub u i (if w = 0 then up2 h 6 d v else up2 h 7 d v)) r := by
  refine CT_ofI (cc := cX1_changeSetting) (nL := 6) (own := RX1) (by decide) rfl rfl rfl (Nat.le_of_ble_eq_true rfl) (fun F C K => ?_)
  have hin1 : ∀ w ∈ u_ws RX1 TX1 17, w ∈ wsX1_changeSetting := by decide +kernel
  refine tt_to (lv1 := [(0, .ref (eA E i 1)), (1, .int (nI d)), (2, .int w), (3, .int v)]) rfl rfl rfl rfl ?_
  refine tt_iload_n C dX1_changeSetting_0 rfl 2 rfl ?_
  refine tt_if_ne C (tgt := 11) dX1_changeSetting_1 (by decide) Iff.rfl (fun c_1 => ?_) (fun c_1 => ?_)
  · skip
    refine tt_aload_n C dX1_changeSetting_11 rfl 0 rfl ?_
    refine tt_get (v := .ref (eA E i 7)) C (oH1 hi) rfl hin1 6 (by decide) (List.mem_of_getElem? (i := 2) (by decide +kernel)) rfl dX1_changeSetting_12 ?_
    refine tt_astore (lv' := [(0, .ref (eA E i 1)), (1, .int (nI d)), (2, .int w), (3, .int v), (4, .ref (eA E i 7))]) C dX1_changeSetting_15 (by decide) [1, 2, 3, 4, 0] rfl ?_
    refine tt_aload C dX1_changeSetting_17 4 rfl ?_
    refine tt_iload_n C dX1_changeSetting_19 rfl 1 rfl ?_
    refine tt_ialdB (v := h 7 d) C (aH7 hi) d rfl (by omega) rfl dX1_changeSetting_20 ?_
    refine tt_istore (lv' := [(0, .ref (eA E i 1)), (1, .int (nI d)), (2, .int w), (3, .int v), (4, .ref (eA E i 7)), (5, .int (h 7 d))]) C dX1_changeSetting_21 (by decide) [1, 2, 3, 4, 5, 0] rfl ?_
    refine tt_aload C dX1_changeSetting_23 4 rfl ?_
    refine tt_iload_n C dX1_changeSetting_25 rfl 1 rfl ?_
    refine tt_iload_n C dX1_changeSetting_26 rfl 3 rfl ?_
    refine tt_iastB C (aH7 hi) d rfl (by omega) dX1_changeSetting_27 ?_
    generalize e_3 : up2 h 7 d v = h_2
    refine tt_iload C dX1_changeSetting_28 5 rfl ?_
    exact tt_iret K dX1_changeSetting_30 (by subst e_3; first | rfl | (simp [c_1]; done) | grind []) (by subst e_3; first | rfl | (simp [c_1]; done) | (refine congrArg _ ?_; grind [])) rfl
  · skip
    refine tt_aload_n C dX1_changeSetting_4 rfl 0 rfl ?_
    refine tt_get (v := .ref (eA E i 6)) C (oH1 hi) rfl hin1 5 (by decide) (List.mem_of_getElem? (i := 1) (by decide +kernel)) rfl dX1_changeSetting_5 ?_
    refine tt_goto (tgt := 15) C dX1_changeSetting_8 (by decide) ?_
    refine tt_astore (lv' := [(0, .ref (eA E i 1)), (1, .int (nI d)), (2, .int w), (3, .int v), (4, .ref (eA E i 6))]) C dX1_changeSetting_15 (by decide) [1, 2, 3, 4, 0] rfl ?_
    refine tt_aload C dX1_changeSetting_17 4 rfl ?_
    refine tt_iload_n C dX1_changeSetting_19 rfl 1 rfl ?_
    refine tt_ialdB (v := h 6 d) C (aH6 hi) d rfl (by omega) rfl dX1_changeSetting_20 ?_
    refine tt_istore (lv' := [(0, .ref (eA E i 1)), (1, .int (nI d)), (2, .int w), (3, .int v), (4, .ref (eA E i 6)), (5, .int (h 6 d))]) C dX1_changeSetting_21 (by decide) [1, 2, 3, 4, 5, 0] rfl ?_
    refine tt_aload C dX1_changeSetting_23 4 rfl ?_
    refine tt_iload_n C dX1_changeSetting_25 rfl 1 rfl ?_
    refine tt_iload_n C dX1_changeSetting_26 rfl 3 rfl ?_
    refine tt_iastB C (aH6 hi) d rfl (by omega) dX1_changeSetting_27 ?_
    generalize e_5 : up2 h 6 d v = h_4
    refine tt_iload C dX1_changeSetting_28 5 rfl ?_
    exact tt_iret K dX1_changeSetting_30 (by subst e_5; first | rfl | (simp [c_1]; done) | grind []) (by subst e_5; first | rfl | (simp [c_1]; done) | (refine congrArg _ ?_; grind [])) rfl

def H_unlock (h : HB) (d : Nat) : HB := if h 8 d = -1 then up2 h 8 d (-1) else up2 (up2 h 8 (ix (h 8 d)) (-1)) 8 d (-1)
set_option maxHeartbeats 4000000 in
set_option maxRecDepth 100000 in
theorem c_X1_unlock (E : EN) (u : U3) (r : R1) (h : HB) (i : Nat) (d : Nat) (hi : i < 5) (hd : d < 8) (ho : h 8 d = -1 ∨ vI (h 8 d) 8) : CT E yX1_unlock wsX1_unlock (rmT 0 0) [.ref (eA E i 1), .int (nI d)] (ub u i h) r none (ub u i (H_unlock h d)) r := by
  refine CT_ofV (cc := cX1_unlock) (nL := 3) (own := RX1) (by decide) rfl rfl (Nat.le_of_ble_eq_true rfl) (fun F C K => ?_)
  have hin1 : ∀ w ∈ u_ws RX1 TX1 17, w ∈ wsX1_unlock := by decide +kernel
  refine tt_to (lv1 := [(0, .ref (eA E i 1)), (1, .int (nI d))]) rfl rfl rfl rfl ?_
  refine tt_aload_n C dX1_unlock_0 rfl 0 rfl ?_
  refine tt_get (v := .ref (eA E i 8)) C (oH1 hi) rfl hin1 7 (by decide) (List.mem_of_getElem? (i := 1) (by decide +kernel)) rfl dX1_unlock_1 ?_
  refine tt_iload_n C dX1_unlock_4 rfl 1 rfl ?_
  refine tt_ialdB (v := h 8 d) C (aH8 hi) d rfl (by omega) rfl dX1_unlock_5 ?_
  refine tt_istore_n (lv' := [(0, .ref (eA E i 1)), (1, .int (nI d)), (2, .int (h 8 d))]) C dX1_unlock_6 rfl (by decide) [1, 2, 0] rfl ?_
  refine tt_iload_n C dX1_unlock_7 rfl 2 rfl ?_
  refine tt_iconst (v := (-1 : Int32)) C dX1_unlock_8 (by decide) ?_
  refine tt_icmp_eq C (tgt := 19) dX1_unlock_9 (by decide) Iff.rfl (fun c_1 => ?_) (fun c_1 => ?_)
  · skip
    refine tt_aload_n C dX1_unlock_19 rfl 0 rfl ?_
    refine tt_get (v := .ref (eA E i 8)) C (oH1 hi) rfl hin1 7 (by decide) (List.mem_of_getElem? (i := 1) (by decide +kernel)) rfl dX1_unlock_20 ?_
    refine tt_iload_n C dX1_unlock_23 rfl 1 rfl ?_
    refine tt_iconst (v := (-1 : Int32)) C dX1_unlock_24 (by decide) ?_
    refine tt_iastB C (aH8 hi) d rfl (by omega) dX1_unlock_25 ?_
    generalize e_3 : up2 h 8 d (-1 : Int32) = h_2
    exact tt_vret K dX1_unlock_26 (by subst e_3; first | rfl | (simp [c_1, H_unlock]; done) | (refine congrArg _ ?_; grind [H_unlock])) rfl
  · skip
    refine tt_aload_n C dX1_unlock_12 rfl 0 rfl ?_
    refine tt_get (v := .ref (eA E i 8)) C (oH1 hi) rfl hin1 7 (by decide) (List.mem_of_getElem? (i := 1) (by decide +kernel)) rfl dX1_unlock_13 ?_
    refine tt_iload_n C dX1_unlock_16 rfl 2 rfl ?_
    refine tt_iconst (v := (-1 : Int32)) C dX1_unlock_17 (by decide) ?_
    refine tt_iastB C (aH8 hi) (ix (h 8 d)) (ix_eq (ho.resolve_left c_1) (by decide)) (ix_lt (ho.resolve_left c_1) (by decide)) dX1_unlock_18 ?_
    generalize e_5 : up2 h 8 (ix (h 8 d)) (-1 : Int32) = h_4
    refine tt_aload_n C dX1_unlock_19 rfl 0 rfl ?_
    refine tt_get (v := .ref (eA E i 8)) C (oH1 hi) rfl hin1 7 (by decide) (List.mem_of_getElem? (i := 1) (by decide +kernel)) rfl dX1_unlock_20 ?_
    refine tt_iload_n C dX1_unlock_23 rfl 1 rfl ?_
    refine tt_iconst (v := (-1 : Int32)) C dX1_unlock_24 (by decide) ?_
    refine tt_iastB C (aH8 hi) d rfl (by omega) dX1_unlock_25 ?_
    generalize e_7 : up2 h_4 8 d (-1 : Int32) = h_6
    exact tt_vret K dX1_unlock_26 (by subst e_7; subst e_5; first | rfl | (simp [c_1, H_unlock]; done) | (refine congrArg _ ?_; grind [H_unlock])) rfl

set_option maxHeartbeats 4000000 in
set_option maxRecDepth 100000 in
theorem c_X1_isBarredByCopy (E : EN) (u : U3) (r : R1) (h : HB) (i : Nat) (d : Nat) (b : Nat) (hi : i < 5) (hd : d < 8) (hb : b < 8) : CT E yX1_isBarredByCopy wsX1_isBarredByCopy (rmT 0 0) [.ref (eA E i 1), .int (nI d), .int (nI b)] (ub u i h) r (some (.int (b2i (h 15 d ≤ nI b ∨ h 16 (d * 8 + b) = nI 1)))) (ub u i h) r := by
  refine CT_ofI (cc := cX1_isBarredByCopy) (nL := 3) (own := RX1) (by decide) rfl rfl (b2i_z _) (Nat.le_of_ble_eq_true rfl) (fun F C K => ?_)
  have hin1 : ∀ w ∈ u_ws RX1 TX1 17, w ∈ wsX1_isBarredByCopy := by decide +kernel
  refine tt_to (lv1 := [(0, .ref (eA E i 1)), (1, .int (nI d)), (2, .int (nI b))]) rfl rfl rfl rfl ?_
  refine tt_iload_n C dX1_isBarredByCopy_0 rfl 2 rfl ?_
  refine tt_aload_n C dX1_isBarredByCopy_1 rfl 0 rfl ?_
  refine tt_get (v := .ref (eA E i 15)) C (oH1 hi) rfl hin1 14 (by decide) (List.mem_of_getElem? (i := 1) (by decide +kernel)) rfl dX1_isBarredByCopy_2 ?_
  refine tt_iload_n C dX1_isBarredByCopy_5 rfl 1 rfl ?_
  refine tt_ialdB (v := h 15 d) C (aH15 hi) d rfl (by omega) rfl dX1_isBarredByCopy_6 ?_
  refine tt_icmp_ge C (tgt := 25) dX1_isBarredByCopy_7 (by decide) Iff.rfl (fun c_1 => ?_) (fun c_1 => ?_)
  · skip
    refine tt_iconst (v := nI 1) C dX1_isBarredByCopy_25 (by decide) ?_
    refine tt_goto (tgt := 30) C dX1_isBarredByCopy_26 (by decide) ?_
    exact tt_iret K dX1_isBarredByCopy_30 (by exact b1_t (by first | (simp only [c_1, not_false_eq_true, not_true_eq_false, and_true, true_and, and_false, false_and, and_self, or_true, true_or, or_false, false_or, or_self, if_true, if_false]; done) | grind)) (by first | rfl | (simp [c_1]; done) | (refine congrArg _ ?_; grind [])) rfl
  · skip
    refine tt_aload_n C dX1_isBarredByCopy_10 rfl 0 rfl ?_
    refine tt_get (v := .ref (eA E i 16)) C (oH1 hi) rfl hin1 15 (by decide) (List.mem_of_getElem? (i := 2) (by decide +kernel)) rfl dX1_isBarredByCopy_11 ?_
    refine tt_iload_n C dX1_isBarredByCopy_14 rfl 1 rfl ?_
    refine tt_bipush (v := nI 8) C dX1_isBarredByCopy_15 (by decide) ?_
    refine tt_imul (v := nI (d * 8)) C dX1_isBarredByCopy_17 (pk_mul _ _) ?_
    refine tt_iload_n C dX1_isBarredByCopy_18 rfl 2 rfl ?_
    refine tt_iadd (v := nI (d * 8 + b)) C dX1_isBarredByCopy_19 (nI_add _ _) ?_
    refine tt_ialdB (v := h 16 (d * 8 + b)) C (aH16 hi) (d * 8 + b) rfl (by omega) rfl dX1_isBarredByCopy_20 ?_
    refine tt_iconst (v := nI 1) C dX1_isBarredByCopy_21 (by decide) ?_
    refine tt_icmp_ne C (tgt := 29) dX1_isBarredByCopy_22 (by decide) Iff.rfl (fun c_2 => ?_) (fun c_2 => ?_)
    · skip
      refine tt_iconst (v := nI 0) C dX1_isBarredByCopy_29 (by decide) ?_
      exact tt_iret K dX1_isBarredByCopy_30 (by exact b1_f (by first | (simp only [c_1, c_2, not_false_eq_true, not_true_eq_false, and_true, true_and, and_false, false_and, and_self, or_true, true_or, or_false, false_or, or_self, if_true, if_false]; done) | grind)) (by first | rfl | (simp [c_1, c_2]; done) | (refine congrArg _ ?_; grind [])) rfl
    · skip
      refine tt_iconst (v := nI 1) C dX1_isBarredByCopy_25 (by decide) ?_
      refine tt_goto (tgt := 30) C dX1_isBarredByCopy_26 (by decide) ?_
      exact tt_iret K dX1_isBarredByCopy_30 (by exact b1_t (by first | (simp only [c_1, c_2, not_false_eq_true, not_true_eq_false, and_true, true_and, and_false, false_and, and_self, or_true, true_or, or_false, false_or, or_self, if_true, if_false]; done) | grind)) (by first | rfl | (simp [c_1, c_2]; done) | (refine congrArg _ ?_; grind [])) rfl

set_option maxHeartbeats 4000000 in
set_option maxRecDepth 100000 in
theorem c_X1_levelByCopy (E : EN) (u : U3) (r : R1) (h : HB) (i : Nat) (d : Nat) (b : Nat) (hi : i < 5) (hd : d < 8) (hb : b < 8) : CT E yX1_levelByCopy wsX1_levelByCopy (rmT 0 0) [.ref (eA E i 1), .int (nI d), .int (nI b)] (ub u i h) r (some (.int (h 17 (d * 8 + b)))) (ub u i h) r := by
  refine CT_ofI (cc := cX1_levelByCopy) (nL := 3) (own := RX1) (by decide) rfl rfl rfl (Nat.le_of_ble_eq_true rfl) (fun F C K => ?_)
  have hin1 : ∀ w ∈ u_ws RX1 TX1 17, w ∈ wsX1_levelByCopy := by decide +kernel
  refine tt_to (lv1 := [(0, .ref (eA E i 1)), (1, .int (nI d)), (2, .int (nI b))]) rfl rfl rfl rfl ?_
  refine tt_aload_n C dX1_levelByCopy_0 rfl 0 rfl ?_
  refine tt_get (v := .ref (eA E i 17)) C (oH1 hi) rfl hin1 16 (by decide) (List.mem_of_getElem? (i := 1) (by decide +kernel)) rfl dX1_levelByCopy_1 ?_
  refine tt_iload_n C dX1_levelByCopy_4 rfl 1 rfl ?_
  refine tt_bipush (v := nI 8) C dX1_levelByCopy_5 (by decide) ?_
  refine tt_imul (v := nI (d * 8)) C dX1_levelByCopy_7 (pk_mul _ _) ?_
  refine tt_iload_n C dX1_levelByCopy_8 rfl 2 rfl ?_
  refine tt_iadd (v := nI (d * 8 + b)) C dX1_levelByCopy_9 (nI_add _ _) ?_
  refine tt_ialdB (v := h 17 (d * 8 + b)) C (aH17 hi) (d * 8 + b) rfl (by omega) rfl dX1_levelByCopy_10 ?_
  exact tt_iret K dX1_levelByCopy_11 (by first | rfl | (simp []; done) | grind []) (by first | rfl | (simp []; done) | (refine congrArg _ ?_; grind [])) rfl

def H_addNote (h : HB) (d b : Nat) (t : Int32) : HB := if 20 ≤ ix (h 12 d) then h else up2 (up2 (up2 h 13 (d * 20 + ix (h 12 d)) t) 14 (d * 20 + ix (h 12 d)) (nI b)) 12 d (nI (ix (h 12 d) + 1))
theorem H_addNote_n {h : HB} {d b : Nat} {t : Int32} {k j : Nat} (hk : k ≠ 12 ∧ k ≠ 13 ∧ k ≠ 14) : H_addNote h d b t k j = h k j := by unfold H_addNote; split <;> simp [up2, hk.1, hk.2.1, hk.2.2]
set_option maxHeartbeats 4000000 in
set_option maxRecDepth 100000 in
theorem c_X1_addNote (E : EN) (u : U3) (r : R1) (h : HB) (i : Nat) (d : Nat) (b : Nat) (t : Int32) (hi : i < 5) (hd : d < 8) (hn : vI (h 12 d) 21) : CT E yX1_addNote wsX1_addNote (rmT 0 0) [.ref (eA E i 1), .int (nI d), .int (nI b), .int t] (ub u i h) r none (ub u i (H_addNote h d b t)) r := by
  refine CT_ofV (cc := cX1_addNote) (nL := 5) (own := RX1) (by decide) rfl rfl (Nat.le_of_ble_eq_true rfl) (fun F C K => ?_)
  have hin1 : ∀ w ∈ u_ws RX1 TX1 17, w ∈ wsX1_addNote := by decide +kernel
  refine tt_to (lv1 := [(0, .ref (eA E i 1)), (1, .int (nI d)), (2, .int (nI b)), (3, .int t)]) rfl rfl rfl rfl ?_
  have hn' := ix_lt hn (by decide)
  refine tt_aload_n C dX1_addNote_0 rfl 0 rfl ?_
  refine tt_get (v := .ref (eA E i 12)) C (oH1 hi) rfl hin1 11 (by decide) (List.mem_of_getElem? (i := 1) (by decide +kernel)) rfl dX1_addNote_1 ?_
  refine tt_iload_n C dX1_addNote_4 rfl 1 rfl ?_
  refine tt_ialdB (v := nI (ix (h 12 d))) C (aH12 hi) d rfl (by omega) (ix_eq hn (by decide)) dX1_addNote_5 ?_
  refine tt_istore (lv' := [(0, .ref (eA E i 1)), (1, .int (nI d)), (2, .int (nI b)), (3, .int t), (4, .int (nI (ix (h 12 d))))]) C dX1_addNote_6 (by decide) [1, 2, 3, 4, 0] rfl ?_
  refine tt_iload C dX1_addNote_8 4 rfl ?_
  refine tt_bipush (v := nI 20) C dX1_addNote_10 (by decide) ?_
  refine tt_icmp_ge C (tgt := 51) dX1_addNote_12 (by decide) (nI_leI (by omega) (by omega)) (fun c_1 => ?_) (fun c_1 => ?_)
  · skip
    exact tt_vret K dX1_addNote_51 (by first | rfl | (simp [c_1, H_addNote]; done) | (refine congrArg _ ?_; grind [H_addNote])) rfl
  · skip
    refine tt_aload_n C dX1_addNote_15 rfl 0 rfl ?_
    refine tt_get (v := .ref (eA E i 13)) C (oH1 hi) rfl hin1 12 (by decide) (List.mem_of_getElem? (i := 2) (by decide +kernel)) rfl dX1_addNote_16 ?_
    refine tt_iload_n C dX1_addNote_19 rfl 1 rfl ?_
    refine tt_bipush (v := nI 20) C dX1_addNote_20 (by decide) ?_
    refine tt_imul (v := nI (d * 20)) C dX1_addNote_22 (pk_mul _ _) ?_
    refine tt_iload C dX1_addNote_23 4 rfl ?_
    refine tt_iadd (v := nI (d * 20 + (ix (h 12 d)))) C dX1_addNote_25 (nI_add _ _) ?_
    refine tt_iload_n C dX1_addNote_26 rfl 3 rfl ?_
    refine tt_iastB C (aH13 hi) (d * 20 + (ix (h 12 d))) rfl (by omega) dX1_addNote_27 ?_
    generalize e_3 : up2 h 13 (d * 20 + (ix (h 12 d))) t = h_2
    refine tt_aload_n C dX1_addNote_28 rfl 0 rfl ?_
    refine tt_get (v := .ref (eA E i 14)) C (oH1 hi) rfl hin1 13 (by decide) (List.mem_of_getElem? (i := 3) (by decide +kernel)) rfl dX1_addNote_29 ?_
    refine tt_iload_n C dX1_addNote_32 rfl 1 rfl ?_
    refine tt_bipush (v := nI 20) C dX1_addNote_33 (by decide) ?_
    refine tt_imul (v := nI (d * 20)) C dX1_addNote_35 (pk_mul _ _) ?_
    refine tt_iload C dX1_addNote_36 4 rfl ?_
    refine tt_iadd (v := nI (d * 20 + (ix (h 12 d)))) C dX1_addNote_38 (nI_add _ _) ?_
    refine tt_iload_n C dX1_addNote_39 rfl 2 rfl ?_
    refine tt_iastB C (aH14 hi) (d * 20 + (ix (h 12 d))) rfl (by omega) dX1_addNote_40 ?_
    generalize e_5 : up2 h_2 14 (d * 20 + (ix (h 12 d))) (nI b) = h_4
    refine tt_aload_n C dX1_addNote_41 rfl 0 rfl ?_
    refine tt_get (v := .ref (eA E i 12)) C (oH1 hi) rfl hin1 11 (by decide) (List.mem_of_getElem? (i := 1) (by decide +kernel)) rfl dX1_addNote_42 ?_
    refine tt_iload_n C dX1_addNote_45 rfl 1 rfl ?_
    refine tt_iload C dX1_addNote_46 4 rfl ?_
    refine tt_iconst (v := nI 1) C dX1_addNote_48 (by decide) ?_
    refine tt_iadd (v := nI (ix (h 12 d) + 1)) C dX1_addNote_49 (nI_add _ _) ?_
    refine tt_iastB C (aH12 hi) d rfl (by omega) dX1_addNote_50 ?_
    generalize e_7 : up2 h_4 12 d (nI (ix (h 12 d) + 1)) = h_6
    exact tt_vret K dX1_addNote_51 (by subst e_7; subst e_5; subst e_3; first | rfl | (simp [c_1, H_addNote]; done) | (refine congrArg _ ?_; grind [H_addNote])) rfl

set_option maxHeartbeats 4000000 in
set_option maxRecDepth 100000 in
theorem c_X1_noteFact (E : EN) (u : U3) (r : R1) (h : HB) (i : Nat) (d : Nat) (j : Nat) (w : Int32) (hi : i < 5) (hd : d < 8) (hn : vI (h 12 d) 21) (hj : j < 2 ^ 31) : CT E yX1_noteFact wsX1_noteFact (rmT 0 0) [.ref (eA E i 1), .int (nI d), .int (nI j), .int w] (ub u i h) r (some (.int (if ix (h 12 d) ≤ j then -1 else if w = 0 then h 13 (d * 20 + j) else h 14 (d * 20 + j)))) (ub u i h) r := by
  refine CT_ofI (cc := cX1_noteFact) (nL := 5) (own := RX1) (by decide) rfl rfl rfl (Nat.le_of_ble_eq_true rfl) (fun F C K => ?_)
  have hin1 : ∀ w ∈ u_ws RX1 TX1 17, w ∈ wsX1_noteFact := by decide +kernel
  refine tt_to (lv1 := [(0, .ref (eA E i 1)), (1, .int (nI d)), (2, .int (nI j)), (3, .int w)]) rfl rfl rfl rfl ?_
  have hn' := ix_lt hn (by decide)
  refine tt_iload_n C dX1_noteFact_0 rfl 2 rfl ?_
  refine tt_aload_n C dX1_noteFact_1 rfl 0 rfl ?_
  refine tt_get (v := .ref (eA E i 12)) C (oH1 hi) rfl hin1 11 (by decide) (List.mem_of_getElem? (i := 1) (by decide +kernel)) rfl dX1_noteFact_2 ?_
  refine tt_iload_n C dX1_noteFact_5 rfl 1 rfl ?_
  refine tt_ialdB (v := nI (ix (h 12 d))) C (aH12 hi) d rfl (by omega) (ix_eq hn (by decide)) dX1_noteFact_6 ?_
  refine tt_icmp_lt C (tgt := 12) dX1_noteFact_7 (by decide) (nI_ltI (by omega) (by omega)) (fun c_1 => ?_) (fun c_1 => ?_)
  · skip
    refine tt_iload_n C dX1_noteFact_12 rfl 1 rfl ?_
    refine tt_bipush (v := nI 20) C dX1_noteFact_13 (by decide) ?_
    refine tt_imul (v := nI (d * 20)) C dX1_noteFact_15 (pk_mul _ _) ?_
    refine tt_iload_n C dX1_noteFact_16 rfl 2 rfl ?_
    refine tt_iadd (v := nI (d * 20 + j)) C dX1_noteFact_17 (nI_add _ _) ?_
    refine tt_istore (lv' := [(0, .ref (eA E i 1)), (1, .int (nI d)), (2, .int (nI j)), (3, .int w), (4, .int (nI (d * 20 + j)))]) C dX1_noteFact_18 (by decide) [1, 2, 3, 4, 0] rfl ?_
    refine tt_iload_n C dX1_noteFact_20 rfl 3 rfl ?_
    refine tt_if_ne C (tgt := 34) dX1_noteFact_21 (by decide) Iff.rfl (fun c_2 => ?_) (fun c_2 => ?_)
    · skip
      refine tt_aload_n C dX1_noteFact_34 rfl 0 rfl ?_
      refine tt_get (v := .ref (eA E i 14)) C (oH1 hi) rfl hin1 13 (by decide) (List.mem_of_getElem? (i := 3) (by decide +kernel)) rfl dX1_noteFact_35 ?_
      refine tt_iload C dX1_noteFact_38 4 rfl ?_
      refine tt_ialdB (v := h 14 (d * 20 + j)) C (aH14 hi) (d * 20 + j) rfl (by omega) rfl dX1_noteFact_40 ?_
      exact tt_iret K dX1_noteFact_41 (by first | rfl | (simp [c_1, c_2]; done) | grind []) (by first | rfl | (simp [c_1, c_2]; done) | (refine congrArg _ ?_; grind [])) rfl
    · skip
      refine tt_aload_n C dX1_noteFact_24 rfl 0 rfl ?_
      refine tt_get (v := .ref (eA E i 13)) C (oH1 hi) rfl hin1 12 (by decide) (List.mem_of_getElem? (i := 2) (by decide +kernel)) rfl dX1_noteFact_25 ?_
      refine tt_iload C dX1_noteFact_28 4 rfl ?_
      refine tt_ialdB (v := h 13 (d * 20 + j)) C (aH13 hi) (d * 20 + j) rfl (by omega) rfl dX1_noteFact_30 ?_
      refine tt_goto (tgt := 41) C dX1_noteFact_31 (by decide) ?_
      exact tt_iret K dX1_noteFact_41 (by first | rfl | (simp [c_1, c_2]; done) | grind []) (by first | rfl | (simp [c_1, c_2]; done) | (refine congrArg _ ?_; grind [])) rfl
  · skip
    refine tt_iconst (v := (-1 : Int32)) C dX1_noteFact_10 (by decide) ?_
    exact tt_iret K dX1_noteFact_11 (by first | rfl | (simp [c_1]; done) | grind []) (by first | rfl | (simp [c_1]; done) | (refine congrArg _ ?_; grind [])) rfl

set_option maxHeartbeats 4000000 in
set_option maxRecDepth 100000 in
theorem c_X1_anotherWaits (E : EN) (u : U3) (r : R1) (h : HB) (i : Nat) (d : Nat) (b : Nat) (hi : i < 5) (hd : d < 8) : CT E yX1_anotherWaits wsX1_anotherWaits (rmT 0 0) [.ref (eA E i 1), .int (nI d), .int (nI b)] (ub u i h) r (some (.int (b2i (¬ h 11 d = -1 ∧ ¬ h 11 d = nI b)))) (ub u i h) r := by
  refine CT_ofI (cc := cX1_anotherWaits) (nL := 3) (own := RX1) (by decide) rfl rfl (b2i_z _) (Nat.le_of_ble_eq_true rfl) (fun F C K => ?_)
  have hin1 : ∀ w ∈ u_ws RX1 TX1 17, w ∈ wsX1_anotherWaits := by decide +kernel
  refine tt_to (lv1 := [(0, .ref (eA E i 1)), (1, .int (nI d)), (2, .int (nI b))]) rfl rfl rfl rfl ?_
  refine tt_aload_n C dX1_anotherWaits_0 rfl 0 rfl ?_
  refine tt_get (v := .ref (eA E i 11)) C (oH1 hi) rfl hin1 10 (by decide) (List.mem_of_getElem? (i := 1) (by decide +kernel)) rfl dX1_anotherWaits_1 ?_
  refine tt_iload_n C dX1_anotherWaits_4 rfl 1 rfl ?_
  refine tt_ialdB (v := h 11 d) C (aH11 hi) d rfl (by omega) rfl dX1_anotherWaits_5 ?_
  refine tt_iconst (v := (-1 : Int32)) C dX1_anotherWaits_6 (by decide) ?_
  refine tt_icmp_eq C (tgt := 24) dX1_anotherWaits_7 (by decide) Iff.rfl (fun c_1 => ?_) (fun c_1 => ?_)
  · skip
    refine tt_iconst (v := nI 0) C dX1_anotherWaits_24 (by decide) ?_
    exact tt_iret K dX1_anotherWaits_25 (by exact b1_f (by first | (simp only [c_1, not_false_eq_true, not_true_eq_false, and_true, true_and, and_false, false_and, and_self, or_true, true_or, or_false, false_or, or_self, if_true, if_false]; done) | grind)) (by first | rfl | (simp [c_1]; done) | (refine congrArg _ ?_; grind [])) rfl
  · skip
    refine tt_aload_n C dX1_anotherWaits_10 rfl 0 rfl ?_
    refine tt_get (v := .ref (eA E i 11)) C (oH1 hi) rfl hin1 10 (by decide) (List.mem_of_getElem? (i := 1) (by decide +kernel)) rfl dX1_anotherWaits_11 ?_
    refine tt_iload_n C dX1_anotherWaits_14 rfl 1 rfl ?_
    refine tt_ialdB (v := h 11 d) C (aH11 hi) d rfl (by omega) rfl dX1_anotherWaits_15 ?_
    refine tt_iload_n C dX1_anotherWaits_16 rfl 2 rfl ?_
    refine tt_icmp_eq C (tgt := 24) dX1_anotherWaits_17 (by decide) Iff.rfl (fun c_2 => ?_) (fun c_2 => ?_)
    · skip
      refine tt_iconst (v := nI 0) C dX1_anotherWaits_24 (by decide) ?_
      exact tt_iret K dX1_anotherWaits_25 (by exact b1_f (by first | (simp only [c_1, c_2, not_false_eq_true, not_true_eq_false, and_true, true_and, and_false, false_and, and_self, or_true, true_or, or_false, false_or, or_self, if_true, if_false]; done) | grind)) (by first | rfl | (simp [c_1, c_2]; done) | (refine congrArg _ ?_; grind [])) rfl
    · skip
      refine tt_iconst (v := nI 1) C dX1_anotherWaits_20 (by decide) ?_
      refine tt_goto (tgt := 25) C dX1_anotherWaits_21 (by decide) ?_
      exact tt_iret K dX1_anotherWaits_25 (by exact b1_t (by first | (simp only [c_1, c_2, not_false_eq_true, not_true_eq_false, and_true, true_and, and_false, false_and, and_self, or_true, true_or, or_false, false_or, or_self, if_true, if_false]; done) | grind)) (by first | rfl | (simp [c_1, c_2]; done) | (refine congrArg _ ?_; grind [])) rfl

set_option maxHeartbeats 4000000 in
set_option maxRecDepth 100000 in
theorem c_X1_startWaiting (E : EN) (u : U3) (r : R1) (h : HB) (i : Nat) (d : Nat) (b : Nat) (hi : i < 5) (hd : d < 8) : CT E yX1_startWaiting wsX1_startWaiting (rmT 0 0) [.ref (eA E i 1), .int (nI d), .int (nI b)] (ub u i h) r none (ub u i (up2 h 11 d (nI b))) r := by
  refine CT_ofV (cc := cX1_startWaiting) (nL := 3) (own := RX1) (by decide) rfl rfl (Nat.le_of_ble_eq_true rfl) (fun F C K => ?_)
  have hin1 : ∀ w ∈ u_ws RX1 TX1 17, w ∈ wsX1_startWaiting := by decide +kernel
  refine tt_to (lv1 := [(0, .ref (eA E i 1)), (1, .int (nI d)), (2, .int (nI b))]) rfl rfl rfl rfl ?_
  refine tt_aload_n C dX1_startWaiting_0 rfl 0 rfl ?_
  refine tt_get (v := .ref (eA E i 11)) C (oH1 hi) rfl hin1 10 (by decide) (List.mem_of_getElem? (i := 1) (by decide +kernel)) rfl dX1_startWaiting_1 ?_
  refine tt_iload_n C dX1_startWaiting_4 rfl 1 rfl ?_
  refine tt_iload_n C dX1_startWaiting_5 rfl 2 rfl ?_
  refine tt_iastB C (aH11 hi) d rfl (by omega) dX1_startWaiting_6 ?_
  generalize e_2 : up2 h 11 d (nI b) = h_1
  exact tt_vret K dX1_startWaiting_7 (by subst e_2; first | rfl | (simp []; done) | (refine congrArg _ ?_; grind [])) rfl

set_option maxHeartbeats 4000000 in
set_option maxRecDepth 100000 in
theorem c_X1_endWaiting (E : EN) (u : U3) (r : R1) (h : HB) (i : Nat) (d : Nat) (hi : i < 5) (hd : d < 8) : CT E yX1_endWaiting wsX1_endWaiting (rmT 0 0) [.ref (eA E i 1), .int (nI d)] (ub u i h) r (some (.int (if h 7 d = 0 then -1 else h 11 d))) (ub u i (if h 7 d = 0 then h else up2 h 11 d (-1))) r := by
  refine CT_ofI (cc := cX1_endWaiting) (nL := 3) (own := RX1) (by decide) rfl rfl rfl (Nat.le_of_ble_eq_true rfl) (fun F C K => ?_)
  have hin1 : ∀ w ∈ u_ws RX1 TX1 17, w ∈ wsX1_endWaiting := by decide +kernel
  refine tt_to (lv1 := [(0, .ref (eA E i 1)), (1, .int (nI d))]) rfl rfl rfl rfl ?_
  refine tt_aload_n C dX1_endWaiting_0 rfl 0 rfl ?_
  refine tt_get (v := .ref (eA E i 7)) C (oH1 hi) rfl hin1 6 (by decide) (List.mem_of_getElem? (i := 1) (by decide +kernel)) rfl dX1_endWaiting_1 ?_
  refine tt_iload_n C dX1_endWaiting_4 rfl 1 rfl ?_
  refine tt_ialdB (v := h 7 d) C (aH7 hi) d rfl (by omega) rfl dX1_endWaiting_5 ?_
  refine tt_if_ne C (tgt := 11) dX1_endWaiting_6 (by decide) Iff.rfl (fun c_1 => ?_) (fun c_1 => ?_)
  · skip
    refine tt_aload_n C dX1_endWaiting_11 rfl 0 rfl ?_
    refine tt_get (v := .ref (eA E i 11)) C (oH1 hi) rfl hin1 10 (by decide) (List.mem_of_getElem? (i := 2) (by decide +kernel)) rfl dX1_endWaiting_12 ?_
    refine tt_iload_n C dX1_endWaiting_15 rfl 1 rfl ?_
    refine tt_ialdB (v := h 11 d) C (aH11 hi) d rfl (by omega) rfl dX1_endWaiting_16 ?_
    refine tt_istore_n (lv' := [(0, .ref (eA E i 1)), (1, .int (nI d)), (2, .int (h 11 d))]) C dX1_endWaiting_17 rfl (by decide) [1, 2, 0] rfl ?_
    refine tt_aload_n C dX1_endWaiting_18 rfl 0 rfl ?_
    refine tt_get (v := .ref (eA E i 11)) C (oH1 hi) rfl hin1 10 (by decide) (List.mem_of_getElem? (i := 2) (by decide +kernel)) rfl dX1_endWaiting_19 ?_
    refine tt_iload_n C dX1_endWaiting_22 rfl 1 rfl ?_
    refine tt_iconst (v := (-1 : Int32)) C dX1_endWaiting_23 (by decide) ?_
    refine tt_iastB C (aH11 hi) d rfl (by omega) dX1_endWaiting_24 ?_
    generalize e_3 : up2 h 11 d (-1 : Int32) = h_2
    refine tt_iload_n C dX1_endWaiting_25 rfl 2 rfl ?_
    exact tt_iret K dX1_endWaiting_26 (by subst e_3; first | rfl | (simp [c_1]; done) | grind []) (by subst e_3; first | rfl | (simp [c_1]; done) | (refine congrArg _ ?_; grind [])) rfl
  · skip
    refine tt_iconst (v := (-1 : Int32)) C dX1_endWaiting_9 (by decide) ?_
    exact tt_iret K dX1_endWaiting_10 (by first | rfl | (simp [c_1]; done) | grind []) (by first | rfl | (simp [c_1]; done) | (refine congrArg _ ?_; grind [])) rfl

def H_two (h : HB) (b d : Nat) : HB := if h 27 (b * 8 + d) = 0 ∧ ¬ 64 ≤ ix (h 25 0) then up2 (up2 (up2 h 26 (ix (h 25 0)) (nI (b * 8 + d))) 25 0 (nI (ix (h 25 0) + 1))) 27 (b * 8 + d) (h 27 (b * 8 + d) + nI 1) else up2 h 27 (b * 8 + d) (h 27 (b * 8 + d) + nI 1)
theorem H_two_n {h : HB} {b d k j : Nat} (hk : k ≠ 25 ∧ k ≠ 26 ∧ k ≠ 27) : H_two h b d k j = h k j := by unfold H_two; split <;> simp [up2, hk.1, hk.2.1, hk.2.2]
set_option maxHeartbeats 4000000 in
set_option maxRecDepth 100000 in
theorem c_X5_add (E : EN) (u : U3) (r : R1) (h : HB) (i : Nat) (b : Nat) (d : Nat) (hi : i < 5) (hb : b < 8) (hd : d < 8) (hm : vI (h 25 0) 65) : CT E yX5_add wsX5_add (rmT 0 0) [.ref (eA E i 25), .int (nI b), .int (nI d)] (ub u i h) r none (ub u i (H_two h b d)) r := by
  refine CT_ofV (cc := cX5_add) (nL := 4) (own := RX5) (by decide) rfl rfl (Nat.le_of_ble_eq_true rfl) (fun F C K => ?_)
  have hin5 : ∀ w ∈ u_ws RX5 TX5 3, w ∈ wsX5_add := by decide +kernel
  refine tt_to (lv1 := [(0, .ref (eA E i 25)), (1, .int (nI b)), (2, .int (nI d))]) rfl rfl rfl rfl ?_
  have hm' := ix_lt hm (by decide)
  refine tt_iload_n C dX5_add_0 rfl 1 rfl ?_
  refine tt_bipush (v := nI 8) C dX5_add_1 (by decide) ?_
  refine tt_imul (v := nI (b * 8)) C dX5_add_3 (pk_mul _ _) ?_
  refine tt_iload_n C dX5_add_4 rfl 2 rfl ?_
  refine tt_iadd (v := nI (b * 8 + d)) C dX5_add_5 (nI_add _ _) ?_
  refine tt_istore_n (lv' := [(0, .ref (eA E i 25)), (1, .int (nI b)), (2, .int (nI d)), (3, .int (nI (b * 8 + d)))]) C dX5_add_6 rfl (by decide) [1, 2, 3, 0] rfl ?_
  refine tt_aload_n C dX5_add_7 rfl 0 rfl ?_
  refine tt_get (v := .ref (eA E i 27)) C (oH25 hi) rfl hin5 2 (by decide) (List.mem_of_getElem? (i := 1) (by decide +kernel)) rfl dX5_add_8 ?_
  refine tt_iload_n C dX5_add_11 rfl 3 rfl ?_
  refine tt_ialdB (v := h 27 (b * 8 + d)) C (aH27 hi) (b * 8 + d) rfl (by omega) rfl dX5_add_12 ?_
  refine tt_if_ne C (tgt := 45) dX5_add_13 (by decide) Iff.rfl (fun c_1 => ?_) (fun c_1 => ?_)
  · skip
    refine tt_aload_n C dX5_add_45 rfl 0 rfl ?_
    refine tt_get (v := .ref (eA E i 27)) C (oH25 hi) rfl hin5 2 (by decide) (List.mem_of_getElem? (i := 1) (by decide +kernel)) rfl dX5_add_46 ?_
    refine tt_iload_n C dX5_add_49 rfl 3 rfl ?_
    refine tt_dup2 C dX5_add_50 rfl rfl ?_
    refine tt_ialdB (v := h 27 (b * 8 + d)) C (aH27 hi) (b * 8 + d) rfl (by omega) rfl dX5_add_51 ?_
    refine tt_iconst (v := nI 1) C dX5_add_52 (by decide) ?_
    refine tt_iadd C dX5_add_53 rfl ?_
    refine tt_iastB C (aH27 hi) (b * 8 + d) rfl (by omega) dX5_add_54 ?_
    generalize e_3 : up2 h 27 (b * 8 + d) ((h 27 (b * 8 + d)) + (nI 1)) = h_2
    exact tt_vret K dX5_add_55 (by subst e_3; first | rfl | (simp [c_1, H_two]; done) | (refine congrArg _ ?_; grind [H_two])) rfl
  · skip
    refine tt_aload_n C dX5_add_16 rfl 0 rfl ?_
    refine tt_getI (v := nI (ix (h 25 0))) C (oH25 hi) rfl hin5 0 (by decide) (List.mem_of_getElem? (i := 2) (by decide +kernel)) rfl (ub_v.trans (ix_eq hm (by decide))) dX5_add_17 ?_
    refine tt_bipush (v := nI 64) C dX5_add_20 (by decide) ?_
    refine tt_icmp_ge C (tgt := 45) dX5_add_22 (by decide) (nI_leI (by omega) (by omega)) (fun c_4 => ?_) (fun c_4 => ?_)
    · skip
      refine tt_aload_n C dX5_add_45 rfl 0 rfl ?_
      refine tt_get (v := .ref (eA E i 27)) C (oH25 hi) rfl hin5 2 (by decide) (List.mem_of_getElem? (i := 1) (by decide +kernel)) rfl dX5_add_46 ?_
      refine tt_iload_n C dX5_add_49 rfl 3 rfl ?_
      refine tt_dup2 C dX5_add_50 rfl rfl ?_
      refine tt_ialdB (v := h 27 (b * 8 + d)) C (aH27 hi) (b * 8 + d) rfl (by omega) rfl dX5_add_51 ?_
      refine tt_iconst (v := nI 1) C dX5_add_52 (by decide) ?_
      refine tt_iadd C dX5_add_53 rfl ?_
      refine tt_iastB C (aH27 hi) (b * 8 + d) rfl (by omega) dX5_add_54 ?_
      generalize e_6 : up2 h 27 (b * 8 + d) ((h 27 (b * 8 + d)) + (nI 1)) = h_5
      exact tt_vret K dX5_add_55 (by subst e_6; first | rfl | (simp [c_1, c_4, H_two]; done) | (refine congrArg _ ?_; grind [H_two])) rfl
    · skip
      refine tt_aload_n C dX5_add_25 rfl 0 rfl ?_
      refine tt_get (v := .ref (eA E i 26)) C (oH25 hi) rfl hin5 1 (by decide) (List.mem_of_getElem? (i := 3) (by decide +kernel)) rfl dX5_add_26 ?_
      refine tt_aload_n C dX5_add_29 rfl 0 rfl ?_
      refine tt_getI (v := nI (ix (h 25 0))) C (oH25 hi) rfl hin5 0 (by decide) (List.mem_of_getElem? (i := 2) (by decide +kernel)) rfl (ub_v.trans (ix_eq hm (by decide))) dX5_add_30 ?_
      refine tt_iload_n C dX5_add_33 rfl 3 rfl ?_
      refine tt_iastB C (aH26 hi) (ix (h 25 0)) rfl (by omega) dX5_add_34 ?_
      generalize e_8 : up2 h 26 (ix (h 25 0)) (nI (b * 8 + d)) = h_7
      refine tt_aload_n C dX5_add_35 rfl 0 rfl ?_
      refine tt_dup C dX5_add_36 rfl ?_
      refine tt_getI (v := nI (ix (h 25 0))) C (oH25 hi) rfl hin5 0 (by decide) (List.mem_of_getElem? (i := 2) (by decide +kernel)) rfl (ub_v.trans (by rw [← e_8, up2_n (fun z => absurd z.1 (by decide))]; exact (ix_eq hm (by decide)))) dX5_add_37 ?_
      refine tt_iconst (v := nI 1) C dX5_add_40 (by decide) ?_
      refine tt_iadd (v := nI (ix (h 25 0) + 1)) C dX5_add_41 (nI_add _ _) ?_
      refine tt_putIB C (fH25_0 hi) rfl hin5 tyX5 tyX5_ok nmX5 (by decide) (List.mem_of_getElem? (i := 2) (by decide +kernel)) (by decide +kernel) (by decide +kernel) dX5_add_42 ?_
      generalize e_10 : up2 h_7 25 0 (nI (ix (h 25 0) + 1)) = h_9
      refine tt_aload_n C dX5_add_45 rfl 0 rfl ?_
      refine tt_get (v := .ref (eA E i 27)) C (oH25 hi) rfl hin5 2 (by decide) (List.mem_of_getElem? (i := 1) (by decide +kernel)) rfl dX5_add_46 ?_
      refine tt_iload_n C dX5_add_49 rfl 3 rfl ?_
      refine tt_dup2 C dX5_add_50 rfl rfl ?_
      refine tt_ialdB (v := h 27 (b * 8 + d)) C (aH27 hi) (b * 8 + d) rfl (by omega) (by rw [← e_10, up2_n (fun z => absurd z.1 (by decide)), ← e_8, up2_n (fun z => absurd z.1 (by decide))]) dX5_add_51 ?_
      refine tt_iconst (v := nI 1) C dX5_add_52 (by decide) ?_
      refine tt_iadd C dX5_add_53 rfl ?_
      refine tt_iastB C (aH27 hi) (b * 8 + d) rfl (by omega) dX5_add_54 ?_
      generalize e_12 : up2 h_9 27 (b * 8 + d) ((h 27 (b * 8 + d)) + (nI 1)) = h_11
      exact tt_vret K dX5_add_55 (by subst e_12; subst e_10; subst e_8; first | rfl | (simp [c_1, c_4, H_two]; done) | (refine congrArg _ ?_; grind [H_two])) rfl

set_option maxHeartbeats 4000000 in
set_option maxRecDepth 100000 in
theorem c_X0_changeLevel (E : EN) (u : U3) (r : R1) (h : HB) (i : Nat) (b : Nat) (v : Int32) (hi : i < 5) (hb : b < 8) : CT E yX0_changeLevel wsX0_changeLevel (rmT 0 0) [.ref (eA E i 18), .int (nI b), .int v] (ub u i h) r (some (.int (h 19 b))) (ub u i (up2 h 19 b v)) r := by
  refine CT_ofI (cc := cX0_changeLevel) (nL := 4) (own := RX0) (by decide) rfl rfl rfl (Nat.le_of_ble_eq_true rfl) (fun F C K => ?_)
  have hin0 : ∀ w ∈ u_ws RX0 TX0 7, w ∈ wsX0_changeLevel := by decide +kernel
  refine tt_to (lv1 := [(0, .ref (eA E i 18)), (1, .int (nI b)), (2, .int v)]) rfl rfl rfl rfl ?_
  refine tt_aload_n C dX0_changeLevel_0 rfl 0 rfl ?_
  refine tt_get (v := .ref (eA E i 19)) C (oH18 hi) rfl hin0 1 (by decide) (List.mem_of_getElem? (i := 1) (by decide +kernel)) rfl dX0_changeLevel_1 ?_
  refine tt_iload_n C dX0_changeLevel_4 rfl 1 rfl ?_
  refine tt_ialdB (v := h 19 b) C (aH19 hi) b rfl (by omega) rfl dX0_changeLevel_5 ?_
  refine tt_istore_n (lv' := [(0, .ref (eA E i 18)), (1, .int (nI b)), (2, .int v), (3, .int (h 19 b))]) C dX0_changeLevel_6 rfl (by decide) [1, 2, 3, 0] rfl ?_
  refine tt_aload_n C dX0_changeLevel_7 rfl 0 rfl ?_
  refine tt_get (v := .ref (eA E i 19)) C (oH18 hi) rfl hin0 1 (by decide) (List.mem_of_getElem? (i := 1) (by decide +kernel)) rfl dX0_changeLevel_8 ?_
  refine tt_iload_n C dX0_changeLevel_11 rfl 1 rfl ?_
  refine tt_iload_n C dX0_changeLevel_12 rfl 2 rfl ?_
  refine tt_iastB C (aH19 hi) b rfl (by omega) dX0_changeLevel_13 ?_
  generalize e_2 : up2 h 19 b v = h_1
  refine tt_iload_n C dX0_changeLevel_14 rfl 3 rfl ?_
  exact tt_iret K dX0_changeLevel_15 (by subst e_2; first | rfl | (simp []; done) | grind []) (by subst e_2; first | rfl | (simp []; done) | (refine congrArg _ ?_; grind [])) rfl

set_option maxHeartbeats 4000000 in
set_option maxRecDepth 100000 in
theorem c_X0_changeBarred (E : EN) (u : U3) (r : R1) (h : HB) (i : Nat) (b : Nat) (v : Int32) (hi : i < 5) (hb : b < 8) : CT E yX0_changeBarred wsX0_changeBarred (rmT 0 0) [.ref (eA E i 18), .int (nI b), .int v] (ub u i h) r (some (.int (h 20 b))) (ub u i (up2 h 20 b v)) r := by
  refine CT_ofI (cc := cX0_changeBarred) (nL := 4) (own := RX0) (by decide) rfl rfl rfl (Nat.le_of_ble_eq_true rfl) (fun F C K => ?_)
  have hin0 : ∀ w ∈ u_ws RX0 TX0 7, w ∈ wsX0_changeBarred := by decide +kernel
  refine tt_to (lv1 := [(0, .ref (eA E i 18)), (1, .int (nI b)), (2, .int v)]) rfl rfl rfl rfl ?_
  refine tt_aload_n C dX0_changeBarred_0 rfl 0 rfl ?_
  refine tt_get (v := .ref (eA E i 20)) C (oH18 hi) rfl hin0 2 (by decide) (List.mem_of_getElem? (i := 1) (by decide +kernel)) rfl dX0_changeBarred_1 ?_
  refine tt_iload_n C dX0_changeBarred_4 rfl 1 rfl ?_
  refine tt_ialdB (v := h 20 b) C (aH20 hi) b rfl (by omega) rfl dX0_changeBarred_5 ?_
  refine tt_istore_n (lv' := [(0, .ref (eA E i 18)), (1, .int (nI b)), (2, .int v), (3, .int (h 20 b))]) C dX0_changeBarred_6 rfl (by decide) [1, 2, 3, 0] rfl ?_
  refine tt_aload_n C dX0_changeBarred_7 rfl 0 rfl ?_
  refine tt_get (v := .ref (eA E i 20)) C (oH18 hi) rfl hin0 2 (by decide) (List.mem_of_getElem? (i := 1) (by decide +kernel)) rfl dX0_changeBarred_8 ?_
  refine tt_iload_n C dX0_changeBarred_11 rfl 1 rfl ?_
  refine tt_iload_n C dX0_changeBarred_12 rfl 2 rfl ?_
  refine tt_iastB C (aH20 hi) b rfl (by omega) dX0_changeBarred_13 ?_
  generalize e_2 : up2 h 20 b v = h_1
  refine tt_iload_n C dX0_changeBarred_14 rfl 3 rfl ?_
  exact tt_iret K dX0_changeBarred_15 (by subst e_2; first | rfl | (simp []; done) | grind []) (by subst e_2; first | rfl | (simp []; done) | (refine congrArg _ ?_; grind [])) rfl

set_option maxHeartbeats 4000000 in
set_option maxRecDepth 100000 in
theorem c_X0_fact (E : EN) (u : U3) (r : R1) (h : HB) (i : Nat) (b : Nat) (w : Nat) (hi : i < 5) (hb : b < 8) (hw : w < 6) : CT E yX0_fact wsX0_fact (rmT 0 0) [.ref (eA E i 18), .int (nI b), .int (nI w)] (ub u i h) r (some (.int (h (19 + w) b))) (ub u i h) r := by
  refine CT_ofI (cc := cX0_fact) (nL := 3) (own := RX0) (by decide) rfl rfl rfl (Nat.le_of_ble_eq_true rfl) (fun F C K => ?_)
  have hin0 : ∀ w ∈ u_ws RX0 TX0 7, w ∈ wsX0_fact := by decide +kernel
  refine tt_to (lv1 := [(0, .ref (eA E i 18)), (1, .int (nI b)), (2, .int (nI w))]) rfl rfl rfl rfl ?_
  refine tt_iload_n C dX0_fact_0 rfl 2 rfl ?_
  rcases (by omega : w = 0 ∨ w = 1 ∨ w = 2 ∨ w = 3 ∨ w = 4 ∨ w = 5) with rfl | rfl | rfl | rfl | rfl | rfl
  · skip
    refine tt_tabIn (off := 35) (tgt := 36) C dX0_fact_1 (by decide) (by decide) (by decide) (by decide) ?_
    refine tt_aload_n C dX0_fact_36 rfl 0 rfl ?_
    refine tt_get (v := .ref (eA E i 19)) C (oH18 hi) rfl hin0 1 (by decide) (List.mem_of_getElem? (i := 1) (by decide +kernel)) rfl dX0_fact_37 ?_
    refine tt_iload_n C dX0_fact_40 rfl 1 rfl ?_
    refine tt_ialdB (v := h 19 b) C (aH19 hi) b rfl (by omega) rfl dX0_fact_41 ?_
    exact tt_iret K dX0_fact_42 (by first | rfl | (simp []; done) | grind []) (by first | rfl | (simp []; done) | (refine congrArg _ ?_; grind [])) rfl
  · skip
    refine tt_tabIn (off := 42) (tgt := 43) C dX0_fact_1 (by decide) (by decide) (by decide) (by decide) ?_
    refine tt_aload_n C dX0_fact_43 rfl 0 rfl ?_
    refine tt_get (v := .ref (eA E i 20)) C (oH18 hi) rfl hin0 2 (by decide) (List.mem_of_getElem? (i := 2) (by decide +kernel)) rfl dX0_fact_44 ?_
    refine tt_iload_n C dX0_fact_47 rfl 1 rfl ?_
    refine tt_ialdB (v := h 20 b) C (aH20 hi) b rfl (by omega) rfl dX0_fact_48 ?_
    exact tt_iret K dX0_fact_49 (by first | rfl | (simp []; done) | grind []) (by first | rfl | (simp []; done) | (refine congrArg _ ?_; grind [])) rfl
  · skip
    refine tt_tabIn (off := 49) (tgt := 50) C dX0_fact_1 (by decide) (by decide) (by decide) (by decide) ?_
    refine tt_aload_n C dX0_fact_50 rfl 0 rfl ?_
    refine tt_get (v := .ref (eA E i 21)) C (oH18 hi) rfl hin0 3 (by decide) (List.mem_of_getElem? (i := 3) (by decide +kernel)) rfl dX0_fact_51 ?_
    refine tt_iload_n C dX0_fact_54 rfl 1 rfl ?_
    refine tt_ialdB (v := h 21 b) C (aH21 hi) b rfl (by omega) rfl dX0_fact_55 ?_
    exact tt_iret K dX0_fact_56 (by first | rfl | (simp []; done) | grind []) (by first | rfl | (simp []; done) | (refine congrArg _ ?_; grind [])) rfl
  · skip
    refine tt_tabIn (off := 56) (tgt := 57) C dX0_fact_1 (by decide) (by decide) (by decide) (by decide) ?_
    refine tt_aload_n C dX0_fact_57 rfl 0 rfl ?_
    refine tt_get (v := .ref (eA E i 22)) C (oH18 hi) rfl hin0 4 (by decide) (List.mem_of_getElem? (i := 4) (by decide +kernel)) rfl dX0_fact_58 ?_
    refine tt_iload_n C dX0_fact_61 rfl 1 rfl ?_
    refine tt_ialdB (v := h 22 b) C (aH22 hi) b rfl (by omega) rfl dX0_fact_62 ?_
    exact tt_iret K dX0_fact_63 (by first | rfl | (simp []; done) | grind []) (by first | rfl | (simp []; done) | (refine congrArg _ ?_; grind [])) rfl
  · skip
    refine tt_tabIn (off := 63) (tgt := 64) C dX0_fact_1 (by decide) (by decide) (by decide) (by decide) ?_
    refine tt_aload_n C dX0_fact_64 rfl 0 rfl ?_
    refine tt_get (v := .ref (eA E i 23)) C (oH18 hi) rfl hin0 5 (by decide) (List.mem_of_getElem? (i := 5) (by decide +kernel)) rfl dX0_fact_65 ?_
    refine tt_iload_n C dX0_fact_68 rfl 1 rfl ?_
    refine tt_ialdB (v := h 23 b) C (aH23 hi) b rfl (by omega) rfl dX0_fact_69 ?_
    exact tt_iret K dX0_fact_70 (by first | rfl | (simp []; done) | grind []) (by first | rfl | (simp []; done) | (refine congrArg _ ?_; grind [])) rfl
  · skip
    refine tt_tabOut (tgt := 71) C dX0_fact_1 (by decide) (by decide) ?_
    refine tt_aload_n C dX0_fact_71 rfl 0 rfl ?_
    refine tt_get (v := .ref (eA E i 24)) C (oH18 hi) rfl hin0 6 (by decide) (List.mem_of_getElem? (i := 6) (by decide +kernel)) rfl dX0_fact_72 ?_
    refine tt_iload_n C dX0_fact_75 rfl 1 rfl ?_
    refine tt_ialdB (v := h 24 b) C (aH24 hi) b rfl (by omega) rfl dX0_fact_76 ?_
    exact tt_iret K dX0_fact_77 (by first | rfl | (simp []; done) | grind []) (by first | rfl | (simp []; done) | (refine congrArg _ ?_; grind [])) rfl

def H_badd (h : HB) (v : Int32) : HB := up2 (up2 (up2 (up2 (up2 (up2 (up2 h 19 (ix (h 18 0)) v) 20 (ix (h 18 0)) (nI 0)) 21 (ix (h 18 0)) (nI 0)) 22 (ix (h 18 0)) (nI 0)) 23 (ix (h 18 0)) (nI 0)) 24 (ix (h 18 0)) (nI 0)) 18 0 (nI (ix (h 18 0) + 1))
set_option maxHeartbeats 4000000 in
set_option maxRecDepth 100000 in
theorem c_X0_add (E : EN) (u : U3) (r : R1) (h : HB) (i : Nat) (v : Int32) (hi : i < 5) (hm : vI (h 18 0) 8) : CT E yX0_add wsX0_add (rmT 0 0) [.ref (eA E i 18), .int v] (ub u i h) r (some (.int (nI (ix (h 18 0))))) (ub u i (H_badd h v)) r := by
  refine CT_ofI (cc := cX0_add) (nL := 3) (own := RX0) (by decide) rfl rfl rfl (Nat.le_of_ble_eq_true rfl) (fun F C K => ?_)
  have hin0 : ∀ w ∈ u_ws RX0 TX0 7, w ∈ wsX0_add := by decide +kernel
  refine tt_to (lv1 := [(0, .ref (eA E i 18)), (1, .int v)]) rfl rfl rfl rfl ?_
  have hm' := ix_lt hm (by decide)
  refine tt_aload_n C dX0_add_0 rfl 0 rfl ?_
  refine tt_getI (v := nI (ix (h 18 0))) C (oH18 hi) rfl hin0 0 (by decide) (List.mem_of_getElem? (i := 1) (by decide +kernel)) rfl (ub_v.trans (ix_eq hm (by decide))) dX0_add_1 ?_
  refine tt_istore_n (lv' := [(0, .ref (eA E i 18)), (1, .int v), (2, .int (nI (ix (h 18 0))))]) C dX0_add_4 rfl (by decide) [1, 2, 0] rfl ?_
  refine tt_iload_n C dX0_add_5 rfl 2 rfl ?_
  refine tt_bipush (v := nI 8) C dX0_add_6 (by decide) ?_
  refine tt_icmp_lt C (tgt := 13) dX0_add_8 (by decide) (nI_ltI (by omega) (by omega)) (fun c_1 => ?_) (fun c_1 => ?_)
  · skip
    refine tt_aload_n C dX0_add_13 rfl 0 rfl ?_
    refine tt_get (v := .ref (eA E i 19)) C (oH18 hi) rfl hin0 1 (by decide) (List.mem_of_getElem? (i := 2) (by decide +kernel)) rfl dX0_add_14 ?_
    refine tt_iload_n C dX0_add_17 rfl 2 rfl ?_
    refine tt_iload_n C dX0_add_18 rfl 1 rfl ?_
    refine tt_iastB C (aH19 hi) (ix (h 18 0)) rfl (by omega) dX0_add_19 ?_
    generalize e_3 : up2 h 19 (ix (h 18 0)) v = h_2
    refine tt_aload_n C dX0_add_20 rfl 0 rfl ?_
    refine tt_get (v := .ref (eA E i 20)) C (oH18 hi) rfl hin0 2 (by decide) (List.mem_of_getElem? (i := 3) (by decide +kernel)) rfl dX0_add_21 ?_
    refine tt_iload_n C dX0_add_24 rfl 2 rfl ?_
    refine tt_iconst (v := nI 0) C dX0_add_25 (by decide) ?_
    refine tt_iastB C (aH20 hi) (ix (h 18 0)) rfl (by omega) dX0_add_26 ?_
    generalize e_5 : up2 h_2 20 (ix (h 18 0)) (nI 0) = h_4
    refine tt_aload_n C dX0_add_27 rfl 0 rfl ?_
    refine tt_get (v := .ref (eA E i 21)) C (oH18 hi) rfl hin0 3 (by decide) (List.mem_of_getElem? (i := 4) (by decide +kernel)) rfl dX0_add_28 ?_
    refine tt_iload_n C dX0_add_31 rfl 2 rfl ?_
    refine tt_iconst (v := nI 0) C dX0_add_32 (by decide) ?_
    refine tt_iastB C (aH21 hi) (ix (h 18 0)) rfl (by omega) dX0_add_33 ?_
    generalize e_7 : up2 h_4 21 (ix (h 18 0)) (nI 0) = h_6
    refine tt_aload_n C dX0_add_34 rfl 0 rfl ?_
    refine tt_get (v := .ref (eA E i 22)) C (oH18 hi) rfl hin0 4 (by decide) (List.mem_of_getElem? (i := 5) (by decide +kernel)) rfl dX0_add_35 ?_
    refine tt_iload_n C dX0_add_38 rfl 2 rfl ?_
    refine tt_iconst (v := nI 0) C dX0_add_39 (by decide) ?_
    refine tt_iastB C (aH22 hi) (ix (h 18 0)) rfl (by omega) dX0_add_40 ?_
    generalize e_9 : up2 h_6 22 (ix (h 18 0)) (nI 0) = h_8
    refine tt_aload_n C dX0_add_41 rfl 0 rfl ?_
    refine tt_get (v := .ref (eA E i 23)) C (oH18 hi) rfl hin0 5 (by decide) (List.mem_of_getElem? (i := 6) (by decide +kernel)) rfl dX0_add_42 ?_
    refine tt_iload_n C dX0_add_45 rfl 2 rfl ?_
    refine tt_iconst (v := nI 0) C dX0_add_46 (by decide) ?_
    refine tt_iastB C (aH23 hi) (ix (h 18 0)) rfl (by omega) dX0_add_47 ?_
    generalize e_11 : up2 h_8 23 (ix (h 18 0)) (nI 0) = h_10
    refine tt_aload_n C dX0_add_48 rfl 0 rfl ?_
    refine tt_get (v := .ref (eA E i 24)) C (oH18 hi) rfl hin0 6 (by decide) (List.mem_of_getElem? (i := 7) (by decide +kernel)) rfl dX0_add_49 ?_
    refine tt_iload_n C dX0_add_52 rfl 2 rfl ?_
    refine tt_iconst (v := nI 0) C dX0_add_53 (by decide) ?_
    refine tt_iastB C (aH24 hi) (ix (h 18 0)) rfl (by omega) dX0_add_54 ?_
    generalize e_13 : up2 h_10 24 (ix (h 18 0)) (nI 0) = h_12
    refine tt_aload_n C dX0_add_55 rfl 0 rfl ?_
    refine tt_iload_n C dX0_add_56 rfl 2 rfl ?_
    refine tt_iconst (v := nI 1) C dX0_add_57 (by decide) ?_
    refine tt_iadd (v := nI (ix (h 18 0) + 1)) C dX0_add_58 (nI_add _ _) ?_
    refine tt_putIB C (fH18_0 hi) rfl hin0 tyX0 tyX0_ok nmX0 (by decide) (List.mem_of_getElem? (i := 1) (by decide +kernel)) (by decide +kernel) (by decide +kernel) dX0_add_59 ?_
    generalize e_15 : up2 h_12 18 0 (nI (ix (h 18 0) + 1)) = h_14
    refine tt_iload_n C dX0_add_62 rfl 2 rfl ?_
    exact tt_iret K dX0_add_63 (by subst e_15; subst e_13; subst e_11; subst e_9; subst e_7; subst e_5; subst e_3; first | rfl | (simp [c_1, H_badd]; done) | grind [H_badd]) (by subst e_15; subst e_13; subst e_11; subst e_9; subst e_7; subst e_5; subst e_3; first | rfl | (simp [c_1, H_badd]; done) | (refine congrArg _ ?_; grind [H_badd])) rfl
  · skip
    exact absurd hm' (by omega)

def H_dadd (h : HB) (f t a b : Int32) : HB := up2 (up2 (up2 (up2 (up2 (up2 (up2 (up2 (up2 (up2 (up2 (up2 h 2 (ix (h 1 0)) f) 3 (ix (h 1 0)) t) 4 (ix (h 1 0)) a) 5 (ix (h 1 0)) b) 6 (ix (h 1 0)) (nI 0)) 7 (ix (h 1 0)) (nI 0)) 8 (ix (h 1 0)) (-1)) 9 (ix (h 1 0)) (nI 1)) 10 (ix (h 1 0)) (-1)) 11 (ix (h 1 0)) (-1)) 12 (ix (h 1 0)) (nI 0)) 1 0 (nI (ix (h 1 0) + 1))
set_option maxHeartbeats 4000000 in
set_option maxRecDepth 100000 in
theorem c_X1_add (E : EN) (u : U3) (r : R1) (h : HB) (i : Nat) (f : Int32) (t : Int32) (a : Int32) (b : Int32) (hi : i < 5) (hm : vI (h 1 0) 8) : CT E yX1_add wsX1_add (rmT 0 0) [.ref (eA E i 1), .int f, .int t, .int a, .int b] (ub u i h) r (some (.int (nI (ix (h 1 0))))) (ub u i (H_dadd h f t a b)) r := by
  refine CT_ofI (cc := cX1_add) (nL := 6) (own := RX1) (by decide) rfl rfl rfl (Nat.le_of_ble_eq_true rfl) (fun F C K => ?_)
  have hin1 : ∀ w ∈ u_ws RX1 TX1 17, w ∈ wsX1_add := by decide +kernel
  refine tt_to (lv1 := [(0, .ref (eA E i 1)), (1, .int f), (2, .int t), (3, .int a), (4, .int b)]) rfl rfl rfl rfl ?_
  have hm' := ix_lt hm (by decide)
  refine tt_aload_n C dX1_add_0 rfl 0 rfl ?_
  refine tt_getI (v := nI (ix (h 1 0))) C (oH1 hi) rfl hin1 0 (by decide) (List.mem_of_getElem? (i := 1) (by decide +kernel)) rfl (ub_v.trans (ix_eq hm (by decide))) dX1_add_1 ?_
  refine tt_istore (lv' := [(0, .ref (eA E i 1)), (1, .int f), (2, .int t), (3, .int a), (4, .int b), (5, .int (nI (ix (h 1 0))))]) C dX1_add_4 (by decide) [1, 2, 3, 4, 5, 0] rfl ?_
  refine tt_iload C dX1_add_6 5 rfl ?_
  refine tt_bipush (v := nI 8) C dX1_add_8 (by decide) ?_
  refine tt_icmp_lt C (tgt := 15) dX1_add_10 (by decide) (nI_ltI (by omega) (by omega)) (fun c_1 => ?_) (fun c_1 => ?_)
  · skip
    refine tt_aload_n C dX1_add_15 rfl 0 rfl ?_
    refine tt_get (v := .ref (eA E i 2)) C (oH1 hi) rfl hin1 1 (by decide) (List.mem_of_getElem? (i := 2) (by decide +kernel)) rfl dX1_add_16 ?_
    refine tt_iload C dX1_add_19 5 rfl ?_
    refine tt_iload_n C dX1_add_21 rfl 1 rfl ?_
    refine tt_iastB C (aH2 hi) (ix (h 1 0)) rfl (by omega) dX1_add_22 ?_
    generalize e_3 : up2 h 2 (ix (h 1 0)) f = h_2
    refine tt_aload_n C dX1_add_23 rfl 0 rfl ?_
    refine tt_get (v := .ref (eA E i 3)) C (oH1 hi) rfl hin1 2 (by decide) (List.mem_of_getElem? (i := 3) (by decide +kernel)) rfl dX1_add_24 ?_
    refine tt_iload C dX1_add_27 5 rfl ?_
    refine tt_iload_n C dX1_add_29 rfl 2 rfl ?_
    refine tt_iastB C (aH3 hi) (ix (h 1 0)) rfl (by omega) dX1_add_30 ?_
    generalize e_5 : up2 h_2 3 (ix (h 1 0)) t = h_4
    refine tt_aload_n C dX1_add_31 rfl 0 rfl ?_
    refine tt_get (v := .ref (eA E i 4)) C (oH1 hi) rfl hin1 3 (by decide) (List.mem_of_getElem? (i := 4) (by decide +kernel)) rfl dX1_add_32 ?_
    refine tt_iload C dX1_add_35 5 rfl ?_
    refine tt_iload_n C dX1_add_37 rfl 3 rfl ?_
    refine tt_iastB C (aH4 hi) (ix (h 1 0)) rfl (by omega) dX1_add_38 ?_
    generalize e_7 : up2 h_4 4 (ix (h 1 0)) a = h_6
    refine tt_aload_n C dX1_add_39 rfl 0 rfl ?_
    refine tt_get (v := .ref (eA E i 5)) C (oH1 hi) rfl hin1 4 (by decide) (List.mem_of_getElem? (i := 5) (by decide +kernel)) rfl dX1_add_40 ?_
    refine tt_iload C dX1_add_43 5 rfl ?_
    refine tt_iload C dX1_add_45 4 rfl ?_
    refine tt_iastB C (aH5 hi) (ix (h 1 0)) rfl (by omega) dX1_add_47 ?_
    generalize e_9 : up2 h_6 5 (ix (h 1 0)) b = h_8
    refine tt_aload_n C dX1_add_48 rfl 0 rfl ?_
    refine tt_get (v := .ref (eA E i 6)) C (oH1 hi) rfl hin1 5 (by decide) (List.mem_of_getElem? (i := 6) (by decide +kernel)) rfl dX1_add_49 ?_
    refine tt_iload C dX1_add_52 5 rfl ?_
    refine tt_iconst (v := nI 0) C dX1_add_54 (by decide) ?_
    refine tt_iastB C (aH6 hi) (ix (h 1 0)) rfl (by omega) dX1_add_55 ?_
    generalize e_11 : up2 h_8 6 (ix (h 1 0)) (nI 0) = h_10
    refine tt_aload_n C dX1_add_56 rfl 0 rfl ?_
    refine tt_get (v := .ref (eA E i 7)) C (oH1 hi) rfl hin1 6 (by decide) (List.mem_of_getElem? (i := 7) (by decide +kernel)) rfl dX1_add_57 ?_
    refine tt_iload C dX1_add_60 5 rfl ?_
    refine tt_iconst (v := nI 0) C dX1_add_62 (by decide) ?_
    refine tt_iastB C (aH7 hi) (ix (h 1 0)) rfl (by omega) dX1_add_63 ?_
    generalize e_13 : up2 h_10 7 (ix (h 1 0)) (nI 0) = h_12
    refine tt_aload_n C dX1_add_64 rfl 0 rfl ?_
    refine tt_get (v := .ref (eA E i 8)) C (oH1 hi) rfl hin1 7 (by decide) (List.mem_of_getElem? (i := 8) (by decide +kernel)) rfl dX1_add_65 ?_
    refine tt_iload C dX1_add_68 5 rfl ?_
    refine tt_iconst (v := (-1 : Int32)) C dX1_add_70 (by decide) ?_
    refine tt_iastB C (aH8 hi) (ix (h 1 0)) rfl (by omega) dX1_add_71 ?_
    generalize e_15 : up2 h_12 8 (ix (h 1 0)) (-1 : Int32) = h_14
    refine tt_aload_n C dX1_add_72 rfl 0 rfl ?_
    refine tt_get (v := .ref (eA E i 9)) C (oH1 hi) rfl hin1 8 (by decide) (List.mem_of_getElem? (i := 9) (by decide +kernel)) rfl dX1_add_73 ?_
    refine tt_iload C dX1_add_76 5 rfl ?_
    refine tt_iconst (v := nI 1) C dX1_add_78 (by decide) ?_
    refine tt_iastB C (aH9 hi) (ix (h 1 0)) rfl (by omega) dX1_add_79 ?_
    generalize e_17 : up2 h_14 9 (ix (h 1 0)) (nI 1) = h_16
    refine tt_aload_n C dX1_add_80 rfl 0 rfl ?_
    refine tt_get (v := .ref (eA E i 10)) C (oH1 hi) rfl hin1 9 (by decide) (List.mem_of_getElem? (i := 10) (by decide +kernel)) rfl dX1_add_81 ?_
    refine tt_iload C dX1_add_84 5 rfl ?_
    refine tt_iconst (v := (-1 : Int32)) C dX1_add_86 (by decide) ?_
    refine tt_iastB C (aH10 hi) (ix (h 1 0)) rfl (by omega) dX1_add_87 ?_
    generalize e_19 : up2 h_16 10 (ix (h 1 0)) (-1 : Int32) = h_18
    refine tt_aload_n C dX1_add_88 rfl 0 rfl ?_
    refine tt_get (v := .ref (eA E i 11)) C (oH1 hi) rfl hin1 10 (by decide) (List.mem_of_getElem? (i := 11) (by decide +kernel)) rfl dX1_add_89 ?_
    refine tt_iload C dX1_add_92 5 rfl ?_
    refine tt_iconst (v := (-1 : Int32)) C dX1_add_94 (by decide) ?_
    refine tt_iastB C (aH11 hi) (ix (h 1 0)) rfl (by omega) dX1_add_95 ?_
    generalize e_21 : up2 h_18 11 (ix (h 1 0)) (-1 : Int32) = h_20
    refine tt_aload_n C dX1_add_96 rfl 0 rfl ?_
    refine tt_get (v := .ref (eA E i 12)) C (oH1 hi) rfl hin1 11 (by decide) (List.mem_of_getElem? (i := 12) (by decide +kernel)) rfl dX1_add_97 ?_
    refine tt_iload C dX1_add_100 5 rfl ?_
    refine tt_iconst (v := nI 0) C dX1_add_102 (by decide) ?_
    refine tt_iastB C (aH12 hi) (ix (h 1 0)) rfl (by omega) dX1_add_103 ?_
    generalize e_23 : up2 h_20 12 (ix (h 1 0)) (nI 0) = h_22
    refine tt_aload_n C dX1_add_104 rfl 0 rfl ?_
    refine tt_iload C dX1_add_105 5 rfl ?_
    refine tt_iconst (v := nI 1) C dX1_add_107 (by decide) ?_
    refine tt_iadd (v := nI (ix (h 1 0) + 1)) C dX1_add_108 (nI_add _ _) ?_
    refine tt_putIB C (fH1_0 hi) rfl hin1 tyX1 tyX1_ok nmX1 (by decide) (List.mem_of_getElem? (i := 1) (by decide +kernel)) (by decide +kernel) (by decide +kernel) dX1_add_109 ?_
    generalize e_25 : up2 h_22 1 0 (nI (ix (h 1 0) + 1)) = h_24
    refine tt_iload C dX1_add_112 5 rfl ?_
    exact tt_iret K dX1_add_114 (by subst e_25; subst e_23; subst e_21; subst e_19; subst e_17; subst e_15; subst e_13; subst e_11; subst e_9; subst e_7; subst e_5; subst e_3; first | rfl | (simp [c_1, H_dadd]; done) | grind [H_dadd]) (by subst e_25; subst e_23; subst e_21; subst e_19; subst e_17; subst e_15; subst e_13; subst e_11; subst e_9; subst e_7; subst e_5; subst e_3; first | rfl | (simp [c_1, H_dadd]; done) | (refine congrArg _ ?_; grind [H_dadd])) rfl
  · skip
    exact absurd hm' (by omega)

def H_twf (h : HB) (j w : Nat) : Int32 := if ¬ j < ix (h 25 0) then -1 else if w = 0 then nI (ix (h 26 j) / 8) else if w = 1 then nI (ix (h 26 j) % 8) else h 27 (ix (h 26 j))
set_option maxHeartbeats 4000000 in
set_option maxRecDepth 100000 in
theorem c_X5_fact (E : EN) (u : U3) (r : R1) (h : HB) (i : Nat) (j : Nat) (w : Nat) (hi : i < 5) (hj : j < 2 ^ 31) (hm : vI (h 25 0) 65) (ho : ∀ a, a < ix (h 25 0) → vI (h 26 a) 64) (hw : w < 3) : CT E yX5_fact wsX5_fact (rmT 0 0) [.ref (eA E i 25), .int (nI j), .int (nI w)] (ub u i h) r (some (.int (H_twf h j w))) (ub u i h) r := by
  refine CT_ofI (cc := cX5_fact) (nL := 4) (own := RX5) (by decide) rfl rfl rfl (Nat.le_of_ble_eq_true rfl) (fun F C K => ?_)
  have hin5 : ∀ w ∈ u_ws RX5 TX5 3, w ∈ wsX5_fact := by decide +kernel
  refine tt_to (lv1 := [(0, .ref (eA E i 25)), (1, .int (nI j)), (2, .int (nI w))]) rfl rfl rfl rfl ?_
  have hm' := ix_lt hm (by decide)
  refine tt_iload_n C dX5_fact_0 rfl 1 rfl ?_
  refine tt_aload_n C dX5_fact_1 rfl 0 rfl ?_
  refine tt_getI (v := nI (ix (h 25 0))) C (oH25 hi) rfl hin5 0 (by decide) (List.mem_of_getElem? (i := 1) (by decide +kernel)) rfl (ub_v.trans (ix_eq hm (by decide))) dX5_fact_2 ?_
  refine tt_icmp_lt C (tgt := 10) dX5_fact_5 (by decide) (nI_ltI (by omega) (by omega)) (fun c_1 => ?_) (fun c_1 => ?_)
  · skip
    refine tt_aload_n C dX5_fact_10 rfl 0 rfl ?_
    refine tt_get (v := .ref (eA E i 26)) C (oH25 hi) rfl hin5 1 (by decide) (List.mem_of_getElem? (i := 2) (by decide +kernel)) rfl dX5_fact_11 ?_
    refine tt_iload_n C dX5_fact_14 rfl 1 rfl ?_
    refine tt_ialdB (v := h 26 j) C (aH26 hi) j rfl (by omega) rfl dX5_fact_15 ?_
    have hoj := ho j (by omega)
    have hoj' := ix_lt hoj (by decide)
    refine tt_to (st1 := [.int (nI (ix (h 26 j)))]) rfl rfl rfl (congrArg (fun z => ([.int z] : List Value)) (ix_eq hoj (by decide))) ?_
    refine tt_istore_n (lv' := [(0, .ref (eA E i 25)), (1, .int (nI j)), (2, .int (nI w)), (3, .int (nI (ix (h 26 j))))]) C dX5_fact_16 rfl (by decide) [1, 2, 3, 0] rfl ?_
    refine tt_iload_n C dX5_fact_17 rfl 2 rfl ?_
    rcases (by omega : w = 0 ∨ w = 1 ∨ w = 2) with rfl | rfl | rfl
    · skip
      refine tt_look (off := 26) (tgt := 44) C dX5_fact_18 (by decide) (by decide) (by decide) ?_
      refine tt_iload_n C dX5_fact_44 rfl 3 rfl ?_
      refine tt_bipush (v := nI 8) C dX5_fact_45 (by decide) ?_
      refine tt_idiv (v := nI ((ix (h 26 j)) / 8)) C dX5_fact_47 (by decide) (pk_div (by omega) (by omega) (by omega)) ?_
      exact tt_iret K dX5_fact_48 (by first | rfl | (simp [c_1, H_twf]; done) | grind [H_twf]) (by first | rfl | (simp [c_1, H_twf]; done) | (refine congrArg _ ?_; grind [H_twf])) rfl
    · skip
      refine tt_look (off := 31) (tgt := 49) C dX5_fact_18 (by decide) (by decide) (by decide) ?_
      refine tt_iload_n C dX5_fact_49 rfl 3 rfl ?_
      refine tt_bipush (v := nI 8) C dX5_fact_50 (by decide) ?_
      refine tt_irem (v := nI ((ix (h 26 j)) % 8)) C dX5_fact_52 (by decide) (pk_rem (by omega) (by omega) (by omega)) ?_
      exact tt_iret K dX5_fact_53 (by first | rfl | (simp [c_1, H_twf]; done) | grind [H_twf]) (by first | rfl | (simp [c_1, H_twf]; done) | (refine congrArg _ ?_; grind [H_twf])) rfl
    · skip
      refine tt_look (off := 36) (tgt := 54) C dX5_fact_18 (by decide) (by decide) (by decide) ?_
      refine tt_aload_n C dX5_fact_54 rfl 0 rfl ?_
      refine tt_get (v := .ref (eA E i 27)) C (oH25 hi) rfl hin5 2 (by decide) (List.mem_of_getElem? (i := 3) (by decide +kernel)) rfl dX5_fact_55 ?_
      refine tt_iload_n C dX5_fact_58 rfl 3 rfl ?_
      refine tt_ialdB (v := h 27 (ix (h 26 j))) C (aH27 hi) (ix (h 26 j)) rfl (by omega) rfl dX5_fact_59 ?_
      exact tt_iret K dX5_fact_60 (by first | rfl | (simp [c_1, H_twf]; done) | grind [H_twf]) (by first | rfl | (simp [c_1, H_twf]; done) | (refine congrArg _ ?_; grind [H_twf])) rfl
  · skip
    refine tt_iconst (v := (-1 : Int32)) C dX5_fact_8 (by decide) ?_
    exact tt_iret K dX5_fact_9 (by first | rfl | (simp [c_1, H_twf]; done) | grind [H_twf]) (by first | rfl | (simp [c_1, H_twf]; done) | (refine congrArg _ ?_; grind [H_twf])) rfl

set_option maxHeartbeats 4000000 in
set_option maxRecDepth 100000 in
theorem c_X1_changeLock_N (E : EN) (u : U3) (r : R1) (h : HB) (i : Nat) (d : Nat) (hi : i < 5) (hd : d < 8) (ho : h 8 d = -1 ∨ vI (h 8 d) 8) : CT E yX1_changeLock wsX1_changeLock (rmT 1 22) [.ref (eA E i 1), .int (nI d), .int (-1)] (ub u i h) r (some (.int (h 8 d))) (ub u i (H_unlock h d)) r := by
  refine CT_ofI (cc := cX1_changeLock) (nL := 4) (own := RX1) (by decide) rfl rfl rfl (Nat.le_of_ble_eq_true rfl) (fun F C K => ?_)
  have hin1 : ∀ w ∈ u_ws RX1 TX1 17, w ∈ wsX1_changeLock := by decide +kernel
  refine tt_to (lv1 := [(0, .ref (eA E i 1)), (1, .int (nI d)), (2, .int (-1))]) rfl rfl rfl rfl ?_
  refine tt_aload_n C dX1_changeLock_0 rfl 0 rfl ?_
  refine tt_get (v := .ref (eA E i 8)) C (oH1 hi) rfl hin1 7 (by decide) (List.mem_of_getElem? (i := 1) (by decide +kernel)) rfl dX1_changeLock_1 ?_
  refine tt_iload_n C dX1_changeLock_4 rfl 1 rfl ?_
  refine tt_ialdB (v := h 8 d) C (aH8 hi) d rfl (by omega) rfl dX1_changeLock_5 ?_
  refine tt_istore_n (lv' := [(0, .ref (eA E i 1)), (1, .int (nI d)), (2, .int (-1)), (3, .int (h 8 d))]) C dX1_changeLock_6 rfl (by decide) [1, 2, 3, 0] rfl ?_
  refine tt_aload_n C dX1_changeLock_7 rfl 0 rfl ?_
  refine tt_iload_n C dX1_changeLock_8 rfl 1 rfl ?_
  refine tt_cVV C (c_X1_unlock E u r h i d hi hd ho) gX1_changeLock_X1_unlock rfl ⟨rfl, rfl⟩ 1 (by decide +kernel) ⟨Nat.le_of_ble_eq_true rfl, Nat.le_of_ble_eq_true rfl⟩ rfl (oH1 hi) rfl (Nat.le_of_ble_eq_true rfl) dX1_changeLock_9 rfl ?_
  generalize e_2 : H_unlock h d = h_1
  refine tt_iload_n C dX1_changeLock_12 rfl 2 rfl ?_
  refine tt_iconst (v := (-1 : Int32)) C dX1_changeLock_13 (by decide) ?_
  refine tt_icmp_eq C (tgt := 36) dX1_changeLock_14 (by decide) Iff.rfl (fun c_3 => ?_) (fun c_3 => ?_)
  · skip
    refine tt_iload_n C dX1_changeLock_36 rfl 3 rfl ?_
    exact tt_iret K dX1_changeLock_37 (by subst e_2; first | rfl | (simp [c_3]; done) | grind []) (by subst e_2; first | rfl | (simp [c_3]; done) | (refine congrArg _ ?_; grind [])) rfl
  · skip
    exact absurd rfl c_3

theorem H_unlock_ok {h : HB} {d e : Nat} (h0 : h 8 e = -1 ∨ vI (h 8 e) 8) : H_unlock h d 8 e = -1 ∨ vI (H_unlock h d 8 e) 8 := by unfold H_unlock; split <;> simp only [up2] <;> grind
def H_lock (h : HB) (d e : Nat) : HB := up2 (up2 (H_unlock (H_unlock h d) e) 8 d (nI e)) 8 e (nI d)
set_option maxHeartbeats 4000000 in
set_option maxRecDepth 100000 in
theorem c_X1_changeLock_E (E : EN) (u : U3) (r : R1) (h : HB) (i : Nat) (d : Nat) (e : Nat) (hi : i < 5) (hd : d < 8) (he : e < 8) (ho : h 8 d = -1 ∨ vI (h 8 d) 8) (hoe : h 8 e = -1 ∨ vI (h 8 e) 8) : CT E yX1_changeLock wsX1_changeLock (rmT 1 22) [.ref (eA E i 1), .int (nI d), .int (nI e)] (ub u i h) r (some (.int (h 8 d))) (ub u i (H_lock h d e)) r := by
  refine CT_ofI (cc := cX1_changeLock) (nL := 4) (own := RX1) (by decide) rfl rfl rfl (Nat.le_of_ble_eq_true rfl) (fun F C K => ?_)
  have hin1 : ∀ w ∈ u_ws RX1 TX1 17, w ∈ wsX1_changeLock := by decide +kernel
  refine tt_to (lv1 := [(0, .ref (eA E i 1)), (1, .int (nI d)), (2, .int (nI e))]) rfl rfl rfl rfl ?_
  refine tt_aload_n C dX1_changeLock_0 rfl 0 rfl ?_
  refine tt_get (v := .ref (eA E i 8)) C (oH1 hi) rfl hin1 7 (by decide) (List.mem_of_getElem? (i := 1) (by decide +kernel)) rfl dX1_changeLock_1 ?_
  refine tt_iload_n C dX1_changeLock_4 rfl 1 rfl ?_
  refine tt_ialdB (v := h 8 d) C (aH8 hi) d rfl (by omega) rfl dX1_changeLock_5 ?_
  refine tt_istore_n (lv' := [(0, .ref (eA E i 1)), (1, .int (nI d)), (2, .int (nI e)), (3, .int (h 8 d))]) C dX1_changeLock_6 rfl (by decide) [1, 2, 3, 0] rfl ?_
  refine tt_aload_n C dX1_changeLock_7 rfl 0 rfl ?_
  refine tt_iload_n C dX1_changeLock_8 rfl 1 rfl ?_
  refine tt_cVV C (c_X1_unlock E u r h i d hi hd ho) gX1_changeLock_X1_unlock rfl ⟨rfl, rfl⟩ 1 (by decide +kernel) ⟨Nat.le_of_ble_eq_true rfl, Nat.le_of_ble_eq_true rfl⟩ rfl (oH1 hi) rfl (Nat.le_of_ble_eq_true rfl) dX1_changeLock_9 rfl ?_
  generalize e_2 : H_unlock h d = h_1
  refine tt_iload_n C dX1_changeLock_12 rfl 2 rfl ?_
  refine tt_iconst (v := (-1 : Int32)) C dX1_changeLock_13 (by decide) ?_
  refine tt_icmp_eq C (tgt := 36) dX1_changeLock_14 (by decide) (by exact ⟨fun z => absurd z (vI_ne (vI_nI he) (by decide)), fun z => z.elim⟩ : (nI e = -1) ↔ False) (fun c_3 => ?_) (fun c_3 => ?_)
  · skip
    exact c_3.elim
  · skip
    refine tt_aload_n C dX1_changeLock_17 rfl 0 rfl ?_
    refine tt_iload_n C dX1_changeLock_18 rfl 2 rfl ?_
    refine tt_cVV C (c_X1_unlock E u r h_1 i e hi he (by rw [← e_2]; exact H_unlock_ok hoe)) gX1_changeLock_X1_unlock rfl ⟨rfl, rfl⟩ 1 (by decide +kernel) ⟨Nat.le_of_ble_eq_true rfl, Nat.le_of_ble_eq_true rfl⟩ rfl (oH1 hi) rfl (Nat.le_of_ble_eq_true rfl) dX1_changeLock_19 rfl ?_
    generalize e_5 : H_unlock h_1 e = h_4
    refine tt_aload_n C dX1_changeLock_22 rfl 0 rfl ?_
    refine tt_get (v := .ref (eA E i 8)) C (oH1 hi) rfl hin1 7 (by decide) (List.mem_of_getElem? (i := 1) (by decide +kernel)) rfl dX1_changeLock_23 ?_
    refine tt_iload_n C dX1_changeLock_26 rfl 1 rfl ?_
    refine tt_iload_n C dX1_changeLock_27 rfl 2 rfl ?_
    refine tt_iastB C (aH8 hi) d rfl (by omega) dX1_changeLock_28 ?_
    generalize e_7 : up2 h_4 8 d (nI e) = h_6
    refine tt_aload_n C dX1_changeLock_29 rfl 0 rfl ?_
    refine tt_get (v := .ref (eA E i 8)) C (oH1 hi) rfl hin1 7 (by decide) (List.mem_of_getElem? (i := 1) (by decide +kernel)) rfl dX1_changeLock_30 ?_
    refine tt_iload_n C dX1_changeLock_33 rfl 2 rfl ?_
    refine tt_iload_n C dX1_changeLock_34 rfl 1 rfl ?_
    refine tt_iastB C (aH8 hi) e rfl (by omega) dX1_changeLock_35 ?_
    generalize e_9 : up2 h_6 8 e (nI d) = h_8
    refine tt_iload_n C dX1_changeLock_36 rfl 3 rfl ?_
    exact tt_iret K dX1_changeLock_37 (by subst e_9; subst e_7; subst e_5; subst e_2; first | rfl | (simp [c_3, H_lock]; done) | grind [H_lock]) (by subst e_9; subst e_7; subst e_5; subst e_2; first | rfl | (simp [c_3, H_lock]; done) | (refine congrArg _ ?_; grind [H_lock])) rfl
