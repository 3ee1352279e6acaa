set_option maxHeartbeats 4000000 in
set_option maxRecDepth 100000 in
theorem c_X6_isBelow (E : EN) (u : U3) (r : R1) (v : Int32) (e : Int32)  : CT E yX6_isBelow wsX6_isBelow (rmT 0 0) [.int v, .int e] (u) r (some (.int (b2i (¬ v < 0 ∧ ¬ e ≤ v)))) (u) r := by
  refine CT_ofI (cc := cX6_isBelow) (nL := 2) (own := RX6) (by decide) rfl rfl (b2i_z _) (Nat.le_of_ble_eq_true rfl) (fun F C K => ?_)
  refine tt_to (lv1 := [(0, .int v), (1, .int e)]) rfl rfl rfl rfl ?_
  refine tt_iload_n C dX6_isBelow_0 rfl 0 rfl ?_
  refine tt_if_lt C (tgt := 13) dX6_isBelow_1 (by decide) Iff.rfl (fun c_1 => ?_) (fun c_1 => ?_)
  · skip
    refine tt_iconst (v := nI 0) C dX6_isBelow_13 (by decide) ?_
    exact tt_iret K dX6_isBelow_14 (by exact b1_f (by first | (simp only [c_1, not_false_eq_true, not_true_eq_false, and_true, true_and, and_false, false_and, and_self, or_true, true_or, or_false, false_or, or_self, if_true, if_false]; done) | grind)) rfl rfl
  · skip
    refine tt_iload_n C dX6_isBelow_4 rfl 0 rfl ?_
    refine tt_iload_n C dX6_isBelow_5 rfl 1 rfl ?_
    refine tt_icmp_ge C (tgt := 13) dX6_isBelow_6 (by decide) Iff.rfl (fun c_2 => ?_) (fun c_2 => ?_)
    · skip
      refine tt_iconst (v := nI 0) C dX6_isBelow_13 (by decide) ?_
      exact tt_iret K dX6_isBelow_14 (by exact b1_f (by first | (simp only [c_1, c_2, not_false_eq_true, not_true_eq_false, and_true, true_and, and_false, false_and, and_self, or_true, true_or, or_false, false_or, or_self, if_true, if_false]; done) | grind)) rfl rfl
    · skip
      refine tt_iconst (v := nI 1) C dX6_isBelow_9 (by decide) ?_
      refine tt_goto (tgt := 14) C dX6_isBelow_10 (by decide) ?_
      exact tt_iret K dX6_isBelow_14 (by exact b1_t (by first | (simp only [c_1, c_2, not_false_eq_true, not_true_eq_false, and_true, true_and, and_false, false_and, and_self, or_true, true_or, or_false, false_or, or_self, if_true, if_false]; done) | grind)) rfl rfl

set_option maxHeartbeats 4000000 in
set_option maxRecDepth 100000 in
theorem c_X6_isArea (E : EN) (u : U3) (r : R1) (v : Int32)  : CT E yX6_isArea wsX6_isArea (rmT 1 21) [.int v] (u) r (some (.int (b2i (¬ v < 0 ∧ ¬ nI 6 ≤ v)))) (u) r := by
  refine CT_ofI (cc := cX6_isArea) (nL := 1) (own := RX6) (by decide) rfl rfl (b2i_z _) (Nat.le_of_ble_eq_true rfl) (fun F C K => ?_)
  refine tt_to (lv1 := [(0, .int v)]) rfl rfl rfl rfl ?_
  refine tt_iload_n C dX6_isArea_0 rfl 0 rfl ?_
  refine tt_bipush (v := nI 6) C dX6_isArea_1 (by decide) ?_
  refine tt_cSI C (c_X6_isBelow E u r v (nI 6)) gX6_isArea_X6_isBelow rfl ⟨rfl, rfl⟩ 2 (by decide +kernel) ⟨Nat.le_of_ble_eq_true rfl, Nat.le_of_ble_eq_true rfl⟩ rfl (by decide) dX6_isArea_3 rfl ?_
  exact tt_iret K dX6_isArea_6 (by first | rfl | (simp []; done) | grind []) rfl rfl

set_option maxHeartbeats 4000000 in
set_option maxRecDepth 100000 in
theorem c_X6_isLevel (E : EN) (u : U3) (r : R1) (v : Int32)  : CT E yX6_isLevel wsX6_isLevel (rmT 0 0) [.int v] (u) r (some (.int (b2i (¬ v < 0 ∧ ¬ nI 3 < v)))) (u) r := by
  refine CT_ofI (cc := cX6_isLevel) (nL := 1) (own := RX6) (by decide) rfl rfl (b2i_z _) (Nat.le_of_ble_eq_true rfl) (fun F C K => ?_)
  refine tt_to (lv1 := [(0, .int v)]) rfl rfl rfl rfl ?_
  refine tt_iload_n C dX6_isLevel_0 rfl 0 rfl ?_
  refine tt_if_lt C (tgt := 13) dX6_isLevel_1 (by decide) Iff.rfl (fun c_1 => ?_) (fun c_1 => ?_)
  · skip
    refine tt_iconst (v := nI 0) C dX6_isLevel_13 (by decide) ?_
    exact tt_iret K dX6_isLevel_14 (by exact b1_f (by first | (simp only [c_1, not_false_eq_true, not_true_eq_false, and_true, true_and, and_false, false_and, and_self, or_true, true_or, or_false, false_or, or_self, if_true, if_false]; done) | grind)) rfl rfl
  · skip
    refine tt_iload_n C dX6_isLevel_4 rfl 0 rfl ?_
    refine tt_iconst (v := nI 3) C dX6_isLevel_5 (by decide) ?_
    refine tt_icmp_gt C (tgt := 13) dX6_isLevel_6 (by decide) Iff.rfl (fun c_2 => ?_) (fun c_2 => ?_)
    · skip
      refine tt_iconst (v := nI 0) C dX6_isLevel_13 (by decide) ?_
      exact tt_iret K dX6_isLevel_14 (by exact b1_f (by first | (simp only [c_1, c_2, not_false_eq_true, not_true_eq_false, and_true, true_and, and_false, false_and, and_self, or_true, true_or, or_false, false_or, or_self, if_true, if_false]; done) | grind)) rfl rfl
    · skip
      refine tt_iconst (v := nI 1) C dX6_isLevel_9 (by decide) ?_
      refine tt_goto (tgt := 14) C dX6_isLevel_10 (by decide) ?_
      exact tt_iret K dX6_isLevel_14 (by exact b1_t (by first | (simp only [c_1, c_2, not_false_eq_true, not_true_eq_false, and_true, true_and, and_false, false_and, and_self, or_true, true_or, or_false, false_or, or_self, if_true, if_false]; done) | grind)) rfl rfl

set_option maxHeartbeats 4000000 in
set_option maxRecDepth 100000 in
theorem c_X6_isFlag (E : EN) (u : U3) (r : R1) (v : Int32)  : CT E yX6_isFlag wsX6_isFlag (rmT 0 0) [.int v] (u) r (some (.int (b2i (v = 0 ∨ v = nI 1)))) (u) r := by
  refine CT_ofI (cc := cX6_isFlag) (nL := 1) (own := RX6) (by decide) rfl rfl (b2i_z _) (Nat.le_of_ble_eq_true rfl) (fun F C K => ?_)
  refine tt_to (lv1 := [(0, .int v)]) rfl rfl rfl rfl ?_
  refine tt_iload_n C dX6_isFlag_0 rfl 0 rfl ?_
  refine tt_if_eq C (tgt := 9) dX6_isFlag_1 (by decide) Iff.rfl (fun c_1 => ?_) (fun c_1 => ?_)
  · skip
    refine tt_iconst (v := nI 1) C dX6_isFlag_9 (by decide) ?_
    refine tt_goto (tgt := 14) C dX6_isFlag_10 (by decide) ?_
    exact tt_iret K dX6_isFlag_14 (by exact b1_t (by first | (simp only [c_1, not_false_eq_true, not_true_eq_false, and_true, true_and, and_false, false_and, and_self, or_true, true_or, or_false, false_or, or_self, if_true, if_false]; done) | grind)) rfl rfl
  · skip
    refine tt_iload_n C dX6_isFlag_4 rfl 0 rfl ?_
    refine tt_iconst (v := nI 1) C dX6_isFlag_5 (by decide) ?_
    refine tt_icmp_ne C (tgt := 13) dX6_isFlag_6 (by decide) Iff.rfl (fun c_2 => ?_) (fun c_2 => ?_)
    · skip
      refine tt_iconst (v := nI 0) C dX6_isFlag_13 (by decide) ?_
      exact tt_iret K dX6_isFlag_14 (by exact b1_f (by first | (simp only [c_1, c_2, not_false_eq_true, not_true_eq_false, and_true, true_and, and_false, false_and, and_self, or_true, true_or, or_false, false_or, or_self, if_true, if_false]; done) | grind)) rfl rfl
    · skip
      refine tt_iconst (v := nI 1) C dX6_isFlag_9 (by decide) ?_
      refine tt_goto (tgt := 14) C dX6_isFlag_10 (by decide) ?_
      exact tt_iret K dX6_isFlag_14 (by exact b1_t (by first | (simp only [c_1, c_2, not_false_eq_true, not_true_eq_false, and_true, true_and, and_false, false_and, and_self, or_true, true_or, or_false, false_or, or_self, if_true, if_false]; done) | grind)) rfl rfl

set_option maxHeartbeats 4000000 in
set_option maxRecDepth 100000 in
theorem c_X6_isSetting (E : EN) (u : U3) (r : R1) (w : Int32) (v : Int32)  : CT E yX6_isSetting wsX6_isSetting (rmT 1 20) [.int w, .int v] (u) r (some (.int (b2i ((w = 0 ∧ ¬ v < 0 ∧ v ≤ nI 2) ∨ (w = nI 1 ∧ (v = 0 ∨ v = nI 1)))))) (u) r := by
  refine CT_ofI (cc := cX6_isSetting) (nL := 2) (own := RX6) (by decide) rfl rfl (b2i_z _) (Nat.le_of_ble_eq_true rfl) (fun F C K => ?_)
  refine tt_to (lv1 := [(0, .int w), (1, .int v)]) rfl rfl rfl rfl ?_
  refine tt_iload_n C dX6_isSetting_0 rfl 0 rfl ?_
  refine tt_if_ne C (tgt := 13) dX6_isSetting_1 (by decide) Iff.rfl (fun c_1 => ?_) (fun c_1 => ?_)
  · skip
    refine tt_iload_n C dX6_isSetting_13 rfl 0 rfl ?_
    refine tt_iconst (v := nI 1) C dX6_isSetting_14 (by decide) ?_
    refine tt_icmp_ne C (tgt := 29) dX6_isSetting_15 (by decide) Iff.rfl (fun c_2 => ?_) (fun c_2 => ?_)
    · skip
      refine tt_iconst (v := nI 0) C dX6_isSetting_29 (by decide) ?_
      exact tt_iret K dX6_isSetting_30 (by exact b1_f (by first | (simp only [c_1, c_2, not_false_eq_true, not_true_eq_false, and_true, true_and, and_false, false_and, and_self, or_true, true_or, or_false, false_or, or_self, if_true, if_false]; done) | grind)) rfl rfl
    · skip
      refine tt_iload_n C dX6_isSetting_18 rfl 1 rfl ?_
      refine tt_cSI C (c_X6_isFlag E u r v) gX6_isSetting_X6_isFlag rfl ⟨rfl, rfl⟩ 1 (by decide +kernel) ⟨Nat.le_of_ble_eq_true rfl, Nat.le_of_ble_eq_true rfl⟩ rfl (by decide) dX6_isSetting_19 rfl ?_
      refine tt_if_eqB C (tgt := 29) dX6_isSetting_22 (by decide) (fun c_3 => ?_) (fun c_3 => ?_)
      · skip
        refine tt_iconst (v := nI 0) C dX6_isSetting_29 (by decide) ?_
        exact tt_iret K dX6_isSetting_30 (by exact b1_f (by first | (simp only [c_1, c_2, c_3, not_false_eq_true, not_true_eq_false, and_true, true_and, and_false, false_and, and_self, or_true, true_or, or_false, false_or, or_self, if_true, if_false]; done) | grind)) rfl rfl
      · skip
        refine tt_iconst (v := nI 1) C dX6_isSetting_25 (by decide) ?_
        refine tt_goto (tgt := 30) C dX6_isSetting_26 (by decide) ?_
        exact tt_iret K dX6_isSetting_30 (by exact b1_t (by first | (simp only [c_1, c_2, c_3, not_false_eq_true, not_true_eq_false, and_true, true_and, and_false, false_and, and_self, or_true, true_or, or_false, false_or, or_self, if_true, if_false]; done) | grind)) rfl rfl
  · skip
    refine tt_iload_n C dX6_isSetting_4 rfl 1 rfl ?_
    refine tt_if_lt C (tgt := 13) dX6_isSetting_5 (by decide) Iff.rfl (fun c_4 => ?_) (fun c_4 => ?_)
    · skip
      refine tt_iload_n C dX6_isSetting_13 rfl 0 rfl ?_
      refine tt_iconst (v := nI 1) C dX6_isSetting_14 (by decide) ?_
      refine tt_icmp_ne C (tgt := 29) dX6_isSetting_15 (by decide) Iff.rfl (fun c_5 => ?_) (fun c_5 => ?_)
      · skip
        refine tt_iconst (v := nI 0) C dX6_isSetting_29 (by decide) ?_
        exact tt_iret K dX6_isSetting_30 (by exact b1_f (by first | (simp only [c_1, c_4, c_5, not_false_eq_true, not_true_eq_false, and_true, true_and, and_false, false_and, and_self, or_true, true_or, or_false, false_or, or_self, if_true, if_false]; done) | grind)) rfl rfl
      · skip
        refine tt_iload_n C dX6_isSetting_18 rfl 1 rfl ?_
        refine tt_cSI C (c_X6_isFlag E u r v) gX6_isSetting_X6_isFlag rfl ⟨rfl, rfl⟩ 1 (by decide +kernel) ⟨Nat.le_of_ble_eq_true rfl, Nat.le_of_ble_eq_true rfl⟩ rfl (by decide) dX6_isSetting_19 rfl ?_
        refine tt_if_eqB C (tgt := 29) dX6_isSetting_22 (by decide) (fun c_6 => ?_) (fun c_6 => ?_)
        · skip
          refine tt_iconst (v := nI 0) C dX6_isSetting_29 (by decide) ?_
          exact tt_iret K dX6_isSetting_30 (by exact b1_f (by first | (simp only [c_1, c_4, c_5, c_6, not_false_eq_true, not_true_eq_false, and_true, true_and, and_false, false_and, and_self, or_true, true_or, or_false, false_or, or_self, if_true, if_false]; done) | grind)) rfl rfl
        · skip
          refine tt_iconst (v := nI 1) C dX6_isSetting_25 (by decide) ?_
          refine tt_goto (tgt := 30) C dX6_isSetting_26 (by decide) ?_
          exact tt_iret K dX6_isSetting_30 (by exact b1_t (by first | (simp only [c_1, c_4, c_5, c_6, not_false_eq_true, not_true_eq_false, and_true, true_and, and_false, false_and, and_self, or_true, true_or, or_false, false_or, or_self, if_true, if_false]; done) | grind)) rfl rfl
    · skip
      refine tt_iload_n C dX6_isSetting_8 rfl 1 rfl ?_
      refine tt_iconst (v := nI 2) C dX6_isSetting_9 (by decide) ?_
      refine tt_icmp_le C (tgt := 25) dX6_isSetting_10 (by decide) Iff.rfl (fun c_7 => ?_) (fun c_7 => ?_)
      · skip
        refine tt_iconst (v := nI 1) C dX6_isSetting_25 (by decide) ?_
        refine tt_goto (tgt := 30) C dX6_isSetting_26 (by decide) ?_
        exact tt_iret K dX6_isSetting_30 (by exact b1_t (by first | (simp only [c_1, c_4, c_7, not_false_eq_true, not_true_eq_false, and_true, true_and, and_false, false_and, and_self, or_true, true_or, or_false, false_or, or_self, if_true, if_false]; done) | grind)) rfl rfl
      · skip
        refine tt_iload_n C dX6_isSetting_13 rfl 0 rfl ?_
        refine tt_iconst (v := nI 1) C dX6_isSetting_14 (by decide) ?_
        refine tt_icmp_ne C (tgt := 29) dX6_isSetting_15 (by decide) Iff.rfl (fun c_8 => ?_) (fun c_8 => ?_)
        · skip
          refine tt_iconst (v := nI 0) C dX6_isSetting_29 (by decide) ?_
          exact tt_iret K dX6_isSetting_30 (by exact b1_f (by first | (simp only [c_1, c_4, c_7, c_8, not_false_eq_true, not_true_eq_false, and_true, true_and, and_false, false_and, and_self, or_true, true_or, or_false, false_or, or_self, if_true, if_false]; done) | grind)) rfl rfl
        · skip
          refine tt_iload_n C dX6_isSetting_18 rfl 1 rfl ?_
          refine tt_cSI C (c_X6_isFlag E u r v) gX6_isSetting_X6_isFlag rfl ⟨rfl, rfl⟩ 1 (by decide +kernel) ⟨Nat.le_of_ble_eq_true rfl, Nat.le_of_ble_eq_true rfl⟩ rfl (by decide) dX6_isSetting_19 rfl ?_
          refine tt_if_eqB C (tgt := 29) dX6_isSetting_22 (by decide) (fun c_9 => ?_) (fun c_9 => ?_)
          · skip
            refine tt_iconst (v := nI 0) C dX6_isSetting_29 (by decide) ?_
            exact tt_iret K dX6_isSetting_30 (by exact b1_f (by first | (simp only [c_1, c_4, c_7, c_8, c_9, not_false_eq_true, not_true_eq_false, and_true, true_and, and_false, false_and, and_self, or_true, true_or, or_false, false_or, or_self, if_true, if_false]; done) | grind)) rfl rfl
          · skip
            refine tt_iconst (v := nI 1) C dX6_isSetting_25 (by decide) ?_
            refine tt_goto (tgt := 30) C dX6_isSetting_26 (by decide) ?_
            exact tt_iret K dX6_isSetting_30 (by exact b1_t (by first | (simp only [c_1, c_4, c_7, c_8, c_9, not_false_eq_true, not_true_eq_false, and_true, true_and, and_false, false_and, and_self, or_true, true_or, or_false, false_or, or_self, if_true, if_false]; done) | grind)) rfl rfl

set_option maxHeartbeats 4000000 in
set_option maxRecDepth 100000 in
theorem c_X1_changeSetting (E : EN) (u : U3) (r : R1) (h : HB) (i : Nat) (d : Nat) (w : Int32) (v : Int32) (hi : i < 5) (hd : d < 8) : CT E yX1_changeSetting wsX1_changeSetting (rmT 0 0) [.ref (eA E i 1), .int (nI d), .int w, .int v] (ub u i h) r (some (.int (if w = 0 then h 6 d else h 7 d))) (ub u i (if w = 0 then up2 h 6 d v else up2 h 7 d v)) r := by
  refine CT_ofI (cc := cX1_changeSetting) (nL := 6) (own := RX1) (by decide) rfl rfl rfl (Nat.le_of_ble_eq_true rfl) (fun F C K => ?_)
  have hin1 : ∀ w ∈ u_ws RX1 TX1 17, w ∈ wsX1_changeSetting := by decide +kernel
  refine tt_to (lv1 := [(0, .ref (eA E i 1)), (1, .int (nI d)), (2, .int w), (3, .int v)]) rfl rfl rfl rfl ?_
  refine tt_iload_n C dX1_changeSetting_0 rfl 2 rfl ?_
  refine tt_if_ne C (tgt := 11) dX1_changeSetting_1 (by decide) Iff.rfl (fun c_1 => ?_) (fun c_1 => ?_)
  · skip
    refine tt_aload_n C dX1_changeSetting_11 rfl 0 rfl ?_
    refine tt_get (v := .ref (eA E i 7)) C (oH1 hi) rfl hin1 6 (by decide) (List.mem_of_getElem? (i := 2) (by decide +kernel)) rfl dX1_changeSetting_12 ?_
    refine tt_astore (lv' := [(0, .ref (eA E i 1)), (1, .int (nI d)), (2, .int w), (3, .int v), (4, .ref (eA E i 7))]) C dX1_changeSetting_15 (by decide) [1, 2, 3, 4, 0] rfl ?_
    refine tt_aload C dX1_changeSetting_17 4 rfl ?_
    refine tt_iload_n C dX1_changeSetting_19 rfl 1 rfl ?_
    refine tt_ialdB (v := h 7 d) C (aH7 hi) d rfl (by omega) rfl dX1_changeSetting_20 ?_
    refine tt_istore (lv' := [(0, .ref (eA E i 1)), (1, .int (nI d)), (2, .int w), (3, .int v), (4, .ref (eA E i 7)), (5, .int (h 7 d))]) C dX1_changeSetting_21 (by decide) [1, 2, 3, 4, 5, 0] rfl ?_
    refine tt_aload C dX1_changeSetting_23 4 rfl ?_
    refine tt_iload_n C dX1_changeSetting_25 rfl 1 rfl ?_
    refine tt_iload_n C dX1_changeSetting_26 rfl 3 rfl ?_
    refine tt_iastB C (aH7 hi) d rfl (by omega) dX1_changeSetting_27 ?_
    generalize e_3 : up2 h 7 d v = h_2
    refine tt_iload C dX1_changeSetting_28 5 rfl ?_
    exact tt_iret K dX1_changeSetting_30 (by subst e_3; first | rfl | (simp [c_1]; done) | grind []) (by subst e_3; first | rfl | (simp [c_1]; done) | (refine congrArg _ ?_; grind [])) rfl
  · skip
    refine tt_aload_n C dX1_changeSetting_4 rfl 0 rfl ?_
    refine tt_get (v := .ref (eA E i 6)) C (oH1 hi) rfl hin1 5 (by decide) (List.mem_of_getElem? (i := 1) (by decide +kernel)) rfl dX1_changeSetting_5 ?_
    refine tt_goto (tgt := 15) C dX1_changeSetting_8 (by decide) ?_
    refine tt_astore (lv' := [(0, .ref (eA E i 1)), (1, .int (nI d)), (2, .int w), (3, .int v), (4, .ref (eA E i 6))]) C dX1_changeSetting_15 (by decide) [1, 2, 3, 4, 0] rfl ?_
    refine tt_aload C dX1_changeSetting_17 4 rfl ?_
    refine tt_iload_n C dX1_changeSetting_19 rfl 1 rfl ?_
    refine tt_ialdB (v := h 6 d) C (aH6 hi) d rfl (by omega) rfl dX1_changeSetting_20 ?_
    refine tt_istore (lv' := [(0, .ref (eA E i 1)), (1, .int (nI d)), (2, .int w), (3, .int v), (4, .ref (eA E i 6)), (5, .int (h 6 d))]) C dX1_changeSetting_21 (by decide) [1, 2, 3, 4, 5, 0] rfl ?_
    refine tt_aload C dX1_changeSetting_23 4 rfl ?_
    refine tt_iload_n C dX1_changeSetting_25 rfl 1 rfl ?_
    refine tt_iload_n C dX1_changeSetting_26 rfl 3 rfl ?_
    refine tt_iastB C (aH6 hi) d rfl (by omega) dX1_changeSetting_27 ?_
    generalize e_5 : up2 h 6 d v = h_4
    refine tt_iload C dX1_changeSetting_28 5 rfl ?_
    exact tt_iret K dX1_changeSetting_30 (by subst e_5; first | rfl | (simp [c_1]; done) | grind []) (by subst e_5; first | rfl | (simp [c_1]; done) | (refine congrArg _ ?_; grind [])) rfl

def H_unlock (h : HB) (d : Nat) : HB := if h 8 d = -1 then up2 h 8 d (-1) else up2 (up2 h 8 (ix (h 8 d)) (-1)) 8 d (-1)
set_option maxHeartbeats 4000000 in
set_option maxRecDepth 100000 in
theorem c_X1_unlock (E : EN) (u : U3) (r : R1) (h : HB) (i : Nat) (d : Nat) (hi : i < 5) (hd : d < 8) (ho : h 8 d = -1 ∨ vI (h 8 d) 8) : CT E yX1_unlock wsX1_unlock (rmT 0 0) [.ref (eA E i 1), .int (nI d)] (ub u i h) r none (ub u i (H_unlock h d)) r := by
  refine CT_ofV (cc := cX1_unlock) (nL := 3) (own := RX1) (by decide) rfl rfl (Nat.le_of_ble_eq_true rfl) (fun F C K => ?_)
  have hin1 : ∀ w ∈ u_ws RX1 TX1 17, w ∈ wsX1_unlock := by decide +kernel
  refine tt_to (lv1 := [(0, .ref (eA E i 1)), (1, .int (nI d))]) rfl rfl rfl rfl ?_
  refine tt_aload_n C dX1_unlock_0 rfl 0 rfl ?_
  refine tt_get (v := .ref (eA E i 8)) C (oH1 hi) rfl hin1 7 (by decide) (List.mem_of_getElem? (i := 1) (by decide +kernel)) rfl dX1_unlock_1 ?_
  refine tt_iload_n C dX1_unlock_4 rfl 1 rfl ?_
  refine tt_ialdB (v := h 8 d) C (aH8 hi) d rfl (by omega) rfl dX1_unlock_5 ?_
  refine tt_istore_n (lv' := [(0, .ref (eA E i 1)), (1, .int (nI d)), (2, .int (h 8 d))]) C dX1_unlock_6 rfl (by decide) [1, 2, 0] rfl ?_
  refine tt_iload_n C dX1_unlock_7 rfl 2 rfl ?_
  refine tt_iconst (v := (-1 : Int32)) C dX1_unlock_8 (by decide) ?_
  refine tt_icmp_eq C (tgt := 19) dX1_unlock_9 (by decide) Iff.rfl (fun c_1 => ?_) (fun c_1 => ?_)
  · skip
    refine tt_aload_n C dX1_unlock_19 rfl 0 rfl ?_
    refine tt_get (v := .ref (eA E i 8)) C (oH1 hi) rfl hin1 7 (by decide) (List.mem_of_getElem? (i := 1) (by decide +kernel)) rfl dX1_unlock_20 ?_
    refine tt_iload_n C dX1_unlock_23 rfl 1 rfl ?_
    refine tt_iconst (v := (-1 : Int32)) C dX1_unlock_24 (by decide) ?_
    refine tt_iastB C (aH8 hi) d rfl (by omega) dX1_unlock_25 ?_
    generalize e_3 : up2 h 8 d (-1 : Int32) = h_2
    exact tt_vret K dX1_unlock_26 (by subst e_3; first | rfl | (simp [c_1, H_unlock]; done) | (refine congrArg _ ?_; grind [H_unlock])) rfl
  · skip
    refine tt_aload_n C dX1_unlock_12 rfl 0 rfl ?_
    refine tt_get (v := .ref (eA E i 8)) C (oH1 hi) rfl hin1 7 (by decide) (List.mem_of_getElem? (i := 1) (by decide +kernel)) rfl dX1_unlock_13 ?_
    refine tt_iload_n C dX1_unlock_16 rfl 2 rfl ?_
    refine tt_iconst (v := (-1 : Int32)) C dX1_unlock_17 (by decide) ?_
    refine tt_iastB C (aH8 hi) (ix (h 8 d)) (ix_eq (ho.resolve_left c_1) (by decide)) (ix_lt (ho.resolve_left c_1) (by decide)) dX1_unlock_18 ?_
    generalize e_5 : up2 h 8 (ix (h 8 d)) (-1 : Int32) = h_4
    refine tt_aload_n C dX1_unlock_19 rfl 0 rfl ?_
    refine tt_get (v := .ref (eA E i 8)) C (oH1 hi) rfl hin1 7 (by decide) (List.mem_of_getElem? (i := 1) (by decide +kernel)) rfl dX1_unlock_20 ?_
    refine tt_iload_n C dX1_unlock_23 rfl 1 rfl ?_
    refine tt_iconst (v := (-1 : Int32)) C dX1_unlock_24 (by decide) ?_
    refine tt_iastB C (aH8 hi) d rfl (by omega) dX1_unlock_25 ?_
    generalize e_7 : up2 h_4 8 d (-1 : Int32) = h_6
    exact tt_vret K dX1_unlock_26 (by subst e_7; subst e_5; first | rfl | (simp [c_1, H_unlock]; done) | (refine congrArg _ ?_; grind [H_unlock])) rfl

set_option maxHeartbeats 4000000 in
set_option maxRecDepth 100000 in
theorem c_X1_isBarredByCopy (E : EN) (u : U3) (r : R1) (h : HB) (i : Nat) (d : Nat) (b : Nat) (hi : i < 5) (hd : d < 8) (hb : b < 8) : CT E yX1_isBarredByCopy wsX1_isBarredByCopy (rmT 0 0) [.ref (eA E i 1), .int (nI d), .int (nI b)] (ub u i h) r (some (.int (b2i (h 15 d ≤ nI b ∨ h 16 (d * 8 + b) = nI 1)))) (ub u i h) r := by
  refine CT_ofI (cc := cX1_isBarredByCopy) (nL := 3) (own := RX1) (by decide) rfl rfl (b2i_z _) (Nat.le_of_ble_eq_true rfl) (fun F C K => ?_)
  have hin1 : ∀ w ∈ u_ws RX1 TX1 17, w ∈ wsX1_isBarredByCopy := by decide +kernel
  refine tt_to (lv1 := [(0, .ref (eA E i 1)), (1, .int (nI d)), (2, .int (nI b))]) rfl rfl rfl rfl ?_
  refine tt_iload_n C dX1_isBarredByCopy_0 rfl 2 rfl ?_
  refine tt_aload_n C dX1_isBarredByCopy_1 rfl 0 rfl ?_
  refine tt_get (v := .ref (eA E i 15)) C (oH1 hi) rfl hin1 14 (by decide) (List.mem_of_getElem? (i := 1) (by decide +kernel)) rfl dX1_isBarredByCopy_2 ?_
  refine tt_iload_n C dX1_isBarredByCopy_5 rfl 1 rfl ?_
  refine tt_ialdB (v := h 15 d) C (aH15 hi) d rfl (by omega) rfl dX1_isBarredByCopy_6 ?_
  refine tt_icmp_ge C (tgt := 25) dX1_isBarredByCopy_7 (by decide) Iff.rfl (fun c_1 => ?_) (fun c_1 => ?_)
  · skip
    refine tt_iconst (v := nI 1) C dX1_isBarredByCopy_25 (by decide) ?_
    refine tt_goto (tgt := 30) C dX1_isBarredByCopy_26 (by decide) ?_
    exact tt_iret K dX1_isBarredByCopy_30 (by exact b1_t (by first | (simp only [c_1, not_false_eq_true, not_true_eq_false, and_true, true_and, and_false, false_and, and_self, or_true, true_or, or_false, false_or, or_self, if_true, if_false]; done) | grind)) (by first | rfl | (simp [c_1]; done) | (refine congrArg _ ?_; grind [])) rfl
  · skip
    refine tt_aload_n C dX1_isBarredByCopy_10 rfl 0 rfl ?_
    refine tt_get (v := .ref (eA E i 16)) C (oH1 hi) rfl hin1 15 (by decide) (List.mem_of_getElem? (i := 2) (by decide +kernel)) rfl dX1_isBarredByCopy_11 ?_
    refine tt_iload_n C dX1_isBarredByCopy_14 rfl 1 rfl ?_
    refine tt_bipush (v := nI 8) C dX1_isBarredByCopy_15 (by decide) ?_
    refine tt_imul (v := nI (d * 8)) C dX1_isBarredByCopy_17 (pk_mul _ _) ?_
    refine tt_iload_n C dX1_isBarredByCopy_18 rfl 2 rfl ?_
    refine tt_iadd (v := nI (d * 8 + b)) C dX1_isBarredByCopy_19 (nI_add _ _) ?_
    refine tt_ialdB (v := h 16 (d * 8 + b)) C (aH16 hi) (d * 8 + b) rfl (by omega) rfl dX1_isBarredByCopy_20 ?_
    refine tt_iconst (v := nI 1) C dX1_isBarredByCopy_21 (by decide) ?_
    refine tt_icmp_ne C (tgt := 29) dX1_isBarredByCopy_22 (by decide) Iff.rfl (fun c_2 => ?_) (fun c_2 => ?_)
    · skip
      refine tt_iconst (v := nI 0) C dX1_isBarredByCopy_29 (by decide) ?_
      exact tt_iret K dX1_isBarredByCopy_30 (by exact b1_f (by first | (simp only [c_1, c_2, not_false_eq_true, not_true_eq_false, and_true, true_and, and_false, false_and, and_self, or_true, true_or, or_false, false_or, or_self, if_true, if_false]; done) | grind)) (by first | rfl | (simp [c_1, c_2]; done) | (refine congrArg _ ?_; grind [])) rfl
    · skip
      refine tt_iconst (v := nI 1) C dX1_isBarredByCopy_25 (by decide) ?_
      refine tt_goto (tgt := 30) C dX1_isBarredByCopy_26 (by decide) ?_
      exact tt_iret K dX1_isBarredByCopy_30 (by exact b1_t (by first | (simp only [c_1, c_2, not_false_eq_true, not_true_eq_false, and_true, true_and, and_false, false_and, and_self, or_true, true_or, or_false, false_or, or_self, if_true, if_false]; done) | grind)) (by first | rfl | (simp [c_1, c_2]; done) | (refine congrArg _ ?_; grind [])) rfl

set_option maxHeartbeats 4000000 in
set_option maxRecDepth 100000 in
theorem c_X1_levelByCopy (E : EN) (u : U3) (r : R1) (h : HB) (i : Nat) (d : Nat) (b : Nat) (hi : i < 5) (hd : d < 8) (hb : b < 8) : CT E yX1_levelByCopy wsX1_levelByCopy (rmT 0 0) [.ref (eA E i 1), .int (nI d), .int (nI b)] (ub u i h) r (some (.int (h 17 (d * 8 + b)))) (ub u i h) r := by
  refine CT_ofI (cc := cX1_levelByCopy) (nL := 3) (own := RX1) (by decide) rfl rfl rfl (Nat.le_of_ble_eq_true rfl) (fun F C K => ?_)
  have hin1 : ∀ w ∈ u_ws RX1 TX1 17, w ∈ wsX1_levelByCopy := by decide +kernel
  refine tt_to (lv1 := [(0, .ref (eA E i 1)), (1, .int (nI d)), (2, .int (nI b))]) rfl rfl rfl rfl ?_
  refine tt_aload_n C dX1_levelByCopy_0 rfl 0 rfl ?_
  refine tt_get (v := .ref (eA E i 17)) C (oH1 hi) rfl hin1 16 (by decide) (List.mem_of_getElem? (i := 1) (by decide +kernel)) rfl dX1_levelByCopy_1 ?_
  refine tt_iload_n C dX1_levelByCopy_4 rfl 1 rfl ?_
  refine tt_bipush (v := nI 8) C dX1_levelByCopy_5 (by decide) ?_
  refine tt_imul (v := nI (d * 8)) C dX1_levelByCopy_7 (pk_mul _ _) ?_
  refine tt_iload_n C dX1_levelByCopy_8 rfl 2 rfl ?_
  refine tt_iadd (v := nI (d * 8 + b)) C dX1_levelByCopy_9 (nI_add _ _) ?_
  refine tt_ialdB (v := h 17 (d * 8 + b)) C (aH17 hi) (d * 8 + b) rfl (by omega) rfl dX1_levelByCopy_10 ?_
  exact tt_iret K dX1_levelByCopy_11 (by first | rfl | (simp []; done) | grind []) (by first | rfl | (simp []; done) | (refine congrArg _ ?_; grind [])) rfl

def H_addNote (h : HB) (d b : Nat) (t : Int32) (n : Nat) : HB := if n < 20 then up2 (up2 (up2 h 13 (d * 20 + n) t) 14 (d * 20 + n) (nI b)) 12 d (nI (n + 1)) else h
set_option maxHeartbeats 4000000 in
set_option maxRecDepth 100000 in
theorem c_X1_addNote (E : EN) (u : U3) (r : R1) (h : HB) (i : Nat) (d : Nat) (b : Nat) (t : Int32) (n : Nat) (hi : i < 5) (hd : d < 8) (hn : n ≤ 20) (fn : h 12 d = nI n) : CT E yX1_addNote wsX1_addNote (rmT 0 0) [.ref (eA E i 1), .int (nI d), .int (nI b), .int t] (ub u i h) r none (ub u i (H_addNote h d b t n)) r := by
  refine CT_ofV (cc := cX1_addNote) (nL := 5) (own := RX1) (by decide) rfl rfl (Nat.le_of_ble_eq_true rfl) (fun F C K => ?_)
  have hin1 : ∀ w ∈ u_ws RX1 TX1 17, w ∈ wsX1_addNote := by decide +kernel
  refine tt_to (lv1 := [(0, .ref (eA E i 1)), (1, .int (nI d)), (2, .int (nI b)), (3, .int t)]) rfl rfl rfl rfl ?_
  refine tt_aload_n C dX1_addNote_0 rfl 0 rfl ?_
  refine tt_get (v := .ref (eA E i 12)) C (oH1 hi) rfl hin1 11 (by decide) (List.mem_of_getElem? (i := 1) (by decide +kernel)) rfl dX1_addNote_1 ?_
  refine tt_iload_n C dX1_addNote_4 rfl 1 rfl ?_
  refine tt_ialdB (v := nI n) C (aH12 hi) d rfl (by omega) fn dX1_addNote_5 ?_
  refine tt_istore (lv' := [(0, .ref (eA E i 1)), (1, .int (nI d)), (2, .int (nI b)), (3, .int t), (4, .int (nI n))]) C dX1_addNote_6 (by decide) [1, 2, 3, 4, 0] rfl ?_
  refine tt_iload C dX1_addNote_8 4 rfl ?_
  refine tt_bipush (v := nI 20) C dX1_addNote_10 (by decide) ?_
  refine tt_icmp_ge C (tgt := 51) dX1_addNote_12 (by decide) (nI_leI (by omega) (by omega)) (fun c_1 => ?_) (fun c_1 => ?_)
  · skip
    exact tt_vret K dX1_addNote_51 (by first | rfl | (simp [c_1, H_addNote]; done) | (refine congrArg _ ?_; grind [H_addNote])) rfl
  · skip
    refine tt_aload_n C dX1_addNote_15 rfl 0 rfl ?_
    refine tt_get (v := .ref (eA E i 13)) C (oH1 hi) rfl hin1 12 (by decide) (List.mem_of_getElem? (i := 2) (by decide +kernel)) rfl dX1_addNote_16 ?_
    refine tt_iload_n C dX1_addNote_19 rfl 1 rfl ?_
    refine tt_bipush (v := nI 20) C dX1_addNote_20 (by decide) ?_
    refine tt_imul (v := nI (d * 20)) C dX1_addNote_22 (pk_mul _ _) ?_
    refine tt_iload C dX1_addNote_23 4 rfl ?_
    refine tt_iadd (v := nI (d * 20 + n)) C dX1_addNote_25 (nI_add _ _) ?_
    refine tt_iload_n C dX1_addNote_26 rfl 3 rfl ?_
    refine tt_iastB C (aH13 hi) (d * 20 + n) rfl (by omega) dX1_addNote_27 ?_
    generalize e_3 : up2 h 13 (d * 20 + n) t = h_2
    refine tt_aload_n C dX1_addNote_28 rfl 0 rfl ?_
    refine tt_get (v := .ref (eA E i 14)) C (oH1 hi) rfl hin1 13 (by decide) (List.mem_of_getElem? (i := 3) (by decide +kernel)) rfl dX1_addNote_29 ?_
    refine tt_iload_n C dX1_addNote_32 rfl 1 rfl ?_
    refine tt_bipush (v := nI 20) C dX1_addNote_33 (by decide) ?_
    refine tt_imul (v := nI (d * 20)) C dX1_addNote_35 (pk_mul _ _) ?_
    refine tt_iload C dX1_addNote_36 4 rfl ?_
    refine tt_iadd (v := nI (d * 20 + n)) C dX1_addNote_38 (nI_add _ _) ?_
    refine tt_iload_n C dX1_addNote_39 rfl 2 rfl ?_
    refine tt_iastB C (aH14 hi) (d * 20 + n) rfl (by omega) dX1_addNote_40 ?_
    generalize e_5 : up2 h_2 14 (d * 20 + n) (nI b) = h_4
    refine tt_aload_n C dX1_addNote_41 rfl 0 rfl ?_
    refine tt_get (v := .ref (eA E i 12)) C (oH1 hi) rfl hin1 11 (by decide) (List.mem_of_getElem? (i := 1) (by decide +kernel)) rfl dX1_addNote_42 ?_
    refine tt_iload_n C dX1_addNote_45 rfl 1 rfl ?_
    refine tt_iload C dX1_addNote_46 4 rfl ?_
    refine tt_iconst (v := nI 1) C dX1_addNote_48 (by decide) ?_
    refine tt_iadd (v := nI (n + 1)) C dX1_addNote_49 (nI_add _ _) ?_
    refine tt_iastB C (aH12 hi) d rfl (by omega) dX1_addNote_50 ?_
    generalize e_7 : up2 h_4 12 d (nI (n + 1)) = h_6
    exact tt_vret K dX1_addNote_51 (by subst e_7; subst e_5; subst e_3; first | rfl | (simp [c_1, H_addNote]; done) | (refine congrArg _ ?_; grind [H_addNote])) rfl

set_option maxHeartbeats 4000000 in
set_option maxRecDepth 100000 in
theorem c_X1_noteFact (E : EN) (u : U3) (r : R1) (h : HB) (i : Nat) (d : Nat) (j : Nat) (w : Int32) (n : Nat) (hi : i < 5) (hd : d < 8) (hj : j < 2 ^ 31) (hn : n ≤ 20) (fn : h 12 d = nI n) : CT E yX1_noteFact wsX1_noteFact (rmT 0 0) [.ref (eA E i 1), .int (nI d), .int (nI j), .int w] (ub u i h) r (some (.int (if n ≤ j then -1 else if w = 0 then h 13 (d * 20 + j) else h 14 (d * 20 + j)))) (ub u i h) r := by
  refine CT_ofI (cc := cX1_noteFact) (nL := 5) (own := RX1) (by decide) rfl rfl rfl (Nat.le_of_ble_eq_true rfl) (fun F C K => ?_)
  have hin1 : ∀ w ∈ u_ws RX1 TX1 17, w ∈ wsX1_noteFact := by decide +kernel
  refine tt_to (lv1 := [(0, .ref (eA E i 1)), (1, .int (nI d)), (2, .int (nI j)), (3, .int w)]) rfl rfl rfl rfl ?_
  refine tt_iload_n C dX1_noteFact_0 rfl 2 rfl ?_
  refine tt_aload_n C dX1_noteFact_1 rfl 0 rfl ?_
  refine tt_get (v := .ref (eA E i 12)) C (oH1 hi) rfl hin1 11 (by decide) (List.mem_of_getElem? (i := 1) (by decide +kernel)) rfl dX1_noteFact_2 ?_
  refine tt_iload_n C dX1_noteFact_5 rfl 1 rfl ?_
  refine tt_ialdB (v := nI n) C (aH12 hi) d rfl (by omega) fn dX1_noteFact_6 ?_
  refine tt_icmp_lt C (tgt := 12) dX1_noteFact_7 (by decide) (nI_ltI (by omega) (by omega)) (fun c_1 => ?_) (fun c_1 => ?_)
  · skip
    refine tt_iload_n C dX1_noteFact_12 rfl 1 rfl ?_
    refine tt_bipush (v := nI 20) C dX1_noteFact_13 (by decide) ?_
    refine tt_imul (v := nI (d * 20)) C dX1_noteFact_15 (pk_mul _ _) ?_
    refine tt_iload_n C dX1_noteFact_16 rfl 2 rfl ?_
    refine tt_iadd (v := nI (d * 20 + j)) C dX1_noteFact_17 (nI_add _ _) ?_
    refine tt_istore (lv' := [(0, .ref (eA E i 1)), (1, .int (nI d)), (2, .int (nI j)), (3, .int w), (4, .int (nI (d * 20 + j)))]) C dX1_noteFact_18 (by decide) [1, 2, 3, 4, 0] rfl ?_
    refine tt_iload_n C dX1_noteFact_20 rfl 3 rfl ?_
    refine tt_if_ne C (tgt := 34) dX1_noteFact_21 (by decide) Iff.rfl (fun c_2 => ?_) (fun c_2 => ?_)
    · skip
      refine tt_aload_n C dX1_noteFact_34 rfl 0 rfl ?_
      refine tt_get (v := .ref (eA E i 14)) C (oH1 hi) rfl hin1 13 (by decide) (List.mem_of_getElem? (i := 3) (by decide +kernel)) rfl dX1_noteFact_35 ?_
      refine tt_iload C dX1_noteFact_38 4 rfl ?_
      refine tt_ialdB (v := h 14 (d * 20 + j)) C (aH14 hi) (d * 20 + j) rfl (by omega) rfl dX1_noteFact_40 ?_
      exact tt_iret K dX1_noteFact_41 (by first | rfl | (simp [c_1, c_2]; done) | grind []) (by first | rfl | (simp [c_1, c_2]; done) | (refine congrArg _ ?_; grind [])) rfl
    · skip
      refine tt_aload_n C dX1_noteFact_24 rfl 0 rfl ?_
      refine tt_get (v := .ref (eA E i 13)) C (oH1 hi) rfl hin1 12 (by decide) (List.mem_of_getElem? (i := 2) (by decide +kernel)) rfl dX1_noteFact_25 ?_
      refine tt_iload C dX1_noteFact_28 4 rfl ?_
      refine tt_ialdB (v := h 13 (d * 20 + j)) C (aH13 hi) (d * 20 + j) rfl (by omega) rfl dX1_noteFact_30 ?_
      refine tt_goto (tgt := 41) C dX1_noteFact_31 (by decide) ?_
      exact tt_iret K dX1_noteFact_41 (by first | rfl | (simp [c_1, c_2]; done) | grind []) (by first | rfl | (simp [c_1, c_2]; done) | (refine congrArg _ ?_; grind [])) rfl
  · skip
    refine tt_iconst (v := (-1 : Int32)) C dX1_noteFact_10 (by decide) ?_
    exact tt_iret K dX1_noteFact_11 (by first | rfl | (simp [c_1]; done) | grind []) (by first | rfl | (simp [c_1]; done) | (refine congrArg _ ?_; grind [])) rfl

set_option maxHeartbeats 4000000 in
set_option maxRecDepth 100000 in
theorem c_X1_anotherWaits (E : EN) (u : U3) (r : R1) (h : HB) (i : Nat) (d : Nat) (b : Nat) (hi : i < 5) (hd : d < 8) : CT E yX1_anotherWaits wsX1_anotherWaits (rmT 0 0) [.ref (eA E i 1), .int (nI d), .int (nI b)] (ub u i h) r (some (.int (b2i (¬ h 11 d = -1 ∧ ¬ h 11 d = nI b)))) (ub u i h) r := by
  refine CT_ofI (cc := cX1_anotherWaits) (nL := 3) (own := RX1) (by decide) rfl rfl (b2i_z _) (Nat.le_of_ble_eq_true rfl) (fun F C K => ?_)
  have hin1 : ∀ w ∈ u_ws RX1 TX1 17, w ∈ wsX1_anotherWaits := by decide +kernel
  refine tt_to (lv1 := [(0, .ref (eA E i 1)), (1, .int (nI d)), (2, .int (nI b))]) rfl rfl rfl rfl ?_
  refine tt_aload_n C dX1_anotherWaits_0 rfl 0 rfl ?_
  refine tt_get (v := .ref (eA E i 11)) C (oH1 hi) rfl hin1 10 (by decide) (List.mem_of_getElem? (i := 1) (by decide +kernel)) rfl dX1_anotherWaits_1 ?_
  refine tt_iload_n C dX1_anotherWaits_4 rfl 1 rfl ?_
  refine tt_ialdB (v := h 11 d) C (aH11 hi) d rfl (by omega) rfl dX1_anotherWaits_5 ?_
  refine tt_iconst (v := (-1 : Int32)) C dX1_anotherWaits_6 (by decide) ?_
  refine tt_icmp_eq C (tgt := 24) dX1_anotherWaits_7 (by decide) Iff.rfl (fun c_1 => ?_) (fun c_1 => ?_)
  · skip
    refine tt_iconst (v := nI 0) C dX1_anotherWaits_24 (by decide) ?_
    exact tt_iret K dX1_anotherWaits_25 (by exact b1_f (by first | (simp only [c_1, not_false_eq_true, not_true_eq_false, and_true, true_and, and_false, false_and, and_self, or_true, true_or, or_false, false_or, or_self, if_true, if_false]; done) | grind)) (by first | rfl | (simp [c_1]; done) | (refine congrArg _ ?_; grind [])) rfl
  · skip
    refine tt_aload_n C dX1_anotherWaits_10 rfl 0 rfl ?_
    refine tt_get (v := .ref (eA E i 11)) C (oH1 hi) rfl hin1 10 (by decide) (List.mem_of_getElem? (i := 1) (by decide +kernel)) rfl dX1_anotherWaits_11 ?_
    refine tt_iload_n C dX1_anotherWaits_14 rfl 1 rfl ?_
    refine tt_ialdB (v := h 11 d) C (aH11 hi) d rfl (by omega) rfl dX1_anotherWaits_15 ?_
    refine tt_iload_n C dX1_anotherWaits_16 rfl 2 rfl ?_
    refine tt_icmp_eq C (tgt := 24) dX1_anotherWaits_17 (by decide) Iff.rfl (fun c_2 => ?_) (fun c_2 => ?_)
    · skip
      refine tt_iconst (v := nI 0) C dX1_anotherWaits_24 (by decide) ?_
      exact tt_iret K dX1_anotherWaits_25 (by exact b1_f (by first | (simp only [c_1, c_2, not_false_eq_true, not_true_eq_false, and_true, true_and, and_false, false_and, and_self, or_true, true_or, or_false, false_or, or_self, if_true, if_false]; done) | grind)) (by first | rfl | (simp [c_1, c_2]; done) | (refine congrArg _ ?_; grind [])) rfl
    · skip
      refine tt_iconst (v := nI 1) C dX1_anotherWaits_20 (by decide) ?_
      refine tt_goto (tgt := 25) C dX1_anotherWaits_21 (by decide) ?_
      exact tt_iret K dX1_anotherWaits_25 (by exact b1_t (by first | (simp only [c_1, c_2, not_false_eq_true, not_true_eq_false, and_true, true_and, and_false, false_and, and_self, or_true, true_or, or_false, false_or, or_self, if_true, if_false]; done) | grind)) (by first | rfl | (simp [c_1, c_2]; done) | (refine congrArg _ ?_; grind [])) rfl

set_option maxHeartbeats 4000000 in
set_option maxRecDepth 100000 in
theorem c_X1_startWaiting (E : EN) (u : U3) (r : R1) (h : HB) (i : Nat) (d : Nat) (b : Nat) (hi : i < 5) (hd : d < 8) : CT E yX1_startWaiting wsX1_startWaiting (rmT 0 0) [.ref (eA E i 1), .int (nI d), .int (nI b)] (ub u i h) r none (ub u i (up2 h 11 d (nI b))) r := by
  refine CT_ofV (cc := cX1_startWaiting) (nL := 3) (own := RX1) (by decide) rfl rfl (Nat.le_of_ble_eq_true rfl) (fun F C K => ?_)
  have hin1 : ∀ w ∈ u_ws RX1 TX1 17, w ∈ wsX1_startWaiting := by decide +kernel
  refine tt_to (lv1 := [(0, .ref (eA E i 1)), (1, .int (nI d)), (2, .int (nI b))]) rfl rfl rfl rfl ?_
  refine tt_aload_n C dX1_startWaiting_0 rfl 0 rfl ?_
  refine tt_get (v := .ref (eA E i 11)) C (oH1 hi) rfl hin1 10 (by decide) (List.mem_of_getElem? (i := 1) (by decide +kernel)) rfl dX1_startWaiting_1 ?_
  refine tt_iload_n C dX1_startWaiting_4 rfl 1 rfl ?_
  refine tt_iload_n C dX1_startWaiting_5 rfl 2 rfl ?_
  refine tt_iastB C (aH11 hi) d rfl (by omega) dX1_startWaiting_6 ?_
  generalize e_2 : up2 h 11 d (nI b) = h_1
  exact tt_vret K dX1_startWaiting_7 (by subst e_2; first | rfl | (simp []; done) | (refine congrArg _ ?_; grind [])) rfl

set_option maxHeartbeats 4000000 in
set_option maxRecDepth 100000 in
theorem c_X1_endWaiting (E : EN) (u : U3) (r : R1) (h : HB) (i : Nat) (d : Nat) (hi : i < 5) (hd : d < 8) : CT E yX1_endWaiting wsX1_endWaiting (rmT 0 0) [.ref (eA E i 1), .int (nI d)] (ub u i h) r (some (.int (if h 7 d = 0 then -1 else h 11 d))) (ub u i (if h 7 d = 0 then h else up2 h 11 d (-1))) r := by
  refine CT_ofI (cc := cX1_endWaiting) (nL := 3) (own := RX1) (by decide) rfl rfl rfl (Nat.le_of_ble_eq_true rfl) (fun F C K => ?_)
  have hin1 : ∀ w ∈ u_ws RX1 TX1 17, w ∈ wsX1_endWaiting := by decide +kernel
  refine tt_to (lv1 := [(0, .ref (eA E i 1)), (1, .int (nI d))]) rfl rfl rfl rfl ?_
  refine tt_aload_n C dX1_endWaiting_0 rfl 0 rfl ?_
  refine tt_get (v := .ref (eA E i 7)) C (oH1 hi) rfl hin1 6 (by decide) (List.mem_of_getElem? (i := 1) (by decide +kernel)) rfl dX1_endWaiting_1 ?_
  refine tt_iload_n C dX1_endWaiting_4 rfl 1 rfl ?_
  refine tt_ialdB (v := h 7 d) C (aH7 hi) d rfl (by omega) rfl dX1_endWaiting_5 ?_
  refine tt_if_ne C (tgt := 11) dX1_endWaiting_6 (by decide) Iff.rfl (fun c_1 => ?_) (fun c_1 => ?_)
  · skip
    refine tt_aload_n C dX1_endWaiting_11 rfl 0 rfl ?_
    refine tt_get (v := .ref (eA E i 11)) C (oH1 hi) rfl hin1 10 (by decide) (List.mem_of_getElem? (i := 2) (by decide +kernel)) rfl dX1_endWaiting_12 ?_
    refine tt_iload_n C dX1_endWaiting_15 rfl 1 rfl ?_
    refine tt_ialdB (v := h 11 d) C (aH11 hi) d rfl (by omega) rfl dX1_endWaiting_16 ?_
    refine tt_istore_n (lv' := [(0, .ref (eA E i 1)), (1, .int (nI d)), (2, .int (h 11 d))]) C dX1_endWaiting_17 rfl (by decide) [1, 2, 0] rfl ?_
    refine tt_aload_n C dX1_endWaiting_18 rfl 0 rfl ?_
    refine tt_get (v := .ref (eA E i 11)) C (oH1 hi) rfl hin1 10 (by decide) (List.mem_of_getElem? (i := 2) (by decide +kernel)) rfl dX1_endWaiting_19 ?_
    refine tt_iload_n C dX1_endWaiting_22 rfl 1 rfl ?_
    refine tt_iconst (v := (-1 : Int32)) C dX1_endWaiting_23 (by decide) ?_
    refine tt_iastB C (aH11 hi) d rfl (by omega) dX1_endWaiting_24 ?_
    generalize e_3 : up2 h 11 d (-1 : Int32) = h_2
    refine tt_iload_n C dX1_endWaiting_25 rfl 2 rfl ?_
    exact tt_iret K dX1_endWaiting_26 (by subst e_3; first | rfl | (simp [c_1]; done) | grind []) (by subst e_3; first | rfl | (simp [c_1]; done) | (refine congrArg _ ?_; grind [])) rfl
  · skip
    refine tt_iconst (v := (-1 : Int32)) C dX1_endWaiting_9 (by decide) ?_
    exact tt_iret K dX1_endWaiting_10 (by first | rfl | (simp [c_1]; done) | grind []) (by first | rfl | (simp [c_1]; done) | (refine congrArg _ ?_; grind [])) rfl

def H_two (h : HB) (b d m : Nat) : HB := if h 27 (b * 8 + d) = 0 ∧ m < 64 then up2 (up2 (up2 h 26 m (nI (b * 8 + d))) 25 0 (nI (m + 1))) 27 (b * 8 + d) (h 27 (b * 8 + d) + nI 1) else up2 h 27 (b * 8 + d) (h 27 (b * 8 + d) + nI 1)
set_option maxHeartbeats 4000000 in
set_option maxRecDepth 100000 in
theorem c_X5_add (E : EN) (u : U3) (r : R1) (h : HB) (i : Nat) (b : Nat) (d : Nat) (m : Nat) (hi : i < 5) (hb : b < 8) (hd : d < 8) (hm : m ≤ 64) (fm : h 25 0 = nI m) : CT E yX5_add wsX5_add (rmT 0 0) [.ref (eA E i 25), .int (nI b), .int (nI d)] (ub u i h) r none (ub u i (H_two h b d m)) r := by
  refine CT_ofV (cc := cX5_add) (nL := 4) (own := RX5) (by decide) rfl rfl (Nat.le_of_ble_eq_true rfl) (fun F C K => ?_)
  have hin5 : ∀ w ∈ u_ws RX5 TX5 3, w ∈ wsX5_add := by decide +kernel
  refine tt_to (lv1 := [(0, .ref (eA E i 25)), (1, .int (nI b)), (2, .int (nI d))]) rfl rfl rfl rfl ?_
  refine tt_iload_n C dX5_add_0 rfl 1 rfl ?_
  refine tt_bipush (v := nI 8) C dX5_add_1 (by decide) ?_
  refine tt_imul (v := nI (b * 8)) C dX5_add_3 (pk_mul _ _) ?_
  refine tt_iload_n C dX5_add_4 rfl 2 rfl ?_
  refine tt_iadd (v := nI (b * 8 + d)) C dX5_add_5 (nI_add _ _) ?_
  refine tt_istore_n (lv' := [(0, .ref (eA E i 25)), (1, .int (nI b)), (2, .int (nI d)), (3, .int (nI (b * 8 + d)))]) C dX5_add_6 rfl (by decide) [1, 2, 3, 0] rfl ?_
  refine tt_aload_n C dX5_add_7 rfl 0 rfl ?_
  refine tt_get (v := .ref (eA E i 27)) C (oH25 hi) rfl hin5 2 (by decide) (List.mem_of_getElem? (i := 1) (by decide +kernel)) rfl dX5_add_8 ?_
  refine tt_iload_n C dX5_add_11 rfl 3 rfl ?_
  refine tt_ialdB (v := h 27 (b * 8 + d)) C (aH27 hi) (b * 8 + d) rfl (by omega) rfl dX5_add_12 ?_
  refine tt_if_ne C (tgt := 45) dX5_add_13 (by decide) Iff.rfl (fun c_1 => ?_) (fun c_1 => ?_)
  · skip
    refine tt_aload_n C dX5_add_45 rfl 0 rfl ?_
    refine tt_get (v := .ref (eA E i 27)) C (oH25 hi) rfl hin5 2 (by decide) (List.mem_of_getElem? (i := 1) (by decide +kernel)) rfl dX5_add_46 ?_
    refine tt_iload_n C dX5_add_49 rfl 3 rfl ?_
    refine tt_dup2 C dX5_add_50 rfl rfl ?_
    refine tt_ialdB (v := h 27 (b * 8 + d)) C (aH27 hi) (b * 8 + d) rfl (by omega) rfl dX5_add_51 ?_
    refine tt_iconst (v := nI 1) C dX5_add_52 (by decide) ?_
    refine tt_iadd C dX5_add_53 rfl ?_
    refine tt_iastB C (aH27 hi) (b * 8 + d) rfl (by omega) dX5_add_54 ?_
    generalize e_3 : up2 h 27 (b * 8 + d) ((h 27 (b * 8 + d)) + (nI 1)) = h_2
    exact tt_vret K dX5_add_55 (by subst e_3; first | rfl | (simp [c_1, H_two]; done) | (refine congrArg _ ?_; grind [H_two])) rfl
  · skip
    refine tt_aload_n C dX5_add_16 rfl 0 rfl ?_
    refine tt_getI (v := nI m) C (oH25 hi) rfl hin5 0 (by decide) (List.mem_of_getElem? (i := 2) (by decide +kernel)) rfl (ub_v.trans fm) dX5_add_17 ?_
    refine tt_bipush (v := nI 64) C dX5_add_20 (by decide) ?_
    refine tt_icmp_ge C (tgt := 45) dX5_add_22 (by decide) (nI_leI (by omega) (by omega)) (fun c_4 => ?_) (fun c_4 => ?_)
    · skip
      refine tt_aload_n C dX5_add_45 rfl 0 rfl ?_
      refine tt_get (v := .ref (eA E i 27)) C (oH25 hi) rfl hin5 2 (by decide) (List.mem_of_getElem? (i := 1) (by decide +kernel)) rfl dX5_add_46 ?_
      refine tt_iload_n C dX5_add_49 rfl 3 rfl ?_
      refine tt_dup2 C dX5_add_50 rfl rfl ?_
      refine tt_ialdB (v := h 27 (b * 8 + d)) C (aH27 hi) (b * 8 + d) rfl (by omega) rfl dX5_add_51 ?_
      refine tt_iconst (v := nI 1) C dX5_add_52 (by decide) ?_
      refine tt_iadd C dX5_add_53 rfl ?_
      refine tt_iastB C (aH27 hi) (b * 8 + d) rfl (by omega) dX5_add_54 ?_
      generalize e_6 : up2 h 27 (b * 8 + d) ((h 27 (b * 8 + d)) + (nI 1)) = h_5
      exact tt_vret K dX5_add_55 (by subst e_6; first | rfl | (simp [c_1, c_4, H_two]; done) | (refine congrArg _ ?_; grind [H_two])) rfl
    · skip
      refine tt_aload_n C dX5_add_25 rfl 0 rfl ?_
      refine tt_get (v := .ref (eA E i 26)) C (oH25 hi) rfl hin5 1 (by decide) (List.mem_of_getElem? (i := 3) (by decide +kernel)) rfl dX5_add_26 ?_
      refine tt_aload_n C dX5_add_29 rfl 0 rfl ?_
      refine tt_getI (v := nI m) C (oH25 hi) rfl hin5 0 (by decide) (List.mem_of_getElem? (i := 2) (by decide +kernel)) rfl (ub_v.trans fm) dX5_add_30 ?_
      refine tt_iload_n C dX5_add_33 rfl 3 rfl ?_
      refine tt_iastB C (aH26 hi) m rfl (by omega) dX5_add_34 ?_
      generalize e_8 : up2 h 26 m (nI (b * 8 + d)) = h_7
      refine tt_aload_n C dX5_add_35 rfl 0 rfl ?_
      refine tt_dup C dX5_add_36 rfl ?_
      refine tt_getI (v := nI m) C (oH25 hi) rfl hin5 0 (by decide) (List.mem_of_getElem? (i := 2) (by decide +kernel)) rfl (ub_v.trans (by rw [← e_8, up2_n (fun z => absurd z.1 (by decide))]; exact fm)) dX5_add_37 ?_
      refine tt_iconst (v := nI 1) C dX5_add_40 (by decide) ?_
      refine tt_iadd (v := nI (m + 1)) C dX5_add_41 (nI_add _ _) ?_
      refine tt_putIB C (fH25_0 hi) rfl hin5 tyX5 tyX5_ok nmX5 (by decide) (List.mem_of_getElem? (i := 2) (by decide +kernel)) (by decide +kernel) (by decide +kernel) dX5_add_42 ?_
      generalize e_10 : up2 h_7 25 0 (nI (m + 1)) = h_9
      refine tt_aload_n C dX5_add_45 rfl 0 rfl ?_
      refine tt_get (v := .ref (eA E i 27)) C (oH25 hi) rfl hin5 2 (by decide) (List.mem_of_getElem? (i := 1) (by decide +kernel)) rfl dX5_add_46 ?_
      refine tt_iload_n C dX5_add_49 rfl 3 rfl ?_
      refine tt_dup2 C dX5_add_50 rfl rfl ?_
      refine tt_ialdB (v := h 27 (b * 8 + d)) C (aH27 hi) (b * 8 + d) rfl (by omega) (by rw [← e_10, up2_n (fun z => absurd z.1 (by decide)), ← e_8, up2_n (fun z => absurd z.1 (by decide))]) dX5_add_51 ?_
      refine tt_iconst (v := nI 1) C dX5_add_52 (by decide) ?_
      refine tt_iadd C dX5_add_53 rfl ?_
      refine tt_iastB C (aH27 hi) (b * 8 + d) rfl (by omega) dX5_add_54 ?_
      generalize e_12 : up2 h_9 27 (b * 8 + d) ((h 27 (b * 8 + d)) + (nI 1)) = h_11
      exact tt_vret K dX5_add_55 (by subst e_12; subst e_10; subst e_8; first | rfl | (simp [c_1, c_4, H_two]; done) | (refine congrArg _ ?_; grind [H_two])) rfl
