theorem in_ok {x : Int32} {N b : Nat} (hx : vI x (N + 1)) (hN : N < 2 ^ 30) (hb : b < ix x) : ¬ nI b < nI 0 ∧ ¬ x - nI 1 < nI b := by
  obtain ⟨n, hn, rfl⟩ := hx
  rw [show ix (nI n) = n from ix_nI (by omega)] at hb
  exact ⟨nI_pos (by omega), by rw [pk_sub (by omega)]; exact nI_nlt (by omega) (by omega)⟩
abbrev M_shut (h : HB) (d : Nat) : Prop := ¬ h 1 (60 * d + 6) = -1 ∧ h 1 (60 * ix (h 1 (60 * d + 6)) + 8) = h 1 528
def M_askR (h : HB) (b d : Nat) : Nat := if M_shut h d then 1 else if h 1 (60 * d + 7) = nI 1 then M_onR h b d else M_alR h b d
def M_askS (h : HB) (b d : Nat) : HB := if M_shut h d then h else if h 1 (60 * d + 7) = nI 1 then M_onH h b d else M_alH h b d
def M_askH (h : HB) (b d : Nat) (s : Int32) : HB := if ¬ M_askR h b d ≤ 0 then up2 (M_askS h b d) 1 (534 + M_askR h b d) (M_askS h b d 1 (534 + M_askR h b d) + nI 1) else up2 (up2 (M_askS h b d) 1 533 (M_askS h b d 1 533 + s)) 1 (480 + 6 * b + 4) (M_askS h b d 1 (480 + 6 * b + 4) + s)
theorem M_onR_lt (h : HB) (b d : Nat) : M_onR h b d < 6 := by unfold M_onR; (repeat' split) <;> decide
theorem M_alR_lt (h : HB) (b d : Nat) : M_alR h b d < 4 := by unfold M_alR; (repeat' split) <;> decide

set_option maxHeartbeats 4000000 in
set_option maxRecDepth 100000 in
theorem c_X7_ask_B (E : EN) (u : U3) (r : R1) (h : HB) (b : Int32) (d : Int32) (s : Int32) (hc : ¬ ((¬ b < nI 0 ∧ ¬ h 1 530 - nI 1 < b) ∧ (¬ d < nI 0 ∧ ¬ h 1 529 - nI 1 < d) ∧ (¬ s < nI 0 ∧ ¬ nI 1 < s))) : CT E yX7_ask wsX7_ask (rmT 4 91) [.ref (eA E 6 0), .int b, .int d, .int s] (ub u 6 h) r (some (.int (-2))) (ub u 6 h) r := by
  refine CT_ofI (cc := cX7_ask) (nL := 5) (own := RX7) (by decide) rfl rfl rfl (Nat.le_of_ble_eq_true rfl) (fun F C K => ?_)
  refine tt_to (lv1 := [(0, .ref (eA E 6 0)), (1, .int b), (2, .int d), (3, .int s)]) rfl rfl rfl rfl ?_
  refine tt_aload_n C dX7_ask_0 rfl 0 rfl ?_
  refine tt_iload_n C dX7_ask_1 rfl 1 rfl ?_
  refine tt_cVI C (c_X7_isBadge E u r h b) gX7_ask_X7_isBadge rfl ⟨rfl, rfl⟩ 1 (by decide +kernel) ⟨Nat.le_of_ble_eq_true rfl, Nat.le_of_ble_eq_true rfl⟩ rfl oM0 rfl (Nat.le_of_ble_eq_true rfl) dX7_ask_2 rfl ?_
  refine tt_if_eqB C (tgt := 25) dX7_ask_5 (by decide) (fun c_1 => ?_) (fun c_1 => ?_)
  · skip
    refine tt_bipush (v := (-2 : Int32)) C dX7_ask_25 (by decide) ?_
    exact tt_iret K dX7_ask_27 (by first | rfl | (simp [c_1]; done) | grind []) (by first | rfl | (simp [c_1]; done) | (refine congrArg _ ?_; grind [])) rfl
  · skip
    refine tt_aload_n C dX7_ask_8 rfl 0 rfl ?_
    refine tt_iload_n C dX7_ask_9 rfl 2 rfl ?_
    refine tt_cVI C (c_X7_isDoor E u r h d) gX7_ask_X7_isDoor rfl ⟨rfl, rfl⟩ 1 (by decide +kernel) ⟨Nat.le_of_ble_eq_true rfl, Nat.le_of_ble_eq_true rfl⟩ rfl oM0 rfl (Nat.le_of_ble_eq_true rfl) dX7_ask_10 rfl ?_
    refine tt_if_eqB C (tgt := 25) dX7_ask_13 (by decide) (fun c_2 => ?_) (fun c_2 => ?_)
    · skip
      refine tt_bipush (v := (-2 : Int32)) C dX7_ask_25 (by decide) ?_
      exact tt_iret K dX7_ask_27 (by first | rfl | (simp [c_1, c_2]; done) | grind []) (by first | rfl | (simp [c_1, c_2]; done) | (refine congrArg _ ?_; grind [])) rfl
    · skip
      refine tt_iload_n C dX7_ask_16 rfl 3 rfl ?_
      refine tt_iconst (v := nI 0) C dX7_ask_17 (by decide) ?_
      refine tt_iconst (v := nI 1) C dX7_ask_18 (by decide) ?_
      refine tt_cSI C (c_X7_in E (ub u 6 h) r s (nI 0) (nI 1)) gX7_ask_X7_in rfl ⟨rfl, rfl⟩ 3 (by decide +kernel) ⟨Nat.le_of_ble_eq_true rfl, Nat.le_of_ble_eq_true rfl⟩ rfl (Nat.le_of_ble_eq_true rfl) dX7_ask_19 rfl ?_
      refine tt_if_neB C (tgt := 28) dX7_ask_22 (by decide) (fun c_3 => ?_) (fun c_3 => ?_)
      · skip
        exact absurd ⟨c_1, c_2, c_3⟩ hc
      · skip
        refine tt_bipush (v := (-2 : Int32)) C dX7_ask_25 (by decide) ?_
        exact tt_iret K dX7_ask_27 (by first | rfl | (simp [c_1, c_2, c_3]; done) | grind []) (by first | rfl | (simp [c_1, c_2, c_3]; done) | (refine congrArg _ ?_; grind [])) rfl

set_option maxHeartbeats 4000000 in
set_option maxRecDepth 100000 in
theorem c_X7_ask_O (E : EN) (u : U3) (r : R1) (h : HB) (b : Nat) (d : Nat) (s : Int32) (hB : vI (h 1 530) 9) (hD : vI (h 1 529) 9) (hbm : b < ix (h 1 530)) (hdm : d < ix (h 1 529)) (hs : ¬ s < nI 0 ∧ ¬ nI 1 < s) (ho : h 1 (60 * d + 6) = -1 ∨ vI (h 1 (60 * d + 6)) 8) (hm : vI (h 1 540) 65) (hq : PQ (M_move h b d (h 1 528)) b d) (hw : h 1 (60 * d + 9) = -1 ∨ vI (h 1 (60 * d + 9)) 8) (hq2 : PQ (M_move (M_let h b d) (ix (h 1 (60 * d + 9))) d ((M_let h b d) 1 528)) (ix (h 1 (60 * d + 9))) d) (hn : vI (h 1 (60 * d + 19)) 21) (hqa : PQ (M_note h b d) b d) : CT E yX7_ask wsX7_ask (rmT 4 91) [.ref (eA E 6 0), .int (nI b), .int (nI d), .int s] (ub u 6 h) r (some (.int (nI (M_askR h b d)))) (ub u 6 (M_askH h b d s)) r := by
  refine CT_ofI (cc := cX7_ask) (nL := 5) (own := RX7) (by decide) rfl rfl rfl (Nat.le_of_ble_eq_true rfl) (fun F C K => ?_)
  have hin7 : ∀ w ∈ u_ws RX7 TX7 15, w ∈ wsX7_ask := by decide +kernel
  refine tt_to (lv1 := [(0, .ref (eA E 6 0)), (1, .int (nI b)), (2, .int (nI d)), (3, .int s)]) rfl rfl rfl rfl ?_
  have hB' := ix_lt hB (by decide)
  have hD' := ix_lt hD (by decide)
  have hb : b < 8 := by omega
  have hd : d < 8 := by omega
  have hon := M_onR_lt h b d
  have hal := M_alR_lt h b d
  refine tt_aload_n C dX7_ask_0 rfl 0 rfl ?_
  refine tt_iload_n C dX7_ask_1 rfl 1 rfl ?_
  refine tt_cVI C (c_X7_isBadge E u r h (nI b)) gX7_ask_X7_isBadge rfl ⟨rfl, rfl⟩ 1 (by decide +kernel) ⟨Nat.le_of_ble_eq_true rfl, Nat.le_of_ble_eq_true rfl⟩ rfl oM0 rfl (Nat.le_of_ble_eq_true rfl) dX7_ask_2 rfl ?_
  refine tt_if_eqB C (tgt := 25) dX7_ask_5 (by decide) (fun c_1 => ?_) (fun c_1 => ?_)
  · skip
    exact absurd (in_ok hB (by decide) hbm) c_1
  · skip
    refine tt_aload_n C dX7_ask_8 rfl 0 rfl ?_
    refine tt_iload_n C dX7_ask_9 rfl 2 rfl ?_
    refine tt_cVI C (c_X7_isDoor E u r h (nI d)) gX7_ask_X7_isDoor rfl ⟨rfl, rfl⟩ 1 (by decide +kernel) ⟨Nat.le_of_ble_eq_true rfl, Nat.le_of_ble_eq_true rfl⟩ rfl oM0 rfl (Nat.le_of_ble_eq_true rfl) dX7_ask_10 rfl ?_
    refine tt_if_eqB C (tgt := 25) dX7_ask_13 (by decide) (fun c_2 => ?_) (fun c_2 => ?_)
    · skip
      exact absurd (in_ok hD (by decide) hdm) c_2
    · skip
      refine tt_iload_n C dX7_ask_16 rfl 3 rfl ?_
      refine tt_iconst (v := nI 0) C dX7_ask_17 (by decide) ?_
      refine tt_iconst (v := nI 1) C dX7_ask_18 (by decide) ?_
      refine tt_cSI C (c_X7_in E (ub u 6 h) r s (nI 0) (nI 1)) gX7_ask_X7_in rfl ⟨rfl, rfl⟩ 3 (by decide +kernel) ⟨Nat.le_of_ble_eq_true rfl, Nat.le_of_ble_eq_true rfl⟩ rfl (Nat.le_of_ble_eq_true rfl) dX7_ask_19 rfl ?_
      refine tt_if_neB C (tgt := 28) dX7_ask_22 (by decide) (fun c_3 => ?_) (fun c_3 => ?_)
      · skip
        refine tt_aload_n C dX7_ask_28 rfl 0 rfl ?_
        refine tt_aload_n C dX7_ask_29 rfl 0 rfl ?_
        refine tt_iload_n C dX7_ask_30 rfl 2 rfl ?_
        refine tt_bipush (v := nI 6) C dX7_ask_31 (by decide) ?_
        refine tt_cVI C (c_X7_ofDoor E u r h d 6 (by first | with_reducible assumption | omega) (by first | with_reducible assumption | omega)) gX7_ask_X7_ofDoor rfl ⟨rfl, rfl⟩ 2 (by decide +kernel) ⟨Nat.le_of_ble_eq_true rfl, Nat.le_of_ble_eq_true rfl⟩ rfl oM0 rfl (Nat.le_of_ble_eq_true rfl) dX7_ask_33 rfl ?_
        by_cases cl : h 1 (60 * d + 6) = -1
        · skip
          refine tt_to (st1 := [.int (-1), .ref (eA E 6 0)]) rfl rfl rfl (congrArg (fun z => ([.int z, .ref (eA E 6 0)] : List Value)) cl) ?_
          refine tt_cVI C (c_X7_isOpen_N E u r h) gX7_ask_X7_isOpen rfl ⟨rfl, rfl⟩ 1 (by decide +kernel) ⟨Nat.le_of_ble_eq_true rfl, Nat.le_of_ble_eq_true rfl⟩ rfl oM0 rfl (Nat.le_of_ble_eq_true rfl) dX7_ask_36 rfl ?_
          refine tt_if_eqB C (tgt := 46) dX7_ask_39 (by decide) (fun c_4 => ?_) (fun c_4 => ?_)
          · skip
            refine tt_aload_n C dX7_ask_46 rfl 0 rfl ?_
            refine tt_iload_n C dX7_ask_47 rfl 2 rfl ?_
            refine tt_bipush (v := nI 7) C dX7_ask_48 (by decide) ?_
            refine tt_cVI C (c_X7_ofDoor E u r h d 7 (by first | with_reducible assumption | omega) (by first | with_reducible assumption | omega)) gX7_ask_X7_ofDoor rfl ⟨rfl, rfl⟩ 2 (by decide +kernel) ⟨Nat.le_of_ble_eq_true rfl, Nat.le_of_ble_eq_true rfl⟩ rfl oM0 rfl (Nat.le_of_ble_eq_true rfl) dX7_ask_50 rfl ?_
            refine tt_iconst (v := nI 1) C dX7_ask_53 (by decide) ?_
            refine tt_icmp_ne C (tgt := 66) dX7_ask_54 (by decide) Iff.rfl (fun c_5 => ?_) (fun c_5 => ?_)
            · skip
              refine tt_aload_n C dX7_ask_66 rfl 0 rfl ?_
              refine tt_iload_n C dX7_ask_67 rfl 1 rfl ?_
              refine tt_iload_n C dX7_ask_68 rfl 2 rfl ?_
              refine tt_cVI C (c_X7_askAlone E u r h b d (by first | with_reducible assumption | omega) (by first | with_reducible assumption | omega) hm hn hqa) gX7_ask_X7_askAlone rfl ⟨rfl, rfl⟩ 2 (by decide +kernel) ⟨Nat.le_of_ble_eq_true rfl, Nat.le_of_ble_eq_true rfl⟩ rfl oM0 rfl (Nat.le_of_ble_eq_true rfl) dX7_ask_69 rfl ?_
              generalize e_7 : M_alH h b d = h_6
              refine tt_istore (lv' := [(0, .ref (eA E 6 0)), (1, .int (nI b)), (2, .int (nI d)), (3, .int s), (4, .int (nI (M_alR h b d)))]) C dX7_ask_72 (by decide) [1, 2, 3, 4, 0] rfl ?_
              refine tt_iload C dX7_ask_74 4 rfl ?_
              refine tt_if_le C (tgt := 97) dX7_ask_76 (by decide) (nI_le0 (by omega)) (fun c_8 => ?_) (fun c_8 => ?_)
              · skip
                refine tt_aload_n C dX7_ask_97 rfl 0 rfl ?_
                refine tt_get (v := .ref (eA E 6 1)) C oM0 rfl hin7 0 (by decide) (List.mem_of_getElem? (i := 1) (by decide +kernel)) rfl dX7_ask_98 ?_
                refine tt_sipush (v := nI 533) C dX7_ask_101 (by decide) ?_
                refine tt_dup2 C dX7_ask_104 rfl rfl ?_
                refine tt_ialdB (v := h_6 1 533) C aM1 533 rfl (by omega) rfl dX7_ask_105 ?_
                refine tt_iload_n C dX7_ask_106 rfl 3 rfl ?_
                refine tt_iadd C dX7_ask_107 rfl ?_
                refine tt_iastB C aM1 533 rfl (by omega) dX7_ask_108 ?_
                generalize e_10 : up2 h_6 1 533 ((h_6 1 533) + s) = h_9
                refine tt_aload_n C dX7_ask_109 rfl 0 rfl ?_
                refine tt_get (v := .ref (eA E 6 1)) C oM0 rfl hin7 0 (by decide) (List.mem_of_getElem? (i := 1) (by decide +kernel)) rfl dX7_ask_110 ?_
                refine tt_sipush (v := nI 480) C dX7_ask_113 (by decide) ?_
                refine tt_bipush (v := nI 6) C dX7_ask_116 (by decide) ?_
                refine tt_iload_n C dX7_ask_118 rfl 1 rfl ?_
                refine tt_imul (v := nI (6 * b)) C dX7_ask_119 (pk_mul _ _) ?_
                refine tt_iadd (v := nI (480 + (6 * b))) C dX7_ask_120 (nI_add _ _) ?_
                refine tt_iconst (v := nI 4) C dX7_ask_121 (by decide) ?_
                refine tt_iadd (v := nI (480 + (6 * b) + 4)) C dX7_ask_122 (nI_add _ _) ?_
                refine tt_dup2 C dX7_ask_123 rfl rfl ?_
                refine tt_ialdB (v := h_6 1 (480 + (6 * b) + 4)) C aM1 (480 + (6 * b) + 4) rfl (by omega) (by rw [← e_10, up2_n (fun z => absurd z.2 (by omega))]) dX7_ask_124 ?_
                refine tt_iload_n C dX7_ask_125 rfl 3 rfl ?_
                refine tt_iadd C dX7_ask_126 rfl ?_
                refine tt_iastB C aM1 (480 + (6 * b) + 4) rfl (by omega) dX7_ask_127 ?_
                generalize e_12 : up2 h_9 1 (480 + (6 * b) + 4) ((h_6 1 (480 + (6 * b) + 4)) + s) = h_11
                refine tt_iload C dX7_ask_128 4 rfl ?_
                exact tt_iret K dX7_ask_130 (by subst e_12; subst e_10; subst e_7; first | rfl | (unfold M_askR; simp only [M_shut, eq_true c_1, c_1, eq_true c_2, c_2, eq_true c_3, c_3, eq_true cl, cl, eq_true c_4, c_4, eq_true c_5, c_5, eq_true c_8, c_8, not_false_eq_true, not_true_eq_false, and_true, true_and, and_false, false_and, and_self, or_true, true_or, or_false, false_or, or_self, if_true, if_false])) (by subst e_12; subst e_10; subst e_7; refine congrArg _ ?_; simp only [M_askH, M_askS, M_askR, M_shut, eq_true c_1, c_1, eq_true c_2, c_2, eq_true c_3, c_3, eq_true cl, cl, eq_true c_4, c_4, eq_true c_5, c_5, eq_true c_8, c_8, not_false_eq_true, not_true_eq_false, and_true, true_and, and_false, false_and, and_self, or_true, true_or, or_false, false_or, or_self, if_true, if_false]; first | done | rfl | grind) rfl
              · skip
                refine tt_aload_n C dX7_ask_79 rfl 0 rfl ?_
                refine tt_get (v := .ref (eA E 6 1)) C oM0 rfl hin7 0 (by decide) (List.mem_of_getElem? (i := 1) (by decide +kernel)) rfl dX7_ask_80 ?_
                refine tt_sipush (v := nI 534) C dX7_ask_83 (by decide) ?_
                refine tt_iload C dX7_ask_86 4 rfl ?_
                refine tt_iadd (v := nI (534 + (M_alR h b d))) C dX7_ask_88 (nI_add _ _) ?_
                refine tt_dup2 C dX7_ask_89 rfl rfl ?_
                refine tt_ialdB (v := h_6 1 (534 + (M_alR h b d))) C aM1 (534 + (M_alR h b d)) rfl (by omega) rfl dX7_ask_90 ?_
                refine tt_iconst (v := nI 1) C dX7_ask_91 (by decide) ?_
                refine tt_iadd C dX7_ask_92 rfl ?_
                refine tt_iastB C aM1 (534 + (M_alR h b d)) rfl (by omega) dX7_ask_93 ?_
                generalize e_14 : up2 h_6 1 (534 + (M_alR h b d)) ((h_6 1 (534 + (M_alR h b d))) + (nI 1)) = h_13
                refine tt_goto (tgt := 128) C dX7_ask_94 (by decide) ?_
                refine tt_iload C dX7_ask_128 4 rfl ?_
                exact tt_iret K dX7_ask_130 (by subst e_14; subst e_7; first | rfl | (unfold M_askR; simp only [M_shut, eq_true c_1, c_1, eq_true c_2, c_2, eq_true c_3, c_3, eq_true cl, cl, eq_true c_4, c_4, eq_true c_5, c_5, eq_true c_8, c_8, not_false_eq_true, not_true_eq_false, and_true, true_and, and_false, false_and, and_self, or_true, true_or, or_false, false_or, or_self, if_true, if_false])) (by subst e_14; subst e_7; refine congrArg _ ?_; simp only [M_askH, M_askS, M_askR, M_shut, eq_true c_1, c_1, eq_true c_2, c_2, eq_true c_3, c_3, eq_true cl, cl, eq_true c_4, c_4, eq_true c_5, c_5, eq_true c_8, c_8, not_false_eq_true, not_true_eq_false, and_true, true_and, and_false, false_and, and_self, or_true, true_or, or_false, false_or, or_self, if_true, if_false]; first | done | rfl | grind) rfl
            · skip
              refine tt_aload_n C dX7_ask_57 rfl 0 rfl ?_
              refine tt_iload_n C dX7_ask_58 rfl 1 rfl ?_
              refine tt_iload_n C dX7_ask_59 rfl 2 rfl ?_
              refine tt_cVI C (c_X7_askOnline E u r h b d (by first | with_reducible assumption | omega) (by first | with_reducible assumption | omega) hm hq hw hq2) gX7_ask_X7_askOnline rfl ⟨rfl, rfl⟩ 2 (by decide +kernel) ⟨Nat.le_of_ble_eq_true rfl, Nat.le_of_ble_eq_true rfl⟩ rfl oM0 rfl (Nat.le_of_ble_eq_true rfl) dX7_ask_60 rfl ?_
              generalize e_16 : M_onH h b d = h_15
              refine tt_goto (tgt := 72) C dX7_ask_63 (by decide) ?_
              refine tt_istore (lv' := [(0, .ref (eA E 6 0)), (1, .int (nI b)), (2, .int (nI d)), (3, .int s), (4, .int (nI (M_onR h b d)))]) C dX7_ask_72 (by decide) [1, 2, 3, 4, 0] rfl ?_
              refine tt_iload C dX7_ask_74 4 rfl ?_
              refine tt_if_le C (tgt := 97) dX7_ask_76 (by decide) (nI_le0 (by omega)) (fun c_17 => ?_) (fun c_17 => ?_)
              · skip
                refine tt_aload_n C dX7_ask_97 rfl 0 rfl ?_
                refine tt_get (v := .ref (eA E 6 1)) C oM0 rfl hin7 0 (by decide) (List.mem_of_getElem? (i := 1) (by decide +kernel)) rfl dX7_ask_98 ?_
                refine tt_sipush (v := nI 533) C dX7_ask_101 (by decide) ?_
                refine tt_dup2 C dX7_ask_104 rfl rfl ?_
                refine tt_ialdB (v := h_15 1 533) C aM1 533 rfl (by omega) rfl dX7_ask_105 ?_
                refine tt_iload_n C dX7_ask_106 rfl 3 rfl ?_
                refine tt_iadd C dX7_ask_107 rfl ?_
                refine tt_iastB C aM1 533 rfl (by omega) dX7_ask_108 ?_
                generalize e_19 : up2 h_15 1 533 ((h_15 1 533) + s) = h_18
                refine tt_aload_n C dX7_ask_109 rfl 0 rfl ?_
                refine tt_get (v := .ref (eA E 6 1)) C oM0 rfl hin7 0 (by decide) (List.mem_of_getElem? (i := 1) (by decide +kernel)) rfl dX7_ask_110 ?_
                refine tt_sipush (v := nI 480) C dX7_ask_113 (by decide) ?_
                refine tt_bipush (v := nI 6) C dX7_ask_116 (by decide) ?_
                refine tt_iload_n C dX7_ask_118 rfl 1 rfl ?_
                refine tt_imul (v := nI (6 * b)) C dX7_ask_119 (pk_mul _ _) ?_
                refine tt_iadd (v := nI (480 + (6 * b))) C dX7_ask_120 (nI_add _ _) ?_
                refine tt_iconst (v := nI 4) C dX7_ask_121 (by decide) ?_
                refine tt_iadd (v := nI (480 + (6 * b) + 4)) C dX7_ask_122 (nI_add _ _) ?_
                refine tt_dup2 C dX7_ask_123 rfl rfl ?_
                refine tt_ialdB (v := h_15 1 (480 + (6 * b) + 4)) C aM1 (480 + (6 * b) + 4) rfl (by omega) (by rw [← e_19, up2_n (fun z => absurd z.2 (by omega))]) dX7_ask_124 ?_
                refine tt_iload_n C dX7_ask_125 rfl 3 rfl ?_
                refine tt_iadd C dX7_ask_126 rfl ?_
                refine tt_iastB C aM1 (480 + (6 * b) + 4) rfl (by omega) dX7_ask_127 ?_
                generalize e_21 : up2 h_18 1 (480 + (6 * b) + 4) ((h_15 1 (480 + (6 * b) + 4)) + s) = h_20
                refine tt_iload C dX7_ask_128 4 rfl ?_
                exact tt_iret K dX7_ask_130 (by subst e_21; subst e_19; subst e_16; first | rfl | (unfold M_askR; simp only [M_shut, eq_true c_1, c_1, eq_true c_2, c_2, eq_true c_3, c_3, eq_true cl, cl, eq_true c_4, c_4, eq_true c_5, c_5, eq_true c_17, c_17, not_false_eq_true, not_true_eq_false, and_true, true_and, and_false, false_and, and_self, or_true, true_or, or_false, false_or, or_self, if_true, if_false])) (by subst e_21; subst e_19; subst e_16; refine congrArg _ ?_; simp only [M_askH, M_askS, M_askR, M_shut, eq_true c_1, c_1, eq_true c_2, c_2, eq_true c_3, c_3, eq_true cl, cl, eq_true c_4, c_4, eq_true c_5, c_5, eq_true c_17, c_17, not_false_eq_true, not_true_eq_false, and_true, true_and, and_false, false_and, and_self, or_true, true_or, or_false, false_or, or_self, if_true, if_false]; first | done | rfl | grind) rfl
              · skip
                refine tt_aload_n C dX7_ask_79 rfl 0 rfl ?_
                refine tt_get (v := .ref (eA E 6 1)) C oM0 rfl hin7 0 (by decide) (List.mem_of_getElem? (i := 1) (by decide +kernel)) rfl dX7_ask_80 ?_
                refine tt_sipush (v := nI 534) C dX7_ask_83 (by decide) ?_
                refine tt_iload C dX7_ask_86 4 rfl ?_
                refine tt_iadd (v := nI (534 + (M_onR h b d))) C dX7_ask_88 (nI_add _ _) ?_
                refine tt_dup2 C dX7_ask_89 rfl rfl ?_
                refine tt_ialdB (v := h_15 1 (534 + (M_onR h b d))) C aM1 (534 + (M_onR h b d)) rfl (by omega) rfl dX7_ask_90 ?_
                refine tt_iconst (v := nI 1) C dX7_ask_91 (by decide) ?_
                refine tt_iadd C dX7_ask_92 rfl ?_
                refine tt_iastB C aM1 (534 + (M_onR h b d)) rfl (by omega) dX7_ask_93 ?_
                generalize e_23 : up2 h_15 1 (534 + (M_onR h b d)) ((h_15 1 (534 + (M_onR h b d))) + (nI 1)) = h_22
                refine tt_goto (tgt := 128) C dX7_ask_94 (by decide) ?_
                refine tt_iload C dX7_ask_128 4 rfl ?_
                exact tt_iret K dX7_ask_130 (by subst e_23; subst e_16; first | rfl | (unfold M_askR; simp only [M_shut, eq_true c_1, c_1, eq_true c_2, c_2, eq_true c_3, c_3, eq_true cl, cl, eq_true c_4, c_4, eq_true c_5, c_5, eq_true c_17, c_17, not_false_eq_true, not_true_eq_false, and_true, true_and, and_false, false_and, and_self, or_true, true_or, or_false, false_or, or_self, if_true, if_false])) (by subst e_23; subst e_16; refine congrArg _ ?_; simp only [M_askH, M_askS, M_askR, M_shut, eq_true c_1, c_1, eq_true c_2, c_2, eq_true c_3, c_3, eq_true cl, cl, eq_true c_4, c_4, eq_true c_5, c_5, eq_true c_17, c_17, not_false_eq_true, not_true_eq_false, and_true, true_and, and_false, false_and, and_self, or_true, true_or, or_false, false_or, or_self, if_true, if_false]; first | done | rfl | grind) rfl
          · skip
            exact c_4.elim
        · skip
          have hl2 := ho.resolve_left cl
          have hl2' := ix_lt hl2 (by decide)
          refine tt_to (st1 := [.int (nI (ix (h 1 (60 * d + 6)))), .ref (eA E 6 0)]) rfl rfl rfl (congrArg (fun z => ([.int z, .ref (eA E 6 0)] : List Value)) (ix_eq hl2 (by decide))) ?_
          refine tt_cVI C (c_X7_isOpen_D E u r h (ix (h 1 (60 * d + 6))) (by first | with_reducible assumption | omega)) gX7_ask_X7_isOpen rfl ⟨rfl, rfl⟩ 1 (by decide +kernel) ⟨Nat.le_of_ble_eq_true rfl, Nat.le_of_ble_eq_true rfl⟩ rfl oM0 rfl (Nat.le_of_ble_eq_true rfl) dX7_ask_36 rfl ?_
          refine tt_if_eqB C (tgt := 46) dX7_ask_39 (by decide) (fun c_24 => ?_) (fun c_24 => ?_)
          · skip
            refine tt_aload_n C dX7_ask_46 rfl 0 rfl ?_
            refine tt_iload_n C dX7_ask_47 rfl 2 rfl ?_
            refine tt_bipush (v := nI 7) C dX7_ask_48 (by decide) ?_
            refine tt_cVI C (c_X7_ofDoor E u r h d 7 (by first | with_reducible assumption | omega) (by first | with_reducible assumption | omega)) gX7_ask_X7_ofDoor rfl ⟨rfl, rfl⟩ 2 (by decide +kernel) ⟨Nat.le_of_ble_eq_true rfl, Nat.le_of_ble_eq_true rfl⟩ rfl oM0 rfl (Nat.le_of_ble_eq_true rfl) dX7_ask_50 rfl ?_
            refine tt_iconst (v := nI 1) C dX7_ask_53 (by decide) ?_
            refine tt_icmp_ne C (tgt := 66) dX7_ask_54 (by decide) Iff.rfl (fun c_25 => ?_) (fun c_25 => ?_)
            · skip
              refine tt_aload_n C dX7_ask_66 rfl 0 rfl ?_
              refine tt_iload_n C dX7_ask_67 rfl 1 rfl ?_
              refine tt_iload_n C dX7_ask_68 rfl 2 rfl ?_
              refine tt_cVI C (c_X7_askAlone E u r h b d (by first | with_reducible assumption | omega) (by first | with_reducible assumption | omega) hm hn hqa) gX7_ask_X7_askAlone rfl ⟨rfl, rfl⟩ 2 (by decide +kernel) ⟨Nat.le_of_ble_eq_true rfl, Nat.le_of_ble_eq_true rfl⟩ rfl oM0 rfl (Nat.le_of_ble_eq_true rfl) dX7_ask_69 rfl ?_
              generalize e_27 : M_alH h b d = h_26
              refine tt_istore (lv' := [(0, .ref (eA E 6 0)), (1, .int (nI b)), (2, .int (nI d)), (3, .int s), (4, .int (nI (M_alR h b d)))]) C dX7_ask_72 (by decide) [1, 2, 3, 4, 0] rfl ?_
              refine tt_iload C dX7_ask_74 4 rfl ?_
              refine tt_if_le C (tgt := 97) dX7_ask_76 (by decide) (nI_le0 (by omega)) (fun c_28 => ?_) (fun c_28 => ?_)
              · skip
                refine tt_aload_n C dX7_ask_97 rfl 0 rfl ?_
                refine tt_get (v := .ref (eA E 6 1)) C oM0 rfl hin7 0 (by decide) (List.mem_of_getElem? (i := 1) (by decide +kernel)) rfl dX7_ask_98 ?_
                refine tt_sipush (v := nI 533) C dX7_ask_101 (by decide) ?_
                refine tt_dup2 C dX7_ask_104 rfl rfl ?_
                refine tt_ialdB (v := h_26 1 533) C aM1 533 rfl (by omega) rfl dX7_ask_105 ?_
                refine tt_iload_n C dX7_ask_106 rfl 3 rfl ?_
                refine tt_iadd C dX7_ask_107 rfl ?_
                refine tt_iastB C aM1 533 rfl (by omega) dX7_ask_108 ?_
                generalize e_30 : up2 h_26 1 533 ((h_26 1 533) + s) = h_29
                refine tt_aload_n C dX7_ask_109 rfl 0 rfl ?_
                refine tt_get (v := .ref (eA E 6 1)) C oM0 rfl hin7 0 (by decide) (List.mem_of_getElem? (i := 1) (by decide +kernel)) rfl dX7_ask_110 ?_
                refine tt_sipush (v := nI 480) C dX7_ask_113 (by decide) ?_
                refine tt_bipush (v := nI 6) C dX7_ask_116 (by decide) ?_
                refine tt_iload_n C dX7_ask_118 rfl 1 rfl ?_
                refine tt_imul (v := nI (6 * b)) C dX7_ask_119 (pk_mul _ _) ?_
                refine tt_iadd (v := nI (480 + (6 * b))) C dX7_ask_120 (nI_add _ _) ?_
                refine tt_iconst (v := nI 4) C dX7_ask_121 (by decide) ?_
                refine tt_iadd (v := nI (480 + (6 * b) + 4)) C dX7_ask_122 (nI_add _ _) ?_
                refine tt_dup2 C dX7_ask_123 rfl rfl ?_
                refine tt_ialdB (v := h_26 1 (480 + (6 * b) + 4)) C aM1 (480 + (6 * b) + 4) rfl (by omega) (by rw [← e_30, up2_n (fun z => absurd z.2 (by omega))]) dX7_ask_124 ?_
                refine tt_iload_n C dX7_ask_125 rfl 3 rfl ?_
                refine tt_iadd C dX7_ask_126 rfl ?_
                refine tt_iastB C aM1 (480 + (6 * b) + 4) rfl (by omega) dX7_ask_127 ?_
                generalize e_32 : up2 h_29 1 (480 + (6 * b) + 4) ((h_26 1 (480 + (6 * b) + 4)) + s) = h_31
                refine tt_iload C dX7_ask_128 4 rfl ?_
                exact tt_iret K dX7_ask_130 (by subst e_32; subst e_30; subst e_27; first | rfl | (unfold M_askR; simp only [M_shut, eq_true c_1, c_1, eq_true c_2, c_2, eq_true c_3, c_3, eq_true cl, cl, eq_true c_24, c_24, eq_true c_25, c_25, eq_true c_28, c_28, not_false_eq_true, not_true_eq_false, and_true, true_and, and_false, false_and, and_self, or_true, true_or, or_false, false_or, or_self, if_true, if_false])) (by subst e_32; subst e_30; subst e_27; refine congrArg _ ?_; simp only [M_askH, M_askS, M_askR, M_shut, eq_true c_1, c_1, eq_true c_2, c_2, eq_true c_3, c_3, eq_true cl, cl, eq_true c_24, c_24, eq_true c_25, c_25, eq_true c_28, c_28, not_false_eq_true, not_true_eq_false, and_true, true_and, and_false, false_and, and_self, or_true, true_or, or_false, false_or, or_self, if_true, if_false]; first | done | rfl | grind) rfl
              · skip
                refine tt_aload_n C dX7_ask_79 rfl 0 rfl ?_
                refine tt_get (v := .ref (eA E 6 1)) C oM0 rfl hin7 0 (by decide) (List.mem_of_getElem? (i := 1) (by decide +kernel)) rfl dX7_ask_80 ?_
                refine tt_sipush (v := nI 534) C dX7_ask_83 (by decide) ?_
                refine tt_iload C dX7_ask_86 4 rfl ?_
                refine tt_iadd (v := nI (534 + (M_alR h b d))) C dX7_ask_88 (nI_add _ _) ?_
                refine tt_dup2 C dX7_ask_89 rfl rfl ?_
                refine tt_ialdB (v := h_26 1 (534 + (M_alR h b d))) C aM1 (534 + (M_alR h b d)) rfl (by omega) rfl dX7_ask_90 ?_
                refine tt_iconst (v := nI 1) C dX7_ask_91 (by decide) ?_
                refine tt_iadd C dX7_ask_92 rfl ?_
                refine tt_iastB C aM1 (534 + (M_alR h b d)) rfl (by omega) dX7_ask_93 ?_
                generalize e_34 : up2 h_26 1 (534 + (M_alR h b d)) ((h_26 1 (534 + (M_alR h b d))) + (nI 1)) = h_33
                refine tt_goto (tgt := 128) C dX7_ask_94 (by decide) ?_
                refine tt_iload C dX7_ask_128 4 rfl ?_
                exact tt_iret K dX7_ask_130 (by subst e_34; subst e_27; first | rfl | (unfold M_askR; simp only [M_shut, eq_true c_1, c_1, eq_true c_2, c_2, eq_true c_3, c_3, eq_true cl, cl, eq_true c_24, c_24, eq_true c_25, c_25, eq_true c_28, c_28, not_false_eq_true, not_true_eq_false, and_true, true_and, and_false, false_and, and_self, or_true, true_or, or_false, false_or, or_self, if_true, if_false])) (by subst e_34; subst e_27; refine congrArg _ ?_; simp only [M_askH, M_askS, M_askR, M_shut, eq_true c_1, c_1, eq_true c_2, c_2, eq_true c_3, c_3, eq_true cl, cl, eq_true c_24, c_24, eq_true c_25, c_25, eq_true c_28, c_28, not_false_eq_true, not_true_eq_false, and_true, true_and, and_false, false_and, and_self, or_true, true_or, or_false, false_or, or_self, if_true, if_false]; first | done | rfl | grind) rfl
            · skip
              refine tt_aload_n C dX7_ask_57 rfl 0 rfl ?_
              refine tt_iload_n C dX7_ask_58 rfl 1 rfl ?_
              refine tt_iload_n C dX7_ask_59 rfl 2 rfl ?_
              refine tt_cVI C (c_X7_askOnline E u r h b d (by first | with_reducible assumption | omega) (by first | with_reducible assumption | omega) hm hq hw hq2) gX7_ask_X7_askOnline rfl ⟨rfl, rfl⟩ 2 (by decide +kernel) ⟨Nat.le_of_ble_eq_true rfl, Nat.le_of_ble_eq_true rfl⟩ rfl oM0 rfl (Nat.le_of_ble_eq_true rfl) dX7_ask_60 rfl ?_
              generalize e_36 : M_onH h b d = h_35
              refine tt_goto (tgt := 72) C dX7_ask_63 (by decide) ?_
              refine tt_istore (lv' := [(0, .ref (eA E 6 0)), (1, .int (nI b)), (2, .int (nI d)), (3, .int s), (4, .int (nI (M_onR h b d)))]) C dX7_ask_72 (by decide) [1, 2, 3, 4, 0] rfl ?_
              refine tt_iload C dX7_ask_74 4 rfl ?_
              refine tt_if_le C (tgt := 97) dX7_ask_76 (by decide) (nI_le0 (by omega)) (fun c_37 => ?_) (fun c_37 => ?_)
              · skip
                refine tt_aload_n C dX7_ask_97 rfl 0 rfl ?_
                refine tt_get (v := .ref (eA E 6 1)) C oM0 rfl hin7 0 (by decide) (List.mem_of_getElem? (i := 1) (by decide +kernel)) rfl dX7_ask_98 ?_
                refine tt_sipush (v := nI 533) C dX7_ask_101 (by decide) ?_
                refine tt_dup2 C dX7_ask_104 rfl rfl ?_
                refine tt_ialdB (v := h_35 1 533) C aM1 533 rfl (by omega) rfl dX7_ask_105 ?_
                refine tt_iload_n C dX7_ask_106 rfl 3 rfl ?_
                refine tt_iadd C dX7_ask_107 rfl ?_
                refine tt_iastB C aM1 533 rfl (by omega) dX7_ask_108 ?_
                generalize e_39 : up2 h_35 1 533 ((h_35 1 533) + s) = h_38
                refine tt_aload_n C dX7_ask_109 rfl 0 rfl ?_
                refine tt_get (v := .ref (eA E 6 1)) C oM0 rfl hin7 0 (by decide) (List.mem_of_getElem? (i := 1) (by decide +kernel)) rfl dX7_ask_110 ?_
                refine tt_sipush (v := nI 480) C dX7_ask_113 (by decide) ?_
                refine tt_bipush (v := nI 6) C dX7_ask_116 (by decide) ?_
                refine tt_iload_n C dX7_ask_118 rfl 1 rfl ?_
                refine tt_imul (v := nI (6 * b)) C dX7_ask_119 (pk_mul _ _) ?_
                refine tt_iadd (v := nI (480 + (6 * b))) C dX7_ask_120 (nI_add _ _) ?_
                refine tt_iconst (v := nI 4) C dX7_ask_121 (by decide) ?_
                refine tt_iadd (v := nI (480 + (6 * b) + 4)) C dX7_ask_122 (nI_add _ _) ?_
                refine tt_dup2 C dX7_ask_123 rfl rfl ?_
                refine tt_ialdB (v := h_35 1 (480 + (6 * b) + 4)) C aM1 (480 + (6 * b) + 4) rfl (by omega) (by rw [← e_39, up2_n (fun z => absurd z.2 (by omega))]) dX7_ask_124 ?_
                refine tt_iload_n C dX7_ask_125 rfl 3 rfl ?_
                refine tt_iadd C dX7_ask_126 rfl ?_
                refine tt_iastB C aM1 (480 + (6 * b) + 4) rfl (by omega) dX7_ask_127 ?_
                generalize e_41 : up2 h_38 1 (480 + (6 * b) + 4) ((h_35 1 (480 + (6 * b) + 4)) + s) = h_40
                refine tt_iload C dX7_ask_128 4 rfl ?_
                exact tt_iret K dX7_ask_130 (by subst e_41; subst e_39; subst e_36; first | rfl | (unfold M_askR; simp only [M_shut, eq_true c_1, c_1, eq_true c_2, c_2, eq_true c_3, c_3, eq_true cl, cl, eq_true c_24, c_24, eq_true c_25, c_25, eq_true c_37, c_37, not_false_eq_true, not_true_eq_false, and_true, true_and, and_false, false_and, and_self, or_true, true_or, or_false, false_or, or_self, if_true, if_false])) (by subst e_41; subst e_39; subst e_36; refine congrArg _ ?_; simp only [M_askH, M_askS, M_askR, M_shut, eq_true c_1, c_1, eq_true c_2, c_2, eq_true c_3, c_3, eq_true cl, cl, eq_true c_24, c_24, eq_true c_25, c_25, eq_true c_37, c_37, not_false_eq_true, not_true_eq_false, and_true, true_and, and_false, false_and, and_self, or_true, true_or, or_false, false_or, or_self, if_true, if_false]; first | done | rfl | grind) rfl
              · skip
                refine tt_aload_n C dX7_ask_79 rfl 0 rfl ?_
                refine tt_get (v := .ref (eA E 6 1)) C oM0 rfl hin7 0 (by decide) (List.mem_of_getElem? (i := 1) (by decide +kernel)) rfl dX7_ask_80 ?_
                refine tt_sipush (v := nI 534) C dX7_ask_83 (by decide) ?_
                refine tt_iload C dX7_ask_86 4 rfl ?_
                refine tt_iadd (v := nI (534 + (M_onR h b d))) C dX7_ask_88 (nI_add _ _) ?_
                refine tt_dup2 C dX7_ask_89 rfl rfl ?_
                refine tt_ialdB (v := h_35 1 (534 + (M_onR h b d))) C aM1 (534 + (M_onR h b d)) rfl (by omega) rfl dX7_ask_90 ?_
                refine tt_iconst (v := nI 1) C dX7_ask_91 (by decide) ?_
                refine tt_iadd C dX7_ask_92 rfl ?_
                refine tt_iastB C aM1 (534 + (M_onR h b d)) rfl (by omega) dX7_ask_93 ?_
                generalize e_43 : up2 h_35 1 (534 + (M_onR h b d)) ((h_35 1 (534 + (M_onR h b d))) + (nI 1)) = h_42
                refine tt_goto (tgt := 128) C dX7_ask_94 (by decide) ?_
                refine tt_iload C dX7_ask_128 4 rfl ?_
                exact tt_iret K dX7_ask_130 (by subst e_43; subst e_36; first | rfl | (unfold M_askR; simp only [M_shut, eq_true c_1, c_1, eq_true c_2, c_2, eq_true c_3, c_3, eq_true cl, cl, eq_true c_24, c_24, eq_true c_25, c_25, eq_true c_37, c_37, not_false_eq_true, not_true_eq_false, and_true, true_and, and_false, false_and, and_self, or_true, true_or, or_false, false_or, or_self, if_true, if_false])) (by subst e_43; subst e_36; refine congrArg _ ?_; simp only [M_askH, M_askS, M_askR, M_shut, eq_true c_1, c_1, eq_true c_2, c_2, eq_true c_3, c_3, eq_true cl, cl, eq_true c_24, c_24, eq_true c_25, c_25, eq_true c_37, c_37, not_false_eq_true, not_true_eq_false, and_true, true_and, and_false, false_and, and_self, or_true, true_or, or_false, false_or, or_self, if_true, if_false]; first | done | rfl | grind) rfl
          · skip
            refine tt_iconst (v := nI 1) C dX7_ask_42 (by decide) ?_
            refine tt_goto (tgt := 72) C dX7_ask_43 (by decide) ?_
            refine tt_istore (lv' := [(0, .ref (eA E 6 0)), (1, .int (nI b)), (2, .int (nI d)), (3, .int s), (4, .int (nI 1))]) C dX7_ask_72 (by decide) [1, 2, 3, 4, 0] rfl ?_
            refine tt_iload C dX7_ask_74 4 rfl ?_
            refine tt_if_le C (tgt := 97) dX7_ask_76 (by decide) (nI_le0 (by omega)) (fun c_44 => ?_) (fun c_44 => ?_)
            · skip
              exact absurd c_44 (by decide)
            · skip
              refine tt_aload_n C dX7_ask_79 rfl 0 rfl ?_
              refine tt_get (v := .ref (eA E 6 1)) C oM0 rfl hin7 0 (by decide) (List.mem_of_getElem? (i := 1) (by decide +kernel)) rfl dX7_ask_80 ?_
              refine tt_sipush (v := nI 534) C dX7_ask_83 (by decide) ?_
              refine tt_iload C dX7_ask_86 4 rfl ?_
              refine tt_iadd (v := nI (534 + 1)) C dX7_ask_88 (nI_add _ _) ?_
              refine tt_dup2 C dX7_ask_89 rfl rfl ?_
              refine tt_ialdB (v := h 1 (534 + 1)) C aM1 (534 + 1) rfl (by omega) rfl dX7_ask_90 ?_
              refine tt_iconst (v := nI 1) C dX7_ask_91 (by decide) ?_
              refine tt_iadd C dX7_ask_92 rfl ?_
              refine tt_iastB C aM1 (534 + 1) rfl (by omega) dX7_ask_93 ?_
              generalize e_46 : up2 h 1 (534 + 1) ((h 1 (534 + 1)) + (nI 1)) = h_45
              refine tt_goto (tgt := 128) C dX7_ask_94 (by decide) ?_
              refine tt_iload C dX7_ask_128 4 rfl ?_
              exact tt_iret K dX7_ask_130 (by subst e_46; first | rfl | (unfold M_askR; simp only [M_shut, eq_true c_1, c_1, eq_true c_2, c_2, eq_true c_3, c_3, eq_true cl, cl, eq_true c_24, c_24, eq_true c_44, c_44, not_false_eq_true, not_true_eq_false, and_true, true_and, and_false, false_and, and_self, or_true, true_or, or_false, false_or, or_self, if_true, if_false])) (by subst e_46; refine congrArg _ ?_; simp only [M_askH, M_askS, M_askR, M_shut, eq_true c_1, c_1, eq_true c_2, c_2, eq_true c_3, c_3, eq_true cl, cl, eq_true c_24, c_24, eq_true c_44, c_44, not_false_eq_true, not_true_eq_false, and_true, true_and, and_false, false_and, and_self, or_true, true_or, or_false, false_or, or_self, if_true, if_false]; first | done | rfl | grind) rfl
      · skip
        exact absurd hs c_3
