def PQ (h : HB) (b d : Nat) : Prop := pfF (M_p0 h b d) b d 66 0 < 64
theorem M_move_n {h : HB} {b d : Nat} {w : Int32} {j : Nat} (hj : j ≠ 531 ∧ j ≠ 480 + 6 * b + 2 ∧ j ≠ 480 + 6 * b + 3) : M_move h b d w 1 j = h 1 j := by
  unfold M_move
  rw [up2_n (fun z => hj.2.2 z.2), up2_n (fun z => hj.2.1 z.2), up2_n (fun z => hj.1 z.2)]
theorem M_move_k {h : HB} {b d : Nat} {w : Int32} {k j : Nat} (hk : k ≠ 1) : M_move h b d w k j = h k j := by
  unfold M_move
  rw [up2_n (fun z => hk z.1), up2_n (fun z => hk z.1), up2_n (fun z => hk z.1)]
theorem M_pass_k {h : HB} {b d k j : Nat} (hk : k ≠ 1) : M_pass h b d k j = h k j := by
  unfold M_pass M_p1 M_p0
  split <;> simp [up2, hk]
theorem M_p0_n {h : HB} {b d j : Nat} (hj : j ≠ 60 * d + 8 ∧ j ≠ 534 ∧ j ≠ 480 + 6 * b + 5) : M_p0 h b d 1 j = h 1 j := by
  unfold M_p0
  rw [up2_n (fun z => hj.2.2 z.2), up2_n (fun z => hj.2.1 z.2), up2_n (fun z => hj.1 z.2)]
theorem M_p1_n {h : HB} {b d q j : Nat} (hj : j < 540) : M_p1 h b d q 1 j = h 1 j := by
  unfold M_p1
  split
  · rw [up2_n (fun z => by omega), up2_n (fun z => by omega), up2_n (fun z => by omega), up2_n (fun z => by omega), up2_n (fun z => by omega)]
  · rw [up2_n (fun z => by omega)]
theorem M_pass_n {h : HB} {b d j : Nat} (hj : j < 540 ∧ j ≠ 60 * d + 8 ∧ j ≠ 534 ∧ j ≠ 480 + 6 * b + 5) : M_pass h b d 1 j = h 1 j := by
  unfold M_pass
  rw [M_p1_n hj.1, M_p0_n hj.2]
theorem M_pass_m {h : HB} {b d : Nat} (hb : b < 8) (hd : d < 8) (hm : vI (h 1 540) 65) (hq : PQ h b d) : vI (M_pass h b d 1 540) 65 := by
  have hm' := ix_lt hm (by decide)
  have e5 : (M_p0 h b d) 1 540 = h 1 540 := M_p0_n (by omega)
  unfold M_pass M_p1
  split
  · next hc =>
    rw [e5] at hc ⊢
    rw [up2_n (fun z => by omega), up2_s]
    have : pfF (M_p0 h b d) b d 66 0 < 64 := hq
    exact vI_nI (by omega)
  · rw [up2_n (fun z => by omega), e5]
    exact hm
def M_let (h : HB) (b d : Nat) : HB := M_pass (M_move h b d (h 1 528)) b d
theorem M_let_n {h : HB} {b d j : Nat} (hj : j < 540 ∧ j ≠ 60 * d + 8 ∧ j ≠ 534 ∧ j ≠ 480 + 6 * b + 5 ∧ j ≠ 531 ∧ j ≠ 480 + 6 * b + 2 ∧ j ≠ 480 + 6 * b + 3) : M_let h b d 1 j = h 1 j := by
  unfold M_let
  rw [M_pass_n ⟨hj.1, hj.2.1, hj.2.2.1, hj.2.2.2.1⟩, M_move_n hj.2.2.2.2]
theorem M_let_m {h : HB} {b d : Nat} (hb : b < 8) (hd : d < 8) (hm : vI (h 1 540) 65) (hq : PQ (M_move h b d (h 1 528)) b d) : vI (M_let h b d 1 540) 65 := M_pass_m hb hd (by rw [M_move_n (by omega)]; exact hm) hq

set_option maxHeartbeats 4000000 in
set_option maxRecDepth 100000 in
theorem c_X7_let (E : EN) (u : U3) (r : R1) (h : HB) (b : Nat) (d : Nat) (hb : b < 8) (hd : d < 8) (hm : vI (h 1 540) 65) (hq : PQ (M_move h b d (h 1 528)) b d) : CT E yX7_let wsX7_let (rmT 2 45) [.ref (eA E 6 0), .int (nI b), .int (nI d)] (ub u 6 h) r none (ub u 6 (M_let h b d)) r := by
  refine CT_ofV (cc := cX7_let) (nL := 3) (own := RX7) (by decide) rfl rfl (Nat.le_of_ble_eq_true rfl) (fun F C K => ?_)
  have hin7 : ∀ w ∈ u_ws RX7 TX7 15, w ∈ wsX7_let := by decide +kernel
  refine tt_to (lv1 := [(0, .ref (eA E 6 0)), (1, .int (nI b)), (2, .int (nI d))]) rfl rfl rfl rfl ?_
  refine tt_aload_n C dX7_let_0 rfl 0 rfl ?_
  refine tt_iload_n C dX7_let_1 rfl 1 rfl ?_
  refine tt_iload_n C dX7_let_2 rfl 2 rfl ?_
  refine tt_aload_n C dX7_let_3 rfl 0 rfl ?_
  refine tt_get (v := .ref (eA E 6 1)) C oM0 rfl hin7 0 (by decide) (List.mem_of_getElem? (i := 1) (by decide +kernel)) rfl dX7_let_4 ?_
  refine tt_sipush (v := nI 528) C dX7_let_7 (by decide) ?_
  refine tt_ialdB (v := h 1 528) C aM1 528 rfl (by omega) rfl dX7_let_10 ?_
  refine tt_cVV C (c_X7_move E u r h b d (h 1 528) hb hd) gX7_let_X7_move rfl ⟨rfl, rfl⟩ 3 (by decide +kernel) ⟨Nat.le_of_ble_eq_true rfl, Nat.le_of_ble_eq_true rfl⟩ rfl oM0 rfl (Nat.le_of_ble_eq_true rfl) dX7_let_11 rfl ?_
  generalize e_2 : M_move h b d (h 1 528) = h_1
  refine tt_aload_n C dX7_let_14 rfl 0 rfl ?_
  refine tt_iload_n C dX7_let_15 rfl 1 rfl ?_
  refine tt_iload_n C dX7_let_16 rfl 2 rfl ?_
  refine tt_cVV C (c_X7_pass E u r h_1 b d hb hd (by rw [show h_1 1 540 = h 1 540 from (by rw [← e_2, M_move_n (by omega)])]; first | assumption | exact vI_nI (by omega)) (by rw [← e_2]; exact hq)) gX7_let_X7_pass rfl ⟨rfl, rfl⟩ 2 (by decide +kernel) ⟨Nat.le_of_ble_eq_true rfl, Nat.le_of_ble_eq_true rfl⟩ rfl oM0 rfl (Nat.le_of_ble_eq_true rfl) dX7_let_17 rfl ?_
  generalize e_4 : M_pass h_1 b d = h_3
  exact tt_vret K dX7_let_20 (by subst e_4; subst e_2; first | rfl | (simp []; done) | (refine congrArg _ ?_; grind [])) rfl

def M_onR (h : HB) (b d : Nat) : Nat := if h 1 (60 * d + 1) = 0 then 0 else if h 1 (480 + 6 * b + 1) = nI 1 then 2 else if ¬ M_lev h d ≤ h 1 (480 + 6 * b + 0) then 3 else if h 1 (60 * d + 4) = nI 2 ∧ ¬ h 1 (480 + 6 * b + 2) = h 1 (60 * d + 0) then 4 else if h 1 (60 * d + 5) = nI 1 ∧ (h 1 (60 * d + 9) = -1 ∨ h 1 (60 * d + 9) = nI b) then 5 else 0
def M_onH (h : HB) (b d : Nat) : HB := if M_onR h b d = 5 then up2 h 1 (60 * d + 9) (nI b) else if ¬ M_onR h b d = 0 then h else if h 1 (60 * d + 1) = 0 then M_let h b d else if h 1 (60 * d + 5) = nI 1 then up2 (M_let (M_let h b d) (ix (h 1 (60 * d + 9))) d) 1 (60 * d + 9) (-1) else M_let h b d

set_option maxHeartbeats 4000000 in
set_option maxRecDepth 100000 in
theorem c_X7_askOnline (E : EN) (u : U3) (r : R1) (h : HB) (b : Nat) (d : Nat) (hb : b < 8) (hd : d < 8) (hm : vI (h 1 540) 65) (hq : PQ (M_move h b d (h 1 528)) b d) (hw : h 1 (60 * d + 9) = -1 ∨ vI (h 1 (60 * d + 9)) 8) (hq2 : PQ (M_move (M_let h b d) (ix (h 1 (60 * d + 9))) d ((M_let h b d) 1 528)) (ix (h 1 (60 * d + 9))) d) : CT E yX7_askOnline wsX7_askOnline (rmT 3 67) [.ref (eA E 6 0), .int (nI b), .int (nI d)] (ub u 6 h) r (some (.int (nI (M_onR h b d)))) (ub u 6 (M_onH h b d)) r := by
  refine CT_ofI (cc := cX7_askOnline) (nL := 5) (own := RX7) (by decide) rfl rfl rfl (Nat.le_of_ble_eq_true rfl) (fun F C K => ?_)
  have hin7 : ∀ w ∈ u_ws RX7 TX7 15, w ∈ wsX7_askOnline := by decide +kernel
  refine tt_to (lv1 := [(0, .ref (eA E 6 0)), (1, .int (nI b)), (2, .int (nI d))]) rfl rfl rfl rfl ?_
  refine tt_aload_n C dX7_askOnline_0 rfl 0 rfl ?_
  refine tt_iload_n C dX7_askOnline_1 rfl 2 rfl ?_
  refine tt_iconst (v := nI 1) C dX7_askOnline_2 (by decide) ?_
  refine tt_cVI C (c_X7_ofDoor E u r h d 1 hd (by first | assumption | omega)) gX7_askOnline_X7_ofDoor rfl ⟨rfl, rfl⟩ 2 (by decide +kernel) ⟨Nat.le_of_ble_eq_true rfl, Nat.le_of_ble_eq_true rfl⟩ rfl oM0 rfl (Nat.le_of_ble_eq_true rfl) dX7_askOnline_3 rfl ?_
  refine tt_if_ne C (tgt := 17) dX7_askOnline_6 (by decide) Iff.rfl (fun c_1 => ?_) (fun c_1 => ?_)
  · skip
    refine tt_aload_n C dX7_askOnline_17 rfl 0 rfl ?_
    refine tt_iload_n C dX7_askOnline_18 rfl 1 rfl ?_
    refine tt_iconst (v := nI 1) C dX7_askOnline_19 (by decide) ?_
    refine tt_cVI C (c_X7_ofBadge E u r h b 1 hb (by first | assumption | omega)) gX7_askOnline_X7_ofBadge rfl ⟨rfl, rfl⟩ 2 (by decide +kernel) ⟨Nat.le_of_ble_eq_true rfl, Nat.le_of_ble_eq_true rfl⟩ rfl oM0 rfl (Nat.le_of_ble_eq_true rfl) dX7_askOnline_20 rfl ?_
    refine tt_iconst (v := nI 1) C dX7_askOnline_23 (by decide) ?_
    refine tt_icmp_ne C (tgt := 29) dX7_askOnline_24 (by decide) Iff.rfl (fun c_2 => ?_) (fun c_2 => ?_)
    · skip
      refine tt_aload_n C dX7_askOnline_29 rfl 0 rfl ?_
      refine tt_iload_n C dX7_askOnline_30 rfl 1 rfl ?_
      refine tt_iconst (v := nI 0) C dX7_askOnline_31 (by decide) ?_
      refine tt_cVI C (c_X7_ofBadge E u r h b 0 hb (by first | assumption | omega)) gX7_askOnline_X7_ofBadge rfl ⟨rfl, rfl⟩ 2 (by decide +kernel) ⟨Nat.le_of_ble_eq_true rfl, Nat.le_of_ble_eq_true rfl⟩ rfl oM0 rfl (Nat.le_of_ble_eq_true rfl) dX7_askOnline_32 rfl ?_
      refine tt_aload_n C dX7_askOnline_35 rfl 0 rfl ?_
      refine tt_iload_n C dX7_askOnline_36 rfl 2 rfl ?_
      refine tt_cVI C (c_X7_levelOf E u r h d hd) gX7_askOnline_X7_levelOf rfl ⟨rfl, rfl⟩ 1 (by decide +kernel) ⟨Nat.le_of_ble_eq_true rfl, Nat.le_of_ble_eq_true rfl⟩ rfl oM0 rfl (Nat.le_of_ble_eq_true rfl) dX7_askOnline_37 rfl ?_
      refine tt_icmp_ge C (tgt := 45) dX7_askOnline_40 (by decide) Iff.rfl (fun c_3 => ?_) (fun c_3 => ?_)
      · skip
        refine tt_aload_n C dX7_askOnline_45 rfl 0 rfl ?_
        refine tt_iload_n C dX7_askOnline_46 rfl 2 rfl ?_
        refine tt_iconst (v := nI 4) C dX7_askOnline_47 (by decide) ?_
        refine tt_cVI C (c_X7_ofDoor E u r h d 4 hd (by first | assumption | omega)) gX7_askOnline_X7_ofDoor rfl ⟨rfl, rfl⟩ 2 (by decide +kernel) ⟨Nat.le_of_ble_eq_true rfl, Nat.le_of_ble_eq_true rfl⟩ rfl oM0 rfl (Nat.le_of_ble_eq_true rfl) dX7_askOnline_48 rfl ?_
        refine tt_iconst (v := nI 2) C dX7_askOnline_51 (by decide) ?_
        refine tt_icmp_ne C (tgt := 72) dX7_askOnline_52 (by decide) Iff.rfl (fun c_4 => ?_) (fun c_4 => ?_)
        · skip
          refine tt_aload_n C dX7_askOnline_72 rfl 0 rfl ?_
          refine tt_iload_n C dX7_askOnline_73 rfl 2 rfl ?_
          refine tt_bipush (v := nI 9) C dX7_askOnline_74 (by decide) ?_
          refine tt_cVI C (c_X7_ofDoor E u r h d 9 hd (by first | assumption | omega)) gX7_askOnline_X7_ofDoor rfl ⟨rfl, rfl⟩ 2 (by decide +kernel) ⟨Nat.le_of_ble_eq_true rfl, Nat.le_of_ble_eq_true rfl⟩ rfl oM0 rfl (Nat.le_of_ble_eq_true rfl) dX7_askOnline_76 rfl ?_
          refine tt_istore_n (lv' := [(0, .ref (eA E 6 0)), (1, .int (nI b)), (2, .int (nI d)), (3, .int (h 1 (60 * d + 9)))]) C dX7_askOnline_79 rfl (by decide) [1, 2, 3, 0] rfl ?_
          refine tt_aload_n C dX7_askOnline_80 rfl 0 rfl ?_
          refine tt_iload_n C dX7_askOnline_81 rfl 2 rfl ?_
          refine tt_iconst (v := nI 5) C dX7_askOnline_82 (by decide) ?_
          refine tt_cVI C (c_X7_ofDoor E u r h d 5 hd (by first | assumption | omega)) gX7_askOnline_X7_ofDoor rfl ⟨rfl, rfl⟩ 2 (by decide +kernel) ⟨Nat.le_of_ble_eq_true rfl, Nat.le_of_ble_eq_true rfl⟩ rfl oM0 rfl (Nat.le_of_ble_eq_true rfl) dX7_askOnline_83 rfl ?_
          refine tt_iconst (v := nI 1) C dX7_askOnline_86 (by decide) ?_
          refine tt_icmp_ne C (tgt := 94) dX7_askOnline_87 (by decide) Iff.rfl (fun c_5 => ?_) (fun c_5 => ?_)
          · skip
            refine tt_iconst (v := nI 0) C dX7_askOnline_94 (by decide) ?_
            refine tt_istore (lv' := [(0, .ref (eA E 6 0)), (1, .int (nI b)), (2, .int (nI d)), (3, .int (h 1 (60 * d + 9))), (4, .int (nI 0))]) C dX7_askOnline_95 (by decide) [1, 2, 3, 4, 0] rfl ?_
            refine tt_iload C dX7_askOnline_97 4 rfl ?_
            refine tt_if_eq C (tgt := 127) dX7_askOnline_99 (by decide) (nI_eq0 (by omega)) (fun c_6 => ?_) (fun c_6 => ?_)
            · skip
              refine tt_aload_n C dX7_askOnline_127 rfl 0 rfl ?_
              refine tt_iload_n C dX7_askOnline_128 rfl 1 rfl ?_
              refine tt_iload_n C dX7_askOnline_129 rfl 2 rfl ?_
              refine tt_cVV C (c_X7_let E u r h b d hb hd hm hq) gX7_askOnline_X7_let rfl ⟨rfl, rfl⟩ 2 (by decide +kernel) ⟨Nat.le_of_ble_eq_true rfl, Nat.le_of_ble_eq_true rfl⟩ rfl oM0 rfl (Nat.le_of_ble_eq_true rfl) dX7_askOnline_130 rfl ?_
              generalize e_8 : M_let h b d = h_7
              refine tt_iload C dX7_askOnline_133 4 rfl ?_
              refine tt_if_eq C (tgt := 157) dX7_askOnline_135 (by decide) (nI_eq0 (by omega)) (fun c_9 => ?_) (fun c_9 => ?_)
              · skip
                refine tt_iconst (v := nI 0) C dX7_askOnline_157 (by decide) ?_
                exact tt_iret K dX7_askOnline_158 (by subst e_8; first | rfl | (simp [c_1, c_2, c_3, c_4, c_5, c_6, c_9, M_onH, M_onR]; done) | grind [M_onH, M_onR]) (by subst e_8; first | rfl | (simp [c_1, c_2, c_3, c_4, c_5, c_6, c_9, M_onH, M_onR]; done) | (refine congrArg _ ?_; grind [M_onH, M_onR])) rfl
              · skip
                exact absurd (by decide) c_9
            · skip
              exact absurd (by decide) c_6
          · skip
            refine tt_iconst (v := nI 1) C dX7_askOnline_90 (by decide) ?_
            refine tt_goto (tgt := 95) C dX7_askOnline_91 (by decide) ?_
            refine tt_istore (lv' := [(0, .ref (eA E 6 0)), (1, .int (nI b)), (2, .int (nI d)), (3, .int (h 1 (60 * d + 9))), (4, .int (nI 1))]) C dX7_askOnline_95 (by decide) [1, 2, 3, 4, 0] rfl ?_
            refine tt_iload C dX7_askOnline_97 4 rfl ?_
            refine tt_if_eq C (tgt := 127) dX7_askOnline_99 (by decide) (nI_eq0 (by omega)) (fun c_10 => ?_) (fun c_10 => ?_)
            · skip
              exact absurd c_10 (by decide)
            · skip
              refine tt_iload_n C dX7_askOnline_102 rfl 3 rfl ?_
              refine tt_iconst (v := (-1 : Int32)) C dX7_askOnline_103 (by decide) ?_
              refine tt_icmp_eq C (tgt := 112) dX7_askOnline_104 (by decide) Iff.rfl (fun c_11 => ?_) (fun c_11 => ?_)
              · skip
                refine tt_aload_n C dX7_askOnline_112 rfl 0 rfl ?_
                refine tt_get (v := .ref (eA E 6 1)) C oM0 rfl hin7 0 (by decide) (List.mem_of_getElem? (i := 1) (by decide +kernel)) rfl dX7_askOnline_113 ?_
                refine tt_bipush (v := nI 60) C dX7_askOnline_116 (by decide) ?_
                refine tt_iload_n C dX7_askOnline_118 rfl 2 rfl ?_
                refine tt_imul (v := nI (60 * d)) C dX7_askOnline_119 (pk_mul _ _) ?_
                refine tt_bipush (v := nI 9) C dX7_askOnline_120 (by decide) ?_
                refine tt_iadd (v := nI (60 * d + 9)) C dX7_askOnline_122 (nI_add _ _) ?_
                refine tt_iload_n C dX7_askOnline_123 rfl 1 rfl ?_
                refine tt_iastB C aM1 (60 * d + 9) rfl (by omega) dX7_askOnline_124 ?_
                generalize e_13 : up2 h 1 (60 * d + 9) (nI b) = h_12
                refine tt_iconst (v := nI 5) C dX7_askOnline_125 (by decide) ?_
                exact tt_iret K dX7_askOnline_126 (by subst e_13; first | rfl | (simp [c_1, c_2, c_3, c_4, c_5, c_10, c_11, M_onH, M_onR]; done) | grind [M_onH, M_onR]) (by subst e_13; first | rfl | (simp [c_1, c_2, c_3, c_4, c_5, c_10, c_11, M_onH, M_onR]; done) | (refine congrArg _ ?_; grind [M_onH, M_onR])) rfl
              · skip
                refine tt_iload_n C dX7_askOnline_107 rfl 3 rfl ?_
                refine tt_iload_n C dX7_askOnline_108 rfl 1 rfl ?_
                refine tt_icmp_ne C (tgt := 127) dX7_askOnline_109 (by decide) Iff.rfl (fun c_14 => ?_) (fun c_14 => ?_)
                · skip
                  refine tt_aload_n C dX7_askOnline_127 rfl 0 rfl ?_
                  refine tt_iload_n C dX7_askOnline_128 rfl 1 rfl ?_
                  refine tt_iload_n C dX7_askOnline_129 rfl 2 rfl ?_
                  refine tt_cVV C (c_X7_let E u r h b d hb hd hm hq) gX7_askOnline_X7_let rfl ⟨rfl, rfl⟩ 2 (by decide +kernel) ⟨Nat.le_of_ble_eq_true rfl, Nat.le_of_ble_eq_true rfl⟩ rfl oM0 rfl (Nat.le_of_ble_eq_true rfl) dX7_askOnline_130 rfl ?_
                  generalize e_16 : M_let h b d = h_15
                  refine tt_iload C dX7_askOnline_133 4 rfl ?_
                  refine tt_if_eq C (tgt := 157) dX7_askOnline_135 (by decide) (nI_eq0 (by omega)) (fun c_17 => ?_) (fun c_17 => ?_)
                  · skip
                    exact absurd c_17 (by decide)
                  · skip
                    have hw2 := hw.resolve_left c_11
                    have hw2' := ix_lt hw2 (by decide)
                    refine tt_aload_n C dX7_askOnline_138 rfl 0 rfl ?_
                    refine tt_iload_n C dX7_askOnline_139 rfl 3 rfl ?_
                    refine tt_iload_n C dX7_askOnline_140 rfl 2 rfl ?_
                    refine tt_to (st1 := [.int (nI d), .int (nI (ix (h 1 (60 * d + 9)))), .ref (eA E 6 0)]) rfl rfl rfl (congrArg (fun z => ([.int (nI d), .int z, .ref (eA E 6 0)] : List Value)) (ix_eq hw2 (by decide))) ?_
                    refine tt_cVV C (c_X7_let E u r h_15 (ix (h 1 (60 * d + 9))) d (by first | assumption | omega) hd (by rw [← e_16]; exact M_let_m hb hd hm hq) (by rw [← e_16]; exact hq2)) gX7_askOnline_X7_let rfl ⟨rfl, rfl⟩ 2 (by decide +kernel) ⟨Nat.le_of_ble_eq_true rfl, Nat.le_of_ble_eq_true rfl⟩ rfl oM0 rfl (Nat.le_of_ble_eq_true rfl) dX7_askOnline_141 rfl ?_
                    generalize e_19 : M_let h_15 (ix (h 1 (60 * d + 9))) d = h_18
                    refine tt_aload_n C dX7_askOnline_144 rfl 0 rfl ?_
                    refine tt_get (v := .ref (eA E 6 1)) C oM0 rfl hin7 0 (by decide) (List.mem_of_getElem? (i := 1) (by decide +kernel)) rfl dX7_askOnline_145 ?_
                    refine tt_bipush (v := nI 60) C dX7_askOnline_148 (by decide) ?_
                    refine tt_iload_n C dX7_askOnline_150 rfl 2 rfl ?_
                    refine tt_imul (v := nI (60 * d)) C dX7_askOnline_151 (pk_mul _ _) ?_
                    refine tt_bipush (v := nI 9) C dX7_askOnline_152 (by decide) ?_
                    refine tt_iadd (v := nI (60 * d + 9)) C dX7_askOnline_154 (nI_add _ _) ?_
                    refine tt_iconst (v := (-1 : Int32)) C dX7_askOnline_155 (by decide) ?_
                    refine tt_iastB C aM1 (60 * d + 9) rfl (by omega) dX7_askOnline_156 ?_
                    generalize e_21 : up2 h_18 1 (60 * d + 9) (-1 : Int32) = h_20
                    refine tt_iconst (v := nI 0) C dX7_askOnline_157 (by decide) ?_
                    exact tt_iret K dX7_askOnline_158 (by subst e_21; subst e_19; subst e_16; first | rfl | (simp [c_1, c_2, c_3, c_4, c_5, c_10, c_11, c_14, c_17, M_onH, M_onR]; done) | grind [M_onH, M_onR]) (by subst e_21; subst e_19; subst e_16; first | rfl | (simp [c_1, c_2, c_3, c_4, c_5, c_10, c_11, c_14, c_17, M_onH, M_onR]; done) | (refine congrArg _ ?_; grind [M_onH, M_onR])) rfl
                · skip
                  refine tt_aload_n C dX7_askOnline_112 rfl 0 rfl ?_
                  refine tt_get (v := .ref (eA E 6 1)) C oM0 rfl hin7 0 (by decide) (List.mem_of_getElem? (i := 1) (by decide +kernel)) rfl dX7_askOnline_113 ?_
                  refine tt_bipush (v := nI 60) C dX7_askOnline_116 (by decide) ?_
                  refine tt_iload_n C dX7_askOnline_118 rfl 2 rfl ?_
                  refine tt_imul (v := nI (60 * d)) C dX7_askOnline_119 (pk_mul _ _) ?_
                  refine tt_bipush (v := nI 9) C dX7_askOnline_120 (by decide) ?_
                  refine tt_iadd (v := nI (60 * d + 9)) C dX7_askOnline_122 (nI_add _ _) ?_
                  refine tt_iload_n C dX7_askOnline_123 rfl 1 rfl ?_
                  refine tt_iastB C aM1 (60 * d + 9) rfl (by omega) dX7_askOnline_124 ?_
                  generalize e_23 : up2 h 1 (60 * d + 9) (nI b) = h_22
                  refine tt_iconst (v := nI 5) C dX7_askOnline_125 (by decide) ?_
                  exact tt_iret K dX7_askOnline_126 (by subst e_23; first | rfl | (simp [c_1, c_2, c_3, c_4, c_5, c_10, c_11, c_14, M_onH, M_onR]; done) | grind [M_onH, M_onR]) (by subst e_23; first | rfl | (simp [c_1, c_2, c_3, c_4, c_5, c_10, c_11, c_14, M_onH, M_onR]; done) | (refine congrArg _ ?_; grind [M_onH, M_onR])) rfl
        · skip
          refine tt_aload_n C dX7_askOnline_55 rfl 0 rfl ?_
          refine tt_iload_n C dX7_askOnline_56 rfl 1 rfl ?_
          refine tt_iconst (v := nI 2) C dX7_askOnline_57 (by decide) ?_
          refine tt_cVI C (c_X7_ofBadge E u r h b 2 hb (by first | assumption | omega)) gX7_askOnline_X7_ofBadge rfl ⟨rfl, rfl⟩ 2 (by decide +kernel) ⟨Nat.le_of_ble_eq_true rfl, Nat.le_of_ble_eq_true rfl⟩ rfl oM0 rfl (Nat.le_of_ble_eq_true rfl) dX7_askOnline_58 rfl ?_
          refine tt_aload_n C dX7_askOnline_61 rfl 0 rfl ?_
          refine tt_iload_n C dX7_askOnline_62 rfl 2 rfl ?_
          refine tt_iconst (v := nI 0) C dX7_askOnline_63 (by decide) ?_
          refine tt_cVI C (c_X7_ofDoor E u r h d 0 hd (by first | assumption | omega)) gX7_askOnline_X7_ofDoor rfl ⟨rfl, rfl⟩ 2 (by decide +kernel) ⟨Nat.le_of_ble_eq_true rfl, Nat.le_of_ble_eq_true rfl⟩ rfl oM0 rfl (Nat.le_of_ble_eq_true rfl) dX7_askOnline_64 rfl ?_
          refine tt_icmp_eq C (tgt := 72) dX7_askOnline_67 (by decide) Iff.rfl (fun c_24 => ?_) (fun c_24 => ?_)
          · skip
            refine tt_aload_n C dX7_askOnline_72 rfl 0 rfl ?_
            refine tt_iload_n C dX7_askOnline_73 rfl 2 rfl ?_
            refine tt_bipush (v := nI 9) C dX7_askOnline_74 (by decide) ?_
            refine tt_cVI C (c_X7_ofDoor E u r h d 9 hd (by first | assumption | omega)) gX7_askOnline_X7_ofDoor rfl ⟨rfl, rfl⟩ 2 (by decide +kernel) ⟨Nat.le_of_ble_eq_true rfl, Nat.le_of_ble_eq_true rfl⟩ rfl oM0 rfl (Nat.le_of_ble_eq_true rfl) dX7_askOnline_76 rfl ?_
            refine tt_istore_n (lv' := [(0, .ref (eA E 6 0)), (1, .int (nI b)), (2, .int (nI d)), (3, .int (h 1 (60 * d + 9)))]) C dX7_askOnline_79 rfl (by decide) [1, 2, 3, 0] rfl ?_
            refine tt_aload_n C dX7_askOnline_80 rfl 0 rfl ?_
            refine tt_iload_n C dX7_askOnline_81 rfl 2 rfl ?_
            refine tt_iconst (v := nI 5) C dX7_askOnline_82 (by decide) ?_
            refine tt_cVI C (c_X7_ofDoor E u r h d 5 hd (by first | assumption | omega)) gX7_askOnline_X7_ofDoor rfl ⟨rfl, rfl⟩ 2 (by decide +kernel) ⟨Nat.le_of_ble_eq_true rfl, Nat.le_of_ble_eq_true rfl⟩ rfl oM0 rfl (Nat.le_of_ble_eq_true rfl) dX7_askOnline_83 rfl ?_
            refine tt_iconst (v := nI 1) C dX7_askOnline_86 (by decide) ?_
            refine tt_icmp_ne C (tgt := 94) dX7_askOnline_87 (by decide) Iff.rfl (fun c_25 => ?_) (fun c_25 => ?_)
            · skip
              refine tt_iconst (v := nI 0) C dX7_askOnline_94 (by decide) ?_
              refine tt_istore (lv' := [(0, .ref (eA E 6 0)), (1, .int (nI b)), (2, .int (nI d)), (3, .int (h 1 (60 * d + 9))), (4, .int (nI 0))]) C dX7_askOnline_95 (by decide) [1, 2, 3, 4, 0] rfl ?_
              refine tt_iload C dX7_askOnline_97 4 rfl ?_
              refine tt_if_eq C (tgt := 127) dX7_askOnline_99 (by decide) (nI_eq0 (by omega)) (fun c_26 => ?_) (fun c_26 => ?_)
              · skip
                refine tt_aload_n C dX7_askOnline_127 rfl 0 rfl ?_
                refine tt_iload_n C dX7_askOnline_128 rfl 1 rfl ?_
                refine tt_iload_n C dX7_askOnline_129 rfl 2 rfl ?_
                refine tt_cVV C (c_X7_let E u r h b d hb hd hm hq) gX7_askOnline_X7_let rfl ⟨rfl, rfl⟩ 2 (by decide +kernel) ⟨Nat.le_of_ble_eq_true rfl, Nat.le_of_ble_eq_true rfl⟩ rfl oM0 rfl (Nat.le_of_ble_eq_true rfl) dX7_askOnline_130 rfl ?_
                generalize e_28 : M_let h b d = h_27
                refine tt_iload C dX7_askOnline_133 4 rfl ?_
                refine tt_if_eq C (tgt := 157) dX7_askOnline_135 (by decide) (nI_eq0 (by omega)) (fun c_29 => ?_) (fun c_29 => ?_)
                · skip
                  refine tt_iconst (v := nI 0) C dX7_askOnline_157 (by decide) ?_
                  exact tt_iret K dX7_askOnline_158 (by subst e_28; first | rfl | (simp [c_1, c_2, c_3, c_4, c_24, c_25, c_26, c_29, M_onH, M_onR]; done) | grind [M_onH, M_onR]) (by subst e_28; first | rfl | (simp [c_1, c_2, c_3, c_4, c_24, c_25, c_26, c_29, M_onH, M_onR]; done) | (refine congrArg _ ?_; grind [M_onH, M_onR])) rfl
                · skip
                  exact absurd (by decide) c_29
              · skip
                exact absurd (by decide) c_26
            · skip
              refine tt_iconst (v := nI 1) C dX7_askOnline_90 (by decide) ?_
              refine tt_goto (tgt := 95) C dX7_askOnline_91 (by decide) ?_
              refine tt_istore (lv' := [(0, .ref (eA E 6 0)), (1, .int (nI b)), (2, .int (nI d)), (3, .int (h 1 (60 * d + 9))), (4, .int (nI 1))]) C dX7_askOnline_95 (by decide) [1, 2, 3, 4, 0] rfl ?_
              refine tt_iload C dX7_askOnline_97 4 rfl ?_
              refine tt_if_eq C (tgt := 127) dX7_askOnline_99 (by decide) (nI_eq0 (by omega)) (fun c_30 => ?_) (fun c_30 => ?_)
              · skip
                exact absurd c_30 (by decide)
              · skip
                refine tt_iload_n C dX7_askOnline_102 rfl 3 rfl ?_
                refine tt_iconst (v := (-1 : Int32)) C dX7_askOnline_103 (by decide) ?_
                refine tt_icmp_eq C (tgt := 112) dX7_askOnline_104 (by decide) Iff.rfl (fun c_31 => ?_) (fun c_31 => ?_)
                · skip
                  refine tt_aload_n C dX7_askOnline_112 rfl 0 rfl ?_
                  refine tt_get (v := .ref (eA E 6 1)) C oM0 rfl hin7 0 (by decide) (List.mem_of_getElem? (i := 1) (by decide +kernel)) rfl dX7_askOnline_113 ?_
                  refine tt_bipush (v := nI 60) C dX7_askOnline_116 (by decide) ?_
                  refine tt_iload_n C dX7_askOnline_118 rfl 2 rfl ?_
                  refine tt_imul (v := nI (60 * d)) C dX7_askOnline_119 (pk_mul _ _) ?_
                  refine tt_bipush (v := nI 9) C dX7_askOnline_120 (by decide) ?_
                  refine tt_iadd (v := nI (60 * d + 9)) C dX7_askOnline_122 (nI_add _ _) ?_
                  refine tt_iload_n C dX7_askOnline_123 rfl 1 rfl ?_
                  refine tt_iastB C aM1 (60 * d + 9) rfl (by omega) dX7_askOnline_124 ?_
                  generalize e_33 : up2 h 1 (60 * d + 9) (nI b) = h_32
                  refine tt_iconst (v := nI 5) C dX7_askOnline_125 (by decide) ?_
                  exact tt_iret K dX7_askOnline_126 (by subst e_33; first | rfl | (simp [c_1, c_2, c_3, c_4, c_24, c_25, c_30, c_31, M_onH, M_onR]; done) | grind [M_onH, M_onR]) (by subst e_33; first | rfl | (simp [c_1, c_2, c_3, c_4, c_24, c_25, c_30, c_31, M_onH, M_onR]; done) | (refine congrArg _ ?_; grind [M_onH, M_onR])) rfl
                · skip
                  refine tt_iload_n C dX7_askOnline_107 rfl 3 rfl ?_
                  refine tt_iload_n C dX7_askOnline_108 rfl 1 rfl ?_
                  refine tt_icmp_ne C (tgt := 127) dX7_askOnline_109 (by decide) Iff.rfl (fun c_34 => ?_) (fun c_34 => ?_)
                  · skip
                    refine tt_aload_n C dX7_askOnline_127 rfl 0 rfl ?_
                    refine tt_iload_n C dX7_askOnline_128 rfl 1 rfl ?_
                    refine tt_iload_n C dX7_askOnline_129 rfl 2 rfl ?_
                    refine tt_cVV C (c_X7_let E u r h b d hb hd hm hq) gX7_askOnline_X7_let rfl ⟨rfl, rfl⟩ 2 (by decide +kernel) ⟨Nat.le_of_ble_eq_true rfl, Nat.le_of_ble_eq_true rfl⟩ rfl oM0 rfl (Nat.le_of_ble_eq_true rfl) dX7_askOnline_130 rfl ?_
                    generalize e_36 : M_let h b d = h_35
                    refine tt_iload C dX7_askOnline_133 4 rfl ?_
                    refine tt_if_eq C (tgt := 157) dX7_askOnline_135 (by decide) (nI_eq0 (by omega)) (fun c_37 => ?_) (fun c_37 => ?_)
                    · skip
                      exact absurd c_37 (by decide)
                    · skip
                      have hw2 := hw.resolve_left c_31
                      have hw2' := ix_lt hw2 (by decide)
                      refine tt_aload_n C dX7_askOnline_138 rfl 0 rfl ?_
                      refine tt_iload_n C dX7_askOnline_139 rfl 3 rfl ?_
                      refine tt_iload_n C dX7_askOnline_140 rfl 2 rfl ?_
                      refine tt_to (st1 := [.int (nI d), .int (nI (ix (h 1 (60 * d + 9)))), .ref (eA E 6 0)]) rfl rfl rfl (congrArg (fun z => ([.int (nI d), .int z, .ref (eA E 6 0)] : List Value)) (ix_eq hw2 (by decide))) ?_
                      refine tt_cVV C (c_X7_let E u r h_35 (ix (h 1 (60 * d + 9))) d (by first | assumption | omega) hd (by rw [← e_36]; exact M_let_m hb hd hm hq) (by rw [← e_36]; exact hq2)) gX7_askOnline_X7_let rfl ⟨rfl, rfl⟩ 2 (by decide +kernel) ⟨Nat.le_of_ble_eq_true rfl, Nat.le_of_ble_eq_true rfl⟩ rfl oM0 rfl (Nat.le_of_ble_eq_true rfl) dX7_askOnline_141 rfl ?_
                      generalize e_39 : M_let h_35 (ix (h 1 (60 * d + 9))) d = h_38
                      refine tt_aload_n C dX7_askOnline_144 rfl 0 rfl ?_
                      refine tt_get (v := .ref (eA E 6 1)) C oM0 rfl hin7 0 (by decide) (List.mem_of_getElem? (i := 1) (by decide +kernel)) rfl dX7_askOnline_145 ?_
                      refine tt_bipush (v := nI 60) C dX7_askOnline_148 (by decide) ?_
                      refine tt_iload_n C dX7_askOnline_150 rfl 2 rfl ?_
                      refine tt_imul (v := nI (60 * d)) C dX7_askOnline_151 (pk_mul _ _) ?_
                      refine tt_bipush (v := nI 9) C dX7_askOnline_152 (by decide) ?_
                      refine tt_iadd (v := nI (60 * d + 9)) C dX7_askOnline_154 (nI_add _ _) ?_
                      refine tt_iconst (v := (-1 : Int32)) C dX7_askOnline_155 (by decide) ?_
                      refine tt_iastB C aM1 (60 * d + 9) rfl (by omega) dX7_askOnline_156 ?_
                      generalize e_41 : up2 h_38 1 (60 * d + 9) (-1 : Int32) = h_40
                      refine tt_iconst (v := nI 0) C dX7_askOnline_157 (by decide) ?_
                      exact tt_iret K dX7_askOnline_158 (by subst e_41; subst e_39; subst e_36; first | rfl | (simp [c_1, c_2, c_3, c_4, c_24, c_25, c_30, c_31, c_34, c_37, M_onH, M_onR]; done) | grind [M_onH, M_onR]) (by subst e_41; subst e_39; subst e_36; first | rfl | (simp [c_1, c_2, c_3, c_4, c_24, c_25, c_30, c_31, c_34, c_37, M_onH, M_onR]; done) | (refine congrArg _ ?_; grind [M_onH, M_onR])) rfl
                  · skip
                    refine tt_aload_n C dX7_askOnline_112 rfl 0 rfl ?_
                    refine tt_get (v := .ref (eA E 6 1)) C oM0 rfl hin7 0 (by decide) (List.mem_of_getElem? (i := 1) (by decide +kernel)) rfl dX7_askOnline_113 ?_
                    refine tt_bipush (v := nI 60) C dX7_askOnline_116 (by decide) ?_
                    refine tt_iload_n C dX7_askOnline_118 rfl 2 rfl ?_
                    refine tt_imul (v := nI (60 * d)) C dX7_askOnline_119 (pk_mul _ _) ?_
                    refine tt_bipush (v := nI 9) C dX7_askOnline_120 (by decide) ?_
                    refine tt_iadd (v := nI (60 * d + 9)) C dX7_askOnline_122 (nI_add _ _) ?_
                    refine tt_iload_n C dX7_askOnline_123 rfl 1 rfl ?_
                    refine tt_iastB C aM1 (60 * d + 9) rfl (by omega) dX7_askOnline_124 ?_
                    generalize e_43 : up2 h 1 (60 * d + 9) (nI b) = h_42
                    refine tt_iconst (v := nI 5) C dX7_askOnline_125 (by decide) ?_
                    exact tt_iret K dX7_askOnline_126 (by subst e_43; first | rfl | (simp [c_1, c_2, c_3, c_4, c_24, c_25, c_30, c_31, c_34, M_onH, M_onR]; done) | grind [M_onH, M_onR]) (by subst e_43; first | rfl | (simp [c_1, c_2, c_3, c_4, c_24, c_25, c_30, c_31, c_34, M_onH, M_onR]; done) | (refine congrArg _ ?_; grind [M_onH, M_onR])) rfl
          · skip
            refine tt_iconst (v := nI 4) C dX7_askOnline_70 (by decide) ?_
            exact tt_iret K dX7_askOnline_71 (by first | rfl | (simp [c_1, c_2, c_3, c_4, c_24, M_onH, M_onR]; done) | grind [M_onH, M_onR]) (by first | rfl | (simp [c_1, c_2, c_3, c_4, c_24, M_onH, M_onR]; done) | (refine congrArg _ ?_; grind [M_onH, M_onR])) rfl
      · skip
        refine tt_iconst (v := nI 3) C dX7_askOnline_43 (by decide) ?_
        exact tt_iret K dX7_askOnline_44 (by first | rfl | (simp [c_1, c_2, c_3, M_onH, M_onR]; done) | grind [M_onH, M_onR]) (by first | rfl | (simp [c_1, c_2, c_3, M_onH, M_onR]; done) | (refine congrArg _ ?_; grind [M_onH, M_onR])) rfl
    · skip
      refine tt_iconst (v := nI 2) C dX7_askOnline_27 (by decide) ?_
      exact tt_iret K dX7_askOnline_28 (by first | rfl | (simp [c_1, c_2, M_onH, M_onR]; done) | grind [M_onH, M_onR]) (by first | rfl | (simp [c_1, c_2, M_onH, M_onR]; done) | (refine congrArg _ ?_; grind [M_onH, M_onR])) rfl
  · skip
    refine tt_aload_n C dX7_askOnline_9 rfl 0 rfl ?_
    refine tt_iload_n C dX7_askOnline_10 rfl 1 rfl ?_
    refine tt_iload_n C dX7_askOnline_11 rfl 2 rfl ?_
    refine tt_cVV C (c_X7_let E u r h b d hb hd hm hq) gX7_askOnline_X7_let rfl ⟨rfl, rfl⟩ 2 (by decide +kernel) ⟨Nat.le_of_ble_eq_true rfl, Nat.le_of_ble_eq_true rfl⟩ rfl oM0 rfl (Nat.le_of_ble_eq_true rfl) dX7_askOnline_12 rfl ?_
    generalize e_45 : M_let h b d = h_44
    refine tt_iconst (v := nI 0) C dX7_askOnline_15 (by decide) ?_
    exact tt_iret K dX7_askOnline_16 (by subst e_45; first | rfl | (simp [c_1, M_onH, M_onR]; done) | grind [M_onH, M_onR]) (by subst e_45; first | rfl | (simp [c_1, M_onH, M_onR]; done) | (refine congrArg _ ?_; grind [M_onH, M_onR])) rfl
