def M_alR (h : HB) (b d : Nat) : Nat := if h 1 (60 * d + 1) = 0 then 0 else if (h 1 (60 * d + 10) >>> (nI b &&& 31)) &&& nI 1 = nI 1 then 2 else if ¬ M_lev h d ≤ h 1 (60 * d + (11 + b)) then 3 else 0
def M_note (h : HB) (b d : Nat) : HB := if 20 ≤ ix (h 1 (60 * d + 19)) then h else up2 (up2 (up2 h 1 (60 * d + 20 + 2 * ix (h 1 (60 * d + 19))) (h 1 528)) 1 (60 * d + 20 + 2 * ix (h 1 (60 * d + 19)) + 1) (nI b)) 1 (60 * d + 19) (nI (ix (h 1 (60 * d + 19)) + 1))
def M_alH (h : HB) (b d : Nat) : HB := if M_alR h b d = 0 then M_pass (M_note h b d) b d else h
theorem M_note_n {h : HB} {b d j : Nat} (hj : 480 ≤ j) (hd : d < 8) (hn : ix (h 1 (60 * d + 19)) < 21) : M_note h b d 1 j = h 1 j := by
  unfold M_note
  split
  · rfl
  · rw [up2_n (fun z => by omega), up2_n (fun z => by omega), up2_n (fun z => by omega)]

set_option maxHeartbeats 4000000 in
set_option maxRecDepth 100000 in
theorem c_X7_askAlone (E : EN) (u : U3) (r : R1) (h : HB) (b : Nat) (d : Nat) (hb : b < 8) (hd : d < 8) (hm : vI (h 1 540) 65) (hn : vI (h 1 (60 * d + 19)) 21) (hqa : PQ (M_note h b d) b d) : CT E yX7_askAlone wsX7_askAlone (rmT 3 63) [.ref (eA E 6 0), .int (nI b), .int (nI d)] (ub u 6 h) r (some (.int (nI (M_alR h b d)))) (ub u 6 (M_alH h b d)) r := by
  refine CT_ofI (cc := cX7_askAlone) (nL := 4) (own := RX7) (by decide) rfl rfl rfl (Nat.le_of_ble_eq_true rfl) (fun F C K => ?_)
  have hin7 : ∀ w ∈ u_ws RX7 TX7 15, w ∈ wsX7_askAlone := by decide +kernel
  refine tt_to (lv1 := [(0, .ref (eA E 6 0)), (1, .int (nI b)), (2, .int (nI d))]) rfl rfl rfl rfl ?_
  have hn' := ix_lt hn (by decide)
  refine tt_aload_n C dX7_askAlone_0 rfl 0 rfl ?_
  refine tt_iload_n C dX7_askAlone_1 rfl 2 rfl ?_
  refine tt_iconst (v := nI 1) C dX7_askAlone_2 (by decide) ?_
  refine tt_cVI C (c_X7_ofDoor E u r h d 1 hd (by first | assumption | omega)) gX7_askAlone_X7_ofDoor rfl ⟨rfl, rfl⟩ 2 (by decide +kernel) ⟨Nat.le_of_ble_eq_true rfl, Nat.le_of_ble_eq_true rfl⟩ rfl oM0 rfl (Nat.le_of_ble_eq_true rfl) dX7_askAlone_3 rfl ?_
  refine tt_if_eq C (tgt := 45) dX7_askAlone_6 (by decide) Iff.rfl (fun c_1 => ?_) (fun c_1 => ?_)
  · skip
    refine tt_aload_n C dX7_askAlone_45 rfl 0 rfl ?_
    refine tt_iload_n C dX7_askAlone_46 rfl 2 rfl ?_
    refine tt_bipush (v := nI 19) C dX7_askAlone_47 (by decide) ?_
    refine tt_cVI C (c_X7_ofDoor E u r h d 19 hd (by first | assumption | omega)) gX7_askAlone_X7_ofDoor rfl ⟨rfl, rfl⟩ 2 (by decide +kernel) ⟨Nat.le_of_ble_eq_true rfl, Nat.le_of_ble_eq_true rfl⟩ rfl oM0 rfl (Nat.le_of_ble_eq_true rfl) dX7_askAlone_49 rfl ?_
    refine tt_to (st1 := [.int (nI (ix (h 1 (60 * d + 19))))]) rfl rfl rfl (congrArg (fun z => ([.int z] : List Value)) (ix_eq hn (by decide))) ?_
    refine tt_istore_n (lv' := [(0, .ref (eA E 6 0)), (1, .int (nI b)), (2, .int (nI d)), (3, .int (nI (ix (h 1 (60 * d + 19)))))]) C dX7_askAlone_52 rfl (by decide) [1, 2, 3, 0] rfl ?_
    refine tt_iload_n C dX7_askAlone_53 rfl 3 rfl ?_
    refine tt_bipush (v := nI 20) C dX7_askAlone_54 (by decide) ?_
    refine tt_icmp_ge C (tgt := 118) dX7_askAlone_56 (by decide) (nI_leI (by omega) (by omega)) (fun c_2 => ?_) (fun c_2 => ?_)
    · skip
      rw [show ub u 6 h = ub u 6 (M_note h b d) from by unfold M_note; rw [if_pos c_2]]
      refine tt_aload_n C dX7_askAlone_118 rfl 0 rfl ?_
      refine tt_iload_n C dX7_askAlone_119 rfl 1 rfl ?_
      refine tt_iload_n C dX7_askAlone_120 rfl 2 rfl ?_
      refine tt_cVV C (c_X7_pass E u r (M_note h b d) b d hb hd (by rw [M_note_n (by omega) hd hn']; exact hm) hqa) gX7_askAlone_X7_pass rfl ⟨rfl, rfl⟩ 2 (by decide +kernel) ⟨Nat.le_of_ble_eq_true rfl, Nat.le_of_ble_eq_true rfl⟩ rfl oM0 rfl (Nat.le_of_ble_eq_true rfl) dX7_askAlone_121 rfl ?_
      generalize e_4 : M_pass (M_note h b d) b d = h_3
      refine tt_iconst (v := nI 0) C dX7_askAlone_124 (by decide) ?_
      exact tt_iret K dX7_askAlone_125 (by subst e_4; first | rfl | (simp [c_1, c_2, M_alH, M_alR]; done) | grind [M_alH, M_alR]) (by subst e_4; first | rfl | (simp [c_1, c_2, M_alH, M_alR]; done) | (refine congrArg _ ?_; grind [M_alH, M_alR])) rfl
    · skip
      refine tt_aload_n C dX7_askAlone_59 rfl 0 rfl ?_
      refine tt_get (v := .ref (eA E 6 1)) C oM0 rfl hin7 0 (by decide) (List.mem_of_getElem? (i := 1) (by decide +kernel)) rfl dX7_askAlone_60 ?_
      refine tt_bipush (v := nI 60) C dX7_askAlone_63 (by decide) ?_
      refine tt_iload_n C dX7_askAlone_65 rfl 2 rfl ?_
      refine tt_imul (v := nI (60 * d)) C dX7_askAlone_66 (pk_mul _ _) ?_
      refine tt_bipush (v := nI 20) C dX7_askAlone_67 (by decide) ?_
      refine tt_iadd (v := nI (60 * d + 20)) C dX7_askAlone_69 (nI_add _ _) ?_
      refine tt_iconst (v := nI 2) C dX7_askAlone_70 (by decide) ?_
      refine tt_iload_n C dX7_askAlone_71 rfl 3 rfl ?_
      refine tt_imul (v := nI (2 * (ix (h 1 (60 * d + 19))))) C dX7_askAlone_72 (pk_mul _ _) ?_
      refine tt_iadd (v := nI (60 * d + 20 + (2 * (ix (h 1 (60 * d + 19)))))) C dX7_askAlone_73 (nI_add _ _) ?_
      refine tt_aload_n C dX7_askAlone_74 rfl 0 rfl ?_
      refine tt_get (v := .ref (eA E 6 1)) C oM0 rfl hin7 0 (by decide) (List.mem_of_getElem? (i := 1) (by decide +kernel)) rfl dX7_askAlone_75 ?_
      refine tt_sipush (v := nI 528) C dX7_askAlone_78 (by decide) ?_
      refine tt_ialdB (v := h 1 528) C aM1 528 rfl (by omega) rfl dX7_askAlone_81 ?_
      refine tt_iastB C aM1 (60 * d + 20 + (2 * (ix (h 1 (60 * d + 19))))) rfl (by omega) dX7_askAlone_82 ?_
      generalize e_6 : up2 h 1 (60 * d + 20 + (2 * (ix (h 1 (60 * d + 19))))) (h 1 528) = h_5
      refine tt_aload_n C dX7_askAlone_83 rfl 0 rfl ?_
      refine tt_get (v := .ref (eA E 6 1)) C oM0 rfl hin7 0 (by decide) (List.mem_of_getElem? (i := 1) (by decide +kernel)) rfl dX7_askAlone_84 ?_
      refine tt_bipush (v := nI 60) C dX7_askAlone_87 (by decide) ?_
      refine tt_iload_n C dX7_askAlone_89 rfl 2 rfl ?_
      refine tt_imul (v := nI (60 * d)) C dX7_askAlone_90 (pk_mul _ _) ?_
      refine tt_bipush (v := nI 20) C dX7_askAlone_91 (by decide) ?_
      refine tt_iadd (v := nI (60 * d + 20)) C dX7_askAlone_93 (nI_add _ _) ?_
      refine tt_iconst (v := nI 2) C dX7_askAlone_94 (by decide) ?_
      refine tt_iload_n C dX7_askAlone_95 rfl 3 rfl ?_
      refine tt_imul (v := nI (2 * (ix (h 1 (60 * d + 19))))) C dX7_askAlone_96 (pk_mul _ _) ?_
      refine tt_iadd (v := nI (60 * d + 20 + (2 * (ix (h 1 (60 * d + 19)))))) C dX7_askAlone_97 (nI_add _ _) ?_
      refine tt_iconst (v := nI 1) C dX7_askAlone_98 (by decide) ?_
      refine tt_iadd (v := nI (60 * d + 20 + (2 * (ix (h 1 (60 * d + 19)))) + 1)) C dX7_askAlone_99 (nI_add _ _) ?_
      refine tt_iload_n C dX7_askAlone_100 rfl 1 rfl ?_
      refine tt_iastB C aM1 (60 * d + 20 + (2 * (ix (h 1 (60 * d + 19)))) + 1) rfl (by omega) dX7_askAlone_101 ?_
      generalize e_8 : up2 h_5 1 (60 * d + 20 + (2 * (ix (h 1 (60 * d + 19)))) + 1) (nI b) = h_7
      refine tt_aload_n C dX7_askAlone_102 rfl 0 rfl ?_
      refine tt_get (v := .ref (eA E 6 1)) C oM0 rfl hin7 0 (by decide) (List.mem_of_getElem? (i := 1) (by decide +kernel)) rfl dX7_askAlone_103 ?_
      refine tt_bipush (v := nI 60) C dX7_askAlone_106 (by decide) ?_
      refine tt_iload_n C dX7_askAlone_108 rfl 2 rfl ?_
      refine tt_imul (v := nI (60 * d)) C dX7_askAlone_109 (pk_mul _ _) ?_
      refine tt_bipush (v := nI 19) C dX7_askAlone_110 (by decide) ?_
      refine tt_iadd (v := nI (60 * d + 19)) C dX7_askAlone_112 (nI_add _ _) ?_
      refine tt_dup2 C dX7_askAlone_113 rfl rfl ?_
      refine tt_ialdB (v := nI (ix (h 1 (60 * d + 19)))) C aM1 (60 * d + 19) rfl (by omega) (by rw [← e_8, up2_n (fun z => absurd z.2 (by omega)), ← e_6, up2_n (fun z => absurd z.2 (by omega))]; exact (ix_eq hn (by decide))) dX7_askAlone_114 ?_
      refine tt_iconst (v := nI 1) C dX7_askAlone_115 (by decide) ?_
      refine tt_iadd (v := nI (ix (h 1 (60 * d + 19)) + 1)) C dX7_askAlone_116 (nI_add _ _) ?_
      refine tt_iastB C aM1 (60 * d + 19) rfl (by omega) dX7_askAlone_117 ?_
      generalize e_10 : up2 h_7 1 (60 * d + 19) (nI (ix (h 1 (60 * d + 19)) + 1)) = h_9
      subst e_10
      subst e_8
      subst e_6
      rw [show up2 (up2 (up2 h 1 (60 * d + 20 + 2 * ix (h 1 (60 * d + 19))) (h 1 528)) 1 (60 * d + 20 + 2 * ix (h 1 (60 * d + 19)) + 1) (nI b)) 1 (60 * d + 19) (nI (ix (h 1 (60 * d + 19)) + 1)) = M_note h b d from by unfold M_note; rw [if_neg c_2]]
      refine tt_aload_n C dX7_askAlone_118 rfl 0 rfl ?_
      refine tt_iload_n C dX7_askAlone_119 rfl 1 rfl ?_
      refine tt_iload_n C dX7_askAlone_120 rfl 2 rfl ?_
      refine tt_cVV C (c_X7_pass E u r (M_note h b d) b d hb hd (by rw [M_note_n (by omega) hd hn']; exact hm) hqa) gX7_askAlone_X7_pass rfl ⟨rfl, rfl⟩ 2 (by decide +kernel) ⟨Nat.le_of_ble_eq_true rfl, Nat.le_of_ble_eq_true rfl⟩ rfl oM0 rfl (Nat.le_of_ble_eq_true rfl) dX7_askAlone_121 rfl ?_
      generalize e_12 : M_pass (M_note h b d) b d = h_11
      refine tt_iconst (v := nI 0) C dX7_askAlone_124 (by decide) ?_
      exact tt_iret K dX7_askAlone_125 (by subst e_12; first | rfl | (simp [c_1, c_2, M_alH, M_alR]; done) | grind [M_alH, M_alR]) (by subst e_12; first | rfl | (simp [c_1, c_2, M_alH, M_alR]; done) | (refine congrArg _ ?_; grind [M_alH, M_alR])) rfl
  · skip
    refine tt_aload_n C dX7_askAlone_9 rfl 0 rfl ?_
    refine tt_iload_n C dX7_askAlone_10 rfl 2 rfl ?_
    refine tt_bipush (v := nI 10) C dX7_askAlone_11 (by decide) ?_
    refine tt_cVI C (c_X7_ofDoor E u r h d 10 hd (by first | assumption | omega)) gX7_askAlone_X7_ofDoor rfl ⟨rfl, rfl⟩ 2 (by decide +kernel) ⟨Nat.le_of_ble_eq_true rfl, Nat.le_of_ble_eq_true rfl⟩ rfl oM0 rfl (Nat.le_of_ble_eq_true rfl) dX7_askAlone_13 rfl ?_
    refine tt_iload_n C dX7_askAlone_16 rfl 1 rfl ?_
    refine tt_ishr C dX7_askAlone_17 rfl ?_
    refine tt_iconst (v := nI 1) C dX7_askAlone_18 (by decide) ?_
    refine tt_iand C dX7_askAlone_19 rfl ?_
    refine tt_iconst (v := nI 1) C dX7_askAlone_20 (by decide) ?_
    refine tt_icmp_ne C (tgt := 26) dX7_askAlone_21 (by decide) Iff.rfl (fun c_13 => ?_) (fun c_13 => ?_)
    · skip
      refine tt_aload_n C dX7_askAlone_26 rfl 0 rfl ?_
      refine tt_iload_n C dX7_askAlone_27 rfl 2 rfl ?_
      refine tt_bipush (v := nI 11) C dX7_askAlone_28 (by decide) ?_
      refine tt_iload_n C dX7_askAlone_30 rfl 1 rfl ?_
      refine tt_iadd (v := nI (11 + b)) C dX7_askAlone_31 (nI_add _ _) ?_
      refine tt_cVI C (c_X7_ofDoor E u r h d (11 + b) hd (by first | assumption | omega)) gX7_askAlone_X7_ofDoor rfl ⟨rfl, rfl⟩ 2 (by decide +kernel) ⟨Nat.le_of_ble_eq_true rfl, Nat.le_of_ble_eq_true rfl⟩ rfl oM0 rfl (Nat.le_of_ble_eq_true rfl) dX7_askAlone_32 rfl ?_
      refine tt_aload_n C dX7_askAlone_35 rfl 0 rfl ?_
      refine tt_iload_n C dX7_askAlone_36 rfl 2 rfl ?_
      refine tt_cVI C (c_X7_levelOf E u r h d hd) gX7_askAlone_X7_levelOf rfl ⟨rfl, rfl⟩ 1 (by decide +kernel) ⟨Nat.le_of_ble_eq_true rfl, Nat.le_of_ble_eq_true rfl⟩ rfl oM0 rfl (Nat.le_of_ble_eq_true rfl) dX7_askAlone_37 rfl ?_
      refine tt_icmp_ge C (tgt := 45) dX7_askAlone_40 (by decide) Iff.rfl (fun c_14 => ?_) (fun c_14 => ?_)
      · skip
        refine tt_aload_n C dX7_askAlone_45 rfl 0 rfl ?_
        refine tt_iload_n C dX7_askAlone_46 rfl 2 rfl ?_
        refine tt_bipush (v := nI 19) C dX7_askAlone_47 (by decide) ?_
        refine tt_cVI C (c_X7_ofDoor E u r h d 19 hd (by first | assumption | omega)) gX7_askAlone_X7_ofDoor rfl ⟨rfl, rfl⟩ 2 (by decide +kernel) ⟨Nat.le_of_ble_eq_true rfl, Nat.le_of_ble_eq_true rfl⟩ rfl oM0 rfl (Nat.le_of_ble_eq_true rfl) dX7_askAlone_49 rfl ?_
        refine tt_to (st1 := [.int (nI (ix (h 1 (60 * d + 19))))]) rfl rfl rfl (congrArg (fun z => ([.int z] : List Value)) (ix_eq hn (by decide))) ?_
        refine tt_istore_n (lv' := [(0, .ref (eA E 6 0)), (1, .int (nI b)), (2, .int (nI d)), (3, .int (nI (ix (h 1 (60 * d + 19)))))]) C dX7_askAlone_52 rfl (by decide) [1, 2, 3, 0] rfl ?_
        refine tt_iload_n C dX7_askAlone_53 rfl 3 rfl ?_
        refine tt_bipush (v := nI 20) C dX7_askAlone_54 (by decide) ?_
        refine tt_icmp_ge C (tgt := 118) dX7_askAlone_56 (by decide) (nI_leI (by omega) (by omega)) (fun c_15 => ?_) (fun c_15 => ?_)
        · skip
          rw [show ub u 6 h = ub u 6 (M_note h b d) from by unfold M_note; rw [if_pos c_15]]
          refine tt_aload_n C dX7_askAlone_118 rfl 0 rfl ?_
          refine tt_iload_n C dX7_askAlone_119 rfl 1 rfl ?_
          refine tt_iload_n C dX7_askAlone_120 rfl 2 rfl ?_
          refine tt_cVV C (c_X7_pass E u r (M_note h b d) b d hb hd (by rw [M_note_n (by omega) hd hn']; exact hm) hqa) gX7_askAlone_X7_pass rfl ⟨rfl, rfl⟩ 2 (by decide +kernel) ⟨Nat.le_of_ble_eq_true rfl, Nat.le_of_ble_eq_true rfl⟩ rfl oM0 rfl (Nat.le_of_ble_eq_true rfl) dX7_askAlone_121 rfl ?_
          generalize e_17 : M_pass (M_note h b d) b d = h_16
          refine tt_iconst (v := nI 0) C dX7_askAlone_124 (by decide) ?_
          exact tt_iret K dX7_askAlone_125 (by subst e_17; first | rfl | (simp [c_1, c_13, c_14, c_15, M_alH, M_alR]; done) | grind [M_alH, M_alR]) (by subst e_17; first | rfl | (simp [c_1, c_13, c_14, c_15, M_alH, M_alR]; done) | (refine congrArg _ ?_; grind [M_alH, M_alR])) rfl
        · skip
          refine tt_aload_n C dX7_askAlone_59 rfl 0 rfl ?_
          refine tt_get (v := .ref (eA E 6 1)) C oM0 rfl hin7 0 (by decide) (List.mem_of_getElem? (i := 1) (by decide +kernel)) rfl dX7_askAlone_60 ?_
          refine tt_bipush (v := nI 60) C dX7_askAlone_63 (by decide) ?_
          refine tt_iload_n C dX7_askAlone_65 rfl 2 rfl ?_
          refine tt_imul (v := nI (60 * d)) C dX7_askAlone_66 (pk_mul _ _) ?_
          refine tt_bipush (v := nI 20) C dX7_askAlone_67 (by decide) ?_
          refine tt_iadd (v := nI (60 * d + 20)) C dX7_askAlone_69 (nI_add _ _) ?_
          refine tt_iconst (v := nI 2) C dX7_askAlone_70 (by decide) ?_
          refine tt_iload_n C dX7_askAlone_71 rfl 3 rfl ?_
          refine tt_imul (v := nI (2 * (ix (h 1 (60 * d + 19))))) C dX7_askAlone_72 (pk_mul _ _) ?_
          refine tt_iadd (v := nI (60 * d + 20 + (2 * (ix (h 1 (60 * d + 19)))))) C dX7_askAlone_73 (nI_add _ _) ?_
          refine tt_aload_n C dX7_askAlone_74 rfl 0 rfl ?_
          refine tt_get (v := .ref (eA E 6 1)) C oM0 rfl hin7 0 (by decide) (List.mem_of_getElem? (i := 1) (by decide +kernel)) rfl dX7_askAlone_75 ?_
          refine tt_sipush (v := nI 528) C dX7_askAlone_78 (by decide) ?_
          refine tt_ialdB (v := h 1 528) C aM1 528 rfl (by omega) rfl dX7_askAlone_81 ?_
          refine tt_iastB C aM1 (60 * d + 20 + (2 * (ix (h 1 (60 * d + 19))))) rfl (by omega) dX7_askAlone_82 ?_
          generalize e_19 : up2 h 1 (60 * d + 20 + (2 * (ix (h 1 (60 * d + 19))))) (h 1 528) = h_18
          refine tt_aload_n C dX7_askAlone_83 rfl 0 rfl ?_
          refine tt_get (v := .ref (eA E 6 1)) C oM0 rfl hin7 0 (by decide) (List.mem_of_getElem? (i := 1) (by decide +kernel)) rfl dX7_askAlone_84 ?_
          refine tt_bipush (v := nI 60) C dX7_askAlone_87 (by decide) ?_
          refine tt_iload_n C dX7_askAlone_89 rfl 2 rfl ?_
          refine tt_imul (v := nI (60 * d)) C dX7_askAlone_90 (pk_mul _ _) ?_
          refine tt_bipush (v := nI 20) C dX7_askAlone_91 (by decide) ?_
          refine tt_iadd (v := nI (60 * d + 20)) C dX7_askAlone_93 (nI_add _ _) ?_
          refine tt_iconst (v := nI 2) C dX7_askAlone_94 (by decide) ?_
          refine tt_iload_n C dX7_askAlone_95 rfl 3 rfl ?_
          refine tt_imul (v := nI (2 * (ix (h 1 (60 * d + 19))))) C dX7_askAlone_96 (pk_mul _ _) ?_
          refine tt_iadd (v := nI (60 * d + 20 + (2 * (ix (h 1 (60 * d + 19)))))) C dX7_askAlone_97 (nI_add _ _) ?_
          refine tt_iconst (v := nI 1) C dX7_askAlone_98 (by decide) ?_
          refine tt_iadd (v := nI (60 * d + 20 + (2 * (ix (h 1 (60 * d + 19)))) + 1)) C dX7_askAlone_99 (nI_add _ _) ?_
          refine tt_iload_n C dX7_askAlone_100 rfl 1 rfl ?_
          refine tt_iastB C aM1 (60 * d + 20 + (2 * (ix (h 1 (60 * d + 19)))) + 1) rfl (by omega) dX7_askAlone_101 ?_
          generalize e_21 : up2 h_18 1 (60 * d + 20 + (2 * (ix (h 1 (60 * d + 19)))) + 1) (nI b) = h_20
          refine tt_aload_n C dX7_askAlone_102 rfl 0 rfl ?_
          refine tt_get (v := .ref (eA E 6 1)) C oM0 rfl hin7 0 (by decide) (List.mem_of_getElem? (i := 1) (by decide +kernel)) rfl dX7_askAlone_103 ?_
          refine tt_bipush (v := nI 60) C dX7_askAlone_106 (by decide) ?_
          refine tt_iload_n C dX7_askAlone_108 rfl 2 rfl ?_
          refine tt_imul (v := nI (60 * d)) C dX7_askAlone_109 (pk_mul _ _) ?_
          refine tt_bipush (v := nI 19) C dX7_askAlone_110 (by decide) ?_
          refine tt_iadd (v := nI (60 * d + 19)) C dX7_askAlone_112 (nI_add _ _) ?_
          refine tt_dup2 C dX7_askAlone_113 rfl rfl ?_
          refine tt_ialdB (v := nI (ix (h 1 (60 * d + 19)))) C aM1 (60 * d + 19) rfl (by omega) (by rw [← e_21, up2_n (fun z => absurd z.2 (by omega)), ← e_19, up2_n (fun z => absurd z.2 (by omega))]; exact (ix_eq hn (by decide))) dX7_askAlone_114 ?_
          refine tt_iconst (v := nI 1) C dX7_askAlone_115 (by decide) ?_
          refine tt_iadd (v := nI (ix (h 1 (60 * d + 19)) + 1)) C dX7_askAlone_116 (nI_add _ _) ?_
          refine tt_iastB C aM1 (60 * d + 19) rfl (by omega) dX7_askAlone_117 ?_
          generalize e_23 : up2 h_20 1 (60 * d + 19) (nI (ix (h 1 (60 * d + 19)) + 1)) = h_22
          subst e_23
          subst e_21
          subst e_19
          rw [show up2 (up2 (up2 h 1 (60 * d + 20 + 2 * ix (h 1 (60 * d + 19))) (h 1 528)) 1 (60 * d + 20 + 2 * ix (h 1 (60 * d + 19)) + 1) (nI b)) 1 (60 * d + 19) (nI (ix (h 1 (60 * d + 19)) + 1)) = M_note h b d from by unfold M_note; rw [if_neg c_15]]
          refine tt_aload_n C dX7_askAlone_118 rfl 0 rfl ?_
          refine tt_iload_n C dX7_askAlone_119 rfl 1 rfl ?_
          refine tt_iload_n C dX7_askAlone_120 rfl 2 rfl ?_
          refine tt_cVV C (c_X7_pass E u r (M_note h b d) b d hb hd (by rw [M_note_n (by omega) hd hn']; exact hm) hqa) gX7_askAlone_X7_pass rfl ⟨rfl, rfl⟩ 2 (by decide +kernel) ⟨Nat.le_of_ble_eq_true rfl, Nat.le_of_ble_eq_true rfl⟩ rfl oM0 rfl (Nat.le_of_ble_eq_true rfl) dX7_askAlone_121 rfl ?_
          generalize e_25 : M_pass (M_note h b d) b d = h_24
          refine tt_iconst (v := nI 0) C dX7_askAlone_124 (by decide) ?_
          exact tt_iret K dX7_askAlone_125 (by subst e_25; first | rfl | (simp [c_1, c_13, c_14, c_15, M_alH, M_alR]; done) | grind [M_alH, M_alR]) (by subst e_25; first | rfl | (simp [c_1, c_13, c_14, c_15, M_alH, M_alR]; done) | (refine congrArg _ ?_; grind [M_alH, M_alR])) rfl
      · skip
        refine tt_iconst (v := nI 3) C dX7_askAlone_43 (by decide) ?_
        exact tt_iret K dX7_askAlone_44 (by first | rfl | (simp [c_1, c_13, c_14, M_alH, M_alR]; done) | grind [M_alH, M_alR]) (by first | rfl | (simp [c_1, c_13, c_14, M_alH, M_alR]; done) | (refine congrArg _ ?_; grind [M_alH, M_alR])) rfl
    · skip
      refine tt_iconst (v := nI 2) C dX7_askAlone_24 (by decide) ?_
      exact tt_iret K dX7_askAlone_25 (by first | rfl | (simp [c_1, c_13, M_alH, M_alR]; done) | grind [M_alH, M_alR]) (by first | rfl | (simp [c_1, c_13, M_alH, M_alR]; done) | (refine congrArg _ ?_; grind [M_alH, M_alR])) rfl

def M_wB (d : Nat) (x : HB) : HB := up2 x 1 (60 * d + 9) (-1)
def M_wait (h : HB) (n : Int32) : HB := iter M_wB (ix (h 1 529)) (up2 h 1 528 (h 1 528 + n))
theorem M_wB_k (h : HB) (n j : Nat) (hj : 480 ≤ j) (hn : n ≤ 8) : iter M_wB n h 1 j = h 1 j := by
  induction n with
  | zero => rfl
  | succ n ih => rw [iter, M_wB, up2_n (fun z => by omega)]; exact ih (by omega)

set_option maxHeartbeats 4000000 in
set_option maxRecDepth 100000 in
theorem c_X7_wait_B (E : EN) (u : U3) (r : R1) (h : HB) (n : Int32) (hc : ¬ (¬ n < nI 1 ∧ ¬ nI 99 < n)) : CT E yX7_wait wsX7_wait (rmT 1 22) [.ref (eA E 6 0), .int n] (ub u 6 h) r (some (.int (-2))) (ub u 6 h) r := by
  refine CT_ofI (cc := cX7_wait) (nL := 3) (own := RX7) (by decide) rfl rfl rfl (Nat.le_of_ble_eq_true rfl) (fun F C K => ?_)
  refine tt_to (lv1 := [(0, .ref (eA E 6 0)), (1, .int n)]) rfl rfl rfl rfl ?_
  refine tt_iload_n C dX7_wait_0 rfl 1 rfl ?_
  refine tt_iconst (v := nI 1) C dX7_wait_1 (by decide) ?_
  refine tt_bipush (v := nI 99) C dX7_wait_2 (by decide) ?_
  refine tt_cSI C (c_X7_in E (ub u 6 h) r n (nI 1) (nI 99)) gX7_wait_X7_in rfl ⟨rfl, rfl⟩ 3 (by decide +kernel) ⟨Nat.le_of_ble_eq_true rfl, Nat.le_of_ble_eq_true rfl⟩ rfl (Nat.le_of_ble_eq_true rfl) dX7_wait_4 rfl ?_
  refine tt_if_neB C (tgt := 13) dX7_wait_7 (by decide) (fun c_1 => ?_) (fun c_1 => ?_)
  · skip
    exact absurd c_1 hc
  · skip
    refine tt_bipush (v := (-2 : Int32)) C dX7_wait_10 (by decide) ?_
    exact tt_iret K dX7_wait_12 (by first | rfl | (simp [c_1]; done) | grind []) (by first | rfl | (simp [c_1]; done) | (refine congrArg _ ?_; grind [])) rfl

set_option maxHeartbeats 4000000 in
set_option maxRecDepth 100000 in
theorem l_mwait (E : EN) (u : U3) (r : R1) (h : HB) (n : Int32) (hc : ¬ n < nI 1 ∧ ¬ nI 99 < n) (hD : vI (h 1 529) 9) (F : FX) (C : Cx E F cX7_wait 3 RX7 wsX7_wait (rmT 1 22)) (K : RtI E F cX7_wait (rem24 (h 1 528 + n)) (ub u 6 (M_wait h n)) r) : ∀ (n_ j : Nat), j ≤ ix (h 1 529) → ix (h 1 529) + 1 ≤ j + n_ → T E F 3 (ub u 6 (iter M_wB j (up2 h 1 528 (h 1 528 + n)))) r 27 [(0, .ref (eA E 6 0)), (1, .int n), (2, .int (nI j))] [] := by
  have hin7 : ∀ w ∈ u_ws RX7 TX7 15, w ∈ wsX7_wait := by decide +kernel
  intro n_
  induction n_ with
  | zero => intro j h1 h2; exact absurd h2 (by omega)
  | succ n_ ih =>
    intro j h1 h2
    generalize ej : iter M_wB j (up2 h 1 528 (h 1 528 + n)) = hj
    have hD' := ix_lt hD (by decide)
    have fd : hj 1 529 = nI (ix (h 1 529)) := by rw [← ej, M_wB_k _ _ _ (by decide) (by omega), up2_n (fun z => absurd z.2 (by decide))]; exact ix_eq hD (by decide)
    have ft : hj 1 528 = h 1 528 + n := by rw [← ej, M_wB_k _ _ _ (by decide) (by omega), up2_s]
    refine tt_iload_n C dX7_wait_27 rfl 2 rfl ?_
    refine tt_aload_n C dX7_wait_28 rfl 0 rfl ?_
    refine tt_get (v := .ref (eA E 6 1)) C oM0 rfl hin7 0 (by decide) (List.mem_of_getElem? (i := 1) (by decide +kernel)) rfl dX7_wait_29 ?_
    refine tt_sipush (v := nI 529) C dX7_wait_32 (by decide) ?_
    refine tt_ialdB (v := nI (ix (h 1 529))) C aM1 529 rfl (by omega) fd dX7_wait_35 ?_
    refine tt_icmp_ge C (tgt := 58) dX7_wait_36 (by decide) (nI_leI (by omega) (by omega)) (fun c_101 => ?_) (fun c_101 => ?_)
    · skip
      refine tt_aload_n C dX7_wait_58 rfl 0 rfl ?_
      refine tt_get (v := .ref (eA E 6 1)) C oM0 rfl hin7 0 (by decide) (List.mem_of_getElem? (i := 1) (by decide +kernel)) rfl dX7_wait_59 ?_
      refine tt_sipush (v := nI 528) C dX7_wait_62 (by decide) ?_
      refine tt_ialdB (v := h 1 528 + n) C aM1 528 rfl (by omega) ft dX7_wait_65 ?_
      refine tt_bipush (v := nI 24) C dX7_wait_66 (by decide) ?_
      refine tt_irem (v := (h 1 528 + n) - (h 1 528 + n) / (nI 24) * (nI 24)) C dX7_wait_68 (by decide) rfl ?_
      exact tt_iret K dX7_wait_69 (by subst ej; rfl) (by subst ej; first | rfl | (have hje : j = ix (h 1 529) := (by omega); subst hje; rfl) | (simp [c_101]; done) | (refine congrArg _ ?_; grind [])) rfl
    · skip
      refine tt_aload_n C dX7_wait_39 rfl 0 rfl ?_
      refine tt_get (v := .ref (eA E 6 1)) C oM0 rfl hin7 0 (by decide) (List.mem_of_getElem? (i := 1) (by decide +kernel)) rfl dX7_wait_40 ?_
      refine tt_bipush (v := nI 60) C dX7_wait_43 (by decide) ?_
      refine tt_iload_n C dX7_wait_45 rfl 2 rfl ?_
      refine tt_imul (v := nI (60 * j)) C dX7_wait_46 (pk_mul _ _) ?_
      refine tt_bipush (v := nI 9) C dX7_wait_47 (by decide) ?_
      refine tt_iadd (v := nI (60 * j + 9)) C dX7_wait_49 (nI_add _ _) ?_
      refine tt_iconst (v := (-1 : Int32)) C dX7_wait_50 (by decide) ?_
      refine tt_iastB C aM1 (60 * j + 9) rfl (by omega) dX7_wait_51 ?_
      generalize e_103 : up2 hj 1 (60 * j + 9) (-1 : Int32) = h_102
      refine tt_iinc (p := 2) (v := nI (j + 1)) (lv' := [(0, .ref (eA E 6 0)), (1, .int n), (2, .int (nI (j + 1)))]) C dX7_wait_52 rfl (by rw [show Int32.ofInt 1 = nI 1 from by decide]; exact nI_add _ _) (by decide) [1, 2, 0] rfl ?_
      refine tt_goto (tgt := 27) C dX7_wait_55 (by decide) ?_
      subst e_103
      subst ej
      exact ih (j + 1) (by omega) (by omega)

set_option maxHeartbeats 4000000 in
set_option maxRecDepth 100000 in
theorem c_X7_wait_O (E : EN) (u : U3) (r : R1) (h : HB) (n : Int32) (hc : ¬ n < nI 1 ∧ ¬ nI 99 < n) (hD : vI (h 1 529) 9) : CT E yX7_wait wsX7_wait (rmT 1 22) [.ref (eA E 6 0), .int n] (ub u 6 h) r (some (.int (rem24 (h 1 528 + n)))) (ub u 6 (M_wait h n)) r := by
  refine CT_ofI (cc := cX7_wait) (nL := 3) (own := RX7) (by decide) rfl rfl rfl (Nat.le_of_ble_eq_true rfl) (fun F C K => ?_)
  have hin7 : ∀ w ∈ u_ws RX7 TX7 15, w ∈ wsX7_wait := by decide +kernel
  refine tt_to (lv1 := [(0, .ref (eA E 6 0)), (1, .int n)]) rfl rfl rfl rfl ?_
  have hD' := ix_lt hD (by decide)
  refine tt_iload_n C dX7_wait_0 rfl 1 rfl ?_
  refine tt_iconst (v := nI 1) C dX7_wait_1 (by decide) ?_
  refine tt_bipush (v := nI 99) C dX7_wait_2 (by decide) ?_
  refine tt_cSI C (c_X7_in E (ub u 6 h) r n (nI 1) (nI 99)) gX7_wait_X7_in rfl ⟨rfl, rfl⟩ 3 (by decide +kernel) ⟨Nat.le_of_ble_eq_true rfl, Nat.le_of_ble_eq_true rfl⟩ rfl (Nat.le_of_ble_eq_true rfl) dX7_wait_4 rfl ?_
  refine tt_if_neB C (tgt := 13) dX7_wait_7 (by decide) (fun c_1 => ?_) (fun c_1 => ?_)
  · skip
    refine tt_aload_n C dX7_wait_13 rfl 0 rfl ?_
    refine tt_get (v := .ref (eA E 6 1)) C oM0 rfl hin7 0 (by decide) (List.mem_of_getElem? (i := 1) (by decide +kernel)) rfl dX7_wait_14 ?_
    refine tt_sipush (v := nI 528) C dX7_wait_17 (by decide) ?_
    refine tt_dup2 C dX7_wait_20 rfl rfl ?_
    refine tt_ialdB (v := h 1 528) C aM1 528 rfl (by omega) rfl dX7_wait_21 ?_
    refine tt_iload_n C dX7_wait_22 rfl 1 rfl ?_
    refine tt_iadd C dX7_wait_23 rfl ?_
    refine tt_iastB C aM1 528 rfl (by omega) dX7_wait_24 ?_
    generalize e_3 : up2 h 1 528 ((h 1 528) + n) = h_2
    refine tt_iconst (v := nI 0) C dX7_wait_25 (by decide) ?_
    refine tt_istore_n (lv' := [(0, .ref (eA E 6 0)), (1, .int n), (2, .int (nI 0))]) C dX7_wait_26 rfl (by decide) [1, 2, 0] rfl ?_
    subst e_3
    exact l_mwait E u r h n hc hD F C K (ix (h 1 529) + 1) 0 (by omega) (by omega)
  · skip
    exact absurd hc c_1
