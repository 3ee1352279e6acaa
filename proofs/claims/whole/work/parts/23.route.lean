/-! WAYS: x is block 5 with far in its row 6; g the House -/
def R_ms (g : HB) (b s d : Nat) (x : HB) : HB := if (x 6 (ix (g 2 d)) = -5 ∧ x 6 (ix (g 3 d)) = nI (s + 1 - 1)) ∧ pPass g b d then up2 x 6 (ix (g 2 d)) (nI (s + 1)) else x
theorem R_ms_pos {g : HB} {b s d : Nat} {x : HB} (hc : (x 6 (ix (g 2 d)) = -5 ∧ x 6 (ix (g 3 d)) = nI (s + 1 - 1)) ∧ pPass g b d) : R_ms g b s d x = up2 x 6 (ix (g 2 d)) (nI (s + 1)) := by unfold R_ms; rw [if_pos hc]
theorem R_ms_neg {g : HB} {b s d : Nat} {x : HB} (hc : ¬ ((x 6 (ix (g 2 d)) = -5 ∧ x 6 (ix (g 3 d)) = nI (s + 1 - 1)) ∧ pPass g b d)) : R_ms g b s d x = x := by unfold R_ms; rw [if_neg hc]
def R_step (g : HB) (b s : Nat) (x : HB) : HB := iter (R_ms g b s) (ix (g 1 0)) x
def R_clr (x : HB) : HB := iter (fun j x => up2 x 6 j (-5)) 6 x
def R_meas (g : HB) (b c : Nat) (x : HB) : HB := iter (R_step g b) 5 (up2 (R_clr x) 6 c (nI 0))

set_option maxHeartbeats 4000000 in
set_option maxRecDepth 100000 in
theorem l_mstep (E : EN) (u : U3) (r : R1) (h : HB) (g : HB) (i : Nat) (b : Nat) (s : Nat) (hi : i < 5) (hi5 : i ≠ 5) (hb : b < 8) (hs : s < 100) (hG : vI (g 1 0) 9) (hA : ∀ d, d < ix (g 1 0) → vI (g 2 d) 6 ∧ vI (g 3 d) 6) (F : FX) (C : Cx E F cX3_measureStep 7 RX3 wsX3_measureStep (rmT 3 65)) (K : RtV E F cX3_measureStep (ub (ub u i g) 5 (R_step g b s h)) r) : ∀ (n j : Nat), j ≤ ix (g 1 0) → ix (g 1 0) + 1 ≤ j + n → T E F 7 (ub (ub u i g) 5 (iter (R_ms g b s) j h)) r 9 [(0, .ref (eA E 5 5)), (1, .ref (eA E i 0)), (2, .int (nI b)), (3, .int (nI (s + 1))), (4, .ref (eA E i 1)), (5, .int (nI j))] [] := by
  have hin1 : ∀ w ∈ u_ws RX1 TX1 17, w ∈ wsX3_measureStep := by decide +kernel
  have hin3 : ∀ w ∈ u_ws RX3 TX3 1, w ∈ wsX3_measureStep := by decide +kernel
  intro n
  induction n with
  | zero => intro j h1 h2; exact absurd h2 (by omega)
  | succ n ih =>
    intro j h1 h2
    generalize ej : iter (R_ms g b s) j h = hj
    have hG' := ix_lt hG (by decide)
    refine tt_iload C dX3_measureStep_9 5 rfl ?_
    refine tt_aload C dX3_measureStep_11 4 rfl ?_
    refine tt_getI (v := nI (ix (g 1 0))) C (oH1 hi) rfl hin1 0 (by decide) (List.mem_of_getElem? (i := 2) (by decide +kernel)) rfl ((ub_w hi5).trans (ix_eq hG (by decide))) dX3_measureStep_13 ?_
    refine tt_icmp_ge C (tgt := 98) dX3_measureStep_16 (by decide) (nI_leI (by omega) (by omega)) (fun c_101 => ?_) (fun c_101 => ?_)
    · skip
      exact tt_vret K dX3_measureStep_98 (by subst ej; first | rfl | (have hje : j = ix (g 1 0) := (by omega); subst hje; rfl) | (simp [c_101]; done) | (refine congrArg _ ?_; grind [])) rfl
    · skip
      obtain ⟨hj1, hj2⟩ := hA j (by omega)
      have hj1' := ix_lt hj1 (by decide)
      have hj2' := ix_lt hj2 (by decide)
      refine tt_aload_n C dX3_measureStep_19 rfl 0 rfl ?_
      refine tt_get (v := .ref (eA E 5 6)) C oT5 rfl hin3 0 (by decide) (List.mem_of_getElem? (i := 3) (by decide +kernel)) rfl dX3_measureStep_20 ?_
      refine tt_aload C dX3_measureStep_23 4 rfl ?_
      refine tt_get (v := .ref (eA E i 2)) C (oH1 hi) rfl hin1 1 (by decide) (List.mem_of_getElem? (i := 4) (by decide +kernel)) rfl dX3_measureStep_25 ?_
      refine tt_iload C dX3_measureStep_28 5 rfl ?_
      refine tt_iald (v := g 2 j) C (aH2 hi) j rfl (by omega) (ub_w hi5) dX3_measureStep_30 ?_
      refine tt_ialdB (v := hj 6 (ix (g 2 j))) C aT6 (ix (g 2 j)) (ix_eq hj1 (by decide)) hj1' rfl dX3_measureStep_31 ?_
      refine tt_bipush (v := (-5 : Int32)) C dX3_measureStep_32 (by decide) ?_
      refine tt_icmp_ne C (tgt := 60) dX3_measureStep_34 (by decide) Iff.rfl (fun c_102 => ?_) (fun c_102 => ?_)
      · skip
        refine tt_iconst (v := nI 0) C dX3_measureStep_60 (by decide) ?_
        refine tt_istore (lv' := [(0, .ref (eA E 5 5)), (1, .ref (eA E i 0)), (2, .int (nI b)), (3, .int (nI (s + 1))), (4, .ref (eA E i 1)), (5, .int (nI j)), (6, .int (nI 0))]) C dX3_measureStep_61 (by decide) [1, 2, 3, 4, 5, 6, 0] rfl ?_
        refine tt_iload C dX3_measureStep_63 6 rfl ?_
        refine tt_if_eq C (tgt := 92) dX3_measureStep_65 (by decide) (nI_eq0 (by omega)) (fun c_103 => ?_) (fun c_103 => ?_)
        · skip
          refine tt_iinc (p := 5) (v := nI (j + 1)) (lv' := [(0, .ref (eA E 5 5)), (1, .ref (eA E i 0)), (2, .int (nI b)), (3, .int (nI (s + 1))), (4, .ref (eA E i 1)), (5, .int (nI (j + 1))), (6, .int (nI 0))]) C dX3_measureStep_92 rfl (by rw [show Int32.ofInt 1 = nI 1 from by decide]; exact nI_add _ _) (by decide) [1, 2, 3, 4, 5, 0, 6] rfl ?_
          refine tt_goto (tgt := 9) C dX3_measureStep_95 (by decide) ?_
          refine tt_lvsub [0, 1, 2, 3, 4, 5] rfl ?_
          subst ej
          refine tt_to (u1 := ub (ub u i g) 5 (iter (R_ms g b s) (j + 1) h)) (congrArg _ ?_) rfl rfl rfl (ih (j + 1) (by omega) (by omega))
          rw [iter, R_ms_neg (fun z => c_102 z.1.1)]
        · skip
          exact absurd (by decide) c_103
      · skip
        refine tt_aload_n C dX3_measureStep_37 rfl 0 rfl ?_
        refine tt_get (v := .ref (eA E 5 6)) C oT5 rfl hin3 0 (by decide) (List.mem_of_getElem? (i := 3) (by decide +kernel)) rfl dX3_measureStep_38 ?_
        refine tt_aload C dX3_measureStep_41 4 rfl ?_
        refine tt_get (v := .ref (eA E i 3)) C (oH1 hi) rfl hin1 2 (by decide) (List.mem_of_getElem? (i := 5) (by decide +kernel)) rfl dX3_measureStep_43 ?_
        refine tt_iload C dX3_measureStep_46 5 rfl ?_
        refine tt_iald (v := g 3 j) C (aH3 hi) j rfl (by omega) (ub_w hi5) dX3_measureStep_48 ?_
        refine tt_ialdB (v := hj 6 (ix (g 3 j))) C aT6 (ix (g 3 j)) (ix_eq hj2 (by decide)) hj2' rfl dX3_measureStep_49 ?_
        refine tt_iload_n C dX3_measureStep_50 rfl 3 rfl ?_
        refine tt_iconst (v := nI 1) C dX3_measureStep_51 (by decide) ?_
        refine tt_isub (v := nI ((s + 1) - 1)) C dX3_measureStep_52 (pk_sub (by omega)) ?_
        refine tt_icmp_ne C (tgt := 60) dX3_measureStep_53 (by decide) Iff.rfl (fun c_104 => ?_) (fun c_104 => ?_)
        · skip
          refine tt_iconst (v := nI 0) C dX3_measureStep_60 (by decide) ?_
          refine tt_istore (lv' := [(0, .ref (eA E 5 5)), (1, .ref (eA E i 0)), (2, .int (nI b)), (3, .int (nI (s + 1))), (4, .ref (eA E i 1)), (5, .int (nI j)), (6, .int (nI 0))]) C dX3_measureStep_61 (by decide) [1, 2, 3, 4, 5, 6, 0] rfl ?_
          refine tt_iload C dX3_measureStep_63 6 rfl ?_
          refine tt_if_eq C (tgt := 92) dX3_measureStep_65 (by decide) (nI_eq0 (by omega)) (fun c_105 => ?_) (fun c_105 => ?_)
          · skip
            refine tt_iinc (p := 5) (v := nI (j + 1)) (lv' := [(0, .ref (eA E 5 5)), (1, .ref (eA E i 0)), (2, .int (nI b)), (3, .int (nI (s + 1))), (4, .ref (eA E i 1)), (5, .int (nI (j + 1))), (6, .int (nI 0))]) C dX3_measureStep_92 rfl (by rw [show Int32.ofInt 1 = nI 1 from by decide]; exact nI_add _ _) (by decide) [1, 2, 3, 4, 5, 0, 6] rfl ?_
            refine tt_goto (tgt := 9) C dX3_measureStep_95 (by decide) ?_
            refine tt_lvsub [0, 1, 2, 3, 4, 5] rfl ?_
            subst ej
            refine tt_to (u1 := ub (ub u i g) 5 (iter (R_ms g b s) (j + 1) h)) (congrArg _ ?_) rfl rfl rfl (ih (j + 1) (by omega) (by omega))
            rw [iter, R_ms_neg (fun z => c_104 z.1.2)]
          · skip
            exact absurd (by decide) c_105
        · skip
          refine tt_iconst (v := nI 1) C dX3_measureStep_56 (by decide) ?_
          refine tt_goto (tgt := 61) C dX3_measureStep_57 (by decide) ?_
          refine tt_istore (lv' := [(0, .ref (eA E 5 5)), (1, .ref (eA E i 0)), (2, .int (nI b)), (3, .int (nI (s + 1))), (4, .ref (eA E i 1)), (5, .int (nI j)), (6, .int (nI 1))]) C dX3_measureStep_61 (by decide) [1, 2, 3, 4, 5, 6, 0] rfl ?_
          refine tt_iload C dX3_measureStep_63 6 rfl ?_
          refine tt_if_eq C (tgt := 92) dX3_measureStep_65 (by decide) (nI_eq0 (by omega)) (fun c_106 => ?_) (fun c_106 => ?_)
          · skip
            exact absurd c_106 (by decide)
          · skip
            refine tt_aload_n C dX3_measureStep_68 rfl 1 rfl ?_
            refine tt_iload_n C dX3_measureStep_69 rfl 2 rfl ?_
            refine tt_iload C dX3_measureStep_70 5 rfl ?_
            refine tt_cVI C (CT_comm hi5 (c_X2_couldPass E (ub u 5 hj) r g i b j hi hb (by first | assumption | omega))) gX3_measureStep_X2_couldPass rfl ⟨rfl, rfl⟩ 2 (by decide +kernel) ⟨Nat.le_of_ble_eq_true rfl, Nat.le_of_ble_eq_true rfl⟩ rfl (oH0 hi) rfl (Nat.le_of_ble_eq_true rfl) dX3_measureStep_72 rfl ?_
            refine tt_if_eqB C (tgt := 92) dX3_measureStep_75 (by decide) (fun c_107 => ?_) (fun c_107 => ?_)
            · skip
              refine tt_iinc (p := 5) (v := nI (j + 1)) (lv' := [(0, .ref (eA E 5 5)), (1, .ref (eA E i 0)), (2, .int (nI b)), (3, .int (nI (s + 1))), (4, .ref (eA E i 1)), (5, .int (nI (j + 1))), (6, .int (nI 1))]) C dX3_measureStep_92 rfl (by rw [show Int32.ofInt 1 = nI 1 from by decide]; exact nI_add _ _) (by decide) [1, 2, 3, 4, 5, 0, 6] rfl ?_
              refine tt_goto (tgt := 9) C dX3_measureStep_95 (by decide) ?_
              refine tt_lvsub [0, 1, 2, 3, 4, 5] rfl ?_
              subst ej
              refine tt_to (u1 := ub (ub u i g) 5 (iter (R_ms g b s) (j + 1) h)) (congrArg _ ?_) rfl rfl rfl (ih (j + 1) (by omega) (by omega))
              rw [iter, R_ms_neg (fun z => c_107 z.2)]
            · skip
              refine tt_aload_n C dX3_measureStep_78 rfl 0 rfl ?_
              refine tt_get (v := .ref (eA E 5 6)) C oT5 rfl hin3 0 (by decide) (List.mem_of_getElem? (i := 3) (by decide +kernel)) rfl dX3_measureStep_79 ?_
              refine tt_aload C dX3_measureStep_82 4 rfl ?_
              refine tt_get (v := .ref (eA E i 2)) C (oH1 hi) rfl hin1 1 (by decide) (List.mem_of_getElem? (i := 4) (by decide +kernel)) rfl dX3_measureStep_84 ?_
              refine tt_iload C dX3_measureStep_87 5 rfl ?_
              refine tt_iald (v := g 2 j) C (aH2 hi) j rfl (by omega) (ub_w hi5) dX3_measureStep_89 ?_
              refine tt_iload_n C dX3_measureStep_90 rfl 3 rfl ?_
              refine tt_iastB C aT6 (ix (g 2 j)) (ix_eq hj1 (by decide)) hj1' dX3_measureStep_91 ?_
              generalize e_109 : up2 hj 6 (ix (g 2 j)) (nI (s + 1)) = h_108
              refine tt_iinc (p := 5) (v := nI (j + 1)) (lv' := [(0, .ref (eA E 5 5)), (1, .ref (eA E i 0)), (2, .int (nI b)), (3, .int (nI (s + 1))), (4, .ref (eA E i 1)), (5, .int (nI (j + 1))), (6, .int (nI 1))]) C dX3_measureStep_92 rfl (by rw [show Int32.ofInt 1 = nI 1 from by decide]; exact nI_add _ _) (by decide) [1, 2, 3, 4, 5, 0, 6] rfl ?_
              refine tt_goto (tgt := 9) C dX3_measureStep_95 (by decide) ?_
              refine tt_lvsub [0, 1, 2, 3, 4, 5] rfl ?_
              subst e_109
              subst ej
              refine tt_to (u1 := ub (ub u i g) 5 (iter (R_ms g b s) (j + 1) h)) (congrArg _ ?_) rfl rfl rfl (ih (j + 1) (by omega) (by omega))
              rw [iter, R_ms_pos ⟨⟨c_102, c_104⟩, c_107⟩]

set_option maxHeartbeats 4000000 in
set_option maxRecDepth 100000 in
theorem c_X3_measureStep (E : EN) (u : U3) (r : R1) (h : HB) (g : HB) (i : Nat) (b : Nat) (s : Nat) (hi : i < 5) (hi5 : i ≠ 5) (hb : b < 8) (hs : s < 100) (hG : vI (g 1 0) 9) (hA : ∀ d, d < ix (g 1 0) → vI (g 2 d) 6 ∧ vI (g 3 d) 6) : CT E yX3_measureStep wsX3_measureStep (rmT 3 65) [.ref (eA E 5 5), .ref (eA E i 0), .int (nI b), .int (nI (s + 1))] (ub (ub u i g) 5 h) r none (ub (ub u i g) 5 (R_step g b s h)) r := by
  refine CT_ofV (cc := cX3_measureStep) (nL := 7) (own := RX3) (by decide) rfl rfl (Nat.le_of_ble_eq_true rfl) (fun F C K => ?_)
  have hin2 : ∀ w ∈ u_ws RX2 TX2 8, w ∈ wsX3_measureStep := by decide +kernel
  refine tt_to (lv1 := [(0, .ref (eA E 5 5)), (1, .ref (eA E i 0)), (2, .int (nI b)), (3, .int (nI (s + 1)))]) rfl rfl rfl rfl ?_
  have hG' := ix_lt hG (by decide)
  refine tt_aload_n C dX3_measureStep_0 rfl 1 rfl ?_
  refine tt_get (v := .ref (eA E i 1)) C (oH0 hi) rfl hin2 0 (by decide) (List.mem_of_getElem? (i := 1) (by decide +kernel)) rfl dX3_measureStep_1 ?_
  refine tt_astore (lv' := [(0, .ref (eA E 5 5)), (1, .ref (eA E i 0)), (2, .int (nI b)), (3, .int (nI (s + 1))), (4, .ref (eA E i 1))]) C dX3_measureStep_4 (by decide) [1, 2, 3, 4, 0] rfl ?_
  refine tt_iconst (v := nI 0) C dX3_measureStep_6 (by decide) ?_
  refine tt_istore (lv' := [(0, .ref (eA E 5 5)), (1, .ref (eA E i 0)), (2, .int (nI b)), (3, .int (nI (s + 1))), (4, .ref (eA E i 1)), (5, .int (nI 0))]) C dX3_measureStep_7 (by decide) [1, 2, 3, 4, 5, 0] rfl ?_
  exact l_mstep E u r h g i b s hi hi5 hb hs hG hA F C K (ix (g 1 0) + 1) 0 (by omega) (by omega)

set_option maxHeartbeats 4000000 in
set_option maxRecDepth 100000 in
theorem c_X3_length (E : EN) (u : U3) (r : R1) (h : HB) (a : Nat) (ha : a < 6) : CT E yX3_length wsX3_length (rmT 0 0) [.ref (eA E 5 5), .int (nI a)] (ub u 5 h) r (some (.int (h 6 a))) (ub u 5 h) r := by
  refine CT_ofI (cc := cX3_length) (nL := 2) (own := RX3) (by decide) rfl rfl rfl (Nat.le_of_ble_eq_true rfl) (fun F C K => ?_)
  have hin3 : ∀ w ∈ u_ws RX3 TX3 1, w ∈ wsX3_length := by decide +kernel
  refine tt_to (lv1 := [(0, .ref (eA E 5 5)), (1, .int (nI a))]) rfl rfl rfl rfl ?_
  refine tt_aload_n C dX3_length_0 rfl 0 rfl ?_
  refine tt_get (v := .ref (eA E 5 6)) C oT5 rfl hin3 0 (by decide) (List.mem_of_getElem? (i := 1) (by decide +kernel)) rfl dX3_length_1 ?_
  refine tt_iload_n C dX3_length_4 rfl 1 rfl ?_
  refine tt_ialdB (v := h 6 a) C aT6 a rfl (by omega) rfl dX3_length_5 ?_
  exact tt_iret K dX3_length_6 (by first | rfl | (simp []; done) | grind []) (by first | rfl | (simp []; done) | (refine congrArg _ ?_; grind [])) rfl

set_option maxHeartbeats 4000000 in
set_option maxRecDepth 100000 in
theorem l_meas2 (E : EN) (u : U3) (r : R1) (h : HB) (g : HB) (i : Nat) (b : Nat) (c : Nat) (hi : i < 5) (hi5 : i ≠ 5) (hb : b < 8) (hc : c < 6) (hG : vI (g 1 0) 9) (hA : ∀ d, d < ix (g 1 0) → vI (g 2 d) 6 ∧ vI (g 3 d) 6) (F : FX) (C : Cx E F cX3_measure 5 RX3 wsX3_measure (rmT 4 91)) (K : RtV E F cX3_measure (ub (ub u i g) 5 (R_meas g b c h)) r) : ∀ (n j : Nat), j ≤ 5 → 5 + 1 ≤ j + n → T E F 5 (ub (ub u i g) 5 (iter (R_step g b) j (up2 (R_clr h) 6 c (nI 0)))) r 35 [(0, .ref (eA E 5 5)), (1, .ref (eA E i 0)), (2, .int (nI b)), (3, .int (nI c)), (4, .int (nI (j + 1)))] [] := by
  intro n
  induction n with
  | zero => intro j h1 h2; exact absurd h2 (by omega)
  | succ n ih =>
    intro j h1 h2
    generalize ej : iter (R_step g b) j (up2 (R_clr h) 6 c (nI 0)) = hj
    have hG' := ix_lt hG (by decide)
    refine tt_iload C dX3_measure_35 4 rfl ?_
    refine tt_bipush (v := nI 6) C dX3_measure_37 (by decide) ?_
    refine tt_icmp_ge C (tgt := 56) dX3_measure_39 (by decide) (nI_leI (by omega) (by omega)) (fun c_101 => ?_) (fun c_101 => ?_)
    · skip
      exact tt_vret K dX3_measure_56 (by subst ej; first | rfl | (have hje : j = 5 := (by omega); subst hje; rfl) | (simp [c_101]; done) | (refine congrArg _ ?_; grind [])) rfl
    · skip
      refine tt_aload_n C dX3_measure_42 rfl 0 rfl ?_
      refine tt_aload_n C dX3_measure_43 rfl 1 rfl ?_
      refine tt_iload_n C dX3_measure_44 rfl 2 rfl ?_
      refine tt_iload C dX3_measure_45 4 rfl ?_
      refine tt_cVV C (c_X3_measureStep E u r hj g i b j hi hi5 hb (by first | assumption | omega) hG hA) gX3_measure_X3_measureStep rfl ⟨rfl, rfl⟩ 3 (by decide +kernel) ⟨Nat.le_of_ble_eq_true rfl, Nat.le_of_ble_eq_true rfl⟩ rfl oT5 rfl (Nat.le_of_ble_eq_true rfl) dX3_measure_47 rfl ?_
      generalize e_103 : R_step g b j hj = h_102
      refine tt_iinc (p := 4) (v := nI (j + 1 + 1)) (lv' := [(0, .ref (eA E 5 5)), (1, .ref (eA E i 0)), (2, .int (nI b)), (3, .int (nI c)), (4, .int (nI (j + 1 + 1)))]) C dX3_measure_50 rfl (by rw [show Int32.ofInt 1 = nI 1 from by decide]; exact nI_add _ _) (by decide) [1, 2, 3, 4, 0] rfl ?_
      refine tt_goto (tgt := 35) C dX3_measure_53 (by decide) ?_
      subst e_103
      subst ej
      exact ih (j + 1) (by omega) (by omega)

set_option maxHeartbeats 4000000 in
set_option maxRecDepth 100000 in
theorem l_meas1 (E : EN) (u : U3) (r : R1) (h : HB) (g : HB) (i : Nat) (b : Nat) (c : Nat) (hi : i < 5) (hi5 : i ≠ 5) (hb : b < 8) (hc : c < 6) (hG : vI (g 1 0) 9) (hA : ∀ d, d < ix (g 1 0) → vI (g 2 d) 6 ∧ vI (g 3 d) 6) (F : FX) (C : Cx E F cX3_measure 5 RX3 wsX3_measure (rmT 4 91)) (K : RtV E F cX3_measure (ub (ub u i g) 5 (R_meas g b c h)) r) : ∀ (n j : Nat), j ≤ 6 → 6 + 1 ≤ j + n → T E F 5 (ub (ub u i g) 5 (iter (fun j x => up2 x 6 j (-5)) j h)) r 3 [(0, .ref (eA E 5 5)), (1, .ref (eA E i 0)), (2, .int (nI b)), (3, .int (nI c)), (4, .int (nI j))] [] := by
  have hin3 : ∀ w ∈ u_ws RX3 TX3 1, w ∈ wsX3_measure := by decide +kernel
  intro n
  induction n with
  | zero => intro j h1 h2; exact absurd h2 (by omega)
  | succ n ih =>
    intro j h1 h2
    generalize ej : iter (fun j x => up2 x 6 j (-5)) j h = hj
    have hG' := ix_lt hG (by decide)
    refine tt_iload C dX3_measure_3 4 rfl ?_
    refine tt_bipush (v := nI 6) C dX3_measure_5 (by decide) ?_
    refine tt_icmp_ge C (tgt := 25) dX3_measure_7 (by decide) (nI_leI (by omega) (by omega)) (fun c_101 => ?_) (fun c_101 => ?_)
    · skip
      have hje : j = 6 := (by omega); subst hje
      subst ej
      refine tt_aload_n C dX3_measure_25 rfl 0 rfl ?_
      refine tt_get (v := .ref (eA E 5 6)) C oT5 rfl hin3 0 (by decide) (List.mem_of_getElem? (i := 1) (by decide +kernel)) rfl dX3_measure_26 ?_
      refine tt_iload_n C dX3_measure_29 rfl 3 rfl ?_
      refine tt_iconst (v := nI 0) C dX3_measure_30 (by decide) ?_
      refine tt_iastB C aT6 c rfl hc dX3_measure_31 ?_
      refine tt_iconst (v := nI 1) C dX3_measure_32 (by decide) ?_
      refine tt_istore (lv' := [(0, .ref (eA E 5 5)), (1, .ref (eA E i 0)), (2, .int (nI b)), (3, .int (nI c)), (4, .int (nI (0 + 1)))]) C dX3_measure_33 (by decide) [1, 2, 3, 4, 0] rfl ?_
      exact l_meas2 E u r h g i b c hi hi5 hb hc hG hA F C K 6 0 (by omega) (by omega)
    · skip
      refine tt_aload_n C dX3_measure_10 rfl 0 rfl ?_
      refine tt_get (v := .ref (eA E 5 6)) C oT5 rfl hin3 0 (by decide) (List.mem_of_getElem? (i := 1) (by decide +kernel)) rfl dX3_measure_11 ?_
      refine tt_iload C dX3_measure_14 4 rfl ?_
      refine tt_bipush (v := (-5 : Int32)) C dX3_measure_16 (by decide) ?_
      refine tt_iastB C aT6 j rfl (by omega) dX3_measure_18 ?_
      generalize e_103 : up2 hj 6 j (-5 : Int32) = h_102
      refine tt_iinc (p := 4) (v := nI (j + 1)) (lv' := [(0, .ref (eA E 5 5)), (1, .ref (eA E i 0)), (2, .int (nI b)), (3, .int (nI c)), (4, .int (nI (j + 1)))]) C dX3_measure_19 rfl (by rw [show Int32.ofInt 1 = nI 1 from by decide]; exact nI_add _ _) (by decide) [1, 2, 3, 4, 0] rfl ?_
      refine tt_goto (tgt := 3) C dX3_measure_22 (by decide) ?_
      subst e_103
      subst ej
      exact ih (j + 1) (by omega) (by omega)

set_option maxHeartbeats 4000000 in
set_option maxRecDepth 100000 in
theorem c_X3_measure (E : EN) (u : U3) (r : R1) (h : HB) (g : HB) (i : Nat) (b : Nat) (c : Nat) (hi : i < 5) (hi5 : i ≠ 5) (hb : b < 8) (hc : c < 6) (hG : vI (g 1 0) 9) (hA : ∀ d, d < ix (g 1 0) → vI (g 2 d) 6 ∧ vI (g 3 d) 6) : CT E yX3_measure wsX3_measure (rmT 4 91) [.ref (eA E 5 5), .ref (eA E i 0), .int (nI b), .int (nI c)] (ub (ub u i g) 5 h) r none (ub (ub u i g) 5 (R_meas g b c h)) r := by
  refine CT_ofV (cc := cX3_measure) (nL := 5) (own := RX3) (by decide) rfl rfl (Nat.le_of_ble_eq_true rfl) (fun F C K => ?_)
  refine tt_to (lv1 := [(0, .ref (eA E 5 5)), (1, .ref (eA E i 0)), (2, .int (nI b)), (3, .int (nI c))]) rfl rfl rfl rfl ?_
  have hG' := ix_lt hG (by decide)
  refine tt_iconst (v := nI 0) C dX3_measure_0 (by decide) ?_
  refine tt_istore (lv' := [(0, .ref (eA E 5 5)), (1, .ref (eA E i 0)), (2, .int (nI b)), (3, .int (nI c)), (4, .int (nI 0))]) C dX3_measure_1 (by decide) [1, 2, 3, 4, 0] rfl ?_
  exact l_meas1 E u r h g i b c hi hi5 hb hc hG hA F C K 7 0 (by omega) (by omega)

def fdN (g : HB) (b : Nat) (x : Nat → Int32) (a : Nat) : Nat → Nat → Nat
  | 0, _ => 8
  | n + 1, d => if (g 2 d = nI a ∧ x (ix (g 3 d)) = x a - nI 1) ∧ pPass g b d then d else fdN g b x a n (d + 1)
def fdI (d : Nat) : Int32 := if d < 8 then nI d else -5

set_option maxHeartbeats 4000000 in
set_option maxRecDepth 100000 in
theorem l_fd (E : EN) (u : U3) (r : R1) (h : HB) (g : HB) (i b a : Nat) (hi : i < 5) (hi5 : i ≠ 5) (hb : b < 8) (ha : a < 6) (hG : vI (g 1 0) 9) (hA : ∀ d, d < ix (g 1 0) → vI (g 2 d) 6 ∧ vI (g 3 d) 6) (F : FX) (C : Cx E F cX3_firstDoor 7 RX3 wsX3_firstDoor (rmT 3 65)) : ∀ (n j : Nat), j + n = ix (g 1 0) → RtI E F cX3_firstDoor (fdI (fdN g b (h 6) a n j)) (ub (ub u i g) 5 h) r → T E F 7 (ub (ub u i g) 5 h) r 9 [(0, .ref (eA E 5 5)), (1, .ref (eA E i 0)), (2, .int (nI b)), (3, .int (nI a)), (4, .ref (eA E i 1)), (5, .int (nI j))] [] := by
  have hin1 : ∀ w ∈ u_ws RX1 TX1 17, w ∈ wsX3_firstDoor := by decide +kernel
  have hin3 : ∀ w ∈ u_ws RX3 TX3 1, w ∈ wsX3_firstDoor := by decide +kernel
  have hG' := ix_lt hG (by decide)
  intro n
  induction n with
  | zero =>
    intro j h1 K
    refine tt_iload C dX3_firstDoor_9 5 rfl ?_
    refine tt_aload C dX3_firstDoor_11 4 rfl ?_
    refine tt_getI (v := nI (ix (g 1 0))) C (oH1 hi) rfl hin1 0 (by decide) (List.mem_of_getElem? (i := 2) (by decide +kernel)) rfl ((ub_w hi5).trans (ix_eq hG (by decide))) dX3_firstDoor_13 ?_
    refine tt_icmp_ge C (tgt := 86) dX3_firstDoor_16 (by decide) (nI_leI (by omega) (by omega)) (fun _ => ?_) (fun z => absurd (by omega) z)
    refine tt_bipush (v := (-5 : Int32)) C dX3_firstDoor_86 (by decide) ?_
    exact tt_iret K dX3_firstDoor_88 rfl rfl rfl
  | succ n ih =>
    intro j h1 K
    refine tt_iload C dX3_firstDoor_9 5 rfl ?_
    refine tt_aload C dX3_firstDoor_11 4 rfl ?_
    refine tt_getI (v := nI (ix (g 1 0))) C (oH1 hi) rfl hin1 0 (by decide) (List.mem_of_getElem? (i := 2) (by decide +kernel)) rfl ((ub_w hi5).trans (ix_eq hG (by decide))) dX3_firstDoor_13 ?_
    refine tt_icmp_ge C (tgt := 86) dX3_firstDoor_16 (by decide) (nI_leI (by omega) (by omega)) (fun c_301 => ?_) (fun c_301 => ?_)
    · skip
      exact absurd c_301 (by omega)
    · skip
      obtain ⟨hj1, hj2⟩ := hA j (by omega)
      have hj1' := ix_lt hj1 (by decide)
      have hj2' := ix_lt hj2 (by decide)
      refine tt_aload C dX3_firstDoor_19 4 rfl ?_
      refine tt_get (v := .ref (eA E i 2)) C (oH1 hi) rfl hin1 1 (by decide) (List.mem_of_getElem? (i := 3) (by decide +kernel)) rfl dX3_firstDoor_21 ?_
      refine tt_iload C dX3_firstDoor_24 5 rfl ?_
      refine tt_iald (v := g 2 j) C (aH2 hi) j rfl (by omega) (ub_w hi5) dX3_firstDoor_26 ?_
      refine tt_iload_n C dX3_firstDoor_27 rfl 3 rfl ?_
      refine tt_icmp_ne C (tgt := 59) dX3_firstDoor_28 (by decide) Iff.rfl (fun c_302 => ?_) (fun c_302 => ?_)
      · skip
        refine tt_iconst (v := nI 0) C dX3_firstDoor_59 (by decide) ?_
        refine tt_istore (lv' := [(0, .ref (eA E 5 5)), (1, .ref (eA E i 0)), (2, .int (nI b)), (3, .int (nI a)), (4, .ref (eA E i 1)), (5, .int (nI j)), (6, .int (nI 0))]) C dX3_firstDoor_60 (by decide) [1, 2, 3, 4, 5, 6, 0] rfl ?_
        refine tt_iload C dX3_firstDoor_62 6 rfl ?_
        refine tt_if_eq C (tgt := 80) dX3_firstDoor_64 (by decide) (nI_eq0 (by omega)) (fun c_303 => ?_) (fun c_303 => ?_)
        · skip
          refine tt_iinc (p := 5) (v := nI (j + 1)) (lv' := [(0, .ref (eA E 5 5)), (1, .ref (eA E i 0)), (2, .int (nI b)), (3, .int (nI a)), (4, .ref (eA E i 1)), (5, .int (nI (j + 1))), (6, .int (nI 0))]) C dX3_firstDoor_80 rfl (by rw [show Int32.ofInt 1 = nI 1 from by decide]; exact nI_add _ _) (by decide) [1, 2, 3, 4, 5, 0, 6] rfl ?_
          refine tt_goto (tgt := 9) C dX3_firstDoor_83 (by decide) ?_
          refine tt_lvsub [0, 1, 2, 3, 4, 5] rfl (ih (j + 1) (by omega) ?_)
          rw [fdN, if_neg (fun z => c_302 z.1.1)] at K
          exact K
        · skip
          exact absurd (by decide) c_303
      · skip
        refine tt_aload_n C dX3_firstDoor_31 rfl 0 rfl ?_
        refine tt_get (v := .ref (eA E 5 6)) C oT5 rfl hin3 0 (by decide) (List.mem_of_getElem? (i := 4) (by decide +kernel)) rfl dX3_firstDoor_32 ?_
        refine tt_aload C dX3_firstDoor_35 4 rfl ?_
        refine tt_get (v := .ref (eA E i 3)) C (oH1 hi) rfl hin1 2 (by decide) (List.mem_of_getElem? (i := 5) (by decide +kernel)) rfl dX3_firstDoor_37 ?_
        refine tt_iload C dX3_firstDoor_40 5 rfl ?_
        refine tt_iald (v := g 3 j) C (aH3 hi) j rfl (by omega) (ub_w hi5) dX3_firstDoor_42 ?_
        refine tt_ialdB (v := h 6 (ix (g 3 j))) C aT6 (ix (g 3 j)) (ix_eq hj2 (by decide)) hj2' rfl dX3_firstDoor_43 ?_
        refine tt_aload_n C dX3_firstDoor_44 rfl 0 rfl ?_
        refine tt_get (v := .ref (eA E 5 6)) C oT5 rfl hin3 0 (by decide) (List.mem_of_getElem? (i := 4) (by decide +kernel)) rfl dX3_firstDoor_45 ?_
        refine tt_iload_n C dX3_firstDoor_48 rfl 3 rfl ?_
        refine tt_ialdB (v := h 6 a) C aT6 a rfl (by omega) rfl dX3_firstDoor_49 ?_
        refine tt_iconst (v := nI 1) C dX3_firstDoor_50 (by decide) ?_
        refine tt_isub C dX3_firstDoor_51 rfl ?_
        refine tt_icmp_ne C (tgt := 59) dX3_firstDoor_52 (by decide) Iff.rfl (fun c_304 => ?_) (fun c_304 => ?_)
        · skip
          refine tt_iconst (v := nI 0) C dX3_firstDoor_59 (by decide) ?_
          refine tt_istore (lv' := [(0, .ref (eA E 5 5)), (1, .ref (eA E i 0)), (2, .int (nI b)), (3, .int (nI a)), (4, .ref (eA E i 1)), (5, .int (nI j)), (6, .int (nI 0))]) C dX3_firstDoor_60 (by decide) [1, 2, 3, 4, 5, 6, 0] rfl ?_
          refine tt_iload C dX3_firstDoor_62 6 rfl ?_
          refine tt_if_eq C (tgt := 80) dX3_firstDoor_64 (by decide) (nI_eq0 (by omega)) (fun c_305 => ?_) (fun c_305 => ?_)
          · skip
            refine tt_iinc (p := 5) (v := nI (j + 1)) (lv' := [(0, .ref (eA E 5 5)), (1, .ref (eA E i 0)), (2, .int (nI b)), (3, .int (nI a)), (4, .ref (eA E i 1)), (5, .int (nI (j + 1))), (6, .int (nI 0))]) C dX3_firstDoor_80 rfl (by rw [show Int32.ofInt 1 = nI 1 from by decide]; exact nI_add _ _) (by decide) [1, 2, 3, 4, 5, 0, 6] rfl ?_
            refine tt_goto (tgt := 9) C dX3_firstDoor_83 (by decide) ?_
            refine tt_lvsub [0, 1, 2, 3, 4, 5] rfl (ih (j + 1) (by omega) ?_)
            rw [fdN, if_neg (fun z => c_304 z.1.2)] at K
            exact K
          · skip
            exact absurd (by decide) c_305
        · skip
          refine tt_iconst (v := nI 1) C dX3_firstDoor_55 (by decide) ?_
          refine tt_goto (tgt := 60) C dX3_firstDoor_56 (by decide) ?_
          refine tt_istore (lv' := [(0, .ref (eA E 5 5)), (1, .ref (eA E i 0)), (2, .int (nI b)), (3, .int (nI a)), (4, .ref (eA E i 1)), (5, .int (nI j)), (6, .int (nI 1))]) C dX3_firstDoor_60 (by decide) [1, 2, 3, 4, 5, 6, 0] rfl ?_
          refine tt_iload C dX3_firstDoor_62 6 rfl ?_
          refine tt_if_eq C (tgt := 80) dX3_firstDoor_64 (by decide) (nI_eq0 (by omega)) (fun c_306 => ?_) (fun c_306 => ?_)
          · skip
            exact absurd c_306 (by decide)
          · skip
            refine tt_aload_n C dX3_firstDoor_67 rfl 1 rfl ?_
            refine tt_iload_n C dX3_firstDoor_68 rfl 2 rfl ?_
            refine tt_iload C dX3_firstDoor_69 5 rfl ?_
            refine tt_cVI C (CT_comm hi5 (c_X2_couldPass E (ub u 5 h) r g i b j hi hb (by first | assumption | omega))) gX3_firstDoor_X2_couldPass rfl ⟨rfl, rfl⟩ 2 (by decide +kernel) ⟨Nat.le_of_ble_eq_true rfl, Nat.le_of_ble_eq_true rfl⟩ rfl (oH0 hi) rfl (Nat.le_of_ble_eq_true rfl) dX3_firstDoor_71 rfl ?_
            refine tt_if_eqB C (tgt := 80) dX3_firstDoor_74 (by decide) (fun c_307 => ?_) (fun c_307 => ?_)
            · skip
              refine tt_iinc (p := 5) (v := nI (j + 1)) (lv' := [(0, .ref (eA E 5 5)), (1, .ref (eA E i 0)), (2, .int (nI b)), (3, .int (nI a)), (4, .ref (eA E i 1)), (5, .int (nI (j + 1))), (6, .int (nI 1))]) C dX3_firstDoor_80 rfl (by rw [show Int32.ofInt 1 = nI 1 from by decide]; exact nI_add _ _) (by decide) [1, 2, 3, 4, 5, 0, 6] rfl ?_
              refine tt_goto (tgt := 9) C dX3_firstDoor_83 (by decide) ?_
              refine tt_lvsub [0, 1, 2, 3, 4, 5] rfl (ih (j + 1) (by omega) ?_)
              rw [fdN, if_neg (fun z => c_307 z.2)] at K
              exact K
            · skip
              refine tt_iload C dX3_firstDoor_77 5 rfl ?_
              exact tt_iret K dX3_firstDoor_79 (by rw [fdN, if_pos ⟨⟨c_302, c_304⟩, c_307⟩]; unfold fdI; rw [if_pos (by omega)]) (by first | rfl | (simp [c_301, c_302, c_304, c_306, c_307]; done) | (refine congrArg _ ?_; grind [])) rfl

set_option maxHeartbeats 4000000 in
set_option maxRecDepth 100000 in
theorem c_X3_firstDoor (E : EN) (u : U3) (r : R1) (h : HB) (g : HB) (i : Nat) (b : Nat) (a : Nat) (hi : i < 5) (hi5 : i ≠ 5) (hb : b < 8) (ha : a < 6) (hG : vI (g 1 0) 9) (hA : ∀ d, d < ix (g 1 0) → vI (g 2 d) 6 ∧ vI (g 3 d) 6) : CT E yX3_firstDoor wsX3_firstDoor (rmT 3 65) [.ref (eA E 5 5), .ref (eA E i 0), .int (nI b), .int (nI a)] (ub (ub u i g) 5 h) r (some (.int (fdI (fdN g b (h 6) a (ix (g 1 0)) 0)))) (ub (ub u i g) 5 h) r := by
  refine CT_ofI (cc := cX3_firstDoor) (nL := 7) (own := RX3) (by decide) rfl rfl rfl (Nat.le_of_ble_eq_true rfl) (fun F C K => ?_)
  have hin2 : ∀ w ∈ u_ws RX2 TX2 8, w ∈ wsX3_firstDoor := by decide +kernel
  refine tt_to (lv1 := [(0, .ref (eA E 5 5)), (1, .ref (eA E i 0)), (2, .int (nI b)), (3, .int (nI a))]) rfl rfl rfl rfl ?_
  refine tt_aload_n C dX3_firstDoor_0 rfl 1 rfl ?_
  refine tt_get (v := .ref (eA E i 1)) C (oH0 hi) rfl hin2 0 (by decide) (List.mem_of_getElem? (i := 1) (by decide +kernel)) rfl dX3_firstDoor_1 ?_
  refine tt_astore (lv' := [(0, .ref (eA E 5 5)), (1, .ref (eA E i 0)), (2, .int (nI b)), (3, .int (nI a)), (4, .ref (eA E i 1))]) C dX3_firstDoor_4 (by decide) [1, 2, 3, 4, 0] rfl ?_
  refine tt_iconst (v := nI 0) C dX3_firstDoor_6 (by decide) ?_
  refine tt_istore (lv' := [(0, .ref (eA E 5 5)), (1, .ref (eA E i 0)), (2, .int (nI b)), (3, .int (nI a)), (4, .ref (eA E i 1)), (5, .int (nI 0))]) C dX3_firstDoor_7 (by decide) [1, 2, 3, 4, 5, 0] rfl ?_
  exact l_fd E u r h g i b a hi hi5 hb ha hG hA F C (ix (g 1 0)) 0 (by omega) K

theorem fdN_lt {g : HB} {b : Nat} {x : Nat → Int32} {a : Nat} : ∀ n d, fdN g b x a n d < 8 → fdN g b x a n d < d + n
  | 0, d, h => absurd h (by unfold fdN; omega)
  | n + 1, d, h => by
    unfold fdN at h ⊢
    split
    · omega
    · next hc =>
      rw [if_neg hc] at h
      have := fdN_lt n (d + 1) h
      omega
def daN (g : HB) (b : Nat) (x : Nat → Int32) (a : Nat) : Nat → Nat
  | 0 => fdN g b x a (ix (g 1 0)) 0
  | k + 1 => if daN g b x a k < 8 then fdN g b x (ix (g 3 (daN g b x a k))) (ix (g 1 0)) 0 else daN g b x a k
theorem daN_lt {g : HB} {b : Nat} {x : Nat → Int32} {a : Nat} : ∀ k, daN g b x a k < 8 → daN g b x a k < ix (g 1 0)
  | 0, h => by
    have := fdN_lt _ _ h
    unfold daN
    omega
  | k + 1, h => by
    unfold daN at h ⊢
    split
    · next hc =>
      rw [if_pos hc] at h
      have := fdN_lt _ _ h
      omega
    · next hc => rw [if_neg hc] at h; exact absurd h hc
theorem fdI_eq {d : Nat} (h : d < 8) : fdI d = nI d := by unfold fdI; rw [if_pos h]
theorem fdI_no {d : Nat} (h : ¬ d < 8) : fdI d = -5 := by unfold fdI; rw [if_neg h]
theorem fdI_5 {d : Nat} : fdI d = -5 ↔ ¬ d < 8 := by
  constructor
  · intro e h
    rw [fdI_eq h] at e
    exact nI_pos (n := d) (by omega) (by rw [e]; decide)
  · exact fdI_no

set_option maxHeartbeats 4000000 in
set_option maxRecDepth 100000 in
theorem l_da (E : EN) (u : U3) (r : R1) (h : HB) (g : HB) (i b a q : Nat) (hi : i < 5) (hi5 : i ≠ 5) (hb : b < 8) (ha : a < 6) (hq : q < 2 ^ 31) (hG : vI (g 1 0) 9) (hA : ∀ d, d < ix (g 1 0) → vI (g 2 d) 6 ∧ vI (g 3 d) 6) (hc : nI q < h 6 a) (F : FX) (C : Cx E F cX3_doorAt 7 RX3 wsX3_doorAt (rmT 4 91)) (K : RtI E F cX3_doorAt (fdI (daN g b (h 6) a q)) (ub (ub u i g) 5 h) r) : ∀ (n k : Nat), k + n = q → T E F 7 (ub (ub u i g) 5 h) r 26 [(0, .ref (eA E 5 5)), (1, .ref (eA E i 0)), (2, .int (nI b)), (3, .int (nI a)), (4, .int (nI q)), (5, .int (fdI (daN g b (h 6) a k))), (6, .int (nI k))] [] := by
  have hin1 : ∀ w ∈ u_ws RX1 TX1 17, w ∈ wsX3_doorAt := by decide +kernel
  have hin2 : ∀ w ∈ u_ws RX2 TX2 8, w ∈ wsX3_doorAt := by decide +kernel
  have hG' := ix_lt hG (by decide)
  intro n
  induction n with
  | zero =>
    intro k h1
    refine tt_iload C dX3_doorAt_26 6 rfl ?_
    refine tt_iload C dX3_doorAt_28 4 rfl ?_
    refine tt_icmp_ge C (tgt := 64) dX3_doorAt_30 (by decide) (nI_leI (by omega) (by omega)) (fun _ => ?_) (fun z => absurd (by omega) z)
    refine tt_iload C dX3_doorAt_64 5 rfl ?_
    exact tt_iret K dX3_doorAt_66 (by rw [show k = q by omega]) rfl rfl
  | succ n ih =>
    intro k h1
    refine tt_iload C dX3_doorAt_26 6 rfl ?_
    refine tt_iload C dX3_doorAt_28 4 rfl ?_
    refine tt_icmp_ge C (tgt := 64) dX3_doorAt_30 (by decide) (nI_leI (by omega) (by omega)) (fun z => absurd z (by omega)) (fun _ => ?_)
    refine tt_iload C dX3_doorAt_33 5 rfl ?_
    refine tt_bipush (v := (-5 : Int32)) C dX3_doorAt_35 (by decide) ?_
    refine tt_icmp_eq C (tgt := 64) dX3_doorAt_37 (by decide) fdI_5 (fun c2 => ?_) (fun c2 => ?_)
    · refine tt_iload C dX3_doorAt_64 5 rfl ?_
      have e9 : ∀ m, daN g b (h 6) a (k + m) = daN g b (h 6) a k := by
        intro m
        induction m with
        | zero => rfl
        | succ m ihm => rw [← Nat.add_assoc, daN, ihm, if_neg c2]
      exact tt_iret K dX3_doorAt_66 (by rw [show q = k + (n + 1) by omega, e9]) rfl rfl
    · have c3 : daN g b (h 6) a k < 8 := Decidable.not_not.mp c2
      have c4 := daN_lt k c3
      obtain ⟨-, hj2⟩ := hA _ c4
      have hj2' := ix_lt hj2 (by decide)
      refine tt_aload_n C dX3_doorAt_40 rfl 0 rfl ?_
      refine tt_aload_n C dX3_doorAt_41 rfl 1 rfl ?_
      refine tt_iload_n C dX3_doorAt_42 rfl 2 rfl ?_
      refine tt_aload_n C dX3_doorAt_43 rfl 1 rfl ?_
      refine tt_get (v := .ref (eA E i 1)) C (oH0 hi) rfl hin2 0 (by decide) (List.mem_of_getElem? (i := 2) (by decide +kernel)) rfl dX3_doorAt_44 ?_
      refine tt_get (v := .ref (eA E i 3)) C (oH1 hi) rfl hin1 2 (by decide) (List.mem_of_getElem? (i := 3) (by decide +kernel)) rfl dX3_doorAt_47 ?_
      refine tt_iload C dX3_doorAt_50 5 rfl ?_
      refine tt_iald (v := nI (ix (g 3 (daN g b (h 6) a k)))) C (aH3 hi) (daN g b (h 6) a k) (fdI_eq c3) c3 ((ub_w hi5).trans (ix_eq hj2 (by decide))) dX3_doorAt_52 ?_
      refine tt_cVI C (c_X3_firstDoor E u r h g i b (ix (g 3 (daN g b (h 6) a k))) hi hi5 hb hj2' hG hA) gX3_doorAt_X3_firstDoor rfl ⟨rfl, rfl⟩ 3 (by decide +kernel) ⟨Nat.le_of_ble_eq_true rfl, Nat.le_of_ble_eq_true rfl⟩ rfl oT5 rfl (Nat.le_of_ble_eq_true rfl) dX3_doorAt_53 rfl ?_
      refine tt_istore (lv' := [(0, .ref (eA E 5 5)), (1, .ref (eA E i 0)), (2, .int (nI b)), (3, .int (nI a)), (4, .int (nI q)), (5, .int (fdI (fdN g b (h 6) (ix (g 3 (daN g b (h 6) a k))) (ix (g 1 0)) 0))), (6, .int (nI k))]) C dX3_doorAt_56 (by decide) [1, 2, 3, 4, 5, 0, 6] rfl ?_
      refine tt_iinc (p := 6) (v := nI (k + 1)) (lv' := [(0, .ref (eA E 5 5)), (1, .ref (eA E i 0)), (2, .int (nI b)), (3, .int (nI a)), (4, .int (nI q)), (5, .int (fdI (fdN g b (h 6) (ix (g 3 (daN g b (h 6) a k))) (ix (g 1 0)) 0))), (6, .int (nI (k + 1)))]) C dX3_doorAt_58 rfl (by rw [show Int32.ofInt 1 = nI 1 from by decide]; exact nI_add _ _) (by decide) [1, 2, 3, 4, 5, 6, 0] rfl ?_
      refine tt_goto (tgt := 26) C dX3_doorAt_61 (by decide) ?_
      have e9 : daN g b (h 6) a (k + 1) = fdN g b (h 6) (ix (g 3 (daN g b (h 6) a k))) (ix (g 1 0)) 0 := by rw [daN, if_pos c3]
      rw [← e9]
      exact ih (k + 1) (by omega)

set_option maxHeartbeats 4000000 in
set_option maxRecDepth 100000 in
theorem c_X3_doorAt (E : EN) (u : U3) (r : R1) (h : HB) (g : HB) (i : Nat) (b : Nat) (a : Nat) (q : Nat) (hi : i < 5) (hi5 : i ≠ 5) (hb : b < 8) (ha : a < 6) (hq : q < 2 ^ 31) (hG : vI (g 1 0) 9) (hA : ∀ d, d < ix (g 1 0) → vI (g 2 d) 6 ∧ vI (g 3 d) 6) : CT E yX3_doorAt wsX3_doorAt (rmT 4 91) [.ref (eA E 5 5), .ref (eA E i 0), .int (nI b), .int (nI a), .int (nI q)] (ub (ub u i g) 5 h) r (some (.int (if ¬ nI q < h 6 a then -5 else fdI (daN g b (h 6) a q)))) (ub (ub u i g) 5 h) r := by
  refine CT_ofI (cc := cX3_doorAt) (nL := 7) (own := RX3) (by decide) rfl rfl rfl (Nat.le_of_ble_eq_true rfl) (fun F C K => ?_)
  have hin3 : ∀ w ∈ u_ws RX3 TX3 1, w ∈ wsX3_doorAt := by decide +kernel
  refine tt_to (lv1 := [(0, .ref (eA E 5 5)), (1, .ref (eA E i 0)), (2, .int (nI b)), (3, .int (nI a)), (4, .int (nI q))]) rfl rfl rfl rfl ?_
  refine tt_iload C dX3_doorAt_0 4 rfl ?_
  refine tt_aload_n C dX3_doorAt_2 rfl 0 rfl ?_
  refine tt_get (v := .ref (eA E 5 6)) C oT5 rfl hin3 0 (by decide) (List.mem_of_getElem? (i := 1) (by decide +kernel)) rfl dX3_doorAt_3 ?_
  refine tt_iload_n C dX3_doorAt_6 rfl 3 rfl ?_
  refine tt_ialdB (v := h 6 a) C aT6 a rfl (by omega) rfl dX3_doorAt_7 ?_
  refine tt_icmp_lt C (tgt := 14) dX3_doorAt_8 (by decide) Iff.rfl (fun c_1 => ?_) (fun c_1 => ?_)
  · skip
    refine tt_aload_n C dX3_doorAt_14 rfl 0 rfl ?_
    refine tt_aload_n C dX3_doorAt_15 rfl 1 rfl ?_
    refine tt_iload_n C dX3_doorAt_16 rfl 2 rfl ?_
    refine tt_iload_n C dX3_doorAt_17 rfl 3 rfl ?_
    refine tt_cVI C (c_X3_firstDoor E u r h g i b a hi hi5 hb ha hG hA) gX3_doorAt_X3_firstDoor rfl ⟨rfl, rfl⟩ 3 (by decide +kernel) ⟨Nat.le_of_ble_eq_true rfl, Nat.le_of_ble_eq_true rfl⟩ rfl oT5 rfl (Nat.le_of_ble_eq_true rfl) dX3_doorAt_18 rfl ?_
    refine tt_istore (lv' := [(0, .ref (eA E 5 5)), (1, .ref (eA E i 0)), (2, .int (nI b)), (3, .int (nI a)), (4, .int (nI q)), (5, .int (fdI (fdN g b (h 6) a (ix (g 1 0)) 0)))]) C dX3_doorAt_21 (by decide) [1, 2, 3, 4, 5, 0] rfl ?_
    refine tt_iconst (v := nI 0) C dX3_doorAt_23 (by decide) ?_
    refine tt_istore (lv' := [(0, .ref (eA E 5 5)), (1, .ref (eA E i 0)), (2, .int (nI b)), (3, .int (nI a)), (4, .int (nI q)), (5, .int (fdI (fdN g b (h 6) a (ix (g 1 0)) 0))), (6, .int (nI 0))]) C dX3_doorAt_24 (by decide) [1, 2, 3, 4, 5, 6, 0] rfl ?_
    rw [if_neg (fun z => z c_1)] at K
    exact l_da E u r h g i b a q hi hi5 hb ha hq hG hA c_1 F C K q 0 (by omega)
  · skip
    refine tt_bipush (v := (-5 : Int32)) C dX3_doorAt_11 (by decide) ?_
    exact tt_iret K dX3_doorAt_13 (by rw [if_pos (by assumption)]) (by first | rfl | (simp [c_1]; done) | (refine congrArg _ ?_; grind [])) rfl
