abbrev cp (h : HB) (b d : Nat) : Prop := h 1 (60 * d + 1) = 0 ∨ (h 1 (480 + 6 * b + 1) = 0 ∧ ¬ h 1 (480 + 6 * b + 0) < M_lev h d)
theorem cp_row {x y : HB} (e : x 1 = y 1) (b d : Nat) : cp x b d ↔ cp y b d := by unfold cp M_lev; rw [e]
def fwA (c k : Nat) (x : HB) : HB := up2 x 9 k (if k = c then nI 0 else nI 100)
abbrev dF (h : HB) (d : Nat) : Nat := ix (h 1 (60 * d + 0))
abbrev dT (h : HB) (d : Nat) : Nat := ix (h 1 (60 * d + 1))
def fwD (h : HB) (b d : Nat) (x : HB) : HB := up2 x 9 (dF h d) (if cp h b d ∧ ¬ x 9 (dF h d) ≤ x 9 (dT h d) + nI 1 then x 9 (dT h d) + nI 1 else x 9 (dF h d))
def fwR (h : HB) (b : Nat) (_k : Nat) (x : HB) : HB := iter (fwD h b) (ix (h 1 529)) x
def DOk (h : HB) : Prop := ∀ d, d < ix (h 1 529) → vI (h 1 (60 * d + 0)) 6 ∧ vI (h 1 (60 * d + 1)) 6
theorem fwA_row (c n k : Nat) (x : HB) (hk : k ≠ 9) : iter (fwA c) n x k = x k := by
  funext j
  exact iter_keep (fun y : HB => y k j) (fun n y => up2_n (fun z => hk z.1)) n x
theorem fwD_row (h : HB) (b n k : Nat) (x : HB) (hk : k ≠ 9) : iter (fwD h b) n x k = x k := by
  funext j
  exact iter_keep (fun y : HB => y k j) (fun n y => up2_n (fun z => hk z.1)) n x
theorem fwR_row (h : HB) (b n k : Nat) (x : HB) (hk : k ≠ 9) : iter (fwR h b) n x k = x k := by
  induction n with
  | zero => rfl
  | succ n ih => rw [iter, fwR, fwD_row _ _ _ _ _ hk]; exact ih

set_option maxHeartbeats 4000000 in
set_option maxRecDepth 100000 in
theorem l_wA (E : EN) (u : U3) (r : R1) (h : HB) (b a c : Nat) (hb : b < 8) (ha : a < 6) (hc : c < 6) (F : FX) (C : Cx E F cX7_findWay 8 RX7 wsX7_findWay (rmT 4 85)) (Kc : T E F 8 (ub u 6 (iter (fwA c) 6 h)) r 35 [(0, .ref (eA E 6 0)), (1, .int (nI b)), (2, .int (nI a)), (3, .int (nI c))] []) : ∀ (n j : Nat), j ≤ 6 → 6 + 1 ≤ j + n → T E F 8 (ub u 6 (iter (fwA c) j h)) r 3 [(0, .ref (eA E 6 0)), (1, .int (nI b)), (2, .int (nI a)), (3, .int (nI c)), (4, .int (nI j))] [] := by
  have hin7 : ∀ w ∈ u_ws RX7 TX7 15, w ∈ wsX7_findWay := by decide +kernel
  intro n
  induction n with
  | zero => intro j h1 h2; exact absurd h2 (by omega)
  | succ n ih =>
    intro j h1 h2
    generalize ej : iter (fwA c) j h = hj
    refine tt_iload C dX7_findWay_3 4 rfl ?_
    refine tt_bipush (v := nI 6) C dX7_findWay_5 (by decide) ?_
    refine tt_icmp_ge C (tgt := 35) dX7_findWay_7 (by decide) (nI_leI (by omega) (by omega)) (fun c_901 => ?_) (fun c_901 => ?_)
    · skip
      have hje : j = 6 := (by omega); subst hje
      subst ej
      exact tt_lvsub [0, 1, 2, 3] rfl Kc
    · skip
      refine tt_aload_n C dX7_findWay_10 rfl 0 rfl ?_
      refine tt_get (v := .ref (eA E 6 9)) C oM0 rfl hin7 11 (by decide) (List.mem_of_getElem? (i := 1) (by decide +kernel)) rfl dX7_findWay_11 ?_
      refine tt_iload C dX7_findWay_14 4 rfl ?_
      refine tt_iload C dX7_findWay_16 4 rfl ?_
      refine tt_iload_n C dX7_findWay_18 rfl 3 rfl ?_
      refine tt_icmp_ne C (tgt := 26) dX7_findWay_19 (by decide) (nI_eq (by omega) (by omega)) (fun c_902 => ?_) (fun c_902 => ?_)
      · skip
        refine tt_bipush (v := nI 100) C dX7_findWay_26 (by decide) ?_
        refine tt_iastB C aM9 j rfl (by omega) dX7_findWay_28 ?_
        generalize e_904 : up2 hj 9 j (nI 100) = h_903
        refine tt_iinc (p := 4) (v := nI (j + 1)) (lv' := [(0, .ref (eA E 6 0)), (1, .int (nI b)), (2, .int (nI a)), (3, .int (nI c)), (4, .int (nI (j + 1)))]) C dX7_findWay_29 rfl (by rw [show Int32.ofInt 1 = nI 1 from by decide]; exact nI_add _ _) (by decide) [1, 2, 3, 4, 0] rfl ?_
        refine tt_goto (tgt := 3) C dX7_findWay_32 (by decide) ?_
        subst e_904
        subst ej
        refine tt_to (u1 := ub u 6 (iter (fwA c) (j + 1) h)) (congrArg _ ?_) rfl rfl rfl (ih (j + 1) (by omega) (by omega))
        rw [iter, fwA, if_neg c_902]
      · skip
        refine tt_iconst (v := nI 0) C dX7_findWay_22 (by decide) ?_
        refine tt_goto (tgt := 28) C dX7_findWay_23 (by decide) ?_
        refine tt_iastB C aM9 j rfl (by omega) dX7_findWay_28 ?_
        generalize e_906 : up2 hj 9 j (nI 0) = h_905
        refine tt_iinc (p := 4) (v := nI (j + 1)) (lv' := [(0, .ref (eA E 6 0)), (1, .int (nI b)), (2, .int (nI a)), (3, .int (nI c)), (4, .int (nI (j + 1)))]) C dX7_findWay_29 rfl (by rw [show Int32.ofInt 1 = nI 1 from by decide]; exact nI_add _ _) (by decide) [1, 2, 3, 4, 0] rfl ?_
        refine tt_goto (tgt := 3) C dX7_findWay_32 (by decide) ?_
        subst e_906
        subst ej
        refine tt_to (u1 := ub u 6 (iter (fwA c) (j + 1) h)) (congrArg _ ?_) rfl rfl rfl (ih (j + 1) (by omega) (by omega))
        rw [iter, fwA, if_pos c_902]

set_option maxHeartbeats 4000000 in
set_option maxRecDepth 100000 in
theorem l_wB (E : EN) (u : U3) (r : R1) (h : HB) (y : HB) (e0 : y 1 = h 1) (b a c k : Nat) (hb : b < 8) (ha : a < 6) (hc : c < 6) (hk : k < 6) (hD : vI (h 1 529) 9) (hO : DOk h) (F : FX) (C : Cx E F cX7_findWay 8 RX7 wsX7_findWay (rmT 4 85)) (Kc : T E F 8 (ub u 6 (iter (fwD h b) (ix (h 1 529)) y)) r 133 [(0, .ref (eA E 6 0)), (1, .int (nI b)), (2, .int (nI a)), (3, .int (nI c)), (4, .int (nI k))] []) : ∀ (n j : Nat), j ≤ ix (h 1 529) → ix (h 1 529) + 1 ≤ j + n → T E F 8 (ub u 6 (iter (fwD h b) j y)) r 48 [(0, .ref (eA E 6 0)), (1, .int (nI b)), (2, .int (nI a)), (3, .int (nI c)), (4, .int (nI k)), (5, .int (nI j))] [] := by
  have hin7 : ∀ w ∈ u_ws RX7 TX7 15, w ∈ wsX7_findWay := by decide +kernel
  have hD' := ix_lt hD (by decide)
  intro n
  induction n with
  | zero => intro j h1 h2; exact absurd h2 (by omega)
  | succ n ih =>
    intro j h1 h2
    generalize ej : iter (fwD h b) j y = hj
    have e1 : hj 1 = h 1 := by rw [← ej, fwD_row _ _ _ _ _ (by decide)]; exact e0
    refine tt_iload C dX7_findWay_48 5 rfl ?_
    refine tt_aload_n C dX7_findWay_50 rfl 0 rfl ?_
    refine tt_get (v := .ref (eA E 6 1)) C oM0 rfl hin7 0 (by decide) (List.mem_of_getElem? (i := 2) (by decide +kernel)) rfl dX7_findWay_51 ?_
    refine tt_sipush (v := nI 529) C dX7_findWay_54 (by decide) ?_
    refine tt_ialdB (v := nI (ix (h 1 529))) C aM1 529 rfl (by omega) ((congrFun e1 529).trans (ix_eq hD (by decide))) dX7_findWay_57 ?_
    refine tt_icmp_ge C (tgt := 133) dX7_findWay_58 (by decide) (nI_leI (by omega) (by omega)) (fun c_951 => ?_) (fun c_951 => ?_)
    · skip
      have hje : j = ix (h 1 529) := (by omega); subst hje
      subst ej
      exact tt_lvsub [0, 1, 2, 3, 4] rfl Kc
    · skip
      obtain ⟨hv0, hv1⟩ := hO j (by omega)
      have hv0' : dF h j < 6 := ix_lt hv0 (by decide)
      have hv1' : dT h j < 6 := ix_lt hv1 (by decide)
      refine tt_aload_n C dX7_findWay_61 rfl 0 rfl ?_
      refine tt_iload C dX7_findWay_62 5 rfl ?_
      refine tt_iconst (v := nI 0) C dX7_findWay_64 (by decide) ?_
      refine tt_cVI C (c_X7_ofDoor E u r hj j 0 (by first | assumption | omega) (by first | assumption | omega)) gX7_findWay_X7_ofDoor rfl ⟨rfl, rfl⟩ 2 (by decide +kernel) ⟨Nat.le_of_ble_eq_true rfl, Nat.le_of_ble_eq_true rfl⟩ rfl oM0 rfl (Nat.le_of_ble_eq_true rfl) dX7_findWay_65 rfl ?_
      refine tt_to (st1 := [.int (nI (dF h j))]) rfl rfl rfl (congrArg (fun z => ([.int z] : List Value)) ((congrFun e1 (60 * j + 0)).trans (ix_eq hv0 (by decide)))) ?_
      refine tt_istore (lv' := [(0, .ref (eA E 6 0)), (1, .int (nI b)), (2, .int (nI a)), (3, .int (nI c)), (4, .int (nI k)), (5, .int (nI j)), (6, .int (nI (dF h j)))]) C dX7_findWay_68 (by decide) [1, 2, 3, 4, 5, 6, 0] rfl ?_
      refine tt_aload_n C dX7_findWay_70 rfl 0 rfl ?_
      refine tt_get (v := .ref (eA E 6 9)) C oM0 rfl hin7 11 (by decide) (List.mem_of_getElem? (i := 1) (by decide +kernel)) rfl dX7_findWay_71 ?_
      refine tt_aload_n C dX7_findWay_74 rfl 0 rfl ?_
      refine tt_iload C dX7_findWay_75 5 rfl ?_
      refine tt_iconst (v := nI 1) C dX7_findWay_77 (by decide) ?_
      refine tt_cVI C (c_X7_ofDoor E u r hj j 1 (by first | assumption | omega) (by first | assumption | omega)) gX7_findWay_X7_ofDoor rfl ⟨rfl, rfl⟩ 2 (by decide +kernel) ⟨Nat.le_of_ble_eq_true rfl, Nat.le_of_ble_eq_true rfl⟩ rfl oM0 rfl (Nat.le_of_ble_eq_true rfl) dX7_findWay_78 rfl ?_
      refine tt_to (st1 := [.int (nI (dT h j)), .ref (eA E 6 9)]) rfl rfl rfl (congrArg (fun z => ([.int z, .ref (eA E 6 9)] : List Value)) ((congrFun e1 (60 * j + 1)).trans (ix_eq hv1 (by decide)))) ?_
      refine tt_ialdB (v := hj 9 (dT h j)) C aM9 (dT h j) rfl (by omega) rfl dX7_findWay_81 ?_
      refine tt_iconst (v := nI 1) C dX7_findWay_82 (by decide) ?_
      refine tt_iadd C dX7_findWay_83 rfl ?_
      refine tt_istore (lv' := [(0, .ref (eA E 6 0)), (1, .int (nI b)), (2, .int (nI a)), (3, .int (nI c)), (4, .int (nI k)), (5, .int (nI j)), (6, .int (nI (dF h j))), (7, .int ((hj 9 (dT h j)) + (nI 1)))]) C dX7_findWay_84 (by decide) [1, 2, 3, 4, 5, 6, 7, 0] rfl ?_
      refine tt_aload_n C dX7_findWay_86 rfl 0 rfl ?_
      refine tt_get (v := .ref (eA E 6 9)) C oM0 rfl hin7 11 (by decide) (List.mem_of_getElem? (i := 1) (by decide +kernel)) rfl dX7_findWay_87 ?_
      refine tt_iload C dX7_findWay_90 6 rfl ?_
      refine tt_aload_n C dX7_findWay_92 rfl 0 rfl ?_
      refine tt_iload_n C dX7_findWay_93 rfl 1 rfl ?_
      refine tt_iload C dX7_findWay_94 5 rfl ?_
      refine tt_cVI C (c_X7_couldPass E u r hj b j (by first | assumption | omega) (by first | assumption | omega)) gX7_findWay_X7_couldPass rfl ⟨rfl, rfl⟩ 2 (by decide +kernel) ⟨Nat.le_of_ble_eq_true rfl, Nat.le_of_ble_eq_true rfl⟩ rfl oM0 rfl (Nat.le_of_ble_eq_true rfl) dX7_findWay_96 rfl ?_
      refine tt_if_eqB C (tgt := 119) dX7_findWay_99 (by decide) (fun c_952 => ?_) (fun c_952 => ?_)
      · skip
        refine tt_aload_n C dX7_findWay_119 rfl 0 rfl ?_
        refine tt_get (v := .ref (eA E 6 9)) C oM0 rfl hin7 11 (by decide) (List.mem_of_getElem? (i := 1) (by decide +kernel)) rfl dX7_findWay_120 ?_
        refine tt_iload C dX7_findWay_123 6 rfl ?_
        refine tt_ialdB (v := hj 9 (dF h j)) C aM9 (dF h j) rfl (by omega) rfl dX7_findWay_125 ?_
        refine tt_iastB C aM9 (dF h j) rfl (by omega) dX7_findWay_126 ?_
        generalize e_954 : up2 hj 9 (dF h j) (hj 9 (dF h j)) = h_953
        refine tt_iinc (p := 5) (v := nI (j + 1)) (lv' := [(0, .ref (eA E 6 0)), (1, .int (nI b)), (2, .int (nI a)), (3, .int (nI c)), (4, .int (nI k)), (5, .int (nI (j + 1))), (6, .int (nI (dF h j))), (7, .int ((hj 9 (dT h j)) + (nI 1)))]) C dX7_findWay_127 rfl (by rw [show Int32.ofInt 1 = nI 1 from by decide]; exact nI_add _ _) (by decide) [1, 2, 3, 4, 5, 0, 6, 7] rfl ?_
        refine tt_goto (tgt := 48) C dX7_findWay_130 (by decide) ?_
        subst e_954
        subst ej
        refine tt_lvsub [0, 1, 2, 3, 4, 5] rfl ?_
        refine tt_to (u1 := ub u 6 (iter (fwD h b) (j + 1) y)) (congrArg _ ?_) rfl rfl rfl (ih (j + 1) (by omega) (by omega))
        rw [iter, fwD, if_neg (fun z => c_952 ((cp_row e1 b j).mpr z.1))]
      · skip
        refine tt_iload C dX7_findWay_102 7 rfl ?_
        refine tt_aload_n C dX7_findWay_104 rfl 0 rfl ?_
        refine tt_get (v := .ref (eA E 6 9)) C oM0 rfl hin7 11 (by decide) (List.mem_of_getElem? (i := 1) (by decide +kernel)) rfl dX7_findWay_105 ?_
        refine tt_iload C dX7_findWay_108 6 rfl ?_
        refine tt_ialdB (v := hj 9 (dF h j)) C aM9 (dF h j) rfl (by omega) rfl dX7_findWay_110 ?_
        refine tt_icmp_ge C (tgt := 119) dX7_findWay_111 (by decide) Iff.rfl (fun c_955 => ?_) (fun c_955 => ?_)
        · skip
          refine tt_aload_n C dX7_findWay_119 rfl 0 rfl ?_
          refine tt_get (v := .ref (eA E 6 9)) C oM0 rfl hin7 11 (by decide) (List.mem_of_getElem? (i := 1) (by decide +kernel)) rfl dX7_findWay_120 ?_
          refine tt_iload C dX7_findWay_123 6 rfl ?_
          refine tt_ialdB (v := hj 9 (dF h j)) C aM9 (dF h j) rfl (by omega) rfl dX7_findWay_125 ?_
          refine tt_iastB C aM9 (dF h j) rfl (by omega) dX7_findWay_126 ?_
          generalize e_957 : up2 hj 9 (dF h j) (hj 9 (dF h j)) = h_956
          refine tt_iinc (p := 5) (v := nI (j + 1)) (lv' := [(0, .ref (eA E 6 0)), (1, .int (nI b)), (2, .int (nI a)), (3, .int (nI c)), (4, .int (nI k)), (5, .int (nI (j + 1))), (6, .int (nI (dF h j))), (7, .int ((hj 9 (dT h j)) + (nI 1)))]) C dX7_findWay_127 rfl (by rw [show Int32.ofInt 1 = nI 1 from by decide]; exact nI_add _ _) (by decide) [1, 2, 3, 4, 5, 0, 6, 7] rfl ?_
          refine tt_goto (tgt := 48) C dX7_findWay_130 (by decide) ?_
          subst e_957
          subst ej
          refine tt_lvsub [0, 1, 2, 3, 4, 5] rfl ?_
          refine tt_to (u1 := ub u 6 (iter (fwD h b) (j + 1) y)) (congrArg _ ?_) rfl rfl rfl (ih (j + 1) (by omega) (by omega))
          rw [iter, fwD, if_neg (fun z => z.2 c_955)]
        · skip
          refine tt_iload C dX7_findWay_114 7 rfl ?_
          refine tt_goto (tgt := 126) C dX7_findWay_116 (by decide) ?_
          refine tt_iastB C aM9 (dF h j) rfl (by omega) dX7_findWay_126 ?_
          generalize e_959 : up2 hj 9 (dF h j) ((hj 9 (dT h j)) + (nI 1)) = h_958
          refine tt_iinc (p := 5) (v := nI (j + 1)) (lv' := [(0, .ref (eA E 6 0)), (1, .int (nI b)), (2, .int (nI a)), (3, .int (nI c)), (4, .int (nI k)), (5, .int (nI (j + 1))), (6, .int (nI (dF h j))), (7, .int ((hj 9 (dT h j)) + (nI 1)))]) C dX7_findWay_127 rfl (by rw [show Int32.ofInt 1 = nI 1 from by decide]; exact nI_add _ _) (by decide) [1, 2, 3, 4, 5, 0, 6, 7] rfl ?_
          refine tt_goto (tgt := 48) C dX7_findWay_130 (by decide) ?_
          subst e_959
          subst ej
          refine tt_lvsub [0, 1, 2, 3, 4, 5] rfl ?_
          refine tt_to (u1 := ub u 6 (iter (fwD h b) (j + 1) y)) (congrArg _ ?_) rfl rfl rfl (ih (j + 1) (by omega) (by omega))
          rw [iter, fwD, if_pos ⟨(cp_row e1 b j).mp c_952, c_955⟩]

set_option maxHeartbeats 4000000 in
set_option maxRecDepth 100000 in
theorem l_wC (E : EN) (u : U3) (r : R1) (h : HB) (y : HB) (e0 : y 1 = h 1) (b a c : Nat) (hb : b < 8) (ha : a < 6) (hc : c < 6) (hD : vI (h 1 529) 9) (hO : DOk h) (F : FX) (C : Cx E F cX7_findWay 8 RX7 wsX7_findWay (rmT 4 85)) (Kc : T E F 8 (ub u 6 (iter (fwR h b) 6 y)) r 139 [(0, .ref (eA E 6 0)), (1, .int (nI b)), (2, .int (nI a)), (3, .int (nI c))] []) : ∀ (n j : Nat), j ≤ 6 → 6 + 1 ≤ j + n → T E F 8 (ub u 6 (iter (fwR h b) j y)) r 38 [(0, .ref (eA E 6 0)), (1, .int (nI b)), (2, .int (nI a)), (3, .int (nI c)), (4, .int (nI j))] [] := by
  have hin7 : ∀ w ∈ u_ws RX7 TX7 15, w ∈ wsX7_findWay := by decide +kernel
  have hD' := ix_lt hD (by decide)
  intro n
  induction n with
  | zero => intro j h1 h2; exact absurd h2 (by omega)
  | succ n ih =>
    intro j h1 h2
    generalize ej : iter (fwR h b) j y = hj
    refine tt_iload C dX7_findWay_38 4 rfl ?_
    refine tt_bipush (v := nI 6) C dX7_findWay_40 (by decide) ?_
    refine tt_icmp_ge C (tgt := 139) dX7_findWay_42 (by decide) (nI_leI (by omega) (by omega)) (fun c_991 => ?_) (fun c_991 => ?_)
    · skip
      have hje : j = 6 := (by omega); subst hje
      subst ej
      exact tt_lvsub [0, 1, 2, 3] rfl Kc
    · skip
      refine tt_iconst (v := nI 0) C dX7_findWay_45 (by decide) ?_
      refine tt_istore (lv' := [(0, .ref (eA E 6 0)), (1, .int (nI b)), (2, .int (nI a)), (3, .int (nI c)), (4, .int (nI j)), (5, .int (nI 0))]) C dX7_findWay_46 (by decide) [1, 2, 3, 4, 5, 0] rfl ?_
      rw [← ej]
      refine l_wB E u r h (iter (fwR h b) j y) (by rw [fwR_row _ _ _ _ _ (by decide)]; exact e0) b a c j hb ha hc (by omega) hD hO F C ?_ (ix (h 1 529) + 1) 0 (by omega) (by omega)
      refine tt_iinc (p := 4) (v := nI (j + 1)) (lv' := [(0, .ref (eA E 6 0)), (1, .int (nI b)), (2, .int (nI a)), (3, .int (nI c)), (4, .int (nI (j + 1)))]) C dX7_findWay_133 rfl (by rw [show Int32.ofInt 1 = nI 1 from by decide]; exact nI_add _ _) (by decide) [1, 2, 3, 4, 0] rfl ?_
      refine tt_goto (tgt := 38) C dX7_findWay_136 (by decide) ?_
      exact ih (j + 1) (by omega) (by omega)
