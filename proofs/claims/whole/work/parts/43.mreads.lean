theorem M_badge_k {h : HB} {v : Int32} {k j : Nat} (hk : k ≠ 1) : M_badge h v k j = h k j := by
  unfold M_badge
  rw [up2_n (fun z => hk z.1)]
  exact iter_keep (fun x : HB => x k j) (fun n x => up2_n (fun z => hk z.1)) _ h
theorem M_door_k {h : HB} {f t a b : Int32} {k j : Nat} (hk : k ≠ 1) : M_door h f t a b k j = h k j := by
  unfold M_door
  rw [up2_n (fun z => hk z.1), up2_n (fun z => hk z.1), up2_n (fun z => hk z.1), up2_n (fun z => hk z.1), up2_n (fun z => hk z.1)]
  exact iter_keep (fun x : HB => x k j) (fun n x => up2_n (fun z => hk z.1)) _ h
theorem M_let_k {h : HB} {b d k j : Nat} (hk : k ≠ 1) : M_let h b d k j = h k j := by
  unfold M_let
  rw [M_pass_k hk, M_move_k hk]
theorem M_note_k {h : HB} {b d k j : Nat} (hk : k ≠ 1) : M_note h b d k j = h k j := by
  unfold M_note
  split
  · rfl
  · rw [up2_n (fun z => hk z.1), up2_n (fun z => hk z.1), up2_n (fun z => hk z.1)]
theorem M_onH_k {h : HB} {b d k j : Nat} (hk : k ≠ 1) : M_onH h b d k j = h k j := by
  unfold M_onH
  repeat' split
  · exact up2_n (fun z => hk z.1)
  · rfl
  · exact M_let_k hk
  · rw [up2_n (fun z => hk z.1), M_let_k hk, M_let_k hk]
  · exact M_let_k hk
theorem M_alH_k {h : HB} {b d k j : Nat} (hk : k ≠ 1) : M_alH h b d k j = h k j := by
  unfold M_alH
  split
  · rw [M_pass_k hk, M_note_k hk]
  · rfl
theorem M_askH_k {h : HB} {b d : Nat} {s : Int32} {k j : Nat} (hk : k ≠ 1) : M_askH h b d s k j = h k j := by
  have e : M_askS h b d k j = h k j := by
    unfold M_askS
    repeat' split
    · rfl
    · exact M_onH_k hk
    · exact M_alH_k hk
  unfold M_askH
  split
  · rw [up2_n (fun z => hk z.1)]; exact e
  · rw [up2_n (fun z => hk z.1), up2_n (fun z => hk z.1)]; exact e
theorem M_wait_k {h : HB} {n : Int32} {k j : Nat} (hk : k ≠ 1) : M_wait h n k j = h k j := by
  unfold M_wait
  rw [show iter M_wB (ix (h 1 529)) (up2 h 1 528 (h 1 528 + n)) k j = (up2 h 1 528 (h 1 528 + n)) k j from iter_keep (fun x : HB => x k j) (fun n x => up2_n (fun z => hk z.1)) _ _]
  exact up2_n (fun z => hk z.1)
theorem M_copy_k {h : HB} {d k j : Nat} (hk : k ≠ 1) : M_copy h d k j = h k j := by
  unfold M_copy
  rw [up2_n (fun z => hk z.1), M_tcB_k _ _ _ _ _ _ hk]
theorem M_merge_k {h : HB} {d k j : Nat} (hk : k ≠ 1) : M_merge h d k j = h k j := by
  unfold M_merge
  rw [up2_n (fun z => hk z.1), M_mgB_k _ _ _ _ _ _ hk]
def M_doT (h : HB) (w p : Nat) : Int32 × HB := if w = 0 then M_badgeT h (h 8 p) else if w = 1 then M_doorT h (h 8 p) (h 8 (p + 1)) (h 8 (p + 2)) (h 8 (p + 3)) else if w = 2 then M_askT h (h 8 p) (h 8 (p + 1)) (nI 0) else if w = 3 then M_askT h (h 8 p) (h 8 (p + 1)) (nI 1) else if w = 4 then M_waitT h (h 8 p) else if w = 5 then M_onT h (h 8 p) (nI 0) else if w = 6 then M_onT h (h 8 p) (nI 1) else M_barT h (h 8 p) (nI 1)
theorem M_doT_k {h : HB} {w p k j : Nat} (hk : k ≠ 1) : (M_doT h w p).2 k j = h k j := by
  unfold M_doT M_badgeT M_doorT M_askT M_waitT M_onT M_barT
  repeat' split
  all_goals first | rfl | exact M_badge_k hk | exact M_door_k hk | exact M_askH_k hk | exact M_wait_k hk | (show M_copy _ _ k j = _; rw [M_copy_k hk, up2_n (fun z => hk z.1)]) | (show M_merge _ _ k j = _; rw [M_merge_k hk, up2_n (fun z => hk z.1)]) | exact up2_n (fun z => hk z.1)

set_option maxHeartbeats 4000000 in
set_option maxRecDepth 100000 in
theorem c_X7_doOrder (E : EN) (u : U3) (r : R1) (h : HB) (k : Nat) (w : Nat) (p : Nat) (hM : MOk h) (hk : k < 150) (fw : h 6 k = nI w) (hw : w < 8) (fp : h 7 k = nI p) (hp : p < 150) (hp2 : w = 2 ∨ w = 3 → p + 1 < 150) (hp4 : w = 1 → p + 3 < 150) : CT E yX7_doOrder wsX7_doOrder (rmT 5 115) [.ref (eA E 6 0), .int (nI k)] (ub u 6 h) r (some (.int ((M_doT h w p).1))) (ub u 6 ((M_doT h w p).2)) r := by
  refine CT_ofI (cc := cX7_doOrder) (nL := 4) (own := RX7) (by decide) rfl rfl rfl (Nat.le_of_ble_eq_true rfl) (fun F C K => ?_)
  have hin7 : ∀ w ∈ u_ws RX7 TX7 15, w ∈ wsX7_doOrder := by decide +kernel
  refine tt_to (lv1 := [(0, .ref (eA E 6 0)), (1, .int (nI k))]) rfl rfl rfl rfl ?_
  refine tt_aload_n C dX7_doOrder_0 rfl 0 rfl ?_
  refine tt_get (v := .ref (eA E 6 7)) C oM0 rfl hin7 8 (by decide) (List.mem_of_getElem? (i := 1) (by decide +kernel)) rfl dX7_doOrder_1 ?_
  refine tt_iload_n C dX7_doOrder_4 rfl 1 rfl ?_
  refine tt_ialdB (v := nI p) C aM7 k rfl (by omega) fp dX7_doOrder_5 ?_
  refine tt_istore_n (lv' := [(0, .ref (eA E 6 0)), (1, .int (nI k)), (2, .int (nI p))]) C dX7_doOrder_6 rfl (by decide) [1, 2, 0] rfl ?_
  refine tt_aload_n C dX7_doOrder_7 rfl 0 rfl ?_
  refine tt_get (v := .ref (eA E 6 8)) C oM0 rfl hin7 9 (by decide) (List.mem_of_getElem? (i := 2) (by decide +kernel)) rfl dX7_doOrder_8 ?_
  refine tt_iload_n C dX7_doOrder_11 rfl 2 rfl ?_
  refine tt_ialdB (v := h 8 p) C aM8 p rfl (by omega) rfl dX7_doOrder_12 ?_
  refine tt_istore_n (lv' := [(0, .ref (eA E 6 0)), (1, .int (nI k)), (2, .int (nI p)), (3, .int (h 8 p))]) C dX7_doOrder_13 rfl (by decide) [1, 2, 3, 0] rfl ?_
  refine tt_aload_n C dX7_doOrder_14 rfl 0 rfl ?_
  refine tt_get (v := .ref (eA E 6 6)) C oM0 rfl hin7 7 (by decide) (List.mem_of_getElem? (i := 3) (by decide +kernel)) rfl dX7_doOrder_15 ?_
  refine tt_iload_n C dX7_doOrder_18 rfl 1 rfl ?_
  refine tt_ialdB (v := nI w) C aM6 k rfl (by omega) fw dX7_doOrder_19 ?_
  rcases (by omega : w = 0 ∨ w = 1 ∨ w = 2 ∨ w = 3 ∨ w = 4 ∨ w = 5 ∨ w = 6 ∨ w = 7) with rfl | rfl | rfl | rfl | rfl | rfl | rfl | rfl
  · skip
    refine tt_tabIn (off := 44) (tgt := 64) C dX7_doOrder_20 (by decide) (by decide) (by decide) (by decide) ?_
    refine tt_aload_n C dX7_doOrder_64 rfl 0 rfl ?_
    refine tt_iload_n C dX7_doOrder_65 rfl 3 rfl ?_
    refine tt_cVI C (c_X7_putBadge_T E u r h (h 8 p) hM) gX7_doOrder_X7_putBadge rfl ⟨rfl, rfl⟩ 1 (by decide +kernel) ⟨Nat.le_of_ble_eq_true rfl, Nat.le_of_ble_eq_true rfl⟩ rfl oM0 rfl (Nat.le_of_ble_eq_true rfl) dX7_doOrder_66 rfl ?_
    generalize e_2 : (M_badgeT h (h 8 p)).2 = h_1
    exact tt_iret K dX7_doOrder_69 (by subst e_2; rfl) (by subst e_2; rfl) rfl
  · skip
    refine tt_tabIn (off := 50) (tgt := 70) C dX7_doOrder_20 (by decide) (by decide) (by decide) (by decide) ?_
    refine tt_aload_n C dX7_doOrder_70 rfl 0 rfl ?_
    refine tt_iload_n C dX7_doOrder_71 rfl 3 rfl ?_
    refine tt_aload_n C dX7_doOrder_72 rfl 0 rfl ?_
    refine tt_get (v := .ref (eA E 6 8)) C oM0 rfl hin7 9 (by decide) (List.mem_of_getElem? (i := 2) (by decide +kernel)) rfl dX7_doOrder_73 ?_
    refine tt_iload_n C dX7_doOrder_76 rfl 2 rfl ?_
    refine tt_iconst (v := nI 1) C dX7_doOrder_77 (by decide) ?_
    refine tt_iadd (v := nI (p + 1)) C dX7_doOrder_78 (nI_add _ _) ?_
    refine tt_ialdB (v := h 8 (p + 1)) C aM8 (p + 1) rfl (by omega) rfl dX7_doOrder_79 ?_
    refine tt_aload_n C dX7_doOrder_80 rfl 0 rfl ?_
    refine tt_get (v := .ref (eA E 6 8)) C oM0 rfl hin7 9 (by decide) (List.mem_of_getElem? (i := 2) (by decide +kernel)) rfl dX7_doOrder_81 ?_
    refine tt_iload_n C dX7_doOrder_84 rfl 2 rfl ?_
    refine tt_iconst (v := nI 2) C dX7_doOrder_85 (by decide) ?_
    refine tt_iadd (v := nI (p + 2)) C dX7_doOrder_86 (nI_add _ _) ?_
    refine tt_ialdB (v := h 8 (p + 2)) C aM8 (p + 2) rfl (by omega) rfl dX7_doOrder_87 ?_
    refine tt_aload_n C dX7_doOrder_88 rfl 0 rfl ?_
    refine tt_get (v := .ref (eA E 6 8)) C oM0 rfl hin7 9 (by decide) (List.mem_of_getElem? (i := 2) (by decide +kernel)) rfl dX7_doOrder_89 ?_
    refine tt_iload_n C dX7_doOrder_92 rfl 2 rfl ?_
    refine tt_iconst (v := nI 3) C dX7_doOrder_93 (by decide) ?_
    refine tt_iadd (v := nI (p + 3)) C dX7_doOrder_94 (nI_add _ _) ?_
    refine tt_ialdB (v := h 8 (p + 3)) C aM8 (p + 3) rfl (by omega) rfl dX7_doOrder_95 ?_
    refine tt_cVI C (c_X7_putDoor_T E u r h (h 8 p) (h 8 (p + 1)) (h 8 (p + 2)) (h 8 (p + 3)) hM) gX7_doOrder_X7_putDoor rfl ⟨rfl, rfl⟩ 4 (by decide +kernel) ⟨Nat.le_of_ble_eq_true rfl, Nat.le_of_ble_eq_true rfl⟩ rfl oM0 rfl (Nat.le_of_ble_eq_true rfl) dX7_doOrder_96 rfl ?_
    generalize e_4 : (M_doorT h (h 8 p) (h 8 (p + 1)) (h 8 (p + 2)) (h 8 (p + 3))).2 = h_3
    exact tt_iret K dX7_doOrder_99 (by subst e_4; rfl) (by subst e_4; rfl) rfl
  · skip
    refine tt_tabIn (off := 80) (tgt := 100) C dX7_doOrder_20 (by decide) (by decide) (by decide) (by decide) ?_
    refine tt_aload_n C dX7_doOrder_100 rfl 0 rfl ?_
    refine tt_iload_n C dX7_doOrder_101 rfl 3 rfl ?_
    refine tt_aload_n C dX7_doOrder_102 rfl 0 rfl ?_
    refine tt_get (v := .ref (eA E 6 8)) C oM0 rfl hin7 9 (by decide) (List.mem_of_getElem? (i := 2) (by decide +kernel)) rfl dX7_doOrder_103 ?_
    refine tt_iload_n C dX7_doOrder_106 rfl 2 rfl ?_
    refine tt_iconst (v := nI 1) C dX7_doOrder_107 (by decide) ?_
    refine tt_iadd (v := nI (p + 1)) C dX7_doOrder_108 (nI_add _ _) ?_
    refine tt_ialdB (v := h 8 (p + 1)) C aM8 (p + 1) rfl (by omega) rfl dX7_doOrder_109 ?_
    refine tt_iconst (v := nI 0) C dX7_doOrder_110 (by decide) ?_
    refine tt_cVI C (c_X7_ask_T E u r h (h 8 p) (h 8 (p + 1)) (nI 0) hM) gX7_doOrder_X7_ask rfl ⟨rfl, rfl⟩ 3 (by decide +kernel) ⟨Nat.le_of_ble_eq_true rfl, Nat.le_of_ble_eq_true rfl⟩ rfl oM0 rfl (Nat.le_of_ble_eq_true rfl) dX7_doOrder_111 rfl ?_
    generalize e_6 : (M_askT h (h 8 p) (h 8 (p + 1)) (nI 0)).2 = h_5
    exact tt_iret K dX7_doOrder_114 (by subst e_6; rfl) (by subst e_6; rfl) rfl
  · skip
    refine tt_tabIn (off := 95) (tgt := 115) C dX7_doOrder_20 (by decide) (by decide) (by decide) (by decide) ?_
    refine tt_aload_n C dX7_doOrder_115 rfl 0 rfl ?_
    refine tt_iload_n C dX7_doOrder_116 rfl 3 rfl ?_
    refine tt_aload_n C dX7_doOrder_117 rfl 0 rfl ?_
    refine tt_get (v := .ref (eA E 6 8)) C oM0 rfl hin7 9 (by decide) (List.mem_of_getElem? (i := 2) (by decide +kernel)) rfl dX7_doOrder_118 ?_
    refine tt_iload_n C dX7_doOrder_121 rfl 2 rfl ?_
    refine tt_iconst (v := nI 1) C dX7_doOrder_122 (by decide) ?_
    refine tt_iadd (v := nI (p + 1)) C dX7_doOrder_123 (nI_add _ _) ?_
    refine tt_ialdB (v := h 8 (p + 1)) C aM8 (p + 1) rfl (by omega) rfl dX7_doOrder_124 ?_
    refine tt_iconst (v := nI 1) C dX7_doOrder_125 (by decide) ?_
    refine tt_cVI C (c_X7_ask_T E u r h (h 8 p) (h 8 (p + 1)) (nI 1) hM) gX7_doOrder_X7_ask rfl ⟨rfl, rfl⟩ 3 (by decide +kernel) ⟨Nat.le_of_ble_eq_true rfl, Nat.le_of_ble_eq_true rfl⟩ rfl oM0 rfl (Nat.le_of_ble_eq_true rfl) dX7_doOrder_126 rfl ?_
    generalize e_8 : (M_askT h (h 8 p) (h 8 (p + 1)) (nI 1)).2 = h_7
    exact tt_iret K dX7_doOrder_129 (by subst e_8; rfl) (by subst e_8; rfl) rfl
  · skip
    refine tt_tabIn (off := 110) (tgt := 130) C dX7_doOrder_20 (by decide) (by decide) (by decide) (by decide) ?_
    refine tt_aload_n C dX7_doOrder_130 rfl 0 rfl ?_
    refine tt_iload_n C dX7_doOrder_131 rfl 3 rfl ?_
    refine tt_cVI C (c_X7_wait_T E u r h (h 8 p) hM) gX7_doOrder_X7_wait rfl ⟨rfl, rfl⟩ 1 (by decide +kernel) ⟨Nat.le_of_ble_eq_true rfl, Nat.le_of_ble_eq_true rfl⟩ rfl oM0 rfl (Nat.le_of_ble_eq_true rfl) dX7_doOrder_132 rfl ?_
    generalize e_10 : (M_waitT h (h 8 p)).2 = h_9
    exact tt_iret K dX7_doOrder_135 (by subst e_10; rfl) (by subst e_10; rfl) rfl
  · skip
    refine tt_tabIn (off := 116) (tgt := 136) C dX7_doOrder_20 (by decide) (by decide) (by decide) (by decide) ?_
    refine tt_aload_n C dX7_doOrder_136 rfl 0 rfl ?_
    refine tt_iload_n C dX7_doOrder_137 rfl 3 rfl ?_
    refine tt_iconst (v := nI 0) C dX7_doOrder_138 (by decide) ?_
    refine tt_cVI C (c_X7_putOnline_T E u r h (h 8 p) (nI 0) hM) gX7_doOrder_X7_putOnline rfl ⟨rfl, rfl⟩ 2 (by decide +kernel) ⟨Nat.le_of_ble_eq_true rfl, Nat.le_of_ble_eq_true rfl⟩ rfl oM0 rfl (Nat.le_of_ble_eq_true rfl) dX7_doOrder_139 rfl ?_
    generalize e_12 : (M_onT h (h 8 p) (nI 0)).2 = h_11
    exact tt_iret K dX7_doOrder_142 (by subst e_12; rfl) (by subst e_12; rfl) rfl
  · skip
    refine tt_tabIn (off := 123) (tgt := 143) C dX7_doOrder_20 (by decide) (by decide) (by decide) (by decide) ?_
    refine tt_aload_n C dX7_doOrder_143 rfl 0 rfl ?_
    refine tt_iload_n C dX7_doOrder_144 rfl 3 rfl ?_
    refine tt_iconst (v := nI 1) C dX7_doOrder_145 (by decide) ?_
    refine tt_cVI C (c_X7_putOnline_T E u r h (h 8 p) (nI 1) hM) gX7_doOrder_X7_putOnline rfl ⟨rfl, rfl⟩ 2 (by decide +kernel) ⟨Nat.le_of_ble_eq_true rfl, Nat.le_of_ble_eq_true rfl⟩ rfl oM0 rfl (Nat.le_of_ble_eq_true rfl) dX7_doOrder_146 rfl ?_
    generalize e_14 : (M_onT h (h 8 p) (nI 1)).2 = h_13
    exact tt_iret K dX7_doOrder_149 (by subst e_14; rfl) (by subst e_14; rfl) rfl
  · skip
    refine tt_tabOut (tgt := 150) C dX7_doOrder_20 (by decide) (by decide) ?_
    refine tt_aload_n C dX7_doOrder_150 rfl 0 rfl ?_
    refine tt_iload_n C dX7_doOrder_151 rfl 3 rfl ?_
    refine tt_iconst (v := nI 1) C dX7_doOrder_152 (by decide) ?_
    refine tt_cVI C (c_X7_putBarred_T E u r h (h 8 p) (nI 1) hM) gX7_doOrder_X7_putBarred rfl ⟨rfl, rfl⟩ 2 (by decide +kernel) ⟨Nat.le_of_ble_eq_true rfl, Nat.le_of_ble_eq_true rfl⟩ rfl oM0 rfl (Nat.le_of_ble_eq_true rfl) dX7_doOrder_153 rfl ?_
    generalize e_16 : (M_barT h (h 8 p) (nI 1)).2 = h_15
    exact tt_iret K dX7_doOrder_156 (by subst e_16; rfl) (by subst e_16; rfl) rfl

abbrev M_rf (v : Int32) : Prop := ¬ (-2 : Int32) < v ∧ ¬ v < (-4 : Int32)
def M_rd (g : HB) : Nat → Nat × HB
  | 0 => (0, g)
  | j + 1 => ((M_rd g j).1 + (if M_rf (M_doT (M_rd g j).2 (ix (g 6 j)) (ix (g 7 j))).1 then 0 else 1), (M_doT (M_rd g j).2 (ix (g 6 j)) (ix (g 7 j))).2)
theorem M_rd_k (g : HB) {k i : Nat} (hk : k ≠ 1) : ∀ j, (M_rd g j).2 k i = g k i
  | 0 => rfl
  | j + 1 => by
    show (M_doT (M_rd g j).2 _ _).2 k i = g k i
    rw [M_doT_k hk]
    exact M_rd_k g hk j
theorem M_rd_le (g : HB) : ∀ j, (M_rd g j).1 ≤ j
  | 0 => Nat.le_refl 0
  | j + 1 => by
    have := M_rd_le g j
    show (M_rd g j).1 + _ ≤ j + 1
    split <;> omega
def RdOk (g : HB) (Q : Nat) : Prop := g 0 2 = nI Q ∧ Q < 150 ∧ vI (g 0 0) 5 ∧ ∀ j, j < Q → MOk (M_rd g j).2 ∧ vI (g 6 j) 8 ∧ vI (g 7 j) 150 ∧ ((ix (g 6 j) = 2 ∨ ix (g 6 j) = 3) → ix (g 7 j) + 1 < 150) ∧ (ix (g 6 j) = 1 → ix (g 7 j) + 3 < 150)

set_option maxHeartbeats 4000000 in
set_option maxRecDepth 100000 in
theorem l_rd (E : EN) (u : U3) (r : R1) (h : HB) (Q : Nat) (hR : RdOk h Q) (F : FX) (C : Cx E F cX7_reads 4 RX7 wsX7_reads (rmT 6 138)) (K : RtI E F cX7_reads (nI ((M_rd h Q).1)) (ub u 6 (M_push (M_rd h Q).2)) r) : ∀ (n j : Nat), j ≤ Q → Q + 1 ≤ j + n → T E F 4 (ub u 6 ((M_rd h j).2)) r 23 [(0, .ref (eA E 6 0)), (1, .int (-1)), (2, .int (nI ((M_rd h j).1))), (3, .int (nI j))] [] := by
  have hin7 : ∀ w ∈ u_ws RX7 TX7 15, w ∈ wsX7_reads := by decide +kernel
  intro n
  induction n with
  | zero => intro j h1 h2; exact absurd h2 (by omega)
  | succ n ih =>
    intro j h1 h2
    generalize ej : (M_rd h j).2 = hj
    have hQ := hR.2.1
    have f2 : hj 0 2 = nI Q := by rw [← ej, M_rd_k h (by decide)]; exact hR.1
    refine tt_iload_n C dX7_reads_23 rfl 3 rfl ?_
    refine tt_aload_n C dX7_reads_24 rfl 0 rfl ?_
    refine tt_getI (v := nI Q) C oM0 rfl hin7 10 (by decide) (List.mem_of_getElem? (i := 1) (by decide +kernel)) rfl (ub_v.trans f2) dX7_reads_25 ?_
    refine tt_icmp_ge C (tgt := 56) dX7_reads_28 (by decide) (nI_leI (by omega) (by omega)) (fun c_101 => ?_) (fun c_101 => ?_)
    · skip
      have hje : Q = j := (by omega); subst hje
      refine tt_aload_n C dX7_reads_56 rfl 0 rfl ?_
      refine tt_iload_n C dX7_reads_57 rfl 2 rfl ?_
      refine tt_cVI C (c_X7_finish_O E u r hj (nI ((M_rd h Q).1)) (nref (by have := M_rd_le h Q; omega)) (by rw [← ej, M_rd_k h (by decide)]; exact hR.2.2.1)) gX7_reads_X7_finish rfl ⟨rfl, rfl⟩ 1 (by decide +kernel) ⟨Nat.le_of_ble_eq_true rfl, Nat.le_of_ble_eq_true rfl⟩ rfl oM0 rfl (Nat.le_of_ble_eq_true rfl) dX7_reads_58 rfl ?_
      generalize e_103 : M_push hj = h_102
      exact tt_iret K dX7_reads_61 (by subst e_103; subst ej; rfl) (by subst e_103; subst ej; rfl) rfl
    · skip
      obtain ⟨hj1, hj2, hj3, hj4, hj5⟩ := hR.2.2.2 j (by omega)
      refine tt_iload_n C dX7_reads_31 rfl 2 rfl ?_
      refine tt_aload_n C dX7_reads_32 rfl 0 rfl ?_
      refine tt_iload_n C dX7_reads_33 rfl 3 rfl ?_
      refine tt_cVI C (c_X7_doOrder E u r hj j (ix (h 6 j)) (ix (h 7 j)) (by rw [← ej]; exact hj1) (by first | assumption | omega) (by rw [← ej, M_rd_k h (by decide)]; exact ix_eq hj2 (by decide)) (ix_lt hj2 (by decide)) (by rw [← ej, M_rd_k h (by decide)]; exact ix_eq hj3 (by decide)) (ix_lt hj3 (by decide)) hj4 hj5) gX7_reads_X7_doOrder rfl ⟨rfl, rfl⟩ 1 (by decide +kernel) ⟨Nat.le_of_ble_eq_true rfl, Nat.le_of_ble_eq_true rfl⟩ rfl oM0 rfl (Nat.le_of_ble_eq_true rfl) dX7_reads_34 rfl ?_
      generalize e_105 : (M_doT hj (ix (h 6 j)) (ix (h 7 j))).2 = h_104
      refine tt_cSI C (c_X7_isRefused E (ub u 6 h_104) r ((M_doT hj (ix (h 6 j)) (ix (h 7 j))).1)) gX7_reads_X7_isRefused rfl ⟨rfl, rfl⟩ 1 (by decide +kernel) ⟨Nat.le_of_ble_eq_true rfl, Nat.le_of_ble_eq_true rfl⟩ rfl (Nat.le_of_ble_eq_true rfl) dX7_reads_37 rfl ?_
      refine tt_if_eqB C (tgt := 47) dX7_reads_40 (by decide) (fun c_106 => ?_) (fun c_106 => ?_)
      · skip
        refine tt_iconst (v := nI 1) C dX7_reads_47 (by decide) ?_
        refine tt_iadd (v := nI ((M_rd h j).1 + 1)) C dX7_reads_48 (nI_add _ _) ?_
        refine tt_istore_n (lv' := [(0, .ref (eA E 6 0)), (1, .int (-1)), (2, .int (nI ((M_rd h j).1 + 1))), (3, .int (nI j))]) C dX7_reads_49 rfl (by decide) [1, 2, 0, 3] rfl ?_
        refine tt_iinc (p := 3) (v := nI (j + 1)) (lv' := [(0, .ref (eA E 6 0)), (1, .int (-1)), (2, .int (nI ((M_rd h j).1 + 1))), (3, .int (nI (j + 1)))]) C dX7_reads_50 rfl (by rw [show Int32.ofInt 1 = nI 1 from by decide]; exact nI_add _ _) (by decide) [1, 2, 3, 0] rfl ?_
        refine tt_goto (tgt := 23) C dX7_reads_53 (by decide) ?_
        subst e_105
        subst ej
        refine tt_to (u1 := ub u 6 (M_rd h (j + 1)).2) (lv1 := [(0, .ref (eA E 6 0)), (1, .int (-1)), (2, .int (nI (M_rd h (j + 1)).1)), (3, .int (nI (j + 1)))]) rfl rfl ?_ rfl (ih (j + 1) (by omega) (by omega))
        rw [show (M_rd h (j + 1)).1 = (M_rd h j).1 + 1 from by rw [M_rd]; simp only [if_neg c_106]]
      · skip
        refine tt_iconst (v := nI 0) C dX7_reads_43 (by decide) ?_
        refine tt_goto (tgt := 48) C dX7_reads_44 (by decide) ?_
        refine tt_iadd (v := nI ((M_rd h j).1 + 0)) C dX7_reads_48 (nI_add _ _) ?_
        refine tt_istore_n (lv' := [(0, .ref (eA E 6 0)), (1, .int (-1)), (2, .int (nI ((M_rd h j).1 + 0))), (3, .int (nI j))]) C dX7_reads_49 rfl (by decide) [1, 2, 0, 3] rfl ?_
        refine tt_iinc (p := 3) (v := nI (j + 1)) (lv' := [(0, .ref (eA E 6 0)), (1, .int (-1)), (2, .int (nI ((M_rd h j).1 + 0))), (3, .int (nI (j + 1)))]) C dX7_reads_50 rfl (by rw [show Int32.ofInt 1 = nI 1 from by decide]; exact nI_add _ _) (by decide) [1, 2, 3, 0] rfl ?_
        refine tt_goto (tgt := 23) C dX7_reads_53 (by decide) ?_
        subst e_105
        subst ej
        refine tt_to (u1 := ub u 6 (M_rd h (j + 1)).2) (lv1 := [(0, .ref (eA E 6 0)), (1, .int (-1)), (2, .int (nI (M_rd h (j + 1)).1)), (3, .int (nI (j + 1)))]) rfl rfl ?_ rfl (ih (j + 1) (by omega) (by omega))
        rw [show (M_rd h (j + 1)).1 = (M_rd h j).1 + 0 from by rw [M_rd]; simp only [if_pos c_106]]

set_option maxHeartbeats 4000000 in
set_option maxRecDepth 100000 in
theorem c_X7_reads_F (E : EN) (u : U3) (r : R1) (h : HB) (f : Nat → Int32) (L : Nat) (fb : h 5 = f) (fl : h 0 1 = nI L) (hL : L ≤ 150) (hf : ¬ (M_rtF h f L).1 = -1) : CT E yX7_reads wsX7_reads (rmT 6 138) [.ref (eA E 6 0)] (ub u 6 h) r (some (.int (-10 - (M_rtF h f L).1))) (ub u 6 ((M_rtF h f L).2)) r := by
  refine CT_ofI (cc := cX7_reads) (nL := 4) (own := RX7) (by decide) rfl rfl rfl (Nat.le_of_ble_eq_true rfl) (fun F C K => ?_)
  refine tt_to (lv1 := [(0, .ref (eA E 6 0))]) rfl rfl rfl rfl ?_
  refine tt_aload_n C dX7_reads_0 rfl 0 rfl ?_
  refine tt_cVI C (c_X7_readText E u r h f L fb fl hL) gX7_reads_X7_readText rfl ⟨rfl, rfl⟩ 0 (by decide +kernel) ⟨Nat.le_of_ble_eq_true rfl, Nat.le_of_ble_eq_true rfl⟩ rfl oM0 rfl (Nat.le_of_ble_eq_true rfl) dX7_reads_1 rfl ?_
  generalize e_2 : (M_rtF h f L).2 = h_1
  refine tt_istore_n (lv' := [(0, .ref (eA E 6 0)), (1, .int ((M_rtF h f L).1))]) C dX7_reads_4 rfl (by decide) [1, 0] rfl ?_
  refine tt_iload_n C dX7_reads_5 rfl 1 rfl ?_
  refine tt_iconst (v := (-1 : Int32)) C dX7_reads_6 (by decide) ?_
  refine tt_icmp_eq C (tgt := 15) dX7_reads_7 (by decide) Iff.rfl (fun c_3 => ?_) (fun c_3 => ?_)
  · skip
    exact absurd c_3 hf
  · skip
    refine tt_bipush (v := (-10 : Int32)) C dX7_reads_10 (by decide) ?_
    refine tt_iload_n C dX7_reads_12 rfl 1 rfl ?_
    refine tt_isub C dX7_reads_13 rfl ?_
    exact tt_iret K dX7_reads_14 (by subst e_2; rfl) (by subst e_2; rfl) rfl

set_option maxHeartbeats 4000000 in
set_option maxRecDepth 100000 in
theorem c_X7_reads_O (E : EN) (u : U3) (r : R1) (h : HB) (f : Nat → Int32) (L : Nat) (Q : Nat) (fb : h 5 = f) (fl : h 0 1 = nI L) (hL : L ≤ 150) (hf : (M_rtF h f L).1 = -1) (hR : RdOk (M_bring (M_rtF h f L).2 1 0 2 0) Q) : CT E yX7_reads wsX7_reads (rmT 6 138) [.ref (eA E 6 0)] (ub u 6 h) r (some (.int (nI ((M_rd (M_bring (M_rtF h f L).2 1 0 2 0) Q).1)))) (ub u 6 (M_push (M_rd (M_bring (M_rtF h f L).2 1 0 2 0) Q).2)) r := by
  refine CT_ofI (cc := cX7_reads) (nL := 4) (own := RX7) (by decide) rfl rfl rfl (Nat.le_of_ble_eq_true rfl) (fun F C K => ?_)
  refine tt_to (lv1 := [(0, .ref (eA E 6 0))]) rfl rfl rfl rfl ?_
  refine tt_aload_n C dX7_reads_0 rfl 0 rfl ?_
  refine tt_cVI C (c_X7_readText E u r h f L fb fl hL) gX7_reads_X7_readText rfl ⟨rfl, rfl⟩ 0 (by decide +kernel) ⟨Nat.le_of_ble_eq_true rfl, Nat.le_of_ble_eq_true rfl⟩ rfl oM0 rfl (Nat.le_of_ble_eq_true rfl) dX7_reads_1 rfl ?_
  generalize e_2 : (M_rtF h f L).2 = h_1
  refine tt_istore_n (lv' := [(0, .ref (eA E 6 0)), (1, .int ((M_rtF h f L).1))]) C dX7_reads_4 rfl (by decide) [1, 0] rfl ?_
  refine tt_iload_n C dX7_reads_5 rfl 1 rfl ?_
  refine tt_iconst (v := (-1 : Int32)) C dX7_reads_6 (by decide) ?_
  refine tt_icmp_eq C (tgt := 15) dX7_reads_7 (by decide) Iff.rfl (fun c_3 => ?_) (fun c_3 => ?_)
  · skip
    subst e_2
    refine tt_to (lv1 := [(0, .ref (eA E 6 0)), (1, .int (-1))]) rfl rfl (by rw [hf]) rfl ?_
    refine tt_aload_n C dX7_reads_15 rfl 0 rfl ?_
    refine tt_cVV C (c_X7_save E u r ((M_rtF h f L).2)) gX7_reads_X7_save rfl ⟨rfl, rfl⟩ 0 (by decide +kernel) ⟨Nat.le_of_ble_eq_true rfl, Nat.le_of_ble_eq_true rfl⟩ rfl oM0 rfl (Nat.le_of_ble_eq_true rfl) dX7_reads_16 rfl ?_
    generalize e_5 : M_bring ((M_rtF h f L).2) 1 0 2 0 = h_4
    refine tt_iconst (v := nI 0) C dX7_reads_19 (by decide) ?_
    refine tt_istore_n (lv' := [(0, .ref (eA E 6 0)), (1, .int (-1)), (2, .int (nI 0))]) C dX7_reads_20 rfl (by decide) [1, 2, 0] rfl ?_
    refine tt_iconst (v := nI 0) C dX7_reads_21 (by decide) ?_
    refine tt_istore_n (lv' := [(0, .ref (eA E 6 0)), (1, .int (-1)), (2, .int (nI 0)), (3, .int (nI 0))]) C dX7_reads_22 rfl (by decide) [1, 2, 3, 0] rfl ?_
    subst e_5
    exact l_rd E u r _ Q hR F C K (Q + 1) 0 (by omega) (by omega)
  · skip
    exact absurd hf c_3
