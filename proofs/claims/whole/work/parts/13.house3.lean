theorem H_mnote_n {h : HB} {b d : Nat} {w : Int32} {k j : Nat} (hk : k ≠ 0 ∧ k ≠ 21 ∧ k ≠ 22) : H_mnote h b d w k j = h k j := by
  unfold H_mnote
  split
  · exact up2_n (fun z => hk.1 z.1)
  · exact H_move_n ⟨fun z => hk.1 z.1, hk.2.1, hk.2.2⟩
def H_mgB (h : HB) (d a : Nat) (x : HB) : HB := H_mnote x (ix (h 14 (d * 20 + a))) d (h 13 (d * 20 + a))
def H_merge (h : HB) (d : Nat) : HB := up2 (iter (H_mgB h d) (ix (h 12 d)) h) 12 d (nI 0)
theorem H_mgB_k (h : HB) (d n k j : Nat) (hk : k ≠ 0 ∧ k ≠ 21 ∧ k ≠ 22) : iter (H_mgB h d) n h k j = h k j := iter_keep (fun x : HB => x k j) (fun n a => H_mnote_n hk) n h

set_option maxHeartbeats 4000000 in
set_option maxRecDepth 100000 in
theorem l_merge (E : EN) (u : U3) (r : R1) (h : HB) (i : Nat) (d : Nat) (hi : i < 5) (hd : d < 8) (hn : vI (h 12 d) 21) (hN : ∀ a, a < ix (h 12 d) → vI (h 14 (d * 20 + a)) 8) (F : FX) (C : Cx E F cX2_mergeNotes 5 RX2 wsX2_mergeNotes (rmT 2 46)) (K : RtI E F cX2_mergeNotes (nI (ix (h 12 d))) (ub u i (H_merge h d)) r) : ∀ (n j : Nat), j ≤ ix (h 12 d) → ix (h 12 d) + 1 ≤ j + n → T E F 5 (ub u i (iter (H_mgB h d) j h)) r 17 [(0, .ref (eA E i 0)), (1, .int (nI d)), (2, .int (nI (ix (h 12 d)))), (3, .int (nI j))] [] := by
  have hin1 : ∀ w ∈ u_ws RX1 TX1 17, w ∈ wsX2_mergeNotes := by decide +kernel
  have hin2 : ∀ w ∈ u_ws RX2 TX2 8, w ∈ wsX2_mergeNotes := by decide +kernel
  intro n
  induction n with
  | zero => intro j h1 h2; exact absurd h2 (by omega)
  | succ n ih =>
    intro j h1 h2
    generalize ej : iter (H_mgB h d) j h = hj
    have hn' := ix_lt hn (by decide)
    refine tt_iload_n C dX2_mergeNotes_17 rfl 3 rfl ?_
    refine tt_iload_n C dX2_mergeNotes_18 rfl 2 rfl ?_
    refine tt_icmp_ge C (tgt := 61) dX2_mergeNotes_19 (by decide) (nI_leI (by omega) (by omega)) (fun c_101 => ?_) (fun c_101 => ?_)
    · skip
      refine tt_aload_n C dX2_mergeNotes_61 rfl 0 rfl ?_
      refine tt_get (v := .ref (eA E i 1)) C (oH0 hi) rfl hin2 0 (by decide) (List.mem_of_getElem? (i := 1) (by decide +kernel)) rfl dX2_mergeNotes_62 ?_
      refine tt_get (v := .ref (eA E i 12)) C (oH1 hi) rfl hin1 11 (by decide) (List.mem_of_getElem? (i := 2) (by decide +kernel)) rfl dX2_mergeNotes_65 ?_
      refine tt_iload_n C dX2_mergeNotes_68 rfl 1 rfl ?_
      refine tt_iconst (v := nI 0) C dX2_mergeNotes_69 (by decide) ?_
      refine tt_iastB C (aH12 hi) d rfl (by omega) dX2_mergeNotes_70 ?_
      generalize e_103 : up2 hj 12 d (nI 0) = h_102
      refine tt_iload_n C dX2_mergeNotes_71 rfl 2 rfl ?_
      exact tt_iret K dX2_mergeNotes_72 (by subst e_103; subst ej; first | rfl | (have hje : j = ix (h 12 d) := (by omega); subst hje; rfl) | (simp [c_101, H_merge]; done) | grind [H_merge]) (by subst e_103; subst ej; first | rfl | (have hje : j = ix (h 12 d) := (by omega); subst hje; rfl) | (simp [c_101, H_merge]; done) | (refine congrArg _ ?_; grind [H_merge])) rfl
    · skip
      refine tt_iload_n C dX2_mergeNotes_22 rfl 1 rfl ?_
      refine tt_bipush (v := nI 20) C dX2_mergeNotes_23 (by decide) ?_
      refine tt_imul (v := nI (d * 20)) C dX2_mergeNotes_25 (pk_mul _ _) ?_
      refine tt_iload_n C dX2_mergeNotes_26 rfl 3 rfl ?_
      refine tt_iadd (v := nI (d * 20 + j)) C dX2_mergeNotes_27 (nI_add _ _) ?_
      refine tt_istore (lv' := [(0, .ref (eA E i 0)), (1, .int (nI d)), (2, .int (nI (ix (h 12 d)))), (3, .int (nI j)), (4, .int (nI (d * 20 + j)))]) C dX2_mergeNotes_28 (by decide) [1, 2, 3, 4, 0] rfl ?_
      have hoj := hN j (by omega)
      have hoj' := ix_lt hoj (by decide)
      refine tt_aload_n C dX2_mergeNotes_30 rfl 0 rfl ?_
      refine tt_aload_n C dX2_mergeNotes_31 rfl 0 rfl ?_
      refine tt_get (v := .ref (eA E i 1)) C (oH0 hi) rfl hin2 0 (by decide) (List.mem_of_getElem? (i := 1) (by decide +kernel)) rfl dX2_mergeNotes_32 ?_
      refine tt_get (v := .ref (eA E i 14)) C (oH1 hi) rfl hin1 13 (by decide) (List.mem_of_getElem? (i := 7) (by decide +kernel)) rfl dX2_mergeNotes_35 ?_
      refine tt_iload C dX2_mergeNotes_38 4 rfl ?_
      refine tt_ialdB (v := h 14 (d * 20 + j)) C (aH14 hi) (d * 20 + j) rfl (by omega) (by rw [← ej]; exact H_mgB_k _ _ _ _ _ (by decide)) dX2_mergeNotes_40 ?_
      refine tt_iload_n C dX2_mergeNotes_41 rfl 1 rfl ?_
      refine tt_aload_n C dX2_mergeNotes_42 rfl 0 rfl ?_
      refine tt_get (v := .ref (eA E i 1)) C (oH0 hi) rfl hin2 0 (by decide) (List.mem_of_getElem? (i := 1) (by decide +kernel)) rfl dX2_mergeNotes_43 ?_
      refine tt_get (v := .ref (eA E i 13)) C (oH1 hi) rfl hin1 12 (by decide) (List.mem_of_getElem? (i := 8) (by decide +kernel)) rfl dX2_mergeNotes_46 ?_
      refine tt_iload C dX2_mergeNotes_49 4 rfl ?_
      refine tt_ialdB (v := h 13 (d * 20 + j)) C (aH13 hi) (d * 20 + j) rfl (by omega) (by rw [← ej]; exact H_mgB_k _ _ _ _ _ (by decide)) dX2_mergeNotes_51 ?_
      refine tt_to (st1 := [.int (h 13 (d * 20 + j)), .int (nI d), .int (nI (ix (h 14 (d * 20 + j)))), .ref (eA E i 0)]) rfl rfl rfl (congrArg (fun z => ([.int (h 13 (d * 20 + j)), .int (nI d), .int z, .ref (eA E i 0)] : List Value)) (ix_eq hoj (by decide))) ?_
      refine tt_cVV C (c_X2_mergeNote E u r hj i (ix (h 14 (d * 20 + j))) d (h 13 (d * 20 + j)) hi (by first | assumption | omega) hd) gX2_mergeNotes_X2_mergeNote rfl ⟨rfl, rfl⟩ 3 (by decide +kernel) ⟨Nat.le_of_ble_eq_true rfl, Nat.le_of_ble_eq_true rfl⟩ rfl (oH0 hi) rfl (Nat.le_of_ble_eq_true rfl) dX2_mergeNotes_52 rfl ?_
      generalize e_105 : H_mnote hj (ix (h 14 (d * 20 + j))) d (h 13 (d * 20 + j)) = h_104
      refine tt_iinc (p := 3) (v := nI (j + 1)) (lv' := [(0, .ref (eA E i 0)), (1, .int (nI d)), (2, .int (nI (ix (h 12 d)))), (3, .int (nI (j + 1))), (4, .int (nI (d * 20 + j)))]) C dX2_mergeNotes_55 rfl (by rw [show Int32.ofInt 1 = nI 1 from by decide]; exact nI_add _ _) (by decide) [1, 2, 3, 0, 4] rfl ?_
      refine tt_goto (tgt := 17) C dX2_mergeNotes_58 (by decide) ?_
      subst e_105
      subst ej
      refine tt_lvsub [0, 1, 2, 3] rfl ?_
      exact ih (j + 1) (by omega) (by omega)

set_option maxHeartbeats 4000000 in
set_option maxRecDepth 100000 in
theorem c_X2_mergeNotes (E : EN) (u : U3) (r : R1) (h : HB) (i : Nat) (d : Nat) (hi : i < 5) (hd : d < 8) (hn : vI (h 12 d) 21) (hN : ∀ a, a < ix (h 12 d) → vI (h 14 (d * 20 + a)) 8) : CT E yX2_mergeNotes wsX2_mergeNotes (rmT 2 46) [.ref (eA E i 0), .int (nI d)] (ub u i h) r (some (.int (nI (ix (h 12 d))))) (ub u i (H_merge h d)) r := by
  refine CT_ofI (cc := cX2_mergeNotes) (nL := 5) (own := RX2) (by decide) rfl rfl rfl (Nat.le_of_ble_eq_true rfl) (fun F C K => ?_)
  have hin1 : ∀ w ∈ u_ws RX1 TX1 17, w ∈ wsX2_mergeNotes := by decide +kernel
  have hin2 : ∀ w ∈ u_ws RX2 TX2 8, w ∈ wsX2_mergeNotes := by decide +kernel
  refine tt_to (lv1 := [(0, .ref (eA E i 0)), (1, .int (nI d))]) rfl rfl rfl rfl ?_
  have hn' := ix_lt hn (by decide)
  refine tt_aload_n C dX2_mergeNotes_0 rfl 0 rfl ?_
  refine tt_get (v := .ref (eA E i 1)) C (oH0 hi) rfl hin2 0 (by decide) (List.mem_of_getElem? (i := 1) (by decide +kernel)) rfl dX2_mergeNotes_1 ?_
  refine tt_get (v := .ref (eA E i 12)) C (oH1 hi) rfl hin1 11 (by decide) (List.mem_of_getElem? (i := 2) (by decide +kernel)) rfl dX2_mergeNotes_4 ?_
  refine tt_iload_n C dX2_mergeNotes_7 rfl 1 rfl ?_
  refine tt_ialdB (v := nI (ix (h 12 d))) C (aH12 hi) d rfl (by omega) (ix_eq hn (by decide)) dX2_mergeNotes_8 ?_
  refine tt_bipush (v := nI 20) C dX2_mergeNotes_9 (by decide) ?_
  refine tt_mmin (v := nI (ix (h 12 d))) C (List.mem_of_getElem? (i := 3) (by decide +kernel)) (List.mem_of_getElem? (i := 4) (by decide +kernel)) (List.mem_of_getElem? (i := 5) (by decide +kernel)) (List.mem_of_getElem? (i := 6) (by decide +kernel)) (Nat.le_of_ble_eq_true rfl) (Nat.le_of_ble_eq_true rfl) dX2_mergeNotes_11 (if_neg (nI_nlt (by omega) (by decide))) ?_
  refine tt_istore_n (lv' := [(0, .ref (eA E i 0)), (1, .int (nI d)), (2, .int (nI (ix (h 12 d))))]) C dX2_mergeNotes_14 rfl (by decide) [1, 2, 0] rfl ?_
  refine tt_iconst (v := nI 0) C dX2_mergeNotes_15 (by decide) ?_
  refine tt_istore_n (lv' := [(0, .ref (eA E i 0)), (1, .int (nI d)), (2, .int (nI (ix (h 12 d)))), (3, .int (nI 0))]) C dX2_mergeNotes_16 rfl (by decide) [1, 2, 3, 0] rfl ?_
  exact l_merge E u r h i d hi hd hn hN F C K (ix (h 12 d) + 1) 0 (by omega) (by omega)

def H_online (h : HB) (d : Nat) : HB := H_merge (up2 h 9 d (nI 1)) d
set_option maxHeartbeats 4000000 in
set_option maxRecDepth 100000 in
theorem c_X2_changeOnline_A (E : EN) (u : U3) (r : R1) (h : HB) (i : Nat) (d : Nat) (hi : i < 5) (hd : d < 8) (hn : vI (h 12 d) 21) (hN : ∀ a, a < ix (h 12 d) → vI (h 14 (d * 20 + a)) 8) : CT E yX2_changeOnline wsX2_changeOnline (rmT 3 70) [.ref (eA E i 0), .int (nI d), .int (nI 1)] (ub u i h) r (some (.int (nI (ix (h 12 d))))) (ub u i (H_online h d)) r := by
  refine CT_ofI (cc := cX2_changeOnline) (nL := 3) (own := RX2) (by decide) rfl rfl rfl (Nat.le_of_ble_eq_true rfl) (fun F C K => ?_)
  have hin1 : ∀ w ∈ u_ws RX1 TX1 17, w ∈ wsX2_changeOnline := by decide +kernel
  have hin2 : ∀ w ∈ u_ws RX2 TX2 8, w ∈ wsX2_changeOnline := by decide +kernel
  refine tt_to (lv1 := [(0, .ref (eA E i 0)), (1, .int (nI d)), (2, .int (nI 1))]) rfl rfl rfl rfl ?_
  refine tt_aload_n C dX2_changeOnline_0 rfl 0 rfl ?_
  refine tt_get (v := .ref (eA E i 1)) C (oH0 hi) rfl hin2 0 (by decide) (List.mem_of_getElem? (i := 1) (by decide +kernel)) rfl dX2_changeOnline_1 ?_
  refine tt_get (v := .ref (eA E i 9)) C (oH1 hi) rfl hin1 8 (by decide) (List.mem_of_getElem? (i := 2) (by decide +kernel)) rfl dX2_changeOnline_4 ?_
  refine tt_iload_n C dX2_changeOnline_7 rfl 1 rfl ?_
  refine tt_iload_n C dX2_changeOnline_8 rfl 2 rfl ?_
  refine tt_iastB C (aH9 hi) d rfl (by omega) dX2_changeOnline_9 ?_
  generalize e_2 : up2 h 9 d (nI 1) = h_1
  refine tt_iload_n C dX2_changeOnline_10 rfl 2 rfl ?_
  refine tt_iconst (v := nI 1) C dX2_changeOnline_11 (by decide) ?_
  refine tt_icmp_ne C (tgt := 21) dX2_changeOnline_12 (by decide) (nI_eq (by omega) (by omega)) (fun c_3 => ?_) (fun c_3 => ?_)
  · skip
    exact absurd (by decide) c_3
  · skip
    refine tt_aload_n C dX2_changeOnline_15 rfl 0 rfl ?_
    refine tt_iload_n C dX2_changeOnline_16 rfl 1 rfl ?_
    refine tt_cVI C (c_X2_mergeNotes E u r h_1 i d hi hd (by rw [show h_1 12 d = h 12 d from (by rw [← e_2, up2_n (fun z => absurd z.1 (by decide))])]; first | assumption | exact vI_nI (by omega)) (by rw [← e_2]; simpa [up2] using hN)) gX2_changeOnline_X2_mergeNotes rfl ⟨rfl, rfl⟩ 1 (by decide +kernel) ⟨Nat.le_of_ble_eq_true rfl, Nat.le_of_ble_eq_true rfl⟩ rfl (oH0 hi) rfl (Nat.le_of_ble_eq_true rfl) dX2_changeOnline_17 rfl ?_
    generalize e_5 : H_merge h_1 d = h_4
    exact tt_iret K dX2_changeOnline_20 (by subst e_5; subst e_2; rw [show up2 h 9 d (nI 1) 12 d = h 12 d from up2_n (fun z => absurd z.1 (by decide))]) (by subst e_5; subst e_2; first | rfl | (simp [c_3, H_online]; done) | (refine congrArg _ ?_; grind [H_online])) rfl

def H_offline (h : HB) (d : Nat) : HB := H_tcopy (up2 h 9 d (nI 0)) d
set_option maxHeartbeats 4000000 in
set_option maxRecDepth 100000 in
theorem c_X2_changeOnline_Z (E : EN) (u : U3) (r : R1) (h : HB) (i : Nat) (d : Nat) (hi : i < 5) (hd : d < 8) (hB : vI (h 18 0) 9) : CT E yX2_changeOnline wsX2_changeOnline (rmT 3 70) [.ref (eA E i 0), .int (nI d), .int (nI 0)] (ub u i h) r (some (.int (nI 0))) (ub u i (H_offline h d)) r := by
  refine CT_ofI (cc := cX2_changeOnline) (nL := 3) (own := RX2) (by decide) rfl rfl rfl (Nat.le_of_ble_eq_true rfl) (fun F C K => ?_)
  have hin1 : ∀ w ∈ u_ws RX1 TX1 17, w ∈ wsX2_changeOnline := by decide +kernel
  have hin2 : ∀ w ∈ u_ws RX2 TX2 8, w ∈ wsX2_changeOnline := by decide +kernel
  refine tt_to (lv1 := [(0, .ref (eA E i 0)), (1, .int (nI d)), (2, .int (nI 0))]) rfl rfl rfl rfl ?_
  refine tt_aload_n C dX2_changeOnline_0 rfl 0 rfl ?_
  refine tt_get (v := .ref (eA E i 1)) C (oH0 hi) rfl hin2 0 (by decide) (List.mem_of_getElem? (i := 1) (by decide +kernel)) rfl dX2_changeOnline_1 ?_
  refine tt_get (v := .ref (eA E i 9)) C (oH1 hi) rfl hin1 8 (by decide) (List.mem_of_getElem? (i := 2) (by decide +kernel)) rfl dX2_changeOnline_4 ?_
  refine tt_iload_n C dX2_changeOnline_7 rfl 1 rfl ?_
  refine tt_iload_n C dX2_changeOnline_8 rfl 2 rfl ?_
  refine tt_iastB C (aH9 hi) d rfl (by omega) dX2_changeOnline_9 ?_
  generalize e_2 : up2 h 9 d (nI 0) = h_1
  refine tt_iload_n C dX2_changeOnline_10 rfl 2 rfl ?_
  refine tt_iconst (v := nI 1) C dX2_changeOnline_11 (by decide) ?_
  refine tt_icmp_ne C (tgt := 21) dX2_changeOnline_12 (by decide) (nI_eq (by omega) (by omega)) (fun c_3 => ?_) (fun c_3 => ?_)
  · skip
    refine tt_aload_n C dX2_changeOnline_21 rfl 0 rfl ?_
    refine tt_get (v := .ref (eA E i 1)) C (oH0 hi) rfl hin2 0 (by decide) (List.mem_of_getElem? (i := 1) (by decide +kernel)) rfl dX2_changeOnline_22 ?_
    refine tt_iload_n C dX2_changeOnline_25 rfl 1 rfl ?_
    refine tt_aload_n C dX2_changeOnline_26 rfl 0 rfl ?_
    refine tt_get (v := .ref (eA E i 18)) C (oH0 hi) rfl hin2 1 (by decide) (List.mem_of_getElem? (i := 3) (by decide +kernel)) rfl dX2_changeOnline_27 ?_
    refine tt_cVV C (c_X1_takeCopy E u r h_1 i d hi hd (by rw [show h_1 18 0 = h 18 0 from (by rw [← e_2, up2_n (fun z => absurd z.1 (by decide))])]; first | assumption | exact vI_nI (by omega))) gX2_changeOnline_X1_takeCopy rfl ⟨rfl, rfl⟩ 2 (by decide +kernel) ⟨Nat.le_of_ble_eq_true rfl, Nat.le_of_ble_eq_true rfl⟩ rfl (oH1 hi) rfl (Nat.le_of_ble_eq_true rfl) dX2_changeOnline_30 rfl ?_
    generalize e_5 : H_tcopy h_1 d = h_4
    refine tt_iconst (v := nI 0) C dX2_changeOnline_33 (by decide) ?_
    exact tt_iret K dX2_changeOnline_34 (by subst e_5; subst e_2; first | rfl | (simp [c_3, H_offline]; done) | grind [H_offline]) (by subst e_5; subst e_2; first | rfl | (simp [c_3, H_offline]; done) | (refine congrArg _ ?_; grind [H_offline])) rfl
  · skip
    exact absurd c_3 (by decide)

set_option maxHeartbeats 4000000 in
set_option maxRecDepth 100000 in
theorem c_X1_endWaiting_Z (E : EN) (u : U3) (r : R1) (h : HB) (i : Nat) (d : Nat) (hi : i < 5) (hd : d < 8) (hp : h 7 d = 0) : CT E yX1_endWaiting wsX1_endWaiting (rmT 0 0) [.ref (eA E i 1), .int (nI d)] (ub u i h) r (some (.int (-1))) (ub u i h) r := by
  refine CT_ofI (cc := cX1_endWaiting) (nL := 3) (own := RX1) (by decide) rfl rfl rfl (Nat.le_of_ble_eq_true rfl) (fun F C K => ?_)
  have hin1 : ∀ w ∈ u_ws RX1 TX1 17, w ∈ wsX1_endWaiting := by decide +kernel
  refine tt_to (lv1 := [(0, .ref (eA E i 1)), (1, .int (nI d))]) rfl rfl rfl rfl ?_
  refine tt_aload_n C dX1_endWaiting_0 rfl 0 rfl ?_
  refine tt_get (v := .ref (eA E i 7)) C (oH1 hi) rfl hin1 6 (by decide) (List.mem_of_getElem? (i := 1) (by decide +kernel)) rfl dX1_endWaiting_1 ?_
  refine tt_iload_n C dX1_endWaiting_4 rfl 1 rfl ?_
  refine tt_ialdB (v := h 7 d) C (aH7 hi) d rfl (by omega) rfl dX1_endWaiting_5 ?_
  refine tt_if_ne C (tgt := 11) dX1_endWaiting_6 (by decide) Iff.rfl (fun c_1 => ?_) (fun c_1 => ?_)
  · skip
    exact absurd hp c_1
  · skip
    refine tt_iconst (v := (-1 : Int32)) C dX1_endWaiting_9 (by decide) ?_
    exact tt_iret K dX1_endWaiting_10 (by first | rfl | (simp [c_1]; done) | grind []) (by first | rfl | (simp [c_1]; done) | (refine congrArg _ ?_; grind [])) rfl

set_option maxHeartbeats 4000000 in
set_option maxRecDepth 100000 in
theorem c_X1_endWaiting_P (E : EN) (u : U3) (r : R1) (h : HB) (i : Nat) (d : Nat) (hi : i < 5) (hd : d < 8) (hp : ¬ h 7 d = 0) : CT E yX1_endWaiting wsX1_endWaiting (rmT 0 0) [.ref (eA E i 1), .int (nI d)] (ub u i h) r (some (.int (h 11 d))) (ub u i (up2 h 11 d (-1))) r := by
  refine CT_ofI (cc := cX1_endWaiting) (nL := 3) (own := RX1) (by decide) rfl rfl rfl (Nat.le_of_ble_eq_true rfl) (fun F C K => ?_)
  have hin1 : ∀ w ∈ u_ws RX1 TX1 17, w ∈ wsX1_endWaiting := by decide +kernel
  refine tt_to (lv1 := [(0, .ref (eA E i 1)), (1, .int (nI d))]) rfl rfl rfl rfl ?_
  refine tt_aload_n C dX1_endWaiting_0 rfl 0 rfl ?_
  refine tt_get (v := .ref (eA E i 7)) C (oH1 hi) rfl hin1 6 (by decide) (List.mem_of_getElem? (i := 1) (by decide +kernel)) rfl dX1_endWaiting_1 ?_
  refine tt_iload_n C dX1_endWaiting_4 rfl 1 rfl ?_
  refine tt_ialdB (v := h 7 d) C (aH7 hi) d rfl (by omega) rfl dX1_endWaiting_5 ?_
  refine tt_if_ne C (tgt := 11) dX1_endWaiting_6 (by decide) Iff.rfl (fun c_1 => ?_) (fun c_1 => ?_)
  · skip
    refine tt_aload_n C dX1_endWaiting_11 rfl 0 rfl ?_
    refine tt_get (v := .ref (eA E i 11)) C (oH1 hi) rfl hin1 10 (by decide) (List.mem_of_getElem? (i := 2) (by decide +kernel)) rfl dX1_endWaiting_12 ?_
    refine tt_iload_n C dX1_endWaiting_15 rfl 1 rfl ?_
    refine tt_ialdB (v := h 11 d) C (aH11 hi) d rfl (by omega) rfl dX1_endWaiting_16 ?_
    refine tt_istore_n (lv' := [(0, .ref (eA E i 1)), (1, .int (nI d)), (2, .int (h 11 d))]) C dX1_endWaiting_17 rfl (by decide) [1, 2, 0] rfl ?_
    refine tt_aload_n C dX1_endWaiting_18 rfl 0 rfl ?_
    refine tt_get (v := .ref (eA E i 11)) C (oH1 hi) rfl hin1 10 (by decide) (List.mem_of_getElem? (i := 2) (by decide +kernel)) rfl dX1_endWaiting_19 ?_
    refine tt_iload_n C dX1_endWaiting_22 rfl 1 rfl ?_
    refine tt_iconst (v := (-1 : Int32)) C dX1_endWaiting_23 (by decide) ?_
    refine tt_iastB C (aH11 hi) d rfl (by omega) dX1_endWaiting_24 ?_
    generalize e_3 : up2 h 11 d (-1 : Int32) = h_2
    refine tt_iload_n C dX1_endWaiting_25 rfl 2 rfl ?_
    exact tt_iret K dX1_endWaiting_26 (by subst e_3; first | rfl | (simp [c_1]; done) | grind []) (by subst e_3; first | rfl | (simp [c_1]; done) | (refine congrArg _ ?_; grind [])) rfl
  · skip
    exact absurd c_1 hp

theorem H_two_m {h : HB} {b d : Nat} (hm : vI (h 25 0) 65) : vI (H_two h b d 25 0) 65 := by
  have hm' := ix_lt hm (by decide)
  unfold H_two
  split
  · next hc =>
    rw [up2_n (fun z => absurd z.1 (by decide)), up2_s]
    exact vI_nI (by omega)
  · rw [up2_n (fun z => absurd z.1 (by decide))]
    exact hm
theorem H_let_m {h : HB} {b d : Nat} (hm : vI (h 25 0) 65) : vI (H_let h b d 25 0) 65 := by
  unfold H_let H_go
  apply H_two_m
  rw [up2_n (fun z => absurd z.1 (by decide)), up2_n (fun z => absurd z.1 (by decide)), up2_n (fun z => absurd z.1 (by decide)), H_move_n (by simp)]
  exact hm
def H_dec (h : HB) (b d : Nat) : Nat := if h 9 d = nI 1 then H_on h b d else H_off h b d
def H_askL (h : HB) (b d : Nat) : HB := if h 7 d = 0 then H_let h b d else if h 11 d = -1 then up2 (H_let h b d) 11 d (-1) else H_let (up2 (H_let h b d) 11 d (-1)) (ix (h 11 d)) d
def H_askO (h : HB) (b d : Nat) : HB := H_go (H_addNote h d b (h 0 0)) b d
def H_ask (h : HB) (b d : Nat) (s : Int32) : HB :=
  if H_dec h b d = 5 then up2 (up2 h 11 d (nI b)) 28 5 (h 28 5 + nI 1)
  else if ¬ H_dec h b d = 0 then up2 h 28 (H_dec h b d) (h 28 (H_dec h b d) + nI 1)
  else if h 9 d = nI 1 then H_askL (if s = nI 1 then H_alarm h b else h) b d
  else H_askO (if s = nI 1 then H_alarm h b else h) b d

set_option maxHeartbeats 4000000 in
set_option maxRecDepth 100000 in
theorem c_X2_ask (E : EN) (u : U3) (r : R1) (h : HB) (i : Nat) (b : Nat) (d : Nat) (s : Int32) (hi : i < 5) (hb : b < 8) (hd : d < 8) (ho : h 8 d = -1 ∨ vI (h 8 d) 8) (hm : vI (h 25 0) 65) (hn : vI (h 12 d) 21) (hw : h 11 d = -1 ∨ vI (h 11 d) 8) : CT E yX2_ask wsX2_ask (rmT 3 67) [.ref (eA E i 0), .int (nI b), .int (nI d), .int s] (ub u i h) r (some (.int (nI (H_dec h b d)))) (ub u i (H_ask h b d s)) r := by
  refine CT_ofI (cc := cX2_ask) (nL := 7) (own := RX2) (by decide) rfl rfl rfl (Nat.le_of_ble_eq_true rfl) (fun F C K => ?_)
  have hin1 : ∀ w ∈ u_ws RX1 TX1 17, w ∈ wsX2_ask := by decide +kernel
  have hin2 : ∀ w ∈ u_ws RX2 TX2 8, w ∈ wsX2_ask := by decide +kernel
  refine tt_to (lv1 := [(0, .ref (eA E i 0)), (1, .int (nI b)), (2, .int (nI d)), (3, .int s)]) rfl rfl rfl rfl ?_
  have hon := H_on_lt h b d
  have hoff := H_off_lt h b d
  refine tt_aload_n C dX2_ask_0 rfl 0 rfl ?_
  refine tt_get (v := .ref (eA E i 1)) C (oH0 hi) rfl hin2 0 (by decide) (List.mem_of_getElem? (i := 1) (by decide +kernel)) rfl dX2_ask_1 ?_
  refine tt_get (v := .ref (eA E i 9)) C (oH1 hi) rfl hin1 8 (by decide) (List.mem_of_getElem? (i := 2) (by decide +kernel)) rfl dX2_ask_4 ?_
  refine tt_iload_n C dX2_ask_7 rfl 2 rfl ?_
  refine tt_ialdB (v := h 9 d) C (aH9 hi) d rfl (by omega) rfl dX2_ask_8 ?_
  refine tt_iconst (v := nI 1) C dX2_ask_9 (by decide) ?_
  refine tt_icmp_ne C (tgt := 17) dX2_ask_10 (by decide) Iff.rfl (fun c_1 => ?_) (fun c_1 => ?_)
  · skip
    refine tt_iconst (v := nI 0) C dX2_ask_17 (by decide) ?_
    refine tt_istore (lv' := [(0, .ref (eA E i 0)), (1, .int (nI b)), (2, .int (nI d)), (3, .int s), (4, .int (nI 0))]) C dX2_ask_18 (by decide) [1, 2, 3, 4, 0] rfl ?_
    refine tt_iload C dX2_ask_20 4 rfl ?_
    refine tt_if_eq C (tgt := 34) dX2_ask_22 (by decide) (nI_eq0 (by omega)) (fun c_2 => ?_) (fun c_2 => ?_)
    · skip
      refine tt_aload_n C dX2_ask_34 rfl 0 rfl ?_
      refine tt_iload_n C dX2_ask_35 rfl 1 rfl ?_
      refine tt_iload_n C dX2_ask_36 rfl 2 rfl ?_
      refine tt_cVI C (c_X2_decideOffline E u r h i b d hi hb hd ho) gX2_ask_X2_decideOffline rfl ⟨rfl, rfl⟩ 2 (by decide +kernel) ⟨Nat.le_of_ble_eq_true rfl, Nat.le_of_ble_eq_true rfl⟩ rfl (oH0 hi) rfl (Nat.le_of_ble_eq_true rfl) dX2_ask_37 rfl ?_
      refine tt_istore (lv' := [(0, .ref (eA E i 0)), (1, .int (nI b)), (2, .int (nI d)), (3, .int s), (4, .int (nI 0)), (5, .int (nI (H_off h b d)))]) C dX2_ask_40 (by decide) [1, 2, 3, 4, 5, 0] rfl ?_
      refine tt_iload C dX2_ask_42 5 rfl ?_
      refine tt_iconst (v := nI 5) C dX2_ask_44 (by decide) ?_
      refine tt_icmp_ne C (tgt := 57) dX2_ask_45 (by decide) (nI_eq (by omega) (by omega)) (fun c_3 => ?_) (fun c_3 => ?_)
      · skip
        refine tt_iload C dX2_ask_57 5 rfl ?_
        refine tt_if_eq C (tgt := 76) dX2_ask_59 (by decide) (nI_eq0 (by omega)) (fun c_4 => ?_) (fun c_4 => ?_)
        · skip
          refine tt_iload_n C dX2_ask_76 rfl 3 rfl ?_
          refine tt_iconst (v := nI 1) C dX2_ask_77 (by decide) ?_
          refine tt_icmp_ne C (tgt := 86) dX2_ask_78 (by decide) Iff.rfl (fun c_5 => ?_) (fun c_5 => ?_)
          · skip
            refine tt_iload C dX2_ask_86 4 rfl ?_
            refine tt_if_ne C (tgt := 112) dX2_ask_88 (by decide) (nI_eq0 (by omega)) (fun c_6 => ?_) (fun c_6 => ?_)
            · skip
              exact absurd (by decide) c_6
            · skip
              refine tt_aload_n C dX2_ask_91 rfl 0 rfl ?_
              refine tt_get (v := .ref (eA E i 1)) C (oH0 hi) rfl hin2 0 (by decide) (List.mem_of_getElem? (i := 1) (by decide +kernel)) rfl dX2_ask_92 ?_
              refine tt_iload_n C dX2_ask_95 rfl 2 rfl ?_
              refine tt_iload_n C dX2_ask_96 rfl 1 rfl ?_
              refine tt_aload_n C dX2_ask_97 rfl 0 rfl ?_
              refine tt_getI (v := h 0 0) C (oH0 hi) rfl hin2 4 (by decide) (List.mem_of_getElem? (i := 4) (by decide +kernel)) rfl (ub_v.trans rfl) dX2_ask_98 ?_
              refine tt_cVV C (c_X1_addNote E u r h i d b (h 0 0) hi hd hn) gX2_ask_X1_addNote rfl ⟨rfl, rfl⟩ 3 (by decide +kernel) ⟨Nat.le_of_ble_eq_true rfl, Nat.le_of_ble_eq_true rfl⟩ rfl (oH1 hi) rfl (Nat.le_of_ble_eq_true rfl) dX2_ask_101 rfl ?_
              generalize e_8 : H_addNote h d b (h 0 0) = h_7
              refine tt_aload_n C dX2_ask_104 rfl 0 rfl ?_
              refine tt_iload_n C dX2_ask_105 rfl 1 rfl ?_
              refine tt_iload_n C dX2_ask_106 rfl 2 rfl ?_
              refine tt_cVV C (c_X2_goThrough E u r h_7 i b d hi hb hd (by rw [show h_7 25 0 = h 25 0 from (by rw [← e_8, H_addNote_n (by decide)])]; first | assumption | exact vI_nI (by omega))) gX2_ask_X2_goThrough rfl ⟨rfl, rfl⟩ 2 (by decide +kernel) ⟨Nat.le_of_ble_eq_true rfl, Nat.le_of_ble_eq_true rfl⟩ rfl (oH0 hi) rfl (Nat.le_of_ble_eq_true rfl) dX2_ask_107 rfl ?_
              generalize e_10 : H_go h_7 b d = h_9
              refine tt_iconst (v := nI 0) C dX2_ask_110 (by decide) ?_
              exact tt_iret K dX2_ask_111 (by subst e_10; subst e_8; first | rfl | (simp [c_1, c_2, c_3, c_4, c_5, c_6, H_ask, H_dec, H_askL, H_askO]; done) | grind [H_ask, H_dec, H_askL, H_askO]) (by subst e_10; subst e_8; first | rfl | (refine congrArg _ ?_; simp only [c_1, c_2, c_3, c_4, c_5, c_6, H_ask, H_dec, H_askL, H_askO, not_false_eq_true, not_true_eq_false, and_true, true_and, and_false, false_and, and_self, or_true, true_or, or_false, false_or, or_self, if_true, if_false, H_alarm_n (show ¬ (11 = 0 ∧ d = 3) ∧ 11 ≠ 23 by simp), H_alarm_n (show ¬ (7 = 0 ∧ d = 3) ∧ 7 ≠ 23 by simp)]; done) | (refine congrArg _ ?_; simp [c_1, c_2, c_3, c_4, c_5, c_6, H_ask, H_dec, H_askL, H_askO, H_alarm_n, up2]; done)) rfl
          · skip
            refine tt_aload_n C dX2_ask_81 rfl 0 rfl ?_
            refine tt_iload_n C dX2_ask_82 rfl 1 rfl ?_
            refine tt_cVV C (c_X2_raiseAlarm E u r h i b hi hb) gX2_ask_X2_raiseAlarm rfl ⟨rfl, rfl⟩ 1 (by decide +kernel) ⟨Nat.le_of_ble_eq_true rfl, Nat.le_of_ble_eq_true rfl⟩ rfl (oH0 hi) rfl (Nat.le_of_ble_eq_true rfl) dX2_ask_83 rfl ?_
            generalize e_12 : H_alarm h b = h_11
            refine tt_iload C dX2_ask_86 4 rfl ?_
            refine tt_if_ne C (tgt := 112) dX2_ask_88 (by decide) (nI_eq0 (by omega)) (fun c_13 => ?_) (fun c_13 => ?_)
            · skip
              exact absurd (by decide) c_13
            · skip
              refine tt_aload_n C dX2_ask_91 rfl 0 rfl ?_
              refine tt_get (v := .ref (eA E i 1)) C (oH0 hi) rfl hin2 0 (by decide) (List.mem_of_getElem? (i := 1) (by decide +kernel)) rfl dX2_ask_92 ?_
              refine tt_iload_n C dX2_ask_95 rfl 2 rfl ?_
              refine tt_iload_n C dX2_ask_96 rfl 1 rfl ?_
              refine tt_aload_n C dX2_ask_97 rfl 0 rfl ?_
              refine tt_getI (v := h 0 0) C (oH0 hi) rfl hin2 4 (by decide) (List.mem_of_getElem? (i := 4) (by decide +kernel)) rfl (ub_v.trans (by rw [← e_12, H_alarm_n (by simp)])) dX2_ask_98 ?_
              refine tt_cVV C (c_X1_addNote E u r h_11 i d b (h 0 0) hi hd (by rw [show h_11 12 d = h 12 d from (by rw [← e_12, H_alarm_n (by simp)])]; first | assumption | exact vI_nI (by omega))) gX2_ask_X1_addNote rfl ⟨rfl, rfl⟩ 3 (by decide +kernel) ⟨Nat.le_of_ble_eq_true rfl, Nat.le_of_ble_eq_true rfl⟩ rfl (oH1 hi) rfl (Nat.le_of_ble_eq_true rfl) dX2_ask_101 rfl ?_
              generalize e_15 : H_addNote h_11 d b (h 0 0) = h_14
              refine tt_aload_n C dX2_ask_104 rfl 0 rfl ?_
              refine tt_iload_n C dX2_ask_105 rfl 1 rfl ?_
              refine tt_iload_n C dX2_ask_106 rfl 2 rfl ?_
              refine tt_cVV C (c_X2_goThrough E u r h_14 i b d hi hb hd (by rw [show h_14 25 0 = h 25 0 from (by rw [← e_15, H_addNote_n (by decide), ← e_12, H_alarm_n (by simp)])]; first | assumption | exact vI_nI (by omega))) gX2_ask_X2_goThrough rfl ⟨rfl, rfl⟩ 2 (by decide +kernel) ⟨Nat.le_of_ble_eq_true rfl, Nat.le_of_ble_eq_true rfl⟩ rfl (oH0 hi) rfl (Nat.le_of_ble_eq_true rfl) dX2_ask_107 rfl ?_
              generalize e_17 : H_go h_14 b d = h_16
              refine tt_iconst (v := nI 0) C dX2_ask_110 (by decide) ?_
              exact tt_iret K dX2_ask_111 (by subst e_17; subst e_15; subst e_12; first | rfl | (simp [c_1, c_2, c_3, c_4, c_5, c_13, H_ask, H_dec, H_askL, H_askO]; done) | grind [H_ask, H_dec, H_askL, H_askO]) (by subst e_17; subst e_15; subst e_12; first | rfl | (refine congrArg _ ?_; simp only [c_1, c_2, c_3, c_4, c_5, c_13, H_ask, H_dec, H_askL, H_askO, not_false_eq_true, not_true_eq_false, and_true, true_and, and_false, false_and, and_self, or_true, true_or, or_false, false_or, or_self, if_true, if_false, H_alarm_n (show ¬ (11 = 0 ∧ d = 3) ∧ 11 ≠ 23 by simp), H_alarm_n (show ¬ (7 = 0 ∧ d = 3) ∧ 7 ≠ 23 by simp)]; done) | (refine congrArg _ ?_; simp [c_1, c_2, c_3, c_4, c_5, c_13, H_ask, H_dec, H_askL, H_askO, H_alarm_n, up2]; done)) rfl
        · skip
          refine tt_aload_n C dX2_ask_62 rfl 0 rfl ?_
          refine tt_get (v := .ref (eA E i 28)) C (oH0 hi) rfl hin2 3 (by decide) (List.mem_of_getElem? (i := 3) (by decide +kernel)) rfl dX2_ask_63 ?_
          refine tt_iload C dX2_ask_66 5 rfl ?_
          refine tt_dup2 C dX2_ask_68 rfl rfl ?_
          refine tt_ialdB (v := h 28 (H_off h b d)) C (aH28 hi) (H_off h b d) rfl (by omega) rfl dX2_ask_69 ?_
          refine tt_iconst (v := nI 1) C dX2_ask_70 (by decide) ?_
          refine tt_iadd C dX2_ask_71 rfl ?_
          refine tt_iastB C (aH28 hi) (H_off h b d) rfl (by omega) dX2_ask_72 ?_
          generalize e_19 : up2 h 28 (H_off h b d) ((h 28 (H_off h b d)) + (nI 1)) = h_18
          refine tt_iload C dX2_ask_73 5 rfl ?_
          exact tt_iret K dX2_ask_75 (by subst e_19; first | rfl | (simp [c_1, c_2, c_3, c_4, H_ask, H_dec, H_askL, H_askO]; done) | grind [H_ask, H_dec, H_askL, H_askO]) (by subst e_19; first | rfl | (refine congrArg _ ?_; simp only [c_1, c_2, c_3, c_4, H_ask, H_dec, H_askL, H_askO, not_false_eq_true, not_true_eq_false, and_true, true_and, and_false, false_and, and_self, or_true, true_or, or_false, false_or, or_self, if_true, if_false, H_alarm_n (show ¬ (11 = 0 ∧ d = 3) ∧ 11 ≠ 23 by simp), H_alarm_n (show ¬ (7 = 0 ∧ d = 3) ∧ 7 ≠ 23 by simp)]; done) | (refine congrArg _ ?_; simp [c_1, c_2, c_3, c_4, H_ask, H_dec, H_askL, H_askO, H_alarm_n, up2]; done)) rfl
      · skip
        refine tt_aload_n C dX2_ask_48 rfl 0 rfl ?_
        refine tt_get (v := .ref (eA E i 1)) C (oH0 hi) rfl hin2 0 (by decide) (List.mem_of_getElem? (i := 1) (by decide +kernel)) rfl dX2_ask_49 ?_
        refine tt_iload_n C dX2_ask_52 rfl 2 rfl ?_
        refine tt_iload_n C dX2_ask_53 rfl 1 rfl ?_
        refine tt_cVV C (c_X1_startWaiting E u r h i d b hi hd) gX2_ask_X1_startWaiting rfl ⟨rfl, rfl⟩ 2 (by decide +kernel) ⟨Nat.le_of_ble_eq_true rfl, Nat.le_of_ble_eq_true rfl⟩ rfl (oH1 hi) rfl (Nat.le_of_ble_eq_true rfl) dX2_ask_54 rfl ?_
        generalize e_21 : up2 h 11 d (nI b) = h_20
        refine tt_iload C dX2_ask_57 5 rfl ?_
        refine tt_if_eq C (tgt := 76) dX2_ask_59 (by decide) (nI_eq0 (by omega)) (fun c_22 => ?_) (fun c_22 => ?_)
        · skip
          exact absurd c_22 (by omega)
        · skip
          refine tt_aload_n C dX2_ask_62 rfl 0 rfl ?_
          refine tt_get (v := .ref (eA E i 28)) C (oH0 hi) rfl hin2 3 (by decide) (List.mem_of_getElem? (i := 3) (by decide +kernel)) rfl dX2_ask_63 ?_
          refine tt_iload C dX2_ask_66 5 rfl ?_
          refine tt_dup2 C dX2_ask_68 rfl rfl ?_
          refine tt_ialdB (v := h_20 28 (H_off h b d)) C (aH28 hi) (H_off h b d) rfl (by omega) rfl dX2_ask_69 ?_
          refine tt_iconst (v := nI 1) C dX2_ask_70 (by decide) ?_
          refine tt_iadd C dX2_ask_71 rfl ?_
          refine tt_iastB C (aH28 hi) (H_off h b d) rfl (by omega) dX2_ask_72 ?_
          generalize e_24 : up2 h_20 28 (H_off h b d) ((h_20 28 (H_off h b d)) + (nI 1)) = h_23
          refine tt_iload C dX2_ask_73 5 rfl ?_
          exact tt_iret K dX2_ask_75 (by subst e_24; subst e_21; first | rfl | (simp [c_1, c_2, c_3, c_22, H_ask, H_dec, H_askL, H_askO]; done) | grind [H_ask, H_dec, H_askL, H_askO]) (by subst e_24; subst e_21; first | rfl | (refine congrArg _ ?_; simp only [c_1, c_2, c_3, c_22, H_ask, H_dec, H_askL, H_askO, not_false_eq_true, not_true_eq_false, and_true, true_and, and_false, false_and, and_self, or_true, true_or, or_false, false_or, or_self, if_true, if_false, H_alarm_n (show ¬ (11 = 0 ∧ d = 3) ∧ 11 ≠ 23 by simp), H_alarm_n (show ¬ (7 = 0 ∧ d = 3) ∧ 7 ≠ 23 by simp)]; done) | (refine congrArg _ ?_; simp [c_1, c_2, c_3, c_22, H_ask, H_dec, H_askL, H_askO, H_alarm_n, up2]; done)) rfl
    · skip
      exact absurd (by decide) c_2
  · skip
    refine tt_iconst (v := nI 1) C dX2_ask_13 (by decide) ?_
    refine tt_goto (tgt := 18) C dX2_ask_14 (by decide) ?_
    refine tt_istore (lv' := [(0, .ref (eA E i 0)), (1, .int (nI b)), (2, .int (nI d)), (3, .int s), (4, .int (nI 1))]) C dX2_ask_18 (by decide) [1, 2, 3, 4, 0] rfl ?_
    refine tt_iload C dX2_ask_20 4 rfl ?_
    refine tt_if_eq C (tgt := 34) dX2_ask_22 (by decide) (nI_eq0 (by omega)) (fun c_25 => ?_) (fun c_25 => ?_)
    · skip
      exact absurd c_25 (by decide)
    · skip
      refine tt_aload_n C dX2_ask_25 rfl 0 rfl ?_
      refine tt_iload_n C dX2_ask_26 rfl 1 rfl ?_
      refine tt_iload_n C dX2_ask_27 rfl 2 rfl ?_
      refine tt_cVI C (c_X2_decideOnline E u r h i b d hi hb hd ho) gX2_ask_X2_decideOnline rfl ⟨rfl, rfl⟩ 2 (by decide +kernel) ⟨Nat.le_of_ble_eq_true rfl, Nat.le_of_ble_eq_true rfl⟩ rfl (oH0 hi) rfl (Nat.le_of_ble_eq_true rfl) dX2_ask_28 rfl ?_
      refine tt_goto (tgt := 40) C dX2_ask_31 (by decide) ?_
      refine tt_istore (lv' := [(0, .ref (eA E i 0)), (1, .int (nI b)), (2, .int (nI d)), (3, .int s), (4, .int (nI 1)), (5, .int (nI (H_on h b d)))]) C dX2_ask_40 (by decide) [1, 2, 3, 4, 5, 0] rfl ?_
      refine tt_iload C dX2_ask_42 5 rfl ?_
      refine tt_iconst (v := nI 5) C dX2_ask_44 (by decide) ?_
      refine tt_icmp_ne C (tgt := 57) dX2_ask_45 (by decide) (nI_eq (by omega) (by omega)) (fun c_26 => ?_) (fun c_26 => ?_)
      · skip
        refine tt_iload C dX2_ask_57 5 rfl ?_
        refine tt_if_eq C (tgt := 76) dX2_ask_59 (by decide) (nI_eq0 (by omega)) (fun c_27 => ?_) (fun c_27 => ?_)
        · skip
          refine tt_iload_n C dX2_ask_76 rfl 3 rfl ?_
          refine tt_iconst (v := nI 1) C dX2_ask_77 (by decide) ?_
          refine tt_icmp_ne C (tgt := 86) dX2_ask_78 (by decide) Iff.rfl (fun c_28 => ?_) (fun c_28 => ?_)
          · skip
            refine tt_iload C dX2_ask_86 4 rfl ?_
            refine tt_if_ne C (tgt := 112) dX2_ask_88 (by decide) (nI_eq0 (by omega)) (fun c_29 => ?_) (fun c_29 => ?_)
            · skip
              refine tt_aload_n C dX2_ask_112 rfl 0 rfl ?_
              refine tt_iload_n C dX2_ask_113 rfl 1 rfl ?_
              refine tt_iload_n C dX2_ask_114 rfl 2 rfl ?_
              refine tt_cVV C (c_X2_let E u r h i b d hi hb hd hm) gX2_ask_X2_let rfl ⟨rfl, rfl⟩ 2 (by decide +kernel) ⟨Nat.le_of_ble_eq_true rfl, Nat.le_of_ble_eq_true rfl⟩ rfl (oH0 hi) rfl (Nat.le_of_ble_eq_true rfl) dX2_ask_115 rfl ?_
              generalize e_31 : H_let h b d = h_30
              by_cases c7 : h 7 d = 0
              · skip
                refine tt_aload_n C dX2_ask_118 rfl 0 rfl ?_
                refine tt_get (v := .ref (eA E i 1)) C (oH0 hi) rfl hin2 0 (by decide) (List.mem_of_getElem? (i := 1) (by decide +kernel)) rfl dX2_ask_119 ?_
                refine tt_iload_n C dX2_ask_122 rfl 2 rfl ?_
                refine tt_cVI C (c_X1_endWaiting_Z E u r h_30 i d hi hd (by rw [show h_30 7 d = h 7 d from (by rw [← e_31, H_let_n (by simp)])]; exact c7)) gX2_ask_X1_endWaiting rfl ⟨rfl, rfl⟩ 1 (by decide +kernel) ⟨Nat.le_of_ble_eq_true rfl, Nat.le_of_ble_eq_true rfl⟩ rfl (oH1 hi) rfl (Nat.le_of_ble_eq_true rfl) dX2_ask_123 rfl ?_
                refine tt_istore (lv' := [(0, .ref (eA E i 0)), (1, .int (nI b)), (2, .int (nI d)), (3, .int s), (4, .int (nI 1)), (5, .int (nI (H_on h b d))), (6, .int (-1))]) C dX2_ask_126 (by decide) [1, 2, 3, 4, 5, 6, 0] rfl ?_
                refine tt_iload C dX2_ask_128 6 rfl ?_
                refine tt_iconst (v := (-1 : Int32)) C dX2_ask_130 (by decide) ?_
                refine tt_icmp_eq C (tgt := 141) dX2_ask_131 (by decide) Iff.rfl (fun c_32 => ?_) (fun c_32 => ?_)
                · skip
                  refine tt_iconst (v := nI 0) C dX2_ask_141 (by decide) ?_
                  exact tt_iret K dX2_ask_142 (by subst e_31; first | rfl | (simp [c_1, c_25, c_26, c_27, c_28, c_29, c7, c_32, H_ask, H_dec, H_askL, H_askO]; done) | grind [H_ask, H_dec, H_askL, H_askO]) (by subst e_31; first | rfl | (refine congrArg _ ?_; simp only [c_1, c_25, c_26, c_27, c_28, c_29, c7, c_32, H_ask, H_dec, H_askL, H_askO, not_false_eq_true, not_true_eq_false, and_true, true_and, and_false, false_and, and_self, or_true, true_or, or_false, false_or, or_self, if_true, if_false, H_alarm_n (show ¬ (11 = 0 ∧ d = 3) ∧ 11 ≠ 23 by simp), H_alarm_n (show ¬ (7 = 0 ∧ d = 3) ∧ 7 ≠ 23 by simp)]; done) | (refine congrArg _ ?_; simp [c_1, c_25, c_26, c_27, c_28, c_29, c7, c_32, H_ask, H_dec, H_askL, H_askO, H_alarm_n, up2]; done)) rfl
                · skip
                  exact absurd rfl c_32
              · skip
                refine tt_aload_n C dX2_ask_118 rfl 0 rfl ?_
                refine tt_get (v := .ref (eA E i 1)) C (oH0 hi) rfl hin2 0 (by decide) (List.mem_of_getElem? (i := 1) (by decide +kernel)) rfl dX2_ask_119 ?_
                refine tt_iload_n C dX2_ask_122 rfl 2 rfl ?_
                refine tt_cVI C (c_X1_endWaiting_P E u r h_30 i d hi hd (by rw [show h_30 7 d = h 7 d from (by rw [← e_31, H_let_n (by simp)])]; exact c7)) gX2_ask_X1_endWaiting rfl ⟨rfl, rfl⟩ 1 (by decide +kernel) ⟨Nat.le_of_ble_eq_true rfl, Nat.le_of_ble_eq_true rfl⟩ rfl (oH1 hi) rfl (Nat.le_of_ble_eq_true rfl) dX2_ask_123 rfl ?_
                generalize e_34 : up2 h_30 11 d (-1) = h_33
                refine tt_to (st1 := [.int (h 11 d)]) rfl rfl rfl (congrArg (fun z => ([.int z] : List Value)) (by rw [← e_31, H_let_n (by simp)])) ?_
                refine tt_istore (lv' := [(0, .ref (eA E i 0)), (1, .int (nI b)), (2, .int (nI d)), (3, .int s), (4, .int (nI 1)), (5, .int (nI (H_on h b d))), (6, .int (h 11 d))]) C dX2_ask_126 (by decide) [1, 2, 3, 4, 5, 6, 0] rfl ?_
                refine tt_iload C dX2_ask_128 6 rfl ?_
                refine tt_iconst (v := (-1 : Int32)) C dX2_ask_130 (by decide) ?_
                refine tt_icmp_eq C (tgt := 141) dX2_ask_131 (by decide) Iff.rfl (fun c_35 => ?_) (fun c_35 => ?_)
                · skip
                  refine tt_iconst (v := nI 0) C dX2_ask_141 (by decide) ?_
                  exact tt_iret K dX2_ask_142 (by subst e_34; subst e_31; first | rfl | (simp [c_1, c_25, c_26, c_27, c_28, c_29, c7, c_35, H_ask, H_dec, H_askL, H_askO]; done) | grind [H_ask, H_dec, H_askL, H_askO]) (by subst e_34; subst e_31; first | rfl | (refine congrArg _ ?_; simp only [c_1, c_25, c_26, c_27, c_28, c_29, c7, c_35, H_ask, H_dec, H_askL, H_askO, not_false_eq_true, not_true_eq_false, and_true, true_and, and_false, false_and, and_self, or_true, true_or, or_false, false_or, or_self, if_true, if_false, H_alarm_n (show ¬ (11 = 0 ∧ d = 3) ∧ 11 ≠ 23 by simp), H_alarm_n (show ¬ (7 = 0 ∧ d = 3) ∧ 7 ≠ 23 by simp)]; done) | (refine congrArg _ ?_; simp [c_1, c_25, c_26, c_27, c_28, c_29, c7, c_35, H_ask, H_dec, H_askL, H_askO, H_alarm_n, up2]; done)) rfl
                · skip
                  have hw2 := hw.resolve_left c_35
                  have hw2' := ix_lt hw2 (by decide)
                  refine tt_aload_n C dX2_ask_134 rfl 0 rfl ?_
                  refine tt_iload C dX2_ask_135 6 rfl ?_
                  refine tt_iload_n C dX2_ask_137 rfl 2 rfl ?_
                  refine tt_to (st1 := [.int (nI d), .int (nI (ix (h 11 d))), .ref (eA E i 0)]) rfl rfl rfl (congrArg (fun z => ([.int (nI d), .int z, .ref (eA E i 0)] : List Value)) (ix_eq hw2 (by decide))) ?_
                  refine tt_cVV C (c_X2_let E u r h_33 i (ix (h 11 d)) d hi (by first | assumption | omega) hd (by rw [← e_34, ← e_31]; rw [up2_n (fun z => absurd z.1 (by decide))]; apply H_let_m; first | exact hm | (rw [H_alarm_n (by simp)]; exact hm))) gX2_ask_X2_let rfl ⟨rfl, rfl⟩ 2 (by decide +kernel) ⟨Nat.le_of_ble_eq_true rfl, Nat.le_of_ble_eq_true rfl⟩ rfl (oH0 hi) rfl (Nat.le_of_ble_eq_true rfl) dX2_ask_138 rfl ?_
                  generalize e_37 : H_let h_33 (ix (h 11 d)) d = h_36
                  refine tt_iconst (v := nI 0) C dX2_ask_141 (by decide) ?_
                  exact tt_iret K dX2_ask_142 (by subst e_37; subst e_34; subst e_31; first | rfl | (simp [c_1, c_25, c_26, c_27, c_28, c_29, c7, c_35, H_ask, H_dec, H_askL, H_askO]; done) | grind [H_ask, H_dec, H_askL, H_askO]) (by subst e_37; subst e_34; subst e_31; first | rfl | (refine congrArg _ ?_; simp only [c_1, c_25, c_26, c_27, c_28, c_29, c7, c_35, H_ask, H_dec, H_askL, H_askO, not_false_eq_true, not_true_eq_false, and_true, true_and, and_false, false_and, and_self, or_true, true_or, or_false, false_or, or_self, if_true, if_false, H_alarm_n (show ¬ (11 = 0 ∧ d = 3) ∧ 11 ≠ 23 by simp), H_alarm_n (show ¬ (7 = 0 ∧ d = 3) ∧ 7 ≠ 23 by simp)]; done) | (refine congrArg _ ?_; simp [c_1, c_25, c_26, c_27, c_28, c_29, c7, c_35, H_ask, H_dec, H_askL, H_askO, H_alarm_n, up2]; done)) rfl
            · skip
              exact absurd c_29 (by decide)
          · skip
            refine tt_aload_n C dX2_ask_81 rfl 0 rfl ?_
            refine tt_iload_n C dX2_ask_82 rfl 1 rfl ?_
            refine tt_cVV C (c_X2_raiseAlarm E u r h i b hi hb) gX2_ask_X2_raiseAlarm rfl ⟨rfl, rfl⟩ 1 (by decide +kernel) ⟨Nat.le_of_ble_eq_true rfl, Nat.le_of_ble_eq_true rfl⟩ rfl (oH0 hi) rfl (Nat.le_of_ble_eq_true rfl) dX2_ask_83 rfl ?_
            generalize e_39 : H_alarm h b = h_38
            refine tt_iload C dX2_ask_86 4 rfl ?_
            refine tt_if_ne C (tgt := 112) dX2_ask_88 (by decide) (nI_eq0 (by omega)) (fun c_40 => ?_) (fun c_40 => ?_)
            · skip
              refine tt_aload_n C dX2_ask_112 rfl 0 rfl ?_
              refine tt_iload_n C dX2_ask_113 rfl 1 rfl ?_
              refine tt_iload_n C dX2_ask_114 rfl 2 rfl ?_
              refine tt_cVV C (c_X2_let E u r h_38 i b d hi hb hd (by rw [show h_38 25 0 = h 25 0 from (by rw [← e_39, H_alarm_n (by simp)])]; first | assumption | exact vI_nI (by omega))) gX2_ask_X2_let rfl ⟨rfl, rfl⟩ 2 (by decide +kernel) ⟨Nat.le_of_ble_eq_true rfl, Nat.le_of_ble_eq_true rfl⟩ rfl (oH0 hi) rfl (Nat.le_of_ble_eq_true rfl) dX2_ask_115 rfl ?_
              generalize e_42 : H_let h_38 b d = h_41
              by_cases c7 : h 7 d = 0
              · skip
                refine tt_aload_n C dX2_ask_118 rfl 0 rfl ?_
                refine tt_get (v := .ref (eA E i 1)) C (oH0 hi) rfl hin2 0 (by decide) (List.mem_of_getElem? (i := 1) (by decide +kernel)) rfl dX2_ask_119 ?_
                refine tt_iload_n C dX2_ask_122 rfl 2 rfl ?_
                refine tt_cVI C (c_X1_endWaiting_Z E u r h_41 i d hi hd (by rw [show h_41 7 d = h 7 d from (by rw [← e_42, H_let_n (by simp), ← e_39, H_alarm_n (by simp)])]; exact c7)) gX2_ask_X1_endWaiting rfl ⟨rfl, rfl⟩ 1 (by decide +kernel) ⟨Nat.le_of_ble_eq_true rfl, Nat.le_of_ble_eq_true rfl⟩ rfl (oH1 hi) rfl (Nat.le_of_ble_eq_true rfl) dX2_ask_123 rfl ?_
                refine tt_istore (lv' := [(0, .ref (eA E i 0)), (1, .int (nI b)), (2, .int (nI d)), (3, .int s), (4, .int (nI 1)), (5, .int (nI (H_on h b d))), (6, .int (-1))]) C dX2_ask_126 (by decide) [1, 2, 3, 4, 5, 6, 0] rfl ?_
                refine tt_iload C dX2_ask_128 6 rfl ?_
                refine tt_iconst (v := (-1 : Int32)) C dX2_ask_130 (by decide) ?_
                refine tt_icmp_eq C (tgt := 141) dX2_ask_131 (by decide) Iff.rfl (fun c_43 => ?_) (fun c_43 => ?_)
                · skip
                  refine tt_iconst (v := nI 0) C dX2_ask_141 (by decide) ?_
                  exact tt_iret K dX2_ask_142 (by subst e_42; subst e_39; first | rfl | (simp [c_1, c_25, c_26, c_27, c_28, c_40, c7, c_43, H_ask, H_dec, H_askL, H_askO]; done) | grind [H_ask, H_dec, H_askL, H_askO]) (by subst e_42; subst e_39; first | rfl | (refine congrArg _ ?_; simp only [c_1, c_25, c_26, c_27, c_28, c_40, c7, c_43, H_ask, H_dec, H_askL, H_askO, not_false_eq_true, not_true_eq_false, and_true, true_and, and_false, false_and, and_self, or_true, true_or, or_false, false_or, or_self, if_true, if_false, H_alarm_n (show ¬ (11 = 0 ∧ d = 3) ∧ 11 ≠ 23 by simp), H_alarm_n (show ¬ (7 = 0 ∧ d = 3) ∧ 7 ≠ 23 by simp)]; done) | (refine congrArg _ ?_; simp [c_1, c_25, c_26, c_27, c_28, c_40, c7, c_43, H_ask, H_dec, H_askL, H_askO, H_alarm_n, up2]; done)) rfl
                · skip
                  exact absurd rfl c_43
              · skip
                refine tt_aload_n C dX2_ask_118 rfl 0 rfl ?_
                refine tt_get (v := .ref (eA E i 1)) C (oH0 hi) rfl hin2 0 (by decide) (List.mem_of_getElem? (i := 1) (by decide +kernel)) rfl dX2_ask_119 ?_
                refine tt_iload_n C dX2_ask_122 rfl 2 rfl ?_
                refine tt_cVI C (c_X1_endWaiting_P E u r h_41 i d hi hd (by rw [show h_41 7 d = h 7 d from (by rw [← e_42, H_let_n (by simp), ← e_39, H_alarm_n (by simp)])]; exact c7)) gX2_ask_X1_endWaiting rfl ⟨rfl, rfl⟩ 1 (by decide +kernel) ⟨Nat.le_of_ble_eq_true rfl, Nat.le_of_ble_eq_true rfl⟩ rfl (oH1 hi) rfl (Nat.le_of_ble_eq_true rfl) dX2_ask_123 rfl ?_
                generalize e_45 : up2 h_41 11 d (-1) = h_44
                refine tt_to (st1 := [.int (h 11 d)]) rfl rfl rfl (congrArg (fun z => ([.int z] : List Value)) (by rw [← e_42, H_let_n (by simp), ← e_39, H_alarm_n (by simp)])) ?_
                refine tt_istore (lv' := [(0, .ref (eA E i 0)), (1, .int (nI b)), (2, .int (nI d)), (3, .int s), (4, .int (nI 1)), (5, .int (nI (H_on h b d))), (6, .int (h 11 d))]) C dX2_ask_126 (by decide) [1, 2, 3, 4, 5, 6, 0] rfl ?_
                refine tt_iload C dX2_ask_128 6 rfl ?_
                refine tt_iconst (v := (-1 : Int32)) C dX2_ask_130 (by decide) ?_
                refine tt_icmp_eq C (tgt := 141) dX2_ask_131 (by decide) Iff.rfl (fun c_46 => ?_) (fun c_46 => ?_)
                · skip
                  refine tt_iconst (v := nI 0) C dX2_ask_141 (by decide) ?_
                  exact tt_iret K dX2_ask_142 (by subst e_45; subst e_42; subst e_39; first | rfl | (simp [c_1, c_25, c_26, c_27, c_28, c_40, c7, c_46, H_ask, H_dec, H_askL, H_askO]; done) | grind [H_ask, H_dec, H_askL, H_askO]) (by subst e_45; subst e_42; subst e_39; first | rfl | (refine congrArg _ ?_; simp only [c_1, c_25, c_26, c_27, c_28, c_40, c7, c_46, H_ask, H_dec, H_askL, H_askO, not_false_eq_true, not_true_eq_false, and_true, true_and, and_false, false_and, and_self, or_true, true_or, or_false, false_or, or_self, if_true, if_false, H_alarm_n (show ¬ (11 = 0 ∧ d = 3) ∧ 11 ≠ 23 by simp), H_alarm_n (show ¬ (7 = 0 ∧ d = 3) ∧ 7 ≠ 23 by simp)]; done) | (refine congrArg _ ?_; simp [c_1, c_25, c_26, c_27, c_28, c_40, c7, c_46, H_ask, H_dec, H_askL, H_askO, H_alarm_n, up2]; done)) rfl
                · skip
                  have hw2 := hw.resolve_left c_46
                  have hw2' := ix_lt hw2 (by decide)
                  refine tt_aload_n C dX2_ask_134 rfl 0 rfl ?_
                  refine tt_iload C dX2_ask_135 6 rfl ?_
                  refine tt_iload_n C dX2_ask_137 rfl 2 rfl ?_
                  refine tt_to (st1 := [.int (nI d), .int (nI (ix (h 11 d))), .ref (eA E i 0)]) rfl rfl rfl (congrArg (fun z => ([.int (nI d), .int z, .ref (eA E i 0)] : List Value)) (ix_eq hw2 (by decide))) ?_
                  refine tt_cVV C (c_X2_let E u r h_44 i (ix (h 11 d)) d hi (by first | assumption | omega) hd (by rw [← e_45, ← e_42, ← e_39]; rw [up2_n (fun z => absurd z.1 (by decide))]; apply H_let_m; first | exact hm | (rw [H_alarm_n (by simp)]; exact hm))) gX2_ask_X2_let rfl ⟨rfl, rfl⟩ 2 (by decide +kernel) ⟨Nat.le_of_ble_eq_true rfl, Nat.le_of_ble_eq_true rfl⟩ rfl (oH0 hi) rfl (Nat.le_of_ble_eq_true rfl) dX2_ask_138 rfl ?_
                  generalize e_48 : H_let h_44 (ix (h 11 d)) d = h_47
                  refine tt_iconst (v := nI 0) C dX2_ask_141 (by decide) ?_
                  exact tt_iret K dX2_ask_142 (by subst e_48; subst e_45; subst e_42; subst e_39; first | rfl | (simp [c_1, c_25, c_26, c_27, c_28, c_40, c7, c_46, H_ask, H_dec, H_askL, H_askO]; done) | grind [H_ask, H_dec, H_askL, H_askO]) (by subst e_48; subst e_45; subst e_42; subst e_39; first | rfl | (refine congrArg _ ?_; simp only [c_1, c_25, c_26, c_27, c_28, c_40, c7, c_46, H_ask, H_dec, H_askL, H_askO, not_false_eq_true, not_true_eq_false, and_true, true_and, and_false, false_and, and_self, or_true, true_or, or_false, false_or, or_self, if_true, if_false, H_alarm_n (show ¬ (11 = 0 ∧ d = 3) ∧ 11 ≠ 23 by simp), H_alarm_n (show ¬ (7 = 0 ∧ d = 3) ∧ 7 ≠ 23 by simp)]; done) | (refine congrArg _ ?_; simp [c_1, c_25, c_26, c_27, c_28, c_40, c7, c_46, H_ask, H_dec, H_askL, H_askO, H_alarm_n, up2]; done)) rfl
            · skip
              exact absurd c_40 (by decide)
        · skip
          refine tt_aload_n C dX2_ask_62 rfl 0 rfl ?_
          refine tt_get (v := .ref (eA E i 28)) C (oH0 hi) rfl hin2 3 (by decide) (List.mem_of_getElem? (i := 3) (by decide +kernel)) rfl dX2_ask_63 ?_
          refine tt_iload C dX2_ask_66 5 rfl ?_
          refine tt_dup2 C dX2_ask_68 rfl rfl ?_
          refine tt_ialdB (v := h 28 (H_on h b d)) C (aH28 hi) (H_on h b d) rfl (by omega) rfl dX2_ask_69 ?_
          refine tt_iconst (v := nI 1) C dX2_ask_70 (by decide) ?_
          refine tt_iadd C dX2_ask_71 rfl ?_
          refine tt_iastB C (aH28 hi) (H_on h b d) rfl (by omega) dX2_ask_72 ?_
          generalize e_50 : up2 h 28 (H_on h b d) ((h 28 (H_on h b d)) + (nI 1)) = h_49
          refine tt_iload C dX2_ask_73 5 rfl ?_
          exact tt_iret K dX2_ask_75 (by subst e_50; first | rfl | (simp [c_1, c_25, c_26, c_27, H_ask, H_dec, H_askL, H_askO]; done) | grind [H_ask, H_dec, H_askL, H_askO]) (by subst e_50; first | rfl | (refine congrArg _ ?_; simp only [c_1, c_25, c_26, c_27, H_ask, H_dec, H_askL, H_askO, not_false_eq_true, not_true_eq_false, and_true, true_and, and_false, false_and, and_self, or_true, true_or, or_false, false_or, or_self, if_true, if_false, H_alarm_n (show ¬ (11 = 0 ∧ d = 3) ∧ 11 ≠ 23 by simp), H_alarm_n (show ¬ (7 = 0 ∧ d = 3) ∧ 7 ≠ 23 by simp)]; done) | (refine congrArg _ ?_; simp [c_1, c_25, c_26, c_27, H_ask, H_dec, H_askL, H_askO, H_alarm_n, up2]; done)) rfl
      · skip
        refine tt_aload_n C dX2_ask_48 rfl 0 rfl ?_
        refine tt_get (v := .ref (eA E i 1)) C (oH0 hi) rfl hin2 0 (by decide) (List.mem_of_getElem? (i := 1) (by decide +kernel)) rfl dX2_ask_49 ?_
        refine tt_iload_n C dX2_ask_52 rfl 2 rfl ?_
        refine tt_iload_n C dX2_ask_53 rfl 1 rfl ?_
        refine tt_cVV C (c_X1_startWaiting E u r h i d b hi hd) gX2_ask_X1_startWaiting rfl ⟨rfl, rfl⟩ 2 (by decide +kernel) ⟨Nat.le_of_ble_eq_true rfl, Nat.le_of_ble_eq_true rfl⟩ rfl (oH1 hi) rfl (Nat.le_of_ble_eq_true rfl) dX2_ask_54 rfl ?_
        generalize e_52 : up2 h 11 d (nI b) = h_51
        refine tt_iload C dX2_ask_57 5 rfl ?_
        refine tt_if_eq C (tgt := 76) dX2_ask_59 (by decide) (nI_eq0 (by omega)) (fun c_53 => ?_) (fun c_53 => ?_)
        · skip
          exact absurd c_53 (by omega)
        · skip
          refine tt_aload_n C dX2_ask_62 rfl 0 rfl ?_
          refine tt_get (v := .ref (eA E i 28)) C (oH0 hi) rfl hin2 3 (by decide) (List.mem_of_getElem? (i := 3) (by decide +kernel)) rfl dX2_ask_63 ?_
          refine tt_iload C dX2_ask_66 5 rfl ?_
          refine tt_dup2 C dX2_ask_68 rfl rfl ?_
          refine tt_ialdB (v := h_51 28 (H_on h b d)) C (aH28 hi) (H_on h b d) rfl (by omega) rfl dX2_ask_69 ?_
          refine tt_iconst (v := nI 1) C dX2_ask_70 (by decide) ?_
          refine tt_iadd C dX2_ask_71 rfl ?_
          refine tt_iastB C (aH28 hi) (H_on h b d) rfl (by omega) dX2_ask_72 ?_
          generalize e_55 : up2 h_51 28 (H_on h b d) ((h_51 28 (H_on h b d)) + (nI 1)) = h_54
          refine tt_iload C dX2_ask_73 5 rfl ?_
          exact tt_iret K dX2_ask_75 (by subst e_55; subst e_52; first | rfl | (simp [c_1, c_25, c_26, c_53, H_ask, H_dec, H_askL, H_askO]; done) | grind [H_ask, H_dec, H_askL, H_askO]) (by subst e_55; subst e_52; first | rfl | (refine congrArg _ ?_; simp only [c_1, c_25, c_26, c_53, H_ask, H_dec, H_askL, H_askO, not_false_eq_true, not_true_eq_false, and_true, true_and, and_false, false_and, and_self, or_true, true_or, or_false, false_or, or_self, if_true, if_false, H_alarm_n (show ¬ (11 = 0 ∧ d = 3) ∧ 11 ≠ 23 by simp), H_alarm_n (show ¬ (7 = 0 ∧ d = 3) ∧ 7 ≠ 23 by simp)]; done) | (refine congrArg _ ?_; simp [c_1, c_25, c_26, c_53, H_ask, H_dec, H_askL, H_askO, H_alarm_n, up2]; done)) rfl
