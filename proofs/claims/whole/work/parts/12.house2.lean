def H_endAll (h : HB) : HB := iter (fun j x => up2 x 11 j (-1)) (ix (h 1 0)) h

theorem H_endAll_k (h : HB) (n k j : Nat) (hk : k ≠ 11) : iter (fun j x => up2 x 11 j (-1)) n h k j = h k j := iter_keep (fun x : HB => x k j) (fun n a => up2_n (fun z => hk z.1)) n h

set_option maxHeartbeats 4000000 in
set_option maxRecDepth 100000 in
theorem l_endAll (E : EN) (u : U3) (r : R1) (h : HB) (i : Nat) (hi : i < 5) (hD : vI (h 1 0) 9) (F : FX) (C : Cx E F cX1_endAllWaiting 2 RX1 wsX1_endAllWaiting (rmT 0 0)) (K : RtV E F cX1_endAllWaiting (ub u i (H_endAll h)) r) : ∀ (n j : Nat), j ≤ ix (h 1 0) → ix (h 1 0) + 1 ≤ j + n → T E F 2 (ub u i (iter (fun j x => up2 x 11 j (-1)) j h)) r 2 [(0, .ref (eA E i 1)), (1, .int (nI j))] [] := by
  have hin1 : ∀ w ∈ u_ws RX1 TX1 17, w ∈ wsX1_endAllWaiting := by decide +kernel
  intro n
  induction n with
  | zero => intro j h1 h2; exact absurd h2 (by omega)
  | succ n ih =>
    intro j h1 h2
    generalize ej : iter (fun j x => up2 x 11 j (-1)) j h = hj
    have hD' := ix_lt hD (by decide)
    have fd : hj 1 0 = nI (ix (h 1 0)) := by rw [← ej, H_endAll_k _ _ _ _ (by decide)]; exact ix_eq hD (by decide)
    refine tt_iload_n C dX1_endAllWaiting_2 rfl 1 rfl ?_
    refine tt_aload_n C dX1_endAllWaiting_3 rfl 0 rfl ?_
    refine tt_getI (v := nI (ix (h 1 0))) C (oH1 hi) rfl hin1 0 (by decide) (List.mem_of_getElem? (i := 1) (by decide +kernel)) rfl (ub_v.trans fd) dX1_endAllWaiting_4 ?_
    refine tt_icmp_ge C (tgt := 23) dX1_endAllWaiting_7 (by decide) (nI_leI (by omega) (by omega)) (fun c_101 => ?_) (fun c_101 => ?_)
    · skip
      exact tt_vret K dX1_endAllWaiting_23 (by subst ej; first | rfl | (have hje : j = ix (h 1 0) := (by omega); subst hje; rfl) | (simp [c_101]; done) | (refine congrArg _ ?_; grind [])) rfl
    · skip
      refine tt_aload_n C dX1_endAllWaiting_10 rfl 0 rfl ?_
      refine tt_get (v := .ref (eA E i 11)) C (oH1 hi) rfl hin1 10 (by decide) (List.mem_of_getElem? (i := 2) (by decide +kernel)) rfl dX1_endAllWaiting_11 ?_
      refine tt_iload_n C dX1_endAllWaiting_14 rfl 1 rfl ?_
      refine tt_iconst (v := (-1 : Int32)) C dX1_endAllWaiting_15 (by decide) ?_
      refine tt_iastB C (aH11 hi) j rfl (by omega) dX1_endAllWaiting_16 ?_
      generalize e_103 : up2 hj 11 j (-1 : Int32) = h_102
      refine tt_iinc (p := 1) (v := nI (j + 1)) (lv' := [(0, .ref (eA E i 1)), (1, .int (nI (j + 1)))]) C dX1_endAllWaiting_17 rfl (by rw [show Int32.ofInt 1 = nI 1 from by decide]; exact nI_add _ _) (by decide) [1, 0] rfl ?_
      refine tt_goto (tgt := 2) C dX1_endAllWaiting_20 (by decide) ?_
      subst e_103
      subst ej
      exact ih (j + 1) (by omega) (by omega)

set_option maxHeartbeats 4000000 in
set_option maxRecDepth 100000 in
theorem c_X1_endAllWaiting (E : EN) (u : U3) (r : R1) (h : HB) (i : Nat) (hi : i < 5) (hD : vI (h 1 0) 9) : CT E yX1_endAllWaiting wsX1_endAllWaiting (rmT 0 0) [.ref (eA E i 1)] (ub u i h) r none (ub u i (H_endAll h)) r := by
  refine CT_ofV (cc := cX1_endAllWaiting) (nL := 2) (own := RX1) (by decide) rfl rfl (Nat.le_of_ble_eq_true rfl) (fun F C K => ?_)
  refine tt_to (lv1 := [(0, .ref (eA E i 1))]) rfl rfl rfl rfl ?_
  refine tt_iconst (v := nI 0) C dX1_endAllWaiting_0 (by decide) ?_
  refine tt_istore_n (lv' := [(0, .ref (eA E i 1)), (1, .int (nI 0))]) C dX1_endAllWaiting_1 rfl (by decide) [1, 0] rfl ?_
  exact l_endAll E u r h i hi hD F C K (ix (h 1 0) + 1) 0 (by omega) (by omega)

theorem H_endAll_n {h : HB} {k j : Nat} (hk : k ≠ 11) : H_endAll h k j = h k j := H_endAll_k h _ k j hk


def H_wait (h : HB) (n : Int32) : HB := H_endAll (up2 h 0 0 (h 0 0 + n))
set_option maxHeartbeats 4000000 in
set_option maxRecDepth 100000 in
theorem c_X2_letTimeGoBy (E : EN) (u : U3) (r : R1) (h : HB) (i : Nat) (n : Int32) (hi : i < 5) (hD : vI (h 1 0) 9) : CT E yX2_letTimeGoBy wsX2_letTimeGoBy (rmT 1 21) [.ref (eA E i 0), .int n] (ub u i h) r (some (.int (rem24 (h 0 0 + n)))) (ub u i (H_wait h n)) r := by
  refine CT_ofI (cc := cX2_letTimeGoBy) (nL := 2) (own := RX2) (by decide) rfl rfl rfl (Nat.le_of_ble_eq_true rfl) (fun F C K => ?_)
  have hin2 : ∀ w ∈ u_ws RX2 TX2 8, w ∈ wsX2_letTimeGoBy := by decide +kernel
  refine tt_to (lv1 := [(0, .ref (eA E i 0)), (1, .int n)]) rfl rfl rfl rfl ?_
  refine tt_aload_n C dX2_letTimeGoBy_0 rfl 0 rfl ?_
  refine tt_dup C dX2_letTimeGoBy_1 rfl ?_
  refine tt_getI (v := h 0 0) C (oH0 hi) rfl hin2 4 (by decide) (List.mem_of_getElem? (i := 1) (by decide +kernel)) rfl (ub_v.trans rfl) dX2_letTimeGoBy_2 ?_
  refine tt_iload_n C dX2_letTimeGoBy_5 rfl 1 rfl ?_
  refine tt_iadd C dX2_letTimeGoBy_6 rfl ?_
  refine tt_putIB C (fH0_0 hi) rfl hin2 tyX2 tyX2_ok nmX2 (by decide) (List.mem_of_getElem? (i := 1) (by decide +kernel)) (by decide +kernel) (by decide +kernel) dX2_letTimeGoBy_7 ?_
  generalize e_2 : up2 h 0 0 ((h 0 0) + n) = h_1
  refine tt_aload_n C dX2_letTimeGoBy_10 rfl 0 rfl ?_
  refine tt_get (v := .ref (eA E i 1)) C (oH0 hi) rfl hin2 0 (by decide) (List.mem_of_getElem? (i := 2) (by decide +kernel)) rfl dX2_letTimeGoBy_11 ?_
  refine tt_cVV C (c_X1_endAllWaiting E u r h_1 i hi (by rw [← e_2]; simpa [up2] using hD)) gX2_letTimeGoBy_X1_endAllWaiting rfl ⟨rfl, rfl⟩ 0 (by decide +kernel) ⟨Nat.le_of_ble_eq_true rfl, Nat.le_of_ble_eq_true rfl⟩ rfl (oH1 hi) rfl (Nat.le_of_ble_eq_true rfl) dX2_letTimeGoBy_14 rfl ?_
  generalize e_4 : H_endAll h_1 = h_3
  refine tt_aload_n C dX2_letTimeGoBy_17 rfl 0 rfl ?_
  refine tt_cVI C (c_X2_hour E u r h_3 i hi) gX2_letTimeGoBy_X2_hour rfl ⟨rfl, rfl⟩ 0 (by decide +kernel) ⟨Nat.le_of_ble_eq_true rfl, Nat.le_of_ble_eq_true rfl⟩ rfl (oH0 hi) rfl (Nat.le_of_ble_eq_true rfl) dX2_letTimeGoBy_18 rfl ?_
  exact tt_iret K dX2_letTimeGoBy_21 (by subst e_4; subst e_2; rw [H_endAll_n (by decide), up2_s]) (by subst e_4; subst e_2; first | rfl | (simp [H_wait]; done) | (refine congrArg _ ?_; grind [H_wait])) rfl

def H_tcB (d : Nat) (b : Nat) (x : HB) : HB := up2 (up2 x 16 (d * 8 + b) (x 20 b)) 17 (d * 8 + b) (x 19 b)
def H_tcopy (h : HB) (d : Nat) : HB := iter (H_tcB d) (ix (h 18 0)) (up2 h 15 d (h 18 0))

theorem H_tcopy_k (h : HB) (d n k j : Nat) (hk : k ≠ 16 ∧ k ≠ 17) : iter (H_tcB d) n h k j = h k j := iter_keep (fun x : HB => x k j) (fun n a => by simp [H_tcB, up2, hk.1, hk.2]) n h

set_option maxHeartbeats 4000000 in
set_option maxRecDepth 100000 in
theorem l_takeCopy (E : EN) (u : U3) (r : R1) (h : HB) (i : Nat) (d : Nat) (hi : i < 5) (hd : d < 8) (hB : vI (h 18 0) 9) (F : FX) (C : Cx E F cX1_takeCopy 5 RX1 wsX1_takeCopy (rmT 0 0)) (K : RtV E F cX1_takeCopy (ub u i (H_tcopy h d)) r) : ∀ (n j : Nat), j ≤ ix (h 18 0) → ix (h 18 0) + 1 ≤ j + n → T E F 5 (ub u i (iter (H_tcB d) j (up2 h 15 d (h 18 0)))) r 18 [(0, .ref (eA E i 1)), (1, .int (nI d)), (2, .ref (eA E i 18)), (3, .int (nI (d * 8))), (4, .int (nI j))] [] := by
  have hin0 : ∀ w ∈ u_ws RX0 TX0 7, w ∈ wsX1_takeCopy := by decide +kernel
  have hin1 : ∀ w ∈ u_ws RX1 TX1 17, w ∈ wsX1_takeCopy := by decide +kernel
  intro n
  induction n with
  | zero => intro j h1 h2; exact absurd h2 (by omega)
  | succ n ih =>
    intro j h1 h2
    generalize ej : iter (H_tcB d) j (up2 h 15 d (h 18 0)) = hj
    have hB' := ix_lt hB (by decide)
    have fb : hj 18 0 = nI (ix (h 18 0)) := by rw [← ej, H_tcopy_k _ _ _ _ _ (by decide), up2_n (fun z => absurd z.1 (by decide))]; exact ix_eq hB (by decide)
    refine tt_iload C dX1_takeCopy_18 4 rfl ?_
    refine tt_aload_n C dX1_takeCopy_20 rfl 2 rfl ?_
    refine tt_getI (v := nI (ix (h 18 0))) C (oH18 hi) rfl hin0 0 (by decide) (List.mem_of_getElem? (i := 2) (by decide +kernel)) rfl (ub_v.trans fb) dX1_takeCopy_21 ?_
    refine tt_icmp_ge C (tgt := 65) dX1_takeCopy_24 (by decide) (nI_leI (by omega) (by omega)) (fun c_101 => ?_) (fun c_101 => ?_)
    · skip
      exact tt_vret K dX1_takeCopy_65 (by subst ej; first | rfl | (have hje : j = ix (h 18 0) := (by omega); subst hje; rfl) | (simp [c_101, H_tcopy]; done) | (refine congrArg _ ?_; grind [H_tcopy])) rfl
    · skip
      refine tt_aload_n C dX1_takeCopy_27 rfl 0 rfl ?_
      refine tt_get (v := .ref (eA E i 16)) C (oH1 hi) rfl hin1 15 (by decide) (List.mem_of_getElem? (i := 3) (by decide +kernel)) rfl dX1_takeCopy_28 ?_
      refine tt_iload_n C dX1_takeCopy_31 rfl 3 rfl ?_
      refine tt_iload C dX1_takeCopy_32 4 rfl ?_
      refine tt_iadd (v := nI (d * 8 + j)) C dX1_takeCopy_34 (nI_add _ _) ?_
      refine tt_aload_n C dX1_takeCopy_35 rfl 2 rfl ?_
      refine tt_get (v := .ref (eA E i 20)) C (oH18 hi) rfl hin0 2 (by decide) (List.mem_of_getElem? (i := 4) (by decide +kernel)) rfl dX1_takeCopy_36 ?_
      refine tt_iload C dX1_takeCopy_39 4 rfl ?_
      refine tt_ialdB (v := hj 20 j) C (aH20 hi) j rfl (by omega) rfl dX1_takeCopy_41 ?_
      refine tt_iastB C (aH16 hi) (d * 8 + j) rfl (by omega) dX1_takeCopy_42 ?_
      generalize e_103 : up2 hj 16 (d * 8 + j) (hj 20 j) = h_102
      refine tt_aload_n C dX1_takeCopy_43 rfl 0 rfl ?_
      refine tt_get (v := .ref (eA E i 17)) C (oH1 hi) rfl hin1 16 (by decide) (List.mem_of_getElem? (i := 5) (by decide +kernel)) rfl dX1_takeCopy_44 ?_
      refine tt_iload_n C dX1_takeCopy_47 rfl 3 rfl ?_
      refine tt_iload C dX1_takeCopy_48 4 rfl ?_
      refine tt_iadd (v := nI (d * 8 + j)) C dX1_takeCopy_50 (nI_add _ _) ?_
      refine tt_aload_n C dX1_takeCopy_51 rfl 2 rfl ?_
      refine tt_get (v := .ref (eA E i 19)) C (oH18 hi) rfl hin0 1 (by decide) (List.mem_of_getElem? (i := 6) (by decide +kernel)) rfl dX1_takeCopy_52 ?_
      refine tt_iload C dX1_takeCopy_55 4 rfl ?_
      refine tt_ialdB (v := hj 19 j) C (aH19 hi) j rfl (by omega) (by rw [← e_103, up2_n (fun z => absurd z.1 (by decide))]) dX1_takeCopy_57 ?_
      refine tt_iastB C (aH17 hi) (d * 8 + j) rfl (by omega) dX1_takeCopy_58 ?_
      generalize e_105 : up2 h_102 17 (d * 8 + j) (hj 19 j) = h_104
      refine tt_iinc (p := 4) (v := nI (j + 1)) (lv' := [(0, .ref (eA E i 1)), (1, .int (nI d)), (2, .ref (eA E i 18)), (3, .int (nI (d * 8))), (4, .int (nI (j + 1)))]) C dX1_takeCopy_59 rfl (by rw [show Int32.ofInt 1 = nI 1 from by decide]; exact nI_add _ _) (by decide) [1, 2, 3, 4, 0] rfl ?_
      refine tt_goto (tgt := 18) C dX1_takeCopy_62 (by decide) ?_
      subst e_105
      subst e_103
      subst ej
      exact ih (j + 1) (by omega) (by omega)

set_option maxHeartbeats 4000000 in
set_option maxRecDepth 100000 in
theorem c_X1_takeCopy (E : EN) (u : U3) (r : R1) (h : HB) (i : Nat) (d : Nat) (hi : i < 5) (hd : d < 8) (hB : vI (h 18 0) 9) : CT E yX1_takeCopy wsX1_takeCopy (rmT 0 0) [.ref (eA E i 1), .int (nI d), .ref (eA E i 18)] (ub u i h) r none (ub u i (H_tcopy h d)) r := by
  refine CT_ofV (cc := cX1_takeCopy) (nL := 5) (own := RX1) (by decide) rfl rfl (Nat.le_of_ble_eq_true rfl) (fun F C K => ?_)
  have hin0 : ∀ w ∈ u_ws RX0 TX0 7, w ∈ wsX1_takeCopy := by decide +kernel
  have hin1 : ∀ w ∈ u_ws RX1 TX1 17, w ∈ wsX1_takeCopy := by decide +kernel
  refine tt_to (lv1 := [(0, .ref (eA E i 1)), (1, .int (nI d)), (2, .ref (eA E i 18))]) rfl rfl rfl rfl ?_
  have hB' := ix_lt hB (by decide)
  refine tt_iload_n C dX1_takeCopy_0 rfl 1 rfl ?_
  refine tt_bipush (v := nI 8) C dX1_takeCopy_1 (by decide) ?_
  refine tt_imul (v := nI (d * 8)) C dX1_takeCopy_3 (pk_mul _ _) ?_
  refine tt_istore_n (lv' := [(0, .ref (eA E i 1)), (1, .int (nI d)), (2, .ref (eA E i 18)), (3, .int (nI (d * 8)))]) C dX1_takeCopy_4 rfl (by decide) [1, 2, 3, 0] rfl ?_
  refine tt_aload_n C dX1_takeCopy_5 rfl 0 rfl ?_
  refine tt_get (v := .ref (eA E i 15)) C (oH1 hi) rfl hin1 14 (by decide) (List.mem_of_getElem? (i := 1) (by decide +kernel)) rfl dX1_takeCopy_6 ?_
  refine tt_iload_n C dX1_takeCopy_9 rfl 1 rfl ?_
  refine tt_aload_n C dX1_takeCopy_10 rfl 2 rfl ?_
  refine tt_getI (v := nI (ix (h 18 0))) C (oH18 hi) rfl hin0 0 (by decide) (List.mem_of_getElem? (i := 2) (by decide +kernel)) rfl (ub_v.trans (ix_eq hB (by decide))) dX1_takeCopy_11 ?_
  refine tt_iastB C (aH15 hi) d rfl (by omega) dX1_takeCopy_14 ?_
  generalize e_2 : up2 h 15 d (nI (ix (h 18 0))) = h_1
  refine tt_iconst (v := nI 0) C dX1_takeCopy_15 (by decide) ?_
  refine tt_istore (lv' := [(0, .ref (eA E i 1)), (1, .int (nI d)), (2, .ref (eA E i 18)), (3, .int (nI (d * 8))), (4, .int (nI 0))]) C dX1_takeCopy_16 (by decide) [1, 2, 3, 4, 0] rfl ?_
  subst e_2
  rw [← ix_eq hB (by decide)]
  exact l_takeCopy E u r h i d hi hd hB F C K (ix (h 18 0) + 1) 0 (by omega) (by omega)

def H_bits (h : HB) (a : Int32) (n : Nat) : Int32 := iter (fun b x => if h 21 b = a then x ||| (nI 1 <<< (nI b &&& 31)) else x) n (nI 0)

set_option maxHeartbeats 4000000 in
set_option maxRecDepth 100000 in
theorem l_bits (E : EN) (u : U3) (r : R1) (h : HB) (i : Nat) (a : Int32) (hi : i < 5) (hB : vI (h 18 0) 9) (F : FX) (C : Cx E F cX0_bitsIn 4 RX0 wsX0_bitsIn (rmT 0 0)) (K : RtI E F cX0_bitsIn (H_bits h a (ix (h 18 0))) (ub u i h) r) : ∀ (n j : Nat), j ≤ ix (h 18 0) → ix (h 18 0) + 1 ≤ j + n → T E F 4 (ub u i h) r 4 [(0, .ref (eA E i 18)), (1, .int a), (2, .int (H_bits h a j)), (3, .int (nI j))] [] := by
  have hin0 : ∀ w ∈ u_ws RX0 TX0 7, w ∈ wsX0_bitsIn := by decide +kernel
  intro n
  induction n with
  | zero => intro j h1 h2; exact absurd h2 (by omega)
  | succ n ih =>
    intro j h1 h2
    have hB' := ix_lt hB (by decide)
    refine tt_iload_n C dX0_bitsIn_4 rfl 3 rfl ?_
    refine tt_aload_n C dX0_bitsIn_5 rfl 0 rfl ?_
    refine tt_getI (v := nI (ix (h 18 0))) C (oH18 hi) rfl hin0 0 (by decide) (List.mem_of_getElem? (i := 1) (by decide +kernel)) rfl (ub_v.trans (ix_eq hB (by decide))) dX0_bitsIn_6 ?_
    refine tt_icmp_ge C (tgt := 34) dX0_bitsIn_9 (by decide) (nI_leI (by omega) (by omega)) (fun c_101 => ?_) (fun c_101 => ?_)
    · skip
      refine tt_iload_n C dX0_bitsIn_34 rfl 2 rfl ?_
      exact tt_iret K dX0_bitsIn_35 (by first | rfl | (have hje : j = ix (h 18 0) := (by omega); subst hje; rfl) | (simp [c_101, H_bits]; done) | grind [H_bits]) (by first | rfl | (have hje : j = ix (h 18 0) := (by omega); subst hje; rfl) | (simp [c_101, H_bits]; done) | (refine congrArg _ ?_; grind [H_bits])) rfl
    · skip
      refine tt_aload_n C dX0_bitsIn_12 rfl 0 rfl ?_
      refine tt_get (v := .ref (eA E i 21)) C (oH18 hi) rfl hin0 3 (by decide) (List.mem_of_getElem? (i := 2) (by decide +kernel)) rfl dX0_bitsIn_13 ?_
      refine tt_iload_n C dX0_bitsIn_16 rfl 3 rfl ?_
      refine tt_ialdB (v := h 21 j) C (aH21 hi) j rfl (by omega) rfl dX0_bitsIn_17 ?_
      refine tt_iload_n C dX0_bitsIn_18 rfl 1 rfl ?_
      refine tt_icmp_ne C (tgt := 28) dX0_bitsIn_19 (by decide) Iff.rfl (fun c_102 => ?_) (fun c_102 => ?_)
      · skip
        refine tt_iinc (p := 3) (v := nI (j + 1)) (lv' := [(0, .ref (eA E i 18)), (1, .int a), (2, .int (H_bits h a j)), (3, .int (nI (j + 1)))]) C dX0_bitsIn_28 rfl (by rw [show Int32.ofInt 1 = nI 1 from by decide]; exact nI_add _ _) (by decide) [1, 2, 3, 0] rfl ?_
        refine tt_goto (tgt := 4) C dX0_bitsIn_31 (by decide) ?_
        refine tt_to (lv1 := [(0, .ref (eA E i 18)), (1, .int a), (2, .int (H_bits h a (j + 1))), (3, .int (nI (j + 1)))]) rfl rfl ?_ rfl (ih (j + 1) (by omega) (by omega))
        simp only [H_bits, iter, c_102, not_false_eq_true, not_true_eq_false, and_true, true_and, and_false, false_and, and_self, or_true, true_or, or_false, false_or, or_self, if_true, if_false]
      · skip
        refine tt_iload_n C dX0_bitsIn_22 rfl 2 rfl ?_
        refine tt_iconst (v := nI 1) C dX0_bitsIn_23 (by decide) ?_
        refine tt_iload_n C dX0_bitsIn_24 rfl 3 rfl ?_
        refine tt_ishl C dX0_bitsIn_25 rfl ?_
        refine tt_ior C dX0_bitsIn_26 rfl ?_
        refine tt_istore_n (lv' := [(0, .ref (eA E i 18)), (1, .int a), (2, .int ((H_bits h a j) ||| ((nI 1) <<< ((nI j) &&& 31)))), (3, .int (nI j))]) C dX0_bitsIn_27 rfl (by decide) [1, 2, 0, 3] rfl ?_
        refine tt_iinc (p := 3) (v := nI (j + 1)) (lv' := [(0, .ref (eA E i 18)), (1, .int a), (2, .int ((H_bits h a j) ||| ((nI 1) <<< ((nI j) &&& 31)))), (3, .int (nI (j + 1)))]) C dX0_bitsIn_28 rfl (by rw [show Int32.ofInt 1 = nI 1 from by decide]; exact nI_add _ _) (by decide) [1, 2, 3, 0] rfl ?_
        refine tt_goto (tgt := 4) C dX0_bitsIn_31 (by decide) ?_
        refine tt_to (lv1 := [(0, .ref (eA E i 18)), (1, .int a), (2, .int (H_bits h a (j + 1))), (3, .int (nI (j + 1)))]) rfl rfl ?_ rfl (ih (j + 1) (by omega) (by omega))
        simp only [H_bits, iter, c_102, not_false_eq_true, not_true_eq_false, and_true, true_and, and_false, false_and, and_self, or_true, true_or, or_false, false_or, or_self, if_true, if_false]

set_option maxHeartbeats 4000000 in
set_option maxRecDepth 100000 in
theorem c_X0_bitsIn (E : EN) (u : U3) (r : R1) (h : HB) (i : Nat) (a : Int32) (hi : i < 5) (hB : vI (h 18 0) 9) : CT E yX0_bitsIn wsX0_bitsIn (rmT 0 0) [.ref (eA E i 18), .int a] (ub u i h) r (some (.int (H_bits h a (ix (h 18 0))))) (ub u i h) r := by
  refine CT_ofI (cc := cX0_bitsIn) (nL := 4) (own := RX0) (by decide) rfl rfl rfl (Nat.le_of_ble_eq_true rfl) (fun F C K => ?_)
  refine tt_to (lv1 := [(0, .ref (eA E i 18)), (1, .int a)]) rfl rfl rfl rfl ?_
  refine tt_iconst (v := nI 0) C dX0_bitsIn_0 (by decide) ?_
  refine tt_istore_n (lv' := [(0, .ref (eA E i 18)), (1, .int a), (2, .int (nI 0))]) C dX0_bitsIn_1 rfl (by decide) [1, 2, 0] rfl ?_
  refine tt_iconst (v := nI 0) C dX0_bitsIn_2 (by decide) ?_
  refine tt_istore_n (lv' := [(0, .ref (eA E i 18)), (1, .int a), (2, .int (nI 0)), (3, .int (nI 0))]) C dX0_bitsIn_3 rfl (by decide) [1, 2, 3, 0] rfl ?_
  exact l_bits E u r h i a hi hB F C K (ix (h 18 0) + 1) 0 (by omega) (by omega)

def H_bitsB (h : HB) (a : Int32) (n : Nat) : Int32 := iter (fun b x => if ¬ h 21 b = 0 ∧ ¬ h 21 b = a then x ||| (nI 1 <<< (nI b &&& 31)) else x) n (nI 0)

set_option maxHeartbeats 4000000 in
set_option maxRecDepth 100000 in
theorem l_bitsB (E : EN) (u : U3) (r : R1) (h : HB) (i : Nat) (a : Int32) (hi : i < 5) (hB : vI (h 18 0) 9) (F : FX) (C : Cx E F cX0_bitsInBut 4 RX0 wsX0_bitsInBut (rmT 0 0)) (K : RtI E F cX0_bitsInBut (H_bitsB h a (ix (h 18 0))) (ub u i h) r) : ∀ (n j : Nat), j ≤ ix (h 18 0) → ix (h 18 0) + 1 ≤ j + n → T E F 4 (ub u i h) r 4 [(0, .ref (eA E i 18)), (1, .int a), (2, .int (H_bitsB h a j)), (3, .int (nI j))] [] := by
  have hin0 : ∀ w ∈ u_ws RX0 TX0 7, w ∈ wsX0_bitsInBut := by decide +kernel
  intro n
  induction n with
  | zero => intro j h1 h2; exact absurd h2 (by omega)
  | succ n ih =>
    intro j h1 h2
    have hB' := ix_lt hB (by decide)
    refine tt_iload_n C dX0_bitsInBut_4 rfl 3 rfl ?_
    refine tt_aload_n C dX0_bitsInBut_5 rfl 0 rfl ?_
    refine tt_getI (v := nI (ix (h 18 0))) C (oH18 hi) rfl hin0 0 (by decide) (List.mem_of_getElem? (i := 1) (by decide +kernel)) rfl (ub_v.trans (ix_eq hB (by decide))) dX0_bitsInBut_6 ?_
    refine tt_icmp_ge C (tgt := 43) dX0_bitsInBut_9 (by decide) (nI_leI (by omega) (by omega)) (fun c_101 => ?_) (fun c_101 => ?_)
    · skip
      refine tt_iload_n C dX0_bitsInBut_43 rfl 2 rfl ?_
      exact tt_iret K dX0_bitsInBut_44 (by first | rfl | (have hje : j = ix (h 18 0) := (by omega); subst hje; rfl) | (simp [c_101, H_bitsB]; done) | grind [H_bitsB]) (by first | rfl | (have hje : j = ix (h 18 0) := (by omega); subst hje; rfl) | (simp [c_101, H_bitsB]; done) | (refine congrArg _ ?_; grind [H_bitsB])) rfl
    · skip
      refine tt_aload_n C dX0_bitsInBut_12 rfl 0 rfl ?_
      refine tt_get (v := .ref (eA E i 21)) C (oH18 hi) rfl hin0 3 (by decide) (List.mem_of_getElem? (i := 2) (by decide +kernel)) rfl dX0_bitsInBut_13 ?_
      refine tt_iload_n C dX0_bitsInBut_16 rfl 3 rfl ?_
      refine tt_ialdB (v := h 21 j) C (aH21 hi) j rfl (by omega) rfl dX0_bitsInBut_17 ?_
      refine tt_if_eq C (tgt := 37) dX0_bitsInBut_18 (by decide) Iff.rfl (fun c_102 => ?_) (fun c_102 => ?_)
      · skip
        refine tt_iinc (p := 3) (v := nI (j + 1)) (lv' := [(0, .ref (eA E i 18)), (1, .int a), (2, .int (H_bitsB h a j)), (3, .int (nI (j + 1)))]) C dX0_bitsInBut_37 rfl (by rw [show Int32.ofInt 1 = nI 1 from by decide]; exact nI_add _ _) (by decide) [1, 2, 3, 0] rfl ?_
        refine tt_goto (tgt := 4) C dX0_bitsInBut_40 (by decide) ?_
        refine tt_to (lv1 := [(0, .ref (eA E i 18)), (1, .int a), (2, .int (H_bitsB h a (j + 1))), (3, .int (nI (j + 1)))]) rfl rfl ?_ rfl (ih (j + 1) (by omega) (by omega))
        simp only [H_bitsB, iter, c_102, not_false_eq_true, not_true_eq_false, and_true, true_and, and_false, false_and, and_self, or_true, true_or, or_false, false_or, or_self, if_true, if_false]
      · skip
        refine tt_aload_n C dX0_bitsInBut_21 rfl 0 rfl ?_
        refine tt_get (v := .ref (eA E i 21)) C (oH18 hi) rfl hin0 3 (by decide) (List.mem_of_getElem? (i := 2) (by decide +kernel)) rfl dX0_bitsInBut_22 ?_
        refine tt_iload_n C dX0_bitsInBut_25 rfl 3 rfl ?_
        refine tt_ialdB (v := h 21 j) C (aH21 hi) j rfl (by omega) rfl dX0_bitsInBut_26 ?_
        refine tt_iload_n C dX0_bitsInBut_27 rfl 1 rfl ?_
        refine tt_icmp_eq C (tgt := 37) dX0_bitsInBut_28 (by decide) Iff.rfl (fun c_103 => ?_) (fun c_103 => ?_)
        · skip
          refine tt_iinc (p := 3) (v := nI (j + 1)) (lv' := [(0, .ref (eA E i 18)), (1, .int a), (2, .int (H_bitsB h a j)), (3, .int (nI (j + 1)))]) C dX0_bitsInBut_37 rfl (by rw [show Int32.ofInt 1 = nI 1 from by decide]; exact nI_add _ _) (by decide) [1, 2, 3, 0] rfl ?_
          refine tt_goto (tgt := 4) C dX0_bitsInBut_40 (by decide) ?_
          refine tt_to (lv1 := [(0, .ref (eA E i 18)), (1, .int a), (2, .int (H_bitsB h a (j + 1))), (3, .int (nI (j + 1)))]) rfl rfl ?_ rfl (ih (j + 1) (by omega) (by omega))
          simp only [H_bitsB, iter, c_102, c_103, not_false_eq_true, not_true_eq_false, and_true, true_and, and_false, false_and, and_self, or_true, true_or, or_false, false_or, or_self, if_true, if_false]
        · skip
          refine tt_iload_n C dX0_bitsInBut_31 rfl 2 rfl ?_
          refine tt_iconst (v := nI 1) C dX0_bitsInBut_32 (by decide) ?_
          refine tt_iload_n C dX0_bitsInBut_33 rfl 3 rfl ?_
          refine tt_ishl C dX0_bitsInBut_34 rfl ?_
          refine tt_ior C dX0_bitsInBut_35 rfl ?_
          refine tt_istore_n (lv' := [(0, .ref (eA E i 18)), (1, .int a), (2, .int ((H_bitsB h a j) ||| ((nI 1) <<< ((nI j) &&& 31)))), (3, .int (nI j))]) C dX0_bitsInBut_36 rfl (by decide) [1, 2, 0, 3] rfl ?_
          refine tt_iinc (p := 3) (v := nI (j + 1)) (lv' := [(0, .ref (eA E i 18)), (1, .int a), (2, .int ((H_bitsB h a j) ||| ((nI 1) <<< ((nI j) &&& 31)))), (3, .int (nI (j + 1)))]) C dX0_bitsInBut_37 rfl (by rw [show Int32.ofInt 1 = nI 1 from by decide]; exact nI_add _ _) (by decide) [1, 2, 3, 0] rfl ?_
          refine tt_goto (tgt := 4) C dX0_bitsInBut_40 (by decide) ?_
          refine tt_to (lv1 := [(0, .ref (eA E i 18)), (1, .int a), (2, .int (H_bitsB h a (j + 1))), (3, .int (nI (j + 1)))]) rfl rfl ?_ rfl (ih (j + 1) (by omega) (by omega))
          simp only [H_bitsB, iter, c_102, c_103, not_false_eq_true, not_true_eq_false, and_true, true_and, and_false, false_and, and_self, or_true, true_or, or_false, false_or, or_self, if_true, if_false]

set_option maxHeartbeats 4000000 in
set_option maxRecDepth 100000 in
theorem c_X0_bitsInBut (E : EN) (u : U3) (r : R1) (h : HB) (i : Nat) (a : Int32) (hi : i < 5) (hB : vI (h 18 0) 9) : CT E yX0_bitsInBut wsX0_bitsInBut (rmT 0 0) [.ref (eA E i 18), .int a] (ub u i h) r (some (.int (H_bitsB h a (ix (h 18 0))))) (ub u i h) r := by
  refine CT_ofI (cc := cX0_bitsInBut) (nL := 4) (own := RX0) (by decide) rfl rfl rfl (Nat.le_of_ble_eq_true rfl) (fun F C K => ?_)
  refine tt_to (lv1 := [(0, .ref (eA E i 18)), (1, .int a)]) rfl rfl rfl rfl ?_
  refine tt_iconst (v := nI 0) C dX0_bitsInBut_0 (by decide) ?_
  refine tt_istore_n (lv' := [(0, .ref (eA E i 18)), (1, .int a), (2, .int (nI 0))]) C dX0_bitsInBut_1 rfl (by decide) [1, 2, 0] rfl ?_
  refine tt_iconst (v := nI 0) C dX0_bitsInBut_2 (by decide) ?_
  refine tt_istore_n (lv' := [(0, .ref (eA E i 18)), (1, .int a), (2, .int (nI 0)), (3, .int (nI 0))]) C dX0_bitsInBut_3 rfl (by decide) [1, 2, 3, 0] rfl ?_
  exact l_bitsB E u r h i a hi hB F C K (ix (h 18 0) + 1) 0 (by omega) (by omega)

def H_cnt (h : HB) (w : Nat) : Int32 := if w = 0 then h 0 0 else if w = 1 then rem24 (h 0 0) else if w < 5 then h 0 (w - 1) else if w = 11 then h 25 0 else h 28 (w - 5)
set_option maxHeartbeats 4000000 in
set_option maxRecDepth 100000 in
theorem c_X2_counted (E : EN) (u : U3) (r : R1) (h : HB) (i : Nat) (w : Nat) (hi : i < 5) (hw : w < 12) : CT E yX2_counted wsX2_counted (rmT 2 42) [.ref (eA E i 0), .int (nI w)] (ub u i h) r (some (.int (H_cnt h w))) (ub u i h) r := by
  refine CT_ofI (cc := cX2_counted) (nL := 2) (own := RX2) (by decide) rfl rfl rfl (Nat.le_of_ble_eq_true rfl) (fun F C K => ?_)
  have hin2 : ∀ w ∈ u_ws RX2 TX2 8, w ∈ wsX2_counted := by decide +kernel
  have hin5 : ∀ w ∈ u_ws RX5 TX5 3, w ∈ wsX2_counted := by decide +kernel
  refine tt_to (lv1 := [(0, .ref (eA E i 0)), (1, .int (nI w))]) rfl rfl rfl rfl ?_
  refine tt_iload_n C dX2_counted_0 rfl 1 rfl ?_
  rcases (by omega : w = 0 ∨ w = 1 ∨ w = 2 ∨ w = 3 ∨ w = 4 ∨ w = 5 ∨ w = 6 ∨ w = 7 ∨ w = 8 ∨ w = 9 ∨ w = 10 ∨ w = 11) with rfl | rfl | rfl | rfl | rfl | rfl | rfl | rfl | rfl | rfl | rfl | rfl
  · skip
    refine tt_tabIn (off := 63) (tgt := 64) C dX2_counted_1 (by decide) (by decide) (by decide) (by decide) ?_
    refine tt_aload_n C dX2_counted_64 rfl 0 rfl ?_
    refine tt_getI (v := h 0 0) C (oH0 hi) rfl hin2 4 (by decide) (List.mem_of_getElem? (i := 1) (by decide +kernel)) rfl (ub_v.trans rfl) dX2_counted_65 ?_
    exact tt_iret K dX2_counted_68 (by first | rfl | (simp [H_cnt]; done) | grind [H_cnt]) (by first | rfl | (simp [H_cnt]; done) | (refine congrArg _ ?_; grind [H_cnt])) rfl
  · skip
    refine tt_tabIn (off := 68) (tgt := 69) C dX2_counted_1 (by decide) (by decide) (by decide) (by decide) ?_
    refine tt_aload_n C dX2_counted_69 rfl 0 rfl ?_
    refine tt_cVI C (c_X2_hour E u r h i hi) gX2_counted_X2_hour rfl ⟨rfl, rfl⟩ 0 (by decide +kernel) ⟨Nat.le_of_ble_eq_true rfl, Nat.le_of_ble_eq_true rfl⟩ rfl (oH0 hi) rfl (Nat.le_of_ble_eq_true rfl) dX2_counted_70 rfl ?_
    exact tt_iret K dX2_counted_73 (by first | rfl | (simp [H_cnt]; done) | grind [H_cnt]) (by first | rfl | (simp [H_cnt]; done) | (refine congrArg _ ?_; grind [H_cnt])) rfl
  · skip
    refine tt_tabIn (off := 73) (tgt := 74) C dX2_counted_1 (by decide) (by decide) (by decide) (by decide) ?_
    refine tt_aload_n C dX2_counted_74 rfl 0 rfl ?_
    refine tt_getI (v := h 0 1) C (oH0 hi) rfl hin2 5 (by decide) (List.mem_of_getElem? (i := 2) (by decide +kernel)) rfl (ub_v.trans rfl) dX2_counted_75 ?_
    exact tt_iret K dX2_counted_78 (by first | rfl | (simp [H_cnt]; done) | grind [H_cnt]) (by first | rfl | (simp [H_cnt]; done) | (refine congrArg _ ?_; grind [H_cnt])) rfl
  · skip
    refine tt_tabIn (off := 78) (tgt := 79) C dX2_counted_1 (by decide) (by decide) (by decide) (by decide) ?_
    refine tt_aload_n C dX2_counted_79 rfl 0 rfl ?_
    refine tt_getI (v := h 0 2) C (oH0 hi) rfl hin2 6 (by decide) (List.mem_of_getElem? (i := 3) (by decide +kernel)) rfl (ub_v.trans rfl) dX2_counted_80 ?_
    exact tt_iret K dX2_counted_83 (by first | rfl | (simp [H_cnt]; done) | grind [H_cnt]) (by first | rfl | (simp [H_cnt]; done) | (refine congrArg _ ?_; grind [H_cnt])) rfl
  · skip
    refine tt_tabIn (off := 83) (tgt := 84) C dX2_counted_1 (by decide) (by decide) (by decide) (by decide) ?_
    refine tt_aload_n C dX2_counted_84 rfl 0 rfl ?_
    refine tt_getI (v := h 0 3) C (oH0 hi) rfl hin2 7 (by decide) (List.mem_of_getElem? (i := 4) (by decide +kernel)) rfl (ub_v.trans rfl) dX2_counted_85 ?_
    exact tt_iret K dX2_counted_88 (by first | rfl | (simp [H_cnt]; done) | grind [H_cnt]) (by first | rfl | (simp [H_cnt]; done) | (refine congrArg _ ?_; grind [H_cnt])) rfl
  · skip
    refine tt_tabIn (off := 96) (tgt := 97) C dX2_counted_1 (by decide) (by decide) (by decide) (by decide) ?_
    refine tt_aload_n C dX2_counted_97 rfl 0 rfl ?_
    refine tt_iload_n C dX2_counted_98 rfl 1 rfl ?_
    refine tt_iconst (v := nI 5) C dX2_counted_99 (by decide) ?_
    refine tt_isub (v := nI (5 - 5)) C dX2_counted_100 (pk_sub (by omega)) ?_
    refine tt_cVI C (c_X2_outcomeCount E u r h i (5 - 5) hi (by first | assumption | omega)) gX2_counted_X2_outcomeCount rfl ⟨rfl, rfl⟩ 1 (by decide +kernel) ⟨Nat.le_of_ble_eq_true rfl, Nat.le_of_ble_eq_true rfl⟩ rfl (oH0 hi) rfl (Nat.le_of_ble_eq_true rfl) dX2_counted_101 rfl ?_
    exact tt_iret K dX2_counted_104 (by first | rfl | (simp [H_cnt]; done) | grind [H_cnt]) (by first | rfl | (simp [H_cnt]; done) | (refine congrArg _ ?_; grind [H_cnt])) rfl
  · skip
    refine tt_tabIn (off := 96) (tgt := 97) C dX2_counted_1 (by decide) (by decide) (by decide) (by decide) ?_
    refine tt_aload_n C dX2_counted_97 rfl 0 rfl ?_
    refine tt_iload_n C dX2_counted_98 rfl 1 rfl ?_
    refine tt_iconst (v := nI 5) C dX2_counted_99 (by decide) ?_
    refine tt_isub (v := nI (6 - 5)) C dX2_counted_100 (pk_sub (by omega)) ?_
    refine tt_cVI C (c_X2_outcomeCount E u r h i (6 - 5) hi (by first | assumption | omega)) gX2_counted_X2_outcomeCount rfl ⟨rfl, rfl⟩ 1 (by decide +kernel) ⟨Nat.le_of_ble_eq_true rfl, Nat.le_of_ble_eq_true rfl⟩ rfl (oH0 hi) rfl (Nat.le_of_ble_eq_true rfl) dX2_counted_101 rfl ?_
    exact tt_iret K dX2_counted_104 (by first | rfl | (simp [H_cnt]; done) | grind [H_cnt]) (by first | rfl | (simp [H_cnt]; done) | (refine congrArg _ ?_; grind [H_cnt])) rfl
  · skip
    refine tt_tabIn (off := 96) (tgt := 97) C dX2_counted_1 (by decide) (by decide) (by decide) (by decide) ?_
    refine tt_aload_n C dX2_counted_97 rfl 0 rfl ?_
    refine tt_iload_n C dX2_counted_98 rfl 1 rfl ?_
    refine tt_iconst (v := nI 5) C dX2_counted_99 (by decide) ?_
    refine tt_isub (v := nI (7 - 5)) C dX2_counted_100 (pk_sub (by omega)) ?_
    refine tt_cVI C (c_X2_outcomeCount E u r h i (7 - 5) hi (by first | assumption | omega)) gX2_counted_X2_outcomeCount rfl ⟨rfl, rfl⟩ 1 (by decide +kernel) ⟨Nat.le_of_ble_eq_true rfl, Nat.le_of_ble_eq_true rfl⟩ rfl (oH0 hi) rfl (Nat.le_of_ble_eq_true rfl) dX2_counted_101 rfl ?_
    exact tt_iret K dX2_counted_104 (by first | rfl | (simp [H_cnt]; done) | grind [H_cnt]) (by first | rfl | (simp [H_cnt]; done) | (refine congrArg _ ?_; grind [H_cnt])) rfl
  · skip
    refine tt_tabIn (off := 96) (tgt := 97) C dX2_counted_1 (by decide) (by decide) (by decide) (by decide) ?_
    refine tt_aload_n C dX2_counted_97 rfl 0 rfl ?_
    refine tt_iload_n C dX2_counted_98 rfl 1 rfl ?_
    refine tt_iconst (v := nI 5) C dX2_counted_99 (by decide) ?_
    refine tt_isub (v := nI (8 - 5)) C dX2_counted_100 (pk_sub (by omega)) ?_
    refine tt_cVI C (c_X2_outcomeCount E u r h i (8 - 5) hi (by first | assumption | omega)) gX2_counted_X2_outcomeCount rfl ⟨rfl, rfl⟩ 1 (by decide +kernel) ⟨Nat.le_of_ble_eq_true rfl, Nat.le_of_ble_eq_true rfl⟩ rfl (oH0 hi) rfl (Nat.le_of_ble_eq_true rfl) dX2_counted_101 rfl ?_
    exact tt_iret K dX2_counted_104 (by first | rfl | (simp [H_cnt]; done) | grind [H_cnt]) (by first | rfl | (simp [H_cnt]; done) | (refine congrArg _ ?_; grind [H_cnt])) rfl
  · skip
    refine tt_tabIn (off := 96) (tgt := 97) C dX2_counted_1 (by decide) (by decide) (by decide) (by decide) ?_
    refine tt_aload_n C dX2_counted_97 rfl 0 rfl ?_
    refine tt_iload_n C dX2_counted_98 rfl 1 rfl ?_
    refine tt_iconst (v := nI 5) C dX2_counted_99 (by decide) ?_
    refine tt_isub (v := nI (9 - 5)) C dX2_counted_100 (pk_sub (by omega)) ?_
    refine tt_cVI C (c_X2_outcomeCount E u r h i (9 - 5) hi (by first | assumption | omega)) gX2_counted_X2_outcomeCount rfl ⟨rfl, rfl⟩ 1 (by decide +kernel) ⟨Nat.le_of_ble_eq_true rfl, Nat.le_of_ble_eq_true rfl⟩ rfl (oH0 hi) rfl (Nat.le_of_ble_eq_true rfl) dX2_counted_101 rfl ?_
    exact tt_iret K dX2_counted_104 (by first | rfl | (simp [H_cnt]; done) | grind [H_cnt]) (by first | rfl | (simp [H_cnt]; done) | (refine congrArg _ ?_; grind [H_cnt])) rfl
  · skip
    refine tt_tabIn (off := 96) (tgt := 97) C dX2_counted_1 (by decide) (by decide) (by decide) (by decide) ?_
    refine tt_aload_n C dX2_counted_97 rfl 0 rfl ?_
    refine tt_iload_n C dX2_counted_98 rfl 1 rfl ?_
    refine tt_iconst (v := nI 5) C dX2_counted_99 (by decide) ?_
    refine tt_isub (v := nI (10 - 5)) C dX2_counted_100 (pk_sub (by omega)) ?_
    refine tt_cVI C (c_X2_outcomeCount E u r h i (10 - 5) hi (by first | assumption | omega)) gX2_counted_X2_outcomeCount rfl ⟨rfl, rfl⟩ 1 (by decide +kernel) ⟨Nat.le_of_ble_eq_true rfl, Nat.le_of_ble_eq_true rfl⟩ rfl (oH0 hi) rfl (Nat.le_of_ble_eq_true rfl) dX2_counted_101 rfl ?_
    exact tt_iret K dX2_counted_104 (by first | rfl | (simp [H_cnt]; done) | grind [H_cnt]) (by first | rfl | (simp [H_cnt]; done) | (refine congrArg _ ?_; grind [H_cnt])) rfl
  · skip
    refine tt_tabIn (off := 88) (tgt := 89) C dX2_counted_1 (by decide) (by decide) (by decide) (by decide) ?_
    refine tt_aload_n C dX2_counted_89 rfl 0 rfl ?_
    refine tt_get (v := .ref (eA E i 25)) C (oH0 hi) rfl hin2 2 (by decide) (List.mem_of_getElem? (i := 5) (by decide +kernel)) rfl dX2_counted_90 ?_
    refine tt_getI (v := h 25 0) C (oH25 hi) rfl hin5 0 (by decide) (List.mem_of_getElem? (i := 6) (by decide +kernel)) rfl (ub_v.trans rfl) dX2_counted_93 ?_
    exact tt_iret K dX2_counted_96 (by first | rfl | (simp [H_cnt]; done) | grind [H_cnt]) (by first | rfl | (simp [H_cnt]; done) | (refine congrArg _ ?_; grind [H_cnt])) rfl
