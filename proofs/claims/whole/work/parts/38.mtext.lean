def M_nx (f : Nat → Int32) (L s : Nat) : Int32 := if s < L then f s else -1
set_option maxHeartbeats 4000000 in
set_option maxRecDepth 100000 in
theorem l_next (E : EN) (u : U3) (r : R1) (h : HB) (f : Nat → Int32) (L : Nat) (fb : h 5 = f) (fl : h 0 1 = nI L) (hL : L ≤ 150) (F : FX) (C : Cx E F cX7_next 1 RX7 wsX7_next (rmT 0 0)) : ∀ (n a : Nat), a ≤ L → L + 1 ≤ a + n → RtI E F cX7_next (M_nx f L (sk f L n a)) (ub u 6 (up2 h 0 4 (nI (sk f L n a)))) r → T E F 1 (ub u 6 (up2 h 0 4 (nI a))) r 0 [(0, .ref (eA E 6 0))] [] := by
  have hin7 : ∀ w ∈ u_ws RX7 TX7 15, w ∈ wsX7_next := by decide +kernel
  intro n
  induction n with
  | zero => intro a h1 h2; exact absurd h2 (by omega)
  | succ n ih =>
    intro a h1 h2 K
    generalize ej : up2 h 0 4 (nI a) = hj
    have fl2 : hj 0 1 = nI L := by rw [← ej, up2_n (by decide)]; exact fl
    have fa : hj 0 4 = nI a := by rw [← ej, up2_s]
    have fb2 : hj 5 = f := by rw [← ej, up2_row (by decide)]; exact fb
    refine tt_aload_n C dX7_next_0 rfl 0 rfl ?_
    refine tt_getI (v := nI a) C oM0 rfl hin7 14 (by decide) (List.mem_of_getElem? (i := 1) (by decide +kernel)) rfl (ub_v.trans fa) dX7_next_1 ?_
    refine tt_aload_n C dX7_next_4 rfl 0 rfl ?_
    refine tt_getI (v := nI L) C oM0 rfl hin7 6 (by decide) (List.mem_of_getElem? (i := 2) (by decide +kernel)) rfl (ub_v.trans fl2) dX7_next_5 ?_
    refine tt_icmp_ge C (tgt := 38) dX7_next_8 (by decide) (nI_leI (by omega) (by omega)) (fun c_201 => ?_) (fun c_201 => ?_)
    · skip
      have e9 : sk f L (n + 1) a = a := by rw [sk, if_neg (fun z => absurd z.1 (by omega))]
      rw [e9] at K
      refine tt_aload_n C dX7_next_38 rfl 0 rfl ?_
      refine tt_getI (v := nI a) C oM0 rfl hin7 14 (by decide) (List.mem_of_getElem? (i := 1) (by decide +kernel)) rfl (ub_v.trans fa) dX7_next_39 ?_
      refine tt_aload_n C dX7_next_42 rfl 0 rfl ?_
      refine tt_getI (v := nI L) C oM0 rfl hin7 6 (by decide) (List.mem_of_getElem? (i := 2) (by decide +kernel)) rfl (ub_v.trans fl2) dX7_next_43 ?_
      refine tt_icmp_ge C (tgt := 61) dX7_next_46 (by decide) (nI_leI (by omega) (by omega)) (fun c_202 => ?_) (fun c_202 => ?_)
      · skip
        refine tt_iconst (v := (-1 : Int32)) C dX7_next_61 (by decide) ?_
        exact tt_iret K dX7_next_62 (by subst ej; first | (exfalso; omega) | skip; unfold M_nx; first | rw [if_pos (by omega)] | rw [if_neg (by omega)]) (by subst ej; rfl) rfl
      · skip
        refine tt_aload_n C dX7_next_49 rfl 0 rfl ?_
        refine tt_get (v := .ref (eA E 6 5)) C oM0 rfl hin7 5 (by decide) (List.mem_of_getElem? (i := 3) (by decide +kernel)) rfl dX7_next_50 ?_
        refine tt_aload_n C dX7_next_53 rfl 0 rfl ?_
        refine tt_getI (v := nI a) C oM0 rfl hin7 14 (by decide) (List.mem_of_getElem? (i := 1) (by decide +kernel)) rfl (ub_v.trans fa) dX7_next_54 ?_
        refine tt_ialdB (v := f a) C aM5 a rfl (by omega) (congrFun fb2 a) dX7_next_57 ?_
        refine tt_goto (tgt := 62) C dX7_next_58 (by decide) ?_
        exact tt_iret K dX7_next_62 (by subst ej; first | (exfalso; omega) | skip; unfold M_nx; first | rw [if_pos (by omega)] | rw [if_neg (by omega)]) (by subst ej; rfl) rfl
    · skip
      refine tt_aload_n C dX7_next_11 rfl 0 rfl ?_
      refine tt_get (v := .ref (eA E 6 5)) C oM0 rfl hin7 5 (by decide) (List.mem_of_getElem? (i := 3) (by decide +kernel)) rfl dX7_next_12 ?_
      refine tt_aload_n C dX7_next_15 rfl 0 rfl ?_
      refine tt_getI (v := nI a) C oM0 rfl hin7 14 (by decide) (List.mem_of_getElem? (i := 1) (by decide +kernel)) rfl (ub_v.trans fa) dX7_next_16 ?_
      refine tt_ialdB (v := f a) C aM5 a rfl (by omega) (congrFun fb2 a) dX7_next_19 ?_
      refine tt_bipush (v := nI 32) C dX7_next_20 (by decide) ?_
      refine tt_icmp_ne C (tgt := 38) dX7_next_22 (by decide) Iff.rfl (fun c_203 => ?_) (fun c_203 => ?_)
      · skip
        have e9 : sk f L (n + 1) a = a := by rw [sk, if_neg (fun z => absurd z.2 c_203)]
        rw [e9] at K
        refine tt_aload_n C dX7_next_38 rfl 0 rfl ?_
        refine tt_getI (v := nI a) C oM0 rfl hin7 14 (by decide) (List.mem_of_getElem? (i := 1) (by decide +kernel)) rfl (ub_v.trans fa) dX7_next_39 ?_
        refine tt_aload_n C dX7_next_42 rfl 0 rfl ?_
        refine tt_getI (v := nI L) C oM0 rfl hin7 6 (by decide) (List.mem_of_getElem? (i := 2) (by decide +kernel)) rfl (ub_v.trans fl2) dX7_next_43 ?_
        refine tt_icmp_ge C (tgt := 61) dX7_next_46 (by decide) (nI_leI (by omega) (by omega)) (fun c_204 => ?_) (fun c_204 => ?_)
        · skip
          refine tt_iconst (v := (-1 : Int32)) C dX7_next_61 (by decide) ?_
          exact tt_iret K dX7_next_62 (by subst ej; first | (exfalso; omega) | skip; unfold M_nx; first | rw [if_pos (by omega)] | rw [if_neg (by omega)]) (by subst ej; rfl) rfl
        · skip
          refine tt_aload_n C dX7_next_49 rfl 0 rfl ?_
          refine tt_get (v := .ref (eA E 6 5)) C oM0 rfl hin7 5 (by decide) (List.mem_of_getElem? (i := 3) (by decide +kernel)) rfl dX7_next_50 ?_
          refine tt_aload_n C dX7_next_53 rfl 0 rfl ?_
          refine tt_getI (v := nI a) C oM0 rfl hin7 14 (by decide) (List.mem_of_getElem? (i := 1) (by decide +kernel)) rfl (ub_v.trans fa) dX7_next_54 ?_
          refine tt_ialdB (v := f a) C aM5 a rfl (by omega) (congrFun fb2 a) dX7_next_57 ?_
          refine tt_goto (tgt := 62) C dX7_next_58 (by decide) ?_
          exact tt_iret K dX7_next_62 (by subst ej; first | (exfalso; omega) | skip; unfold M_nx; first | rw [if_pos (by omega)] | rw [if_neg (by omega)]) (by subst ej; rfl) rfl
      · skip
        refine tt_aload_n C dX7_next_25 rfl 0 rfl ?_
        refine tt_dup C dX7_next_26 rfl ?_
        refine tt_getI (v := nI a) C oM0 rfl hin7 14 (by decide) (List.mem_of_getElem? (i := 1) (by decide +kernel)) rfl (ub_v.trans fa) dX7_next_27 ?_
        refine tt_iconst (v := nI 1) C dX7_next_30 (by decide) ?_
        refine tt_iadd (v := nI (a + 1)) C dX7_next_31 (nI_add _ _) ?_
        refine tt_putIB C fM0_4 rfl hin7 tyX7 tyX7_ok nmX7 (by decide) (List.mem_of_getElem? (i := 1) (by decide +kernel)) (by decide +kernel) (by decide +kernel) dX7_next_32 ?_
        generalize e_206 : up2 hj 0 4 (nI (a + 1)) = h_205
        refine tt_goto (tgt := 0) C dX7_next_35 (by decide) ?_
        rw [← e_206, ← ej, up2_up2]
        have e9 : sk f L (n + 1) a = sk f L n (a + 1) := by rw [sk, if_pos ⟨(by omega), c_203⟩]
        rw [e9] at K
        exact ih (a + 1) (by omega) (by omega) K

set_option maxHeartbeats 4000000 in
set_option maxRecDepth 100000 in
theorem c_X7_next (E : EN) (u : U3) (r : R1) (h : HB) (f : Nat → Int32) (L : Nat) (a : Nat) (fb : h 5 = f) (fl : h 0 1 = nI L) (fa : h 0 4 = nI a) (hL : L ≤ 150) (ha : a ≤ L) : CT E yX7_next wsX7_next (rmT 0 0) [.ref (eA E 6 0)] (ub u 6 h) r (some (.int (M_nx f L (skp f L a)))) (ub u 6 (up2 h 0 4 (nI (skp f L a)))) r := by
  refine CT_ofI (cc := cX7_next) (nL := 1) (own := RX7) (by decide) rfl rfl rfl (Nat.le_of_ble_eq_true rfl) (fun F C K => ?_)
  refine tt_to (lv1 := [(0, .ref (eA E 6 0))]) rfl rfl rfl rfl ?_
  rw [← up2_same fa]
  exact l_next E u r h f L fb fl hL F C 152 a ha (by omega) K

set_option maxHeartbeats 4000000 in
set_option maxRecDepth 100000 in
theorem c_X7_isFigure (E : EN) (u : U3) (r : R1) (h : HB) (f : Nat → Int32) (L : Nat) (a : Nat) (fb : h 5 = f) (fl : h 0 1 = nI L) (fa : h 0 4 = nI a) (hL : L ≤ 150) (ha : a ≤ L) : CT E yX7_isFigure wsX7_isFigure (rmT 1 22) [.ref (eA E 6 0)] (ub u 6 h) r (some (.int (b2i (fig f L a)))) (ub u 6 h) r := by
  refine CT_ofI (cc := cX7_isFigure) (nL := 1) (own := RX7) (by decide) rfl rfl (b2i_z _) (Nat.le_of_ble_eq_true rfl) (fun F C K => ?_)
  have hin7 : ∀ w ∈ u_ws RX7 TX7 15, w ∈ wsX7_isFigure := by decide +kernel
  refine tt_to (lv1 := [(0, .ref (eA E 6 0))]) rfl rfl rfl rfl ?_
  refine tt_aload_n C dX7_isFigure_0 rfl 0 rfl ?_
  refine tt_getI (v := nI a) C oM0 rfl hin7 14 (by decide) (List.mem_of_getElem? (i := 1) (by decide +kernel)) rfl (ub_v.trans fa) dX7_isFigure_1 ?_
  refine tt_aload_n C dX7_isFigure_4 rfl 0 rfl ?_
  refine tt_getI (v := nI L) C oM0 rfl hin7 6 (by decide) (List.mem_of_getElem? (i := 2) (by decide +kernel)) rfl (ub_v.trans fl) dX7_isFigure_5 ?_
  refine tt_icmp_ge C (tgt := 34) dX7_isFigure_8 (by decide) (nI_leI (by omega) (by omega)) (fun c_1 => ?_) (fun c_1 => ?_)
  · skip
    refine tt_iconst (v := nI 0) C dX7_isFigure_34 (by decide) ?_
    exact tt_iret K dX7_isFigure_35 (by exact b1_f (by first | (simp only [c_1, not_false_eq_true, not_true_eq_false, and_true, true_and, and_false, false_and, and_self, or_true, true_or, or_false, false_or, or_self, if_true, if_false]; done) | grind)) (by first | rfl | (simp [c_1]; done) | (refine congrArg _ ?_; grind [])) rfl
  · skip
    refine tt_aload_n C dX7_isFigure_11 rfl 0 rfl ?_
    refine tt_get (v := .ref (eA E 6 5)) C oM0 rfl hin7 5 (by decide) (List.mem_of_getElem? (i := 3) (by decide +kernel)) rfl dX7_isFigure_12 ?_
    refine tt_aload_n C dX7_isFigure_15 rfl 0 rfl ?_
    refine tt_getI (v := nI a) C oM0 rfl hin7 14 (by decide) (List.mem_of_getElem? (i := 1) (by decide +kernel)) rfl (ub_v.trans fa) dX7_isFigure_16 ?_
    refine tt_ialdB (v := f a) C aM5 a rfl (by omega) (congrFun fb a) dX7_isFigure_19 ?_
    refine tt_bipush (v := nI 48) C dX7_isFigure_20 (by decide) ?_
    refine tt_bipush (v := nI 57) C dX7_isFigure_22 (by decide) ?_
    refine tt_cSI C (c_X7_in E (ub u 6 h) r (f a) (nI 48) (nI 57)) gX7_isFigure_X7_in rfl ⟨rfl, rfl⟩ 3 (by decide +kernel) ⟨Nat.le_of_ble_eq_true rfl, Nat.le_of_ble_eq_true rfl⟩ rfl (Nat.le_of_ble_eq_true rfl) dX7_isFigure_24 rfl ?_
    refine tt_if_eqB C (tgt := 34) dX7_isFigure_27 (by decide) (fun c_2 => ?_) (fun c_2 => ?_)
    · skip
      refine tt_iconst (v := nI 0) C dX7_isFigure_34 (by decide) ?_
      exact tt_iret K dX7_isFigure_35 (by exact b1_f (by first | (simp only [c_1, c_2, not_false_eq_true, not_true_eq_false, and_true, true_and, and_false, false_and, and_self, or_true, true_or, or_false, false_or, or_self, if_true, if_false]; done) | grind)) (by first | rfl | (simp [c_1, c_2]; done) | (refine congrArg _ ?_; grind [])) rfl
    · skip
      refine tt_iconst (v := nI 1) C dX7_isFigure_30 (by decide) ?_
      refine tt_goto (tgt := 35) C dX7_isFigure_31 (by decide) ?_
      exact tt_iret K dX7_isFigure_35 (by exact b1_t (by first | (simp only [c_1, c_2, not_false_eq_true, not_true_eq_false, and_true, true_and, and_false, false_and, and_self, or_true, true_or, or_false, false_or, or_self, if_true, if_false]; done) | grind)) (by first | rfl | (simp [c_1, c_2]; done) | (refine congrArg _ ?_; grind [])) rfl

def M_numV (f : Nat → Int32) (L a : Nat) : Int32 := if ¬ fig f L (skp f L a + 1) then f (skp f L a) - nI 48 else nI 10 * (f (skp f L a) - nI 48) + f (skp f L a + 1) - nI 48
def M_numH (h : HB) (q p : Nat) (f : Nat → Int32) (L a : Nat) : HB := if ¬ fig f L (skp f L a) then up2 h 0 4 (nI (numA f L a)) else up2 (up2 (up2 h 0 4 (nI (numA f L a))) 8 p (M_numV f L a)) 7 (q + 1) (nI (p + 1))

set_option maxHeartbeats 4000000 in
set_option maxRecDepth 100000 in
theorem c_X7_readNumber (E : EN) (u : U3) (r : R1) (h : HB) (f : Nat → Int32) (L : Nat) (a : Nat) (q : Nat) (p : Nat) (fb : h 5 = f) (fl : h 0 1 = nI L) (fa : h 0 4 = nI a) (hL : L ≤ 150) (ha : a ≤ L) (fq : h 0 2 = nI q) (hq : q < 150) (fp : h 7 (q + 1) = nI p) (hp : p < 150) : CT E yX7_readNumber wsX7_readNumber (rmT 2 42) [.ref (eA E 6 0)] (ub u 6 h) r (some (.int (b2i (fig f L (skp f L a) ∧ ¬ (fig f L (skp f L a + 1) ∧ fig f L (skp f L a + 1 + 1)))))) (ub u 6 (M_numH h q p f L a)) r := by
  refine CT_ofI (cc := cX7_readNumber) (nL := 3) (own := RX7) (by decide) rfl rfl (b2i_z _) (Nat.le_of_ble_eq_true rfl) (fun F C K => ?_)
  have hin7 : ∀ w ∈ u_ws RX7 TX7 15, w ∈ wsX7_readNumber := by decide +kernel
  refine tt_to (lv1 := [(0, .ref (eA E 6 0))]) rfl rfl rfl rfl ?_
  have hs1 := skp_ge f L a
  have hs2 := skp_le f L a ha
  refine tt_aload_n C dX7_readNumber_0 rfl 0 rfl ?_
  refine tt_get (v := .ref (eA E 6 7)) C oM0 rfl hin7 8 (by decide) (List.mem_of_getElem? (i := 1) (by decide +kernel)) rfl dX7_readNumber_1 ?_
  refine tt_aload_n C dX7_readNumber_4 rfl 0 rfl ?_
  refine tt_getI (v := nI q) C oM0 rfl hin7 10 (by decide) (List.mem_of_getElem? (i := 2) (by decide +kernel)) rfl (ub_v.trans fq) dX7_readNumber_5 ?_
  refine tt_iconst (v := nI 1) C dX7_readNumber_8 (by decide) ?_
  refine tt_iadd (v := nI (q + 1)) C dX7_readNumber_9 (nI_add _ _) ?_
  refine tt_ialdB (v := nI p) C aM7 (q + 1) rfl (by omega) fp dX7_readNumber_10 ?_
  refine tt_istore_n (lv' := [(0, .ref (eA E 6 0)), (1, .int (nI p))]) C dX7_readNumber_11 rfl (by decide) [1, 0] rfl ?_
  refine tt_aload_n C dX7_readNumber_12 rfl 0 rfl ?_
  refine tt_cVI C (c_X7_next E u r h f L a fb fl fa hL ha) gX7_readNumber_X7_next rfl ⟨rfl, rfl⟩ 0 (by decide +kernel) ⟨Nat.le_of_ble_eq_true rfl, Nat.le_of_ble_eq_true rfl⟩ rfl oM0 rfl (Nat.le_of_ble_eq_true rfl) dX7_readNumber_13 rfl ?_
  generalize e_2 : up2 h 0 4 (nI (skp f L a)) = h_1
  refine tt_pop C dX7_readNumber_16 rfl ?_
  refine tt_aload_n C dX7_readNumber_17 rfl 0 rfl ?_
  refine tt_cVI C (c_X7_isFigure E u r h_1 f L (skp f L a) (by rw [← e_2, up2_row (by decide)]; exact fb) (by rw [← e_2, up2_n (fun z => absurd z.2 (by decide))]; exact fl) (by rw [← e_2]; exact up2_s _ _ _ _) hL (by first | assumption | omega | (have := c_5.1; omega) | (have := c_4.1; omega) | (have := c_3.1; omega))) gX7_readNumber_X7_isFigure rfl ⟨rfl, rfl⟩ 0 (by decide +kernel) ⟨Nat.le_of_ble_eq_true rfl, Nat.le_of_ble_eq_true rfl⟩ rfl oM0 rfl (Nat.le_of_ble_eq_true rfl) dX7_readNumber_18 rfl ?_
  refine tt_if_neB C (tgt := 26) dX7_readNumber_21 (by decide) (fun c_3 => ?_) (fun c_3 => ?_)
  · skip
    refine tt_aload_n C dX7_readNumber_26 rfl 0 rfl ?_
    refine tt_get (v := .ref (eA E 6 5)) C oM0 rfl hin7 5 (by decide) (List.mem_of_getElem? (i := 3) (by decide +kernel)) rfl dX7_readNumber_27 ?_
    refine tt_aload_n C dX7_readNumber_30 rfl 0 rfl ?_
    refine tt_getI (v := nI (skp f L a)) C oM0 rfl hin7 14 (by decide) (List.mem_of_getElem? (i := 4) (by decide +kernel)) rfl (ub_v.trans (by rw [← e_2]; exact up2_s _ _ _ _)) dX7_readNumber_31 ?_
    refine tt_ialdB (v := f (skp f L a)) C aM5 (skp f L a) rfl (by omega) (by rw [← e_2, up2_n (fun z => absurd z.1 (by decide))]; exact (congrFun fb (skp f L a))) dX7_readNumber_34 ?_
    refine tt_bipush (v := nI 48) C dX7_readNumber_35 (by decide) ?_
    refine tt_isub C dX7_readNumber_37 rfl ?_
    refine tt_istore_n (lv' := [(0, .ref (eA E 6 0)), (1, .int (nI p)), (2, .int ((f (skp f L a)) - (nI 48)))]) C dX7_readNumber_38 rfl (by decide) [1, 2, 0] rfl ?_
    refine tt_aload_n C dX7_readNumber_39 rfl 0 rfl ?_
    refine tt_dup C dX7_readNumber_40 rfl ?_
    refine tt_getI (v := nI (skp f L a)) C oM0 rfl hin7 14 (by decide) (List.mem_of_getElem? (i := 4) (by decide +kernel)) rfl (ub_v.trans (by rw [← e_2]; exact up2_s _ _ _ _)) dX7_readNumber_41 ?_
    refine tt_iconst (v := nI 1) C dX7_readNumber_44 (by decide) ?_
    refine tt_iadd (v := nI (skp f L a + 1)) C dX7_readNumber_45 (nI_add _ _) ?_
    refine tt_putIB C fM0_4 rfl hin7 tyX7 tyX7_ok nmX7 (by decide) (List.mem_of_getElem? (i := 4) (by decide +kernel)) (by decide +kernel) (by decide +kernel) dX7_readNumber_46 ?_
    generalize e_5 : up2 h_1 0 4 (nI (skp f L a + 1)) = h_4
    refine tt_aload_n C dX7_readNumber_49 rfl 0 rfl ?_
    refine tt_cVI C (c_X7_isFigure E u r h_4 f L (skp f L a + 1) (by rw [← e_5, up2_row (by decide), ← e_2, up2_row (by decide)]; exact fb) (by rw [← e_5, up2_n (fun z => absurd z.2 (by decide)), ← e_2, up2_n (fun z => absurd z.2 (by decide))]; exact fl) (by rw [← e_5]; exact up2_s _ _ _ _) hL (by first | assumption | omega | (have := c_5.1; omega) | (have := c_4.1; omega) | (have := c_3.1; omega))) gX7_readNumber_X7_isFigure rfl ⟨rfl, rfl⟩ 0 (by decide +kernel) ⟨Nat.le_of_ble_eq_true rfl, Nat.le_of_ble_eq_true rfl⟩ rfl oM0 rfl (Nat.le_of_ble_eq_true rfl) dX7_readNumber_50 rfl ?_
    refine tt_if_eqB C (tgt := 84) dX7_readNumber_53 (by decide) (fun c_6 => ?_) (fun c_6 => ?_)
    · skip
      refine tt_aload_n C dX7_readNumber_84 rfl 0 rfl ?_
      refine tt_get (v := .ref (eA E 6 8)) C oM0 rfl hin7 9 (by decide) (List.mem_of_getElem? (i := 5) (by decide +kernel)) rfl dX7_readNumber_85 ?_
      refine tt_iload_n C dX7_readNumber_88 rfl 1 rfl ?_
      refine tt_iload_n C dX7_readNumber_89 rfl 2 rfl ?_
      refine tt_iastB C aM8 p rfl (by omega) dX7_readNumber_90 ?_
      generalize e_8 : up2 h_4 8 p ((f (skp f L a)) - (nI 48)) = h_7
      refine tt_aload_n C dX7_readNumber_91 rfl 0 rfl ?_
      refine tt_get (v := .ref (eA E 6 7)) C oM0 rfl hin7 8 (by decide) (List.mem_of_getElem? (i := 1) (by decide +kernel)) rfl dX7_readNumber_92 ?_
      refine tt_aload_n C dX7_readNumber_95 rfl 0 rfl ?_
      refine tt_getI (v := nI q) C oM0 rfl hin7 10 (by decide) (List.mem_of_getElem? (i := 2) (by decide +kernel)) rfl (ub_v.trans (by rw [← e_8, up2_n (fun z => absurd z.1 (by decide)), ← e_5, up2_n (fun z => absurd z.2 (by decide)), ← e_2, up2_n (fun z => absurd z.2 (by decide))]; exact fq)) dX7_readNumber_96 ?_
      refine tt_iconst (v := nI 1) C dX7_readNumber_99 (by decide) ?_
      refine tt_iadd (v := nI (q + 1)) C dX7_readNumber_100 (nI_add _ _) ?_
      refine tt_dup2 C dX7_readNumber_101 rfl rfl ?_
      refine tt_ialdB (v := nI p) C aM7 (q + 1) rfl (by omega) (by rw [← e_8, up2_n (fun z => absurd z.1 (by decide)), ← e_5, up2_n (fun z => absurd z.1 (by decide)), ← e_2, up2_n (fun z => absurd z.1 (by decide))]; exact fp) dX7_readNumber_102 ?_
      refine tt_iconst (v := nI 1) C dX7_readNumber_103 (by decide) ?_
      refine tt_iadd (v := nI (p + 1)) C dX7_readNumber_104 (nI_add _ _) ?_
      refine tt_iastB C aM7 (q + 1) rfl (by omega) dX7_readNumber_105 ?_
      generalize e_10 : up2 h_7 7 (q + 1) (nI (p + 1)) = h_9
      refine tt_aload_n C dX7_readNumber_106 rfl 0 rfl ?_
      refine tt_cVI C (c_X7_isFigure E u r h_9 f L (skp f L a + 1) (by rw [← e_10, up2_row (by decide), ← e_8, up2_row (by decide), ← e_5, up2_row (by decide), ← e_2, up2_row (by decide)]; exact fb) (by rw [← e_10, up2_n (fun z => absurd z.1 (by decide)), ← e_8, up2_n (fun z => absurd z.1 (by decide)), ← e_5, up2_n (fun z => absurd z.2 (by decide)), ← e_2, up2_n (fun z => absurd z.2 (by decide))]; exact fl) (by rw [← e_10, up2_n (fun z => absurd z.1 (by decide)), ← e_8, up2_n (fun z => absurd z.1 (by decide)), ← e_5]; exact up2_s _ _ _ _) hL (by first | assumption | omega | (have := c_5.1; omega) | (have := c_4.1; omega) | (have := c_3.1; omega))) gX7_readNumber_X7_isFigure rfl ⟨rfl, rfl⟩ 0 (by decide +kernel) ⟨Nat.le_of_ble_eq_true rfl, Nat.le_of_ble_eq_true rfl⟩ rfl oM0 rfl (Nat.le_of_ble_eq_true rfl) dX7_readNumber_107 rfl ?_
      refine tt_if_neB C (tgt := 117) dX7_readNumber_110 (by decide) (fun c_11 => ?_) (fun c_11 => ?_)
      · skip
        exact absurd c_11 c_6
      · skip
        refine tt_iconst (v := nI 1) C dX7_readNumber_113 (by decide) ?_
        refine tt_goto (tgt := 118) C dX7_readNumber_114 (by decide) ?_
        exact tt_iret K dX7_readNumber_118 (by subst e_10; subst e_8; subst e_5; subst e_2; exact b1_t (by first | (simp only [c_3, c_6, c_11, not_false_eq_true, not_true_eq_false, and_true, true_and, and_false, false_and, and_self, or_true, true_or, or_false, false_or, or_self, if_true, if_false]; done) | grind)) (by subst e_10; subst e_8; subst e_5; subst e_2; first | rfl | (refine congrArg _ ?_; simp only [M_numH, numA, M_numV, eq_true c_3, c_3, eq_true c_6, c_6, eq_true c_11, c_11, not_false_eq_true, not_true_eq_false, and_true, true_and, and_false, false_and, and_self, or_true, true_or, or_false, false_or, or_self, if_true, if_false, up2_up2])) rfl
    · skip
      refine tt_bipush (v := nI 10) C dX7_readNumber_56 (by decide) ?_
      refine tt_iload_n C dX7_readNumber_58 rfl 2 rfl ?_
      refine tt_imul C dX7_readNumber_59 rfl ?_
      refine tt_aload_n C dX7_readNumber_60 rfl 0 rfl ?_
      refine tt_get (v := .ref (eA E 6 5)) C oM0 rfl hin7 5 (by decide) (List.mem_of_getElem? (i := 3) (by decide +kernel)) rfl dX7_readNumber_61 ?_
      refine tt_aload_n C dX7_readNumber_64 rfl 0 rfl ?_
      refine tt_getI (v := nI (skp f L a + 1)) C oM0 rfl hin7 14 (by decide) (List.mem_of_getElem? (i := 4) (by decide +kernel)) rfl (ub_v.trans (by rw [← e_5]; exact up2_s _ _ _ _)) dX7_readNumber_65 ?_
      refine tt_ialdB (v := f (skp f L a + 1)) C aM5 (skp f L a + 1) rfl (by omega) (by rw [← e_5, up2_n (fun z => absurd z.1 (by decide)), ← e_2, up2_n (fun z => absurd z.1 (by decide))]; exact (congrFun fb (skp f L a + 1))) dX7_readNumber_68 ?_
      refine tt_iadd C dX7_readNumber_69 rfl ?_
      refine tt_bipush (v := nI 48) C dX7_readNumber_70 (by decide) ?_
      refine tt_isub C dX7_readNumber_72 rfl ?_
      refine tt_istore_n (lv' := [(0, .ref (eA E 6 0)), (1, .int (nI p)), (2, .int ((((nI 10) * ((f (skp f L a)) - (nI 48))) + (f (skp f L a + 1))) - (nI 48)))]) C dX7_readNumber_73 rfl (by decide) [1, 2, 0] rfl ?_
      refine tt_aload_n C dX7_readNumber_74 rfl 0 rfl ?_
      refine tt_dup C dX7_readNumber_75 rfl ?_
      refine tt_getI (v := nI (skp f L a + 1)) C oM0 rfl hin7 14 (by decide) (List.mem_of_getElem? (i := 4) (by decide +kernel)) rfl (ub_v.trans (by rw [← e_5]; exact up2_s _ _ _ _)) dX7_readNumber_76 ?_
      refine tt_iconst (v := nI 1) C dX7_readNumber_79 (by decide) ?_
      refine tt_iadd (v := nI (skp f L a + 1 + 1)) C dX7_readNumber_80 (nI_add _ _) ?_
      refine tt_putIB C fM0_4 rfl hin7 tyX7 tyX7_ok nmX7 (by decide) (List.mem_of_getElem? (i := 4) (by decide +kernel)) (by decide +kernel) (by decide +kernel) dX7_readNumber_81 ?_
      generalize e_13 : up2 h_4 0 4 (nI (skp f L a + 1 + 1)) = h_12
      refine tt_aload_n C dX7_readNumber_84 rfl 0 rfl ?_
      refine tt_get (v := .ref (eA E 6 8)) C oM0 rfl hin7 9 (by decide) (List.mem_of_getElem? (i := 5) (by decide +kernel)) rfl dX7_readNumber_85 ?_
      refine tt_iload_n C dX7_readNumber_88 rfl 1 rfl ?_
      refine tt_iload_n C dX7_readNumber_89 rfl 2 rfl ?_
      refine tt_iastB C aM8 p rfl (by omega) dX7_readNumber_90 ?_
      generalize e_15 : up2 h_12 8 p ((((nI 10) * ((f (skp f L a)) - (nI 48))) + (f (skp f L a + 1))) - (nI 48)) = h_14
      refine tt_aload_n C dX7_readNumber_91 rfl 0 rfl ?_
      refine tt_get (v := .ref (eA E 6 7)) C oM0 rfl hin7 8 (by decide) (List.mem_of_getElem? (i := 1) (by decide +kernel)) rfl dX7_readNumber_92 ?_
      refine tt_aload_n C dX7_readNumber_95 rfl 0 rfl ?_
      refine tt_getI (v := nI q) C oM0 rfl hin7 10 (by decide) (List.mem_of_getElem? (i := 2) (by decide +kernel)) rfl (ub_v.trans (by rw [← e_15, up2_n (fun z => absurd z.1 (by decide)), ← e_13, up2_n (fun z => absurd z.2 (by decide)), ← e_5, up2_n (fun z => absurd z.2 (by decide)), ← e_2, up2_n (fun z => absurd z.2 (by decide))]; exact fq)) dX7_readNumber_96 ?_
      refine tt_iconst (v := nI 1) C dX7_readNumber_99 (by decide) ?_
      refine tt_iadd (v := nI (q + 1)) C dX7_readNumber_100 (nI_add _ _) ?_
      refine tt_dup2 C dX7_readNumber_101 rfl rfl ?_
      refine tt_ialdB (v := nI p) C aM7 (q + 1) rfl (by omega) (by rw [← e_15, up2_n (fun z => absurd z.1 (by decide)), ← e_13, up2_n (fun z => absurd z.1 (by decide)), ← e_5, up2_n (fun z => absurd z.1 (by decide)), ← e_2, up2_n (fun z => absurd z.1 (by decide))]; exact fp) dX7_readNumber_102 ?_
      refine tt_iconst (v := nI 1) C dX7_readNumber_103 (by decide) ?_
      refine tt_iadd (v := nI (p + 1)) C dX7_readNumber_104 (nI_add _ _) ?_
      refine tt_iastB C aM7 (q + 1) rfl (by omega) dX7_readNumber_105 ?_
      generalize e_17 : up2 h_14 7 (q + 1) (nI (p + 1)) = h_16
      refine tt_aload_n C dX7_readNumber_106 rfl 0 rfl ?_
      refine tt_cVI C (c_X7_isFigure E u r h_16 f L (skp f L a + 1 + 1) (by rw [← e_17, up2_row (by decide), ← e_15, up2_row (by decide), ← e_13, up2_row (by decide), ← e_5, up2_row (by decide), ← e_2, up2_row (by decide)]; exact fb) (by rw [← e_17, up2_n (fun z => absurd z.1 (by decide)), ← e_15, up2_n (fun z => absurd z.1 (by decide)), ← e_13, up2_n (fun z => absurd z.2 (by decide)), ← e_5, up2_n (fun z => absurd z.2 (by decide)), ← e_2, up2_n (fun z => absurd z.2 (by decide))]; exact fl) (by rw [← e_17, up2_n (fun z => absurd z.1 (by decide)), ← e_15, up2_n (fun z => absurd z.1 (by decide)), ← e_13]; exact up2_s _ _ _ _) hL (by first | assumption | omega | (have := c_5.1; omega) | (have := c_4.1; omega) | (have := c_3.1; omega))) gX7_readNumber_X7_isFigure rfl ⟨rfl, rfl⟩ 0 (by decide +kernel) ⟨Nat.le_of_ble_eq_true rfl, Nat.le_of_ble_eq_true rfl⟩ rfl oM0 rfl (Nat.le_of_ble_eq_true rfl) dX7_readNumber_107 rfl ?_
      refine tt_if_neB C (tgt := 117) dX7_readNumber_110 (by decide) (fun c_18 => ?_) (fun c_18 => ?_)
      · skip
        refine tt_iconst (v := nI 0) C dX7_readNumber_117 (by decide) ?_
        exact tt_iret K dX7_readNumber_118 (by subst e_17; subst e_15; subst e_13; subst e_5; subst e_2; exact b1_f (by first | (simp only [c_3, c_6, c_18, not_false_eq_true, not_true_eq_false, and_true, true_and, and_false, false_and, and_self, or_true, true_or, or_false, false_or, or_self, if_true, if_false]; done) | grind)) (by subst e_17; subst e_15; subst e_13; subst e_5; subst e_2; first | rfl | (refine congrArg _ ?_; simp only [M_numH, numA, M_numV, eq_true c_3, c_3, eq_true c_6, c_6, eq_true c_18, c_18, not_false_eq_true, not_true_eq_false, and_true, true_and, and_false, false_and, and_self, or_true, true_or, or_false, false_or, or_self, if_true, if_false, up2_up2])) rfl
      · skip
        refine tt_iconst (v := nI 1) C dX7_readNumber_113 (by decide) ?_
        refine tt_goto (tgt := 118) C dX7_readNumber_114 (by decide) ?_
        exact tt_iret K dX7_readNumber_118 (by subst e_17; subst e_15; subst e_13; subst e_5; subst e_2; exact b1_t (by first | (simp only [c_3, c_6, c_18, not_false_eq_true, not_true_eq_false, and_true, true_and, and_false, false_and, and_self, or_true, true_or, or_false, false_or, or_self, if_true, if_false]; done) | grind)) (by subst e_17; subst e_15; subst e_13; subst e_5; subst e_2; first | rfl | (refine congrArg _ ?_; simp only [M_numH, numA, M_numV, eq_true c_3, c_3, eq_true c_6, c_6, eq_true c_18, c_18, not_false_eq_true, not_true_eq_false, and_true, true_and, and_false, false_and, and_self, or_true, true_or, or_false, false_or, or_self, if_true, if_false, up2_up2])) rfl
  · skip
    refine tt_iconst (v := nI 0) C dX7_readNumber_24 (by decide) ?_
    exact tt_iret K dX7_readNumber_25 (by subst e_2; exact b1_f (by first | (simp only [c_3, not_false_eq_true, not_true_eq_false, and_true, true_and, and_false, false_and, and_self, or_true, true_or, or_false, false_or, or_self, if_true, if_false]; done) | grind)) (by subst e_2; first | rfl | (refine congrArg _ ?_; simp only [M_numH, numA, M_numV, eq_true c_3, c_3, not_false_eq_true, not_true_eq_false, and_true, true_and, and_false, false_and, and_self, or_true, true_or, or_false, false_or, or_self, if_true, if_false, up2_up2])) rfl

def kI (e j : Nat) : Int32 := nI e - nI (j + 1)
theorem kI_s (e j : Nat) : kI e j + -1 = kI e (j + 1) := by
  unfold kI
  rw [← nI_add (j + 1) 1, show (-1 : Int32) = - nI 1 from by decide, ← Int32.sub_eq_add_neg, Int32.sub_sub]
theorem kI_eq {e j : Nat} (h : j + 1 ≤ e) : kI e j = nI (e - (j + 1)) := pk_sub h
theorem kI_lt {e j s : Nat} (hj : j ≤ e) (he : e ≤ 150) (hs : s ≤ e) : kI e j < nI s ↔ e < s + j + 1 := by
  rcases Nat.lt_or_ge j e with q | q
  · rw [kI_eq q, nI_ltI (by omega) (by omega)]
    omega
  · have e1 : j = e := by omega
    subst e1
    have e2 : kI j j = -1 := by
      unfold kI
      rw [← nI_add j 1, ← Int32.sub_sub, Int32.sub_self]
      decide
    rw [e2]
    constructor
    · intro _; omega
    · intro _; exact Int32.lt_of_lt_of_le (by decide) (nI_pos' (by omega))
def M_ltA (f : Nat → Int32) (e : Nat) : Nat → Int64
  | 0 => 0
  | j + 1 => M_ltA f e j * 32 + (f (e - (j + 1))).toInt64 - 97 + 1
def M_lt (f : Nat → Int32) (s e : Nat) : Int64 := if e - s < 10 then M_ltA f e (e - s) else 0

set_option maxHeartbeats 4000000 in
set_option maxRecDepth 100000 in
theorem l_lt (E : EN) (u : U3) (r : R1) (h : HB) (f : Nat → Int32) (s : Nat) (e : Nat) (fb : h 5 = f) (he : e ≤ 150) (hse : s ≤ e) (h10 : e - s < 10) (F : FX) (C : Cx E F cX7_lettersFrom 6 RX7 wsX7_lettersFrom (rmT 0 0)) (K : RtL E F cX7_lettersFrom (M_ltA f e (e - s)) (ub u 6 h) r) : ∀ (n j : Nat), j ≤ e - s → e - s + 1 ≤ j + n → T E F 6 (ub u 6 h) r 7 [(0, .ref (eA E 6 0)), (1, .int (nI s)), (2, .int (nI e)), (3, .long (M_ltA f e j)), (5, .int (kI e j))] [] := by
  have hin7 : ∀ w ∈ u_ws RX7 TX7 15, w ∈ wsX7_lettersFrom := by decide +kernel
  intro n
  induction n with
  | zero => intro j h1 h2; exact absurd h2 (by omega)
  | succ n ih =>
    intro j h1 h2
    refine tt_iload C dX7_lettersFrom_7 4 rfl ?_
    refine tt_iload_n C dX7_lettersFrom_9 rfl 1 rfl ?_
    refine tt_icmp_lt C (tgt := 48) dX7_lettersFrom_10 (by decide) (kI_lt (by omega) he hse) (fun c_101 => ?_) (fun c_101 => ?_)
    · skip
      have hje : j = e - s := (by omega); subst hje
      refine tt_lload_n C dX7_lettersFrom_48 rfl 3 rfl ?_
      exact tt_lret K dX7_lettersFrom_49 (by rfl) (by rfl) rfl
    · skip
      refine tt_iload_n C dX7_lettersFrom_13 rfl 2 rfl ?_
      refine tt_iload_n C dX7_lettersFrom_14 rfl 1 rfl ?_
      refine tt_isub (v := nI (e - s)) C dX7_lettersFrom_15 (pk_sub (by omega)) ?_
      refine tt_bipush (v := nI 10) C dX7_lettersFrom_16 (by decide) ?_
      refine tt_icmp_ge C (tgt := 48) dX7_lettersFrom_18 (by decide) (nI_leI (by omega) (by omega)) (fun c_102 => ?_) (fun c_102 => ?_)
      · skip
        exact absurd c_102 (by omega)
      · skip
        refine tt_lload_n C dX7_lettersFrom_21 rfl 3 rfl ?_
        refine tt_ldc2 (v := 32) C (List.mem_of_getElem? (i := 1) (by decide +kernel)) dX7_lettersFrom_22 ?_
        refine tt_lmul C dX7_lettersFrom_25 rfl ?_
        refine tt_aload_n C dX7_lettersFrom_26 rfl 0 rfl ?_
        refine tt_get (v := .ref (eA E 6 5)) C oM0 rfl hin7 5 (by decide) (List.mem_of_getElem? (i := 2) (by decide +kernel)) rfl dX7_lettersFrom_27 ?_
        refine tt_iload C dX7_lettersFrom_30 4 rfl ?_
        refine tt_ialdB (v := f (e - (j + 1))) C aM5 (e - (j + 1)) (kI_eq (by omega)) (by omega) (congrFun fb (e - (j + 1))) dX7_lettersFrom_32 ?_
        refine tt_i2l C dX7_lettersFrom_33 rfl ?_
        refine tt_ladd C dX7_lettersFrom_34 rfl ?_
        refine tt_ldc2 (v := 97) C (List.mem_of_getElem? (i := 3) (by decide +kernel)) dX7_lettersFrom_35 ?_
        refine tt_lsub C dX7_lettersFrom_38 rfl ?_
        refine tt_lconst (v := 1) C dX7_lettersFrom_39 (by decide) ?_
        refine tt_ladd C dX7_lettersFrom_40 rfl ?_
        refine tt_lstore_n (lv' := [(0, .ref (eA E 6 0)), (1, .int (nI s)), (2, .int (nI e)), (3, .long (((((M_ltA f e j) * (32 : Int64)) + ((f (e - (j + 1))).toInt64)) - (97 : Int64)) + (1 : Int64))), (5, .int (kI e j))]) C dX7_lettersFrom_41 rfl (by decide) [1, 2, 3, 0, 4] rfl ?_
        refine tt_iinc (p := 4) (v := (kI e j) + -1) (lv' := [(0, .ref (eA E 6 0)), (1, .int (nI s)), (2, .int (nI e)), (3, .long (((((M_ltA f e j) * (32 : Int64)) + ((f (e - (j + 1))).toInt64)) - (97 : Int64)) + (1 : Int64))), (5, .int ((kI e j) + -1))]) C dX7_lettersFrom_42 rfl rfl (by decide) [1, 2, 3, 4, 0] rfl ?_
        refine tt_goto (tgt := 7) C dX7_lettersFrom_45 (by decide) ?_
        refine tt_to (lv1 := [(0, .ref (eA E 6 0)), (1, .int (nI s)), (2, .int (nI e)), (3, .long (M_ltA f e (j + 1))), (5, .int (kI e (j + 1)))]) rfl rfl (by rw [← kI_s]; rfl) rfl (ih (j + 1) (by omega) (by omega))

set_option maxHeartbeats 4000000 in
set_option maxRecDepth 100000 in
theorem c_X7_lettersFrom_S (E : EN) (u : U3) (r : R1) (h : HB) (f : Nat → Int32) (s : Nat) (e : Nat) (fb : h 5 = f) (he : e ≤ 150) (hse : s ≤ e) (h10 : e - s < 10) : CT E yX7_lettersFrom wsX7_lettersFrom (rmT 0 0) [.ref (eA E 6 0), .int (nI s), .int (nI e)] (ub u 6 h) r (some (.long (M_ltA f e (e - s)))) (ub u 6 h) r := by
  refine CT_ofL (cc := cX7_lettersFrom) (nL := 6) (own := RX7) (by decide) rfl rfl (Nat.le_of_ble_eq_true rfl) (fun F C K => ?_)
  refine tt_to (lv1 := [(0, .ref (eA E 6 0)), (1, .int (nI s)), (2, .int (nI e))]) rfl rfl rfl rfl ?_
  refine tt_lconst (v := 0) C dX7_lettersFrom_0 (by decide) ?_
  refine tt_lstore_n (lv' := [(0, .ref (eA E 6 0)), (1, .int (nI s)), (2, .int (nI e)), (3, .long (0 : Int64))]) C dX7_lettersFrom_1 rfl (by decide) [1, 2, 3, 0] rfl ?_
  refine tt_iload_n C dX7_lettersFrom_2 rfl 2 rfl ?_
  refine tt_iconst (v := nI 1) C dX7_lettersFrom_3 (by decide) ?_
  refine tt_isub (v := kI e 0) C dX7_lettersFrom_4 rfl ?_
  refine tt_istore (lv' := [(0, .ref (eA E 6 0)), (1, .int (nI s)), (2, .int (nI e)), (3, .long (0 : Int64)), (5, .int (kI e 0))]) C dX7_lettersFrom_5 (by decide) [1, 2, 3, 4, 0] rfl ?_
  exact l_lt E u r h f s e fb he hse h10 F C K (e - s + 1) 0 (by omega) (by omega)

set_option maxHeartbeats 4000000 in
set_option maxRecDepth 100000 in
theorem c_X7_lettersFrom_L (E : EN) (u : U3) (r : R1) (h : HB) (f : Nat → Int32) (s : Nat) (e : Nat) (fb : h 5 = f) (he : e ≤ 150) (hse : s ≤ e) (h10 : ¬ e - s < 10) : CT E yX7_lettersFrom wsX7_lettersFrom (rmT 0 0) [.ref (eA E 6 0), .int (nI s), .int (nI e)] (ub u 6 h) r (some (.long (0))) (ub u 6 h) r := by
  refine CT_ofL (cc := cX7_lettersFrom) (nL := 6) (own := RX7) (by decide) rfl rfl (Nat.le_of_ble_eq_true rfl) (fun F C K => ?_)
  refine tt_to (lv1 := [(0, .ref (eA E 6 0)), (1, .int (nI s)), (2, .int (nI e))]) rfl rfl rfl rfl ?_
  refine tt_lconst (v := 0) C dX7_lettersFrom_0 (by decide) ?_
  refine tt_lstore_n (lv' := [(0, .ref (eA E 6 0)), (1, .int (nI s)), (2, .int (nI e)), (3, .long (0 : Int64))]) C dX7_lettersFrom_1 rfl (by decide) [1, 2, 3, 0] rfl ?_
  refine tt_iload_n C dX7_lettersFrom_2 rfl 2 rfl ?_
  refine tt_iconst (v := nI 1) C dX7_lettersFrom_3 (by decide) ?_
  refine tt_isub (v := nI (e - 1)) C dX7_lettersFrom_4 (pk_sub (by omega)) ?_
  refine tt_istore (lv' := [(0, .ref (eA E 6 0)), (1, .int (nI s)), (2, .int (nI e)), (3, .long (0 : Int64)), (5, .int (nI (e - 1)))]) C dX7_lettersFrom_5 (by decide) [1, 2, 3, 4, 0] rfl ?_
  refine tt_iload C dX7_lettersFrom_7 4 rfl ?_
  refine tt_iload_n C dX7_lettersFrom_9 rfl 1 rfl ?_
  refine tt_icmp_lt C (tgt := 48) dX7_lettersFrom_10 (by decide) (nI_ltI (by omega) (by omega)) (fun c_1 => ?_) (fun c_1 => ?_)
  · skip
    refine tt_lload_n C dX7_lettersFrom_48 rfl 3 rfl ?_
    exact tt_lret K dX7_lettersFrom_49 (by rfl) (by first | rfl | (simp [c_1]; done) | (refine congrArg _ ?_; grind [])) rfl
  · skip
    refine tt_iload_n C dX7_lettersFrom_13 rfl 2 rfl ?_
    refine tt_iload_n C dX7_lettersFrom_14 rfl 1 rfl ?_
    refine tt_isub (v := nI (e - s)) C dX7_lettersFrom_15 (pk_sub (by omega)) ?_
    refine tt_bipush (v := nI 10) C dX7_lettersFrom_16 (by decide) ?_
    refine tt_icmp_ge C (tgt := 48) dX7_lettersFrom_18 (by decide) (nI_leI (by omega) (by omega)) (fun c_2 => ?_) (fun c_2 => ?_)
    · skip
      refine tt_lload_n C dX7_lettersFrom_48 rfl 3 rfl ?_
      exact tt_lret K dX7_lettersFrom_49 (by rfl) (by first | rfl | (simp [c_1, c_2]; done) | (refine congrArg _ ?_; grind [])) rfl
    · skip
      exact absurd c_2 (by omega)

def M_wd (a b c d e f : Int32) : Int64 := ((((f.toInt64 * 32 + e.toInt64) * 32 + d.toInt64) * 32 + c.toInt64) * 32 + b.toInt64) * 32 + a.toInt64

set_option maxHeartbeats 4000000 in
set_option maxRecDepth 100000 in
theorem c_X7_word (E : EN) (u : U3) (r : R1) (a : Int32) (b : Int32) (c : Int32) (d : Int32) (e : Int32) (g : Int32)  : CT E yX7_word wsX7_word (rmT 0 0) [.int a, .int b, .int c, .int d, .int e, .int g] (u) r (some (.long (M_wd a b c d e g))) (u) r := by
  refine CT_ofL (cc := cX7_word) (nL := 6) (own := RX7) (by decide) rfl rfl (Nat.le_of_ble_eq_true rfl) (fun F C K => ?_)
  refine tt_to (lv1 := [(0, .int a), (1, .int b), (2, .int c), (3, .int d), (4, .int e), (5, .int g)]) rfl rfl rfl rfl ?_
  refine tt_iload C dX7_word_0 5 rfl ?_
  refine tt_i2l C dX7_word_2 rfl ?_
  refine tt_ldc2 (v := 32) C (List.mem_of_getElem? (i := 1) (by decide +kernel)) dX7_word_3 ?_
  refine tt_lmul C dX7_word_6 rfl ?_
  refine tt_iload C dX7_word_7 4 rfl ?_
  refine tt_i2l C dX7_word_9 rfl ?_
  refine tt_ladd C dX7_word_10 rfl ?_
  refine tt_ldc2 (v := 32) C (List.mem_of_getElem? (i := 1) (by decide +kernel)) dX7_word_11 ?_
  refine tt_lmul C dX7_word_14 rfl ?_
  refine tt_iload_n C dX7_word_15 rfl 3 rfl ?_
  refine tt_i2l C dX7_word_16 rfl ?_
  refine tt_ladd C dX7_word_17 rfl ?_
  refine tt_ldc2 (v := 32) C (List.mem_of_getElem? (i := 1) (by decide +kernel)) dX7_word_18 ?_
  refine tt_lmul C dX7_word_21 rfl ?_
  refine tt_iload_n C dX7_word_22 rfl 2 rfl ?_
  refine tt_i2l C dX7_word_23 rfl ?_
  refine tt_ladd C dX7_word_24 rfl ?_
  refine tt_ldc2 (v := 32) C (List.mem_of_getElem? (i := 1) (by decide +kernel)) dX7_word_25 ?_
  refine tt_lmul C dX7_word_28 rfl ?_
  refine tt_iload_n C dX7_word_29 rfl 1 rfl ?_
  refine tt_i2l C dX7_word_30 rfl ?_
  refine tt_ladd C dX7_word_31 rfl ?_
  refine tt_ldc2 (v := 32) C (List.mem_of_getElem? (i := 1) (by decide +kernel)) dX7_word_32 ?_
  refine tt_lmul C dX7_word_35 rfl ?_
  refine tt_iload_n C dX7_word_36 rfl 0 rfl ?_
  refine tt_i2l C dX7_word_37 rfl ?_
  refine tt_ladd C dX7_word_38 rfl ?_
  exact tt_lret K dX7_word_39 (by rfl) rfl rfl
