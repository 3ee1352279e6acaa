theorem nx59 {f : Nat → Int32} {L s : Nat} : M_nx f L s = nI 59 ↔ (s < L ∧ f s = nI 59) := by
  unfold M_nx
  by_cases q : s < L
  · rw [if_pos q]; exact ⟨fun z => ⟨q, z⟩, fun z => z.2⟩
  · rw [if_neg q]; exact ⟨fun z => absurd z (by decide), fun z => absurd z.1 q⟩
theorem M_w_v {c : Prop} [Decidable c] {k : Nat} (hk : k < 8) {x : Int32} (hx : x = -1 ∨ vI x 8) : (if c then nI k else x) = -1 ∨ vI (if c then nI k else x) 8 := by
  split
  · exact Or.inr (vI_nI hk)
  · exact hx
theorem M_wo_v (f : Nat → Int32) (s e : Nat) : M_wo f s e = -1 ∨ vI (M_wo f s e) 8 :=
  M_w_v (by decide) (M_w_v (by decide) (M_w_v (by decide) (M_w_v (by decide) (M_w_v (by decide) (M_w_v (by decide) (M_w_v (by decide) (M_w_v (by decide) (Or.inl rfl))))))))
theorem M_wo_e (f : Nat → Int32) (a : Nat) : M_wo f a a = -1 := by
  have e1 : M_lt f a a = 0 := by unfold M_lt; rw [Nat.sub_self]; rfl
  unfold M_wo
  rw [e1]
  decide
def M_nH (f : Nat → Int32) (L q : Nat) : Nat → HB → Nat → Nat → HB
  | 0, h, _, _ => h
  | n + 1, h, p, a => if numR f L a then M_nH f L q n (M_numH h q p f L a) (p + 1) (numA f L a) else M_numH h q p f L a
def M_endNH (f : Nat → Int32) (L q n : Nat) (h : HB) (p a : Nat) : HB := if nR f L n a = true then (if endR f L (nA f L n a) then up2 (up2 (M_nH f L q n h p a) 0 4 (nI (skp f L (nA f L n a) + 1))) 0 2 (nI (q + 1)) else up2 (M_nH f L q n h p a) 0 4 (nI (skp f L (nA f L n a)))) else M_nH f L q n h p a
theorem M_numH_n {h : HB} {q p : Nat} {f : Nat → Int32} {L a k j : Nat} (hk : ¬ (k = 0 ∧ j = 4) ∧ k ≠ 8 ∧ ¬ (k = 7 ∧ j = q + 1)) : M_numH h q p f L a k j = h k j := by
  unfold M_numH
  split
  · exact up2_n hk.1
  · rw [up2_n hk.2.2, up2_n (fun z => hk.2.1 z.1), up2_n hk.1]
theorem M_numH_row {h : HB} {q p : Nat} {f : Nat → Int32} {L a k : Nat} (hk : k ≠ 0 ∧ k ≠ 8 ∧ k ≠ 7) : M_numH h q p f L a k = h k := by
  funext j
  exact M_numH_n ⟨fun z => hk.1 z.1, hk.2.1, fun z => hk.2.2 z.1⟩
theorem M_numH_at {h : HB} {q p : Nat} {f : Nat → Int32} {L a : Nat} : M_numH h q p f L a 0 4 = nI (numA f L a) := by
  unfold M_numH
  split
  · exact up2_s _ _ _ _
  · rw [up2_n (by simp), up2_n (by simp), up2_s]
theorem M_numH_p {h : HB} {q p : Nat} {f : Nat → Int32} {L a : Nat} (hc : fig f L (skp f L a)) : M_numH h q p f L a 7 (q + 1) = nI (p + 1) := by
  unfold M_numH
  rw [if_neg (fun z => z hc), up2_s]
theorem numA_gt {f : Nat → Int32} {L a : Nat} (hc : fig f L (skp f L a)) : a + 1 ≤ numA f L a := by
  have := skp_ge f L a
  unfold numA
  rw [if_neg (fun z => z hc)]
  split <;> omega
theorem due_M : ∀ w, w < 8 → M_due w ≤ 4 := by decide

set_option maxHeartbeats 4000000 in
set_option maxRecDepth 100000 in
theorem l_scanM (E : EN) (u : U3) (r : R1) (h : HB) (f : Nat → Int32) (L s : Nat) (fb : h 5 = f) (fl : h 0 1 = nI L) (hL : L ≤ 150) (F : FX) (C : Cx E F cX7_readOrder 4 RX7 wsX7_readOrder (rmT 3 64)) : ∀ (n a : Nat), a ≤ L → L + 1 ≤ a + n → T E F 4 (ub u 6 (up2 h 0 4 (nI (lw f L n a)))) r 48 [(0, .ref (eA E 6 0)), (1, .int (nI s))] [] → T E F 4 (ub u 6 (up2 h 0 4 (nI a))) r 5 [(0, .ref (eA E 6 0)), (1, .int (nI s))] [] := by
  have hin7 : ∀ w ∈ u_ws RX7 TX7 15, w ∈ wsX7_readOrder := by decide +kernel
  intro n
  induction n with
  | zero => intro a h1 h2; exact absurd h2 (by omega)
  | succ n ih =>
    intro a h1 h2 K
    generalize ej : up2 h 0 4 (nI a) = hj
    have fl2 : hj 0 1 = nI L := by rw [← ej, up2_n (by decide)]; exact fl
    have fa : hj 0 4 = nI a := by rw [← ej, up2_s]
    have fb2 : hj 5 = f := by rw [← ej, up2_row (by decide)]; exact fb
    refine tt_aload_n C dX7_readOrder_5 rfl 0 rfl ?_
    refine tt_getI (v := nI a) C oM0 rfl hin7 14 (by decide) (List.mem_of_getElem? (i := 1) (by decide +kernel)) rfl (ub_v.trans fa) dX7_readOrder_6 ?_
    refine tt_aload_n C dX7_readOrder_9 rfl 0 rfl ?_
    refine tt_getI (v := nI L) C oM0 rfl hin7 6 (by decide) (List.mem_of_getElem? (i := 2) (by decide +kernel)) rfl (ub_v.trans fl2) dX7_readOrder_10 ?_
    refine tt_icmp_ge C (tgt := 48) dX7_readOrder_13 (by decide) (nI_leI (by omega) (by omega)) (fun c_201 => ?_) (fun c_201 => ?_)
    · skip
      have e9 : lw f L (n + 1) a = a := by rw [lw, if_neg (fun z => absurd z.1 (by omega))]
      rw [e9] at K; rw [← ej]; exact K
    · skip
      refine tt_aload_n C dX7_readOrder_16 rfl 0 rfl ?_
      refine tt_get (v := .ref (eA E 6 5)) C oM0 rfl hin7 5 (by decide) (List.mem_of_getElem? (i := 3) (by decide +kernel)) rfl dX7_readOrder_17 ?_
      refine tt_aload_n C dX7_readOrder_20 rfl 0 rfl ?_
      refine tt_getI (v := nI a) C oM0 rfl hin7 14 (by decide) (List.mem_of_getElem? (i := 1) (by decide +kernel)) rfl (ub_v.trans fa) dX7_readOrder_21 ?_
      refine tt_ialdB (v := f a) C aM5 a rfl (by omega) (congrFun fb2 a) dX7_readOrder_24 ?_
      refine tt_bipush (v := nI 97) C dX7_readOrder_25 (by decide) ?_
      refine tt_bipush (v := nI 122) C dX7_readOrder_27 (by decide) ?_
      refine tt_cSI C (c_X7_in E (ub u 6 hj) r (f a) (nI 97) (nI 122)) gX7_readOrder_X7_in rfl ⟨rfl, rfl⟩ 3 (by decide +kernel) ⟨Nat.le_of_ble_eq_true rfl, Nat.le_of_ble_eq_true rfl⟩ rfl (Nat.le_of_ble_eq_true rfl) dX7_readOrder_29 rfl ?_
      refine tt_if_eqB C (tgt := 48) dX7_readOrder_32 (by decide) (fun c_202 => ?_) (fun c_202 => ?_)
      · skip
        have e9 : lw f L (n + 1) a = a := by rw [lw, if_neg (fun z => absurd z.2 c_202)]
        rw [e9] at K; rw [← ej]; exact K
      · skip
        refine tt_aload_n C dX7_readOrder_35 rfl 0 rfl ?_
        refine tt_dup C dX7_readOrder_36 rfl ?_
        refine tt_getI (v := nI a) C oM0 rfl hin7 14 (by decide) (List.mem_of_getElem? (i := 1) (by decide +kernel)) rfl (ub_v.trans fa) dX7_readOrder_37 ?_
        refine tt_iconst (v := nI 1) C dX7_readOrder_40 (by decide) ?_
        refine tt_iadd (v := nI (a + 1)) C dX7_readOrder_41 (nI_add _ _) ?_
        refine tt_putIB C fM0_4 rfl hin7 tyX7 tyX7_ok nmX7 (by decide) (List.mem_of_getElem? (i := 1) (by decide +kernel)) (by decide +kernel) (by decide +kernel) dX7_readOrder_42 ?_
        generalize e_204 : up2 hj 0 4 (nI (a + 1)) = h_203
        refine tt_goto (tgt := 5) C dX7_readOrder_45 (by decide) ?_
        rw [← e_204, ← ej, up2_up2]
        refine ih (a + 1) (by omega) (by omega) ?_
        have e9 : lw f L (n + 1) a = lw f L n (a + 1) := by rw [lw, if_pos ⟨(by omega), c_202⟩]
        rw [← e9]; exact K

set_option maxHeartbeats 4000000 in
set_option maxRecDepth 100000 in
theorem l_mnums (E : EN) (u : U3) (r : R1) (f : Nat → Int32) (L q s w : Nat) (hL : L ≤ 150) (hq : q < 150) (hw : w < 8) (F : FX) (C : Cx E F cX7_readOrder 4 RX7 wsX7_readOrder (rmT 3 64)) : ∀ (n k : Nat) (h : HB) (p a : Nat), k + n = M_due w → h 5 = f → h 0 1 = nI L → h 0 4 = nI a → h 0 2 = nI q → h 7 (q + 1) = nI p → a ≤ L → p + 1 ≤ a → RtI E F cX7_readOrder (b2i (nR f L n a = true ∧ endR f L (nA f L n a))) (ub u 6 (M_endNH f L q n h p a)) r → T E F 4 (ub u 6 h) r 102 [(0, .ref (eA E 6 0)), (1, .int (nI s)), (2, .int (nI w)), (3, .int (nI k))] [] := by
  have hin7 : ∀ w ∈ u_ws RX7 TX7 15, w ∈ wsX7_readOrder := by decide +kernel
  have hdu := due_M w hw
  intro n
  induction n with
  | zero =>
    intro k h p a h1 fb fl fa fq fp ha hpa K
    have hs2 := skp_le f L a ha
    refine tt_iload_n C dX7_readOrder_102 rfl 3 rfl ?_
    refine tt_iload_n C dX7_readOrder_103 rfl 2 rfl ?_
    refine tt_cSI C (c_X7_wantsOf E (ub u 6 h) r w (by first | assumption | omega)) gX7_readOrder_X7_wantsOf rfl ⟨rfl, rfl⟩ 1 (by decide +kernel) ⟨Nat.le_of_ble_eq_true rfl, Nat.le_of_ble_eq_true rfl⟩ rfl (Nat.le_of_ble_eq_true rfl) dX7_readOrder_104 rfl ?_
    refine tt_icmp_ge C (tgt := 125) dX7_readOrder_107 (by decide) (nI_leI (by omega) (by omega)) (fun c_501 => ?_) (fun c_501 => ?_)
    · skip
      refine tt_aload_n C dX7_readOrder_125 rfl 0 rfl ?_
      refine tt_cVI C (c_X7_next E u r h f L a fb fl fa (by first | assumption | omega) (by first | assumption | omega)) gX7_readOrder_X7_next rfl ⟨rfl, rfl⟩ 0 (by decide +kernel) ⟨Nat.le_of_ble_eq_true rfl, Nat.le_of_ble_eq_true rfl⟩ rfl oM0 rfl (Nat.le_of_ble_eq_true rfl) dX7_readOrder_126 rfl ?_
      generalize e_503 : up2 h 0 4 (nI (skp f L a)) = h_502
      refine tt_bipush (v := nI 59) C dX7_readOrder_129 (by decide) ?_
      refine tt_icmp_eq C (tgt := 136) dX7_readOrder_131 (by decide) nx59 (fun c_504 => ?_) (fun c_504 => ?_)
      · skip
        refine tt_aload_n C dX7_readOrder_136 rfl 0 rfl ?_
        refine tt_dup C dX7_readOrder_137 rfl ?_
        refine tt_getI (v := nI (skp f L a)) C oM0 rfl hin7 14 (by decide) (List.mem_of_getElem? (i := 1) (by decide +kernel)) rfl (ub_v.trans (by rw [← e_503]; exact up2_s _ _ _ _)) dX7_readOrder_138 ?_
        refine tt_iconst (v := nI 1) C dX7_readOrder_141 (by decide) ?_
        refine tt_iadd (v := nI (skp f L a + 1)) C dX7_readOrder_142 (nI_add _ _) ?_
        refine tt_putIB C fM0_4 rfl hin7 tyX7 tyX7_ok nmX7 (by decide) (List.mem_of_getElem? (i := 1) (by decide +kernel)) (by decide +kernel) (by decide +kernel) dX7_readOrder_143 ?_
        generalize e_506 : up2 h_502 0 4 (nI (skp f L a + 1)) = h_505
        refine tt_aload_n C dX7_readOrder_146 rfl 0 rfl ?_
        refine tt_dup C dX7_readOrder_147 rfl ?_
        refine tt_getI (v := nI q) C oM0 rfl hin7 10 (by decide) (List.mem_of_getElem? (i := 5) (by decide +kernel)) rfl (ub_v.trans (by rw [← e_506, up2_n (fun z => absurd z.2 (by decide)), ← e_503, up2_n (fun z => absurd z.2 (by decide))]; exact fq)) dX7_readOrder_148 ?_
        refine tt_iconst (v := nI 1) C dX7_readOrder_151 (by decide) ?_
        refine tt_iadd (v := nI (q + 1)) C dX7_readOrder_152 (nI_add _ _) ?_
        refine tt_putIB C fM0_2 rfl hin7 tyX7 tyX7_ok nmX7 (by decide) (List.mem_of_getElem? (i := 5) (by decide +kernel)) (by decide +kernel) (by decide +kernel) dX7_readOrder_153 ?_
        generalize e_508 : up2 h_505 0 2 (nI (q + 1)) = h_507
        refine tt_iconst (v := nI 1) C dX7_readOrder_156 (by decide) ?_
        exact tt_iret K dX7_readOrder_157 (by subst e_508; subst e_506; subst e_503; exact b1_t ⟨rfl, c_504⟩) (by subst e_508; subst e_506; subst e_503; refine congrArg _ ?_; unfold M_endNH; rw [if_pos (show nR f L 0 a = true from rfl)]; first | (rw [if_pos (show endR f L (nA f L 0 a) from by assumption), up2_up2]; rfl) | (rw [if_neg (show ¬ endR f L (nA f L 0 a) from by assumption)]; rfl)) rfl
      · skip
        refine tt_iconst (v := nI 0) C dX7_readOrder_134 (by decide) ?_
        exact tt_iret K dX7_readOrder_135 (by subst e_503; exact b1_f (fun z => c_504 z.2)) (by subst e_503; refine congrArg _ ?_; unfold M_endNH; rw [if_pos (show nR f L 0 a = true from rfl)]; first | (rw [if_pos (show endR f L (nA f L 0 a) from by assumption), up2_up2]; rfl) | (rw [if_neg (show ¬ endR f L (nA f L 0 a) from by assumption)]; rfl)) rfl
    · skip
      exact absurd (by omega) c_501
  | succ n ih =>
    intro k h p a h1 fb fl fa fq fp ha hpa K
    refine tt_iload_n C dX7_readOrder_102 rfl 3 rfl ?_
    refine tt_iload_n C dX7_readOrder_103 rfl 2 rfl ?_
    refine tt_cSI C (c_X7_wantsOf E (ub u 6 h) r w (by first | assumption | omega)) gX7_readOrder_X7_wantsOf rfl ⟨rfl, rfl⟩ 1 (by decide +kernel) ⟨Nat.le_of_ble_eq_true rfl, Nat.le_of_ble_eq_true rfl⟩ rfl (Nat.le_of_ble_eq_true rfl) dX7_readOrder_104 rfl ?_
    refine tt_icmp_ge C (tgt := 125) dX7_readOrder_107 (by decide) (nI_leI (by omega) (by omega)) (fun c_601 => ?_) (fun c_601 => ?_)
    · skip
      exact absurd c_601 (by omega)
    · skip
      refine tt_aload_n C dX7_readOrder_110 rfl 0 rfl ?_
      refine tt_cVI C (c_X7_readNumber E u r h f L a q p fb fl fa (by first | assumption | omega) (by first | assumption | omega) fq (by first | assumption | omega) (by first | assumption | omega) (by first | assumption | omega)) gX7_readOrder_X7_readNumber rfl ⟨rfl, rfl⟩ 0 (by decide +kernel) ⟨Nat.le_of_ble_eq_true rfl, Nat.le_of_ble_eq_true rfl⟩ rfl oM0 rfl (Nat.le_of_ble_eq_true rfl) dX7_readOrder_111 rfl ?_
      generalize e_603 : M_numH h q p f L a = h_602
      refine tt_if_neB C (tgt := 119) dX7_readOrder_114 (by decide) (fun c_604 => ?_) (fun c_604 => ?_)
      · skip
        refine tt_iinc (p := 3) (v := nI (k + 1)) (lv' := [(0, .ref (eA E 6 0)), (1, .int (nI s)), (2, .int (nI w)), (3, .int (nI (k + 1)))]) C dX7_readOrder_119 rfl (by rw [show Int32.ofInt 1 = nI 1 from by decide]; exact nI_add _ _) (by decide) [1, 2, 3, 0] rfl ?_
        refine tt_goto (tgt := 102) C dX7_readOrder_122 (by decide) ?_
        subst e_603
        have e1 : nR f L (n + 1) a = nR f L n (numA f L a) := by rw [nR, if_pos c_604]
        have e2 : nA f L (n + 1) a = nA f L n (numA f L a) := by rw [nA, if_pos c_604]
        have e3 : M_nH f L q (n + 1) h p a = M_nH f L q n (M_numH h q p f L a) (p + 1) (numA f L a) := by rw [M_nH, if_pos c_604]
        unfold M_endNH at K; rw [e1, e2, e3] at K
        have h9 := numA_gt c_604.1
        exact ih (k + 1) _ (p + 1) (numA f L a) (by omega) (by rw [M_numH_row (by decide)]; exact fb) (by rw [M_numH_n (by simp)]; exact fl) M_numH_at (by rw [M_numH_n (by simp)]; exact fq) (M_numH_p c_604.1) (numA_le f L a ha) (by omega) K
      · skip
        refine tt_iconst (v := nI 0) C dX7_readOrder_117 (by decide) ?_
        exact tt_iret K dX7_readOrder_118 (by subst e_603; exact b1_f (fun z => by rw [nR, if_neg c_604] at z; exact Bool.noConfusion z.1)) (by subst e_603; refine congrArg _ ?_; unfold M_endNH; rw [if_neg (show ¬ nR f L (n + 1) a = true from by rw [nR, if_neg (by assumption)]; exact Bool.noConfusion), M_nH, if_neg (by assumption)]) rfl
