def M_oW (f : Nat → Int32) (L a : Nat) : Int32 := M_wo f a (lw f L 152 a)
abbrev M_oD (f : Nat → Int32) (L a : Nat) : Nat := M_due (ix (M_oW f L a))
abbrev M_ordR (f : Nat → Int32) (L a : Nat) : Prop := ¬ M_oW f L a = -1 ∧ nR f L (M_oD f L a) (lw f L 152 a) = true ∧ endR f L (nA f L (M_oD f L a) (lw f L 152 a))
def M_ordA (f : Nat → Int32) (L a : Nat) : Nat := if M_oW f L a = -1 then a else if nR f L (M_oD f L a) (lw f L 152 a) = true then endA f L (nA f L (M_oD f L a) (lw f L 152 a)) else nA f L (M_oD f L a) (lw f L 152 a)
abbrev M_ord0 (h : HB) (q p : Nat) (f : Nat → Int32) (L a : Nat) : HB := up2 (up2 (up2 h 0 4 (nI (lw f L 152 a))) 6 q (M_oW f L a)) 7 (q + 1) (nI p)
def M_ordH (h : HB) (q p : Nat) (f : Nat → Int32) (L a : Nat) : HB := if M_oW f L a = -1 then up2 h 0 4 (nI a) else M_endNH f L q (M_oD f L a) (M_ord0 h q p f L a) p (lw f L 152 a)

theorem M_nH_n (f : Nat → Int32) (L q : Nat) : ∀ n (h : HB) p a {k j : Nat}, (¬ (k = 0 ∧ j = 4) ∧ k ≠ 8 ∧ ¬ (k = 7 ∧ j = q + 1)) → M_nH f L q n h p a k j = h k j
  | 0, h, p, a, k, j, _ => rfl
  | n + 1, h, p, a, k, j, hk => by
    unfold M_nH
    split
    · rw [M_nH_n f L q n _ _ _ hk, M_numH_n hk]
    · exact M_numH_n hk
theorem M_nH_at (f : Nat → Int32) (L q : Nat) : ∀ n (h : HB) p a, h 0 4 = nI a → M_nH f L q n h p a 0 4 = nI (nA f L n a)
  | 0, h, p, a, e => e
  | n + 1, h, p, a, e => by
    unfold M_nH nA
    split
    · exact M_nH_at f L q n _ _ _ M_numH_at
    · exact M_numH_at
theorem M_nH_p (f : Nat → Int32) (L q : Nat) : ∀ n (h : HB) p a, nR f L n a = true → h 7 (q + 1) = nI p → M_nH f L q n h p a 7 (q + 1) = nI (p + n)
  | 0, h, p, a, _, e => e
  | n + 1, h, p, a, hR, e => by
    by_cases c : numR f L a
    · rw [nR, if_pos c] at hR
      rw [M_nH, if_pos c, M_nH_p f L q n _ _ _ hR (M_numH_p c.1), show p + 1 + n = p + (n + 1) from by omega]
    · rw [nR, if_neg c] at hR
      exact Bool.noConfusion hR
theorem nA_gt (f : Nat → Int32) (L : Nat) : ∀ n a, nR f L n a = true → a + n ≤ nA f L n a
  | 0, a, _ => Nat.le_refl a
  | n + 1, a, hR => by
    by_cases c : numR f L a
    · rw [nR, if_pos c] at hR
      rw [nA, if_pos c]
      have h1 := numA_gt c.1
      have h2 := nA_gt f L n _ hR
      omega
    · rw [nR, if_neg c] at hR
      exact Bool.noConfusion hR
theorem M_endNH_n {f : Nat → Int32} {L q n : Nat} {h : HB} {p a k j : Nat} (hk : ¬ (k = 0 ∧ j = 4) ∧ k ≠ 8 ∧ ¬ (k = 7 ∧ j = q + 1) ∧ ¬ (k = 0 ∧ j = 2)) : M_endNH f L q n h p a k j = h k j := by
  unfold M_endNH
  repeat' split
  · rw [up2_n hk.2.2.2, up2_n hk.1, M_nH_n _ _ _ _ _ _ _ ⟨hk.1, hk.2.1, hk.2.2.1⟩]
  · rw [up2_n hk.1, M_nH_n _ _ _ _ _ _ _ ⟨hk.1, hk.2.1, hk.2.2.1⟩]
  · rw [M_nH_n _ _ _ _ _ _ _ ⟨hk.1, hk.2.1, hk.2.2.1⟩]
theorem M_ordH_n {h : HB} {q p : Nat} {f : Nat → Int32} {L a k j : Nat} (hk : ¬ (k = 0 ∧ j = 4) ∧ k ≠ 8 ∧ k ≠ 7 ∧ k ≠ 6 ∧ ¬ (k = 0 ∧ j = 2)) : M_ordH h q p f L a k j = h k j := by
  unfold M_ordH
  split
  · exact up2_n hk.1
  · rw [M_endNH_n ⟨hk.1, hk.2.1, fun z => hk.2.2.1 z.1, hk.2.2.2.2⟩, M_ord0, up2_n (fun z => hk.2.2.1 z.1), up2_n (fun z => hk.2.2.2.1 z.1), up2_n hk.1]
theorem M_ordH_row {h : HB} {q p : Nat} {f : Nat → Int32} {L a k : Nat} (hk : k ≠ 0 ∧ k ≠ 8 ∧ k ≠ 7 ∧ k ≠ 6) : M_ordH h q p f L a k = h k := by
  funext j
  exact M_ordH_n ⟨fun z => hk.1 z.1, hk.2.1, hk.2.2.1, hk.2.2.2, fun z => hk.1 z.1⟩
theorem M_ord0_at {h : HB} {q p : Nat} {f : Nat → Int32} {L a : Nat} : M_ord0 h q p f L a 0 4 = nI (lw f L 152 a) := by
  rw [M_ord0, up2_n (by simp), up2_n (by simp), up2_s]
theorem M_ordH_at {h : HB} {q p : Nat} {f : Nat → Int32} {L a : Nat} : M_ordH h q p f L a 0 4 = nI (M_ordA f L a) := by
  unfold M_ordH M_ordA
  split
  · exact up2_s _ _ _ _
  · unfold M_endNH endA
    split
    · split
      · rw [up2_n (by simp), up2_s]
      · rw [up2_s]
    · exact M_nH_at f L q _ _ _ _ M_ord0_at
theorem M_ordH_q {h : HB} {q p : Nat} {f : Nat → Int32} {L a : Nat} (hR : M_ordR f L a) : M_ordH h q p f L a 0 2 = nI (q + 1) := by
  unfold M_ordH
  rw [if_neg hR.1]
  unfold M_endNH
  rw [if_pos hR.2.1, if_pos hR.2.2, up2_s]
theorem M_ordH_p {h : HB} {q p : Nat} {f : Nat → Int32} {L a : Nat} (hR : M_ordR f L a) : M_ordH h q p f L a 7 (q + 1) = nI (p + M_oD f L a) := by
  unfold M_ordH
  rw [if_neg hR.1]
  unfold M_endNH
  rw [if_pos hR.2.1, if_pos hR.2.2, up2_n (by simp), up2_n (by simp)]
  exact M_nH_p f L q _ _ _ _ hR.2.1 (up2_s _ _ _ _)
theorem M_ordA_le {f : Nat → Int32} {L a : Nat} (h : a ≤ L) : M_ordA f L a ≤ L := by
  have h2 := nA_le f L (M_oD f L a) _ (lw_le f L 152 a h)
  unfold M_ordA
  repeat' split
  · exact h
  · exact endA_le _ _ _ h2
  · exact h2
theorem M_ordA_gt {f : Nat → Int32} {L a : Nat} (hR : M_ordR f L a) : a + M_oD f L a + 2 ≤ M_ordA f L a := by
  have h1 := lw_ge f L 152 a
  have hne : lw f L 152 a ≠ a := fun z => hR.1 (by unfold M_oW; rw [z]; exact M_wo_e f a)
  have h2 := nA_gt f L _ _ hR.2.1
  have h3 := skp_ge f L (nA f L (M_oD f L a) (lw f L 152 a))
  unfold M_ordA endA
  rw [if_neg hR.1, if_pos hR.2.1, if_pos hR.2.2]
  omega
def M_rt (f : Nat → Int32) (L : Nat) : Nat → HB → Nat → Nat → Nat → Int32 × HB
  | 0, h, _, _, _ => (-1, h)
  | n + 1, h, q, p, a => if ¬ a < L then (if q = 0 then nI L else -1, h) else if M_ordR f L a then M_rt f L n (up2 (M_ordH h q p f L a) 0 4 (nI (skp f L (M_ordA f L a)))) (q + 1) (p + M_oD f L a) (skp f L (M_ordA f L a)) else (nI (M_ordA f L a), M_ordH h q p f L a)
def M_rt0 (h : HB) (f : Nat → Int32) (L : Nat) : HB := up2 (up2 (up2 h 0 2 (nI 0)) 7 0 (nI 0)) 0 4 (nI (skp f L 0))
def M_rtF (h : HB) (f : Nat → Int32) (L : Nat) : Int32 × HB := M_rt f L 152 (M_rt0 h f L) 0 0 (skp f L 0)

set_option maxHeartbeats 4000000 in
set_option maxRecDepth 100000 in
theorem c_X7_readOrder (E : EN) (u : U3) (r : R1) (h : HB) (f : Nat → Int32) (L : Nat) (a : Nat) (q : Nat) (p : Nat) (fb : h 5 = f) (fl : h 0 1 = nI L) (fa : h 0 4 = nI a) (hL : L ≤ 150) (ha : a ≤ L) (fq : h 0 2 = nI q) (fp : h 7 q = nI p) (hal : a < L) (hqa : q ≤ a) (hpa : p ≤ a) : CT E yX7_readOrder wsX7_readOrder (rmT 3 64) [.ref (eA E 6 0)] (ub u 6 h) r (some (.int (b2i (M_ordR f L a)))) (ub u 6 (M_ordH h q p f L a)) r := by
  refine CT_ofI (cc := cX7_readOrder) (nL := 4) (own := RX7) (by decide) rfl rfl (b2i_z _) (Nat.le_of_ble_eq_true rfl) (fun F C K => ?_)
  have hin7 : ∀ w ∈ u_ws RX7 TX7 15, w ∈ wsX7_readOrder := by decide +kernel
  refine tt_to (lv1 := [(0, .ref (eA E 6 0))]) rfl rfl rfl rfl ?_
  refine tt_aload_n C dX7_readOrder_0 rfl 0 rfl ?_
  refine tt_getI (v := nI a) C oM0 rfl hin7 14 (by decide) (List.mem_of_getElem? (i := 1) (by decide +kernel)) rfl (ub_v.trans fa) dX7_readOrder_1 ?_
  refine tt_istore_n (lv' := [(0, .ref (eA E 6 0)), (1, .int (nI a))]) C dX7_readOrder_4 rfl (by decide) [1, 0] rfl ?_
  have hw1 := lw_ge f L 152 a
  have hw2 := lw_le f L 152 a ha
  rw [← up2_same fa]
  refine l_scanM E u r h f L a fb fl hL F C 152 a ha (by omega) ?_
  generalize e_0 : up2 h 0 4 (nI (lw f L 152 a)) = h_0
  refine tt_aload_n C dX7_readOrder_48 rfl 0 rfl ?_
  refine tt_iload_n C dX7_readOrder_49 rfl 1 rfl ?_
  refine tt_aload_n C dX7_readOrder_50 rfl 0 rfl ?_
  refine tt_getI (v := nI (lw f L 152 a)) C oM0 rfl hin7 14 (by decide) (List.mem_of_getElem? (i := 1) (by decide +kernel)) rfl (ub_v.trans (by rw [← e_0]; exact up2_s _ _ _ _)) dX7_readOrder_51 ?_
  refine tt_cVI C (c_X7_wordOf E u r h_0 f a (lw f L 152 a) (by rw [← e_0, up2_row (by decide)]; exact fb) (by first | assumption | omega) (by first | assumption | omega)) gX7_readOrder_X7_wordOf rfl ⟨rfl, rfl⟩ 2 (by decide +kernel) ⟨Nat.le_of_ble_eq_true rfl, Nat.le_of_ble_eq_true rfl⟩ rfl oM0 rfl (Nat.le_of_ble_eq_true rfl) dX7_readOrder_54 rfl ?_
  refine tt_istore_n (lv' := [(0, .ref (eA E 6 0)), (1, .int (nI a)), (2, .int (M_wo f a (lw f L 152 a)))]) C dX7_readOrder_57 rfl (by decide) [1, 2, 0] rfl ?_
  refine tt_iload_n C dX7_readOrder_58 rfl 2 rfl ?_
  refine tt_iconst (v := (-1 : Int32)) C dX7_readOrder_59 (by decide) ?_
  refine tt_icmp_ne C (tgt := 70) dX7_readOrder_60 (by decide) Iff.rfl (fun c_1 => ?_) (fun c_1 => ?_)
  · skip
    obtain ⟨w, hw, ew⟩ := (M_wo_v f a (lw f L 152 a)).resolve_left c_1
    refine tt_to (lv1 := [(0, .ref (eA E 6 0)), (1, .int (nI a)), (2, .int (nI w))]) rfl rfl (by rw [ew]) rfl ?_
    refine tt_aload_n C dX7_readOrder_70 rfl 0 rfl ?_
    refine tt_get (v := .ref (eA E 6 6)) C oM0 rfl hin7 7 (by decide) (List.mem_of_getElem? (i := 4) (by decide +kernel)) rfl dX7_readOrder_71 ?_
    refine tt_aload_n C dX7_readOrder_74 rfl 0 rfl ?_
    refine tt_getI (v := nI q) C oM0 rfl hin7 10 (by decide) (List.mem_of_getElem? (i := 5) (by decide +kernel)) rfl (ub_v.trans (by rw [← e_0, up2_n (fun z => absurd z.2 (by decide))]; exact fq)) dX7_readOrder_75 ?_
    refine tt_iload_n C dX7_readOrder_78 rfl 2 rfl ?_
    refine tt_iastB C aM6 q rfl (by omega) dX7_readOrder_79 ?_
    generalize e_3 : up2 h_0 6 q (nI w) = h_2
    refine tt_aload_n C dX7_readOrder_80 rfl 0 rfl ?_
    refine tt_get (v := .ref (eA E 6 7)) C oM0 rfl hin7 8 (by decide) (List.mem_of_getElem? (i := 6) (by decide +kernel)) rfl dX7_readOrder_81 ?_
    refine tt_aload_n C dX7_readOrder_84 rfl 0 rfl ?_
    refine tt_getI (v := nI q) C oM0 rfl hin7 10 (by decide) (List.mem_of_getElem? (i := 5) (by decide +kernel)) rfl (ub_v.trans (by rw [← e_3, up2_n (fun z => absurd z.1 (by decide)), ← e_0, up2_n (fun z => absurd z.2 (by decide))]; exact fq)) dX7_readOrder_85 ?_
    refine tt_iconst (v := nI 1) C dX7_readOrder_88 (by decide) ?_
    refine tt_iadd (v := nI (q + 1)) C dX7_readOrder_89 (nI_add _ _) ?_
    refine tt_aload_n C dX7_readOrder_90 rfl 0 rfl ?_
    refine tt_get (v := .ref (eA E 6 7)) C oM0 rfl hin7 8 (by decide) (List.mem_of_getElem? (i := 6) (by decide +kernel)) rfl dX7_readOrder_91 ?_
    refine tt_aload_n C dX7_readOrder_94 rfl 0 rfl ?_
    refine tt_getI (v := nI q) C oM0 rfl hin7 10 (by decide) (List.mem_of_getElem? (i := 5) (by decide +kernel)) rfl (ub_v.trans (by rw [← e_3, up2_n (fun z => absurd z.1 (by decide)), ← e_0, up2_n (fun z => absurd z.2 (by decide))]; exact fq)) dX7_readOrder_95 ?_
    refine tt_ialdB (v := nI p) C aM7 q rfl (by omega) (by rw [← e_3, up2_n (fun z => absurd z.1 (by decide)), ← e_0, up2_n (fun z => absurd z.1 (by decide))]; exact fp) dX7_readOrder_98 ?_
    refine tt_iastB C aM7 (q + 1) rfl (by omega) dX7_readOrder_99 ?_
    generalize e_5 : up2 h_2 7 (q + 1) (nI p) = h_4
    refine tt_iconst (v := nI 0) C dX7_readOrder_100 (by decide) ?_
    refine tt_istore_n (lv' := [(0, .ref (eA E 6 0)), (1, .int (nI a)), (2, .int (nI w)), (3, .int (nI 0))]) C dX7_readOrder_101 rfl (by decide) [1, 2, 3, 0] rfl ?_
    subst e_5
    subst e_3
    subst e_0
    have e1 : M_oW f L a = nI w := ew
    have e2 : ix (M_oW f L a) = w := by rw [e1]; exact ix_nI (by omega)
    have hne : lw f L 152 a ≠ a := fun z => c_1 (by rw [z]; exact M_wo_e f a)
    have e3 : M_ordH h q p f L a = M_endNH f L q (M_due w) (up2 (up2 (up2 h 0 4 (nI (lw f L 152 a))) 6 q (nI w)) 7 (q + 1) (nI p)) p (lw f L 152 a) := by unfold M_ordH; rw [if_neg (show ¬ M_oW f L a = -1 from c_1)]; unfold M_oD M_ord0; rw [e2, e1]
    have e4 : b2i (M_ordR f L a) = b2i (nR f L (M_due w) (lw f L 152 a) = true ∧ endR f L (nA f L (M_due w) (lw f L 152 a))) := by
      rw [← e2]
      by_cases z : nR f L (M_oD f L a) (lw f L 152 a) = true ∧ endR f L (nA f L (M_oD f L a) (lw f L 152 a))
      · rw [b2i_t z]; exact b2i_t ⟨c_1, z⟩
      · rw [b2i_f z]; exact b2i_f (fun y => z y.2)
    rw [e3, e4] at K
    exact l_mnums E u r f L q a w hL (by omega) hw F C (M_due w) 0 _ p (lw f L 152 a) (by omega) (by rw [up2_row (by decide), up2_row (by decide), up2_row (by decide)]; exact fb) (by rw [up2_n (by simp), up2_n (by simp), up2_n (by simp)]; exact fl) (by rw [up2_n (by simp), up2_n (by simp), up2_s]) (by rw [up2_n (by simp), up2_n (by simp), up2_n (by simp)]; exact fq) (up2_s _ _ _ _) hw2 (by omega) K
  · skip
    refine tt_aload_n C dX7_readOrder_63 rfl 0 rfl ?_
    refine tt_iload_n C dX7_readOrder_64 rfl 1 rfl ?_
    refine tt_putIB C fM0_4 rfl hin7 tyX7 tyX7_ok nmX7 (by decide) (List.mem_of_getElem? (i := 1) (by decide +kernel)) (by decide +kernel) (by decide +kernel) dX7_readOrder_65 ?_
    generalize e_7 : up2 h_0 0 4 (nI a) = h_6
    refine tt_iconst (v := nI 0) C dX7_readOrder_68 (by decide) ?_
    exact tt_iret K dX7_readOrder_69 (by subst e_7; subst e_0; exact b1_f (fun z => z.1 (by assumption))) (by subst e_7; subst e_0; refine congrArg _ ?_; unfold M_ordH; rw [if_pos (by assumption), up2_up2]) rfl

set_option maxHeartbeats 4000000 in
set_option maxRecDepth 100000 in
theorem l_rt (E : EN) (u : U3) (r : R1) (f : Nat → Int32) (L : Nat) (hL : L ≤ 150) (F : FX) (C : Cx E F cX7_readText 1 RX7 wsX7_readText (rmT 4 87)) : ∀ (n : Nat) (h : HB) (q p a : Nat), h 5 = f → h 0 1 = nI L → h 0 4 = nI a → h 0 2 = nI q → h 7 q = nI p → a ≤ L → q ≤ a → p ≤ a → L + 1 ≤ a + n → RtI E F cX7_readText (M_rt f L n h q p a).1 (ub u 6 (M_rt f L n h q p a).2) r → T E F 1 (ub u 6 h) r 22 [(0, .ref (eA E 6 0))] [] := by
  have hin7 : ∀ w ∈ u_ws RX7 TX7 15, w ∈ wsX7_readText := by decide +kernel
  intro n
  induction n with
  | zero => intro h q p a _ _ _ _ _ _ _ _ h2; exact absurd h2 (by omega)
  | succ n ih =>
    intro h q p a fb fl fa fq fp ha hqa hpa h2 K
    refine tt_aload_n C dX7_readText_22 rfl 0 rfl ?_
    refine tt_getI (v := nI a) C oM0 rfl hin7 14 (by decide) (List.mem_of_getElem? (i := 3) (by decide +kernel)) rfl (ub_v.trans fa) dX7_readText_23 ?_
    refine tt_aload_n C dX7_readText_26 rfl 0 rfl ?_
    refine tt_getI (v := nI L) C oM0 rfl hin7 6 (by decide) (List.mem_of_getElem? (i := 4) (by decide +kernel)) rfl (ub_v.trans fl) dX7_readText_27 ?_
    refine tt_icmp_ge C (tgt := 53) dX7_readText_30 (by decide) (nI_leI (by omega) (by omega)) (fun c_701 => ?_) (fun c_701 => ?_)
    · skip
      refine tt_aload_n C dX7_readText_53 rfl 0 rfl ?_
      refine tt_getI (v := nI q) C oM0 rfl hin7 10 (by decide) (List.mem_of_getElem? (i := 1) (by decide +kernel)) rfl (ub_v.trans fq) dX7_readText_54 ?_
      refine tt_if_ne C (tgt := 67) dX7_readText_57 (by decide) (nI_eq0 (by omega)) (fun c_702 => ?_) (fun c_702 => ?_)
      · skip
        refine tt_iconst (v := (-1 : Int32)) C dX7_readText_67 (by decide) ?_
        exact tt_iret K dX7_readText_68 (by rw [M_rt]; first | (rw [if_pos (by omega), if_pos (by omega)]; done) | (rw [if_pos (by omega), if_neg (by omega)]; done) | (rw [if_neg (by omega), if_neg (by assumption)]; exact M_ordH_at)) (by refine congrArg _ ?_; rw [M_rt]; first | (rw [if_pos (by omega)]; done) | (rw [if_neg (by omega), if_neg (by assumption)]; done)) rfl
      · skip
        refine tt_aload_n C dX7_readText_60 rfl 0 rfl ?_
        refine tt_getI (v := nI L) C oM0 rfl hin7 6 (by decide) (List.mem_of_getElem? (i := 4) (by decide +kernel)) rfl (ub_v.trans fl) dX7_readText_61 ?_
        refine tt_goto (tgt := 68) C dX7_readText_64 (by decide) ?_
        exact tt_iret K dX7_readText_68 (by rw [M_rt]; first | (rw [if_pos (by omega), if_pos (by omega)]; done) | (rw [if_pos (by omega), if_neg (by omega)]; done) | (rw [if_neg (by omega), if_neg (by assumption)]; exact M_ordH_at)) (by refine congrArg _ ?_; rw [M_rt]; first | (rw [if_pos (by omega)]; done) | (rw [if_neg (by omega), if_neg (by assumption)]; done)) rfl
    · skip
      refine tt_aload_n C dX7_readText_33 rfl 0 rfl ?_
      refine tt_cVI C (c_X7_readOrder E u r h f L a q p fb fl fa (by first | assumption | omega) (by first | assumption | omega) fq fp (by first | assumption | omega) (by first | assumption | omega) (by first | assumption | omega)) gX7_readText_X7_readOrder rfl ⟨rfl, rfl⟩ 0 (by decide +kernel) ⟨Nat.le_of_ble_eq_true rfl, Nat.le_of_ble_eq_true rfl⟩ rfl oM0 rfl (Nat.le_of_ble_eq_true rfl) dX7_readText_34 rfl ?_
      generalize e_704 : M_ordH h q p f L a = h_703
      refine tt_if_neB C (tgt := 45) dX7_readText_37 (by decide) (fun c_705 => ?_) (fun c_705 => ?_)
      · skip
        refine tt_aload_n C dX7_readText_45 rfl 0 rfl ?_
        refine tt_cVI C (c_X7_next E u r h_703 f L (M_ordA f L a) (by rw [← e_704, M_ordH_row (by decide)]; exact fb) (by rw [← e_704, M_ordH_n (by simp)]; exact fl) (by rw [← e_704]; exact M_ordH_at) (by first | assumption | omega) (M_ordA_le ha)) gX7_readText_X7_next rfl ⟨rfl, rfl⟩ 0 (by decide +kernel) ⟨Nat.le_of_ble_eq_true rfl, Nat.le_of_ble_eq_true rfl⟩ rfl oM0 rfl (Nat.le_of_ble_eq_true rfl) dX7_readText_46 rfl ?_
        generalize e_707 : up2 h_703 0 4 (nI (skp f L (M_ordA f L a))) = h_706
        refine tt_pop C dX7_readText_49 rfl ?_
        refine tt_goto (tgt := 22) C dX7_readText_50 (by decide) ?_
        subst e_707
        subst e_704
        have e9 : M_rt f L (n + 1) h q p a = M_rt f L n (up2 (M_ordH h q p f L a) 0 4 (nI (skp f L (M_ordA f L a)))) (q + 1) (p + M_oD f L a) (skp f L (M_ordA f L a)) := by rw [M_rt, if_neg (by omega), if_pos c_705]
        rw [e9] at K
        have h8 := M_ordA_gt c_705
        have h7 := skp_ge f L (M_ordA f L a)
        exact ih _ (q + 1) (p + M_oD f L a) (skp f L (M_ordA f L a)) (by rw [up2_row (by decide), M_ordH_row (by decide)]; exact fb) (by rw [up2_n (by simp), M_ordH_n (by simp)]; exact fl) (up2_s _ _ _ _) (by rw [up2_n (by simp)]; exact M_ordH_q c_705) (by rw [up2_n (by simp)]; exact M_ordH_p c_705) (skp_le f L _ (M_ordA_le ha)) (by omega) (by omega) (by omega) K
      · skip
        refine tt_aload_n C dX7_readText_40 rfl 0 rfl ?_
        refine tt_getI (v := h_703 0 4) C oM0 rfl hin7 14 (by decide) (List.mem_of_getElem? (i := 3) (by decide +kernel)) rfl (ub_v.trans rfl) dX7_readText_41 ?_
        exact tt_iret K dX7_readText_44 (by subst e_704; rw [M_rt]; first | (rw [if_pos (by omega), if_pos (by omega)]; done) | (rw [if_pos (by omega), if_neg (by omega)]; done) | (rw [if_neg (by omega), if_neg (by assumption)]; exact M_ordH_at)) (by subst e_704; refine congrArg _ ?_; rw [M_rt]; first | (rw [if_pos (by omega)]; done) | (rw [if_neg (by omega), if_neg (by assumption)]; done)) rfl

set_option maxHeartbeats 4000000 in
set_option maxRecDepth 100000 in
theorem c_X7_readText (E : EN) (u : U3) (r : R1) (h : HB) (f : Nat → Int32) (L : Nat) (fb : h 5 = f) (fl : h 0 1 = nI L) (hL : L ≤ 150) : CT E yX7_readText wsX7_readText (rmT 4 87) [.ref (eA E 6 0)] (ub u 6 h) r (some (.int ((M_rtF h f L).1))) (ub u 6 ((M_rtF h f L).2)) r := by
  refine CT_ofI (cc := cX7_readText) (nL := 1) (own := RX7) (by decide) rfl rfl rfl (Nat.le_of_ble_eq_true rfl) (fun F C K => ?_)
  have hin7 : ∀ w ∈ u_ws RX7 TX7 15, w ∈ wsX7_readText := by decide +kernel
  refine tt_to (lv1 := [(0, .ref (eA E 6 0))]) rfl rfl rfl rfl ?_
  refine tt_aload_n C dX7_readText_0 rfl 0 rfl ?_
  refine tt_iconst (v := nI 0) C dX7_readText_1 (by decide) ?_
  refine tt_putIB C fM0_2 rfl hin7 tyX7 tyX7_ok nmX7 (by decide) (List.mem_of_getElem? (i := 1) (by decide +kernel)) (by decide +kernel) (by decide +kernel) dX7_readText_2 ?_
  generalize e_2 : up2 h 0 2 (nI 0) = h_1
  refine tt_aload_n C dX7_readText_5 rfl 0 rfl ?_
  refine tt_get (v := .ref (eA E 6 7)) C oM0 rfl hin7 8 (by decide) (List.mem_of_getElem? (i := 2) (by decide +kernel)) rfl dX7_readText_6 ?_
  refine tt_iconst (v := nI 0) C dX7_readText_9 (by decide) ?_
  refine tt_iconst (v := nI 0) C dX7_readText_10 (by decide) ?_
  refine tt_iastB C aM7 0 rfl (by omega) dX7_readText_11 ?_
  generalize e_4 : up2 h_1 7 0 (nI 0) = h_3
  refine tt_aload_n C dX7_readText_12 rfl 0 rfl ?_
  refine tt_iconst (v := nI 0) C dX7_readText_13 (by decide) ?_
  refine tt_putIB C fM0_4 rfl hin7 tyX7 tyX7_ok nmX7 (by decide) (List.mem_of_getElem? (i := 3) (by decide +kernel)) (by decide +kernel) (by decide +kernel) dX7_readText_14 ?_
  generalize e_6 : up2 h_3 0 4 (nI 0) = h_5
  refine tt_aload_n C dX7_readText_17 rfl 0 rfl ?_
  refine tt_cVI C (c_X7_next E u r h_5 f L 0 (by rw [← e_6, up2_row (by decide), ← e_4, up2_row (by decide), ← e_2, up2_row (by decide)]; exact fb) (by rw [← e_6, up2_n (fun z => absurd z.2 (by decide)), ← e_4, up2_n (fun z => absurd z.1 (by decide)), ← e_2, up2_n (fun z => absurd z.2 (by decide))]; exact fl) (by rw [← e_6]; exact up2_s _ _ _ _) hL (by first | assumption | omega)) gX7_readText_X7_next rfl ⟨rfl, rfl⟩ 0 (by decide +kernel) ⟨Nat.le_of_ble_eq_true rfl, Nat.le_of_ble_eq_true rfl⟩ rfl oM0 rfl (Nat.le_of_ble_eq_true rfl) dX7_readText_18 rfl ?_
  generalize e_8 : up2 h_5 0 4 (nI (skp f L 0)) = h_7
  refine tt_pop C dX7_readText_21 rfl ?_
  subst e_8
  subst e_6
  subst e_4
  subst e_2
  rw [up2_up2]
  exact l_rt E u r f L hL F C 152 (M_rt0 h f L) 0 0 (skp f L 0) (by unfold M_rt0; rw [up2_row (by decide), up2_row (by decide), up2_row (by decide)]; exact fb) (by unfold M_rt0; rw [up2_n (by simp), up2_n (by simp), up2_n (by simp)]; exact fl) (up2_s _ _ _ _) (by unfold M_rt0; rw [up2_n (by simp), up2_n (by simp), up2_s]) (by unfold M_rt0; rw [up2_n (by simp), up2_s]) (skp_le f L 0 (Nat.zero_le _)) (Nat.zero_le _) (Nat.zero_le _) (by omega) K
