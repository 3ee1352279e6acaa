/-! THE TEXT, read: f its bytes, L how many, a the place -/
def sk (f : Nat → Int32) (L : Nat) : Nat → Nat → Nat
  | 0, a => a
  | n + 1, a => if a < L ∧ f a = nI 32 then sk f L n (a + 1) else a
def skp (f : Nat → Int32) (L a : Nat) : Nat := sk f L 152 a
theorem sk_ge (f : Nat → Int32) (L : Nat) : ∀ n a, a ≤ sk f L n a
  | 0, a => Nat.le_refl a
  | n + 1, a => by
    unfold sk
    split
    · exact Nat.le_trans (Nat.le_succ a) (sk_ge f L n (a + 1))
    · exact Nat.le_refl a
theorem sk_le (f : Nat → Int32) (L : Nat) : ∀ n a, a ≤ L → sk f L n a ≤ L
  | 0, a, h => h
  | n + 1, a, h => by
    unfold sk
    split
    · next hc => exact sk_le f L n (a + 1) hc.1
    · exact h
theorem skp_ge (f : Nat → Int32) (L a : Nat) : a ≤ skp f L a := sk_ge f L 152 a
theorem skp_le (f : Nat → Int32) (L a : Nat) (h : a ≤ L) : skp f L a ≤ L := sk_le f L 152 a h
abbrev fig (f : Nat → Int32) (L a : Nat) : Prop := a < L ∧ ¬ f a < nI 48 ∧ ¬ nI 57 < f a
abbrev let_ (f : Nat → Int32) (L a : Nat) : Prop := a < L ∧ ¬ f a < nI 97 ∧ ¬ nI 122 < f a
def lw (f : Nat → Int32) (L : Nat) : Nat → Nat → Nat
  | 0, a => a
  | n + 1, a => if let_ f L a then lw f L n (a + 1) else a
theorem lw_ge (f : Nat → Int32) (L : Nat) : ∀ n a, a ≤ lw f L n a
  | 0, a => Nat.le_refl a
  | n + 1, a => by
    unfold lw
    split
    · exact Nat.le_trans (Nat.le_succ a) (lw_ge f L n (a + 1))
    · exact Nat.le_refl a
theorem lw_le (f : Nat → Int32) (L : Nat) : ∀ n a, a ≤ L → lw f L n a ≤ L
  | 0, a, h => h
  | n + 1, a, h => by
    unfold lw
    split
    · next hc => exact lw_le f L n (a + 1) hc.1
    · exact h

set_option maxHeartbeats 4000000 in
set_option maxRecDepth 100000 in
theorem c_X4_append (E : EN) (u : U3) (r : R1) (h : HB) (c : Int32) (L : Nat) (fl : h 2 0 = nI L) (hL : L < 150) : CT E yX4_append wsX4_append (rmT 0 0) [.ref (eA E 5 2), .int c] (ub u 5 h) r (some (.int (nI (L + 1)))) (ub u 5 (up2 (up2 h 4 L c) 2 0 (nI (L + 1)))) r := by
  refine CT_ofI (cc := cX4_append) (nL := 2) (own := RX4) (by decide) rfl rfl rfl (Nat.le_of_ble_eq_true rfl) (fun F C K => ?_)
  have hin4 : ∀ w ∈ u_ws RX4 TX4 5, w ∈ wsX4_append := by decide +kernel
  refine tt_to (lv1 := [(0, .ref (eA E 5 2)), (1, .int c)]) rfl rfl rfl rfl ?_
  refine tt_aload_n C dX4_append_0 rfl 0 rfl ?_
  refine tt_getI (v := nI L) C oT2 rfl hin4 0 (by decide) (List.mem_of_getElem? (i := 1) (by decide +kernel)) rfl (ub_v.trans fl) dX4_append_1 ?_
  refine tt_sipush (v := nI 150) C dX4_append_4 (by decide) ?_
  refine tt_icmp_ge C (tgt := 30) dX4_append_7 (by decide) (nI_leI (by omega) (by omega)) (fun c_1 => ?_) (fun c_1 => ?_)
  · skip
    exact absurd c_1 (by omega)
  · skip
    refine tt_aload_n C dX4_append_10 rfl 0 rfl ?_
    refine tt_get (v := .ref (eA E 5 4)) C oT2 rfl hin4 3 (by decide) (List.mem_of_getElem? (i := 2) (by decide +kernel)) rfl dX4_append_11 ?_
    refine tt_aload_n C dX4_append_14 rfl 0 rfl ?_
    refine tt_getI (v := nI L) C oT2 rfl hin4 0 (by decide) (List.mem_of_getElem? (i := 1) (by decide +kernel)) rfl (ub_v.trans fl) dX4_append_15 ?_
    refine tt_iload_n C dX4_append_18 rfl 1 rfl ?_
    refine tt_iastB C aT4 L rfl (by omega) dX4_append_19 ?_
    generalize e_3 : up2 h 4 L c = h_2
    refine tt_aload_n C dX4_append_20 rfl 0 rfl ?_
    refine tt_dup C dX4_append_21 rfl ?_
    refine tt_getI (v := nI L) C oT2 rfl hin4 0 (by decide) (List.mem_of_getElem? (i := 1) (by decide +kernel)) rfl (ub_v.trans (by rw [← e_3, up2_n (fun z => absurd z.1 (by decide))]; exact fl)) dX4_append_22 ?_
    refine tt_iconst (v := nI 1) C dX4_append_25 (by decide) ?_
    refine tt_iadd (v := nI (L + 1)) C dX4_append_26 (nI_add _ _) ?_
    refine tt_putIB C fT2_0 rfl hin4 tyX4 tyX4_ok nmX4 (by decide) (List.mem_of_getElem? (i := 1) (by decide +kernel)) (by decide +kernel) (by decide +kernel) dX4_append_27 ?_
    generalize e_5 : up2 h_2 2 0 (nI (L + 1)) = h_4
    refine tt_aload_n C dX4_append_30 rfl 0 rfl ?_
    refine tt_getI (v := nI (L + 1)) C oT2 rfl hin4 0 (by decide) (List.mem_of_getElem? (i := 1) (by decide +kernel)) rfl (ub_v.trans (by rw [← e_5]; exact up2_s _ _ _ _)) dX4_append_31 ?_
    exact tt_iret K dX4_append_34 (by subst e_5; subst e_3; first | rfl | (simp [c_1]; done) | grind []) (by subst e_5; subst e_3; first | rfl | (simp [c_1]; done) | (refine congrArg _ ?_; grind [])) rfl

set_option maxHeartbeats 4000000 in
set_option maxRecDepth 100000 in
theorem c_X4_empty (E : EN) (u : U3) (r : R1) (h : HB)   : CT E yX4_empty wsX4_empty (rmT 0 0) [.ref (eA E 5 2)] (ub u 5 h) r (some (.int (h 2 0))) (ub u 5 (up2 h 2 0 (nI 0))) r := by
  refine CT_ofI (cc := cX4_empty) (nL := 2) (own := RX4) (by decide) rfl rfl rfl (Nat.le_of_ble_eq_true rfl) (fun F C K => ?_)
  have hin4 : ∀ w ∈ u_ws RX4 TX4 5, w ∈ wsX4_empty := by decide +kernel
  refine tt_to (lv1 := [(0, .ref (eA E 5 2))]) rfl rfl rfl rfl ?_
  refine tt_aload_n C dX4_empty_0 rfl 0 rfl ?_
  refine tt_getI (v := h 2 0) C oT2 rfl hin4 0 (by decide) (List.mem_of_getElem? (i := 1) (by decide +kernel)) rfl (ub_v.trans rfl) dX4_empty_1 ?_
  refine tt_istore_n (lv' := [(0, .ref (eA E 5 2)), (1, .int (h 2 0))]) C dX4_empty_4 rfl (by decide) [1, 0] rfl ?_
  refine tt_aload_n C dX4_empty_5 rfl 0 rfl ?_
  refine tt_iconst (v := nI 0) C dX4_empty_6 (by decide) ?_
  refine tt_putIB C fT2_0 rfl hin4 tyX4 tyX4_ok nmX4 (by decide) (List.mem_of_getElem? (i := 1) (by decide +kernel)) (by decide +kernel) (by decide +kernel) dX4_empty_7 ?_
  generalize e_2 : up2 h 2 0 (nI 0) = h_1
  refine tt_iload_n C dX4_empty_10 rfl 1 rfl ?_
  exact tt_iret K dX4_empty_11 (by subst e_2; first | rfl | (simp []; done) | grind []) (by subst e_2; first | rfl | (simp []; done) | (refine congrArg _ ?_; grind [])) rfl

set_option maxHeartbeats 4000000 in
set_option maxRecDepth 100000 in
theorem c_X4_restart (E : EN) (u : U3) (r : R1) (h : HB)   : CT E yX4_restart wsX4_restart (rmT 0 0) [.ref (eA E 5 2)] (ub u 5 h) r none (ub u 5 (up2 h 2 2 (nI 0))) r := by
  refine CT_ofV (cc := cX4_restart) (nL := 1) (own := RX4) (by decide) rfl rfl (Nat.le_of_ble_eq_true rfl) (fun F C K => ?_)
  have hin4 : ∀ w ∈ u_ws RX4 TX4 5, w ∈ wsX4_restart := by decide +kernel
  refine tt_to (lv1 := [(0, .ref (eA E 5 2))]) rfl rfl rfl rfl ?_
  refine tt_aload_n C dX4_restart_0 rfl 0 rfl ?_
  refine tt_iconst (v := nI 0) C dX4_restart_1 (by decide) ?_
  refine tt_putIB C fT2_2 rfl hin4 tyX4 tyX4_ok nmX4 (by decide) (List.mem_of_getElem? (i := 1) (by decide +kernel)) (by decide +kernel) (by decide +kernel) dX4_restart_2 ?_
  generalize e_2 : up2 h 2 2 (nI 0) = h_1
  exact tt_vret K dX4_restart_5 (by subst e_2; first | rfl | (simp []; done) | (refine congrArg _ ?_; grind [])) rfl

theorem up2_up2 (h : HB) (k j : Nat) (v w : Int32) : up2 (up2 h k j v) k j w = up2 h k j w := by
  funext k' j'
  by_cases e : k' = k ∧ j' = j <;> simp [up2, e]
theorem up2_c32 (h : HB) (k : Nat) (v w : Int32) : up2 (up2 h 3 k v) 2 2 w = up2 (up2 h 2 2 w) 3 k v := by
  funext k' j'
  by_cases e : k' = 3
  · subst e; simp [up2]
  · simp [up2, e]

set_option maxHeartbeats 4000000 in
set_option maxRecDepth 100000 in
theorem l_skip (E : EN) (u : U3) (r : R1) (h : HB) (f : Nat → Int32) (L : Nat) (fb : h 4 = f) (fl : h 2 0 = nI L) (hL : L ≤ 150) (F : FX) (C : Cx E F cX4_skipBlanks 1 RX4 wsX4_skipBlanks (rmT 0 0)) : ∀ (n a : Nat), a ≤ L → L + 1 ≤ a + n → RtV E F cX4_skipBlanks (ub u 5 (up2 h 2 2 (nI (sk f L n a)))) r → T E F 1 (ub u 5 (up2 h 2 2 (nI a))) r 0 [(0, .ref (eA E 5 2))] [] := by
  have hin4 : ∀ w ∈ u_ws RX4 TX4 5, w ∈ wsX4_skipBlanks := by decide +kernel
  intro n
  induction n with
  | zero => intro a h1 h2; exact absurd h2 (by omega)
  | succ n ih =>
    intro a h1 h2 K
    generalize ej : up2 h 2 2 (nI a) = hj
    have fl2 : hj 2 0 = nI L := by rw [← ej, up2_n (by decide)]; exact fl
    have fa : hj 2 2 = nI a := by rw [← ej, up2_s]
    have fb2 : hj 4 = f := by rw [← ej, up2_row (by decide)]; exact fb
    refine tt_aload_n C dX4_skipBlanks_0 rfl 0 rfl ?_
    refine tt_getI (v := nI a) C oT2 rfl hin4 4 (by decide) (List.mem_of_getElem? (i := 1) (by decide +kernel)) rfl (ub_v.trans fa) dX4_skipBlanks_1 ?_
    refine tt_aload_n C dX4_skipBlanks_4 rfl 0 rfl ?_
    refine tt_getI (v := nI L) C oT2 rfl hin4 0 (by decide) (List.mem_of_getElem? (i := 2) (by decide +kernel)) rfl (ub_v.trans fl2) dX4_skipBlanks_5 ?_
    refine tt_icmp_ge C (tgt := 38) dX4_skipBlanks_8 (by decide) (nI_leI (by omega) (by omega)) (fun c_201 => ?_) (fun c_201 => ?_)
    · skip
      exact tt_vret K dX4_skipBlanks_38 (by subst ej; refine congrArg _ (congrArg _ (congrArg _ ?_)); rw [sk, if_neg]; (first | (intro z; exact absurd z.1 (by omega)) | (intro z; exact absurd z.2 (by assumption)))) rfl
    · skip
      refine tt_aload_n C dX4_skipBlanks_11 rfl 0 rfl ?_
      refine tt_get (v := .ref (eA E 5 4)) C oT2 rfl hin4 3 (by decide) (List.mem_of_getElem? (i := 3) (by decide +kernel)) rfl dX4_skipBlanks_12 ?_
      refine tt_aload_n C dX4_skipBlanks_15 rfl 0 rfl ?_
      refine tt_getI (v := nI a) C oT2 rfl hin4 4 (by decide) (List.mem_of_getElem? (i := 1) (by decide +kernel)) rfl (ub_v.trans fa) dX4_skipBlanks_16 ?_
      refine tt_ialdB (v := f a) C aT4 a rfl (by omega) (congrFun fb2 a) dX4_skipBlanks_19 ?_
      refine tt_bipush (v := nI 32) C dX4_skipBlanks_20 (by decide) ?_
      refine tt_icmp_ne C (tgt := 38) dX4_skipBlanks_22 (by decide) Iff.rfl (fun c_202 => ?_) (fun c_202 => ?_)
      · skip
        exact tt_vret K dX4_skipBlanks_38 (by subst ej; refine congrArg _ (congrArg _ (congrArg _ ?_)); rw [sk, if_neg]; (first | (intro z; exact absurd z.1 (by omega)) | (intro z; exact absurd z.2 (by assumption)))) rfl
      · skip
        refine tt_aload_n C dX4_skipBlanks_25 rfl 0 rfl ?_
        refine tt_dup C dX4_skipBlanks_26 rfl ?_
        refine tt_getI (v := nI a) C oT2 rfl hin4 4 (by decide) (List.mem_of_getElem? (i := 1) (by decide +kernel)) rfl (ub_v.trans fa) dX4_skipBlanks_27 ?_
        refine tt_iconst (v := nI 1) C dX4_skipBlanks_30 (by decide) ?_
        refine tt_iadd (v := nI (a + 1)) C dX4_skipBlanks_31 (nI_add _ _) ?_
        refine tt_putIB C fT2_2 rfl hin4 tyX4 tyX4_ok nmX4 (by decide) (List.mem_of_getElem? (i := 1) (by decide +kernel)) (by decide +kernel) (by decide +kernel) dX4_skipBlanks_32 ?_
        generalize e_204 : up2 hj 2 2 (nI (a + 1)) = h_203
        refine tt_goto (tgt := 0) C dX4_skipBlanks_35 (by decide) ?_
        rw [← e_204, ← ej, up2_up2]
        refine ih (a + 1) (by omega) (by omega) ?_
        have e9 : sk f L (n + 1) a = sk f L n (a + 1) := by rw [sk, if_pos ⟨(by omega), c_202⟩]
        rw [← e9]; exact K

theorem up2_same {h : HB} {k j : Nat} {v : Int32} (e : h k j = v) : up2 h k j v = h := by
  funext k' j'
  by_cases q : k' = k ∧ j' = j
  · rw [q.1, q.2, up2_s, e]
  · exact up2_n q

set_option maxHeartbeats 4000000 in
set_option maxRecDepth 100000 in
theorem c_X4_skipBlanks (E : EN) (u : U3) (r : R1) (h : HB) (f : Nat → Int32) (L : Nat) (a : Nat) (fb : h 4 = f) (fl : h 2 0 = nI L) (fa : h 2 2 = nI a) (hL : L ≤ 150) (ha : a ≤ L) : CT E yX4_skipBlanks wsX4_skipBlanks (rmT 0 0) [.ref (eA E 5 2)] (ub u 5 h) r none (ub u 5 (up2 h 2 2 (nI (skp f L a)))) r := by
  refine CT_ofV (cc := cX4_skipBlanks) (nL := 1) (own := RX4) (by decide) rfl rfl (Nat.le_of_ble_eq_true rfl) (fun F C K => ?_)
  refine tt_to (lv1 := [(0, .ref (eA E 5 2))]) rfl rfl rfl rfl ?_
  rw [← up2_same fa]
  exact l_skip E u r h f L fb fl hL F C 152 a ha (by omega) K

set_option maxHeartbeats 4000000 in
set_option maxRecDepth 100000 in
theorem c_X4_hasMore (E : EN) (u : U3) (r : R1) (h : HB) (f : Nat → Int32) (L : Nat) (a : Nat) (fb : h 4 = f) (fl : h 2 0 = nI L) (fa : h 2 2 = nI a) (hL : L ≤ 150) (ha : a ≤ L) : CT E yX4_hasMore wsX4_hasMore (rmT 1 20) [.ref (eA E 5 2)] (ub u 5 h) r (some (.int (b2i (skp f L a < L)))) (ub u 5 (up2 h 2 2 (nI (skp f L a)))) r := by
  refine CT_ofI (cc := cX4_hasMore) (nL := 1) (own := RX4) (by decide) rfl rfl (b2i_z _) (Nat.le_of_ble_eq_true rfl) (fun F C K => ?_)
  have hin4 : ∀ w ∈ u_ws RX4 TX4 5, w ∈ wsX4_hasMore := by decide +kernel
  refine tt_to (lv1 := [(0, .ref (eA E 5 2))]) rfl rfl rfl rfl ?_
  have hs1 := skp_ge f L a
  have hs2 := skp_le f L a ha
  refine tt_aload_n C dX4_hasMore_0 rfl 0 rfl ?_
  refine tt_cVV C (c_X4_skipBlanks E u r h f L a fb fl fa hL ha) gX4_hasMore_X4_skipBlanks rfl ⟨rfl, rfl⟩ 0 (by decide +kernel) ⟨Nat.le_of_ble_eq_true rfl, Nat.le_of_ble_eq_true rfl⟩ rfl oT2 rfl (Nat.le_of_ble_eq_true rfl) dX4_hasMore_1 rfl ?_
  generalize e_2 : up2 h 2 2 (nI (skp f L a)) = h_1
  refine tt_aload_n C dX4_hasMore_4 rfl 0 rfl ?_
  refine tt_getI (v := nI (skp f L a)) C oT2 rfl hin4 4 (by decide) (List.mem_of_getElem? (i := 1) (by decide +kernel)) rfl (ub_v.trans (by rw [← e_2]; exact up2_s _ _ _ _)) dX4_hasMore_5 ?_
  refine tt_aload_n C dX4_hasMore_8 rfl 0 rfl ?_
  refine tt_getI (v := nI L) C oT2 rfl hin4 0 (by decide) (List.mem_of_getElem? (i := 2) (by decide +kernel)) rfl (ub_v.trans (by rw [← e_2, up2_n (fun z => absurd z.2 (by decide))]; exact fl)) dX4_hasMore_9 ?_
  refine tt_icmp_ge C (tgt := 19) dX4_hasMore_12 (by decide) (nI_leI (by omega) (by omega)) (fun c_3 => ?_) (fun c_3 => ?_)
  · skip
    refine tt_iconst (v := nI 0) C dX4_hasMore_19 (by decide) ?_
    exact tt_iret K dX4_hasMore_20 (by subst e_2; exact b1_f (by first | (simp only [c_3, not_false_eq_true, not_true_eq_false, and_true, true_and, and_false, false_and, and_self, or_true, true_or, or_false, false_or, or_self, if_true, if_false]; done) | grind)) (by subst e_2; first | rfl | (simp [c_3]; done) | (refine congrArg _ ?_; grind [])) rfl
  · skip
    refine tt_iconst (v := nI 1) C dX4_hasMore_15 (by decide) ?_
    refine tt_goto (tgt := 20) C dX4_hasMore_16 (by decide) ?_
    exact tt_iret K dX4_hasMore_20 (by subst e_2; exact b1_t (by first | (simp only [c_3, not_false_eq_true, not_true_eq_false, and_true, true_and, and_false, false_and, and_self, or_true, true_or, or_false, false_or, or_self, if_true, if_false]; done) | grind)) (by subst e_2; first | rfl | (simp [c_3]; done) | (refine congrArg _ ?_; grind [])) rfl

set_option maxHeartbeats 4000000 in
set_option maxRecDepth 100000 in
theorem c_X4_isAtFigure (E : EN) (u : U3) (r : R1) (h : HB) (f : Nat → Int32) (L : Nat) (a : Nat) (fb : h 4 = f) (fl : h 2 0 = nI L) (fa : h 2 2 = nI a) (hL : L ≤ 150) (ha : a ≤ L) : CT E yX4_isAtFigure wsX4_isAtFigure (rmT 0 0) [.ref (eA E 5 2)] (ub u 5 h) r (some (.int (b2i (fig f L a)))) (ub u 5 h) r := by
  refine CT_ofI (cc := cX4_isAtFigure) (nL := 1) (own := RX4) (by decide) rfl rfl (b2i_z _) (Nat.le_of_ble_eq_true rfl) (fun F C K => ?_)
  have hin4 : ∀ w ∈ u_ws RX4 TX4 5, w ∈ wsX4_isAtFigure := by decide +kernel
  refine tt_to (lv1 := [(0, .ref (eA E 5 2))]) rfl rfl rfl rfl ?_
  refine tt_aload_n C dX4_isAtFigure_0 rfl 0 rfl ?_
  refine tt_getI (v := nI a) C oT2 rfl hin4 4 (by decide) (List.mem_of_getElem? (i := 1) (by decide +kernel)) rfl (ub_v.trans fa) dX4_isAtFigure_1 ?_
  refine tt_aload_n C dX4_isAtFigure_4 rfl 0 rfl ?_
  refine tt_getI (v := nI L) C oT2 rfl hin4 0 (by decide) (List.mem_of_getElem? (i := 2) (by decide +kernel)) rfl (ub_v.trans fl) dX4_isAtFigure_5 ?_
  refine tt_icmp_ge C (tgt := 43) dX4_isAtFigure_8 (by decide) (nI_leI (by omega) (by omega)) (fun c_1 => ?_) (fun c_1 => ?_)
  · skip
    refine tt_iconst (v := nI 0) C dX4_isAtFigure_43 (by decide) ?_
    exact tt_iret K dX4_isAtFigure_44 (by exact b1_f (by first | (simp only [c_1, not_false_eq_true, not_true_eq_false, and_true, true_and, and_false, false_and, and_self, or_true, true_or, or_false, false_or, or_self, if_true, if_false]; done) | grind)) (by first | rfl | (simp [c_1]; done) | (refine congrArg _ ?_; grind [])) rfl
  · skip
    refine tt_aload_n C dX4_isAtFigure_11 rfl 0 rfl ?_
    refine tt_get (v := .ref (eA E 5 4)) C oT2 rfl hin4 3 (by decide) (List.mem_of_getElem? (i := 3) (by decide +kernel)) rfl dX4_isAtFigure_12 ?_
    refine tt_aload_n C dX4_isAtFigure_15 rfl 0 rfl ?_
    refine tt_getI (v := nI a) C oT2 rfl hin4 4 (by decide) (List.mem_of_getElem? (i := 1) (by decide +kernel)) rfl (ub_v.trans fa) dX4_isAtFigure_16 ?_
    refine tt_ialdB (v := f a) C aT4 a rfl (by omega) (congrFun fb a) dX4_isAtFigure_19 ?_
    refine tt_bipush (v := nI 48) C dX4_isAtFigure_20 (by decide) ?_
    refine tt_icmp_lt C (tgt := 43) dX4_isAtFigure_22 (by decide) Iff.rfl (fun c_2 => ?_) (fun c_2 => ?_)
    · skip
      refine tt_iconst (v := nI 0) C dX4_isAtFigure_43 (by decide) ?_
      exact tt_iret K dX4_isAtFigure_44 (by exact b1_f (by first | (simp only [c_1, c_2, not_false_eq_true, not_true_eq_false, and_true, true_and, and_false, false_and, and_self, or_true, true_or, or_false, false_or, or_self, if_true, if_false]; done) | grind)) (by first | rfl | (simp [c_1, c_2]; done) | (refine congrArg _ ?_; grind [])) rfl
    · skip
      refine tt_aload_n C dX4_isAtFigure_25 rfl 0 rfl ?_
      refine tt_get (v := .ref (eA E 5 4)) C oT2 rfl hin4 3 (by decide) (List.mem_of_getElem? (i := 3) (by decide +kernel)) rfl dX4_isAtFigure_26 ?_
      refine tt_aload_n C dX4_isAtFigure_29 rfl 0 rfl ?_
      refine tt_getI (v := nI a) C oT2 rfl hin4 4 (by decide) (List.mem_of_getElem? (i := 1) (by decide +kernel)) rfl (ub_v.trans fa) dX4_isAtFigure_30 ?_
      refine tt_ialdB (v := f a) C aT4 a rfl (by omega) (congrFun fb a) dX4_isAtFigure_33 ?_
      refine tt_bipush (v := nI 57) C dX4_isAtFigure_34 (by decide) ?_
      refine tt_icmp_gt C (tgt := 43) dX4_isAtFigure_36 (by decide) Iff.rfl (fun c_3 => ?_) (fun c_3 => ?_)
      · skip
        refine tt_iconst (v := nI 0) C dX4_isAtFigure_43 (by decide) ?_
        exact tt_iret K dX4_isAtFigure_44 (by exact b1_f (by first | (simp only [c_1, c_2, c_3, not_false_eq_true, not_true_eq_false, and_true, true_and, and_false, false_and, and_self, or_true, true_or, or_false, false_or, or_self, if_true, if_false]; done) | grind)) (by first | rfl | (simp [c_1, c_2, c_3]; done) | (refine congrArg _ ?_; grind [])) rfl
      · skip
        refine tt_iconst (v := nI 1) C dX4_isAtFigure_39 (by decide) ?_
        refine tt_goto (tgt := 44) C dX4_isAtFigure_40 (by decide) ?_
        exact tt_iret K dX4_isAtFigure_44 (by exact b1_t (by first | (simp only [c_1, c_2, c_3, not_false_eq_true, not_true_eq_false, and_true, true_and, and_false, false_and, and_self, or_true, true_or, or_false, false_or, or_self, if_true, if_false]; done) | grind)) (by first | rfl | (simp [c_1, c_2, c_3]; done) | (refine congrArg _ ?_; grind [])) rfl

set_option maxHeartbeats 4000000 in
set_option maxRecDepth 100000 in
theorem c_X4_takeFigure (E : EN) (u : U3) (r : R1) (h : HB) (f : Nat → Int32) (L : Nat) (a : Nat) (fb : h 4 = f) (fl : h 2 0 = nI L) (fa : h 2 2 = nI a) (hL : L ≤ 150) (ha : a ≤ L) (hal : a < L) : CT E yX4_takeFigure wsX4_takeFigure (rmT 0 0) [.ref (eA E 5 2)] (ub u 5 h) r (some (.int (f a - nI 48))) (ub u 5 (up2 h 2 2 (nI (a + 1)))) r := by
  refine CT_ofI (cc := cX4_takeFigure) (nL := 2) (own := RX4) (by decide) rfl rfl rfl (Nat.le_of_ble_eq_true rfl) (fun F C K => ?_)
  have hin4 : ∀ w ∈ u_ws RX4 TX4 5, w ∈ wsX4_takeFigure := by decide +kernel
  refine tt_to (lv1 := [(0, .ref (eA E 5 2))]) rfl rfl rfl rfl ?_
  refine tt_aload_n C dX4_takeFigure_0 rfl 0 rfl ?_
  refine tt_get (v := .ref (eA E 5 4)) C oT2 rfl hin4 3 (by decide) (List.mem_of_getElem? (i := 1) (by decide +kernel)) rfl dX4_takeFigure_1 ?_
  refine tt_aload_n C dX4_takeFigure_4 rfl 0 rfl ?_
  refine tt_getI (v := nI a) C oT2 rfl hin4 4 (by decide) (List.mem_of_getElem? (i := 2) (by decide +kernel)) rfl (ub_v.trans fa) dX4_takeFigure_5 ?_
  refine tt_ialdB (v := f a) C aT4 a rfl (by omega) (congrFun fb a) dX4_takeFigure_8 ?_
  refine tt_bipush (v := nI 48) C dX4_takeFigure_9 (by decide) ?_
  refine tt_isub C dX4_takeFigure_11 rfl ?_
  refine tt_istore_n (lv' := [(0, .ref (eA E 5 2)), (1, .int ((f a) - (nI 48)))]) C dX4_takeFigure_12 rfl (by decide) [1, 0] rfl ?_
  refine tt_aload_n C dX4_takeFigure_13 rfl 0 rfl ?_
  refine tt_dup C dX4_takeFigure_14 rfl ?_
  refine tt_getI (v := nI a) C oT2 rfl hin4 4 (by decide) (List.mem_of_getElem? (i := 2) (by decide +kernel)) rfl (ub_v.trans fa) dX4_takeFigure_15 ?_
  refine tt_iconst (v := nI 1) C dX4_takeFigure_18 (by decide) ?_
  refine tt_iadd (v := nI (a + 1)) C dX4_takeFigure_19 (nI_add _ _) ?_
  refine tt_putIB C fT2_2 rfl hin4 tyX4 tyX4_ok nmX4 (by decide) (List.mem_of_getElem? (i := 2) (by decide +kernel)) (by decide +kernel) (by decide +kernel) dX4_takeFigure_20 ?_
  generalize e_2 : up2 h 2 2 (nI (a + 1)) = h_1
  refine tt_iload_n C dX4_takeFigure_23 rfl 1 rfl ?_
  exact tt_iret K dX4_takeFigure_24 (by subst e_2; first | rfl | (simp []; done) | grind []) (by subst e_2; first | rfl | (simp []; done) | (refine congrArg _ ?_; grind [])) rfl

abbrev numR (f : Nat → Int32) (L a : Nat) : Prop := fig f L (skp f L a) ∧ ¬ (fig f L (skp f L a + 1) ∧ fig f L (skp f L a + 1 + 1))
def numA (f : Nat → Int32) (L a : Nat) : Nat := if ¬ fig f L (skp f L a) then skp f L a else if ¬ fig f L (skp f L a + 1) then skp f L a + 1 else skp f L a + 1 + 1
def numV (f : Nat → Int32) (L a : Nat) : Int32 := if ¬ fig f L (skp f L a + 1) then f (skp f L a) - nI 48 else nI 10 * (f (skp f L a) - nI 48) + (f (skp f L a + 1) - nI 48)
def numH (h : HB) (k : Nat) (f : Nat → Int32) (L a : Nat) : HB := if ¬ fig f L (skp f L a) then up2 h 2 2 (nI (numA f L a)) else up2 (up2 h 2 2 (nI (numA f L a))) 3 k (numV f L a)
theorem numH_at {h : HB} {k : Nat} {f : Nat → Int32} {L a : Nat} : numH h k f L a 2 2 = nI (numA f L a) := by unfold numH; split <;> simp [up2]
theorem numH_n {h : HB} {k : Nat} {f : Nat → Int32} {L a k' j' : Nat} (hk : ¬ (k' = 2 ∧ j' = 2) ∧ k' ≠ 3) : numH h k f L a k' j' = h k' j' := by unfold numH; split <;> simp [up2, hk.1, hk.2]
theorem numH_row {h : HB} {k : Nat} {f : Nat → Int32} {L a k' : Nat} (hk : k' ≠ 2 ∧ k' ≠ 3) : numH h k f L a k' = h k' := by
  funext j'
  exact numH_n ⟨fun z => hk.1 z.1, hk.2⟩
theorem numA_ge (f : Nat → Int32) (L a : Nat) : a ≤ numA f L a := by
  have := skp_ge f L a
  unfold numA
  repeat' split
  all_goals omega
theorem numA_le (f : Nat → Int32) (L a : Nat) (h : a ≤ L) : numA f L a ≤ L := by
  have := skp_le f L a h
  unfold numA
  repeat' split
  all_goals first | omega | (next h1 h2 => have := (Decidable.not_not.mp h1).1; omega) | (next h1 h2 => have := (Decidable.not_not.mp h2).1; omega)

set_option maxHeartbeats 4000000 in
set_option maxRecDepth 100000 in
theorem c_X4_takeNumber (E : EN) (u : U3) (r : R1) (h : HB) (f : Nat → Int32) (L : Nat) (a : Nat) (k : Nat) (fb : h 4 = f) (fl : h 2 0 = nI L) (fa : h 2 2 = nI a) (hL : L ≤ 150) (ha : a ≤ L) (hk : k < 4) : CT E yX4_takeNumber wsX4_takeNumber (rmT 1 21) [.ref (eA E 5 2), .int (nI k)] (ub u 5 h) r (some (.int (b2i (fig f L (skp f L a) ∧ ¬ (fig f L (skp f L a + 1) ∧ fig f L (skp f L a + 1 + 1)))))) (ub u 5 (numH h k f L a)) r := by
  refine CT_ofI (cc := cX4_takeNumber) (nL := 2) (own := RX4) (by decide) rfl rfl (b2i_z _) (Nat.le_of_ble_eq_true rfl) (fun F C K => ?_)
  have hin4 : ∀ w ∈ u_ws RX4 TX4 5, w ∈ wsX4_takeNumber := by decide +kernel
  refine tt_to (lv1 := [(0, .ref (eA E 5 2)), (1, .int (nI k))]) rfl rfl rfl rfl ?_
  have hs1 := skp_ge f L a
  have hs2 := skp_le f L a ha
  refine tt_aload_n C dX4_takeNumber_0 rfl 0 rfl ?_
  refine tt_cVV C (c_X4_skipBlanks E u r h f L a fb fl fa hL ha) gX4_takeNumber_X4_skipBlanks rfl ⟨rfl, rfl⟩ 0 (by decide +kernel) ⟨Nat.le_of_ble_eq_true rfl, Nat.le_of_ble_eq_true rfl⟩ rfl oT2 rfl (Nat.le_of_ble_eq_true rfl) dX4_takeNumber_1 rfl ?_
  generalize e_2 : up2 h 2 2 (nI (skp f L a)) = h_1
  refine tt_aload_n C dX4_takeNumber_4 rfl 0 rfl ?_
  refine tt_cVI C (c_X4_isAtFigure E u r h_1 f L (skp f L a) (by rw [← e_2, up2_row (by decide)]; exact fb) (by rw [← e_2, up2_n (fun z => absurd z.2 (by decide))]; exact fl) (by rw [← e_2]; exact up2_s _ _ _ _) hL (by first | assumption | omega | (have := c_5.1; omega) | (have := c_4.1; omega))) gX4_takeNumber_X4_isAtFigure rfl ⟨rfl, rfl⟩ 0 (by decide +kernel) ⟨Nat.le_of_ble_eq_true rfl, Nat.le_of_ble_eq_true rfl⟩ rfl oT2 rfl (Nat.le_of_ble_eq_true rfl) dX4_takeNumber_5 rfl ?_
  refine tt_if_neB C (tgt := 13) dX4_takeNumber_8 (by decide) (fun c_3 => ?_) (fun c_3 => ?_)
  · skip
    refine tt_aload_n C dX4_takeNumber_13 rfl 0 rfl ?_
    refine tt_get (v := .ref (eA E 5 3)) C oT2 rfl hin4 2 (by decide) (List.mem_of_getElem? (i := 1) (by decide +kernel)) rfl dX4_takeNumber_14 ?_
    refine tt_iload_n C dX4_takeNumber_17 rfl 1 rfl ?_
    refine tt_aload_n C dX4_takeNumber_18 rfl 0 rfl ?_
    refine tt_cVI C (c_X4_takeFigure E u r h_1 f L (skp f L a) (by rw [← e_2, up2_row (by decide)]; exact fb) (by rw [← e_2, up2_n (fun z => absurd z.2 (by decide))]; exact fl) (by rw [← e_2]; exact up2_s _ _ _ _) hL (by first | assumption | omega | (have := c_5.1; omega) | (have := c_4.1; omega)) (by first | assumption | omega | (have := c_5.1; omega) | (have := c_4.1; omega))) gX4_takeNumber_X4_takeFigure rfl ⟨rfl, rfl⟩ 0 (by decide +kernel) ⟨Nat.le_of_ble_eq_true rfl, Nat.le_of_ble_eq_true rfl⟩ rfl oT2 rfl (Nat.le_of_ble_eq_true rfl) dX4_takeNumber_19 rfl ?_
    generalize e_5 : up2 h_1 2 2 (nI ((skp f L a) + 1)) = h_4
    refine tt_iastB C aT3 k rfl (by omega) dX4_takeNumber_22 ?_
    generalize e_7 : up2 h_4 3 k (f (skp f L a) - nI 48) = h_6
    refine tt_aload_n C dX4_takeNumber_23 rfl 0 rfl ?_
    refine tt_cVI C (c_X4_isAtFigure E u r h_6 f L ((skp f L a) + 1) (by rw [← e_7, up2_row (by decide), ← e_5, up2_row (by decide), ← e_2, up2_row (by decide)]; exact fb) (by rw [← e_7, up2_n (fun z => absurd z.1 (by decide)), ← e_5, up2_n (fun z => absurd z.2 (by decide)), ← e_2, up2_n (fun z => absurd z.2 (by decide))]; exact fl) (by rw [← e_7, up2_n (fun z => absurd z.1 (by decide)), ← e_5]; exact up2_s _ _ _ _) hL (by first | assumption | omega | (have := c_5.1; omega) | (have := c_4.1; omega))) gX4_takeNumber_X4_isAtFigure rfl ⟨rfl, rfl⟩ 0 (by decide +kernel) ⟨Nat.le_of_ble_eq_true rfl, Nat.le_of_ble_eq_true rfl⟩ rfl oT2 rfl (Nat.le_of_ble_eq_true rfl) dX4_takeNumber_24 rfl ?_
    refine tt_if_eqB C (tgt := 50) dX4_takeNumber_27 (by decide) (fun c_8 => ?_) (fun c_8 => ?_)
    · skip
      refine tt_aload_n C dX4_takeNumber_50 rfl 0 rfl ?_
      refine tt_cVI C (c_X4_isAtFigure E u r h_6 f L ((skp f L a) + 1) (by rw [← e_7, up2_row (by decide), ← e_5, up2_row (by decide), ← e_2, up2_row (by decide)]; exact fb) (by rw [← e_7, up2_n (fun z => absurd z.1 (by decide)), ← e_5, up2_n (fun z => absurd z.2 (by decide)), ← e_2, up2_n (fun z => absurd z.2 (by decide))]; exact fl) (by rw [← e_7, up2_n (fun z => absurd z.1 (by decide)), ← e_5]; exact up2_s _ _ _ _) hL (by first | assumption | omega | (have := c_5.1; omega) | (have := c_4.1; omega))) gX4_takeNumber_X4_isAtFigure rfl ⟨rfl, rfl⟩ 0 (by decide +kernel) ⟨Nat.le_of_ble_eq_true rfl, Nat.le_of_ble_eq_true rfl⟩ rfl oT2 rfl (Nat.le_of_ble_eq_true rfl) dX4_takeNumber_51 rfl ?_
      refine tt_if_neB C (tgt := 61) dX4_takeNumber_54 (by decide) (fun c_9 => ?_) (fun c_9 => ?_)
      · skip
        exact absurd c_9 c_8
      · skip
        refine tt_iconst (v := nI 1) C dX4_takeNumber_57 (by decide) ?_
        refine tt_goto (tgt := 62) C dX4_takeNumber_58 (by decide) ?_
        exact tt_iret K dX4_takeNumber_62 (by subst e_7; subst e_5; subst e_2; exact b1_t (by first | (simp only [c_3, c_8, c_9, not_false_eq_true, not_true_eq_false, and_true, true_and, and_false, false_and, and_self, or_true, true_or, or_false, false_or, or_self, if_true, if_false]; done) | grind)) (by subst e_7; subst e_5; subst e_2; first | rfl | (refine congrArg _ ?_; simp only [numH, numA, numV, eq_true c_3, c_3, eq_true c_8, c_8, eq_true c_9, c_9, not_false_eq_true, not_true_eq_false, and_true, true_and, and_false, false_and, and_self, or_true, true_or, or_false, false_or, or_self, if_true, if_false, up2_up2, up2_c32])) rfl
    · skip
      refine tt_aload_n C dX4_takeNumber_30 rfl 0 rfl ?_
      refine tt_get (v := .ref (eA E 5 3)) C oT2 rfl hin4 2 (by decide) (List.mem_of_getElem? (i := 1) (by decide +kernel)) rfl dX4_takeNumber_31 ?_
      refine tt_iload_n C dX4_takeNumber_34 rfl 1 rfl ?_
      refine tt_bipush (v := nI 10) C dX4_takeNumber_35 (by decide) ?_
      refine tt_aload_n C dX4_takeNumber_37 rfl 0 rfl ?_
      refine tt_get (v := .ref (eA E 5 3)) C oT2 rfl hin4 2 (by decide) (List.mem_of_getElem? (i := 1) (by decide +kernel)) rfl dX4_takeNumber_38 ?_
      refine tt_iload_n C dX4_takeNumber_41 rfl 1 rfl ?_
      refine tt_ialdB (v := f (skp f L a) - nI 48) C aT3 k rfl (by omega) (by rw [← e_7]; exact up2_s _ _ _ _) dX4_takeNumber_42 ?_
      refine tt_imul C dX4_takeNumber_43 rfl ?_
      refine tt_aload_n C dX4_takeNumber_44 rfl 0 rfl ?_
      refine tt_cVI C (c_X4_takeFigure E u r h_6 f L ((skp f L a) + 1) (by rw [← e_7, up2_row (by decide), ← e_5, up2_row (by decide), ← e_2, up2_row (by decide)]; exact fb) (by rw [← e_7, up2_n (fun z => absurd z.1 (by decide)), ← e_5, up2_n (fun z => absurd z.2 (by decide)), ← e_2, up2_n (fun z => absurd z.2 (by decide))]; exact fl) (by rw [← e_7, up2_n (fun z => absurd z.1 (by decide)), ← e_5]; exact up2_s _ _ _ _) hL (by first | assumption | omega | (have := c_5.1; omega) | (have := c_4.1; omega)) (by first | assumption | omega | (have := c_5.1; omega) | (have := c_4.1; omega))) gX4_takeNumber_X4_takeFigure rfl ⟨rfl, rfl⟩ 0 (by decide +kernel) ⟨Nat.le_of_ble_eq_true rfl, Nat.le_of_ble_eq_true rfl⟩ rfl oT2 rfl (Nat.le_of_ble_eq_true rfl) dX4_takeNumber_45 rfl ?_
      generalize e_11 : up2 h_6 2 2 (nI (((skp f L a) + 1) + 1)) = h_10
      refine tt_iadd C dX4_takeNumber_48 rfl ?_
      refine tt_iastB C aT3 k rfl (by omega) dX4_takeNumber_49 ?_
      generalize e_13 : up2 h_10 3 k (((nI 10) * (f (skp f L a) - nI 48)) + (f ((skp f L a) + 1) - nI 48)) = h_12
      refine tt_aload_n C dX4_takeNumber_50 rfl 0 rfl ?_
      refine tt_cVI C (c_X4_isAtFigure E u r h_12 f L (((skp f L a) + 1) + 1) (by rw [← e_13, up2_row (by decide), ← e_11, up2_row (by decide), ← e_7, up2_row (by decide), ← e_5, up2_row (by decide), ← e_2, up2_row (by decide)]; exact fb) (by rw [← e_13, up2_n (fun z => absurd z.1 (by decide)), ← e_11, up2_n (fun z => absurd z.2 (by decide)), ← e_7, up2_n (fun z => absurd z.1 (by decide)), ← e_5, up2_n (fun z => absurd z.2 (by decide)), ← e_2, up2_n (fun z => absurd z.2 (by decide))]; exact fl) (by rw [← e_13, up2_n (fun z => absurd z.1 (by decide)), ← e_11]; exact up2_s _ _ _ _) hL (by first | assumption | omega | (have := c_5.1; omega) | (have := c_4.1; omega))) gX4_takeNumber_X4_isAtFigure rfl ⟨rfl, rfl⟩ 0 (by decide +kernel) ⟨Nat.le_of_ble_eq_true rfl, Nat.le_of_ble_eq_true rfl⟩ rfl oT2 rfl (Nat.le_of_ble_eq_true rfl) dX4_takeNumber_51 rfl ?_
      refine tt_if_neB C (tgt := 61) dX4_takeNumber_54 (by decide) (fun c_14 => ?_) (fun c_14 => ?_)
      · skip
        refine tt_iconst (v := nI 0) C dX4_takeNumber_61 (by decide) ?_
        exact tt_iret K dX4_takeNumber_62 (by subst e_13; subst e_11; subst e_7; subst e_5; subst e_2; exact b1_f (by first | (simp only [c_3, c_8, c_14, not_false_eq_true, not_true_eq_false, and_true, true_and, and_false, false_and, and_self, or_true, true_or, or_false, false_or, or_self, if_true, if_false]; done) | grind)) (by subst e_13; subst e_11; subst e_7; subst e_5; subst e_2; first | rfl | (refine congrArg _ ?_; simp only [numH, numA, numV, eq_true c_3, c_3, eq_true c_8, c_8, eq_true c_14, c_14, not_false_eq_true, not_true_eq_false, and_true, true_and, and_false, false_and, and_self, or_true, true_or, or_false, false_or, or_self, if_true, if_false, up2_up2, up2_c32])) rfl
      · skip
        refine tt_iconst (v := nI 1) C dX4_takeNumber_57 (by decide) ?_
        refine tt_goto (tgt := 62) C dX4_takeNumber_58 (by decide) ?_
        exact tt_iret K dX4_takeNumber_62 (by subst e_13; subst e_11; subst e_7; subst e_5; subst e_2; exact b1_t (by first | (simp only [c_3, c_8, c_14, not_false_eq_true, not_true_eq_false, and_true, true_and, and_false, false_and, and_self, or_true, true_or, or_false, false_or, or_self, if_true, if_false]; done) | grind)) (by subst e_13; subst e_11; subst e_7; subst e_5; subst e_2; first | rfl | (refine congrArg _ ?_; simp only [numH, numA, numV, eq_true c_3, c_3, eq_true c_8, c_8, eq_true c_14, c_14, not_false_eq_true, not_true_eq_false, and_true, true_and, and_false, false_and, and_self, or_true, true_or, or_false, false_or, or_self, if_true, if_false, up2_up2, up2_c32])) rfl
  · skip
    refine tt_iconst (v := nI 0) C dX4_takeNumber_11 (by decide) ?_
    exact tt_iret K dX4_takeNumber_12 (by subst e_2; exact b1_f (by first | (simp only [c_3, not_false_eq_true, not_true_eq_false, and_true, true_and, and_false, false_and, and_self, or_true, true_or, or_false, false_or, or_self, if_true, if_false]; done) | grind)) (by subst e_2; first | rfl | (refine congrArg _ ?_; simp only [numH, numA, numV, eq_true c_3, c_3, not_false_eq_true, not_true_eq_false, and_true, true_and, and_false, false_and, and_self, or_true, true_or, or_false, false_or, or_self, if_true, if_false, up2_up2, up2_c32])) rfl

abbrev endR (f : Nat → Int32) (L a : Nat) : Prop := skp f L a < L ∧ f (skp f L a) = nI 59
def endA (f : Nat → Int32) (L a : Nat) : Nat := if endR f L a then skp f L a + 1 else skp f L a
theorem endA_ge (f : Nat → Int32) (L a : Nat) : a ≤ endA f L a := by
  have := skp_ge f L a
  unfold endA
  split <;> omega
theorem endA_le (f : Nat → Int32) (L a : Nat) (h : a ≤ L) : endA f L a ≤ L := by
  have := skp_le f L a h
  unfold endA
  split
  · next hc => have := hc.1; omega
  · omega

set_option maxHeartbeats 4000000 in
set_option maxRecDepth 100000 in
theorem c_X4_takeEnd (E : EN) (u : U3) (r : R1) (h : HB) (f : Nat → Int32) (L : Nat) (a : Nat) (fb : h 4 = f) (fl : h 2 0 = nI L) (fa : h 2 2 = nI a) (hL : L ≤ 150) (ha : a ≤ L) : CT E yX4_takeEnd wsX4_takeEnd (rmT 1 20) [.ref (eA E 5 2)] (ub u 5 h) r (some (.int (b2i (skp f L a < L ∧ f (skp f L a) = nI 59)))) (ub u 5 (up2 h 2 2 (nI (endA f L a)))) r := by
  refine CT_ofI (cc := cX4_takeEnd) (nL := 1) (own := RX4) (by decide) rfl rfl (b2i_z _) (Nat.le_of_ble_eq_true rfl) (fun F C K => ?_)
  have hin4 : ∀ w ∈ u_ws RX4 TX4 5, w ∈ wsX4_takeEnd := by decide +kernel
  refine tt_to (lv1 := [(0, .ref (eA E 5 2))]) rfl rfl rfl rfl ?_
  have hs1 := skp_ge f L a
  have hs2 := skp_le f L a ha
  refine tt_aload_n C dX4_takeEnd_0 rfl 0 rfl ?_
  refine tt_cVV C (c_X4_skipBlanks E u r h f L a fb fl fa hL ha) gX4_takeEnd_X4_skipBlanks rfl ⟨rfl, rfl⟩ 0 (by decide +kernel) ⟨Nat.le_of_ble_eq_true rfl, Nat.le_of_ble_eq_true rfl⟩ rfl oT2 rfl (Nat.le_of_ble_eq_true rfl) dX4_takeEnd_1 rfl ?_
  generalize e_2 : up2 h 2 2 (nI (skp f L a)) = h_1
  refine tt_aload_n C dX4_takeEnd_4 rfl 0 rfl ?_
  refine tt_getI (v := nI (skp f L a)) C oT2 rfl hin4 4 (by decide) (List.mem_of_getElem? (i := 1) (by decide +kernel)) rfl (ub_v.trans (by rw [← e_2]; exact up2_s _ _ _ _)) dX4_takeEnd_5 ?_
  refine tt_aload_n C dX4_takeEnd_8 rfl 0 rfl ?_
  refine tt_getI (v := nI L) C oT2 rfl hin4 0 (by decide) (List.mem_of_getElem? (i := 2) (by decide +kernel)) rfl (ub_v.trans (by rw [← e_2, up2_n (fun z => absurd z.2 (by decide))]; exact fl)) dX4_takeEnd_9 ?_
  refine tt_icmp_ge C (tgt := 29) dX4_takeEnd_12 (by decide) (nI_leI (by omega) (by omega)) (fun c_3 => ?_) (fun c_3 => ?_)
  · skip
    refine tt_iconst (v := nI 0) C dX4_takeEnd_29 (by decide) ?_
    exact tt_iret K dX4_takeEnd_30 (by subst e_2; exact b1_f (by first | (simp only [c_3, not_false_eq_true, not_true_eq_false, and_true, true_and, and_false, false_and, and_self, or_true, true_or, or_false, false_or, or_self, if_true, if_false]; done) | grind)) (by subst e_2; first | rfl | (refine congrArg _ ?_; (try rw [up2_up2]); refine congrArg _ (congrArg _ ?_); unfold endA endR; grind)) rfl
  · skip
    refine tt_aload_n C dX4_takeEnd_15 rfl 0 rfl ?_
    refine tt_get (v := .ref (eA E 5 4)) C oT2 rfl hin4 3 (by decide) (List.mem_of_getElem? (i := 3) (by decide +kernel)) rfl dX4_takeEnd_16 ?_
    refine tt_aload_n C dX4_takeEnd_19 rfl 0 rfl ?_
    refine tt_getI (v := nI (skp f L a)) C oT2 rfl hin4 4 (by decide) (List.mem_of_getElem? (i := 1) (by decide +kernel)) rfl (ub_v.trans (by rw [← e_2]; exact up2_s _ _ _ _)) dX4_takeEnd_20 ?_
    refine tt_ialdB (v := f (skp f L a)) C aT4 (skp f L a) rfl (by omega) (by rw [← e_2, up2_n (fun z => absurd z.1 (by decide))]; exact (congrFun fb (skp f L a))) dX4_takeEnd_23 ?_
    refine tt_bipush (v := nI 59) C dX4_takeEnd_24 (by decide) ?_
    refine tt_icmp_eq C (tgt := 31) dX4_takeEnd_26 (by decide) Iff.rfl (fun c_4 => ?_) (fun c_4 => ?_)
    · skip
      refine tt_aload_n C dX4_takeEnd_31 rfl 0 rfl ?_
      refine tt_dup C dX4_takeEnd_32 rfl ?_
      refine tt_getI (v := nI (skp f L a)) C oT2 rfl hin4 4 (by decide) (List.mem_of_getElem? (i := 1) (by decide +kernel)) rfl (ub_v.trans (by rw [← e_2]; exact up2_s _ _ _ _)) dX4_takeEnd_33 ?_
      refine tt_iconst (v := nI 1) C dX4_takeEnd_36 (by decide) ?_
      refine tt_iadd (v := nI (skp f L a + 1)) C dX4_takeEnd_37 (nI_add _ _) ?_
      refine tt_putIB C fT2_2 rfl hin4 tyX4 tyX4_ok nmX4 (by decide) (List.mem_of_getElem? (i := 1) (by decide +kernel)) (by decide +kernel) (by decide +kernel) dX4_takeEnd_38 ?_
      generalize e_6 : up2 h_1 2 2 (nI (skp f L a + 1)) = h_5
      refine tt_iconst (v := nI 1) C dX4_takeEnd_41 (by decide) ?_
      exact tt_iret K dX4_takeEnd_42 (by subst e_6; subst e_2; exact b1_t (by first | (simp only [c_3, c_4, not_false_eq_true, not_true_eq_false, and_true, true_and, and_false, false_and, and_self, or_true, true_or, or_false, false_or, or_self, if_true, if_false]; done) | grind)) (by subst e_6; subst e_2; first | rfl | (refine congrArg _ ?_; (try rw [up2_up2]); refine congrArg _ (congrArg _ ?_); unfold endA endR; grind)) rfl
    · skip
      refine tt_iconst (v := nI 0) C dX4_takeEnd_29 (by decide) ?_
      exact tt_iret K dX4_takeEnd_30 (by subst e_2; exact b1_f (by first | (simp only [c_3, c_4, not_false_eq_true, not_true_eq_false, and_true, true_and, and_false, false_and, and_self, or_true, true_or, or_false, false_or, or_self, if_true, if_false]; done) | grind)) (by subst e_2; first | rfl | (refine congrArg _ ?_; (try rw [up2_up2]); refine congrArg _ (congrArg _ ?_); unfold endA endR; grind)) rfl

set_option maxHeartbeats 4000000 in
set_option maxRecDepth 100000 in
theorem c_X4_lettersOf (E : EN) (u : U3) (r : R1) (w : Nat) (hw : w < 8) : CT E yX4_lettersOf wsX4_lettersOf (rmT 0 0) [.int (nI w)] u r (some (.ref (eK E w))) u r := by
  refine CT_ofR (cc := cX4_lettersOf) (nL := 1) (own := RX4) (rt := .object "java/lang/String") (by decide) rfl rfl (Or.inl ⟨_, rfl⟩) (Nat.le_of_ble_eq_true rfl) (fun F C K => ?_)
  refine tt_to (lv1 := [(0, .int (nI w))]) rfl rfl rfl rfl ?_
  refine tt_iload_n C dX4_lettersOf_0 rfl 0 rfl ?_
  rcases (by omega : w = 0 ∨ w = 1 ∨ w = 2 ∨ w = 3 ∨ w = 4 ∨ w = 5 ∨ w = 6 ∨ w = 7) with rfl | rfl | rfl | rfl | rfl | rfl | rfl | rfl
  · refine tt_tabIn (off := 43) (tgt := 44) C dX4_lettersOf_1 (by decide) (by decide) (by decide) (by decide) ?_
    refine tt_ldcS C (C.2.2.2.2.2.2.2.2.2.2.2.1.1 0 (by decide)) dX4_lettersOf_44 ?_
    exact tt_aret K dX4_lettersOf_46 rfl rfl rfl
  · refine tt_tabIn (off := 46) (tgt := 47) C dX4_lettersOf_1 (by decide) (by decide) (by decide) (by decide) ?_
    refine tt_ldcS C (C.2.2.2.2.2.2.2.2.2.2.2.1.1 1 (by decide)) dX4_lettersOf_47 ?_
    exact tt_aret K dX4_lettersOf_49 rfl rfl rfl
  · refine tt_tabIn (off := 49) (tgt := 50) C dX4_lettersOf_1 (by decide) (by decide) (by decide) (by decide) ?_
    refine tt_ldcS C (C.2.2.2.2.2.2.2.2.2.2.2.1.1 2 (by decide)) dX4_lettersOf_50 ?_
    exact tt_aret K dX4_lettersOf_52 rfl rfl rfl
  · refine tt_tabIn (off := 52) (tgt := 53) C dX4_lettersOf_1 (by decide) (by decide) (by decide) (by decide) ?_
    refine tt_ldcS C (C.2.2.2.2.2.2.2.2.2.2.2.1.1 3 (by decide)) dX4_lettersOf_53 ?_
    exact tt_aret K dX4_lettersOf_55 rfl rfl rfl
  · refine tt_tabIn (off := 55) (tgt := 56) C dX4_lettersOf_1 (by decide) (by decide) (by decide) (by decide) ?_
    refine tt_ldcS C (C.2.2.2.2.2.2.2.2.2.2.2.1.1 4 (by decide)) dX4_lettersOf_56 ?_
    exact tt_aret K dX4_lettersOf_58 rfl rfl rfl
  · refine tt_tabIn (off := 58) (tgt := 59) C dX4_lettersOf_1 (by decide) (by decide) (by decide) (by decide) ?_
    refine tt_ldcS C (C.2.2.2.2.2.2.2.2.2.2.2.1.1 5 (by decide)) dX4_lettersOf_59 ?_
    exact tt_aret K dX4_lettersOf_61 rfl rfl rfl
  · refine tt_tabIn (off := 61) (tgt := 62) C dX4_lettersOf_1 (by decide) (by decide) (by decide) (by decide) ?_
    refine tt_ldcS C (C.2.2.2.2.2.2.2.2.2.2.2.1.1 6 (by decide)) dX4_lettersOf_62 ?_
    exact tt_aret K dX4_lettersOf_64 rfl rfl rfl
  · refine tt_tabOut (tgt := 65) C dX4_lettersOf_1 (by decide) (by decide) ?_
    refine tt_ldcS C (C.2.2.2.2.2.2.2.2.2.2.2.1.1 7 (by decide)) dX4_lettersOf_65 ?_
    exact tt_aret K dX4_lettersOf_67 rfl rfl rfl

abbrev spl (f : Nat → Int32) (s e w : Nat) : Prop := sxN_ w = e - s ∧ ∀ i, i < sxN_ w → sxC w i = f (s + i)

set_option maxHeartbeats 4000000 in
set_option maxRecDepth 100000 in
theorem l_spell (E : EN) (u : U3) (r : R1) (h : HB) (f : Nat → Int32) (s e w : Nat) (fb : h 4 = f) (hw : w < 8) (he : e ≤ 150) (hl : sxN_ w = e - s) (hse : s ≤ e) (F : FX) (C : Cx E F cX4_isSpelled 5 RX4 wsX4_isSpelled (rmT 4 85)) (K : RtI E F cX4_isSpelled (b2i (spl f s e w)) (ub u 5 h) r) : ∀ (n j : Nat), j ≤ sxN_ w → sxN_ w + 1 ≤ j + n → (∀ i, i < j → sxC w i = f (s + i)) → T E F 5 (ub u 5 h) r 15 [(0, .ref (eA E 5 2)), (1, .ref (eK E w)), (2, .int (nI s)), (3, .int (nI e)), (4, .int (nI j))] [] := by
  have hin4 : ∀ w ∈ u_ws RX4 TX4 5, w ∈ wsX4_isSpelled := by decide +kernel
  have hlt := sxN_lt w hw
  intro n
  induction n with
  | zero => intro j h1 h2; exact absurd h2 (by omega)
  | succ n ih =>
    intro j h1 h2 h3
    refine tt_iload C dX4_isSpelled_15 4 rfl ?_
    refine tt_aload_n C dX4_isSpelled_17 rfl 1 rfl ?_
    refine tt_cTI C hw (c_J0_length_8abf5 E (ub u 5 h) r w hw) gX4_isSpelled_J0_length_8abf5 rfl ⟨rfl, rfl⟩ 0 (by decide +kernel) ⟨Nat.le_of_ble_eq_true rfl, Nat.le_of_ble_eq_true rfl⟩ rfl (Nat.le_of_ble_eq_true rfl) dX4_isSpelled_18 rfl ?_
    refine tt_icmp_ge C (tgt := 50) dX4_isSpelled_21 (by decide) (nI_leI (by omega) (by omega)) (fun c1 => ?_) (fun c1 => ?_)
    · refine tt_iconst (v := nI 1) C dX4_isSpelled_50 (by decide) ?_
      exact tt_iret K dX4_isSpelled_51 (b1_t ⟨hl, fun i hi => h3 i (by omega)⟩) rfl rfl
    · refine tt_aload_n C dX4_isSpelled_24 rfl 1 rfl ?_
      refine tt_iload C dX4_isSpelled_25 4 rfl ?_
      refine tt_cTI C hw (c_J0_charAt_5068e E (ub u 5 h) r w j hw (by omega)) gX4_isSpelled_J0_charAt_5068e rfl ⟨rfl, rfl⟩ 1 (by decide +kernel) ⟨Nat.le_of_ble_eq_true rfl, Nat.le_of_ble_eq_true rfl⟩ rfl (Nat.le_of_ble_eq_true rfl) dX4_isSpelled_27 rfl ?_
      refine tt_aload_n C dX4_isSpelled_30 rfl 0 rfl ?_
      refine tt_get (v := .ref (eA E 5 4)) C oT2 rfl hin4 3 (by decide) (List.mem_of_getElem? (i := 1) (by decide +kernel)) rfl dX4_isSpelled_31 ?_
      refine tt_iload_n C dX4_isSpelled_34 rfl 2 rfl ?_
      refine tt_iload C dX4_isSpelled_35 4 rfl ?_
      refine tt_iadd (v := nI (s + j)) C dX4_isSpelled_37 (nI_add _ _) ?_
      refine tt_ialdB (v := f (s + j)) C aT4 (s + j) rfl (by omega) (congrFun fb (s + j)) dX4_isSpelled_38 ?_
      refine tt_icmp_eq C (tgt := 44) dX4_isSpelled_39 (by decide) Iff.rfl (fun c2 => ?_) (fun c2 => ?_)
      · refine tt_iinc (p := 4) (v := nI (j + 1)) (lv' := [(0, .ref (eA E 5 2)), (1, .ref (eK E w)), (2, .int (nI s)), (3, .int (nI e)), (4, .int (nI (j + 1)))]) C dX4_isSpelled_44 rfl (by rw [show Int32.ofInt 1 = nI 1 from by decide]; exact nI_add _ _) (by decide) [1, 2, 3, 4, 0] rfl ?_
        refine tt_goto (tgt := 15) C dX4_isSpelled_47 (by decide) ?_
        refine ih (j + 1) (by omega) (by omega) (fun i hi => ?_)
        rcases Nat.lt_or_ge i j with q | q
        · exact h3 i q
        · have e9 : i = j := by omega
          subst e9; exact c2
      · refine tt_iconst (v := nI 0) C dX4_isSpelled_42 (by decide) ?_
        exact tt_iret K dX4_isSpelled_43 (b1_f (fun z => c2 (z.2 j (by omega)))) rfl rfl
set_option maxHeartbeats 4000000 in
set_option maxRecDepth 100000 in
theorem c_X4_isSpelled (E : EN) (u : U3) (r : R1) (h : HB) (f : Nat → Int32) (s e w : Nat) (fb : h 4 = f) (hw : w < 8) (he : e ≤ 150) (hse : s ≤ e) : CT E yX4_isSpelled wsX4_isSpelled (rmT 4 85) [.ref (eA E 5 2), .ref (eK E w), .int (nI s), .int (nI e)] (ub u 5 h) r (some (.int (b2i (spl f s e w)))) (ub u 5 h) r := by
  have hlt := sxN_lt w hw
  refine CT_ofI (cc := cX4_isSpelled) (nL := 5) (own := RX4) (by decide) rfl rfl (b2i_z _) (Nat.le_of_ble_eq_true rfl) (fun F C K => ?_)
  refine tt_to (lv1 := [(0, .ref (eA E 5 2)), (1, .ref (eK E w)), (2, .int (nI s)), (3, .int (nI e))]) rfl rfl rfl rfl ?_
  refine tt_aload_n C dX4_isSpelled_0 rfl 1 rfl ?_
  refine tt_cTI C hw (c_J0_length_8abf5 E (ub u 5 h) r w hw) gX4_isSpelled_J0_length_8abf5 rfl ⟨rfl, rfl⟩ 0 (by decide +kernel) ⟨Nat.le_of_ble_eq_true rfl, Nat.le_of_ble_eq_true rfl⟩ rfl (Nat.le_of_ble_eq_true rfl) dX4_isSpelled_1 rfl ?_
  refine tt_iload_n C dX4_isSpelled_4 rfl 3 rfl ?_
  refine tt_iload_n C dX4_isSpelled_5 rfl 2 rfl ?_
  refine tt_isub (v := nI (e - s)) C dX4_isSpelled_6 (pk_sub hse) ?_
  refine tt_icmp_eq C (tgt := 12) dX4_isSpelled_7 (by decide) (nI_eq (by omega) (by omega)) (fun c1 => ?_) (fun c1 => ?_)
  · refine tt_iconst (v := nI 0) C dX4_isSpelled_12 (by decide) ?_
    refine tt_istore (lv' := [(0, .ref (eA E 5 2)), (1, .ref (eK E w)), (2, .int (nI s)), (3, .int (nI e)), (4, .int (nI 0))]) C dX4_isSpelled_13 (by decide) [1, 2, 3, 4, 0] rfl ?_
    exact l_spell E u r h f s e w fb hw he c1 hse F C K (sxN_ w + 1) 0 (by omega) (by omega) (fun i hi => absurd hi (by omega))
  · refine tt_iconst (v := nI 0) C dX4_isSpelled_10 (by decide) ?_
    exact tt_iret K dX4_isSpelled_11 (b1_f (fun z => c1 z.1)) rfl rfl
