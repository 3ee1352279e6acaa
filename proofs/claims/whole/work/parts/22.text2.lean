def wfF (f : Nat → Int32) (s e : Nat) : Nat → Nat → Nat
  | 0, _ => 8
  | n + 1, w => if spl f s e w then w else wfF f s e n (w + 1)
def wE (f : Nat → Int32) (L a : Nat) : Nat := lw f L 152 (skp f L a)
def wW (f : Nat → Int32) (L a : Nat) : Nat := wfF f (skp f L a) (wE f L a) 8 0
def wordA (f : Nat → Int32) (L a : Nat) : Nat := if wW f L a < 8 then wE f L a else skp f L a
def wordH (h : HB) (f : Nat → Int32) (L a : Nat) : HB := if wW f L a < 8 then up2 (up2 h 2 2 (nI (wE f L a))) 2 1 (nI (wW f L a)) else up2 h 2 2 (nI (skp f L a))
theorem wE_ge (f : Nat → Int32) (L a : Nat) : skp f L a ≤ wE f L a := lw_ge f L 152 _
theorem wE_le (f : Nat → Int32) (L a : Nat) (h : a ≤ L) : wE f L a ≤ L := lw_le f L 152 _ (skp_le f L a h)
theorem wordA_ge (f : Nat → Int32) (L a : Nat) : a ≤ wordA f L a := by
  have h1 := skp_ge f L a
  have h2 := wE_ge f L a
  unfold wordA
  split <;> omega
theorem wordA_le (f : Nat → Int32) (L a : Nat) (h : a ≤ L) : wordA f L a ≤ L := by
  have h1 := skp_le f L a h
  have h2 := wE_le f L a h
  unfold wordA
  split <;> omega
theorem wordH_at {h : HB} {f : Nat → Int32} {L a : Nat} : wordH h f L a 2 2 = nI (wordA f L a) := by
  unfold wordH wordA
  split <;> simp [up2]
theorem wordH_n {h : HB} {f : Nat → Int32} {L a k j : Nat} (hk : ¬ (k = 2 ∧ j = 2) ∧ ¬ (k = 2 ∧ j = 1)) : wordH h f L a k j = h k j := by
  unfold wordH
  split <;> simp [up2, hk.1, hk.2]
theorem wordH_row {h : HB} {f : Nat → Int32} {L a k : Nat} (hk : k ≠ 2) : wordH h f L a k = h k := by
  funext j
  exact wordH_n ⟨fun z => hk z.1, fun z => hk z.1⟩
theorem wordH_w {h : HB} {f : Nat → Int32} {L a : Nat} (hw : wW f L a < 8) : wordH h f L a 2 1 = nI (wW f L a) := by
  unfold wordH
  rw [if_pos hw, up2_s]

set_option maxHeartbeats 4000000 in
set_option maxRecDepth 100000 in
theorem l_scan (E : EN) (u : U3) (r : R1) (h : HB) (f : Nat → Int32) (L s : Nat) (fb : h 4 = f) (fl : h 2 0 = nI L) (hL : L ≤ 150) (F : FX) (C : Cx E F cX4_takeWord 3 RX4 wsX4_takeWord (rmT 5 109)) : ∀ (n a : Nat), a ≤ L → L + 1 ≤ a + n → T E F 3 (ub u 5 (up2 h 2 2 (nI (lw f L n a)))) r 61 [(0, .ref (eA E 5 2)), (1, .int (nI s))] [] → T E F 3 (ub u 5 (up2 h 2 2 (nI a))) r 9 [(0, .ref (eA E 5 2)), (1, .int (nI s))] [] := by
  have hin4 : ∀ w ∈ u_ws RX4 TX4 5, w ∈ wsX4_takeWord := by decide +kernel
  intro n
  induction n with
  | zero => intro a h1 h2; exact absurd h2 (by omega)
  | succ n ih =>
    intro a h1 h2 K
    generalize ej : up2 h 2 2 (nI a) = hj
    have fl2 : hj 2 0 = nI L := by rw [← ej, up2_n (by decide)]; exact fl
    have fa : hj 2 2 = nI a := by rw [← ej, up2_s]
    have fb2 : hj 4 = f := by rw [← ej, up2_row (by decide)]; exact fb
    refine tt_aload_n C dX4_takeWord_9 rfl 0 rfl ?_
    refine tt_getI (v := nI a) C oT2 rfl hin4 4 (by decide) (List.mem_of_getElem? (i := 1) (by decide +kernel)) rfl (ub_v.trans fa) dX4_takeWord_10 ?_
    refine tt_aload_n C dX4_takeWord_13 rfl 0 rfl ?_
    refine tt_getI (v := nI L) C oT2 rfl hin4 0 (by decide) (List.mem_of_getElem? (i := 2) (by decide +kernel)) rfl (ub_v.trans fl2) dX4_takeWord_14 ?_
    refine tt_icmp_ge C (tgt := 61) dX4_takeWord_17 (by decide) (nI_leI (by omega) (by omega)) (fun c_201 => ?_) (fun c_201 => ?_)
    · skip
      have e9 : lw f L (n + 1) a = a := by rw [lw, if_neg (fun z => absurd z.1 (by omega))]
      rw [e9] at K; rw [← ej]; exact K
    · skip
      refine tt_aload_n C dX4_takeWord_20 rfl 0 rfl ?_
      refine tt_get (v := .ref (eA E 5 4)) C oT2 rfl hin4 3 (by decide) (List.mem_of_getElem? (i := 3) (by decide +kernel)) rfl dX4_takeWord_21 ?_
      refine tt_aload_n C dX4_takeWord_24 rfl 0 rfl ?_
      refine tt_getI (v := nI a) C oT2 rfl hin4 4 (by decide) (List.mem_of_getElem? (i := 1) (by decide +kernel)) rfl (ub_v.trans fa) dX4_takeWord_25 ?_
      refine tt_ialdB (v := f a) C aT4 a rfl (by omega) (congrFun fb2 a) dX4_takeWord_28 ?_
      refine tt_bipush (v := nI 97) C dX4_takeWord_29 (by decide) ?_
      refine tt_icmp_lt C (tgt := 61) dX4_takeWord_31 (by decide) Iff.rfl (fun c_202 => ?_) (fun c_202 => ?_)
      · skip
        have e9 : lw f L (n + 1) a = a := by rw [lw, if_neg (fun z => absurd c_202 z.2.1)]
        rw [e9] at K; rw [← ej]; exact K
      · skip
        refine tt_aload_n C dX4_takeWord_34 rfl 0 rfl ?_
        refine tt_get (v := .ref (eA E 5 4)) C oT2 rfl hin4 3 (by decide) (List.mem_of_getElem? (i := 3) (by decide +kernel)) rfl dX4_takeWord_35 ?_
        refine tt_aload_n C dX4_takeWord_38 rfl 0 rfl ?_
        refine tt_getI (v := nI a) C oT2 rfl hin4 4 (by decide) (List.mem_of_getElem? (i := 1) (by decide +kernel)) rfl (ub_v.trans fa) dX4_takeWord_39 ?_
        refine tt_ialdB (v := f a) C aT4 a rfl (by omega) (congrFun fb2 a) dX4_takeWord_42 ?_
        refine tt_bipush (v := nI 122) C dX4_takeWord_43 (by decide) ?_
        refine tt_icmp_gt C (tgt := 61) dX4_takeWord_45 (by decide) Iff.rfl (fun c_203 => ?_) (fun c_203 => ?_)
        · skip
          have e9 : lw f L (n + 1) a = a := by rw [lw, if_neg (fun z => absurd c_203 z.2.2)]
          rw [e9] at K; rw [← ej]; exact K
        · skip
          refine tt_aload_n C dX4_takeWord_48 rfl 0 rfl ?_
          refine tt_dup C dX4_takeWord_49 rfl ?_
          refine tt_getI (v := nI a) C oT2 rfl hin4 4 (by decide) (List.mem_of_getElem? (i := 1) (by decide +kernel)) rfl (ub_v.trans fa) dX4_takeWord_50 ?_
          refine tt_iconst (v := nI 1) C dX4_takeWord_53 (by decide) ?_
          refine tt_iadd (v := nI (a + 1)) C dX4_takeWord_54 (nI_add _ _) ?_
          refine tt_putIB C fT2_2 rfl hin4 tyX4 tyX4_ok nmX4 (by decide) (List.mem_of_getElem? (i := 1) (by decide +kernel)) (by decide +kernel) (by decide +kernel) dX4_takeWord_55 ?_
          generalize e_205 : up2 hj 2 2 (nI (a + 1)) = h_204
          refine tt_goto (tgt := 9) C dX4_takeWord_58 (by decide) ?_
          rw [← e_205, ← ej, up2_up2]
          refine ih (a + 1) (by omega) (by omega) ?_
          have e9 : lw f L (n + 1) a = lw f L n (a + 1) := by rw [lw, if_pos ⟨(by omega), c_202, c_203⟩]
          rw [← e9]; exact K

set_option maxHeartbeats 4000000 in
set_option maxRecDepth 100000 in
theorem l_find (E : EN) (u : U3) (r : R1) (h : HB) (f : Nat → Int32) (s e : Nat) (fb : h 4 = f) (fa : h 2 2 = nI e) (he : e ≤ 150) (hse : s ≤ e) (F : FX) (C : Cx E F cX4_takeWord 3 RX4 wsX4_takeWord (rmT 5 109)) : ∀ (n w : Nat), w + n = 8 → RtI E F cX4_takeWord (b2i (wfF f s e n w < 8)) (ub u 5 (if wfF f s e n w < 8 then up2 h 2 1 (nI (wfF f s e n w)) else up2 h 2 2 (nI s))) r → T E F 3 (ub u 5 h) r 63 [(0, .ref (eA E 5 2)), (1, .int (nI s)), (2, .int (nI w))] [] := by
  have hin4 : ∀ w ∈ u_ws RX4 TX4 5, w ∈ wsX4_takeWord := by decide +kernel
  intro n
  induction n with
  | zero =>
    intro w h1 K
    refine tt_iload_n C dX4_takeWord_63 rfl 2 rfl ?_
    refine tt_bipush (v := nI 8) C dX4_takeWord_64 (by decide) ?_
    refine tt_icmp_ge C (tgt := 98) dX4_takeWord_66 (by decide) (nI_leI (by omega) (by omega)) (fun c1 => ?_) (fun c1 => absurd (by omega) c1)
    refine tt_aload_n C dX4_takeWord_98 rfl 0 rfl ?_
    refine tt_iload_n C dX4_takeWord_99 rfl 1 rfl ?_
    refine tt_putIB C fT2_2 rfl hin4 tyX4 tyX4_ok nmX4 (by decide) (List.mem_of_getElem? (i := 1) (by decide +kernel)) (by decide +kernel) (by decide +kernel) dX4_takeWord_100 ?_
    refine tt_iconst (v := nI 0) C dX4_takeWord_103 (by decide) ?_
    exact tt_iret K dX4_takeWord_104 rfl rfl rfl
  | succ n ih =>
    intro w h1 K
    have hw : w < 8 := by omega
    refine tt_iload_n C dX4_takeWord_63 rfl 2 rfl ?_
    refine tt_bipush (v := nI 8) C dX4_takeWord_64 (by decide) ?_
    refine tt_icmp_ge C (tgt := 98) dX4_takeWord_66 (by decide) (nI_leI (by omega) (by omega)) (fun c1 => absurd c1 (by omega)) (fun c1 => ?_)
    refine tt_aload_n C dX4_takeWord_69 rfl 0 rfl ?_
    refine tt_iload_n C dX4_takeWord_70 rfl 2 rfl ?_
    refine tt_cSR C (c_X4_lettersOf E (ub u 5 h) r w hw) gX4_takeWord_X4_lettersOf rfl ⟨rfl, rfl⟩ 1 (by decide +kernel) ⟨Nat.le_of_ble_eq_true rfl, Nat.le_of_ble_eq_true rfl⟩ rfl (Nat.le_of_ble_eq_true rfl) dX4_takeWord_71 rfl ?_
    refine tt_iload_n C dX4_takeWord_74 rfl 1 rfl ?_
    refine tt_aload_n C dX4_takeWord_75 rfl 0 rfl ?_
    refine tt_getI (v := nI e) C oT2 rfl hin4 4 (by decide) (List.mem_of_getElem? (i := 1) (by decide +kernel)) rfl (ub_v.trans fa) dX4_takeWord_76 ?_
    refine tt_cVI C (c_X4_isSpelled E u r h f s e w fb hw he hse) gX4_takeWord_X4_isSpelled rfl ⟨rfl, rfl⟩ 3 (by decide +kernel) ⟨Nat.le_of_ble_eq_true rfl, Nat.le_of_ble_eq_true rfl⟩ rfl oT2 rfl (Nat.le_of_ble_eq_true rfl) dX4_takeWord_79 rfl ?_
    refine tt_if_eqB C (tgt := 92) dX4_takeWord_82 (by decide) (fun c2 => ?_) (fun c2 => ?_)
    · refine tt_iinc (p := 2) (v := nI (w + 1)) (lv' := [(0, .ref (eA E 5 2)), (1, .int (nI s)), (2, .int (nI (w + 1)))]) C dX4_takeWord_92 rfl (by rw [show Int32.ofInt 1 = nI 1 from by decide]; exact nI_add _ _) (by decide) [1, 2, 0] rfl ?_
      refine tt_goto (tgt := 63) C dX4_takeWord_95 (by decide) ?_
      have e9 : wfF f s e (n + 1) w = wfF f s e n (w + 1) := by rw [wfF, if_neg c2]
      rw [e9] at K
      exact ih (w + 1) (by omega) K
    · have e9 : wfF f s e (n + 1) w = w := by rw [wfF, if_pos c2]
      rw [e9] at K
      refine tt_aload_n C dX4_takeWord_85 rfl 0 rfl ?_
      refine tt_iload_n C dX4_takeWord_86 rfl 2 rfl ?_
      refine tt_putIB C fT2_1 rfl hin4 tyX4 tyX4_ok nmX4 (by decide) (List.mem_of_getElem? (i := 4) (by decide +kernel)) (by decide +kernel) (by decide +kernel) dX4_takeWord_87 ?_
      refine tt_iconst (v := nI 1) C dX4_takeWord_90 (by decide) ?_
      exact tt_iret K dX4_takeWord_91 (b1_t hw) (by rw [if_pos hw]) rfl

set_option maxHeartbeats 4000000 in
set_option maxRecDepth 100000 in
theorem c_X4_takeWord (E : EN) (u : U3) (r : R1) (h : HB) (f : Nat → Int32) (L : Nat) (a : Nat) (fb : h 4 = f) (fl : h 2 0 = nI L) (fa : h 2 2 = nI a) (hL : L ≤ 150) (ha : a ≤ L) : CT E yX4_takeWord wsX4_takeWord (rmT 5 109) [.ref (eA E 5 2)] (ub u 5 h) r (some (.int (b2i (wW f L a < 8)))) (ub u 5 (wordH h f L a)) r := by
  refine CT_ofI (cc := cX4_takeWord) (nL := 3) (own := RX4) (by decide) rfl rfl (b2i_z _) (Nat.le_of_ble_eq_true rfl) (fun F C K => ?_)
  have hin4 : ∀ w ∈ u_ws RX4 TX4 5, w ∈ wsX4_takeWord := by decide +kernel
  refine tt_to (lv1 := [(0, .ref (eA E 5 2))]) rfl rfl rfl rfl ?_
  have hs1 := skp_ge f L a
  have hs2 := skp_le f L a ha
  refine tt_aload_n C dX4_takeWord_0 rfl 0 rfl ?_
  refine tt_cVV C (c_X4_skipBlanks E u r h f L a fb fl fa hL ha) gX4_takeWord_X4_skipBlanks rfl ⟨rfl, rfl⟩ 0 (by decide +kernel) ⟨Nat.le_of_ble_eq_true rfl, Nat.le_of_ble_eq_true rfl⟩ rfl oT2 rfl (Nat.le_of_ble_eq_true rfl) dX4_takeWord_1 rfl ?_
  generalize e_2 : up2 h 2 2 (nI (skp f L a)) = h_1
  refine tt_aload_n C dX4_takeWord_4 rfl 0 rfl ?_
  refine tt_getI (v := nI (skp f L a)) C oT2 rfl hin4 4 (by decide) (List.mem_of_getElem? (i := 1) (by decide +kernel)) rfl (ub_v.trans (by rw [← e_2]; exact up2_s _ _ _ _)) dX4_takeWord_5 ?_
  refine tt_istore_n (lv' := [(0, .ref (eA E 5 2)), (1, .int (nI (skp f L a)))]) C dX4_takeWord_8 rfl (by decide) [1, 0] rfl ?_
  rw [← e_2]
  refine l_scan E u r h f L (skp f L a) fb fl hL F C 152 (skp f L a) hs2 (by omega) ?_
  refine tt_iconst (v := nI 0) C dX4_takeWord_61 (by decide) ?_
  refine tt_istore_n (lv' := [(0, .ref (eA E 5 2)), (1, .int (nI (skp f L a))), (2, .int (nI 0))]) C dX4_takeWord_62 rfl (by decide) [1, 2, 0] rfl ?_
  refine l_find E u r _ f (skp f L a) (wE f L a) (by rw [up2_row (by decide)]; exact fb) (up2_s _ _ _ _) (Nat.le_trans (wE_le f L a ha) hL) (wE_ge f L a) F C 8 0 rfl ?_
  have e9 : wordH h f L a = if wW f L a < 8 then up2 (up2 h 2 2 (nI (wE f L a))) 2 1 (nI (wW f L a)) else up2 (up2 h 2 2 (nI (wE f L a))) 2 2 (nI (skp f L a)) := by rw [up2_up2]; rfl
  rw [e9] at K
  exact K

def dueN (w : Nat) : Nat := ([1, 4, 2, 2, 1, 1, 1, 1] : List Nat).getD w 0
theorem due_ok : ∀ w, w < 8 → sxN w = nI (dueN w) ∧ dueN w ≤ 4 := by decide
def nA (f : Nat → Int32) (L : Nat) : Nat → Nat → Nat
  | 0, a => a
  | n + 1, a => if numR f L a then nA f L n (numA f L a) else numA f L a
def nR (f : Nat → Int32) (L : Nat) : Nat → Nat → Bool
  | 0, _ => true
  | n + 1, a => if numR f L a then nR f L n (numA f L a) else false
def nH (f : Nat → Int32) (L : Nat) : Nat → HB → Nat → Nat → HB
  | 0, h, _, _ => h
  | n + 1, h, k, a => if numR f L a then nH f L n (numH h k f L a) (k + 1) (numA f L a) else numH h k f L a
theorem nA_ge (f : Nat → Int32) (L : Nat) : ∀ n a, a ≤ nA f L n a
  | 0, a => Nat.le_refl a
  | n + 1, a => by
    have := numA_ge f L a
    unfold nA
    split
    · exact Nat.le_trans this (nA_ge f L n _)
    · exact this
theorem nA_le (f : Nat → Int32) (L : Nat) : ∀ n a, a ≤ L → nA f L n a ≤ L
  | 0, a, h => h
  | n + 1, a, h => by
    have := numA_le f L a h
    unfold nA
    split
    · exact nA_le f L n _ this
    · exact this
theorem nH_n (f : Nat → Int32) (L : Nat) : ∀ n (h : HB) k a {k' j' : Nat}, (¬ (k' = 2 ∧ j' = 2) ∧ k' ≠ 3) → nH f L n h k a k' j' = h k' j'
  | 0, h, k, a, k', j', _ => rfl
  | n + 1, h, k, a, k', j', hk => by
    unfold nH
    split
    · rw [nH_n f L n _ _ _ hk, numH_n hk]
    · exact numH_n hk
theorem nH_at (f : Nat → Int32) (L : Nat) : ∀ n (h : HB) k a, h 2 2 = nI a → nH f L n h k a 2 2 = nI (nA f L n a)
  | 0, h, k, a, e => e
  | n + 1, h, k, a, e => by
    unfold nH nA
    split
    · exact nH_at f L n _ _ _ numH_at
    · exact numH_at
theorem nH_row (f : Nat → Int32) (L : Nat) (n : Nat) (h : HB) (k a : Nat) {k' : Nat} (hk : k' ≠ 2 ∧ k' ≠ 3) : nH f L n h k a k' = h k' := by
  funext j
  exact nH_n f L n h k a ⟨fun z => hk.1 z.1, hk.2⟩
def oW (f : Nat → Int32) (L a : Nat) : Nat := wordA f L a
def oN (f : Nat → Int32) (L a : Nat) : Nat := nA f L (dueN (wW f L a)) (wordA f L a)
abbrev ordR (f : Nat → Int32) (L a : Nat) : Prop := wW f L a < 8 ∧ nR f L (dueN (wW f L a)) (wordA f L a) = true ∧ endR f L (oN f L a)
def ordA (f : Nat → Int32) (L a : Nat) : Nat := if ¬ wW f L a < 8 then wordA f L a else if ¬ nR f L (dueN (wW f L a)) (wordA f L a) = true then oN f L a else endA f L (oN f L a)
def endNH (f : Nat → Int32) (L n : Nat) (h : HB) (k a : Nat) : HB := if nR f L n a = true then up2 (nH f L n h k a) 2 2 (nI (endA f L (nA f L n a))) else nH f L n h k a
def ordH (h : HB) (f : Nat → Int32) (L a : Nat) : HB := if ¬ wW f L a < 8 then wordH h f L a else endNH f L (dueN (wW f L a)) (wordH h f L a) 0 (wordA f L a)
theorem endNH_n {f : Nat → Int32} {L n : Nat} {h : HB} {k a k' j' : Nat} (hk : ¬ (k' = 2 ∧ j' = 2) ∧ k' ≠ 3) : endNH f L n h k a k' j' = h k' j' := by
  unfold endNH
  split
  · rw [up2_n hk.1, nH_n _ _ _ _ _ _ hk]
  · exact nH_n _ _ _ _ _ _ hk
theorem ordH_n {h : HB} {f : Nat → Int32} {L a k j : Nat} (hk : ¬ (k = 2 ∧ j = 2) ∧ ¬ (k = 2 ∧ j = 1) ∧ k ≠ 3) : ordH h f L a k j = h k j := by
  unfold ordH
  split
  · exact wordH_n ⟨hk.1, hk.2.1⟩
  · rw [endNH_n ⟨hk.1, hk.2.2⟩, wordH_n ⟨hk.1, hk.2.1⟩]
theorem ordH_row {h : HB} {f : Nat → Int32} {L a k : Nat} (hk : k ≠ 2 ∧ k ≠ 3) : ordH h f L a k = h k := by
  funext j
  exact ordH_n ⟨fun z => hk.1 z.1, fun z => hk.1 z.1, hk.2⟩
theorem ordH_at {h : HB} {f : Nat → Int32} {L a : Nat} : ordH h f L a 2 2 = nI (ordA f L a) := by
  unfold ordH ordA
  split
  · exact wordH_at
  · unfold endNH
    split
    · rw [up2_s]; rfl
    · rw [nH_at _ _ _ _ _ _ wordH_at]; rfl
theorem ordA_le (f : Nat → Int32) (L a : Nat) (h : a ≤ L) : ordA f L a ≤ L := by
  have h1 := wordA_le f L a h
  have h2 := nA_le f L (dueN (wW f L a)) _ h1
  have h3 := endA_le f L (oN f L a) h2
  unfold ordA
  repeat' split
  all_goals first | exact h1 | exact h2 | exact h3
theorem ordA_ge (f : Nat → Int32) (L a : Nat) : a ≤ ordA f L a := by
  have h1 := wordA_ge f L a
  have h2 := nA_ge f L (dueN (wW f L a)) (wordA f L a)
  have h3 := endA_ge f L (oN f L a)
  have h4 : oN f L a = nA f L (dueN (wW f L a)) (wordA f L a) := rfl
  unfold ordA
  repeat' split
  all_goals omega

set_option maxHeartbeats 4000000 in
set_option maxRecDepth 100000 in
theorem l_nums (E : EN) (u : U3) (r : R1) (f : Nat → Int32) (L D : Nat) (hL : L ≤ 150) (hD : D ≤ 4) (F : FX) (C : Cx E F cX4_takeOrder 3 RX4 wsX4_takeOrder (rmT 6 131)) : ∀ (n k : Nat) (h : HB) (a : Nat), k + n = D → h 4 = f → h 2 0 = nI L → h 2 2 = nI a → a ≤ L → RtI E F cX4_takeOrder (b2i (nR f L n a = true ∧ endR f L (nA f L n a))) (ub u 5 (endNH f L n h k a)) r → T E F 3 (ub u 5 h) r 20 [(0, .ref (eA E 5 2)), (1, .int (nI D)), (2, .int (nI k))] [] := by
  intro n
  induction n with
  | zero =>
    intro k h a h1 fb fl fa ha K
    refine tt_iload_n C dX4_takeOrder_20 rfl 2 rfl ?_
    refine tt_iload_n C dX4_takeOrder_21 rfl 1 rfl ?_
    refine tt_icmp_ge C (tgt := 41) dX4_takeOrder_22 (by decide) (nI_leI (by omega) (by omega)) (fun c1 => ?_) (fun c1 => absurd (by omega) c1)
    refine tt_aload_n C dX4_takeOrder_41 rfl 0 rfl ?_
    refine tt_cVI C (c_X4_takeEnd E u r h f L a fb fl fa hL ha) gX4_takeOrder_X4_takeEnd rfl ⟨rfl, rfl⟩ 0 (by decide +kernel) ⟨Nat.le_of_ble_eq_true rfl, Nat.le_of_ble_eq_true rfl⟩ rfl oT2 rfl (Nat.le_of_ble_eq_true rfl) dX4_takeOrder_42 rfl ?_
    refine tt_iret K dX4_takeOrder_45 ?_ rfl rfl
    by_cases q : endR f L a
    · rw [b2i_t q, b2i_t ⟨rfl, q⟩]
    · rw [b2i_f q, b2i_f (fun z => q z.2)]
  | succ n ih =>
    intro k h a h1 fb fl fa ha K
    refine tt_iload_n C dX4_takeOrder_20 rfl 2 rfl ?_
    refine tt_iload_n C dX4_takeOrder_21 rfl 1 rfl ?_
    refine tt_icmp_ge C (tgt := 41) dX4_takeOrder_22 (by decide) (nI_leI (by omega) (by omega)) (fun c1 => absurd c1 (by omega)) (fun c1 => ?_)
    refine tt_aload_n C dX4_takeOrder_25 rfl 0 rfl ?_
    refine tt_iload_n C dX4_takeOrder_26 rfl 2 rfl ?_
    refine tt_cVI C (c_X4_takeNumber E u r h f L a k fb fl fa hL ha (by omega)) gX4_takeOrder_X4_takeNumber rfl ⟨rfl, rfl⟩ 1 (by decide +kernel) ⟨Nat.le_of_ble_eq_true rfl, Nat.le_of_ble_eq_true rfl⟩ rfl oT2 rfl (Nat.le_of_ble_eq_true rfl) dX4_takeOrder_27 rfl ?_
    refine tt_if_neB C (tgt := 35) dX4_takeOrder_30 (by decide) (fun c2 => ?_) (fun c2 => ?_)
    · refine tt_iinc (p := 2) (v := nI (k + 1)) (lv' := [(0, .ref (eA E 5 2)), (1, .int (nI D)), (2, .int (nI (k + 1)))]) C dX4_takeOrder_35 rfl (by rw [show Int32.ofInt 1 = nI 1 from by decide]; exact nI_add _ _) (by decide) [1, 2, 0] rfl ?_
      refine tt_goto (tgt := 20) C dX4_takeOrder_38 (by decide) ?_
      refine ih (k + 1) _ (numA f L a) (by omega) (by rw [numH_row (by decide)]; exact fb) (by rw [numH_n (by simp)]; exact fl) numH_at (numA_le f L a ha) ?_
      have e1 : nR f L (n + 1) a = nR f L n (numA f L a) := by rw [nR, if_pos c2]
      have e2 : nA f L (n + 1) a = nA f L n (numA f L a) := by rw [nA, if_pos c2]
      have e3 : nH f L (n + 1) h k a = nH f L n (numH h k f L a) (k + 1) (numA f L a) := by rw [nH, if_pos c2]
      unfold endNH at K ⊢
      rw [e1, e2, e3] at K
      exact K
    · refine tt_iconst (v := nI 0) C dX4_takeOrder_33 (by decide) ?_
      have e1 : nR f L (n + 1) a = false := by rw [nR, if_neg c2]
      have e3 : nH f L (n + 1) h k a = numH h k f L a := by rw [nH, if_neg c2]
      have e4 : endNH f L (n + 1) h k a = numH h k f L a := by unfold endNH; rw [e1, e3]; rfl
      refine tt_iret K dX4_takeOrder_34 (b1_f (fun z => ?_)) (by rw [e4]) rfl
      rw [e1] at z
      exact Bool.noConfusion z.1

set_option maxHeartbeats 4000000 in
set_option maxRecDepth 100000 in
theorem c_X4_takeOrder (E : EN) (u : U3) (r : R1) (h : HB) (f : Nat → Int32) (L : Nat) (a : Nat) (fb : h 4 = f) (fl : h 2 0 = nI L) (fa : h 2 2 = nI a) (hL : L ≤ 150) (ha : a ≤ L) : CT E yX4_takeOrder wsX4_takeOrder (rmT 6 131) [.ref (eA E 5 2)] (ub u 5 h) r (some (.int (b2i (wW f L a < 8 ∧ nR f L (dueN (wW f L a)) (wordA f L a) = true ∧ endR f L (oN f L a))))) (ub u 5 (ordH h f L a)) r := by
  refine CT_ofI (cc := cX4_takeOrder) (nL := 3) (own := RX4) (by decide) rfl rfl (b2i_z _) (Nat.le_of_ble_eq_true rfl) (fun F C K => ?_)
  have hin4 : ∀ w ∈ u_ws RX4 TX4 5, w ∈ wsX4_takeOrder := by decide +kernel
  refine tt_to (lv1 := [(0, .ref (eA E 5 2))]) rfl rfl rfl rfl ?_
  refine tt_aload_n C dX4_takeOrder_0 rfl 0 rfl ?_
  refine tt_cVI C (c_X4_takeWord E u r h f L a fb fl fa hL ha) gX4_takeOrder_X4_takeWord rfl ⟨rfl, rfl⟩ 0 (by decide +kernel) ⟨Nat.le_of_ble_eq_true rfl, Nat.le_of_ble_eq_true rfl⟩ rfl oT2 rfl (Nat.le_of_ble_eq_true rfl) dX4_takeOrder_1 rfl ?_
  generalize e_2 : wordH h f L a = h_1
  refine tt_if_neB C (tgt := 9) dX4_takeOrder_4 (by decide) (fun c_3 => ?_) (fun c_3 => ?_)
  · skip
    obtain ⟨hd1, hd2⟩ := due_ok (wW f L a) c_3
    refine tt_getsN C C.2.2.2.2.2.2.2.2.2.2.2.1.2.2.1 C.2.2.2.2.2.2.2.2.2.2.1.2.2.2.2.2.2.2.2 dX4_takeOrder_9 ?_
    refine tt_aload_n C dX4_takeOrder_12 rfl 0 rfl ?_
    refine tt_getI (v := nI (wW f L a)) C oT2 rfl hin4 1 (by decide) (List.mem_of_getElem? (i := 1) (by decide +kernel)) rfl (ub_v.trans (by rw [← e_2]; exact wordH_w c_3)) dX4_takeOrder_13 ?_
    refine tt_ialdT (v := nI (dueN (wW f L a))) C C.2.2.2.2.2.2.2.2.2.2.2.1.2.2.2.1 (wW f L a) rfl c_3 (by decide) (congrArg Value.int hd1) dX4_takeOrder_16 ?_
    refine tt_istore_n (lv' := [(0, .ref (eA E 5 2)), (1, .int (nI (dueN (wW f L a))))]) C dX4_takeOrder_17 rfl (by decide) [1, 0] rfl ?_
    refine tt_iconst (v := nI 0) C dX4_takeOrder_18 (by decide) ?_
    refine tt_istore_n (lv' := [(0, .ref (eA E 5 2)), (1, .int (nI (dueN (wW f L a)))), (2, .int (nI 0))]) C dX4_takeOrder_19 rfl (by decide) [1, 2, 0] rfl ?_
    rw [← e_2]
    refine l_nums E u r f L (dueN (wW f L a)) hL hd2 F C (dueN (wW f L a)) 0 _ (wordA f L a) (by omega) (by rw [wordH_row (by decide)]; exact fb) (by rw [wordH_n (by simp)]; exact fl) wordH_at (wordA_le f L a ha) ?_
    have e8 : ordH h f L a = endNH f L (dueN (wW f L a)) (wordH h f L a) 0 (wordA f L a) := by unfold ordH; rw [if_neg (fun z => z c_3)]
    have e9 : b2i (wW f L a < 8 ∧ nR f L (dueN (wW f L a)) (wordA f L a) = true ∧ endR f L (oN f L a)) = b2i (nR f L (dueN (wW f L a)) (wordA f L a) = true ∧ endR f L (nA f L (dueN (wW f L a)) (wordA f L a))) := by
      by_cases q : nR f L (dueN (wW f L a)) (wordA f L a) = true ∧ endR f L (nA f L (dueN (wW f L a)) (wordA f L a))
      · rw [b2i_t q, b2i_t ⟨c_3, q⟩]
      · rw [b2i_f q, b2i_f (fun z => q z.2)]
    rw [e8, e9] at K
    exact K
  · skip
    refine tt_iconst (v := nI 0) C dX4_takeOrder_7 (by decide) ?_
    exact tt_iret K dX4_takeOrder_8 (by subst e_2; exact b1_f (by first | (simp only [c_3, not_false_eq_true, not_true_eq_false, and_true, true_and, and_false, false_and, and_self, or_true, true_or, or_false, false_or, or_self, if_true, if_false]; done) | grind)) (by subst e_2; first | rfl | (unfold ordH; rw [if_pos (by assumption)])) rfl

def ffX (f : Nat → Int32) (L : Nat) : Nat → Nat → Bool × Nat
  | 0, a => (true, a)
  | n + 1, a => if ¬ skp f L a < L then (true, skp f L a) else if ordR f L (skp f L a) then ffX f L n (ordA f L (skp f L a)) else (false, ordA f L (skp f L a))
def ffH (f : Nat → Int32) (L : Nat) : Nat → HB → Nat → HB
  | 0, h, _ => h
  | n + 1, h, a => if ¬ skp f L a < L then up2 h 2 2 (nI (skp f L a)) else if ordR f L (skp f L a) then ffH f L n (ordH (up2 h 2 2 (nI (skp f L a))) f L (skp f L a)) (ordA f L (skp f L a)) else ordH (up2 h 2 2 (nI (skp f L a))) f L (skp f L a)
def ffR (f : Nat → Int32) (L : Nat) : Int32 := if ¬ ordR f L 0 then nI (ordA f L 0) else if (ffX f L 150 (ordA f L 0)).1 = true then -1 else nI (ffX f L 150 (ordA f L 0)).2
def ffS (h : HB) (f : Nat → Int32) (L : Nat) : HB := if ¬ ordR f L 0 then ordH (up2 h 2 2 (nI 0)) f L 0 else ffH f L 150 (ordH (up2 h 2 2 (nI 0)) f L 0) (ordA f L 0)
theorem ffH_n (f : Nat → Int32) (L : Nat) : ∀ n (h : HB) a {k j : Nat}, (¬ (k = 2 ∧ j = 2) ∧ ¬ (k = 2 ∧ j = 1) ∧ k ≠ 3) → ffH f L n h a k j = h k j
  | 0, h, a, k, j, _ => rfl
  | n + 1, h, a, k, j, hk => by
    unfold ffH
    repeat' split
    · exact up2_n hk.1
    · rw [ffH_n f L n _ _ hk, ordH_n hk, up2_n hk.1]
    · rw [ordH_n hk, up2_n hk.1]
theorem ffS_n {h : HB} {f : Nat → Int32} {L k j : Nat} (hk : ¬ (k = 2 ∧ j = 2) ∧ ¬ (k = 2 ∧ j = 1) ∧ k ≠ 3) : ffS h f L k j = h k j := by
  unfold ffS
  split
  · rw [ordH_n hk, up2_n hk.1]
  · rw [ffH_n _ _ _ _ _ hk, ordH_n hk, up2_n hk.1]

set_option maxHeartbeats 4000000 in
set_option maxRecDepth 100000 in
theorem l_ffbad (E : EN) (u : U3) (r : R1) (h : HB) (a k : Nat) (hk : k ≤ 150) (fa : h 2 2 = nI a) (F : FX) (C : Cx E F cX4_findFault 3 RX4 wsX4_findFault (rmT 7 153)) (K : RtI E F cX4_findFault (nI a) (ub u 5 h) r) : T E F 3 (ub u 5 h) r 11 [(0, .ref (eA E 5 2)), (1, .int (nI 0)), (2, .int (nI k))] [] := by
  have hin4 : ∀ w ∈ u_ws RX4 TX4 5, w ∈ wsX4_findFault := by decide +kernel
  have tail : T E F 3 (ub u 5 h) r 40 [(0, .ref (eA E 5 2)), (1, .int (nI 0)), (2, .int (nI k))] [] := by
    refine tt_iload_n C dX4_findFault_40 rfl 1 rfl ?_
    refine tt_if_eq C (tgt := 48) dX4_findFault_41 (by decide) (nI_eq0 (by decide)) (fun _ => ?_) (fun z => absurd rfl z)
    refine tt_aload_n C dX4_findFault_48 rfl 0 rfl ?_
    refine tt_getI (v := nI a) C oT2 rfl hin4 4 (by decide) (List.mem_of_getElem? (i := 1) (by decide +kernel)) rfl (ub_v.trans fa) dX4_findFault_49 ?_
    exact tt_iret K dX4_findFault_52 rfl rfl rfl
  refine tt_iload_n C dX4_findFault_11 rfl 2 rfl ?_
  refine tt_sipush (v := nI 150) C dX4_findFault_12 (by decide) ?_
  refine tt_icmp_ge C (tgt := 40) dX4_findFault_15 (by decide) (nI_leI (by omega) (by omega)) (fun _ => tail) (fun _ => ?_)
  refine tt_iload_n C dX4_findFault_18 rfl 1 rfl ?_
  exact tt_if_eq C (tgt := 40) dX4_findFault_19 (by decide) (nI_eq0 (by decide)) (fun _ => tail) (fun z => absurd rfl z)
set_option maxHeartbeats 4000000 in
set_option maxRecDepth 100000 in
theorem l_ff (E : EN) (u : U3) (r : R1) (f : Nat → Int32) (L : Nat) (hL : L ≤ 150) (F : FX) (C : Cx E F cX4_findFault 3 RX4 wsX4_findFault (rmT 7 153)) : ∀ (n k : Nat) (h : HB) (a : Nat), k + n = 150 → h 4 = f → h 2 0 = nI L → h 2 2 = nI a → a ≤ L → RtI E F cX4_findFault (if (ffX f L n a).1 = true then -1 else nI (ffX f L n a).2) (ub u 5 (ffH f L n h a)) r → T E F 3 (ub u 5 h) r 11 [(0, .ref (eA E 5 2)), (1, .int (nI 1)), (2, .int (nI k))] [] := by
  intro n
  induction n with
  | zero =>
    intro k h a h1 fb fl fa ha K
    refine tt_iload_n C dX4_findFault_11 rfl 2 rfl ?_
    refine tt_sipush (v := nI 150) C dX4_findFault_12 (by decide) ?_
    refine tt_icmp_ge C (tgt := 40) dX4_findFault_15 (by decide) (nI_leI (by omega) (by omega)) (fun _ => ?_) (fun z => absurd (by omega) z)
    refine tt_iload_n C dX4_findFault_40 rfl 1 rfl ?_
    refine tt_if_eq C (tgt := 48) dX4_findFault_41 (by decide) (nI_eq0 (by decide)) (fun z => absurd z (by decide)) (fun _ => ?_)
    refine tt_iconst (v := (-1 : Int32)) C dX4_findFault_44 (by decide) ?_
    refine tt_goto (tgt := 52) C dX4_findFault_45 (by decide) ?_
    exact tt_iret K dX4_findFault_52 rfl rfl rfl
  | succ n ih =>
    intro k h a h1 fb fl fa ha K
    refine tt_iload_n C dX4_findFault_11 rfl 2 rfl ?_
    refine tt_sipush (v := nI 150) C dX4_findFault_12 (by decide) ?_
    refine tt_icmp_ge C (tgt := 40) dX4_findFault_15 (by decide) (nI_leI (by omega) (by omega)) (fun z => absurd z (by omega)) (fun _ => ?_)
    refine tt_iload_n C dX4_findFault_18 rfl 1 rfl ?_
    refine tt_if_eq C (tgt := 40) dX4_findFault_19 (by decide) (nI_eq0 (by decide)) (fun z => absurd z (by decide)) (fun _ => ?_)
    refine tt_aload_n C dX4_findFault_22 rfl 0 rfl ?_
    refine tt_cVI C (c_X4_hasMore E u r h f L a fb fl fa hL ha) gX4_findFault_X4_hasMore rfl ⟨rfl, rfl⟩ 0 (by decide +kernel) ⟨Nat.le_of_ble_eq_true rfl, Nat.le_of_ble_eq_true rfl⟩ rfl oT2 rfl (Nat.le_of_ble_eq_true rfl) dX4_findFault_23 rfl ?_
    refine tt_if_eqB C (tgt := 40) dX4_findFault_26 (by decide) (fun c2 => ?_) (fun c2 => ?_)
    · refine tt_iload_n C dX4_findFault_40 rfl 1 rfl ?_
      refine tt_if_eq C (tgt := 48) dX4_findFault_41 (by decide) (nI_eq0 (by decide)) (fun z => absurd z (by decide)) (fun _ => ?_)
      refine tt_iconst (v := (-1 : Int32)) C dX4_findFault_44 (by decide) ?_
      refine tt_goto (tgt := 52) C dX4_findFault_45 (by decide) ?_
      refine tt_iret K dX4_findFault_52 ?_ ?_ rfl
      · rw [ffX, if_pos c2]; rfl
      · rw [ffH, if_pos c2]
    · refine tt_aload_n C dX4_findFault_29 rfl 0 rfl ?_
      refine tt_cVI C (c_X4_takeOrder E u r _ f L (skp f L a) (by rw [up2_row (by decide)]; exact fb) (by rw [up2_n (by decide)]; exact fl) (up2_s _ _ _ _) hL (skp_le f L a ha)) gX4_findFault_X4_takeOrder rfl ⟨rfl, rfl⟩ 0 (by decide +kernel) ⟨Nat.le_of_ble_eq_true rfl, Nat.le_of_ble_eq_true rfl⟩ rfl oT2 rfl (Nat.le_of_ble_eq_true rfl) dX4_findFault_30 rfl ?_
      refine tt_istore_n (lv' := [(0, .ref (eA E 5 2)), (1, .int (b2i (ordR f L (skp f L a)))), (2, .int (nI k))]) C dX4_findFault_33 rfl (by decide) [1, 0, 2] rfl ?_
      refine tt_iinc (p := 2) (v := nI (k + 1)) (lv' := [(0, .ref (eA E 5 2)), (1, .int (b2i (ordR f L (skp f L a)))), (2, .int (nI (k + 1)))]) C dX4_findFault_34 rfl (by rw [show Int32.ofInt 1 = nI 1 from by decide]; exact nI_add _ _) (by decide) [1, 2, 0] rfl ?_
      refine tt_goto (tgt := 11) C dX4_findFault_37 (by decide) ?_
      by_cases c3 : ordR f L (skp f L a)
      · rw [← b1_t c3]
        refine ih (k + 1) _ (ordA f L (skp f L a)) (by omega) (by rw [ordH_row (by decide), up2_row (by decide)]; exact fb) (by rw [ordH_n (by simp), up2_n (by decide)]; exact fl) ordH_at (ordA_le f L _ (skp_le f L a ha)) ?_
        have e1 : ffX f L (n + 1) a = ffX f L n (ordA f L (skp f L a)) := by rw [ffX, if_neg (fun z : ¬ skp f L a < L => z c2), if_pos c3]
        have e2 : ffH f L (n + 1) h a = ffH f L n (ordH (up2 h 2 2 (nI (skp f L a))) f L (skp f L a)) (ordA f L (skp f L a)) := by rw [ffH, if_neg (fun z : ¬ skp f L a < L => z c2), if_pos c3]
        rw [e1, e2] at K
        exact K
      · rw [← b1_f c3]
        refine l_ffbad E u r _ (ordA f L (skp f L a)) (k + 1) (by omega) ordH_at F C ?_
        have e1 : ffX f L (n + 1) a = (false, ordA f L (skp f L a)) := by rw [ffX, if_neg (fun z : ¬ skp f L a < L => z c2), if_neg c3]
        have e2 : ffH f L (n + 1) h a = ordH (up2 h 2 2 (nI (skp f L a))) f L (skp f L a) := by rw [ffH, if_neg (fun z : ¬ skp f L a < L => z c2), if_neg c3]
        rw [e1, e2] at K
        exact K
set_option maxHeartbeats 4000000 in
set_option maxRecDepth 100000 in
theorem c_X4_findFault (E : EN) (u : U3) (r : R1) (h : HB) (f : Nat → Int32) (L : Nat) (fb : h 4 = f) (fl : h 2 0 = nI L) (hL : L ≤ 150) : CT E yX4_findFault wsX4_findFault (rmT 7 153) [.ref (eA E 5 2)] (ub u 5 h) r (some (.int (ffR f L))) (ub u 5 (ffS h f L)) r := by
  refine CT_ofI (cc := cX4_findFault) (nL := 3) (own := RX4) (by decide) rfl rfl rfl (Nat.le_of_ble_eq_true rfl) (fun F C K => ?_)
  refine tt_to (lv1 := [(0, .ref (eA E 5 2))]) rfl rfl rfl rfl ?_
  refine tt_aload_n C dX4_findFault_0 rfl 0 rfl ?_
  refine tt_cVV C (c_X4_restart E u r h) gX4_findFault_X4_restart rfl ⟨rfl, rfl⟩ 0 (by decide +kernel) ⟨Nat.le_of_ble_eq_true rfl, Nat.le_of_ble_eq_true rfl⟩ rfl oT2 rfl (Nat.le_of_ble_eq_true rfl) dX4_findFault_1 rfl ?_
  refine tt_aload_n C dX4_findFault_4 rfl 0 rfl ?_
  refine tt_cVI C (c_X4_takeOrder E u r _ f L 0 (by rw [up2_row (by decide)]; exact fb) (by rw [up2_n (by decide)]; exact fl) (up2_s _ _ _ _) hL (Nat.zero_le _)) gX4_findFault_X4_takeOrder rfl ⟨rfl, rfl⟩ 0 (by decide +kernel) ⟨Nat.le_of_ble_eq_true rfl, Nat.le_of_ble_eq_true rfl⟩ rfl oT2 rfl (Nat.le_of_ble_eq_true rfl) dX4_findFault_5 rfl ?_
  refine tt_istore_n (lv' := [(0, .ref (eA E 5 2)), (1, .int (b2i (ordR f L 0)))]) C dX4_findFault_8 rfl (by decide) [1, 0] rfl ?_
  refine tt_iconst (v := nI 0) C dX4_findFault_9 (by decide) ?_
  refine tt_istore_n (lv' := [(0, .ref (eA E 5 2)), (1, .int (b2i (ordR f L 0))), (2, .int (nI 0))]) C dX4_findFault_10 rfl (by decide) [1, 2, 0] rfl ?_
  by_cases c3 : ordR f L 0
  · rw [← b1_t c3]
    refine l_ff E u r f L hL F C 150 0 _ (ordA f L 0) rfl (by rw [ordH_row (by decide), up2_row (by decide)]; exact fb) (by rw [ordH_n (by simp), up2_n (by decide)]; exact fl) ordH_at (ordA_le f L _ (Nat.zero_le _)) ?_
    unfold ffR ffS at K
    rw [if_neg (fun z : ¬ ordR f L 0 => z c3), if_neg (fun z : ¬ ordR f L 0 => z c3)] at K
    exact K
  · rw [← b1_f c3]
    refine l_ffbad E u r _ (ordA f L 0) 0 (by decide) ordH_at F C ?_
    unfold ffR ffS at K
    rw [if_pos c3, if_pos c3] at K
    exact K
