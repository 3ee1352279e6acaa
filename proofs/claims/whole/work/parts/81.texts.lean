/-! THE TEXT, read by both -/
theorem sk_stop (f : Nat → Int32) (L : Nat) : ∀ n a, L < a + n → ¬ (sk f L n a < L ∧ f (sk f L n a) = nI 32)
  | 0, a, h => fun z => absurd z.1 (by show ¬ a < L; omega)
  | n + 1, a, h => by
    by_cases c : a < L ∧ f a = nI 32
    · rw [sk, if_pos c]; exact sk_stop f L n (a + 1) (by omega)
    · rw [sk, if_neg c]; exact c
theorem skp_fix (f : Nat → Int32) (L a : Nat) (h : ¬ (a < L ∧ f a = nI 32)) : skp f L a = a := by
  show sk f L (151 + 1) a = a
  rw [sk, if_neg h]
theorem skp_idem (f : Nat → Int32) (L a : Nat) (hL : L ≤ 150) : skp f L (skp f L a) = skp f L a := skp_fix f L _ (sk_stop f L 152 a (by omega))
section TX
variable {f : Nat → Int32} {L : Nat}
theorem wW_s (hL : L ≤ 150) (a : Nat) : wW f L (skp f L a) = wW f L a := by unfold wW wE; rw [skp_idem f L a hL]
theorem wordA_s (hL : L ≤ 150) (a : Nat) : wordA f L (skp f L a) = wordA f L a := by unfold wordA wE; rw [wW_s hL, skp_idem f L a hL]
theorem oN_s (hL : L ≤ 150) (a : Nat) : oN f L (skp f L a) = oN f L a := by unfold oN; rw [wW_s hL, wordA_s hL]
theorem ordA_s (hL : L ≤ 150) (a : Nat) : ordA f L (skp f L a) = ordA f L a := by unfold ordA; rw [wW_s hL, wordA_s hL, oN_s hL]
theorem ordR_s (hL : L ≤ 150) (a : Nat) : ordR f L (skp f L a) ↔ ordR f L a := by unfold ordR; rw [wW_s hL, wordA_s hL, oN_s hL]
theorem oD_eq {a : Nat} (ha : skp f L a = a) (hw : wW f L a < 8) : M_oD f L a = dueN (wW f L a) ∧ M_oW f L a = nI (wW f L a) ∧ lw f L 152 a = wordA f L a := by
  have e := oW_eq f L a ha
  rw [if_pos hw] at e
  refine ⟨?_, e, ?_⟩
  · unfold M_oD
    rw [e, ix_nI (by omega)]
    exact (due_eq _ hw).1
  · unfold wordA wE
    rw [if_pos hw, ha]
theorem mR_eq {a : Nat} (ha : skp f L a = a) : M_ordR f L a ↔ ordR f L a := by
  by_cases hw : wW f L a < 8
  · obtain ⟨e1, e2, e3⟩ := oD_eq ha hw
    unfold M_ordR ordR oN
    rw [e1, e2, e3]
    exact ⟨fun z => ⟨hw, z.2⟩, fun z => ⟨nI_n1 (by omega), z.2⟩⟩
  · have e := oW_eq f L a ha
    rw [if_neg hw] at e
    exact ⟨fun z => absurd e z.1, fun z => absurd z.1 hw⟩
theorem mA_eq {a : Nat} (ha : skp f L a = a) : M_ordA f L a = ordA f L a := by
  unfold M_ordA ordA
  by_cases hw : wW f L a < 8
  · obtain ⟨e1, e2, e3⟩ := oD_eq ha hw
    unfold oN
    rw [if_neg (show ¬ M_oW f L a = -1 by rw [e2]; exact nI_n1 (by omega)), if_neg (show ¬ ¬ wW f L a < 8 from fun z => z hw), e1, e3]
    by_cases c : nR f L (dueN (wW f L a)) (wordA f L a) = true
    · rw [if_pos c, if_neg (show ¬ ¬ nR f L (dueN (wW f L a)) (wordA f L a) = true from fun z => z c)]
    · rw [if_neg c, if_pos c]
  · have e := oW_eq f L a ha
    rw [if_neg hw] at e
    rw [if_pos e, if_pos hw]
    unfold wordA
    rw [if_neg hw, ha]
theorem ordA_gt {a : Nat} (h : ordR f L a) : a + 1 + dueN (wW f L a) ≤ ordA f L a := by
  obtain ⟨h1, h2, h3⟩ := h
  have a1 := skp_ge f L a
  have a2 := wE_ge f L a
  have a3 : wordA f L a = wE f L a := if_pos h1
  have a4 := nA_gt f L (dueN (wW f L a)) (wordA f L a) h2
  have a5 : oN f L a = nA f L (dueN (wW f L a)) (wordA f L a) := rfl
  have a6 : endA f L (oN f L a) = skp f L (oN f L a) + 1 := if_pos h3
  have a7 := skp_ge f L (oN f L a)
  unfold ordA
  rw [if_neg (fun z => z h1), if_neg (fun z => z h2)]
  omega
def cO (f : Nat → Int32) (L : Nat) : Nat → Nat
  | 0 => 0
  | j + 1 => cO f L j + dueN (cW f L j)
abbrev cV (f : Nat → Int32) (L j i : Nat) : Int32 := numV f L (nA f L i (wordA f L (cQ f L j)))
abbrev gd (f : Nat → Int32) (L j : Nat) : Prop := cQ f L j < L ∧ ordR f L (cQ f L j)
theorem cQ_fix (hL : L ≤ 150) (j : Nat) : skp f L (cQ f L j) = cQ f L j := skp_idem f L _ hL
theorem cP_gt {j : Nat} (h : gd f L j) : cP f L j + 1 + dueN (cW f L j) ≤ cP f L (j + 1) := by
  have a1 : cP f L j ≤ cQ f L j := skp_ge f L (cP f L j)
  have a2 : cQ f L j + 1 + dueN (cW f L j) ≤ ordA f L (cQ f L j) := ordA_gt h.2
  show _ ≤ ordA f L (cQ f L j)
  omega
theorem cO_le {q : Nat} : (∀ j, j < q → gd f L j) → cO f L q + q ≤ cP f L q ∧ 2 * q ≤ cP f L q := by
  induction q with
  | zero => intro _; exact ⟨Nat.le_refl _, Nat.le_refl _⟩
  | succ q ih =>
    intro h
    obtain ⟨i1, i2⟩ := ih (fun j hj => h j (by omega))
    have a1 := cP_gt (h q (by omega))
    have a2 : 1 ≤ dueN (cW f L q) := (due_eq _ (h q (by omega)).2.1).2.1
    have a3 : cO f L (q + 1) = cO f L q + dueN (cW f L q) := rfl
    omega
theorem cO_mono : ∀ {q j : Nat}, j < q → cO f L j + dueN (cW f L j) ≤ cO f L q
  | 0, j, h => absurd h (by omega)
  | q + 1, j, h => by
    have a3 : cO f L (q + 1) = cO f L q + dueN (cW f L q) := rfl
    by_cases c : j = q
    · subst c; omega
    · have := cO_mono (q := q) (j := j) (by omega)
      omega
theorem numV_eq (a : Nat) : M_numV f L a = numV f L a := by
  unfold M_numV numV
  split
  · rfl
  · rw [Int32.sub_eq_add_neg, Int32.sub_eq_add_neg (f (skp f L a + 1)), Int32.add_assoc]
/-- the numbers of an ORDER, as the class keeps them -/
theorem nH_v : ∀ n (h : HB) k a, nR f L n a = true → ∀ i, i < n → nH f L n h k a 3 (k + i) = numV f L (nA f L i a)
  | 0, _, _, _, _, i, hi => absurd hi (by omega)
  | n + 1, h, k, a, hr, i, hi => by
    by_cases c : numR f L a
    · rw [nR, if_pos c] at hr
      rw [nH, if_pos c]
      rcases Nat.eq_zero_or_pos i with z | z
      · subst z
        have keep : ∀ n (h : HB) k' a (x : Nat), x < k' → nH f L n h k' a 3 x = h 3 x := by
          intro n
          induction n with
          | zero => intro h k' a x _; rfl
          | succ n ih =>
            intro h k' a x hx
            unfold nH
            split
            · rw [ih _ _ _ x (by omega)]
              unfold numH
              split
              · rw [up2_n (by omega)]
              · rw [up2_n (by omega), up2_n (by omega)]
            · unfold numH
              split
              · rw [up2_n (by omega)]
              · rw [up2_n (by omega), up2_n (by omega)]
        rw [keep _ _ _ _ _ (by omega)]
        unfold numH
        rw [if_neg (fun z => z c.1), Nat.add_zero, up2_s]
        rfl
      · have := nH_v n (numH h k f L a) (k + 1) (numA f L a) hr (i - 1) (by omega)
        rw [show k + 1 + (i - 1) = k + i from by omega] at this
        rw [this]
        have e : nA f L i a = nA f L (i - 1) (numA f L a) := by
          obtain ⟨i', rfl⟩ : ∃ i', i = i' + 1 := ⟨i - 1, by omega⟩
          rw [nA, if_pos c]; rfl
        rw [e]
    · rw [nR, if_neg c] at hr; exact absurd hr (by decide)
theorem cH_v (h : HB) {j : Nat} (hg : gd f L j) (hL : L ≤ 150) {i : Nat} (hi : i < dueN (cW f L j)) : cH f L h (j + 1) 3 i = cV f L j i := by
  have h1 := hg.2.1
  show ordH _ f L (cQ f L j) 3 i = _
  unfold ordH
  rw [if_neg (fun z => z h1)]
  unfold endNH
  rw [if_pos hg.2.2.1, up2_n (by omega)]
  have := nH_v (f := f) (L := L) (dueN (cW f L j)) (wordH (up2 (cH f L h j) 2 2 (nI (cQ f L j))) f L (cQ f L j)) 0 (wordA f L (cQ f L j)) hg.2.2.1 i hi
  rw [Nat.zero_add] at this
  exact this
/-- and as the reference keeps them -/
theorem M_numH_n2 {h : HB} {q p a k j : Nat} (hk : ¬ (k = 0 ∧ j = 4) ∧ ¬ (k = 8 ∧ j = p) ∧ ¬ (k = 7 ∧ j = q + 1)) : M_numH h q p f L a k j = h k j := by
  unfold M_numH
  split
  · exact up2_n hk.1
  · rw [up2_n hk.2.2, up2_n hk.2.1, up2_n hk.1]
theorem M_nH_n2 (q : Nat) : ∀ n (h : HB) p a {k j : Nat}, ¬ (k = 0 ∧ j = 4) → ¬ (k = 8 ∧ p ≤ j ∧ j < p + n) → ¬ (k = 7 ∧ j = q + 1) → M_nH f L q n h p a k j = h k j
  | 0, h, p, a, k, j, _, _, _ => rfl
  | n + 1, h, p, a, k, j, h1, h2, h3 => by
    unfold M_nH
    split
    · rw [M_nH_n2 q n _ (p + 1) _ h1 (by omega) h3, M_numH_n2 ⟨h1, by omega, h3⟩]
    · exact M_numH_n2 ⟨h1, by omega, h3⟩
theorem M_nH_v (q : Nat) : ∀ n (h : HB) p a, nR f L n a = true → (0 < n → M_nH f L q n h p a 7 (q + 1) = nI (p + n)) ∧ ∀ i, i < n → M_nH f L q n h p a 8 (p + i) = numV f L (nA f L i a)
  | 0, _, _, _, _ => ⟨fun z => absurd z (by omega), fun i hi => absurd hi (by omega)⟩
  | n + 1, h, p, a, hr => by
    by_cases c : numR f L a
    · rw [nR, if_pos c] at hr
      have e0 : M_nH f L q (n + 1) h p a = M_nH f L q n (M_numH h q p f L a) (p + 1) (numA f L a) := by rw [M_nH, if_pos c]
      obtain ⟨i1, i2⟩ := M_nH_v q n (M_numH h q p f L a) (p + 1) (numA f L a) hr
      have eM : M_numH h q p f L a = up2 (up2 (up2 h 0 4 (nI (numA f L a))) 8 p (M_numV f L a)) 7 (q + 1) (nI (p + 1)) := by
        unfold M_numH
        rw [if_neg (fun z => z c.1)]
      rw [e0]
      refine ⟨fun _ => ?_, fun i hi => ?_⟩
      · rcases Nat.eq_zero_or_pos n with z | z
        · subst z
          show M_numH h q p f L a 7 (q + 1) = _
          rw [eM, up2_s]
        · rw [i1 z, show p + 1 + n = p + (n + 1) from by omega]
      · rcases Nat.eq_zero_or_pos i with z | z
        · subst z
          show M_nH f L q n (M_numH h q p f L a) (p + 1) (numA f L a) 8 p = numV f L a
          rw [M_nH_n2 q n _ _ _ (by omega) (by omega) (by omega), eM, up2_n (by omega), up2_s, numV_eq]
        · have := i2 (i - 1) (by omega)
          rw [show p + 1 + (i - 1) = p + i from by omega] at this
          rw [this]
          have e : nA f L i a = nA f L (i - 1) (numA f L a) := by
            obtain ⟨i', rfl⟩ : ∃ i', i = i' + 1 := ⟨i - 1, by omega⟩
            rw [nA, if_pos c]; rfl
          rw [e]
    · rw [nR, if_neg c] at hr; exact absurd hr (by decide)
def RdS (f : Nat → Int32) (L : Nat) (h : HB) (q : Nat) : Prop := h 0 2 = nI q ∧ (∀ j, j < q → h 6 j = nI (cW f L j)) ∧ (∀ j, j ≤ q → h 7 j = nI (cO f L j)) ∧ ∀ j i, j < q → i < dueN (cW f L j) → h 8 (cO f L j + i) = cV f L j i
theorem RdS_step (hL : L ≤ 150) {h : HB} {q : Nat} (H : RdS f L h q) (hg : gd f L q) (v : Int32) : RdS f L (up2 (M_ordH h q (cO f L q) f L (cQ f L q)) 0 4 v) (q + 1) ∧ ∀ k j, k ≠ 6 → k ≠ 7 → k ≠ 8 → ¬ (k = 0 ∧ (j = 2 ∨ j = 4)) → up2 (M_ordH h q (cO f L q) f L (cQ f L q)) 0 4 v k j = h k j := by
  obtain ⟨hw, hr, he⟩ := hg.2
  obtain ⟨e1, e2, e3⟩ := oD_eq (cQ_fix hL q) hw
  have hne : ¬ M_oW f L (cQ f L q) = -1 := by rw [e2]; exact nI_n1 (by omega)
  generalize hX : M_ord0 h q (cO f L q) f L (cQ f L q) = X
  have eM : M_ordH h q (cO f L q) f L (cQ f L q) = up2 (up2 (M_nH f L q (dueN (cW f L q)) X (cO f L q) (wordA f L (cQ f L q))) 0 4 (nI (skp f L (nA f L (dueN (cW f L q)) (wordA f L (cQ f L q))) + 1))) 0 2 (nI (q + 1)) := by
    unfold M_ordH
    rw [if_neg hne, e1, e3, hX]
    unfold M_endNH
    rw [if_pos hr, if_pos (show endR f L (nA f L (dueN (wW f L (cQ f L q))) (wordA f L (cQ f L q))) from he)]
  have Xn : ∀ k j, ¬ (k = 0 ∧ j = 4) → ¬ (k = 6 ∧ j = q) → ¬ (k = 7 ∧ j = q + 1) → X k j = h k j := fun k j a b c => by rw [← hX]; unfold M_ord0; rw [up2_n c, up2_n b, up2_n a]
  have X6 : X 6 q = nI (cW f L q) := by rw [← hX]; unfold M_ord0; rw [up2_n (by omega), up2_s, e2]
  obtain ⟨v1, v2⟩ := M_nH_v (f := f) (L := L) q (dueN (cW f L q)) X (cO f L q) (wordA f L (cQ f L q)) hr
  have nn : ∀ k j, ¬ (k = 0 ∧ j = 4) → ¬ (k = 8 ∧ cO f L q ≤ j ∧ j < cO f L q + dueN (cW f L q)) → ¬ (k = 7 ∧ j = q + 1) → M_nH f L q (dueN (cW f L q)) X (cO f L q) (wordA f L (cQ f L q)) k j = X k j := fun k j a b c => M_nH_n2 q _ _ _ _ a b c
  generalize M_nH f L q (dueN (cW f L q)) X (cO f L q) (wordA f L (cQ f L q)) = Y at *
  have d1 : 1 ≤ dueN (cW f L q) := (due_eq _ hw).2.1
  obtain ⟨r1, r2, r3, r4⟩ := H
  rw [eM]
  refine ⟨⟨?_, fun j hj => ?_, fun j hj => ?_, fun j i hj hi => ?_⟩, fun k j a b c d => ?_⟩
  · rw [up2_n (by omega), up2_s]
  · rw [up2_n (by omega), up2_n (by omega), up2_n (by omega), nn _ _ (by omega) (by omega) (by omega)]
    by_cases c : j = q
    · subst c; exact X6
    · rw [Xn _ _ (by omega) (by omega) (by omega)]; exact r2 j (by omega)
  · rw [up2_n (by omega), up2_n (by omega), up2_n (by omega)]
    by_cases c : j = q + 1
    · subst c
      rw [v1 (by omega)]
      rfl
    · rw [nn _ _ (by omega) (by omega) (by omega), Xn _ _ (by omega) (by omega) (by omega)]; exact r3 j (by omega)
  · rw [up2_n (by omega), up2_n (by omega), up2_n (by omega)]
    by_cases c : j = q
    · subst c; exact v2 i hi
    · have := cO_mono (f := f) (L := L) (q := q) (j := j) (by omega)
      rw [nn _ _ (by omega) (by omega) (by omega), Xn _ _ (by omega) (by omega) (by omega)]; exact r4 j i (by omega) hi
  · rw [up2_n (by omega), up2_n (by omega), up2_n (by omega), nn _ _ (by omega) (by omega) (by omega), Xn _ _ (by omega) (by omega) (by omega)]
/-- where reading stops, and what the reference has then -/
abbrev stR (f : Nat → Int32) (L Q : Nat) : Int32 := if ¬ cQ f L Q < L then (if Q = 0 then nI L else -1) else nI (ordA f L (cQ f L Q))
theorem M_ordH_bad {h : HB} {q p : Nat} {k j : Nat} (hk : k ≠ 6 ∧ k ≠ 7 ∧ k ≠ 8 ∧ ¬ (k = 0 ∧ (j = 2 ∨ j = 4))) {a : Nat} : M_ordH h q p f L a k j = h k j := M_ordH_n (by omega)
theorem M_rt_v (hL : L ≤ 150) : ∀ n q (h : HB), L + 1 ≤ cQ f L q + n → RdS f L h q → (∀ j, j < q → gd f L j) → ∃ Q, q ≤ Q ∧ (∀ j, j < Q → gd f L j) ∧ ¬ gd f L Q ∧ (M_rt f L n h q (cO f L q) (cQ f L q)).1 = stR f L Q ∧ (¬ cQ f L Q < L → RdS f L (M_rt f L n h q (cO f L q) (cQ f L q)).2 Q) ∧ ∀ k j, k ≠ 6 → k ≠ 7 → k ≠ 8 → ¬ (k = 0 ∧ (j = 2 ∨ j = 4)) → (M_rt f L n h q (cO f L q) (cQ f L q)).2 k j = h k j
  | 0, q, h, h1, _, _ => by
    have : cQ f L q ≤ L := skp_le f L _ (cP_le f L q)
    exact absurd h1 (by omega)
  | n + 1, q, h, h1, H, hg => by
    by_cases c : cQ f L q < L
    · by_cases r : ordR f L (cQ f L q)
      · have r' := (mR_eq (cQ_fix hL q)).mpr r
        have eD := (oD_eq (cQ_fix hL q) r.1).1
        have eq0 : M_rt f L (n + 1) h q (cO f L q) (cQ f L q) = M_rt f L n (up2 (M_ordH h q (cO f L q) f L (cQ f L q)) 0 4 (nI (cQ f L (q + 1)))) (q + 1) (cO f L (q + 1)) (cQ f L (q + 1)) := by
          rw [M_rt, if_neg (fun z => z c), if_pos r', mA_eq (cQ_fix hL q), eD]
          rfl
        rw [eq0]
        obtain ⟨s1, s2⟩ := RdS_step hL H ⟨c, r⟩ (nI (cQ f L (q + 1)))
        have adv := cP_gt ⟨c, r⟩
        have a1 := skp_ge f L (cP f L (q + 1))
        have a2 := ordA_gt r
        have a3 : cP f L (q + 1) = ordA f L (cQ f L q) := rfl
        obtain ⟨Q, t1, t2, t3, t4, t5, t6⟩ := M_rt_v hL n (q + 1) _ (by show L + 1 ≤ skp f L (cP f L (q + 1)) + n; omega) s1 (fun j hj => by
          by_cases e : j = q
          · subst e; exact ⟨c, r⟩
          · exact hg j (by omega))
        exact ⟨Q, by omega, t2, t3, t4, t5, fun k j x y z w => by rw [t6 k j x y z w, s2 k j x y z w]⟩
      · have r' := fun z => r ((mR_eq (cQ_fix hL q)).mp z)
        have eq0 : M_rt f L (n + 1) h q (cO f L q) (cQ f L q) = (nI (ordA f L (cQ f L q)), M_ordH h q (cO f L q) f L (cQ f L q)) := by
          rw [M_rt, if_neg (fun z => z c), if_neg r', mA_eq (cQ_fix hL q)]
        rw [eq0]
        refine ⟨q, Nat.le_refl _, hg, fun z => r z.2, ?_, fun z => absurd c z, fun k j x y z w => M_ordH_bad ⟨x, y, z, w⟩⟩
        show nI _ = stR f L q
        unfold stR
        rw [if_neg (fun z => z c)]
    · have eq0 : M_rt f L (n + 1) h q (cO f L q) (cQ f L q) = (if q = 0 then nI L else -1, h) := by
        rw [M_rt, if_pos c]
      rw [eq0]
      refine ⟨q, Nat.le_refl _, hg, fun z => c z.1, ?_, fun _ => H, fun k j _ _ _ _ => rfl⟩
      show _ = stR f L q
      unfold stR
      rw [if_pos c]
/-- the class finds the same -/
theorem ffX_v {Q : Nat} (hQ : ∀ j, j < Q → gd f L j) (hn : ¬ gd f L Q) : ∀ n j, j ≤ Q → Q - j < n → ffX f L n (cP f L j) = if ¬ cQ f L Q < L then (true, cQ f L Q) else (false, ordA f L (cQ f L Q))
  | 0, j, _, h => absurd h (by omega)
  | n + 1, j, h1, h2 => by
    by_cases e : j = Q
    · subst e
      by_cases c : cQ f L j < L
      · rw [ffX, if_neg (fun z => z c), if_neg (fun z => hn ⟨c, z⟩), if_neg (fun z => z c)]
      · rw [ffX, if_pos c, if_pos c]
    · obtain ⟨g1, g2⟩ := hQ j (by omega)
      rw [ffX, if_neg (fun z => z g1), if_pos g2]
      exact ffX_v hQ hn n (j + 1) (by omega) (by omega)
theorem no_word {a : Nat} (h : ¬ a < L) : ∀ n, lw f L n a = a
  | 0 => rfl
  | n + 1 => by rw [lw, if_neg (fun z => h z.1)]
theorem sx_pos : ∀ w, w < 8 → 0 < sxN_ w := by decide
theorem ffR_v (hL : L ≤ 150) {Q : Nat} (hQ : ∀ j, j < Q → gd f L j) (hn : ¬ gd f L Q) : ffR f L = stR f L Q := by
  have q0 : cQ f L 0 = skp f L 0 := rfl
  unfold ffR stR
  rcases Nat.eq_zero_or_pos Q with z | z
  · subst z
    by_cases c : cQ f L 0 < L
    · have r : ¬ ordR f L 0 := fun w => hn ⟨c, (ordR_s hL 0).mpr w⟩
      rw [if_pos r, if_neg (fun z => z c), q0, ordA_s hL]
    · have le := skp_le f L 0 (Nat.zero_le _)
      have eL : skp f L 0 = L := by rw [q0] at c; omega
      have w8 : wW f L 0 = 8 := by
        unfold wW wE
        rw [eL]
        refine wfF_none 8 0 rfl (fun v _ hv w => ?_)
        have := sx_pos v hv
        rw [w.1, no_word (by omega)] at this
        omega
      have r : ¬ ordR f L 0 := fun w => absurd w.1 (by rw [w8]; decide)
      rw [if_pos r, if_pos c, if_pos rfl]
      unfold ordA wordA
      rw [w8, if_pos (by decide), if_neg (by decide), eL]
  · have r : ordR f L 0 := (ordR_s hL 0).mp (hQ 0 z).2
    have c2 := (cO_le hQ).2
    have c3 := cP_le f L Q
    have e1 : ordA f L 0 = cP f L 1 := (ordA_s hL 0).symm
    rw [if_neg (fun w => w r), e1, ffX_v hQ hn 150 1 (by omega) (by omega)]
    by_cases c : cQ f L Q < L
    · have e9 : (if ¬ cQ f L Q < L then (true, cQ f L Q) else (false, ordA f L (cQ f L Q))) = (false, ordA f L (cQ f L Q)) := if_neg (fun z => z c)
      rw [e9, if_neg (show ¬ ¬ cQ f L Q < L from fun z => z c)]
      rfl
    · have e9 : (if ¬ cQ f L Q < L then (true, cQ f L Q) else (false, ordA f L (cQ f L Q))) = (true, cQ f L Q) := if_pos c
      rw [e9, if_pos c, if_neg (show ¬ Q = 0 by omega)]
      rfl
theorem rtF_v (hL : L ≤ 150) (h : HB) : ∃ Q, (∀ j, j < Q → gd f L j) ∧ ¬ gd f L Q ∧ Q < 76 ∧ ffR f L = stR f L Q ∧ (M_rtF h f L).1 = stR f L Q ∧ (stR f L Q = -1 → ¬ cQ f L Q < L ∧ RdS f L (M_rtF h f L).2 Q) ∧ ∀ k j, k ≠ 6 → k ≠ 7 → k ≠ 8 → ¬ (k = 0 ∧ (j = 2 ∨ j = 4)) → (M_rtF h f L).2 k j = h k j := by
  have i0 : RdS f L (M_rt0 h f L) 0 := by
    unfold M_rt0
    refine ⟨by rw [up2_n (by omega), up2_n (by omega), up2_s], fun j hj => absurd hj (by omega), fun j hj => ?_, fun j i hj => absurd hj (by omega)⟩
    obtain rfl : j = 0 := by omega
    rw [up2_n (by omega), up2_s]
    rfl
  obtain ⟨Q, t1, t2, t3, t4, t5, t6⟩ := M_rt_v hL 152 0 (M_rt0 h f L) (by omega) i0 (fun j hj => absurd hj (by omega))
  have c2 := (cO_le t2).2
  have c3 := cP_le f L Q
  refine ⟨Q, t2, t3, by omega, ffR_v hL t2 t3, t4, fun z => ?_, fun k j x y z w => ?_⟩
  · have : ¬ cQ f L Q < L := by
      intro c
      unfold stR at z
      rw [if_neg (fun w => w c)] at z
      have := ordA_le f L (cQ f L Q) (skp_le f L _ (cP_le f L Q))
      exact nI_n1 (by omega) z
    exact ⟨this, t5 this⟩
  · have e := t6 k j x y z w
    show (M_rt f L 152 (M_rt0 h f L) 0 0 (skp f L 0)).2 k j = h k j
    have e2 : (M_rt f L 152 (M_rt0 h f L) 0 0 (skp f L 0)).2 k j = (M_rt0 h f L) k j := e
    rw [e2]
    unfold M_rt0
    rw [up2_n (by omega), up2_n (by omega), up2_n (by omega)]
end TX
