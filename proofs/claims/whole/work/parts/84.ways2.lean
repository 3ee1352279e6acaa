/-! WAYS by the reference, and both alike -/
def FInv (g : HB) (b c r : Nat) (x : HB) : Prop := ∀ a, a < 6 → ∃ v, v ≤ 100 ∧ x 9 a = nI v ∧ (v < 100 → ReG g b c v a) ∧ ∀ n, n ≤ r → ReG g b c n a → v ≤ n
def GInv (g : HB) (b c r e : Nat) (x : HB) : Prop := ∀ a, a < 6 → ∃ v, v ≤ 100 ∧ x 9 a = nI v ∧ (v < 100 → ReG g b c v a) ∧ (∀ n, n ≤ r → ReG g b c n a → v ≤ n) ∧ ∀ d, d < e → pPass g b d → ix (g 2 d) = a → ∀ n, n ≤ r → ReG g b c n (ix (g 3 d)) → v ≤ n + 1
theorem cp_iff {N b d : Nat} {g m : HB} (H : RH N g (m 1)) (hb : b < ix (g 18 0)) (hd : d < ix (g 1 0)) : cp m b d ↔ pPass g b d := by
  have e1 : m 1 (60 * d + 1) = g 3 d := H.1.2.1 d 1 hd (by decide)
  have b0 : m 1 (480 + 6 * b + 0) = g 19 b := H.1.2.2.1 b 0 hb (by decide) (by decide)
  have b1 : m 1 (480 + 6 * b + 1) = g 20 b := H.1.2.2.1 b 1 hb (by decide) (by decide)
  unfold cp pPass
  rw [e1, b0, b1, lev_eq H hd]
theorem fwD_v {N b c r e : Nat} {g m x : HB} (H : RH N g (m 1)) (hb : b < ix (g 18 0)) (he : e < ix (g 1 0)) (G : GInv g b c r e x) : GInv g b c r (e + 1) (fwD m b e x) := by
  obtain ⟨v2, v3, -⟩ := H.2.2.2.2.2.2.2.1 e he
  have f6 := ix_lt v2 (by decide)
  have t6 := ix_lt v3 (by decide)
  have eF : dF m e = ix (g 2 e) := by show ix (m 1 (60 * e + 0)) = _; rw [H.1.2.1 e 0 he (by decide)]
  have eT : dT m e = ix (g 3 e) := by show ix (m 1 (60 * e + 1)) = _; rw [H.1.2.1 e 1 he (by decide)]
  obtain ⟨vF, F1, F2, F3, F4, F5⟩ := G _ f6
  obtain ⟨vT, T1, T2, T3, T4, T5⟩ := G _ t6
  intro a ha
  unfold fwD
  rw [eF, eT, F2, T2, nI_add]
  by_cases ea : a = ix (g 2 e)
  · subst ea
    rw [up2_s]
    by_cases q : cp m b e ∧ ¬ nI vF ≤ nI (vT + 1)
    · rw [if_pos q]
      have q2 : ¬ vF ≤ vT + 1 := fun z => q.2 ((nI_leI (by omega) (by omega)).mpr z)
      have pe := (cp_iff H hb he).mp q.1
      refine ⟨vT + 1, by omega, rfl, fun z => Or.inr ⟨e, he, pe, rfl, T3 (by omega)⟩, fun n hn rn => by have := F4 n hn rn; omega, fun d hd pd fd n hn rn => ?_⟩
      by_cases dq : d = e
      · subst dq; have := T4 n hn rn; omega
      · have := F5 d (by omega) pd fd n hn rn; omega
    · rw [if_neg q]
      refine ⟨vF, F1, rfl, F3, F4, fun d hd pd fd n hn rn => ?_⟩
      by_cases dq : d = e
      · subst dq
        have t := T4 n hn rn
        have : vF ≤ vT + 1 := by
          refine Classical.byContradiction (fun z => q ⟨(cp_iff H hb he).mpr pd, fun w => z ((nI_leI (by omega) (by omega)).mp w)⟩)
        omega
      · exact F5 d (by omega) pd fd n hn rn
  · rw [up2_n (by omega)]
    obtain ⟨v, A1, A2, A3, A4, A5⟩ := G a ha
    refine ⟨v, A1, A2, A3, A4, fun d hd pd fd n hn rn => ?_⟩
    by_cases dq : d = e
    · subst dq; exact absurd fd (fun z => ea z.symm)
    · exact A5 d (by omega) pd fd n hn rn
theorem fwR_v {N b c r k : Nat} {g m x : HB} (H : RH N g (m 1)) (hb : b < ix (g 18 0)) (G : FInv g b c r x) : FInv g b c (r + 1) (fwR m b k x) := by
  have eD : ix (m 1 529) = ix (g 1 0) := by rw [H.1.2.2.2.1.2.2.2.1]
  have key : ∀ e, e ≤ ix (g 1 0) → GInv g b c r e (iter (fwD m b) e x) := by
    intro e
    induction e with
    | zero =>
      intro _ a ha
      obtain ⟨v, A1, A2, A3, A4⟩ := G a ha
      exact ⟨v, A1, A2, A3, A4, fun d hd => absurd hd (by omega)⟩
    | succ e ih => intro he; exact fwD_v H hb (by omega) (ih (by omega))
  unfold fwR
  rw [eD]
  intro a ha
  obtain ⟨v, A1, A2, A3, A4, A5⟩ := key _ (Nat.le_refl _) a ha
  refine ⟨v, A1, A2, A3, fun n hn rn => ?_⟩
  rcases Nat.eq_zero_or_pos n with z | z
  · subst z; exact A4 0 (Nat.zero_le _) rn
  · obtain ⟨n', rfl⟩ : ∃ n', n = n' + 1 := ⟨n - 1, by omega⟩
    rcases rn with w | ⟨d, h1, h2, h3, h4⟩
    · have := A4 n' (by omega) w; omega
    · exact A5 d h1 h2 h3 n' (by omega) h4
theorem fwA_v (c : Nat) (x : HB) : ∀ n k, k < n → iter (fwA c) n x 9 k = if k = c then nI 0 else nI 100
  | 0, k, h => absurd h (by omega)
  | n + 1, k, h => by
    have ih : k ≠ n → iter (fwA c) n x 9 k = if k = c then nI 0 else nI 100 := fun z => fwA_v c x n k (by omega)
    show fwA c n (iter (fwA c) n x) 9 k = _
    generalize iter (fwA c) n x = y at *
    unfold fwA
    by_cases q : k = n
    · subst q; rw [up2_s]
    · rw [up2_n (by omega)]; exact ih q
theorem far_v {N b c : Nat} {g m : HB} (H : RH N g (m 1)) (hb : b < ix (g 18 0)) : FInv g b c 6 (M_far m b c) := by
  have f0 : FInv g b c 0 (iter (fwA c) 6 m) := by
    intro a ha
    rw [fwA_v c m 6 a ha]
    by_cases q : a = c
    · rw [if_pos q]
      exact ⟨0, by omega, rfl, fun _ => q, fun n _ _ => Nat.zero_le _⟩
    · rw [if_neg q]
      exact ⟨100, by omega, rfl, fun z => absurd z (by omega), fun n hn rn => by
        obtain rfl : n = 0 := by omega
        exact absurd rn q⟩
  have key : ∀ n, FInv g b c n (iter (fwR m b) n (iter (fwA c) 6 m)) := by
    intro n
    induction n with
    | zero => exact f0
    | succ n ih => exact fwR_v H hb ih
  exact key 6
theorem far_eq {N b c a : Nat} {g m : HB} (H : RH N g (m 1)) (hb : b < ix (g 18 0)) (ha : a < 6) : (∀ n, DsG g b c a n → M_far m b c 9 a = nI n) ∧ ((∀ n, ¬ ReG g b c n a) → M_far m b c 9 a = nI 100) := by
  have hT : ∀ d, d < ix (g 1 0) → ix (g 3 d) < 6 := fun d hd => ix_lt (H.2.2.2.2.2.2.2.1 d hd).2.1 (by decide)
  obtain ⟨v, A1, A2, A3, A4⟩ := far_v (c := c) H hb a ha
  refine ⟨fun n d => ?_, fun z => ?_⟩
  · have n5 := Ds_le _ _ _ _ _ hT ha d
    have l1 := A4 n (by omega) d.1
    have l2 : ¬ v < n := fun z => d.2 v z (A3 (by omega))
    rw [A2, show v = n from by omega]
  · rw [A2]
    rcases Nat.lt_or_ge v 100 with w | w
    · exact absurd (A3 w) (z v)
    · rw [show v = 100 from by omega]
/-- doors that lead one nearer -/
abbrev Nr (g : HB) (b c t n d : Nat) : Prop := ix (g 2 d) = t ∧ pPass g b d ∧ DsG g b c (ix (g 3 d)) n
theorem ex_or {g : HB} {b c a : Nat} : (∃ n, DsG g b c a n) ∨ ∀ n, ¬ ReG g b c n a := by
  by_cases q : ∃ n, ReG g b c n a
  · obtain ⟨n, h⟩ := q
    obtain ⟨k, -, h2⟩ := Re_least _ _ _ _ _ h
    exact Or.inl ⟨k, h2⟩
  · exact Or.inr (fun n z => q ⟨n, z⟩)
theorem mt_iff {N b c t n d : Nat} {g m : HB} (H : RH N g (m 1)) (hb : b < ix (g 18 0)) (ht : t < 6) (hd : d < ix (g 1 0)) (D : DsG g b c t (n + 1)) : mt (M_far m b c) b t d ↔ Nr g b c t n d := by
  have hT : ∀ d, d < ix (g 1 0) → ix (g 3 d) < 6 := fun d hd => ix_lt (H.2.2.2.2.2.2.2.1 d hd).2.1 (by decide)
  have n5 := Ds_le _ _ _ _ _ hT ht D
  have r1 : M_far m b c 1 = m 1 := M_far_row (by decide)
  have eF : dF (M_far m b c) d = ix (g 2 d) := by show ix (M_far m b c 1 (60 * d + 0)) = _; rw [r1, H.1.2.1 d 0 hd (by decide)]
  have eT : dT (M_far m b c) d = ix (g 3 d) := by show ix (M_far m b c 1 (60 * d + 1)) = _; rw [r1, H.1.2.1 d 1 hd (by decide)]
  have e9 := (far_eq (c := c) H hb ht).1 _ D
  unfold mt
  rw [eF, eT, e9, cp_row r1, cp_iff H hb hd]
  have key : M_far m b c 9 (ix (g 3 d)) + nI 1 = nI (n + 1) ↔ DsG g b c (ix (g 3 d)) n := by
    rcases ex_or (g := g) (b := b) (c := c) (a := ix (g 3 d)) with ⟨k, h⟩ | h
    · have k5 := Ds_le _ _ _ _ _ hT (hT d hd) h
      rw [(far_eq (c := c) H hb (hT d hd)).1 k h, nI_add, nI_eq (by omega) (by omega)]
      exact ⟨fun z => by rw [show n = k from by omega]; exact h, fun z => by rw [Ds_uniq _ _ _ _ _ h z]⟩
    · rw [(far_eq (c := c) H hb (hT d hd)).2 h, nI_add, nI_eq (by omega) (by omega)]
      exact ⟨fun z => by omega, fun z => absurd z.1 (h n)⟩
  rw [key]
theorem cd_iff {N b c t n d : Nat} {g h : HB} {q : Nat → Int32} (H : RH N g q) (hc : c < 6) (ht : t < 6) (hd : d < ix (g 1 0)) (D : DsG g b c t (n + 1)) : ((g 2 d = nI t ∧ (R_meas g b c h) 6 (ix (g 3 d)) = (R_meas g b c h) 6 t - nI 1) ∧ pPass g b d) ↔ Nr g b c t n d := by
  have hA : ∀ d, d < ix (g 1 0) → vI (g 2 d) 6 ∧ vI (g 3 d) 6 := fun d hd => ⟨(H.2.2.2.2.2.2.2.1 d hd).1, (H.2.2.2.2.2.2.2.1 d hd).2.1⟩
  have hT : ∀ d, d < ix (g 1 0) → ix (g 3 d) < 6 := fun d hd => ix_lt (hA d hd).2 (by decide)
  have n5 := Ds_le _ _ _ _ _ hT ht D
  have B := R_meas_v (b := b) h hc hA
  have e0 := (B t ht).1 (n + 1) n5 D
  have eF : g 2 d = nI t ↔ ix (g 2 d) = t := by
    rw [ix_eq (hA d hd).1 (by decide), nI_eq (by have := ix_lt (hA d hd).1 (by decide); omega) (by omega), ix_nI (by have := ix_lt (hA d hd).1 (by decide); omega)]
  rw [e0, pk_sub (by omega), show n + 1 - 1 = n from by omega, eF]
  have key : (R_meas g b c h) 6 (ix (g 3 d)) = nI n ↔ DsG g b c (ix (g 3 d)) n := by
    rcases ex_or (g := g) (b := b) (c := c) (a := ix (g 3 d)) with ⟨k, w⟩ | w
    · have k5 := Ds_le _ _ _ _ _ hT (hT d hd) w
      rw [(B _ (hT d hd)).1 k k5 w, nI_eq (by omega) (by omega)]
      exact ⟨fun z => by rw [← z]; exact w, fun z => Ds_uniq _ _ _ _ _ w z⟩
    · rw [(B _ (hT d hd)).2 (w 5)]
      exact ⟨fun z => (nI_n1' z.symm (by omega)).elim, fun z => absurd z.1 (w n)⟩
  rw [key]
  exact ⟨fun z => ⟨z.1.1, z.2, z.1.2⟩, fun z => ⟨⟨z.1, z.2.2⟩, z.2.1⟩⟩
theorem fdN_v {g : HB} {b a D : Nat} {x : Nat → Int32} (h1 : (g 2 D = nI a ∧ x (ix (g 3 D)) = x a - nI 1) ∧ pPass g b D) (h2 : ∀ d, d < D → ¬ ((g 2 d = nI a ∧ x (ix (g 3 d)) = x a - nI 1) ∧ pPass g b d)) : ∀ n d, d ≤ D → D < d + n → fdN g b x a n d = D
  | 0, d, q1, q2 => absurd q2 (by omega)
  | n + 1, d, q1, q2 => by
    by_cases e : d = D
    · subst e; rw [fdN, if_pos h1]
    · rw [fdN, if_neg (h2 d (by omega))]
      exact fdN_v h1 h2 n (d + 1) (by omega) (by omega)
theorem daN_shift {g : HB} {b a : Nat} {x : Nat → Int32} (h : daN g b x a 0 < 8) : ∀ k, daN g b x a (k + 1) = daN g b x (ix (g 3 (daN g b x a 0))) k
  | 0 => by
    show (if daN g b x a 0 < 8 then fdN g b x (ix (g 3 (daN g b x a 0))) (ix (g 1 0)) 0 else daN g b x a 0) = fdN g b x (ix (g 3 (daN g b x a 0))) (ix (g 1 0)) 0
    rw [if_pos h]
  | k + 1 => by
    have ih := daN_shift h k
    show (if daN g b x a (k + 1) < 8 then fdN g b x (ix (g 3 (daN g b x a (k + 1)))) (ix (g 1 0)) 0 else daN g b x a (k + 1)) = (if daN g b x (ix (g 3 (daN g b x a 0))) k < 8 then fdN g b x (ix (g 3 (daN g b x (ix (g 3 (daN g b x a 0))) k))) (ix (g 1 0)) 0 else daN g b x (ix (g 3 (daN g b x a 0))) k)
    rw [ih]
theorem walk {N b c : Nat} {g m h : HB} (H : RH N g (m 1)) (hb : b < ix (g 18 0)) (hc : c < 6) : ∀ n t, t < 6 → DsG g b c t n → ∃ l : List Nat, l.length = n ∧ WkOk (M_far m b c) b l t ∧ ∀ i, i < n → daN g b ((R_meas g b c h) 6) t i = l.getD i 0 ∧ l.getD i 0 < 8 := by
  have hT : ∀ d, d < ix (g 1 0) → ix (g 3 d) < 6 := fun d hd => ix_lt (H.2.2.2.2.2.2.2.1 d hd).2.1 (by decide)
  have b1 := ix_lt H.1.1.1 (by decide)
  have r1 : M_far m b c 1 = m 1 := M_far_row (by decide)
  intro n
  induction n with
  | zero =>
    intro t ht D
    refine ⟨[], rfl, ?_, fun i hi => absurd hi (by omega)⟩
    have e9 := (far_eq (c := c) H hb ht).1 _ D
    exact Or.inl (by rw [e9]; decide)
  | succ n ih =>
    intro t ht D
    have n5 := Ds_le _ _ _ _ _ hT ht D
    obtain ⟨d0, q1, q2, q3, q4⟩ := Ds_next _ _ _ _ _ D
    obtain ⟨K, ⟨k1, k2⟩, k3⟩ := pk_least (fun k => k < ix (g 1 0) ∧ Nr g b c t n k) ⟨d0, q1, q3, q2, q4⟩
    have k4 : ∀ d, d < K → ¬ Nr g b c t n d := fun d hd z => k3 d hd ⟨by omega, z⟩
    obtain ⟨l, l1, l2, l3⟩ := ih (ix (g 3 K)) (hT K k1) k2.2.2
    have e9 := (far_eq (c := c) H hb ht).1 _ D
    have eT : dT (M_far m b c) K = ix (g 3 K) := by show ix (M_far m b c 1 (60 * K + 1)) = _; rw [r1, H.1.2.1 K 1 k1 (by decide)]
    have eD : ix (M_far m b c 1 529) = ix (g 1 0) := by rw [r1, H.1.2.2.2.1.2.2.2.1]
    have f0 : daN g b ((R_meas g b c h) 6) t 0 = K := by
      show fdN g b ((R_meas g b c h) 6) t (ix (g 1 0)) 0 = K
      exact fdN_v ((cd_iff (h := h) H hc ht k1 D).mpr k2) (fun d hd z => k4 d hd ((cd_iff (h := h) H hc ht (by omega) D).mp z)) _ 0 (Nat.zero_le _) (by omega)
    refine ⟨K :: l, by rw [List.length_cons, l1], ⟨?_, ?_, by rw [eD]; exact k1, (mt_iff H hb ht k1 D).mpr k2, fun d hd z => k4 d hd ((mt_iff H hb ht (by omega) D).mp z), by rw [eT]; exact l2⟩, fun i hi => ?_⟩
    · rw [e9]; exact nI_nle (by omega) (by omega)
    · rw [e9]; exact nI_ge (by omega) (by decide)
    · rcases Nat.eq_zero_or_pos i with z | z
      · subst z; exact ⟨f0, by show K < 8; omega⟩
      · obtain ⟨i', rfl⟩ : ∃ i', i = i' + 1 := ⟨i - 1, by omega⟩
        rw [daN_shift (by rw [f0]; omega), f0]
        exact l3 i' (by omega)
theorem wkH_v : ∀ (l : List Nat) (k : Nat) (x : HB) (i : Nat), i < l.length → wkH l k x 10 (k + i) = nI (l.getD i 0)
  | [], k, x, i, hi => absurd hi (by simp)
  | D :: l, k, x, i, hi => by
    have keep : ∀ (l : List Nat) (k : Nat) (x : HB) (j : Nat), j < k → wkH l k x 10 j = x 10 j := by
      intro l
      induction l with
      | nil => intro k x j _; rfl
      | cons D l ih =>
        intro k x j hj
        show wkH l (k + 1) (up2 (up2 x 10 k (nI D)) 0 3 (nI (k + 1))) 10 j = _
        rw [ih (k + 1) _ j (by omega), up2_n (by omega), up2_n (by omega)]
    show wkH l (k + 1) (up2 (up2 x 10 k (nI D)) 0 3 (nI (k + 1))) 10 (k + i) = _
    rcases Nat.eq_zero_or_pos i with z | z
    · subst z
      rw [keep _ _ _ _ (by omega), up2_n (by omega), Nat.add_zero, up2_s]
      rfl
    · obtain ⟨i', rfl⟩ : ∃ i', i = i' + 1 := ⟨i - 1, by omega⟩
      have := wkH_v l (k + 1) (up2 (up2 x 10 k (nI D)) 0 3 (nI (k + 1))) i' (by rw [List.length_cons] at hi; omega)
      rw [show k + 1 + i' = k + (i' + 1) from by omega] at this
      exact this
theorem way_eq {N a b c : Nat} {g m h : HB} (H : RH N g (m 1)) (hb : b < ix (g 18 0)) (ha : a < 6) (hc : c < 6) (hne : a ≠ c) : ∃ l : List Nat, l.length ≤ 8 ∧ WkOk (M_far m b c) b l a ∧ M_wayN l = (R_meas g b c h) 6 a ∧ ∀ q, q < 2 ^ 31 → M_wayI (M_way m b c l) l q = if ¬ nI q < (R_meas g b c h) 6 a then -5 else fdI (daN g b ((R_meas g b c h) 6) a q) := by
  have hA : ∀ d, d < ix (g 1 0) → vI (g 2 d) 6 ∧ vI (g 3 d) 6 := fun d hd => ⟨(H.2.2.2.2.2.2.2.1 d hd).1, (H.2.2.2.2.2.2.2.1 d hd).2.1⟩
  have hT : ∀ d, d < ix (g 1 0) → ix (g 3 d) < 6 := fun d hd => ix_lt (hA d hd).2 (by decide)
  have B := R_meas_v (b := b) h hc hA
  rcases ex_or (g := g) (b := b) (c := c) (a := a) with ⟨n, D⟩ | w
  · have n5 := Ds_le _ _ _ _ _ hT ha D
    have n0 : n ≠ 0 := by
      intro z
      subst z
      exact hne D.1
    obtain ⟨l, l1, l2, l3⟩ := walk (h := h) H hb hc n a ha D
    have e0 := (B a ha).1 n n5 D
    refine ⟨l, by omega, l2, ?_, fun q hq => ?_⟩
    · unfold M_wayN
      rw [if_neg (by omega), l1, e0]
    · unfold M_wayI
      rw [if_neg (by omega), e0, l1]
      by_cases c1 : q < n
      · obtain ⟨d1, d2⟩ := l3 q c1
        rw [if_pos c1, if_neg (fun z => z (nI_lt c1 (by omega))), d1, fdI_eq d2]
        unfold M_way
        have := wkH_v l 0 (up2 (M_far m b c) 0 3 (nI 0)) q (by omega)
        rw [Nat.zero_add] at this
        exact this
      · rw [if_neg c1, if_pos (nI_nlt (by omega) hq)]
  · have e0 := (B a ha).2 (w 5)
    refine ⟨[], by decide, Or.inr ?_, ?_, fun q hq => ?_⟩
    · rw [(far_eq (c := c) H hb ha).2 w]; decide
    · rw [e0]; rfl
    · rw [e0, if_pos (fun z => nI_pos hq (Int32.lt_trans z (by decide)))]
      rfl
theorem DOk_of {N : Nat} {g m : HB} (H : RH N g (m 1)) : DOk m := by
  intro d hd
  rw [H.1.2.2.2.1.2.2.2.1] at hd
  obtain ⟨a1, a2, -⟩ := H.2.2.2.2.2.2.2.1 d hd
  exact ⟨by rw [H.1.2.1 d 0 hd (by decide)]; exact a1, by rw [H.1.2.1 d 1 hd (by decide)]; exact a2⟩
