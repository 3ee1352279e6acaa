/-! WAYS: how far, by both -/
theorem nI_n1' {y : Nat} (e : nI y = -5) (h : y < 2 ^ 30) : False := nI_pos (n := y) (by omega) (by rw [e]; decide)
theorem nI_n5 {y : Nat} (e : nI y = -5) (h : y < 2 ^ 30) : False := nI_n1' e h
section WAYS
variable (nd : Nat) (Fd Td : Nat → Nat) (P : Nat → Prop) (c : Nat)
def Re : Nat → Nat → Prop
  | 0, a => a = c
  | n + 1, a => Re n a ∨ ∃ d, d < nd ∧ P d ∧ Fd d = a ∧ Re n (Td d)
def Ds (a n : Nat) : Prop := Re nd Fd Td P c n a ∧ ∀ k, k < n → ¬ Re nd Fd Td P c k a
theorem Re_mono {a : Nat} : ∀ {n m : Nat}, n ≤ m → Re nd Fd Td P c n a → Re nd Fd Td P c m a
  | n, 0, h, r => by
    obtain rfl : n = 0 := by omega
    exact r
  | n, m + 1, h, r => by
    by_cases e : n = m + 1
    · subst e; exact r
    · exact Or.inl (Re_mono (n := n) (m := m) (by omega) r)
theorem Re_least {a n : Nat} (h : Re nd Fd Td P c n a) : ∃ k, k ≤ n ∧ Ds nd Fd Td P c a k := by
  induction n with
  | zero => exact ⟨0, Nat.le_refl _, h, fun k hk => absurd hk (by omega)⟩
  | succ n ih =>
    by_cases q : Re nd Fd Td P c n a
    · obtain ⟨k, h1, h2⟩ := ih q
      exact ⟨k, by omega, h2⟩
    · exact ⟨n + 1, Nat.le_refl _, h, fun k hk r => q (Re_mono nd Fd Td P c (by omega) r)⟩
theorem Ds_uniq {a n m : Nat} (h1 : Ds nd Fd Td P c a n) (h2 : Ds nd Fd Td P c a m) : n = m := by
  rcases Nat.lt_trichotomy n m with q | q | q
  · exact absurd h1.1 (h2.2 n q)
  · exact q
  · exact absurd h2.1 (h1.2 m q)
theorem Ds_next {a n : Nat} (h : Ds nd Fd Td P c a (n + 1)) : ∃ d, d < nd ∧ P d ∧ Fd d = a ∧ Ds nd Fd Td P c (Td d) n := by
  rcases h.1 with r | ⟨d, h1, h2, h3, h4⟩
  · exact absurd r (h.2 n (by omega))
  · refine ⟨d, h1, h2, h3, h4, fun k hk r => h.2 (k + 1) (by omega) (Or.inr ⟨d, h1, h2, h3, r⟩)⟩
theorem Ds_chain (hT : ∀ d, d < nd → Td d < 6) : ∀ {n a : Nat}, a < 6 → Ds nd Fd Td P c a n → ∃ f : Nat → Nat, ∀ i, i ≤ n → f i < 6 ∧ Ds nd Fd Td P c (f i) i
  | 0, a, ha, h => ⟨fun _ => a, fun i hi => by
      obtain rfl : i = 0 := by omega
      exact ⟨ha, h⟩⟩
  | n + 1, a, ha, h => by
    obtain ⟨d, h1, h2, h3, h4⟩ := Ds_next nd Fd Td P c h
    obtain ⟨f, hf⟩ := Ds_chain hT (hT d h1) h4
    refine ⟨fun i => if i = n + 1 then a else f i, fun i hi => ?_⟩
    by_cases q : i = n + 1
    · subst q; simp only [if_true]; exact ⟨ha, h⟩
    · simp only [q, if_false]; exact hf i (by omega)
theorem Ds_le (hT : ∀ d, d < nd → Td d < 6) {n a : Nat} (ha : a < 6) (h : Ds nd Fd Td P c a n) : n ≤ 5 := by
  obtain ⟨f, hf⟩ := Ds_chain nd Fd Td P c hT ha h
  have := pigeon 6 (n + 1) f (fun i hi => (hf i (by omega)).1) (fun i j hi hj e => Ds_uniq nd Fd Td P c (hf i (by omega)).2 (e ▸ (hf j (by omega)).2))
  omega
theorem Re_5 (hT : ∀ d, d < nd → Td d < 6) {n a : Nat} (ha : a < 6) (h : Re nd Fd Td P c n a) : ∃ k, k ≤ 5 ∧ Ds nd Fd Td P c a k := by
  obtain ⟨k, -, h2⟩ := Re_least nd Fd Td P c h
  exact ⟨k, Ds_le nd Fd Td P c hT ha h2, h2⟩
end WAYS
/-! the class: step by step -/
abbrev ReG (g : HB) (b c : Nat) : Nat → Nat → Prop := Re (ix (g 1 0)) (fun d => ix (g 2 d)) (fun d => ix (g 3 d)) (fun d => pPass g b d) c
abbrev DsG (g : HB) (b c : Nat) : Nat → Nat → Prop := Ds (ix (g 1 0)) (fun d => ix (g 2 d)) (fun d => ix (g 3 d)) (fun d => pPass g b d) c
def BInv (g : HB) (b c s : Nat) (x : HB) : Prop := ∀ a, a < 6 → (∀ n, n ≤ s → DsG g b c a n → x 6 a = nI n) ∧ (¬ ReG g b c s a → x 6 a = -5)
theorem R_step_v {g : HB} {b c s : Nat} {x : HB} (hs : s < 5) (hA : ∀ d, d < ix (g 1 0) → vI (g 2 d) 6 ∧ vI (g 3 d) 6) (H : BInv g b c s x) : BInv g b c (s + 1) (R_step g b s x) := by
  have key : ∀ e, e ≤ ix (g 1 0) → ∀ a, a < 6 → (∀ n, n ≤ s → DsG g b c a n → iter (R_ms g b s) e x 6 a = nI n) ∧ (¬ ReG g b c s a → (∃ d, d < e ∧ pPass g b d ∧ ix (g 2 d) = a ∧ ReG g b c s (ix (g 3 d))) → iter (R_ms g b s) e x 6 a = nI (s + 1)) ∧ (¬ ReG g b c s a → ¬ (∃ d, d < e ∧ pPass g b d ∧ ix (g 2 d) = a ∧ ReG g b c s (ix (g 3 d))) → iter (R_ms g b s) e x 6 a = -5) := by
    intro e
    induction e with
    | zero => intro _ a ha; exact ⟨(H a ha).1, fun _ ⟨d, hd, _⟩ => absurd hd (by omega), fun r _ => (H a ha).2 r⟩
    | succ e ih =>
      intro he
      have ih := ih (by omega)
      obtain ⟨v2, v3⟩ := hA e (by omega)
      have f6 := ix_lt v2 (by decide)
      have t6 := ix_lt v3 (by decide)
      have K : ∀ y, iter (R_ms g b s) e x = y → ∀ a, a < 6 → (∀ n, n ≤ s → DsG g b c a n → R_ms g b s e y 6 a = nI n) ∧ (¬ ReG g b c s a → (∃ d, d < e + 1 ∧ pPass g b d ∧ ix (g 2 d) = a ∧ ReG g b c s (ix (g 3 d))) → R_ms g b s e y 6 a = nI (s + 1)) ∧ (¬ ReG g b c s a → ¬ (∃ d, d < e + 1 ∧ pPass g b d ∧ ix (g 2 d) = a ∧ ReG g b c s (ix (g 3 d))) → R_ms g b s e y 6 a = -5) := by
        intro y hy a ha
        rw [hy] at ih
        obtain ⟨i1, i2, i3⟩ := ih a ha
        unfold R_ms
        by_cases q : (y 6 (ix (g 2 e)) = -5 ∧ y 6 (ix (g 3 e)) = nI (s + 1 - 1)) ∧ pPass g b e
        · rw [if_pos q]
          obtain ⟨⟨q1, q2⟩, q3⟩ := q
          -- the new one
          have nF : ¬ ReG g b c s (ix (g 2 e)) := by
            intro r
            obtain ⟨k, k1, k2⟩ := Re_least _ _ _ _ _ r
            have := (ih _ f6).1 k k1 k2
            rw [this] at q1
            exact nI_n1' q1 (by omega)
          have rT : ReG g b c s (ix (g 3 e)) := by
            refine Classical.byContradiction (fun r => ?_)
            obtain ⟨-, j2, j3⟩ := ih _ t6
            by_cases w : ∃ d, d < e ∧ pPass g b d ∧ ix (g 2 d) = ix (g 3 e) ∧ ReG g b c s (ix (g 3 d))
            · rw [j2 r w, nI_eq (by omega) (by omega)] at q2; omega
            · rw [j3 r w] at q2; exact nI_n5 q2.symm (by omega)
          by_cases e0 : a = ix (g 2 e)
          · subst e0
            rw [up2_s]
            exact ⟨fun n hn d => absurd (Re_mono _ _ _ _ _ hn d.1) nF, fun _ _ => rfl, fun _ w => absurd ⟨e, by omega, q3, rfl, rT⟩ w⟩
          · rw [up2_n (by omega)]
            refine ⟨i1, fun r ⟨d, w1, w2, w3, w4⟩ => i2 r ⟨d, ?_, w2, w3, w4⟩, fun r w => i3 r (fun ⟨d, w1, w2⟩ => w ⟨d, by omega, w2⟩)⟩
            rcases Nat.lt_or_ge d e with z | z
            · exact z
            · exact absurd w3 (by rw [show d = e from by omega]; exact fun z => e0 z.symm)
        · rw [if_neg q]
          refine ⟨i1, fun r ⟨d, w1, w2, w3, w4⟩ => ?_, fun r w => i3 r (fun ⟨d, w1, w2⟩ => w ⟨d, by omega, w2⟩)⟩
          by_cases e0 : ∃ d, d < e ∧ pPass g b d ∧ ix (g 2 d) = a ∧ ReG g b c s (ix (g 3 d))
          · exact i2 r e0
          · have hd : d = e := by
              rcases Nat.lt_or_ge d e with z | z
              · exact absurd ⟨d, z, w2, w3, w4⟩ e0
              · omega
            subst hd
            obtain ⟨k, k1, k2⟩ := Re_least _ _ _ _ _ w4
            have ks : k = s := by
              rcases Nat.lt_or_ge k s with z | z
              · refine absurd (Re_mono (n := k + 1) _ _ _ _ _ (by omega) ?_) r
                exact Or.inr ⟨d, by omega, w2, w3, k2.1⟩
              · omega
            subst ks
            refine absurd ⟨⟨?_, ?_⟩, w2⟩ q
            · rw [w3]; exact i3 r e0
            · rw [show k + 1 - 1 = k from by omega]; exact (ih _ t6).1 k (Nat.le_refl _) k2
      exact K _ rfl
  intro a ha
  obtain ⟨k1, k2, k3⟩ := key _ (Nat.le_refl _) a ha
  show (∀ n, n ≤ s + 1 → DsG g b c a n → iter (R_ms g b s) (ix (g 1 0)) x 6 a = nI n) ∧ (¬ ReG g b c (s + 1) a → iter (R_ms g b s) (ix (g 1 0)) x 6 a = -5)
  refine ⟨fun n hn d => ?_, fun r => ?_⟩
  · by_cases q : n ≤ s
    · exact k1 n q d
    · obtain rfl : n = s + 1 := by omega
      have nr : ¬ ReG g b c s a := d.2 s (by omega)
      rcases d.1 with z | z
      · exact absurd z nr
      · exact k2 nr z
  · exact k3 (fun z => r (Or.inl z)) (fun z => r (Or.inr z))
theorem R_clr_v (x : HB) : ∀ n j, j < n → iter (fun j x => up2 x 6 j (-5)) n x 6 j = -5
  | 0, j, h => absurd h (by omega)
  | n + 1, j, h => by
    have ih : j ≠ n → iter (fun j x => up2 x 6 j (-5)) n x 6 j = -5 := fun z => R_clr_v x n j (by omega)
    show up2 (iter (fun j x => up2 x 6 j (-5)) n x) 6 n (-5) 6 j = -5
    by_cases q : j = n
    · subst q; exact up2_s _ _ _ _
    · rw [up2_n (by omega)]; exact ih q
theorem R_meas_v {g : HB} {b c : Nat} (x : HB) (hc : c < 6) (hA : ∀ d, d < ix (g 1 0) → vI (g 2 d) 6 ∧ vI (g 3 d) 6) : BInv g b c 5 (R_meas g b c x) := by
  have b0 : BInv g b c 0 (up2 (R_clr x) 6 c (nI 0)) := by
    intro a ha
    refine ⟨fun n hn d => ?_, fun r => ?_⟩
    · obtain rfl : n = 0 := by omega
      have : a = c := d.1
      subst this
      exact up2_s _ _ _ _
    · have : a ≠ c := r
      rw [up2_n (by omega)]
      exact R_clr_v x 6 a ha
  have key : ∀ n, n ≤ 5 → BInv g b c n (iter (R_step g b) n (up2 (R_clr x) 6 c (nI 0))) := by
    intro n
    induction n with
    | zero => intro _; exact b0
    | succ n ih => intro hn; exact R_step_v (by omega) hA (ih (by omega))
  exact key 5 (Nat.le_refl _)
