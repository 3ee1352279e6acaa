/-! words: by letters (class), by base 32 (reference) -/
def wv (d : Nat → Nat) : Nat → Nat → Nat
  | 0, _ => 0
  | n + 1, s => d s + 32 * wv d n (s + 1)
theorem wv_lt (d : Nat → Nat) : ∀ n s, (∀ i, i < n → d (s + i) < 32) → wv d n s < 32 ^ n
  | 0, s, _ => Nat.one_pos
  | n + 1, s, h => by
    have h0 := h 0 (by omega)
    have h1 := wv_lt d n (s + 1) (fun i hi => by have := h (i + 1) (by omega); rw [show s + (i + 1) = s + 1 + i from by omega] at this; exact this)
    show d s + 32 * wv d n (s + 1) < 32 ^ (n + 1)
    rw [Nat.pow_succ]
    rw [Nat.add_zero] at h0
    omega
theorem wv_inj (d d' : Nat → Nat) : ∀ n n' s s', (∀ i, i < n → 0 < d (s + i) ∧ d (s + i) < 32) → (∀ i, i < n' → 0 < d' (s' + i) ∧ d' (s' + i) < 32) → wv d n s = wv d' n' s' → n = n' ∧ ∀ i, i < n → d (s + i) = d' (s' + i)
  | 0, 0, s, s', _, _, _ => ⟨rfl, fun i hi => absurd hi (by omega)⟩
  | 0, n' + 1, s, s', _, h', e => by
    have := h' 0 (by omega)
    have e2 : 0 = d' s' + 32 * wv d' n' (s' + 1) := e
    rw [Nat.add_zero] at this
    omega
  | n + 1, 0, s, s', h, _, e => by
    have := h 0 (by omega)
    have e2 : d s + 32 * wv d n (s + 1) = 0 := e
    rw [Nat.add_zero] at this
    omega
  | n + 1, n' + 1, s, s', h, h', e => by
    have a1 := h 0 (by omega)
    have a2 := h' 0 (by omega)
    rw [Nat.add_zero] at a1 a2
    have e2 : d s + 32 * wv d n (s + 1) = d' s' + 32 * wv d' n' (s' + 1) := e
    have e3 : d s = d' s' := by omega
    have e4 : wv d n (s + 1) = wv d' n' (s' + 1) := by omega
    obtain ⟨i1, i2⟩ := wv_inj d d' n n' (s + 1) (s' + 1) (fun i hi => by have := h (i + 1) (by omega); rw [show s + (i + 1) = s + 1 + i from by omega] at this; exact this) (fun i hi => by have := h' (i + 1) (by omega); rw [show s' + (i + 1) = s' + 1 + i from by omega] at this; exact this) e4
    refine ⟨by omega, fun i hi => ?_⟩
    rcases Nat.eq_zero_or_pos i with z | z
    · subst z; exact e3
    · have := i2 (i - 1) (by omega)
      rw [show s + 1 + (i - 1) = s + i from by omega, show s' + 1 + (i - 1) = s' + i from by omega] at this
      exact this
/-- letters -/
abbrev isL (x : Int32) : Prop := ¬ x < nI 97 ∧ ¬ nI 122 < x
theorem isL_iff {x : Int32} : isL x ↔ ∃ c, 97 ≤ c ∧ c ≤ 122 ∧ x = nI c := by
  constructor
  · rintro ⟨h1, h2⟩
    have h0 : ¬ x < 0 := fun z => h1 (Int32.lt_of_lt_of_le z (nI_pos' (by decide)))
    obtain ⟨j, hj, rfl⟩ := nI_of h0
    rw [nI_ltI hj (by decide)] at h1
    rw [nI_ltI (by decide) hj] at h2
    exact ⟨j, by omega, by omega, rfl⟩
  · rintro ⟨c, h1, h2, rfl⟩
    rw [isL, nI_ltI (by omega) (by decide), nI_ltI (by decide) (by omega)]
    omega
def dgt (f : Nat → Int32) (i : Nat) : Nat := ix (f i) - 96
theorem dgt_ok {f : Nat → Int32} {i : Nat} (h : isL (f i)) : f i = nI (dgt f i + 96) ∧ 0 < dgt f i ∧ dgt f i < 32 := by
  obtain ⟨c, h1, h2, e⟩ := isL_iff.mp h
  have : dgt f i = c - 96 := by unfold dgt; rw [e, ix_nI (by omega)]
  rw [this, e]
  exact ⟨by rw [show c - 96 + 96 = c from by omega], by omega, by omega⟩
theorem ltA_v (f : Nat → Int32) (e : Nat) : ∀ n, n ≤ e → (∀ i, i < n → isL (f (e - (i + 1)))) → M_ltA f e n = lN (wv (dgt f) n (e - n))
  | 0, _, _ => rfl
  | n + 1, hn, h => by
    have ih := ltA_v f e n (by omega) (fun i hi => h i (by omega))
    obtain ⟨d1, d2, d3⟩ := dgt_ok (h n (by omega))
    show M_ltA f e n * 32 + (f (e - (n + 1))).toInt64 - 97 + 1 = lN (dgt f (e - (n + 1)) + 32 * wv (dgt f) n (e - (n + 1) + 1))
    rw [ih, d1, nI_l (by omega), show e - (n + 1) + 1 = e - n from by omega, show (32 : Int64) = lN 32 from rfl, show (97 : Int64) = lN 97 from rfl, lN_mul, lN_add, lN_sub (by omega), lN_1]
    congr 1
    have : dgt (fun _ => nI (dgt f (e - (n + 1)) + 96)) 0 = dgt f (e - (n + 1)) := by unfold dgt; rw [ix_nI (by unfold dgt at d3; omega)]; omega
    omega
/-- the eight words -/
def kW (w : Nat) : Int64 := match w with
  | 0 => M_wd (nI 2) (nI 1) (nI 4) (nI 7) (nI 5) (nI 0)
  | 1 => M_wd (nI 4) (nI 15) (nI 15) (nI 18) (nI 0) (nI 0)
  | 2 => M_wd (nI 1) (nI 19) (nI 11) (nI 0) (nI 0) (nI 0)
  | 3 => M_wd (nI 4) (nI 21) (nI 18) (nI 5) (nI 19) (nI 19)
  | 4 => M_wd (nI 23) (nI 1) (nI 9) (nI 20) (nI 0) (nI 0)
  | 5 => M_wd (nI 15) (nI 6) (nI 6) (nI 0) (nI 0) (nI 0)
  | 6 => M_wd (nI 15) (nI 14) (nI 0) (nI 0) (nI 0) (nI 0)
  | _ => M_wd (nI 2) (nI 1) (nI 18) (nI 0) (nI 0) (nI 0)
theorem kW_v : ∀ w, w < 8 → kW w = lN (wv (dgt (sxC w)) (sxN_ w) 0) ∧ ¬ kW w = 0 ∧ sxN_ w < 10 := by decide +kernel
theorem kW_l : ∀ w, w < 8 → ∀ i, i < sxN_ w → isL (sxC w i) := by decide +kernel
theorem kW_ne : ∀ w, w < 8 → ∀ v, v < 8 → kW w = kW v → w = v := by decide +kernel
theorem kW_at : ∀ w, w < 8 → M_w0 (kW w) (-1) = nI w := by decide +kernel
theorem kW_no {l : Int64} (h : ∀ w, w < 8 → ¬ l = kW w) : M_w0 l (-1) = -1 := by
  have q : ∀ w, w < 8 → ¬ lg_cmp l (kW w) = 0 := fun w hw z => h w hw ((lg_cmp_eq _ _).mp z)
  have q0 : ¬ lg_cmp l (M_wd (nI 2) (nI 1) (nI 4) (nI 7) (nI 5) (nI 0)) = 0 := q 0 (by decide)
  have q1 : ¬ lg_cmp l (M_wd (nI 4) (nI 15) (nI 15) (nI 18) (nI 0) (nI 0)) = 0 := q 1 (by decide)
  have q2 : ¬ lg_cmp l (M_wd (nI 1) (nI 19) (nI 11) (nI 0) (nI 0) (nI 0)) = 0 := q 2 (by decide)
  have q3 : ¬ lg_cmp l (M_wd (nI 4) (nI 21) (nI 18) (nI 5) (nI 19) (nI 19)) = 0 := q 3 (by decide)
  have q4 : ¬ lg_cmp l (M_wd (nI 23) (nI 1) (nI 9) (nI 20) (nI 0) (nI 0)) = 0 := q 4 (by decide)
  have q5 : ¬ lg_cmp l (M_wd (nI 15) (nI 6) (nI 6) (nI 0) (nI 0) (nI 0)) = 0 := q 5 (by decide)
  have q6 : ¬ lg_cmp l (M_wd (nI 15) (nI 14) (nI 0) (nI 0) (nI 0) (nI 0)) = 0 := q 6 (by decide)
  have q7 : ¬ lg_cmp l (M_wd (nI 2) (nI 1) (nI 18) (nI 0) (nI 0) (nI 0)) = 0 := q 7 (by decide)
  unfold M_w0 M_w1 M_w2 M_w3 M_w4 M_w5 M_w6 M_w7
  rw [if_neg q0, if_neg q1, if_neg q2, if_neg q3, if_neg q4, if_neg q5, if_neg q6, if_neg q7]
theorem lt_spl {f : Nat → Int32} {s e w : Nat} (hse : s ≤ e) (hl : ∀ i, s ≤ i → i < e → isL (f i)) (hw : w < 8) : M_lt f s e = kW w ↔ spl f s e w := by
  obtain ⟨k1, k2, k3⟩ := kW_v w hw
  unfold M_lt
  by_cases c : e - s < 10
  · rw [if_pos c, ltA_v f e (e - s) (by omega) (fun i hi => hl _ (by omega) (by omega)), show e - (e - s) = s from by omega, k1]
    have l1 := wv_lt (dgt f) (e - s) s (fun i hi => (dgt_ok (hl (s + i) (by omega) (by omega))).2.2)
    have l2 := wv_lt (dgt (sxC w)) (sxN_ w) 0 (fun i hi => (dgt_ok (f := sxC w) (i := 0 + i) (by rw [Nat.zero_add]; exact kW_l w hw i hi)).2.2)
    have p1 : (32 : Nat) ^ (e - s) ≤ 32 ^ 10 := Nat.pow_le_pow_right (by decide) (by omega)
    have p2 : (32 : Nat) ^ (sxN_ w) ≤ 32 ^ 10 := Nat.pow_le_pow_right (by decide) (by omega)
    have p3 : (32 : Nat) ^ 10 < 2 ^ 63 := by decide
    rw [pk_lEQ (by omega) (by omega)]
    constructor
    · intro z
      obtain ⟨i1, i2⟩ := wv_inj (dgt f) (dgt (sxC w)) (e - s) (sxN_ w) s 0 (fun i hi => (dgt_ok (hl (s + i) (by omega) (by omega))).2) (fun i hi => (dgt_ok (f := sxC w) (i := 0 + i) (by rw [Nat.zero_add]; exact kW_l w hw i hi)).2) z
      refine ⟨i1.symm, fun i hi => ?_⟩
      have := i2 i (by omega)
      rw [Nat.zero_add] at this
      rw [(dgt_ok (hl (s + i) (by omega) (by omega))).1, (dgt_ok (f := sxC w) (i := i) (kW_l w hw i hi)).1, this]
    · rintro ⟨i1, i2⟩
      rw [i1]
      have : ∀ n a b, (∀ i, i < n → dgt f (a + i) = dgt (sxC w) (b + i)) → wv (dgt f) n a = wv (dgt (sxC w)) n b := by
        intro n
        induction n with
        | zero => intro a b _; rfl
        | succ n ih =>
          intro a b h
          show dgt f a + 32 * wv (dgt f) n (a + 1) = dgt (sxC w) b + 32 * wv (dgt (sxC w)) n (b + 1)
          rw [ih (a + 1) (b + 1) (fun i hi => by have := h (i + 1) (by omega); rw [show a + (i + 1) = a + 1 + i from by omega, show b + (i + 1) = b + 1 + i from by omega] at this; exact this)]
          have := h 0 (by omega)
          rw [Nat.add_zero, Nat.add_zero] at this
          rw [this]
      refine this _ _ _ (fun i hi => ?_)
      rw [Nat.zero_add]
      unfold dgt
      rw [i2 i (by omega)]
  · rw [if_neg c]
    constructor
    · intro z; exact absurd z.symm k2
    · rintro ⟨z, -⟩; omega
theorem wfF_none {f : Nat → Int32} {s e : Nat} : ∀ n w, w + n = 8 → (∀ v, w ≤ v → v < 8 → ¬ spl f s e v) → wfF f s e n w = 8
  | 0, w, _, _ => rfl
  | n + 1, w, h, q => by
    rw [wfF, if_neg (q w (Nat.le_refl _) (by omega))]
    exact wfF_none n (w + 1) (by omega) (fun v h1 h2 => q v (by omega) h2)
theorem wfF_some {f : Nat → Int32} {s e x : Nat} (hx : x < 8) (h1 : spl f s e x) (h2 : ∀ v, v < 8 → spl f s e v → v = x) : ∀ n w, w + n = 8 → w ≤ x → wfF f s e n w = x
  | 0, w, h, q => absurd q (by omega)
  | n + 1, w, h, q => by
    by_cases c : spl f s e w
    · rw [wfF, if_pos c]; exact h2 w (by omega) c
    · rw [wfF, if_neg c]
      have : w ≠ x := fun z => c (z ▸ h1)
      exact wfF_some hx h1 h2 n (w + 1) (by omega) (by omega)
theorem wo_eq {f : Nat → Int32} {s e : Nat} (hse : s ≤ e) (hl : ∀ i, s ≤ i → i < e → isL (f i)) : M_wo f s e = if wfF f s e 8 0 < 8 then nI (wfF f s e 8 0) else -1 := by
  unfold M_wo
  by_cases c : ∃ w, w < 8 ∧ spl f s e w
  · obtain ⟨w, hw, h⟩ := c
    have e1 := (lt_spl hse hl hw).mpr h
    have u : ∀ v, v < 8 → spl f s e v → v = w := fun v hv z => kW_ne v hv w hw (by rw [← (lt_spl hse hl hv).mpr z, e1])
    rw [wfF_some hw h u 8 0 rfl (Nat.zero_le _), if_pos hw, e1]
    exact kW_at w hw
  · have n1 : ∀ w, w < 8 → ¬ spl f s e w := fun w hw z => c ⟨w, hw, z⟩
    rw [wfF_none 8 0 rfl (fun v _ hv => n1 v hv), if_neg (by decide)]
    exact kW_no (fun w hw z => n1 w hw ((lt_spl hse hl hw).mp z))
theorem lw_let (f : Nat → Int32) (L : Nat) : ∀ n a i, a ≤ i → i < lw f L n a → isL (f i)
  | 0, a, i, h1, h2 => absurd h2 (by show ¬ i < a; omega)
  | n + 1, a, i, h1, h2 => by
    by_cases c : let_ f L a
    · have e : lw f L (n + 1) a = lw f L n (a + 1) := by rw [lw, if_pos c]
      rw [e] at h2
      by_cases q : i = a
      · subst q; exact c.2
      · exact lw_let f L n (a + 1) i (by omega) h2
    · have e : lw f L (n + 1) a = a := by rw [lw, if_neg c]
      rw [e] at h2
      omega
theorem oW_eq (f : Nat → Int32) (L a : Nat) (ha : skp f L a = a) : M_oW f L a = if wW f L a < 8 then nI (wW f L a) else -1 := by
  unfold M_oW wW wE
  rw [ha]
  exact wo_eq (lw_ge f L 152 a) (fun i h1 h2 => lw_let f L 152 a i h1 h2)
theorem due_eq : ∀ w, w < 8 → M_due w = dueN w ∧ 1 ≤ dueN w ∧ dueN w ≤ 4 := by decide
