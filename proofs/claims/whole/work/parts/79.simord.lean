/-! numbers as told, in both -/
theorem mpI_iff {v : Int32} {n : Nat} (hn : n < 2 ^ 30) : mpI v n ↔ vI v (n + 1) := by
  unfold mpI
  rw [nI_0]
  constructor
  · rintro ⟨h1, h2⟩
    obtain ⟨j, hj, rfl⟩ := nI_of h1
    exact ⟨j, Nat.not_le.mp (fun z => h2 (nI_lt (by omega) hj)), rfl⟩
  · rintro ⟨j, hj, rfl⟩
    exact ⟨nI_pos (by omega), nI_nlt (by omega) (by omega)⟩
theorem pA_iff {v : Int32} : pA v ↔ vI v 6 := by
  constructor
  · rintro ⟨h1, h2⟩; exact vI_of (by decide) h1 h2
  · rintro ⟨j, hj, rfl⟩; exact ⟨nI_pos (by omega), nI_ge hj (by decide)⟩
theorem pL_iff {v : Int32} : pL v ↔ vI v 4 := by
  have := mpI_iff (v := v) (n := 3) (by decide)
  unfold mpI at this
  rw [nI_0] at this
  exact this
theorem pF_iff {v : Int32} : pF v ↔ vI v 2 := by
  constructor
  · rintro (rfl | rfl)
    · exact ⟨0, by decide, rfl⟩
    · exact ⟨1, by decide, rfl⟩
  · rintro ⟨j, hj, rfl⟩
    rcases (by omega : j = 0 ∨ j = 1) with rfl | rfl
    · exact Or.inl rfl
    · exact Or.inr rfl
theorem pX_iff {x v : Int32} {N : Nat} (hx : vI x (N + 1)) (hN : N < 2 ^ 30) : (¬ v < 0 ∧ ¬ x ≤ v) ↔ ∃ j, j < ix x ∧ v = nI j := by
  constructor
  · intro h
    obtain ⟨j, h1, _, h3⟩ := vI_has hx hN h
    exact ⟨j, h1, h3⟩
  · rintro ⟨j, h1, rfl⟩; exact has_ok hx hN h1
theorem mpX_iff {x v : Int32} {N : Nat} (hx : vI x (N + 1)) (hN : N < 2 ^ 30) : (¬ v < nI 0 ∧ ¬ x - nI 1 < v) ↔ ∃ j, j < ix x ∧ v = nI j := by
  constructor
  · intro h
    obtain ⟨⟨j, h1, rfl⟩, h2⟩ := vI_in hx hN h
    rw [ix_nI (by omega)] at h2
    exact ⟨j, h2, rfl⟩
  · rintro ⟨j, h1, rfl⟩; exact in_ok hx hN h1
theorem pD_mp {g m : HB} (H : RS0 g (m 1)) {d : Int32} : pD g d ↔ mpD m d := by
  have e : m 1 529 = g 1 0 := H.2.2.2.1.2.2.2.1
  unfold pD mpD
  rw [e, pX_iff (N := 8) H.1.1 (by decide), mpX_iff (N := 8) H.1.1 (by decide)]
theorem pB_mp {g m : HB} (H : RS0 g (m 1)) {b : Int32} : pB g b ↔ mpB m b := by
  have e : m 1 530 = g 18 0 := H.2.2.2.1.2.2.2.2
  unfold pB mpB
  rw [e, pX_iff (N := 8) H.1.2 (by decide), mpX_iff (N := 8) H.1.2 (by decide)]
theorem lt8_iff {x : Int32} (hx : vI x 9) : ¬ x < nI 8 ↔ x = nI 8 := by
  obtain ⟨n, hn, rfl⟩ := hx
  rw [nI_ltI (by omega) (by decide), nI_eq (by omega) (by decide)]
  omega
/-- the refusals of both: one of four numbers -/
theorem rBadge_v (g : HB) (v : Int32) : H_rBadge g v = -2 ∨ H_rBadge g v = -4 ∨ H_rBadge g v = 0 := by
  unfold H_rBadge
  repeat' split
  · exact Or.inl rfl
  · exact Or.inr (Or.inl rfl)
  · exact Or.inr (Or.inr rfl)
theorem rDoor_v (g : HB) (f t a b : Int32) : H_rDoor g f t a b = -2 ∨ H_rDoor g f t a b = -4 ∨ H_rDoor g f t a b = 0 := by
  unfold H_rDoor
  repeat' split
  · exact Or.inl rfl
  · exact Or.inr (Or.inl rfl)
  · exact Or.inr (Or.inr rfl)
theorem rOnline_v (g : HB) (d s : Int32) : H_rOnline g d s = -2 ∨ H_rOnline g d s = -3 ∨ H_rOnline g d s = 0 := by
  unfold H_rOnline
  repeat' split
  · exact Or.inl rfl
  · exact Or.inr (Or.inl rfl)
  · exact Or.inr (Or.inr rfl)
theorem rf2 : M_rf (-2) := by decide
theorem rf3 : M_rf (-3) := by decide
theorem rf4 : M_rf (-4) := by decide
theorem rem24_v {t : Nat} (h : t < 2 ^ 31) : rem24 (nI t) = nI (t % 24) := by
  unfold rem24
  exact pk_rem h (by decide) (by decide)
/-- an ORDER of both: refused alike, done alike -/
def DoEq (N : Nat) (r : Int32) (G : HB) (x : Int32 × HB) : Prop := (r = 0 ↔ ¬ M_rf x.1) ∧ RH (N + 100) G (x.2 1)
theorem do_badge {N : Nat} {g m : HB} {v : Int32} (H : RH N g (m 1)) : DoEq N (H_rBadge g v) (H_badgeG g v) (M_badgeT m v) := by
  have e : m 1 530 = g 18 0 := H.1.2.2.2.1.2.2.2.2
  unfold DoEq H_badgeG H_rBadge M_badgeT
  rw [e]
  by_cases c : vI v 4
  · have c1 : pL v := pL_iff.mpr c
    have c2 : mpI v 3 := (mpI_iff (by decide)).mpr c
    by_cases q : g 18 0 = nI 8
    · have q1 : ¬ g 18 0 < nI 8 := (lt8_iff H.1.1.2).mpr q
      rw [if_neg (fun z => z c1), if_pos q1, if_pos c2, if_pos q, if_neg (by decide)]
      exact ⟨⟨fun z => absurd z (by decide), fun z => absurd rf4 z⟩, RH_mono H (by omega)⟩
    · have q1 : g 18 0 < nI 8 := Decidable.not_not.mp (fun z => q ((lt8_iff H.1.1.2).mp z))
      have h8 := vI_lt8 H.1.1.2 q1
      rw [if_neg (fun z => z c1), if_neg (fun z => z q1), if_pos c2, if_neg q, if_pos (by decide)]
      refine ⟨⟨fun _ => nref (by have := ix_lt h8 (by decide); omega), fun _ => rfl⟩, RH_mono (RH_badge H h8 c) (by omega)⟩
  · have c1 : ¬ pL v := fun z => c (pL_iff.mp z)
    have c2 : ¬ mpI v 3 := fun z => c ((mpI_iff (by decide)).mp z)
    rw [if_pos c1, if_neg c2, if_neg (by decide)]
    exact ⟨⟨fun z => absurd z (by decide), fun z => absurd rf2 z⟩, RH_mono H (by omega)⟩
theorem do_door {N : Nat} {g m : HB} {f t a b : Int32} (H : RH N g (m 1)) : DoEq N (H_rDoor g f t a b) (H_doorG g f t a b) (M_doorT m f t a b) := by
  have e : m 1 529 = g 1 0 := H.1.2.2.2.1.2.2.2.1
  unfold DoEq H_doorG H_rDoor M_doorT
  rw [e]
  have cc : (pA f ∧ pA t ∧ ¬ f = t ∧ pL a ∧ pL b) ↔ (mpI f 5 ∧ mpI t 5 ∧ ¬ f = t ∧ mpI a 3 ∧ mpI b 3) := by
    rw [pA_iff, pA_iff, pL_iff, pL_iff, mpI_iff (by decide), mpI_iff (by decide), mpI_iff (by decide), mpI_iff (by decide)]
  by_cases c1 : pA f ∧ pA t ∧ ¬ f = t ∧ pL a ∧ pL b
  · have c2 := cc.mp c1
    by_cases q : g 1 0 = nI 8
    · have q1 : ¬ g 1 0 < nI 8 := (lt8_iff H.1.1.1).mpr q
      rw [if_neg (fun z => z c1), if_pos q1, if_pos c2, if_pos q, if_neg (by decide)]
      exact ⟨⟨fun z => absurd z (by decide), fun z => absurd rf4 z⟩, RH_mono H (by omega)⟩
    · have q1 : g 1 0 < nI 8 := Decidable.not_not.mp (fun z => q ((lt8_iff H.1.1.1).mp z))
      have h8 := vI_lt8 H.1.1.1 q1
      rw [if_neg (fun z => z c1), if_neg (fun z => z q1), if_pos c2, if_neg q, if_pos (by decide)]
      exact ⟨⟨fun _ => nref (by have := ix_lt h8 (by decide); omega), fun _ => rfl⟩, RH_mono (RH_door H h8 (pA_iff.mp c1.1) (pA_iff.mp c1.2.1)) (by omega)⟩
  · rw [if_pos c1, if_neg (fun z => c1 (cc.mpr z)), if_neg (by decide)]
    exact ⟨⟨fun z => absurd z (by decide), fun z => absurd rf2 z⟩, RH_mono H (by omega)⟩
theorem do_ask {N : Nat} {g m : HB} {b d s : Int32} (H : RH N g (m 1)) (hN : N + 100 < 2 ^ 30) : DoEq N (H_rAsk g b d s) (H_askG g b d s) (M_askT m b d s) := by
  unfold DoEq H_askG H_rAsk M_askT
  have cc : (pB g b ∧ pD g d ∧ pF s) ↔ (mpB m b ∧ mpD m d ∧ mpI s 1) := by
    rw [pB_mp H.1, pD_mp H.1, pF_iff, mpI_iff (by decide)]
  by_cases c1 : pB g b ∧ pD g d ∧ pF s
  · rw [if_pos c1, if_pos (cc.mp c1), if_pos (by decide)]
    obtain ⟨x, hx, rfl⟩ := (pX_iff (N := 8) H.1.1.2 (by decide)).mp c1.1
    obtain ⟨y, hy, rfl⟩ := (pX_iff (N := 8) H.1.1.1 (by decide)).mp c1.2.1
    have b1 := ix_lt H.1.1.1 (by decide)
    have b2 := ix_lt H.1.1.2 (by decide)
    rw [show ix (nI x) = x from ix_nI (by omega), show ix (nI y) = y from ix_nI (by omega)]
    refine ⟨⟨fun _ => nref ?_, fun _ => rfl⟩, RH_mono (RH_ask H hx hy (by omega) ?_) (by omega)⟩
    · rw [dec_eq H hx hy]
      unfold H_dec
      split
      · have := H_on_lt g x y; omega
      · have := H_off_lt g x y; omega
    · rcases c1.2.2 with rfl | rfl
      · exact Or.inl rfl
      · exact Or.inr rfl
  · rw [if_neg c1, if_neg (fun z => c1 (cc.mpr z)), if_neg (by decide)]
    exact ⟨⟨fun z => absurd z (by decide), fun z => absurd rf2 z⟩, RH_mono H (by omega)⟩
theorem do_bar {N : Nat} {g m : HB} {b : Int32} (H : RH N g (m 1)) : DoEq N (H_rBar g b (nI 1)) (H_barG g b) (M_barT m b (nI 1)) := by
  unfold DoEq H_barG H_rBar M_barT
  have cc : (pB g b ∧ pF (nI 1)) ↔ (mpB m b ∧ mpI (nI 1) 1) := by
    rw [pB_mp H.1, pF_iff, mpI_iff (by decide)]
  by_cases c1 : pB g b ∧ pF (nI 1)
  · rw [if_pos c1, if_pos (cc.mp c1), if_pos (by decide)]
    obtain ⟨x, hx, rfl⟩ := (pX_iff (N := 8) H.1.1.2 (by decide)).mp c1.1
    have b2 := ix_lt H.1.1.2 (by decide)
    rw [show ix (nI x) = x from ix_nI (by omega)]
    refine ⟨⟨fun _ => ?_, fun _ => rfl⟩, RH_mono (RH_bset 1 H hx (Or.inr ⟨rfl, ⟨1, by decide, rfl⟩⟩)) (by omega)⟩
    have e1 : m 1 (480 + 6 * x + 1) = g 20 x := H.1.2.2.1 x 1 hx (by decide) (by decide)
    obtain ⟨j, hj, e⟩ := (H.2.2.2.2.2.2.2.2.1 x hx).2.1
    show ¬ M_rf (m 1 (480 + 6 * x + 1))
    rw [e1, e]
    exact nref (by omega)
  · rw [if_neg c1, if_neg (fun z => c1 (cc.mpr z)), if_neg (by decide)]
    exact ⟨⟨fun z => absurd z (by decide), fun z => absurd rf2 z⟩, RH_mono H (by omega)⟩
theorem wait_iff {n : Int32} : (¬ n < nI 1 ∧ ¬ nI 99 < n) ↔ ∃ k, 1 ≤ k ∧ k ≤ 99 ∧ n = nI k := by
  constructor
  · rintro ⟨h1, h2⟩
    have h0 : ¬ n < 0 := fun z => h1 (Int32.lt_of_lt_of_le z (nI_pos' (by decide)))
    obtain ⟨j, hj, rfl⟩ := nI_of h0
    rw [nI_ltI hj (by decide)] at h1
    rw [nI_ltI (by decide) hj] at h2
    exact ⟨j, by omega, by omega, rfl⟩
  · rintro ⟨k, h1, h2, rfl⟩
    rw [nI_ltI (by omega) (by decide), nI_ltI (by decide) (by omega)]
    omega
theorem do_wait {N : Nat} {g m : HB} {n : Int32} (H : RH N g (m 1)) (hN : N + 100 < 2 ^ 30) : DoEq N (H_rWait n) (H_waitG g n) (M_waitT m n) := by
  unfold DoEq H_waitG H_rWait M_waitT
  by_cases c1 : ¬ n < nI 1 ∧ ¬ nI 99 < n
  · rw [if_pos c1, if_pos c1, if_pos (by decide)]
    obtain ⟨k, k1, k2, rfl⟩ := wait_iff.mp c1
    refine ⟨⟨fun _ => ?_, fun _ => rfl⟩, RH_wait H k2 hN⟩
    obtain ⟨t, ht, e⟩ := H.2.2.2.2.2.2.2.2.2
    show ¬ M_rf (rem24 (m 1 528 + nI k))
    rw [H.1.2.2.2.1.1, e, nI_add, rem24_v (by omega)]
    exact nref (by omega)
  · rw [if_neg c1, if_neg c1, if_neg (by decide)]
    exact ⟨⟨fun z => absurd z (by decide), fun z => absurd rf2 z⟩, RH_mono H (by omega)⟩
theorem on_iff {N : Nat} {g m : HB} {d s : Int32} (H : RH N g (m 1)) : (pD g d ∧ pF s) ↔ (mpD m d ∧ mpI s 1) := by
  rw [pD_mp H.1, pF_iff, mpI_iff (by decide)]
theorem do_on {N : Nat} {g m : HB} {d : Int32} (H : RH N g (m 1)) : DoEq N (H_rOnline g d (nI 1)) (H_onG g d) (M_onT m d (nI 1)) := by
  unfold DoEq H_onG H_rOnline M_onT
  by_cases c1 : pD g d ∧ pF (nI 1)
  · rw [if_neg (fun z => z c1), if_pos ((on_iff H).mp c1)]
    obtain ⟨y, hy, rfl⟩ := (pX_iff (N := 8) H.1.1.1 (by decide)).mp c1.1
    have b1 := ix_lt H.1.1.1 (by decide)
    have e7 : m 1 (60 * y + 7) = g 9 y := H.1.2.1 y 7 hy (by decide)
    rw [show ix (nI y) = y from ix_nI (by omega), e7]
    by_cases q : g 9 y = nI 1
    · rw [if_pos q, if_pos q, if_neg (by decide)]
      exact ⟨⟨fun z => absurd z (by decide), fun z => absurd rf3 z⟩, RH_mono H (by omega)⟩
    · rw [if_neg q, if_neg q, if_pos (show nI 0 = (0 : Int32) by decide), if_neg (show ¬ nI 1 = nI 0 by decide)]
      obtain ⟨n1, n2, n3⟩ := H.2.2.2.1 y hy
      have n2' := ix_lt n2 (by decide)
      exact ⟨⟨fun _ => nref (by rw [n1]; omega), fun _ => rfl⟩, RH_mono (RH_online H hy) (by omega)⟩
  · rw [if_pos c1, if_neg (fun z => c1 ((on_iff H).mpr z)), if_neg (by decide)]
    exact ⟨⟨fun z => absurd z (by decide), fun z => absurd rf2 z⟩, RH_mono H (by omega)⟩
theorem do_off {N : Nat} {g m : HB} {d : Int32} (H : RH N g (m 1)) : DoEq N (H_rOnline g d (nI 0)) (H_offG g d) (M_onT m d (nI 0)) := by
  unfold DoEq H_offG H_rOnline M_onT
  by_cases c1 : pD g d ∧ pF (nI 0)
  · rw [if_neg (fun z => z c1), if_pos ((on_iff H).mp c1)]
    obtain ⟨y, hy, rfl⟩ := (pX_iff (N := 8) H.1.1.1 (by decide)).mp c1.1
    have b1 := ix_lt H.1.1.1 (by decide)
    have e7 : m 1 (60 * y + 7) = g 9 y := H.1.2.1 y 7 hy (by decide)
    rw [show ix (nI y) = y from ix_nI (by omega), e7]
    by_cases q : g 9 y = nI 0
    · rw [if_pos q, if_pos q, if_neg (by decide)]
      exact ⟨⟨fun z => absurd z (by decide), fun z => absurd rf3 z⟩, RH_mono H (by omega)⟩
    · rw [if_neg q, if_neg q, if_pos (show nI 0 = (0 : Int32) by decide), if_pos (show nI 0 = nI 0 from rfl)]
      exact ⟨⟨fun _ => nref (by decide), fun _ => rfl⟩, RH_mono (RH_offline H hy) (by omega)⟩
  · rw [if_pos c1, if_neg (fun z => c1 ((on_iff H).mpr z)), if_neg (by decide)]
    exact ⟨⟨fun z => absurd z (by decide), fun z => absurd rf2 z⟩, RH_mono H (by omega)⟩
theorem do_eq {N w p : Nat} {g m : HB} {a b c d : Int32} (H : RH N g (m 1)) (hN : N + 100 < 2 ^ 30) (ha : a = m 8 p) (h2 : w = 2 ∨ w = 3 → b = m 8 (p + 1)) (h4 : w = 1 → b = m 8 (p + 1) ∧ c = m 8 (p + 2) ∧ d = m 8 (p + 3)) : DoEq N (H_doR g w a b c d) (H_doG g w a b c d) (M_doT m w p) := by
  subst ha
  unfold H_doR H_doG M_doT
  by_cases w0 : w = 0
  · simp only [w0, if_true]; exact do_badge H
  · simp only [w0, if_false]
    by_cases w1 : w = 1
    · obtain ⟨rfl, rfl, rfl⟩ := h4 w1
      simp only [w1, if_true]; exact do_door H
    · simp only [w1, if_false]
      by_cases w2 : w = 2
      · obtain rfl := h2 (Or.inl w2)
        simp only [w2, if_true]; exact do_ask H hN
      · simp only [w2, if_false]
        by_cases w3 : w = 3
        · obtain rfl := h2 (Or.inr w3)
          simp only [w3, if_true]; exact do_ask H hN
        · simp only [w3, if_false]
          by_cases w4 : w = 4
          · simp only [w4, if_true]; exact do_wait H hN
          · simp only [w4, if_false]
            by_cases w5 : w = 5
            · simp only [w5, if_true]; exact do_off H
            · simp only [w5, if_false]
              by_cases w6 : w = 6
              · simp only [w6, if_true]; exact do_on H
              · simp only [w6, if_false]; exact do_bar H
