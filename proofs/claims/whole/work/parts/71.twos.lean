/-! PASSED: the search of the reference against the row of times -/
theorem pigeon : ∀ (m n : Nat) (f : Nat → Nat), (∀ i, i < n → f i < m) → (∀ i j, i < n → j < n → f i = f j → i = j) → n ≤ m := by
  intro m
  induction m with
  | zero =>
    intro n f h1 _
    rcases Nat.eq_zero_or_pos n with h | h
    · omega
    · exact absurd (h1 0 h) (by omega)
  | succ m ih =>
    intro n f h1 h2
    rcases Nat.eq_zero_or_pos n with h | h
    · omega
    · have key : n - 1 ≤ m := by
        refine ih (n - 1) (fun i => if f i = m then f (n - 1) else f i) (fun i hi => ?_) (fun i j hi hj e => ?_)
        · have a1 := h1 i (by omega)
          have a2 := h1 (n - 1) (by omega)
          by_cases c : f i = m
          · simp only [c, if_true]
            have : f (n - 1) ≠ m := fun z => absurd (h2 i (n - 1) (by omega) (by omega) (by rw [c, z])) (by omega)
            omega
          · simp only [c, if_false]; omega
        · by_cases c : f i = m
          · by_cases c2 : f j = m
            · exact h2 i j (by omega) (by omega) (by rw [c, c2])
            · simp only [c, c2, if_true, if_false] at e
              exact absurd (h2 (n - 1) j (by omega) (by omega) e) (by omega)
          · by_cases c2 : f j = m
            · simp only [c, c2, if_true, if_false] at e
              exact absurd (h2 i (n - 1) (by omega) (by omega) e) (by omega)
            · simp only [c, c2, if_false] at e
              exact h2 i j (by omega) (by omega) e
      omega
theorem pigeon_miss {m n t : Nat} {f : Nat → Nat} (h1 : ∀ i, i < n → f i < m + 1) (h2 : ∀ i j, i < n → j < n → f i = f j → i = j) (ht : t < m + 1) (h3 : ∀ i, i < n → f i ≠ t) : n ≤ m := by
  refine pigeon m n (fun i => if t < f i then f i - 1 else f i) (fun i hi => ?_) (fun i j hi hj e => ?_)
  · have a1 := h1 i hi
    have a2 := h3 i hi
    by_cases c : t < f i
    · simp only [c, if_true]; omega
    · simp only [c, if_false]; omega
  · have a1 := h3 i hi
    have a2 := h3 j hj
    refine h2 i j hi hj ?_
    by_cases c : t < f i
    · by_cases c2 : t < f j
      · simp only [c, c2, if_true] at e; omega
      · simp only [c, c2, if_true, if_false] at e; omega
    · by_cases c2 : t < f j
      · simp only [c, c2, if_true, if_false] at e; omega
      · simp only [c, c2, if_false] at e; omega
abbrev twM (h : HB) (b d i : Nat) : Prop := h 1 (541 + 3 * i) = nI b ∧ h 1 (541 + 3 * i + 1) = nI d
theorem pfF_spec (h : HB) (b d : Nat) : ∀ n j, ix (h 1 540) - j < n → j ≤ ix (h 1 540) → j ≤ pfF h b d n j ∧ pfF h b d n j ≤ ix (h 1 540) ∧ (∀ i, j ≤ i → i < pfF h b d n j → ¬ twM h b d i) ∧ (pfF h b d n j < ix (h 1 540) → twM h b d (pfF h b d n j)) := by
  intro n
  induction n with
  | zero => intro j h1 h2; exact absurd h1 (by omega)
  | succ n ih =>
    intro j h1 h2
    by_cases c : j < ix (h 1 540) ∧ ¬ (h 1 (541 + 3 * j) = nI b ∧ h 1 (541 + 3 * j + 1) = nI d)
    · have e : pfF h b d (n + 1) j = pfF h b d n (j + 1) := by rw [pfF, if_pos c]
      rw [e]
      obtain ⟨a1, a2, a3, a4⟩ := ih (j + 1) (by omega) (by omega)
      refine ⟨by omega, a2, fun i x y => ?_, a4⟩
      by_cases q : i = j
      · subst q; exact c.2
      · exact a3 i (by omega) y
    · have e : pfF h b d (n + 1) j = j := by rw [pfF, if_neg c]
      rw [e]
      refine ⟨Nat.le_refl _, h2, fun i x y => absurd y (by omega), fun x => ?_⟩
      exact Decidable.not_not.mp (fun z => c ⟨x, z⟩)
theorem RTw_two {N b d : Nat} {g m : HB} (H : RTw N g (m 1)) (hb : b < 8) (hd : d < 8) (hN : N < 2 ^ 30) : pfF m b d 66 0 < 64 ∧ RTw (N + 1) (H_two g b d) (M_p1 m b d (pfF m b d 66 0) 1) := by
  obtain ⟨a1, a2, a3, a4, a5, a6⟩ := H
  have hn := ix_lt a1 (by decide)
  have hn0 := ix_eq a1 (by decide)
  have hm : ix (m 1 540) = ix (g 25 0) := by rw [a2]
  obtain ⟨s1, s2, s3, s4⟩ := pfF_spec m b d 66 0 (by omega) (Nat.zero_le _)
  rw [hm] at s2 s4
  generalize hr : pfF m b d 66 0 = r at *
  generalize hnn : ix (g 25 0) = n at *
  have ht : b * 8 + d < 64 := by omega
  have match_ : ∀ i, i < n → (twM m b d i ↔ g 26 i = nI (b * 8 + d)) := by
    intro i hi
    obtain ⟨c1, c2, c3, c4, c5⟩ := a3 i hi
    have c1' := ix_lt c1 (by decide)
    have c0 := ix_eq c1 (by decide)
    unfold twM
    rw [c2, c3, nI_eq (by omega) (by omega), nI_eq (by omega) (by omega)]
    constructor
    · intro z
      rw [c0, show ix (g 26 i) = b * 8 + d from by omega]
    · intro z
      rw [z, ix_nI (by omega)]
      omega
  by_cases cz : g 27 (b * 8 + d) = 0
  · have miss : ∀ i, i < n → ¬ g 26 i = nI (b * 8 + d) := by
      intro i hi z
      have c5 := (a3 i hi).2.2.2.2
      rw [z, ix_nI (by omega)] at c5
      exact c5 cz
    have hlt : n ≤ 63 := by
      refine pigeon_miss (m := 63) (t := b * 8 + d) (f := fun i => ix (g 26 i)) (fun i hi => ix_lt (a3 i hi).1 (by decide)) (fun i j hi hj e => ?_) (by omega) (fun i hi z => ?_)
      · exact a4 i j hi hj (by rw [ix_eq (a3 i hi).1 (by decide), ix_eq (a3 j hj).1 (by decide)]; exact congrArg nI e)
      · exact miss i hi (by rw [ix_eq (a3 i hi).1 (by decide)]; exact congrArg nI z)
    have hrn : r = n := by
      rcases Nat.lt_or_ge r n with q | q
      · exact absurd ((match_ r q).mp (s4 q)) (miss r q)
      · omega
    subst hrn
    refine ⟨by omega, ?_⟩
    have e1 : H_two g b d = up2 (up2 (up2 g 26 r (nI (b * 8 + d))) 25 0 (nI (r + 1))) 27 (b * 8 + d) (nI 1) := by
      unfold H_two
      rw [hnn, if_pos ⟨cz, by omega⟩, cz, ← nI_0, nI_add]
    have e2 : M_p1 m b d r = up2 (up2 (up2 (up2 (up2 m 1 (541 + 3 * r) (nI b)) 1 (541 + 3 * r + 1) (nI d)) 1 (541 + 3 * r + 2) (nI 0)) 1 540 (nI (r + 1))) 1 (541 + 3 * r + 2) (nI (0 + 1)) := by
      unfold M_p1
      rw [hm, if_pos rfl]
    rw [e1, e2]
    have f25 : up2 (up2 (up2 g 26 r (nI (b * 8 + d))) 25 0 (nI (r + 1))) 27 (b * 8 + d) (nI 1) 25 0 = nI (r + 1) := by rw [up2_n (by omega), up2_s]
    have fx : ix (up2 (up2 (up2 g 26 r (nI (b * 8 + d))) 25 0 (nI (r + 1))) 27 (b * 8 + d) (nI 1) 25 0) = r + 1 := by rw [f25, ix_nI (by omega)]
    have g26 : ∀ i, up2 (up2 (up2 g 26 r (nI (b * 8 + d))) 25 0 (nI (r + 1))) 27 (b * 8 + d) (nI 1) 26 i = if i = r then nI (b * 8 + d) else g 26 i := by
      intro i
      rw [up2_n (by omega), up2_n (by omega)]
      by_cases c : i = r
      · subst c; rw [up2_s, if_pos rfl]
      · rw [up2_n (by omega), if_neg c]
    have g27 : ∀ i, up2 (up2 (up2 g 26 r (nI (b * 8 + d))) 25 0 (nI (r + 1))) 27 (b * 8 + d) (nI 1) 27 i = if i = b * 8 + d then nI 1 else g 27 i := by
      intro i
      by_cases c : i = b * 8 + d
      · subst c; rw [up2_s, if_pos rfl]
      · rw [up2_n (by omega), up2_n (by omega), up2_n (by omega), if_neg c]
    refine ⟨by rw [f25]; exact ⟨r + 1, by omega, rfl⟩, ?_, fun i x => ?_, fun i j x y e => ?_, fun t x => ?_, fun t x y => ?_⟩
    · rw [f25, up2_n (by omega), up2_s]
    · rw [fx] at x
      rw [g26 i]
      by_cases c : i = r
      · subst c
        rw [if_pos rfl, show ix (nI (b * 8 + d)) = b * 8 + d from ix_nI (by omega), g27, if_pos rfl]
        refine ⟨vI_nI ht, ?_, ?_, ?_, nI_ne0 (by decide) (by decide)⟩
        · rw [up2_n (by omega), up2_n (by omega), up2_n (by omega), up2_n (by omega), up2_s, show (b * 8 + d) / 8 = b from by omega]
        · rw [up2_n (by omega), up2_n (by omega), up2_n (by omega), up2_s, show (b * 8 + d) % 8 = d from by omega]
        · rw [up2_s]
      · obtain ⟨c1, c2, c3, c4, c5⟩ := a3 i (by omega)
        have c1' := ix_lt c1 (by decide)
        have cne : ix (g 26 i) ≠ b * 8 + d := fun z => miss i (by omega) (by rw [ix_eq c1 (by decide), z])
        rw [if_neg c, g27, if_neg cne]
        refine ⟨c1, ?_, ?_, ?_, c5⟩
        · rw [up2_n (by omega), up2_n (by omega), up2_n (by omega), up2_n (by omega), up2_n (by omega)]; exact c2
        · rw [up2_n (by omega), up2_n (by omega), up2_n (by omega), up2_n (by omega), up2_n (by omega)]; exact c3
        · rw [up2_n (by omega), up2_n (by omega), up2_n (by omega), up2_n (by omega), up2_n (by omega)]; exact c4
    · rw [fx] at x y
      rw [g26 i, g26 j] at e
      by_cases c : i = r
      · by_cases c2 : j = r
        · omega
        · rw [if_pos c, if_neg c2] at e; exact absurd e.symm (miss j (by omega))
      · by_cases c2 : j = r
        · rw [if_neg c, if_pos c2] at e; exact absurd e (miss i (by omega))
        · rw [if_neg c, if_neg c2] at e; exact a4 i j (by omega) (by omega) e
    · rw [g27 t]
      split
      · exact ⟨1, by omega, rfl⟩
      · exact vI_mono (a5 t x) (by omega)
    · rw [g27 t] at y
      by_cases c : t = b * 8 + d
      · exact ⟨r, by rw [fx]; omega, by rw [g26, if_pos rfl, c]⟩
      · rw [if_neg c] at y
        obtain ⟨i, z, e⟩ := a6 t x y
        exact ⟨i, by rw [fx]; omega, by rw [g26, if_neg (by omega)]; exact e⟩
  · obtain ⟨i0, hi0, e0⟩ := a6 _ ht cz
    have hrn : r < n := by
      rcases Nat.lt_or_ge r n with q | q
      · exact q
      · exact absurd ((match_ i0 hi0).mpr e0) (s3 i0 (Nat.zero_le _) (by omega))
    have er : g 26 r = nI (b * 8 + d) := (match_ r hrn).mp (s4 hrn)
    have exr : ix (g 26 r) = b * 8 + d := by rw [er, ix_nI (by omega)]
    refine ⟨by omega, ?_⟩
    have e1 : H_two g b d = up2 g 27 (b * 8 + d) (g 27 (b * 8 + d) + nI 1) := by
      unfold H_two
      rw [if_neg (fun z => cz z.1)]
    have e2 : M_p1 m b d r = up2 m 1 (541 + 3 * r + 2) (m 1 (541 + 3 * r + 2) + nI 1) := by
      unfold M_p1
      rw [hm, if_neg (by omega)]
    have e3 : m 1 (541 + 3 * r + 2) = g 27 (b * 8 + d) := by rw [(a3 r hrn).2.2.2.1, exr]
    rw [e1, e2, e3]
    obtain ⟨c, hc, ec⟩ := a5 _ ht
    rw [ec, nI_add]
    have f25 : up2 g 27 (b * 8 + d) (nI (c + 1)) 25 0 = g 25 0 := up2_n (by omega)
    have fx : ix (up2 g 27 (b * 8 + d) (nI (c + 1)) 25 0) = n := by rw [f25]; exact hnn
    have g26 : ∀ i, up2 g 27 (b * 8 + d) (nI (c + 1)) 26 i = g 26 i := fun i => up2_n (by omega)
    have g27 : ∀ i, up2 g 27 (b * 8 + d) (nI (c + 1)) 27 i = if i = b * 8 + d then nI (c + 1) else g 27 i := by
      intro i
      by_cases q : i = b * 8 + d
      · subst q; rw [up2_s, if_pos rfl]
      · rw [up2_n (by omega), if_neg q]
    refine ⟨by rw [f25]; exact a1, ?_, fun i x => ?_, fun i j x y e => ?_, fun t x => ?_, fun t x y => ?_⟩
    · rw [f25, up2_n (by omega)]; exact a2
    · rw [fx] at x
      obtain ⟨c1, c2, c3, c4, c5⟩ := a3 i x
      rw [g26 i, g27]
      refine ⟨c1, ?_, ?_, ?_, ?_⟩
      · rw [up2_n (by omega)]; exact c2
      · rw [up2_n (by omega)]; exact c3
      · by_cases q : i = r
        · subst q; rw [up2_s, if_pos exr]
        · have cne : ix (g 26 i) ≠ b * 8 + d := fun z => q (a4 i r x hrn (by rw [er, ix_eq c1 (by decide), z]))
          rw [up2_n (by omega), if_neg cne]; exact c4
      · split
        · exact nI_ne0 (by omega) (by omega)
        · exact c5
    · rw [fx] at x y
      rw [g26 i, g26 j] at e
      exact a4 i j x y e
    · rw [g27 t]
      split
      · exact ⟨c + 1, by omega, rfl⟩
      · exact vI_mono (a5 t x) (by omega)
    · rw [g27 t] at y
      by_cases q : t = b * 8 + d
      · exact ⟨r, by rw [fx]; exact hrn, by rw [g26, er, q]⟩
      · rw [if_neg q] at y
        obtain ⟨i, z, e⟩ := a6 t x y
        exact ⟨i, by rw [fx]; exact z, by rw [g26]; exact e⟩
