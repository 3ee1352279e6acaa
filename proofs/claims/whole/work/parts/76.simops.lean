/-! the other calls that change a house -/
theorem endAll_v : ∀ (c : Nat) (x : HB) (d : Nat), iter (fun j x => up2 x 11 j (-1)) c x 11 d = if d < c then -1 else x 11 d
  | 0, x, d => by simp [iter]
  | c + 1, x, d => by
    have ih := endAll_v c x d
    show up2 (iter (fun j x => up2 x 11 j (-1)) c x) 11 c (-1) 11 d = _
    by_cases q : d = c
    · subst q; rw [up2_s, if_pos (by omega)]
    · rw [up2_n (by omega), ih]
      by_cases r : d < c
      · rw [if_pos r, if_pos (by omega)]
      · rw [if_neg r, if_neg (by omega)]
theorem wB_v : ∀ (c : Nat) (x : HB) (d : Nat), d < c → iter M_wB c x 1 (60 * d + 9) = -1
  | 0, x, d, h => absurd h (by omega)
  | c + 1, x, d, h => by
    have ih : d ≠ c → iter M_wB c x 1 (60 * d + 9) = -1 := fun z => wB_v c x d (by omega)
    show M_wB c (iter M_wB c x) 1 (60 * d + 9) = _
    generalize iter M_wB c x = y at *
    unfold M_wB
    by_cases q : d = c
    · subst q; rw [up2_s]
    · rw [up2_n (by omega)]; exact ih q
theorem wB_n : ∀ (c : Nat) (x : HB) (p : Nat), c ≤ 8 → (480 ≤ p ∨ p % 60 ≠ 9) → iter M_wB c x 1 p = x 1 p
  | 0, x, p, _, _ => rfl
  | c + 1, x, p, h, hp => by
    have ih := wB_n c x p (by omega) hp
    show M_wB c (iter M_wB c x) 1 p = _
    generalize iter M_wB c x = y at *
    unfold M_wB
    rw [up2_n (by omega)]; exact ih
theorem RH_wait {N k : Nat} {g m : HB} (H : RH N g (m 1)) (hk : k ≤ 99) (hN : N + 100 < 2 ^ 30) : RH (N + 100) (H_wait g (nI k)) (M_wait m (nI k) 1) := by
  obtain ⟨h1, h2, h3, h4, h5, h6, h7⟩ := H
  have b1 := ix_lt h1.1.1 (by decide)
  have b2 := ix_lt h1.1.2 (by decide)
  have eD : m 1 529 = g 1 0 := h1.2.2.2.1.2.2.2.1
  have et : m 1 528 = g 0 0 := h1.2.2.2.1.1
  have r1 : RS0 (up2 g 0 0 (g 0 0 + nI k)) (up2 m 1 528 (g 0 0 + nI k) 1) := RS0_s 0 528 h1 (by decide)
  have eH : H_wait g (nI k) = iter (fun j x => up2 x 11 j (-1)) (ix (g 1 0)) (up2 g 0 0 (g 0 0 + nI k)) := by
    unfold H_wait H_endAll
    rw [up2_n (k' := 1) (by omega)]
  have eM : M_wait m (nI k) = iter M_wB (ix (g 1 0)) (up2 m 1 528 (g 0 0 + nI k)) := by
    unfold M_wait
    rw [eD, et]
  rw [eH, eM]
  have gn : ∀ k' j', k' ≠ 11 → ¬ (k' = 0 ∧ j' = 0) → iter (fun j x => up2 x 11 j (-1)) (ix (g 1 0)) (up2 g 0 0 (g 0 0 + nI k)) k' j' = g k' j' := fun k' j' x y => by rw [H_endAll_k _ _ _ _ x, up2_n y]
  have mn : ∀ p, p ≠ 528 → (480 ≤ p ∨ p % 60 ≠ 9) → iter M_wB (ix (g 1 0)) (up2 m 1 528 (g 0 0 + nI k)) 1 p = m 1 p := fun p x y => by rw [wB_n _ _ _ (by omega) y, up2_n (by omega)]
  have e1 := gn 1 0 (by decide) (by decide)
  have e2 := gn 18 0 (by decide) (by decide)
  refine ⟨RS0_fr r1 (H_endAll_k _ _ _ _ (by decide)) (H_endAll_k _ _ _ _ (by decide)) (fun _ _ _ _ => H_endAll_k _ _ _ _ (by omega)) (fun _ _ _ _ _ => H_endAll_k _ _ _ _ (by omega)) (fun _ _ => H_endAll_k _ _ _ _ (by omega)) (fun _ _ => H_endAll_k _ _ _ _ (by omega)) (fun p x y z w => wB_n _ _ _ (by omega) (by omega)), fun d hd => ?_, RAl_fr h3 e2 (gn _ _ (by omega) (by omega)) (fun _ _ => gn _ _ (by omega) (by omega)) (mn _ (by omega) (by omega)) (fun _ _ => mn _ (by omega) (by omega)), RNt_fr h4 e1 (by rw [e2]; exact Nat.le_refl _) (fun _ _ => gn _ _ (by omega) (by omega)) (fun _ _ _ _ => ⟨gn _ _ (by omega) (by omega), gn _ _ (by omega) (by omega)⟩) (fun _ _ _ _ _ => mn _ (by omega) (by omega)), RCp_fr h5 e1 (fun _ _ => ⟨fun z => by rw [gn _ _ (by omega) (by omega)] at z; exact z, gn _ _ (by omega) (by omega)⟩) (fun _ _ _ _ => ⟨gn _ _ (by omega) (by omega), gn _ _ (by omega) (by omega)⟩) (fun _ _ _ _ _ => mn _ (by omega) (by omega)), RTw_mono (RTw_fr h6 (gn _ _ (by omega) (by omega)) (fun _ _ => gn _ _ (by omega) (by omega)) (fun _ _ => gn _ _ (by omega) (by omega)) (fun _ _ _ => mn _ (by omega) (by omega))) (by omega), ?_⟩
  · rw [e1] at hd
    rw [wB_v _ _ _ hd, endAll_v, if_pos hd]
  · obtain ⟨v1, v2, v3, v4⟩ := h7
    refine ⟨by rw [e1]; exact SymL_fr v1 (fun _ _ => gn _ _ (by omega) (by omega)), fun d hd => ?_, RVb_fr v3 e2 (fun _ _ _ _ => gn _ _ (by omega) (by omega)), ?_⟩
    · rw [e1] at hd
      obtain ⟨a1, a2, a3, a4, a5, a6, a7⟩ := v2 d hd
      rw [gn 2 _ (by omega) (by omega), gn 3 _ (by omega) (by omega), gn 6 _ (by omega) (by omega), gn 7 _ (by omega) (by omega), gn 9 _ (by omega) (by omega), endAll_v, if_pos hd]
      exact ⟨a1, a2, a3, a4, a5, Or.inl rfl, fun _ => rfl⟩
    · obtain ⟨t, ht, e⟩ := v4
      unfold RVt
      rw [H_endAll_k _ _ _ _ (by decide), up2_s, e, nI_add]
      exact ⟨t + k, by omega, rfl⟩
/-- BACK, PAIR -/
theorem RH_set {N d : Nat} {g m : HB} {v : Int32} (k0 : Nat) (H : RH N g (m 1)) (hd : d < ix (g 1 0)) (hv : k0 = 4 ∧ vI v 3 ∨ k0 = 5 ∧ vI v 2) : RH N (up2 g (2 + k0) d v) (up2 m 1 (60 * d + k0) v 1) := by
  obtain ⟨h1, h2, h3, h4, h5, h6, h7⟩ := H
  have b1 := ix_lt h1.1.1 (by decide)
  have b2 := ix_lt h1.1.2 (by decide)
  have hk : k0 = 4 ∨ k0 = 5 := by omega
  have e1 : up2 g (2 + k0) d v 1 0 = g 1 0 := up2_n (by omega)
  have e2 : up2 g (2 + k0) d v 18 0 = g 18 0 := up2_n (by omega)
  refine ⟨RS0_d k0 h1 (by omega) (by omega), RWt_fr h2 e1 (fun _ _ => up2_n (by omega)) (fun _ _ => up2_n (by omega)), RAl_fr h3 e2 (up2_n (by omega)) (fun _ _ => up2_n (by omega)) (up2_n (by omega)) (fun _ _ => up2_n (by omega)), RNt_fr h4 e1 (by rw [e2]; exact Nat.le_refl _) (fun _ _ => up2_n (by omega)) (fun _ _ _ _ => ⟨up2_n (by omega), up2_n (by omega)⟩) (fun _ _ _ _ _ => up2_n (by omega)), RCp_fr h5 e1 (fun _ _ => ⟨fun z => by rw [up2_n (by omega)] at z; exact z, up2_n (by omega)⟩) (fun _ _ _ _ => ⟨up2_n (by omega), up2_n (by omega)⟩) (fun _ _ _ _ _ => up2_n (by omega)), RTw_fr h6 (up2_n (by omega)) (fun _ _ => up2_n (by omega)) (fun _ _ => up2_n (by omega)) (fun _ _ _ => up2_n (by omega)), ?_⟩
  obtain ⟨v1, v2, v3, v4⟩ := h7
  refine ⟨by rw [e1]; exact SymL_fr v1 (fun _ _ => up2_n (by omega)), fun x hx => ?_, RVb_fr v3 e2 (fun _ _ _ _ => up2_n (by omega)), ?_⟩
  · rw [e1] at hx
    obtain ⟨a1, a2, a3, a4, a5, a6, a7⟩ := v2 x hx
    rw [e2, up2_n (k' := 2) (by omega), up2_n (k' := 3) (by omega), up2_n (k' := 9) (by omega), up2_n (k' := 11) (by omega)]
    refine ⟨a1, a2, ?_, ?_, a5, a6, a7⟩
    · by_cases c : k0 = 4 ∧ x = d
      · obtain ⟨rfl, rfl⟩ := c
        rw [up2_s]; exact (hv.resolve_right (fun z => absurd z.1 (by decide))).2
      · rw [up2_n (by omega)]; exact a3
    · by_cases c : k0 = 5 ∧ x = d
      · obtain ⟨rfl, rfl⟩ := c
        rw [up2_s]; exact (hv.resolve_left (fun z => absurd z.1 (by decide))).2
      · rw [up2_n (by omega)]; exact a4
  · unfold RVt; rw [up2_n (by omega)]; exact v4
/-- LEVEL, BARRED -/
theorem RH_bset {N b : Nat} {g m : HB} {v : Int32} (k0 : Nat) (H : RH N g (m 1)) (hb : b < ix (g 18 0)) (hv : k0 = 0 ∧ vI v 4 ∨ k0 = 1 ∧ vI v 2) : RH N (up2 g (19 + k0) b v) (up2 m 1 (480 + 6 * b + k0) v 1) := by
  obtain ⟨h1, h2, h3, h4, h5, h6, h7⟩ := H
  have b1 := ix_lt h1.1.1 (by decide)
  have b2 := ix_lt h1.1.2 (by decide)
  have hk : k0 = 0 ∨ k0 = 1 := by omega
  have e1 : up2 g (19 + k0) b v 1 0 = g 1 0 := up2_n (by omega)
  have e2 : up2 g (19 + k0) b v 18 0 = g 18 0 := up2_n (by omega)
  refine ⟨RS0_b k0 h1 (by omega) (by omega), RWt_fr h2 e1 (fun _ _ => up2_n (by omega)) (fun _ _ => up2_n (by omega)), RAl_fr h3 e2 (up2_n (by omega)) (fun _ _ => up2_n (by omega)) (up2_n (by omega)) (fun _ _ => up2_n (by omega)), RNt_fr h4 e1 (by rw [e2]; exact Nat.le_refl _) (fun _ _ => up2_n (by omega)) (fun _ _ _ _ => ⟨up2_n (by omega), up2_n (by omega)⟩) (fun _ _ _ _ _ => up2_n (by omega)), RCp_fr h5 e1 (fun _ _ => ⟨fun z => by rw [up2_n (by omega)] at z; exact z, up2_n (by omega)⟩) (fun _ _ _ _ => ⟨up2_n (by omega), up2_n (by omega)⟩) (fun _ _ _ _ _ => up2_n (by omega)), RTw_fr h6 (up2_n (by omega)) (fun _ _ => up2_n (by omega)) (fun _ _ => up2_n (by omega)) (fun _ _ _ => up2_n (by omega)), ?_⟩
  obtain ⟨v1, v2, v3, v4⟩ := h7
  refine ⟨by rw [e1]; exact SymL_fr v1 (fun _ _ => up2_n (by omega)), RVd_fr v2 e1 (by rw [e2]; exact Nat.le_refl _) (fun _ _ _ _ => up2_n (by omega)), fun x hx => ?_, ?_⟩
  · rw [e2] at hx
    obtain ⟨a1, a2, a3⟩ := v3 x hx
    rw [up2_n (k' := 21) (by omega)]
    refine ⟨?_, ?_, a3⟩
    · by_cases c : k0 = 0 ∧ x = b
      · obtain ⟨rfl, rfl⟩ := c
        rw [up2_s]; exact (hv.resolve_right (fun z => absurd z.1 (by decide))).2
      · rw [up2_n (by omega)]; exact a1
    · by_cases c : k0 = 1 ∧ x = b
      · obtain ⟨rfl, rfl⟩ := c
        rw [up2_s]; exact (hv.resolve_left (fun z => absurd z.1 (by decide))).2
      · rw [up2_n (by omega)]; exact a2
  · unfold RVt; rw [up2_n (by omega)]; exact v4
theorem RH_move {N b d : Nat} {g m : HB} {w : Int32} (H : RH N g (m 1)) (hb : b < ix (g 18 0)) (hd : d < ix (g 1 0)) : RH N (H_move g b d w) (M_move m b d w 1) := by
  obtain ⟨h1, h2, h3, h4, h5, h6, h7⟩ := H
  have b1 := ix_lt h1.1.1 (by decide)
  have b2 := ix_lt h1.1.2 (by decide)
  have e1 : H_move g b d w 1 0 = g 1 0 := H_move_n (by omega)
  have e2 : H_move g b d w 18 0 = g 18 0 := H_move_n (by omega)
  refine ⟨RS0_move h1 hb hd, RWt_fr h2 e1 (fun _ _ => H_move_n (by omega)) (fun x hx => M_move_n (by omega)), RAl_fr h3 e2 (H_move_n (by omega)) (fun _ _ => H_move_n (by omega)) (M_move_n (by omega)) (fun x hx => M_move_n (by omega)), RNt_fr h4 e1 (by rw [e2]; exact Nat.le_refl _) (fun _ _ => H_move_n (by omega)) (fun _ _ _ _ => ⟨H_move_n (by omega), H_move_n (by omega)⟩) (fun x p hx y z => M_move_n (by omega)), RCp_fr h5 e1 (fun _ _ => ⟨fun z => by rw [H_move_n (by omega)] at z; exact z, H_move_n (by omega)⟩) (fun _ _ _ _ => ⟨H_move_n (by omega), H_move_n (by omega)⟩) (fun x p hx y z => M_move_n (by omega)), RTw_move h6 (by omega), ?_⟩
  obtain ⟨v1, v2, v3, v4⟩ := h7
  refine ⟨by rw [e1]; exact SymL_fr v1 (fun _ _ => H_move_n (by omega)), RVd_fr v2 e1 (by rw [e2]; exact Nat.le_refl _) (fun _ k _ z => H_move_n (by omega)), fun x hx => ?_, ?_⟩
  · rw [e2] at hx
    rw [H_move_n (by omega), H_move_n (by omega)]
    refine ⟨(v3 x hx).1, (v3 x hx).2.1, ?_⟩
    unfold H_move
    rw [up2_n (by omega)]
    by_cases c : x = b
    · subst c; rw [up2_s]; exact (v2 d hd).2.1
    · rw [up2_n (by omega)]
      split
      · rw [up2_n (by omega)]; exact (v3 x hx).2.2
      · exact (v3 x hx).2.2
  · unfold RVt
    rw [H_move_n (by omega)]
    exact v4
theorem RH_mnote {N b d : Nat} {g m : HB} {w : Int32} (H : RH N g (m 1)) (hb : b < ix (g 18 0)) (hd : d < ix (g 1 0)) : RH N (H_mnote g b d w) ((if w < m 1 (480 + 6 * b + 3) then up2 m 1 532 (m 1 532 + nI 1) else M_move m b d w) 1) := by
  have e3 : m 1 (480 + 6 * b + 3) = g 22 b := H.1.2.2.1 b 3 hb (by decide) (by decide)
  have e5 : m 1 532 = g 0 2 := H.1.2.2.2.1.2.2.1
  unfold H_mnote
  rw [e3]
  by_cases c : w < g 22 b
  · rw [if_pos c, if_pos c, e5]
    exact ⟨RS0_s 2 532 H.1 (by decide), RR_fr H.2 H.1.1 (fun k j z => up2_n (by omega)) (fun p x y z w => up2_n (by omega))⟩
  · rw [if_neg c, if_neg c]
    exact RH_move H hb hd
theorem RH_n0 {N d : Nat} {g m : HB} (H : RH N g (m 1)) (hd : d < ix (g 1 0)) : RH N (up2 g 12 d (nI 0)) (up2 m 1 (60 * d + 19) (nI 0) 1) := by
  obtain ⟨h1, h2, h3, h4, h5, h6, h7⟩ := H
  have b1 := ix_lt h1.1.1 (by decide)
  have b2 := ix_lt h1.1.2 (by decide)
  have e1 : up2 g 12 d (nI 0) 1 0 = g 1 0 := up2_n (by omega)
  have e2 : up2 g 12 d (nI 0) 18 0 = g 18 0 := up2_n (by omega)
  refine ⟨RS0_g (RS0_m h1 (by omega)) (by omega), RWt_fr h2 e1 (fun _ _ => up2_n (by omega)) (fun _ _ => up2_n (by omega)), RAl_fr h3 e2 (up2_n (by omega)) (fun _ _ => up2_n (by omega)) (up2_n (by omega)) (fun _ _ => up2_n (by omega)), fun x hx => ?_, RCp_fr h5 e1 (fun _ _ => ⟨fun z => by rw [up2_n (by omega)] at z; exact z, up2_n (by omega)⟩) (fun _ _ _ _ => ⟨up2_n (by omega), up2_n (by omega)⟩) (fun _ _ _ _ _ => up2_n (by omega)), RTw_fr h6 (up2_n (by omega)) (fun _ _ => up2_n (by omega)) (fun _ _ => up2_n (by omega)) (fun _ _ _ => up2_n (by omega)), ?_⟩
  · rw [e1] at hx
    rw [e2]
    by_cases c : x = d
    · subst c
      rw [up2_s, up2_s]
      exact ⟨rfl, ⟨0, by decide, rfl⟩, fun i hi => absurd hi (by rw [ix_nI (by decide)]; omega)⟩
    · obtain ⟨a1, a2, a3⟩ := h4 x hx
      have a2' := ix_lt a2 (by decide)
      rw [up2_n (k' := 12) (by omega)]
      refine ⟨by rw [up2_n (by omega)]; exact a1, a2, fun i hi => ?_⟩
      rw [up2_n (k' := 13) (by omega), up2_n (k' := 14) (by omega), up2_n (by omega), up2_n (by omega)]
      exact a3 i hi
  · obtain ⟨v1, v2, v3, v4⟩ := h7
    refine ⟨by rw [e1]; exact SymL_fr v1 (fun _ _ => up2_n (by omega)), RVd_fr v2 e1 (by rw [e2]; exact Nat.le_refl _) (fun _ _ _ _ => up2_n (by omega)), RVb_fr v3 e2 (fun _ _ _ _ => up2_n (by omega)), ?_⟩
    unfold RVt; rw [up2_n (by omega)]; exact v4
theorem RH_flag1 {N d : Nat} {g m : HB} (H : RH N g (m 1)) (hd : d < ix (g 1 0)) : RH N (up2 g 9 d (nI 1)) (up2 m 1 (60 * d + 7) (nI 1) 1) := by
  obtain ⟨h1, h2, h3, h4, h5, h6, h7⟩ := H
  have b1 := ix_lt h1.1.1 (by decide)
  have b2 := ix_lt h1.1.2 (by decide)
  have e1 : up2 g 9 d (nI 1) 1 0 = g 1 0 := up2_n (by omega)
  have e2 : up2 g 9 d (nI 1) 18 0 = g 18 0 := up2_n (by omega)
  refine ⟨RS0_d 7 h1 (by omega) (by omega), RWt_fr h2 e1 (fun _ _ => up2_n (by omega)) (fun _ _ => up2_n (by omega)), RAl_fr h3 e2 (up2_n (by omega)) (fun _ _ => up2_n (by omega)) (up2_n (by omega)) (fun _ _ => up2_n (by omega)), RNt_fr h4 e1 (by rw [e2]; exact Nat.le_refl _) (fun _ _ => up2_n (by omega)) (fun _ _ _ _ => ⟨up2_n (by omega), up2_n (by omega)⟩) (fun _ _ _ _ _ => up2_n (by omega)), RCp_fr h5 e1 (fun x _ => ⟨fun z => ?_, up2_n (by omega)⟩) (fun _ _ _ _ => ⟨up2_n (by omega), up2_n (by omega)⟩) (fun _ _ _ _ _ => up2_n (by omega)), RTw_fr h6 (up2_n (by omega)) (fun _ _ => up2_n (by omega)) (fun _ _ => up2_n (by omega)) (fun _ _ _ => up2_n (by omega)), ?_⟩
  · by_cases c : x = d
    · subst c; rw [up2_s] at z; exact absurd z (by decide)
    · rw [up2_n (by omega)] at z; exact z
  · obtain ⟨v1, v2, v3, v4⟩ := h7
    refine ⟨by rw [e1]; exact SymL_fr v1 (fun _ _ => up2_n (by omega)), fun x hx => ?_, RVb_fr v3 e2 (fun _ _ _ _ => up2_n (by omega)), ?_⟩
    · rw [e1] at hx
      obtain ⟨a1, a2, a3, a4, a5, a6, a7⟩ := v2 x hx
      rw [e2, up2_n (k' := 2) (by omega), up2_n (k' := 3) (by omega), up2_n (k' := 6) (by omega), up2_n (k' := 7) (by omega), up2_n (k' := 11) (by omega)]
      refine ⟨a1, a2, a3, a4, ?_, a6, a7⟩
      by_cases c : x = d
      · subst c; rw [up2_s]; exact ⟨1, by decide, rfl⟩
      · rw [up2_n (by omega)]; exact a5
    · unfold RVt; rw [up2_n (by omega)]; exact v4
theorem RH_merge {N d : Nat} {g m : HB} (H : RH N g (m 1)) (hd : d < ix (g 1 0)) : RH N (H_merge g d) (M_merge m d 1) := by
  have b1 := ix_lt H.1.1.1 (by decide)
  have b2 := ix_lt H.1.1.2 (by decide)
  obtain ⟨n1, n2, n3⟩ := H.2.2.2.1 d hd
  have key : ∀ n, n ≤ ix (g 12 d) → RH N (iter (H_mgB g d) n g) (iter (M_mgB m d) n m 1) := by
    intro n
    induction n with
    | zero => intro _; exact H
    | succ n ih =>
      intro hn
      obtain ⟨c1, c2, c3⟩ := n3 n (by omega)
      have k := ih (by omega)
      have f1 : iter (H_mgB g d) n g 1 0 = g 1 0 := H_mgB_k g d n 1 0 (by decide)
      have f2 : iter (H_mgB g d) n g 18 0 = g 18 0 := H_mgB_k g d n 18 0 (by decide)
      have k2 := RH_mnote (b := ix (g 14 (d * 20 + n))) (d := d) (w := g 13 (d * 20 + n)) k (by rw [f2]; exact ix_lt c3 (by omega)) (by rw [f1]; exact hd)
      show RH N (H_mgB g d n (iter (H_mgB g d) n g)) (M_mgB m d n (iter (M_mgB m d) n m) 1)
      generalize iter (H_mgB g d) n g = x at *
      generalize iter (M_mgB m d) n m = y at *
      unfold H_mgB M_mgB M_nt M_nb
      rw [c1, c2]
      exact k2
  have k := key _ (Nat.le_refl _)
  unfold H_merge M_merge
  rw [n1]
  exact RH_n0 k (by rw [H_mgB_k g d _ 1 0 (by decide)]; exact hd)
theorem RH_online {N d : Nat} {g m : HB} (H : RH N g (m 1)) (hd : d < ix (g 1 0)) : RH N (H_online g d) (M_merge (up2 m 1 (60 * d + 7) (nI 1)) d 1) := by
  unfold H_online
  exact RH_merge (RH_flag1 H hd) (by rw [up2_n (by omega)]; exact hd)
theorem RH_offline {N d : Nat} {g m : HB} (H : RH N g (m 1)) (hd : d < ix (g 1 0)) : RH N (H_offline g d) (M_copy (up2 m 1 (60 * d + 7) (nI 0)) d 1) := by
  obtain ⟨h1, h2, h3, h4, h5, h6, h7⟩ := H
  have b1 := ix_lt h1.1.1 (by decide)
  have b2 := ix_lt h1.1.2 (by decide)
  have r1 : RS0 (up2 g 9 d (nI 0)) (up2 m 1 (60 * d + 7) (nI 0) 1) := RS0_d 7 h1 (by omega) (by omega)
  have eG : H_offline g d = iter (H_tcB d) (ix (g 18 0)) (up2 (up2 g 9 d (nI 0)) 15 d (g 18 0)) := by
    unfold H_offline H_tcopy
    rw [up2_n (k' := 18) (by omega)]
  rw [eG]
  generalize hM : up2 m 1 (60 * d + 7) (nI 0) = m1 at *
  generalize hg1 : up2 g 9 d (nI 0) = g1 at *
  have m1n : ∀ p, p ≠ 60 * d + 7 → m1 1 p = m 1 p := fun p x => by rw [← hM, up2_n (by omega)]
  have g1n : ∀ k j, ¬ (k = 9 ∧ j = d) → g1 k j = g k j := fun k j x => by rw [← hg1, up2_n x]
  have x18 : g1 18 0 = g 18 0 := g1n _ _ (by omega)
  have x1 : g1 1 0 = g 1 0 := g1n _ _ (by omega)
  have gn : ∀ k j, ¬ (k = 9 ∧ j = d) → ¬ (k = 15 ∧ j = d) → (k = 16 ∨ k = 17 → j < d * 8 ∨ d * 8 + 8 ≤ j) → iter (H_tcB d) (ix (g 18 0)) (up2 g1 15 d (g 18 0)) k j = g k j := fun k j x y z => by rw [H_tcB_o d _ _ _ _ (by omega) z, up2_n y, g1n _ _ x]
  have mn : ∀ p, p ≠ 60 * d + 7 → (p < 60 * d + 10 ∨ 60 * d + 19 ≤ p) → M_copy m1 d 1 p = m 1 p := fun p x y => by
    unfold M_copy
    rw [up2_n (by omega), M_tcB_n _ _ _ _ _ (by omega) (by omega), m1n _ x]
  have e1 := gn 1 0 (by omega) (by omega) (by omega)
  have e2 := gn 18 0 (by omega) (by omega) (by omega)
  refine ⟨RS0_fr r1 (by rw [e1, x1]) (by rw [e2, x18]) (fun x k _ _ => ?_) (fun x k _ _ _ => ?_) (fun _ _ => ?_) (fun _ _ => ?_) (fun p x y z w => ?_), RWt_fr h2 e1 (fun _ _ => gn _ _ (by omega) (by omega) (by omega)) (fun _ _ => mn _ (by omega) (by omega)), RAl_fr h3 e2 (gn _ _ (by omega) (by omega) (by omega)) (fun _ _ => gn _ _ (by omega) (by omega) (by omega)) (mn _ (by omega) (by omega)) (fun _ _ => mn _ (by omega) (by omega)), RNt_fr h4 e1 (by rw [e2]; exact Nat.le_refl _) (fun _ _ => gn _ _ (by omega) (by omega) (by omega)) (fun _ _ _ _ => ⟨gn _ _ (by omega) (by omega) (by omega), gn _ _ (by omega) (by omega) (by omega)⟩) (fun _ _ _ _ _ => mn _ (by omega) (by omega)), fun x hx hz => ?_, RTw_fr h6 (gn _ _ (by omega) (by omega) (by omega)) (fun _ _ => gn _ _ (by omega) (by omega) (by omega)) (fun _ _ => gn _ _ (by omega) (by omega) (by omega)) (fun _ _ _ => mn _ (by omega) (by omega)), ?_⟩
  · rw [H_tcB_o d _ _ _ _ (by omega) (by omega), up2_n (by omega)]
  · rw [H_tcB_o d _ _ _ _ (by omega) (by omega), up2_n (by omega)]
  · rw [H_tcB_o d _ _ _ _ (by omega) (by omega), up2_n (by omega)]
  · rw [H_tcB_o d _ _ _ _ (by omega) (by omega), up2_n (by omega)]
  · unfold M_copy
    rw [up2_n (by omega), M_tcB_n _ _ _ _ _ (by omega) (by omega)]
  · rw [e1] at hx
    by_cases c : x = d
    · subst c
      have f15 : iter (H_tcB x) (ix (g 18 0)) (up2 g1 15 x (g 18 0)) 15 x = g 18 0 := by rw [H_tcB_o x _ _ _ _ (by omega) (by omega), up2_s]
      rw [f15]
      refine ⟨h1.1.2, fun b hb => ?_⟩
      obtain ⟨t1, t2⟩ := tc16 x hb (ix (g 18 0)) (up2 g1 15 x (g 18 0)) (by omega)
      have ea : M_copy m1 x 1 (60 * x + 10) = nI (mask (fun j => decide (¬ M_is m1 j ∨ m1 1 (480 + 6 * j + 1) = nI 1)) 8) := by
        unfold M_copy
        rw [up2_s, M_tcA_m m1 8 (by decide)]
      have el := mask_lt (fun j => decide (¬ M_is m1 j ∨ m1 1 (480 + 6 * j + 1) = nI 1)) 8
      have iff1 : M_is m1 b ↔ b < ix (g 18 0) := by rw [M_is_iff r1 hb, x18]
      constructor
      · rw [ea, bit_at _ (by omega) b hb, mask_tb, t1]
        simp only [hb, decide_true, Bool.true_and, decide_eq_true_eq]
        by_cases q : b < ix (g 18 0)
        · rw [if_pos q, up2_n (by omega), g1n 20 b (by omega)]
          have ev : m1 1 (480 + 6 * b + 1) = g 20 b := by rw [m1n _ (by omega)]; exact h1.2.2.1 b 1 q (by decide) (by decide)
          have n15 : ¬ g 18 0 ≤ nI b := by rw [ix_eq h1.1.2 (by decide)]; exact nI_ge q (by omega)
          rw [ev]
          constructor
          · rintro (z | z)
            · exact absurd (iff1.mpr q) z
            · exact Or.inr z
          · rintro (z | z)
            · exact absurd z n15
            · exact Or.inr z
        · have y15 : g 18 0 ≤ nI b := by rw [ix_eq h1.1.2 (by decide)]; exact nI_le (by omega) (by omega)
          exact ⟨fun _ => Or.inl y15, fun _ => Or.inl (fun z => q (iff1.mp z))⟩
      · intro q
        rw [t2, if_pos q, up2_n (by omega), g1n 19 b (by omega)]
        unfold M_copy
        rw [up2_n (by omega), show 60 * x + (11 + b) = 60 * x + 10 + 1 + b from by omega, M_tcB_v m1 m1 x 8 (by omega), if_pos (iff1.mpr q), m1n _ (by omega)]
        exact h1.2.2.1 b 0 q (by decide) (by decide)
    · rw [gn 9 x (by omega) (by omega) (by omega)] at hz
      obtain ⟨c1, c2⟩ := h5 x hx hz
      rw [gn 15 x (by omega) (by omega) (by omega)]
      refine ⟨c1, fun b hb => ?_⟩
      rw [gn 16 _ (by omega) (by omega) (by omega), gn 17 _ (by omega) (by omega) (by omega), mn _ (by omega) (by omega), mn _ (by omega) (by omega)]
      exact c2 b hb
  · obtain ⟨v1, v2, v3, v4⟩ := h7
    refine ⟨by rw [e1]; exact SymL_fr v1 (fun _ _ => gn _ _ (by omega) (by omega) (by omega)), fun x hx => ?_, RVb_fr v3 e2 (fun _ _ _ _ => gn _ _ (by omega) (by omega) (by omega)), ?_⟩
    · rw [e1] at hx
      obtain ⟨a1, a2, a3, a4, a5, a6, a7⟩ := v2 x hx
      rw [e2, gn 2 _ (by omega) (by omega) (by omega), gn 3 _ (by omega) (by omega) (by omega), gn 6 _ (by omega) (by omega) (by omega), gn 7 _ (by omega) (by omega) (by omega), gn 11 _ (by omega) (by omega) (by omega)]
      refine ⟨a1, a2, a3, a4, ?_, a6, a7⟩
      by_cases c : x = d
      · subst c
        rw [H_tcB_o x _ _ _ _ (by omega) (by omega), up2_n (by omega), ← hg1, up2_s]; exact ⟨0, by decide, rfl⟩
      · rw [gn 9 _ (by omega) (by omega) (by omega)]; exact a5
    · unfold RVt; rw [gn 0 0 (by omega) (by omega) (by omega)]; exact v4
