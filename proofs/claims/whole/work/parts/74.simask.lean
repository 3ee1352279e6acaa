/-! ASKING of both -/
theorem RH_out {N k0 : Nat} {g m : HB} {v : Int32} (H : RH N g (m 1)) (hk : k0 < 6) : RH N (up2 g 28 k0 v) (up2 m 1 (534 + k0) v 1) :=
  ⟨RS0_o k0 H.1 hk, RR_fr H.2 H.1.1 (fun k j z => up2_n (by omega)) (fun p x y z w => up2_n (by omega))⟩
theorem RH_wt {N d : Nat} {g m : HB} {v : Int32} (H : RH N g (m 1)) (hd : d < ix (g 1 0)) (hv : v = -1 ∨ vI v (ix (g 18 0))) (h3 : g 3 d = 0 → v = -1) : RH N (up2 g 11 d v) (up2 m 1 (60 * d + 9) v 1) := by
  obtain ⟨h1, h2, h3', h4, h5, h6, h7⟩ := H
  have b1 := ix_lt h1.1.1 (by decide)
  have b2 := ix_lt h1.1.2 (by decide)
  have e1 : up2 g 11 d v 1 0 = g 1 0 := up2_n (by omega)
  have e2 : up2 g 11 d v 18 0 = g 18 0 := up2_n (by omega)
  refine ⟨RS0_g (RS0_m h1 (by omega)) (by omega), fun x hx => ?_, RAl_fr h3' e2 (up2_n (by omega)) (fun _ _ => up2_n (by omega)) (up2_n (by omega)) (fun _ _ => up2_n (by omega)), RNt_fr h4 e1 (by rw [e2]; exact Nat.le_refl _) (fun _ _ => up2_n (by omega)) (fun _ _ _ _ => ⟨up2_n (by omega), up2_n (by omega)⟩) (fun _ _ _ _ _ => up2_n (by omega)), RCp_fr h5 e1 (fun _ _ => ⟨fun z => by rw [up2_n (by omega)] at z; exact z, up2_n (by omega)⟩) (fun _ _ _ _ => ⟨up2_n (by omega), up2_n (by omega)⟩) (fun _ _ _ _ _ => up2_n (by omega)), RTw_fr h6 (up2_n (by omega)) (fun _ _ => up2_n (by omega)) (fun _ _ => up2_n (by omega)) (fun _ _ _ => up2_n (by omega)), ?_⟩
  · rw [e1] at hx
    by_cases c : x = d
    · subst c; rw [up2_s, up2_s]
    · rw [up2_n (by omega), up2_n (by omega)]; exact h2 x hx
  · obtain ⟨v1, v2, v3, v4⟩ := h7
    refine ⟨by rw [e1]; exact SymL_fr v1 (fun _ _ => up2_n (by omega)), fun x hx => ?_, RVb_fr v3 e2 (fun _ _ _ _ => up2_n (by omega)), ?_⟩
    · rw [e1] at hx
      obtain ⟨a1, a2, a3, a4, a5, a6, a7⟩ := v2 x hx
      rw [e2, up2_n (k' := 2) (by omega), up2_n (k' := 3) (by omega), up2_n (k' := 6) (by omega), up2_n (k' := 7) (by omega), up2_n (k' := 9) (by omega)]
      refine ⟨a1, a2, a3, a4, a5, ?_⟩
      by_cases c : x = d
      · subst c; rw [up2_s]; exact ⟨hv, h3⟩
      · rw [up2_n (by omega)]; exact ⟨a6, a7⟩
    · unfold RVt; rw [up2_n (by omega)]; exact v4
theorem RH_alarm {N b : Nat} {g m : HB} (H : RH N g (m 1)) (hb : b < ix (g 18 0)) : RH N (H_alarm g b) (up2 (up2 m 1 533 (m 1 533 + nI 1)) 1 (480 + 6 * b + 4) (m 1 (480 + 6 * b + 4) + nI 1) 1) := by
  obtain ⟨h1, h2, h3, h4, h5, h6, h7⟩ := H
  have b1 := ix_lt h1.1.1 (by decide)
  have b2 := ix_lt h1.1.2 (by decide)
  have e1 : H_alarm g b 1 0 = g 1 0 := H_alarm_n (by omega)
  have e2 : H_alarm g b 18 0 = g 18 0 := H_alarm_n (by omega)
  have mn : ∀ p, p ≠ 533 → p ≠ 480 + 6 * b + 4 → up2 (up2 m 1 533 (m 1 533 + nI 1)) 1 (480 + 6 * b + 4) (m 1 (480 + 6 * b + 4) + nI 1) 1 p = m 1 p := fun p x y => by rw [up2_n (by omega), up2_n (by omega)]
  refine ⟨RS0_m (RS0_m (RS0_g (RS0_g h1 (by omega)) (by omega)) (by omega)) (by omega), RWt_fr h2 e1 (fun _ _ => H_alarm_n (by omega)) (fun _ _ => mn _ (by omega) (by omega)), ⟨?_, fun x hx => ?_⟩, RNt_fr h4 e1 (by rw [e2]; exact Nat.le_refl _) (fun _ _ => H_alarm_n (by omega)) (fun _ _ _ _ => ⟨H_alarm_n (by omega), H_alarm_n (by omega)⟩) (fun _ _ _ _ _ => mn _ (by omega) (by omega)), RCp_fr h5 e1 (fun _ _ => ⟨fun z => by rw [H_alarm_n (by omega)] at z; exact z, H_alarm_n (by omega)⟩) (fun _ _ _ _ => ⟨H_alarm_n (by omega), H_alarm_n (by omega)⟩) (fun _ _ _ _ _ => mn _ (by omega) (by omega)), RTw_fr h6 (H_alarm_n (by omega)) (fun _ _ => H_alarm_n (by omega)) (fun _ _ => H_alarm_n (by omega)) (fun _ _ _ => mn _ (by omega) (by omega)), ?_⟩
  · rw [up2_n (by omega), up2_s, h3.1]
    unfold H_alarm
    rw [up2_n (by omega), up2_s]
  · rw [e2] at hx
    unfold H_alarm
    by_cases c : x = b
    · subst c; rw [up2_s, up2_s, h3.2 x hx]
    · rw [up2_n (by omega), up2_n (by omega), up2_n (by omega), up2_n (by omega)]; exact h3.2 x hx
  · obtain ⟨v1, v2, v3, v4⟩ := h7
    refine ⟨by rw [e1]; exact SymL_fr v1 (fun _ _ => H_alarm_n (by omega)), RVd_fr v2 e1 (by rw [e2]; exact Nat.le_refl _) (fun _ _ _ _ => H_alarm_n (by omega)), RVb_fr v3 e2 (fun _ _ _ _ => H_alarm_n (by omega)), ?_⟩
    unfold RVt; rw [H_alarm_n (by omega)]; exact v4
theorem RH_go {N b d : Nat} {g m : HB} (H : RH N g (m 1)) (hb : b < ix (g 18 0)) (hd : d < ix (g 1 0)) (hN : N < 2 ^ 30) : PQ m b d ∧ RH (N + 1) (H_go g b d) (M_pass m b d 1) := by
  obtain ⟨h1, h2, h3, h4, h5, h6, h7⟩ := H
  have b1 := ix_lt h1.1.1 (by decide)
  have b2 := ix_lt h1.1.2 (by decide)
  have t := RTw_go h6 (b := b) (d := d) (by omega) (by omega) hN
  have e1 : H_go g b d 1 0 = g 1 0 := H_go_n (by omega)
  have e2 : H_go g b d 18 0 = g 18 0 := H_go_n (by omega)
  refine ⟨t.1, RS0_go h1 hb hd, RWt_fr h2 e1 (fun _ _ => H_go_n (by omega)) (fun x hx => M_pass_n (by omega)), RAl_fr h3 e2 (H_go_n (by omega)) (fun _ _ => H_go_n (by omega)) (M_pass_n (by omega)) (fun x hx => M_pass_n (by omega)), RNt_fr h4 e1 (by rw [e2]; exact Nat.le_refl _) (fun _ _ => H_go_n (by omega)) (fun _ _ _ _ => ⟨H_go_n (by omega), H_go_n (by omega)⟩) (fun x p hx y z => M_pass_n (by omega)), RCp_fr h5 e1 (fun _ _ => ⟨fun z => by rw [H_go_n (by omega)] at z; exact z, H_go_n (by omega)⟩) (fun _ _ _ _ => ⟨H_go_n (by omega), H_go_n (by omega)⟩) (fun x p hx y z => M_pass_n (by omega)), t.2, ?_⟩
  obtain ⟨v1, v2, v3, v4⟩ := h7
  refine ⟨by rw [e1]; exact SymL_fr v1 (fun _ _ => H_go_n (by omega)), RVd_fr v2 e1 (by rw [e2]; exact Nat.le_refl _) (fun _ k _ z => H_go_n (by omega)), RVb_fr v3 e2 (fun _ _ _ _ => H_go_n (by omega)), ?_⟩
  unfold RVt
  rw [H_go_n (by omega)]
  exact vI_mono v4 (by omega)
theorem RH_note {N b d : Nat} {g m : HB} (H : RH N g (m 1)) (hb : b < ix (g 18 0)) (hd : d < ix (g 1 0)) : RH N (H_addNote g d b (g 0 0)) (M_note m b d 1) := by
  have b1 := ix_lt H.1.1.1 (by decide)
  have b2 := ix_lt H.1.1.2 (by decide)
  obtain ⟨n1, n2, n3⟩ := H.2.2.2.1 d hd
  have n2' := ix_lt n2 (by decide)
  have et : m 1 528 = g 0 0 := H.1.2.2.2.1.1
  unfold H_addNote M_note
  rw [n1]
  by_cases c : 20 ≤ ix (g 12 d)
  · rw [if_pos c, if_pos c]; exact H
  · rw [if_neg c, if_neg c, et]
    generalize hn : ix (g 12 d) = n at *
    obtain ⟨h1, h2, h3, h4, h5, h6, h7⟩ := H
    generalize hG : up2 (up2 (up2 g 13 (d * 20 + n) (g 0 0)) 14 (d * 20 + n) (nI b)) 12 d (nI (n + 1)) = G
    generalize hM : up2 (up2 (up2 m 1 (60 * d + 20 + 2 * n) (g 0 0)) 1 (60 * d + 20 + 2 * n + 1) (nI b)) 1 (60 * d + 19) (nI (n + 1)) = M
    have gn : ∀ k j, k ≠ 12 → k ≠ 13 → k ≠ 14 → G k j = g k j := fun k j x y z => by rw [← hG, up2_n (by omega), up2_n (by omega), up2_n (by omega)]
    have mn : ∀ p, (p < 60 * d + 19 ∨ 60 * d + 60 ≤ p) → M 1 p = m 1 p := fun p x => by rw [← hM, up2_n (by omega), up2_n (by omega), up2_n (by omega)]
    have e1 : G 1 0 = g 1 0 := gn _ _ (by decide) (by decide) (by decide)
    have e2 : G 18 0 = g 18 0 := gn _ _ (by decide) (by decide) (by decide)
    refine ⟨RS0_fr h1 e1 e2 (fun _ _ _ _ => gn _ _ (by omega) (by omega) (by omega)) (fun _ _ _ _ _ => gn _ _ (by omega) (by omega) (by omega)) (fun _ _ => gn _ _ (by omega) (by omega) (by omega)) (fun _ _ => gn _ _ (by omega) (by omega) (by omega)) (fun p x y z w => ?_), RWt_fr h2 e1 (fun _ _ => gn _ _ (by omega) (by omega) (by omega)) (fun x hx => mn _ (by omega)), RAl_fr h3 e2 (gn _ _ (by omega) (by omega) (by omega)) (fun _ _ => gn _ _ (by omega) (by omega) (by omega)) (mn _ (by omega)) (fun x hx => mn _ (by omega)), fun x hx => ?_, RCp_fr h5 e1 (fun _ _ => ⟨fun z => by rw [gn _ _ (by omega) (by omega) (by omega)] at z; exact z, gn _ _ (by omega) (by omega) (by omega)⟩) (fun _ _ _ _ => ⟨gn _ _ (by omega) (by omega) (by omega), gn _ _ (by omega) (by omega) (by omega)⟩) (fun x p hx y z => mn _ (by omega)), RTw_fr h6 (gn _ _ (by omega) (by omega) (by omega)) (fun _ _ => gn _ _ (by omega) (by omega) (by omega)) (fun _ _ => gn _ _ (by omega) (by omega) (by omega)) (fun p x y => mn _ (by omega)), ?_⟩
    · exact mn p (by omega)
    · rw [e1] at hx
      rw [e2]
      by_cases q : x = d
      · subst q
        have f12 : G 12 x = nI (n + 1) := by rw [← hG, up2_s]
        rw [f12, show ix (nI (n + 1)) = n + 1 from ix_nI (by omega)]
        refine ⟨by rw [← hM, up2_s], ⟨n + 1, by omega, rfl⟩, fun i hi => ?_⟩
        by_cases r : i = n
        · subst r
          have g13 : G 13 (x * 20 + i) = g 0 0 := by rw [← hG, up2_n (by omega), up2_n (by omega), up2_s]
          have g14 : G 14 (x * 20 + i) = nI b := by rw [← hG, up2_n (by omega), up2_s]
          rw [g13, g14]
          refine ⟨?_, ?_, vI_nI hb⟩
          · rw [← hM, up2_n (by omega), up2_n (by omega), show 60 * x + (20 + 2 * i) = 60 * x + 20 + 2 * i from by omega, up2_s]
          · rw [← hM, up2_n (by omega), show 60 * x + (20 + 2 * i + 1) = 60 * x + 20 + 2 * i + 1 from by omega, up2_s]
        · have g13 : G 13 (x * 20 + i) = g 13 (x * 20 + i) := by rw [← hG, up2_n (by omega), up2_n (by omega), up2_n (by omega)]
          have g14 : G 14 (x * 20 + i) = g 14 (x * 20 + i) := by rw [← hG, up2_n (by omega), up2_n (by omega), up2_n (by omega)]
          rw [g13, g14]
          obtain ⟨c1, c2, c3⟩ := n3 i (by omega)
          refine ⟨?_, ?_, c3⟩
          · rw [← hM, up2_n (by omega), up2_n (by omega), up2_n (by omega)]; exact c1
          · rw [← hM, up2_n (by omega), up2_n (by omega), up2_n (by omega)]; exact c2
      · obtain ⟨a1, a2, a3⟩ := h4 x hx
        have a2' := ix_lt a2 (by decide)
        have f12 : G 12 x = g 12 x := by rw [← hG, up2_n (by omega), up2_n (by omega), up2_n (by omega)]
        rw [f12]
        refine ⟨by rw [mn _ (by omega)]; exact a1, a2, fun i hi => ?_⟩
        have g13 : G 13 (x * 20 + i) = g 13 (x * 20 + i) := by rw [← hG, up2_n (by omega), up2_n (by omega), up2_n (by omega)]
        have g14 : G 14 (x * 20 + i) = g 14 (x * 20 + i) := by rw [← hG, up2_n (by omega), up2_n (by omega), up2_n (by omega)]
        obtain ⟨c1, c2, c3⟩ := a3 i hi
        rw [g13, g14]
        exact ⟨by rw [mn _ (by omega)]; exact c1, by rw [mn _ (by omega)]; exact c2, c3⟩
    · obtain ⟨v1, v2, v3, v4⟩ := h7
      refine ⟨by rw [e1]; exact SymL_fr v1 (fun _ _ => gn _ _ (by omega) (by omega) (by omega)), RVd_fr v2 e1 (by rw [e2]; exact Nat.le_refl _) (fun _ k _ z => gn _ _ (by omega) (by omega) (by omega)), RVb_fr v3 e2 (fun _ _ _ _ => gn _ _ (by omega) (by omega) (by omega)), ?_⟩
      unfold RVt; rw [gn _ _ (by omega) (by omega) (by omega)]; exact v4
/-! cells that moves and passes don't see -/
abbrev Fr (k j : Nat) : Prop := (k = 0 ∧ j = 3) ∨ k = 23 ∨ k = 11
theorem up2_c {g : HB} {k j k' j' : Nat} {v v' : Int32} (h : ¬ (k = k' ∧ j = j')) : up2 (up2 g k j v) k' j' v' = up2 (up2 g k' j' v') k j v := by
  funext a b
  unfold up2
  by_cases c : a = k ∧ b = j
  · obtain ⟨rfl, rfl⟩ := c
    simp [h]
  · by_cases c2 : a = k' ∧ b = j'
    · obtain ⟨rfl, rfl⟩ := c2
      simp [c]
    · simp [c, c2]
theorem H_move_c {g : HB} {b d k j : Nat} {w v : Int32} (h : Fr k j) : H_move (up2 g k j v) b d w = up2 (H_move g b d w) k j v := by
  unfold H_move
  rw [up2_n (k' := 6) (by omega), up2_n (k' := 21) (by omega), up2_n (k' := 2) (by omega), up2_n (k' := 3) (by omega), up2_n (k' := 0) (j' := 1) (by omega)]
  by_cases c : ¬ g 6 d = 0 ∧ ¬ g 21 b = g 2 d
  · rw [if_pos c, if_pos c, up2_c (k := k) (j := j) (by omega), up2_c (k := k) (j := j) (by omega), up2_c (k := k) (j := j) (by omega)]
  · rw [if_neg c, if_neg c, up2_c (k := k) (j := j) (by omega), up2_c (k := k) (j := j) (by omega)]
theorem H_two_c {g : HB} {b d k j : Nat} {v : Int32} (h : k ≠ 25 ∧ k ≠ 26 ∧ k ≠ 27) : H_two (up2 g k j v) b d = up2 (H_two g b d) k j v := by
  unfold H_two
  rw [up2_n (k' := 27) (by omega), up2_n (k' := 25) (by omega)]
  by_cases c : g 27 (b * 8 + d) = 0 ∧ ¬ 64 ≤ ix (g 25 0)
  · rw [if_pos c, if_pos c, up2_c (k := k) (j := j) (by omega), up2_c (k := k) (j := j) (by omega), up2_c (k := k) (j := j) (by omega)]
  · rw [if_neg c, if_neg c, up2_c (k := k) (j := j) (by omega)]
theorem H_go_c {g : HB} {b d k j : Nat} {v : Int32} (h : Fr k j) : H_go (up2 g k j v) b d = up2 (H_go g b d) k j v := by
  unfold H_go
  rw [up2_n (k' := 0) (j' := 0) (by omega), up2_n (k' := 28) (by omega), up2_n (k' := 24) (by omega), up2_c (k := k) (j := j) (by omega), up2_c (k := k) (j := j) (by omega), up2_c (k := k) (j := j) (by omega), H_two_c (by omega)]
theorem H_let_c {g : HB} {b d k j : Nat} {v : Int32} (h : Fr k j) : H_let (up2 g k j v) b d = up2 (H_let g b d) k j v := by
  unfold H_let
  rw [up2_n (k' := 0) (j' := 0) (by omega), H_move_c h, H_go_c h]
theorem H_note_c {g : HB} {b d k j : Nat} {v t : Int32} (h : Fr k j) : H_addNote (up2 g k j v) d b t = up2 (H_addNote g d b t) k j v := by
  unfold H_addNote
  rw [up2_n (k' := 12) (by omega)]
  by_cases c : 20 ≤ ix (g 12 d)
  · rw [if_pos c, if_pos c]
  · rw [if_neg c, if_neg c, up2_c (k := k) (j := j) (by omega), up2_c (k := k) (j := j) (by omega), up2_c (k := k) (j := j) (by omega)]
theorem H_askL_c {g : HB} {b d k j : Nat} {v : Int32} (h : (k = 0 ∧ j = 3) ∨ k = 23) : H_askL (up2 g k j v) b d = up2 (H_askL g b d) k j v := by
  have hF : Fr k j := by unfold Fr; omega
  unfold H_askL
  rw [up2_n (k' := 7) (by omega), up2_n (k' := 11) (by omega), H_let_c hF]
  by_cases c : g 7 d = 0
  · rw [if_pos c, if_pos c]
  · rw [if_neg c, if_neg c]
    by_cases c2 : g 11 d = -1
    · rw [if_pos c2, if_pos c2, up2_c (k := k) (j := j) (by omega)]
    · rw [if_neg c2, if_neg c2, up2_c (k := k) (j := j) (by omega), H_let_c hF]
theorem H_askL_n {g : HB} {b d k j : Nat} (hk : (k = 0 ∧ j = 3) ∨ k = 23) : H_askL g b d k j = g k j := by
  unfold H_askL
  repeat' split
  · exact H_let_n (by omega)
  · rw [up2_n (by omega)]; exact H_let_n (by omega)
  · rw [H_let_n (by omega), up2_n (by omega)]; exact H_let_n (by omega)
theorem H_askL_al {g : HB} {b d : Nat} : H_askL (H_alarm g b) b d = H_alarm (H_askL g b d) b := by
  unfold H_alarm
  rw [H_askL_c (by omega), H_askL_c (by omega), H_askL_n (by omega), H_askL_n (by omega)]
theorem H_askO_al {g : HB} {b d : Nat} : H_askO (H_alarm g b) b d = H_alarm (H_askO g b d) b := by
  have n1 : ∀ k j, (k = 0 ∧ j = 3) ∨ k = 23 → H_askO g b d k j = g k j := by
    intro k j h
    unfold H_askO
    rw [H_go_n (by omega), H_addNote_n (by omega)]
  have e0 : H_alarm g b 0 0 = g 0 0 := H_alarm_n (by omega)
  unfold H_askO
  rw [e0]
  unfold H_askO at n1
  unfold H_alarm
  rw [H_note_c (by unfold Fr; omega), H_note_c (by unfold Fr; omega), H_go_c (by unfold Fr; omega), H_go_c (by unfold Fr; omega), n1 0 3 (by omega), n1 23 b (by omega)]
