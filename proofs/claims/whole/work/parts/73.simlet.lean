/-! moves and passes of both -/
theorem up2_id (h : HB) (k j : Nat) : up2 h k j (h k j) = h := by
  funext k' j'
  by_cases c : k' = k ∧ j' = j
  · obtain ⟨rfl, rfl⟩ := c; rw [up2_s]
  · rw [up2_n c]
theorem add_n0 (x : Int32) : x + nI 0 = x := by rw [nI_0]; exact Int32.add_zero x
def RR (N : Nat) (g : HB) (q : Nat → Int32) : Prop := RWt g q ∧ RAl g q ∧ RNt g q ∧ RCp g q ∧ RTw N g q ∧ RV N g
theorem RVd_fr {g g' : HB} (H : RVd g) (h1 : g' 1 0 = g 1 0) (h2 : ix (g 18 0) ≤ ix (g' 18 0)) (h : ∀ d k, d < ix (g 1 0) → (k = 2 ∨ k = 3 ∨ k = 6 ∨ k = 7 ∨ k = 9 ∨ k = 11) → g' k d = g k d) : RVd g' := by
  intro d x
  rw [h1] at x
  obtain ⟨a1, a2, a3, a4, a5, a6, a7⟩ := H d x
  rw [h d 2 x (by decide), h d 3 x (by decide), h d 6 x (by decide), h d 7 x (by decide), h d 9 x (by decide), h d 11 x (by decide)]
  exact ⟨a1, a2, a3, a4, a5, a6.elim Or.inl (fun z => Or.inr (vI_mono z h2)), a7⟩
theorem RVb_fr {g g' : HB} (H : RVb g) (h1 : g' 18 0 = g 18 0) (h : ∀ b k, b < ix (g 18 0) → (k = 19 ∨ k = 20 ∨ k = 21) → g' k b = g k b) : RVb g' := by
  intro b x
  rw [h1] at x
  rw [h b 19 x (by decide), h b 20 x (by decide), h b 21 x (by decide)]
  exact H b x
theorem SymL_fr {f f' : Nat → Int32} {n : Nat} (H : SymL f n) (h : ∀ d, d < n → f' d = f d) : SymL f' n := by
  intro x hx
  rw [h x hx]
  rcases H x hx with z | ⟨y, h1, h2, h3⟩
  · exact Or.inl z
  · exact Or.inr ⟨y, h1, h2, by rw [h y h1]; exact h3⟩
theorem RR_fr {N : Nat} {g g' : HB} {q q' : Nat → Int32} (H : RR N g q) (h9 : vI (g 1 0) 9 ∧ vI (g 18 0) 9) (hg : ∀ k j, ¬ (k = 4 ∨ k = 5 ∨ k = 10 ∨ k = 22 ∨ k = 24 ∨ k = 28 ∨ (k = 0 ∧ (j = 1 ∨ j = 2))) → g' k j = g k j) (hq : ∀ p, p < 733 → (p < 480 → 9 ≤ p % 60) → (480 ≤ p → p < 528 → p % 6 = 4) → (528 ≤ p → p < 540 → p = 533) → q' p = q p) : RR N g' q' := by
  obtain ⟨h2, h3, h4, h5, h6, h7⟩ := H
  have b1 := ix_lt h9.1 (by decide)
  have b2 := ix_lt h9.2 (by decide)
  have e1 : g' 1 0 = g 1 0 := hg _ _ (by decide)
  have e2 : g' 18 0 = g 18 0 := hg _ _ (by decide)
  refine ⟨RWt_fr h2 e1 (fun d _ => hg _ _ (by omega)) (fun d x => hq _ (by omega) (by omega) (by omega) (by omega)), RAl_fr h3 e2 (hg _ _ (by decide)) (fun b _ => hg _ _ (by omega)) (hq _ (by omega) (by omega) (by omega) (by omega)) (fun b x => hq _ (by omega) (by omega) (by omega) (by omega)), RNt_fr h4 e1 (by rw [e2]; exact Nat.le_refl _) (fun d _ => hg _ _ (by omega)) (fun d i _ _ => ⟨hg _ _ (by omega), hg _ _ (by omega)⟩) (fun d p x y z => hq _ (by omega) (by omega) (by omega) (by omega)), RCp_fr h5 e1 (fun d _ => ⟨fun z => by rw [hg 9 d (by omega)] at z; exact z, hg _ _ (by omega)⟩) (fun d i _ _ => ⟨hg _ _ (by omega), hg _ _ (by omega)⟩) (fun d p x y z => hq _ (by omega) (by omega) (by omega) (by omega)), RTw_fr h6 (hg _ _ (by decide)) (fun i _ => hg _ _ (by omega)) (fun i _ => hg _ _ (by omega)) (fun p x y => hq _ y (by omega) (by omega) (by omega)), ?_⟩
  obtain ⟨v1, v2, v3, v4⟩ := h7
  refine ⟨?_, RVd_fr v2 e1 (by rw [e2]; exact Nat.le_refl _) (fun d k _ z => hg _ _ (by omega)), RVb_fr v3 e2 (fun b k _ z => hg _ _ (by omega)), ?_⟩
  · rw [e1]; exact SymL_fr v1 (fun d _ => hg _ _ (by omega))
  · unfold RVt; rw [hg 0 0 (by decide)]; exact v4
theorem RS0_move {g m : HB} {b d : Nat} {w : Int32} (H : RS0 g (m 1)) (hb : b < ix (g 18 0)) (hd : d < ix (g 1 0)) : RS0 (H_move g b d w) (M_move m b d w 1) := by
  have b1 := ix_lt H.1.1 (by decide)
  have b2 := ix_lt H.1.2 (by decide)
  have e4 : m 1 (60 * d + 4) = g 6 d := H.2.1 d 4 hd (by decide)
  have e2 : m 1 (480 + 6 * b + 2) = g 21 b := H.2.2.1 b 2 hb (by decide) (by decide)
  have e0 : m 1 (60 * d + 0) = g 2 d := H.2.1 d 0 hd (by decide)
  have e1 : m 1 (60 * d + 1) = g 3 d := H.2.1 d 1 hd (by decide)
  have e5 : m 1 531 = g 0 1 := H.2.2.2.1.2.1
  unfold H_move M_move
  rw [e4, e2, e0, e1]
  by_cases c : ¬ g 6 d = 0 ∧ ¬ g 21 b = g 2 d
  · rw [if_pos c, if_pos c, e5]
    exact RS0_b 3 (RS0_b 2 (RS0_s 1 531 H (by decide)) (by omega) (by decide)) (by omega) (by decide)
  · rw [if_neg c, if_neg c, add_n0, up2_id]
    exact RS0_b 3 (RS0_b 2 H (by omega) (by decide)) (by omega) (by decide)
abbrev G3 (g : HB) (b d : Nat) : HB := up2 (up2 (up2 g 10 d (g 0 0)) 28 0 (g 28 0 + nI 1)) 24 b (g 24 b + nI 1)
theorem RS0_p0 {g m : HB} {b d : Nat} (H : RS0 g (m 1)) (hb : b < ix (g 18 0)) (hd : d < ix (g 1 0)) : RS0 (G3 g b d) (M_p0 m b d 1) := by
  have b1 := ix_lt H.1.1 (by decide)
  have b2 := ix_lt H.1.2 (by decide)
  have e5 : m 1 528 = g 0 0 := H.2.2.2.1.1
  have e6 : m 1 534 = g 28 0 := H.2.2.2.2 0 (by decide)
  have e7 : m 1 (480 + 6 * b + 5) = g 24 b := H.2.2.1 b 5 hb (by decide) (by decide)
  unfold M_p0
  rw [e5, e6, e7]
  exact RS0_b 5 (RS0_o 0 (RS0_d 8 H (by omega) (by decide)) (by decide)) (by omega) (by decide)
theorem G3_n {g : HB} {b d k j : Nat} (hk : k ≠ 10 ∧ k ≠ 28 ∧ k ≠ 24) : G3 g b d k j = g k j := by
  unfold G3
  rw [up2_n (by omega), up2_n (by omega), up2_n (by omega)]
theorem RS0_go {g m : HB} {b d : Nat} (H : RS0 g (m 1)) (hb : b < ix (g 18 0)) (hd : d < ix (g 1 0)) : RS0 (H_go g b d) (M_pass m b d 1) := by
  refine RS0_fr (RS0_p0 H hb hd) (H_two_n (by decide)) (H_two_n (by decide)) (fun _ _ _ _ => H_two_n (by omega)) (fun _ _ _ _ _ => H_two_n (by omega)) (fun _ _ => H_two_n (by decide)) (fun _ _ => H_two_n (by decide)) (fun p x _ _ _ => M_p1_n x)
theorem RS0_let {g m : HB} {b d : Nat} (H : RS0 g (m 1)) (hb : b < ix (g 18 0)) (hd : d < ix (g 1 0)) : RS0 (H_let g b d) (M_let m b d 1) := by
  unfold H_let M_let
  rw [H.2.2.2.1.1]
  exact RS0_go (RS0_move H hb hd) (by rw [H_move_n (by omega)]; exact hb) (by rw [H_move_n (by omega)]; exact hd)
theorem RTw_move {N b d : Nat} {g m : HB} {w : Int32} (H : RTw N g (m 1)) (hb : b < 8) : RTw N (H_move g b d w) (M_move m b d w 1) :=
  RTw_fr H (H_move_n (by omega)) (fun _ _ => H_move_n (by omega)) (fun _ _ => H_move_n (by omega)) (fun p x _ => M_move_n (by omega))
theorem RTw_go {N b d : Nat} {g m : HB} (H : RTw N g (m 1)) (hb : b < 8) (hd : d < 8) (hN : N < 2 ^ 30) : PQ m b d ∧ RTw (N + 1) (H_go g b d) (M_pass m b d 1) := by
  have h1 : RTw N (G3 g b d) (M_p0 m b d 1) := RTw_fr H (G3_n (by decide)) (fun _ _ => G3_n (by decide)) (fun _ _ => G3_n (by decide)) (fun p x _ => M_p0_n (by omega))
  exact RTw_two h1 hb hd hN
theorem RTw_let {N b d : Nat} {g m : HB} (H : RTw N g (m 1)) (hb : b < 8) (hd : d < 8) (hN : N < 2 ^ 30) (e : m 1 528 = g 0 0) : PQ (M_move m b d (m 1 528)) b d ∧ RTw (N + 1) (H_let g b d) (M_let m b d 1) := by
  have h1 := RTw_go (RTw_move (d := d) (w := m 1 528) H hb) hb hd hN
  unfold H_let M_let
  rw [← e]
  exact h1
theorem RR_let {N b d : Nat} {g m : HB} (H : RH N g (m 1)) (hb : b < ix (g 18 0)) (hd : d < ix (g 1 0)) (hN : N < 2 ^ 30) : PQ (M_move m b d (m 1 528)) b d ∧ RH (N + 1) (H_let g b d) (M_let m b d 1) := by
  obtain ⟨h1, h2, h3, h4, h5, h6, h7⟩ := H
  have b1 := ix_lt h1.1.1 (by decide)
  have b2 := ix_lt h1.1.2 (by decide)
  have t := RTw_let h6 (b := b) (d := d) (by omega) (by omega) hN h1.2.2.2.1.1
  have e1 : H_let g b d 1 0 = g 1 0 := H_let_n (by omega)
  have e2 : H_let g b d 18 0 = g 18 0 := H_let_n (by omega)
  refine ⟨t.1, RS0_let h1 hb hd, RWt_fr h2 e1 (fun _ _ => H_let_n (by omega)) (fun x hx => M_let_n (by omega)), RAl_fr h3 e2 (H_let_n (by omega)) (fun _ _ => H_let_n (by omega)) (M_let_n (by omega)) (fun x hx => M_let_n (by omega)), RNt_fr h4 e1 (by rw [e2]; exact Nat.le_refl _) (fun _ _ => H_let_n (by omega)) (fun _ _ _ _ => ⟨H_let_n (by omega), H_let_n (by omega)⟩) (fun x p hx y z => M_let_n (by omega)), RCp_fr h5 e1 (fun _ _ => ⟨fun z => by rw [H_let_n (by omega)] at z; exact z, H_let_n (by omega)⟩) (fun _ _ _ _ => ⟨H_let_n (by omega), H_let_n (by omega)⟩) (fun x p hx y z => M_let_n (by omega)), t.2, ?_⟩
  obtain ⟨v1, v2, v3, v4⟩ := h7
  refine ⟨by rw [e1]; exact SymL_fr v1 (fun _ _ => H_let_n (by omega)), RVd_fr v2 e1 (by rw [e2]; exact Nat.le_refl _) (fun _ k _ z => H_let_n (by omega)), fun x hx => ?_, ?_⟩
  · rw [e2] at hx
    rw [H_let_n (by omega), H_let_n (by omega)]
    refine ⟨(v3 x hx).1, (v3 x hx).2.1, ?_⟩
    unfold H_let
    rw [H_go_n (by decide)]
    unfold H_move
    rw [up2_n (by omega)]
    by_cases c : x = b
    · subst c; rw [up2_s]; exact (v2 d hd).2.1
    · rw [up2_n (by omega)]
      split
      · rw [up2_n (by omega)]; exact (v3 x hx).2.2
      · exact (v3 x hx).2.2
  · unfold RVt
    rw [H_let_n (by omega)]
    exact vI_mono v4 (by omega)
