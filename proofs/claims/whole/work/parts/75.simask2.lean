theorem shut_iff {N d : Nat} {g m : HB} (H : RH N g (m 1)) (hd : d < ix (g 1 0)) : M_shut m d ↔ pShut g d := by
  have e6 : m 1 (60 * d + 6) = g 8 d := H.1.2.1 d 6 hd (by decide)
  have et : m 1 528 = g 0 0 := H.1.2.2.2.1.1
  unfold M_shut pShut
  rw [e6, et]
  rcases H.2.2.2.2.2.2.1 d hd with z | ⟨y, h1, h2, h3⟩
  · rw [z]; simp
  · rw [h2, ix_nI (by have := ix_lt H.1.1.1 (by decide); omega), H.1.2.1 y 8 h1 (by decide)]
theorem lev_eq {N d : Nat} {g m : HB} (H : RH N g (m 1)) (hd : d < ix (g 1 0)) : M_lev m d = H_lev g d := by
  have e2 : m 1 (60 * d + 2) = g 4 d := H.1.2.1 d 2 hd (by decide)
  have e3 : m 1 (60 * d + 3) = g 5 d := H.1.2.1 d 3 hd (by decide)
  have et : m 1 528 = g 0 0 := H.1.2.2.2.1.1
  unfold M_lev H_lev
  rw [e2, e3, et]
theorem on_eq {N b d : Nat} {g m : HB} (H : RH N g (m 1)) (hb : b < ix (g 18 0)) (hd : d < ix (g 1 0)) (hs : ¬ pShut g d) : M_onR m b d = H_on g b d := by
  have e0 : m 1 (60 * d + 0) = g 2 d := H.1.2.1 d 0 hd (by decide)
  have e1 : m 1 (60 * d + 1) = g 3 d := H.1.2.1 d 1 hd (by decide)
  have e4 : m 1 (60 * d + 4) = g 6 d := H.1.2.1 d 4 hd (by decide)
  have e5 : m 1 (60 * d + 5) = g 7 d := H.1.2.1 d 5 hd (by decide)
  have e9 : m 1 (60 * d + 9) = g 11 d := H.2.1 d hd
  have b0 : m 1 (480 + 6 * b + 0) = g 19 b := H.1.2.2.1 b 0 hb (by decide) (by decide)
  have b1 : m 1 (480 + 6 * b + 1) = g 20 b := H.1.2.2.1 b 1 hb (by decide) (by decide)
  have b2 : m 1 (480 + 6 * b + 2) = g 21 b := H.1.2.2.1 b 2 hb (by decide) (by decide)
  have ec : (g 7 d = nI 1 ∧ ¬ (¬ g 11 d = -1 ∧ ¬ g 11 d = nI b)) ↔ (g 7 d = nI 1 ∧ (g 11 d = -1 ∨ g 11 d = nI b)) := by
    by_cases p : g 11 d = -1 <;> by_cases q : g 11 d = nI b <;> simp [p, q]
  unfold M_onR H_on
  rw [if_neg hs, e0, e1, e4, e5, e9, b0, b1, b2, lev_eq H hd]
  simp only [ec]
theorem al_eq {N b d : Nat} {g m : HB} (H : RH N g (m 1)) (hb : b < ix (g 18 0)) (hd : d < ix (g 1 0)) (hs : ¬ pShut g d) (ho : g 9 d = nI 0) : M_alR m b d = H_off g b d := by
  have b2 := ix_lt H.1.1.2 (by decide)
  have e1 : m 1 (60 * d + 1) = g 3 d := H.1.2.1 d 1 hd (by decide)
  obtain ⟨c1, c2⟩ := H.2.2.2.2.1 d hd ho
  obtain ⟨c3, c4⟩ := c2 b (by omega)
  unfold M_alR H_off
  rw [if_neg hs, e1, lev_eq H hd]
  by_cases z : g 3 d = 0
  · rw [if_pos z, if_pos z]
  · rw [if_neg z, if_neg z]
    by_cases q : g 15 d ≤ nI b ∨ g 16 (d * 8 + b) = nI 1
    · rw [if_pos (c3.mpr q), if_pos q]
    · rw [if_neg (fun w => q (c3.mp w)), if_neg q]
      have hl : b < ix (g 15 d) := by
        rcases Nat.lt_or_ge b (ix (g 15 d)) with w | w
        · exact w
        · exact absurd (Or.inl (by rw [ix_eq c1 (by decide)]; exact nI_le w (by omega))) q
      rw [c4 hl]
theorem on_01 {N d : Nat} {g m : HB} (H : RH N g (m 1)) (hd : d < ix (g 1 0)) : g 9 d = nI 0 ∨ g 9 d = nI 1 := by
  obtain ⟨j, hj, e⟩ := (H.2.2.2.2.2.2.2.1 d hd).2.2.2.2.1
  rcases (by omega : j = 0 ∨ j = 1) with rfl | rfl
  · exact Or.inl e
  · exact Or.inr e
theorem dec_eq {N b d : Nat} {g m : HB} (H : RH N g (m 1)) (hb : b < ix (g 18 0)) (hd : d < ix (g 1 0)) : M_askR m b d = H_dec g b d := by
  have e7 : m 1 (60 * d + 7) = g 9 d := H.1.2.1 d 7 hd (by decide)
  unfold M_askR H_dec
  rw [e7]
  by_cases hs : pShut g d
  · rw [if_pos ((shut_iff H hd).mpr hs)]
    unfold H_on H_off
    rw [if_pos hs, if_pos hs]
    split <;> rfl
  · rw [if_neg (fun z => hs ((shut_iff H hd).mp z))]
    rcases on_01 H hd with z | z
    · rw [z, if_neg (by decide), if_neg (by decide)]
      exact al_eq H hb hd hs z
    · rw [z, if_pos rfl, if_pos rfl]
      exact on_eq H hb hd hs
theorem RH_askL {N b d : Nat} {g m : HB} (H : RH N g (m 1)) (hb : b < ix (g 18 0)) (hd : d < ix (g 1 0)) (hN : N + 2 < 2 ^ 30) (hs : ¬ pShut g d) (h0 : H_on g b d = 0) : RH (N + 2) (H_askL g b d) (M_onH m b d 1) := by
  have b1 := ix_lt H.1.1.1 (by decide)
  have b2 := ix_lt H.1.1.2 (by decide)
  have e1 : m 1 (60 * d + 1) = g 3 d := H.1.2.1 d 1 hd (by decide)
  have e5 : m 1 (60 * d + 5) = g 7 d := H.1.2.1 d 5 hd (by decide)
  have e9 : m 1 (60 * d + 9) = g 11 d := H.2.1 d hd
  have l1 := (RR_let H hb hd (by omega)).2
  obtain ⟨-, -, -, v7, -, v11, v3⟩ := H.2.2.2.2.2.2.2.1 d hd
  have hR : M_onR m b d = 0 := by rw [on_eq H hb hd hs]; exact h0
  have eM : M_onH m b d = if g 3 d = 0 then M_let m b d else if g 7 d = nI 1 then up2 (M_let (M_let m b d) (ix (g 11 d)) d) 1 (60 * d + 9) (-1) else M_let m b d := by
    unfold M_onH
    rw [hR, e1, e5, e9]
    simp
  rw [eM]
  unfold H_askL
  have l11 : H_let g b d 11 d = g 11 d := H_let_n (by omega)
  by_cases z : g 3 d = 0
  · rw [if_pos z]
    by_cases p : g 7 d = 0
    · rw [if_pos p]; exact RH_mono l1 (by omega)
    · rw [if_neg p, if_pos (v3 z)]
      have : up2 (H_let g b d) 11 d (-1) = H_let g b d := by
        rw [show (-1 : Int32) = H_let g b d 11 d from by rw [l11, v3 z], up2_id]
      rw [this]; exact RH_mono l1 (by omega)
  · rw [if_neg z]
    by_cases p : g 7 d = nI 1
    · have p0 : ¬ g 7 d = 0 := by rw [p]; decide
      have hw : ¬ g 11 d = -1 := by
        intro w
        unfold H_on at h0
        rw [if_neg hs, if_neg z] at h0
        have hc : g 7 d = nI 1 ∧ ¬ (¬ g 11 d = -1 ∧ ¬ g 11 d = nI b) := ⟨p, fun y => y.1 w⟩
        rw [if_pos hc] at h0
        split at h0
        · exact absurd h0 (by decide)
        · split at h0
          · exact absurd h0 (by decide)
          · split at h0 <;> exact absurd h0 (by decide)
      rw [if_pos p, if_neg p0, if_neg hw, H_let_c (by unfold Fr; omega)]
      have vw := v11.resolve_left hw
      have hw8 := ix_lt vw (by omega)
      have l2 := (RR_let l1 (b := ix (g 11 d)) (d := d) (by rw [H_let_n (by omega)]; exact hw8) (by rw [H_let_n (by omega)]; exact hd) (by omega)).2
      exact RH_wt l2 (by rw [H_let_n (by omega), H_let_n (by omega)]; exact hd) (Or.inl rfl) (fun _ => rfl)
    · have p0 : g 7 d = 0 := by
        obtain ⟨j, hj, e⟩ := v7
        rcases (by omega : j = 0 ∨ j = 1) with rfl | rfl
        · exact e
        · exact absurd e p
      rw [if_neg p, if_pos p0]; exact RH_mono l1 (by omega)
theorem RH_askO {N b d : Nat} {g m : HB} (H : RH N g (m 1)) (hb : b < ix (g 18 0)) (hd : d < ix (g 1 0)) (hN : N + 2 < 2 ^ 30) (hR : M_alR m b d = 0) : RH (N + 2) (H_askO g b d) (M_alH m b d 1) := by
  unfold H_askO M_alH
  rw [if_pos hR]
  exact RH_mono (RH_go (RH_note H hb hd) (by rw [H_addNote_n (by omega)]; exact hb) (by rw [H_addNote_n (by omega)]; exact hd) (by omega)).2 (by omega)
theorem H_askL_k {g : HB} {b d k j : Nat} (hk : k = 1 ∨ k = 18) : H_askL g b d k j = g k j := by
  unfold H_askL
  repeat' split
  · exact H_let_n (by omega)
  · rw [up2_n (by omega)]; exact H_let_n (by omega)
  · rw [H_let_n (by omega), up2_n (by omega)]; exact H_let_n (by omega)
theorem RH_ask {N b d : Nat} {g m : HB} {s : Int32} (H : RH N g (m 1)) (hb : b < ix (g 18 0)) (hd : d < ix (g 1 0)) (hN : N + 2 < 2 ^ 30) (hs : s = nI 0 ∨ s = nI 1) : RH (N + 2) (H_ask g b d s) (M_askH m b d s 1) := by
  have hR := dec_eq H hb hd
  have e7 : m 1 (60 * d + 7) = g 9 d := H.1.2.1 d 7 hd (by decide)
  have hlt : H_dec g b d < 6 := by
    unfold H_dec
    split
    · exact H_on_lt g b d
    · have := H_off_lt g b d; omega
  unfold H_ask M_askH
  rw [hR]
  by_cases c0 : H_dec g b d = 0
  · have hns : ¬ pShut g d := by
      intro z
      unfold H_dec H_on H_off at c0
      rw [if_pos z, if_pos z] at c0
      split at c0 <;> exact absurd c0 (by decide)
    have hms : ¬ M_shut m d := fun z => hns ((shut_iff H hd).mp z)
    rw [c0, if_neg (show ¬ ((0 : Nat) = 5) by decide), if_neg (show ¬ ¬ ((0 : Nat) = 0) by decide), if_neg (show ¬ ¬ ((0 : Nat) ≤ 0) by decide)]
    -- behind the alarms
    have al : ∀ (G : HB) (M : HB), RH (N + 2) G (M 1) → b < ix (G 18 0) → RH (N + 2) (if s = nI 1 then H_alarm G b else G) (up2 (up2 M 1 533 (M 1 533 + s)) 1 (480 + 6 * b + 4) (M 1 (480 + 6 * b + 4) + s) 1) := by
      intro G M hG hbG
      rcases hs with rfl | rfl
      · rw [if_neg (by decide), add_n0, add_n0, up2_id, up2_id]; exact hG
      · rw [if_pos rfl]; exact RH_alarm hG hbG
    rcases on_01 H hd with z | z
    · have eo : M_askS m b d = M_alH m b d := by unfold M_askS; rw [if_neg hms, e7, z, if_neg (by decide)]
      have hd0 : H_off g b d = 0 := by unfold H_dec at c0; rw [z, if_neg (by decide)] at c0; exact c0
      rw [z, if_neg (by decide), eo]
      have k1 := RH_askO H hb hd hN (by rw [al_eq H hb hd hns z]; exact hd0)
      have ek : H_askO g b d 18 0 = g 18 0 := by unfold H_askO; rw [H_go_n (by omega), H_addNote_n (by omega)]
      have k2 := al _ _ k1 (by rw [ek]; exact hb)
      by_cases c1 : s = nI 1
      · rw [if_pos c1] at k2 ⊢
        rw [H_askO_al]; exact k2
      · rw [if_neg c1] at k2 ⊢
        exact k2
    · have eo : M_askS m b d = M_onH m b d := by unfold M_askS; rw [if_neg hms, e7, z, if_pos rfl]
      have hd0 : H_on g b d = 0 := by unfold H_dec at c0; rw [z, if_pos rfl] at c0; exact c0
      rw [z, if_pos rfl, eo]
      have k1 := RH_askL H hb hd hN hns hd0
      have k2 := al _ _ k1 (by rw [H_askL_k (by omega)]; exact hb)
      by_cases c1 : s = nI 1
      · rw [if_pos c1] at k2 ⊢
        rw [H_askL_al]; exact k2
      · rw [if_neg c1] at k2 ⊢
        exact k2
  · rw [if_pos (show ¬ H_dec g b d ≤ 0 by omega)]
    by_cases c5 : H_dec g b d = 5
    · rw [if_pos c5, c5]
      have hns : ¬ pShut g d := by
        intro z
        unfold H_dec H_on H_off at c5
        rw [if_pos z, if_pos z] at c5
        split at c5 <;> exact absurd c5 (by decide)
      have hms : ¬ M_shut m d := fun z => hns ((shut_iff H hd).mp z)
      have z : g 9 d = nI 1 := by
        rcases on_01 H hd with z | z
        · unfold H_dec at c5
          rw [z, if_neg (by decide)] at c5
          have := H_off_lt g b d
          omega
        · exact z
      have hon : H_on g b d = 5 := by unfold H_dec at c5; rw [z, if_pos rfl] at c5; exact c5
      have h3 : ¬ g 3 d = 0 := by
        intro w
        unfold H_on at hon
        rw [if_neg hns, if_pos w] at hon
        exact absurd hon (by decide)
      have eo : M_askS m b d = up2 m 1 (60 * d + 9) (nI b) := by
        unfold M_askS
        rw [if_neg hms, e7, z, if_pos rfl]
        unfold M_onH
        rw [on_eq H hb hd hns, hon, if_pos rfl]
      have b1 := ix_lt H.1.1.1 (by decide)
      have ev : up2 m 1 (60 * d + 9) (nI b) 1 (534 + 5) = g 28 5 := by rw [up2_n (by omega)]; exact H.1.2.2.2.2 5 (by decide)
      rw [eo, ev]
      exact RH_mono (RH_out (RH_wt H hd (Or.inr (vI_nI hb)) (fun w => absurd w h3)) (by decide)) (by omega)
    · rw [if_neg c5, if_pos c0]
      have eo : M_askS m b d = m := by
        unfold M_askS
        by_cases hms : M_shut m d
        · rw [if_pos hms]
        · rw [if_neg hms]
          have hns : ¬ pShut g d := fun z => hms ((shut_iff H hd).mpr z)
          rcases on_01 H hd with z | z
          · have hd0 : H_dec g b d = H_off g b d := by unfold H_dec; rw [z, if_neg (by decide)]
            rw [e7, z, if_neg (by decide)]
            unfold M_alH
            rw [al_eq H hb hd hns z, ← hd0, if_neg c0]
          · have hd0 : H_dec g b d = H_on g b d := by unfold H_dec; rw [z, if_pos rfl]
            rw [e7, z, if_pos rfl]
            unfold M_onH
            rw [on_eq H hb hd hns, ← hd0, if_neg c5, if_pos c0]
      rw [eo, H.1.2.2.2.2 _ hlt]
      exact RH_mono (RH_out H hlt) (by omega)
theorem HOk_of {N : Nat} {g : HB} {q : Nat → Int32} (H : RH N g q) : HOk g := by
  obtain ⟨h1, h2, h3, h4, h5, h6, h7⟩ := H
  have b1 := ix_lt h1.1.1 (by decide)
  have b2 := ix_lt h1.1.2 (by decide)
  refine ⟨h1.1.1, h1.1.2, h6.1, fun a ha => (h6.2.2.1 a ha).1, fun d hd => ?_⟩
  obtain ⟨a1, a2, a3, a4, a5, a6, a7⟩ := h7.2.1 d hd
  obtain ⟨n1, n2, n3⟩ := h4 d hd
  refine ⟨?_, n2, a6.elim Or.inl (fun z => Or.inr (vI_mono z (by omega))), fun i hi => vI_mono (n3 i hi).2.2 (by omega), a1, a2⟩
  rcases h7.1 d hd with z | ⟨y, y1, y2, -⟩
  · exact Or.inl z
  · exact Or.inr ⟨y, by omega, y2⟩
theorem MOk_of {N : Nat} {g m : HB} (H : RH N g (m 1)) (hN : N + 2 < 2 ^ 30) : MOk m := by
  have hO := HOk_of H
  obtain ⟨h1, h2, h3, h4, h5, h6, h7⟩ := H
  have b1 := ix_lt h1.1.1 (by decide)
  have b2 := ix_lt h1.1.2 (by decide)
  have eD : m 1 529 = g 1 0 := h1.2.2.2.1.2.2.2.1
  have eB : m 1 530 = g 18 0 := h1.2.2.2.1.2.2.2.2
  have et : m 1 528 = g 0 0 := h1.2.2.2.1.1
  refine ⟨by rw [eD]; exact h1.1.1, by rw [eB]; exact h1.1.2, by rw [h6.2.1]; exact h6.1, fun b d hb hd => ?_⟩
  rw [eD] at hd
  obtain ⟨o1, o2, o3, o4, o5⟩ := hO.2.2.2.2 d hd
  obtain ⟨n1, n2, n3⟩ := h4 d hd
  have n2' := ix_lt n2 (by decide)
  have e6 : m 1 (60 * d + 6) = g 8 d := h1.2.1 d 6 hd (by decide)
  have e9 : m 1 (60 * d + 9) = g 11 d := h2 d hd
  have t1 := RTw_let h6 (b := b) (d := d) hb (by omega) (by omega) et
  have hw : ix (g 11 d) < 8 := by
    rcases o3 with z | z
    · rw [z]; decide
    · exact ix_lt z (by decide)
  have t2 := RTw_let t1.2 (b := ix (g 11 d)) (d := d) hw (by omega) (by omega) (by rw [M_let_n (by omega), H_let_n (by omega)]; exact et)
  have t3 : RTw N g (M_note m b d 1) := RTw_fr h6 rfl (fun _ _ => rfl) (fun _ _ => rfl) (fun p x _ => M_note_n (by omega) (by omega) (by rw [n1]; exact n2'))
  rw [e6, e9, n1]
  refine ⟨o1, t1.1, o3, t2.1, o2, (RTw_go t3 hb (by omega) (by omega)).1, fun i hi => ?_⟩
  rw [(n3 i hi).2.1]
  exact vI_mono (n3 i hi).2.2 (by omega)
