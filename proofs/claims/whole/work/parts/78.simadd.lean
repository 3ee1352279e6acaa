/-! a new BADGE, a new DOOR, a copy -/
theorem nI_ix {x : Int32} {n : Nat} (h : vI x n) (hn : n < 2 ^ 31) : nI (ix x) = x := (ix_eq h hn).symm
theorem pb_v (n : Nat) (v : Int32) : ∀ (c : Nat) (m : HB) (k : Nat), k < c → iter (M_pbB n v) c m 1 (480 + 6 * n + k) = if k = 0 then v else nI 0
  | 0, m, k, h => absurd h (by omega)
  | c + 1, m, k, h => by
    have ih : k ≠ c → iter (M_pbB n v) c m 1 (480 + 6 * n + k) = if k = 0 then v else nI 0 := fun z => pb_v n v c m k (by omega)
    show M_pbB n v c (iter (M_pbB n v) c m) 1 (480 + 6 * n + k) = _
    generalize iter (M_pbB n v) c m = y at *
    unfold M_pbB
    by_cases q : k = c
    · subst q; rw [up2_s]
    · rw [up2_n (by omega)]; exact ih q
theorem pd_v (n : Nat) : ∀ (c : Nat) (m : HB) (k : Nat), k < c → iter (M_pdB n) c m 1 (60 * n + k) = pd0 k
  | 0, m, k, h => absurd h (by omega)
  | c + 1, m, k, h => by
    have ih : k ≠ c → iter (M_pdB n) c m 1 (60 * n + k) = pd0 k := fun z => pd_v n c m k (by omega)
    show M_pdB n c (iter (M_pdB n) c m) 1 (60 * n + k) = _
    generalize iter (M_pdB n) c m = y at *
    unfold M_pdB
    by_cases q : k = c
    · subst q; rw [up2_s]
    · rw [up2_n (by omega)]; exact ih q
theorem H_badd_n {g : HB} {v : Int32} {k j : Nat} (h : (k < 18 ∨ 25 ≤ k) ∨ (k ≠ 18 ∧ j ≠ ix (g 18 0))) : H_badd g v k j = g k j := by
  unfold H_badd
  rw [up2_n (by omega), up2_n (by omega), up2_n (by omega), up2_n (by omega), up2_n (by omega), up2_n (by omega), up2_n (by omega)]
theorem RH_badge {N : Nat} {g m : HB} {v : Int32} (H : RH N g (m 1)) (h8 : vI (g 18 0) 8) (hv : vI v 4) : RH N (H_badd g v) (M_badge m v 1) := by
  obtain ⟨h1, h2, h3, h4, h5, h6, h7⟩ := H
  have b1 := ix_lt h1.1.1 (by decide)
  have b2 := ix_lt h8 (by decide)
  have eB : m 1 530 = g 18 0 := h1.2.2.2.1.2.2.2.2
  have g18 : H_badd g v 18 0 = nI (ix (g 18 0) + 1) := by unfold H_badd; rw [up2_s]
  have x18 : ix (H_badd g v 18 0) = ix (g 18 0) + 1 := by rw [g18, ix_nI (by omega)]
  have gv : ∀ k, k < 6 → H_badd g v (19 + k) (ix (g 18 0)) = if k = 0 then v else nI 0 := by
    intro k hk
    unfold H_badd
    rcases (by omega : k = 0 ∨ k = 1 ∨ k = 2 ∨ k = 3 ∨ k = 4 ∨ k = 5) with rfl | rfl | rfl | rfl | rfl | rfl <;> simp [up2]
  have mv : ∀ k, k < 6 → M_badge m v 1 (480 + 6 * ix (g 18 0) + k) = if k = 0 then v else nI 0 := by
    intro k hk
    unfold M_badge
    rw [eB, up2_n (by omega), pb_v _ _ 6 m k hk]
  have mn : ∀ p, p ≠ 530 → (p < 480 + 6 * ix (g 18 0) ∨ 480 + 6 * ix (g 18 0) + 6 ≤ p) → M_badge m v 1 p = m 1 p := by
    intro p x y
    unfold M_badge
    rw [eB, up2_n (by omega), M_pbB_k _ _ _ _ _ (by omega) y]
  have m530 : M_badge m v 1 530 = nI (ix (g 18 0) + 1) := by unfold M_badge; rw [eB, up2_s]
  have gn : ∀ k j, (k < 18 ∨ 25 ≤ k) ∨ (k ≠ 18 ∧ j ≠ ix (g 18 0)) → H_badd g v k j = g k j := fun k j z => H_badd_n z
  have e1 := gn 1 0 (by omega)
  refine ⟨?_, RWt_fr h2 e1 (fun _ _ => gn _ _ (by omega)) (fun _ _ => mn _ (by omega) (by omega)), ⟨?_, fun b hb => ?_⟩, RNt_fr h4 e1 (by rw [x18]; omega) (fun _ _ => gn _ _ (by omega)) (fun _ _ _ _ => ⟨gn _ _ (by omega), gn _ _ (by omega)⟩) (fun _ _ _ _ _ => mn _ (by omega) (by omega)), RCp_fr h5 e1 (fun _ _ => ⟨fun z => by rw [gn _ _ (by omega)] at z; exact z, gn _ _ (by omega)⟩) (fun _ _ _ _ => ⟨gn _ _ (by omega), gn _ _ (by omega)⟩) (fun _ _ _ _ _ => mn _ (by omega) (by omega)), RTw_fr h6 (gn _ _ (by omega)) (fun _ _ => gn _ _ (by omega)) (fun _ _ => gn _ _ (by omega)) (fun _ _ _ => mn _ (by omega) (by omega)), ?_⟩
  · obtain ⟨⟨a1, a2⟩, a3, a4, ⟨a5, a6, a7, a8, a9⟩, a10⟩ := h1
    refine ⟨⟨by rw [e1]; exact a1, by rw [g18]; exact ⟨_, by omega, rfl⟩⟩, fun d k x y => ?_, fun b k x y z => ?_, ⟨?_, ?_, ?_, ?_, ?_⟩, fun k x => ?_⟩
    · rw [e1] at x
      rw [gn _ _ (by omega), mn _ (by omega) (by omega)]; exact a3 d k x y
    · rw [x18] at x
      by_cases c : b = ix (g 18 0)
      · subst c; rw [gv k y, mv k y]
      · rw [gn _ _ (by omega), mn _ (by omega) (by omega)]; exact a4 b k (by omega) y z
    · rw [gn _ _ (by omega), mn _ (by omega) (by omega)]; exact a5
    · rw [gn _ _ (by omega), mn _ (by omega) (by omega)]; exact a6
    · rw [gn _ _ (by omega), mn _ (by omega) (by omega)]; exact a7
    · rw [e1, mn _ (by omega) (by omega)]; exact a8
    · rw [g18, m530]
    · rw [gn _ _ (by omega), mn _ (by omega) (by omega)]; exact a10 k x
  · rw [gn _ _ (by omega), mn _ (by omega) (by omega)]; exact h3.1
  · rw [x18] at hb
    by_cases c : b = ix (g 18 0)
    · subst c; rw [mv 4 (by decide), gv 4 (by decide)]
    · rw [gn _ _ (by omega), mn _ (by omega) (by omega)]; exact h3.2 b (by omega)
  · obtain ⟨v1, v2, v3, v4⟩ := h7
    refine ⟨by rw [e1]; exact SymL_fr v1 (fun _ _ => gn _ _ (by omega)), RVd_fr v2 e1 (by rw [x18]; omega) (fun _ _ _ _ => gn _ _ (by omega)), fun b hb => ?_, ?_⟩
    · rw [x18] at hb
      by_cases c : b = ix (g 18 0)
      · subst c
        have q0 := gv 0 (by decide)
        have q1 := gv 1 (by decide)
        have q2 := gv 2 (by decide)
        rw [if_pos rfl] at q0
        rw [if_neg (by decide)] at q1 q2
        rw [show H_badd g v 19 (ix (g 18 0)) = v from q0, show H_badd g v 20 (ix (g 18 0)) = nI 0 from q1, show H_badd g v 21 (ix (g 18 0)) = nI 0 from q2]
        exact ⟨hv, ⟨0, by decide, rfl⟩, ⟨0, by decide, rfl⟩⟩
      · rw [gn _ _ (by omega), gn _ _ (by omega), gn _ _ (by omega)]; exact v3 b (by omega)
    · unfold RVt; rw [gn _ _ (by omega)]; exact v4
theorem H_dadd_n {g : HB} {f t a b : Int32} {k j : Nat} (h : (k = 0 ∨ 13 ≤ k) ∨ (k ≠ 1 ∧ j ≠ ix (g 1 0))) : H_dadd g f t a b k j = g k j := by
  unfold H_dadd
  rw [up2_n (by omega), up2_n (by omega), up2_n (by omega), up2_n (by omega), up2_n (by omega), up2_n (by omega), up2_n (by omega), up2_n (by omega), up2_n (by omega), up2_n (by omega), up2_n (by omega), up2_n (by omega)]
theorem RH_door {N : Nat} {g m : HB} {f t a b : Int32} (H : RH N g (m 1)) (h8 : vI (g 1 0) 8) (hf : vI f 6) (ht : vI t 6) : RH N (H_dadd g f t a b) (M_door m f t a b 1) := by
  obtain ⟨h1, h2, h3, h4, h5, h6, h7⟩ := H
  have b1 := ix_lt h8 (by decide)
  have b2 := ix_lt h1.1.2 (by decide)
  have eD : m 1 529 = g 1 0 := h1.2.2.2.1.2.2.2.1
  generalize hn : ix (g 1 0) = n at *
  generalize hG : H_dadd g f t a b = G
  generalize hM : M_door m f t a b = M
  have g1 : G 1 0 = nI (n + 1) := by rw [← hG]; unfold H_dadd; rw [up2_s, hn]
  have x1 : ix (G 1 0) = n + 1 := by rw [g1, ix_nI (by omega)]
  have gv : ∀ k, k < 11 → G (2 + k) n = if k = 0 then f else if k = 1 then t else if k = 2 then a else if k = 3 then b else if k = 6 ∨ k = 8 ∨ k = 9 then -1 else if k = 7 then nI 1 else nI 0 := by
    intro k hk
    rw [← hG]
    unfold H_dadd
    rw [hn]
    rcases (by omega : k = 0 ∨ k = 1 ∨ k = 2 ∨ k = 3 ∨ k = 4 ∨ k = 5 ∨ k = 6 ∨ k = 7 ∨ k = 8 ∨ k = 9 ∨ k = 10) with rfl | rfl | rfl | rfl | rfl | rfl | rfl | rfl | rfl | rfl | rfl <;> simp [up2]
  have mv : ∀ k, k < 60 → M 1 (60 * n + k) = if k = 0 then f else if k = 1 then t else if k = 2 then a else if k = 3 then b else pd0 k := by
    intro k hk
    rw [← hM]
    unfold M_door
    rw [eD, hn, up2_n (by omega)]
    by_cases c3 : k = 3
    · subst c3; rw [up2_s]; simp
    · rw [up2_n (by omega)]
      by_cases c2 : k = 2
      · subst c2; rw [up2_s]; simp
      · rw [up2_n (by omega)]
        by_cases c1 : k = 1
        · subst c1; rw [up2_s]; simp
        · rw [up2_n (by omega)]
          by_cases c0 : k = 0
          · subst c0; rw [if_pos rfl]; exact up2_s _ _ _ _
          · rw [up2_n (by omega), pd_v n 60 m k hk, if_neg c0, if_neg c1, if_neg c2, if_neg c3]
  have mn : ∀ p, p ≠ 529 → (p < 60 * n ∨ 60 * n + 60 ≤ p) → M 1 p = m 1 p := by
    intro p x y
    rw [← hM]
    unfold M_door
    rw [eD, hn, up2_n (by omega), up2_n (by omega), up2_n (by omega), up2_n (by omega), up2_n (by omega), M_pdB_k _ _ _ _ (by omega) y]
  have m529 : M 1 529 = nI (n + 1) := by rw [← hM]; unfold M_door; rw [eD, hn, up2_s]
  have gn : ∀ k j, (k = 0 ∨ 13 ≤ k) ∨ (k ≠ 1 ∧ j ≠ n) → G k j = g k j := fun k j z => by rw [← hG]; exact H_dadd_n (by rw [hn]; exact z)
  have e2 := gn 18 0 (by omega)
  have pdk : ∀ k, 4 ≤ k → k < 9 → (if k = 6 ∨ k = 8 ∨ k = 9 then (-1 : Int32) else if k = 7 then nI 1 else nI 0) = pd0 k := by
    intro k h1 h2
    rcases (by omega : k = 4 ∨ k = 5 ∨ k = 6 ∨ k = 7 ∨ k = 8) with rfl | rfl | rfl | rfl | rfl <;> rfl
  have q12 : G 12 n = nI 0 := gv 10 (by decide)
  have q9 : G 9 n = nI 1 := gv 7 (by decide)
  have q11 : G 11 n = -1 := gv 9 (by decide)
  have q8 : G 8 n = -1 := gv 6 (by decide)
  have q2 : G 2 n = f := gv 0 (by decide)
  have q3 : G 3 n = t := gv 1 (by decide)
  have q6 : G 6 n = nI 0 := gv 4 (by decide)
  have q7 : G 7 n = nI 0 := gv 5 (by decide)
  refine ⟨?_, fun d hd => ?_, RAl_fr h3 e2 (gn _ _ (by omega)) (fun _ _ => gn _ _ (by omega)) (mn _ (by omega) (by omega)) (fun _ _ => mn _ (by omega) (by omega)), fun d hd => ?_, fun d hd hz => ?_, RTw_fr h6 (gn _ _ (by omega)) (fun _ _ => gn _ _ (by omega)) (fun _ _ => gn _ _ (by omega)) (fun _ _ _ => mn _ (by omega) (by omega)), ?_⟩
  · obtain ⟨⟨a1, a2⟩, a3, a4, ⟨a5, a6, a7, a8, a9⟩, a10⟩ := h1
    rw [hn] at a3
    refine ⟨⟨by rw [g1]; exact ⟨_, by omega, rfl⟩, by rw [e2]; exact a2⟩, fun d k x y => ?_, fun b k x y z => ?_, ⟨?_, ?_, ?_, ?_, ?_⟩, fun k x => ?_⟩
    · rw [x1] at x
      by_cases c : d = n
      · subst c
        rw [gv k (by omega), mv k (by omega)]
        by_cases c4 : 4 ≤ k
        · rw [if_neg (by omega), if_neg (by omega), if_neg (by omega), if_neg (by omega), if_neg (by omega), if_neg (by omega), if_neg (by omega), if_neg (by omega), pdk k c4 y]
        · rcases (by omega : k = 0 ∨ k = 1 ∨ k = 2 ∨ k = 3) with rfl | rfl | rfl | rfl <;> rfl
      · rw [gn _ _ (by omega), mn _ (by omega) (by omega)]; exact a3 d k (by omega) y
    · rw [e2] at x
      rw [gn _ _ (by omega), mn _ (by omega) (by omega)]; exact a4 b k x y z
    · rw [gn _ _ (by omega), mn _ (by omega) (by omega)]; exact a5
    · rw [gn _ _ (by omega), mn _ (by omega) (by omega)]; exact a6
    · rw [gn _ _ (by omega), mn _ (by omega) (by omega)]; exact a7
    · rw [g1, m529]
    · rw [e2, mn _ (by omega) (by omega)]; exact a9
    · rw [gn _ _ (by omega), mn _ (by omega) (by omega)]; exact a10 k x
  · rw [x1] at hd
    by_cases c : d = n
    · subst c; rw [mv 9 (by decide), q11]; rfl
    · rw [gn _ _ (by omega), mn _ (by omega) (by omega)]; exact h2 d (by rw [hn]; omega)
  · rw [x1] at hd
    rw [e2]
    by_cases c : d = n
    · subst c
      rw [q12, mv 19 (by decide)]
      exact ⟨rfl, ⟨0, by decide, rfl⟩, fun i hi => absurd hi (by rw [ix_nI (by decide)]; omega)⟩
    · obtain ⟨n1, n2, n3⟩ := h4 d (by rw [hn]; omega)
      have n2' := ix_lt n2 (by decide)
      rw [gn 12 d (by omega), mn _ (by omega) (by omega)]
      refine ⟨n1, n2, fun i hi => ?_⟩
      rw [gn 13 _ (by omega), gn 14 _ (by omega), mn _ (by omega) (by omega), mn _ (by omega) (by omega)]
      exact n3 i hi
  · rw [x1] at hd
    by_cases c : d = n
    · subst c; rw [q9] at hz; exact absurd hz (by decide)
    · rw [gn 9 d (by omega)] at hz
      obtain ⟨c1, c2⟩ := h5 d (by rw [hn]; omega) hz
      rw [gn 15 d (by omega)]
      refine ⟨c1, fun b hb => ?_⟩
      rw [gn 16 _ (by omega), gn 17 _ (by omega), mn _ (by omega) (by omega), mn _ (by omega) (by omega)]
      exact c2 b hb
  · obtain ⟨v1, v2, v3, v4⟩ := h7
    rw [hn] at v1
    refine ⟨?_, fun d hd => ?_, RVb_fr v3 e2 (fun _ _ _ _ => gn _ _ (by omega)), ?_⟩
    · rw [x1]
      intro x hx
      by_cases c : x = n
      · subst c; exact Or.inl q8
      · rw [gn 8 x (by omega)]
        rcases v1 x (by omega) with z | ⟨y, y1, y2, y3⟩
        · exact Or.inl z
        · exact Or.inr ⟨y, by omega, y2, by rw [gn 8 y (by omega)]; exact y3⟩
    · rw [x1] at hd
      rw [e2]
      by_cases c : d = n
      · subst c
        rw [q2, q3, q6, q7, q9, q11]
        exact ⟨hf, ht, ⟨0, by decide, rfl⟩, ⟨0, by decide, rfl⟩, ⟨1, by decide, rfl⟩, Or.inl rfl, fun _ => rfl⟩
      · rw [gn 2 d (by omega), gn 3 d (by omega), gn 6 d (by omega), gn 7 d (by omega), gn 9 d (by omega), gn 11 d (by omega)]
        exact v2 d (by rw [hn]; omega)
    · unfold RVt; rw [gn _ _ (by omega)]; exact v4
