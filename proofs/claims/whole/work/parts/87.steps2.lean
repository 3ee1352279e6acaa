/-! the calls that keep a state -/
theorem rBadge_2 {g : HB} {v : Int32} (h : H_rBadge g v = -2) : ¬ vI v 4 := by
  intro c
  unfold H_rBadge at h
  rw [if_neg (fun z => z (pL_iff.mpr c))] at h
  split at h <;> exact absurd h (by decide)
theorem rBadge_4 {g : HB} {v : Int32} (hB : vI (g 18 0) 9) (h : H_rBadge g v = -4) : vI v 4 ∧ g 18 0 = nI 8 := by
  unfold H_rBadge at h
  by_cases c : pL v
  · rw [if_neg (fun z => z c)] at h
    by_cases e : g 18 0 < nI 8
    · rw [if_neg (fun z => z e)] at h; exact absurd h (by decide)
    · exact ⟨pL_iff.mp c, (lt8_iff hB).mp e⟩
  · rw [if_pos c] at h; exact absurd h (by decide)
theorem rDoor_2 {g : HB} {f t a b : Int32} (h : H_rDoor g f t a b = -2) : ¬ (pA f ∧ pA t ∧ ¬ f = t ∧ pL a ∧ pL b) := by
  intro c
  unfold H_rDoor at h
  rw [if_neg (fun z => z c)] at h
  split at h <;> exact absurd h (by decide)
theorem rDoor_4 {g : HB} {f t a b : Int32} (hD : vI (g 1 0) 9) (h : H_rDoor g f t a b = -4) : (pA f ∧ pA t ∧ ¬ f = t ∧ pL a ∧ pL b) ∧ g 1 0 = nI 8 := by
  unfold H_rDoor at h
  by_cases c : pA f ∧ pA t ∧ ¬ f = t ∧ pL a ∧ pL b
  · rw [if_neg (fun z => z c)] at h
    by_cases e : g 1 0 < nI 8
    · rw [if_neg (fun z => z e)] at h; exact absurd h (by decide)
    · exact ⟨c, (lt8_iff hD).mp e⟩
  · rw [if_pos c] at h; exact absurd h (by decide)
theorem door_cc {f t a b : Int32} : (pA f ∧ pA t ∧ ¬ f = t ∧ pL a ∧ pL b) ↔ ((¬ f < nI 0 ∧ ¬ nI 5 < f) ∧ (¬ t < nI 0 ∧ ¬ nI 5 < t) ∧ ¬ f = t ∧ (¬ a < nI 0 ∧ ¬ nI 3 < a) ∧ (¬ b < nI 0 ∧ ¬ nI 3 < b)) := by
  rw [pA_iff, pA_iff, pL_iff, pL_iff, show (¬ f < nI 0 ∧ ¬ nI 5 < f) ↔ vI f 6 from mpI_iff (by decide), show (¬ t < nI 0 ∧ ¬ nI 5 < t) ↔ vI t 6 from mpI_iff (by decide), show (¬ a < nI 0 ∧ ¬ nI 3 < a) ↔ vI a 4 from mpI_iff (by decide), show (¬ b < nI 0 ∧ ¬ nI 3 < b) ↔ vI b 4 from mpI_iff (by decide)]
theorem rOnline_2 {g : HB} {d s : Int32} (h : H_rOnline g d s = -2) : ¬ (pD g d ∧ pF s) := by
  intro c
  unfold H_rOnline at h
  rw [if_neg (fun z => z c)] at h
  split at h <;> exact absurd h (by decide)
theorem rOnline_3 {g : HB} {d s : Int32} (h : H_rOnline g d s = -3) : (pD g d ∧ pF s) ∧ g 9 (ix d) = s := by
  unfold H_rOnline at h
  by_cases c : pD g d ∧ pF s
  · rw [if_neg (fun z => z c)] at h
    by_cases e : g 9 (ix d) = s
    · exact ⟨c, e⟩
    · rw [if_neg e] at h; exact absurd h (by decide)
  · rw [if_pos c] at h; exact absurd h (by decide)

theorem st_badge {E : EN} {N : Nat} {u : U3} {r : R1} (H : IV N u r) (hN : N + 15200 < 2 ^ 30) (v : Int32) : StI E N u r yX6_badge wsX6_badge (rmT 5 104) yX7_badge wsX7_badge (rmT 3 65) [.int v] := by
  obtain ⟨hr, s, HS⟩ := id H
  have hR := HS.2.2.2.1
  obtain ⟨hi, hi5, hrn⟩ := RP_0 hr
  have b1 := ix_lt hR.1.1.1 (by decide)
  have b2 := ix_lt hR.1.1.2 (by decide)
  have hT := hR.2.2.2.2.2.1
  have eD : M_bring (u 6) 1 0 2 0 1 529 = u (r 0) 1 0 := by rw [sv_1]; exact hR.1.2.2.2.1.2.2.2.1
  have eB : M_bring (u 6) 1 0 2 0 1 530 = u (r 0) 18 0 := by rw [sv_1]; exact hR.1.2.2.2.1.2.2.2.2
  have hS : RH N (u (r 0)) (M_bring (u 6) 1 0 2 0 1) := by rw [sv_1]; exact hR
  have v0 : vI (M_bring (u 6) 1 0 2 0 0 0) 5 := by rw [sv_n (by decide), HS.2.2.1]; exact ⟨s, by have := HS.1; omega, rfl⟩
  have hB := hR.1.1.2
  rcases rBadge_v (u (r 0)) v with c | c | c
  · have n4 := rBadge_2 c
    have c6 := c_X6_badge_B E u r (u 5) (u (r 0)) v hi hi5 (Or.inl c) (by rw [c]; decide)
    rw [c] at c6
    exact st_ref H (Or.inl rfl) _ (Or.inr rfl) c6 (fun v1 => c_X7_badge_B E v1 r (u 6) v (fun z => n4 ((mpI_iff (n := 3) (by decide)).mp z)))
  · obtain ⟨n4, n8⟩ := rBadge_4 hB c
    have c6 := c_X6_badge_B E u r (u 5) (u (r 0)) v hi hi5 (Or.inr (Or.inr c)) (by rw [c]; decide)
    rw [c] at c6
    exact st_ref H (Or.inr (Or.inr rfl)) _ (Or.inr rfl) c6 (fun v1 => c_X7_badge_F E v1 r (u 6) v ((mpI_iff (n := 3) (by decide)).mpr n4) (by rw [eB]; exact n8))
  · obtain ⟨p1, p2⟩ := rBadge0 c
    have h8 := vI_lt8 hB p2
    have n4 := pL_iff.mp p1
    refine st_keep (N' := N) (x := nI (ix (u (r 0) 18 0))) (g' := H_badd (u (r 0)) v) (m1 := M_badge (M_bring (u 6) 1 0 2 0) v) H (Nat.le_refl _) (by omega) (fun s hs f0 => c_X6_badge_K E u r (u 5) (u (r 0)) v s hi hi5 hr.1 hrn hR.1.1.1 hR.1.1.2 hT.1 f0 hs c h8) (fun f0 => c_X6_badge_L E u r (u 5) (u (r 0)) v hi hi5 hr.1 hrn hR.1.1.1 hR.1.1.2 hT.1 f0 c h8) (fun v1 r1 => ?_) (fun k j z => M_badge_k z) (RH_badge hS h8 n4)
    have c7 := c_X7_badge_O E v1 r1 (u 6) v ((mpI_iff (n := 3) (by decide)).mpr n4) (by rw [eB]; exact h8) (by rw [M_badge_k (by decide)]; exact v0)
    rw [eB] at c7
    exact c7

theorem st_door {E : EN} {N : Nat} {u : U3} {r : R1} (H : IV N u r) (hN : N + 15200 < 2 ^ 30) (f t a b : Int32) : StI E N u r yX6_door wsX6_door (rmT 5 104) yX7_door wsX7_door (rmT 3 68) [.int f, .int t, .int a, .int b] := by
  obtain ⟨hr, s, HS⟩ := id H
  have hR := HS.2.2.2.1
  obtain ⟨hi, hi5, hrn⟩ := RP_0 hr
  have b1 := ix_lt hR.1.1.1 (by decide)
  have b2 := ix_lt hR.1.1.2 (by decide)
  have hT := hR.2.2.2.2.2.1
  have eD : M_bring (u 6) 1 0 2 0 1 529 = u (r 0) 1 0 := by rw [sv_1]; exact hR.1.2.2.2.1.2.2.2.1
  have eB : M_bring (u 6) 1 0 2 0 1 530 = u (r 0) 18 0 := by rw [sv_1]; exact hR.1.2.2.2.1.2.2.2.2
  have hS : RH N (u (r 0)) (M_bring (u 6) 1 0 2 0 1) := by rw [sv_1]; exact hR
  have v0 : vI (M_bring (u 6) 1 0 2 0 0 0) 5 := by rw [sv_n (by decide), HS.2.2.1]; exact ⟨s, by have := HS.1; omega, rfl⟩
  have hD := hR.1.1.1
  rcases rDoor_v (u (r 0)) f t a b with c | c | c
  · have n4 := rDoor_2 c
    have c6 := c_X6_door_B E u r (u 5) (u (r 0)) f t a b hi hi5 (Or.inl c) (by rw [c]; decide)
    rw [c] at c6
    exact st_ref H (Or.inl rfl) _ (Or.inr rfl) c6 (fun v1 => c_X7_door_B E v1 r (u 6) f t a b (fun z => n4 (door_cc.mpr z)))
  · obtain ⟨n4, n8⟩ := rDoor_4 hD c
    have c6 := c_X6_door_B E u r (u 5) (u (r 0)) f t a b hi hi5 (Or.inr (Or.inr c)) (by rw [c]; decide)
    rw [c] at c6
    exact st_ref H (Or.inr (Or.inr rfl)) _ (Or.inr rfl) c6 (fun v1 => c_X7_door_F E v1 r (u 6) f t a b (door_cc.mp n4) (by rw [eD]; exact n8))
  · obtain ⟨p1, p2⟩ := rDoor0 c
    have h8 := vI_lt8 hD p2
    refine st_keep (N' := N) (x := nI (ix (u (r 0) 1 0))) (g' := H_dadd (u (r 0)) f t a b) (m1 := M_door (M_bring (u 6) 1 0 2 0) f t a b) H (Nat.le_refl _) (by omega) (fun s hs f0 => c_X6_door_K E u r (u 5) (u (r 0)) f t a b s hi hi5 hr.1 hrn hR.1.1.1 hR.1.1.2 hT.1 f0 hs c h8) (fun f0 => c_X6_door_L E u r (u 5) (u (r 0)) f t a b hi hi5 hr.1 hrn hR.1.1.1 hR.1.1.2 hT.1 f0 c h8) (fun v1 r1 => ?_) (fun k j z => M_door_k z) (RH_door hS h8 (pA_iff.mp p1.1) (pA_iff.mp p1.2.1))
    have c7 := c_X7_door_O E v1 r1 (u 6) f t a b (door_cc.mp p1) (by rw [eD]; exact h8) (by rw [M_door_k (by decide)]; exact v0)
    rw [eD] at c7
    exact c7

theorem st_waits {E : EN} {N : Nat} {u : U3} {r : R1} (H : IV N u r) (hN : N + 15200 < 2 ^ 30) (n : Int32) : StI E N u r yX6_waits wsX6_waits (rmT 5 104) yX7_waits wsX7_waits (rmT 2 46) [.int n] := by
  obtain ⟨hr, s, HS⟩ := id H
  have hR := HS.2.2.2.1
  obtain ⟨hi, hi5, hrn⟩ := RP_0 hr
  have b1 := ix_lt hR.1.1.1 (by decide)
  have b2 := ix_lt hR.1.1.2 (by decide)
  have hT := hR.2.2.2.2.2.1
  have eD : M_bring (u 6) 1 0 2 0 1 529 = u (r 0) 1 0 := by rw [sv_1]; exact hR.1.2.2.2.1.2.2.2.1
  have eB : M_bring (u 6) 1 0 2 0 1 530 = u (r 0) 18 0 := by rw [sv_1]; exact hR.1.2.2.2.1.2.2.2.2
  have hS : RH N (u (r 0)) (M_bring (u 6) 1 0 2 0 1) := by rw [sv_1]; exact hR
  have v0 : vI (M_bring (u 6) 1 0 2 0 0 0) 5 := by rw [sv_n (by decide), HS.2.2.1]; exact ⟨s, by have := HS.1; omega, rfl⟩
  by_cases c : ¬ n < nI 1 ∧ ¬ nI 99 < n
  · have c0 : H_rWait n = 0 := by unfold H_rWait; rw [if_pos c]; rfl
    obtain ⟨k, k1, k2, e⟩ := wait_iff.mp c
    obtain ⟨t, ht, et⟩ := hR.2.2.2.2.2.2.2.2.2
    have etm : M_bring (u 6) 1 0 2 0 1 528 = u (r 0) 0 0 := by rw [sv_1]; exact hR.1.2.2.2.1.1
    have nr : ¬ (¬ (-2 : Int32) < rem24 (u (r 0) 0 0 + n) ∧ ¬ rem24 (u (r 0) 0 0 + n) < (-4 : Int32)) := by rw [e, et, nI_add, rem24_v (by omega)]; exact nref (by omega)
    refine st_keep (N' := N + 100) (x := rem24 (u (r 0) 0 0 + n)) (g' := H_wait (u (r 0)) n) (m1 := M_wait (M_bring (u 6) 1 0 2 0) n) H (by omega) (by omega) (fun s hs f0 => c_X6_waits_K E u r (u 5) (u (r 0)) n s hi hi5 hr.1 hrn hR.1.1.1 hR.1.1.2 hT.1 f0 hs c0) (fun f0 => c_X6_waits_L E u r (u 5) (u (r 0)) n hi hi5 hr.1 hrn hR.1.1.1 hR.1.1.2 hT.1 f0 c0) (fun v1 r1 => ?_) (fun k j z => M_wait_k z) (by rw [e]; exact RH_wait hS k2 (by omega))
    have c7 := c_X7_waits_O E v1 r1 (u 6) n c (by rw [eD]; exact hR.1.1.1) (by rw [M_wait_k (by decide)]; exact v0) (by rw [etm]; exact nr)
    rw [etm] at c7
    exact c7
  · have c0 : H_rWait n = -2 := by unfold H_rWait; rw [if_neg c]
    have c6 := c_X6_waits_B E u r (u 5) (u (r 0)) n hi hi5 (Or.inl c0) (by rw [c0]; decide)
    rw [c0] at c6
    exact st_ref H (Or.inl rfl) _ (Or.inr rfl) c6 (fun v1 => c_X7_waits_B E v1 r (u 6) n c)

theorem st_bars {E : EN} {N : Nat} {u : U3} {r : R1} (H : IV N u r) (hN : N + 15200 < 2 ^ 30) (b s0 : Int32) : StI E N u r yX6_bars wsX6_bars (rmT 5 104) yX7_bars wsX7_bars (rmT 3 65) [.int b, .int s0] := by
  obtain ⟨hr, s, HS⟩ := id H
  have hR := HS.2.2.2.1
  obtain ⟨hi, hi5, hrn⟩ := RP_0 hr
  have b1 := ix_lt hR.1.1.1 (by decide)
  have b2 := ix_lt hR.1.1.2 (by decide)
  have hT := hR.2.2.2.2.2.1
  have eD : M_bring (u 6) 1 0 2 0 1 529 = u (r 0) 1 0 := by rw [sv_1]; exact hR.1.2.2.2.1.2.2.2.1
  have eB : M_bring (u 6) 1 0 2 0 1 530 = u (r 0) 18 0 := by rw [sv_1]; exact hR.1.2.2.2.1.2.2.2.2
  have hS : RH N (u (r 0)) (M_bring (u 6) 1 0 2 0 1) := by rw [sv_1]; exact hR
  have v0 : vI (M_bring (u 6) 1 0 2 0 0 0) 5 := by rw [sv_n (by decide), HS.2.2.1]; exact ⟨s, by have := HS.1; omega, rfl⟩
  have cc : (pB (u (r 0)) b ∧ pF s0) ↔ ((¬ b < nI 0 ∧ ¬ M_bring (u 6) 1 0 2 0 1 530 - nI 1 < b) ∧ (¬ s0 < nI 0 ∧ ¬ nI 1 < s0)) := by
    rw [pB_mp hS.1, pF_iff, show (¬ s0 < nI 0 ∧ ¬ nI 1 < s0) ↔ vI s0 2 from mpI_iff (by decide)]
  by_cases c : pB (u (r 0)) b ∧ pF s0
  · have c0 : H_rBar (u (r 0)) b s0 = 0 := by unfold H_rBar; rw [if_pos c]; rfl
    obtain ⟨j, hj, rfl⟩ := (pX_iff (N := 8) hR.1.1.2 (by decide)).mp c.1
    have e1 : M_bring (u 6) 1 0 2 0 1 (480 + 6 * j + 1) = u (r 0) 20 j := by rw [sv_1]; exact hR.1.2.2.1 j 1 hj (by decide) (by decide)
    obtain ⟨k, hk, e⟩ := (hR.2.2.2.2.2.2.2.2.1 j hj).2.1
    refine st_keep (N' := N) (x := u (r 0) 20 j) (g' := up2 (u (r 0)) 20 j s0) (m1 := up2 (M_bring (u 6) 1 0 2 0) 1 (480 + 6 * j + 1) s0) H (Nat.le_refl _) (by omega) (fun s hs f0 => c_X6_bars_K E u r (u 5) (u (r 0)) j s0 s hi hi5 hr.1 hrn hR.1.1.1 hR.1.1.2 hT.1 f0 hs c0 (by omega)) (fun f0 => c_X6_bars_L E u r (u 5) (u (r 0)) j s0 hi hi5 hr.1 hrn hR.1.1.1 hR.1.1.2 hT.1 f0 c0 (by omega)) (fun v1 r1 => ?_) (fun k j z => up2_n (fun w => z w.1)) (RH_bset 1 hS hj (Or.inr ⟨rfl, pF_iff.mp c.2⟩))
    have c7 := c_X7_bars_O E v1 r1 (u 6) j s0 (by rw [eB]; exact hR.1.1.2) (by rw [eB]; exact hj) (cc.mp c).2 (by rw [up2_n (by omega)]; exact v0) (by rw [e1, e]; exact nref (by omega))
    rw [e1] at c7
    exact c7
  · have c0 : H_rBar (u (r 0)) b s0 = -2 := by unfold H_rBar; rw [if_neg c]
    have c6 := c_X6_bars_B E u r (u 5) (u (r 0)) b s0 hi hi5 (Or.inl c0) (by rw [c0]; decide)
    rw [c0] at c6
    exact st_ref H (Or.inl rfl) _ (Or.inr rfl) c6 (fun v1 => c_X7_bars_B E v1 r (u 6) b s0 (fun z => c (cc.mpr z)))

theorem st_levels {E : EN} {N : Nat} {u : U3} {r : R1} (H : IV N u r) (hN : N + 15200 < 2 ^ 30) (b v : Int32) : StI E N u r yX6_levels wsX6_levels (rmT 5 104) yX7_levels wsX7_levels (rmT 2 46) [.int b, .int v] := by
  obtain ⟨hr, s, HS⟩ := id H
  have hR := HS.2.2.2.1
  obtain ⟨hi, hi5, hrn⟩ := RP_0 hr
  have b1 := ix_lt hR.1.1.1 (by decide)
  have b2 := ix_lt hR.1.1.2 (by decide)
  have hT := hR.2.2.2.2.2.1
  have eD : M_bring (u 6) 1 0 2 0 1 529 = u (r 0) 1 0 := by rw [sv_1]; exact hR.1.2.2.2.1.2.2.2.1
  have eB : M_bring (u 6) 1 0 2 0 1 530 = u (r 0) 18 0 := by rw [sv_1]; exact hR.1.2.2.2.1.2.2.2.2
  have hS : RH N (u (r 0)) (M_bring (u 6) 1 0 2 0 1) := by rw [sv_1]; exact hR
  have v0 : vI (M_bring (u 6) 1 0 2 0 0 0) 5 := by rw [sv_n (by decide), HS.2.2.1]; exact ⟨s, by have := HS.1; omega, rfl⟩
  have cc : ((¬ b < 0 ∧ ¬ u (r 0) 18 0 ≤ b) ∧ (¬ v < 0 ∧ ¬ nI 3 < v)) ↔ ((¬ b < nI 0 ∧ ¬ M_bring (u 6) 1 0 2 0 1 530 - nI 1 < b) ∧ (¬ v < nI 0 ∧ ¬ nI 3 < v)) := by
    rw [show (¬ b < 0 ∧ ¬ u (r 0) 18 0 ≤ b) ↔ (¬ b < nI 0 ∧ ¬ M_bring (u 6) 1 0 2 0 1 530 - nI 1 < b) from pB_mp hS.1, show (¬ v < 0 ∧ ¬ nI 3 < v) ↔ vI v 4 from pL_iff, show (¬ v < nI 0 ∧ ¬ nI 3 < v) ↔ vI v 4 from mpI_iff (by decide)]
  by_cases c : (¬ b < 0 ∧ ¬ u (r 0) 18 0 ≤ b) ∧ (¬ v < 0 ∧ ¬ nI 3 < v)
  · obtain ⟨j, hj, rfl⟩ := (pX_iff (N := 8) hR.1.1.2 (by decide)).mp c.1
    have e1 : M_bring (u 6) 1 0 2 0 1 (480 + 6 * j) = u (r 0) 19 j := by rw [sv_1]; exact hR.1.2.2.1 j 0 hj (by decide) (by decide)
    obtain ⟨k, hk, e⟩ := (hR.2.2.2.2.2.2.2.2.1 j hj).1
    refine st_keep (N' := N) (x := u (r 0) 19 j) (g' := up2 (u (r 0)) 19 j v) (m1 := up2 (M_bring (u 6) 1 0 2 0) 1 (480 + 6 * j) v) H (Nat.le_refl _) (by omega) (fun s hs f0 => c_X6_levels_K E u r (u 5) (u (r 0)) j v s hi hi5 hr.1 hrn hR.1.1.1 hR.1.1.2 hT.1 f0 hs hj c.2) (fun f0 => c_X6_levels_L E u r (u 5) (u (r 0)) j v hi hi5 hr.1 hrn hR.1.1.1 hR.1.1.2 hT.1 f0 hj c.2) (fun v1 r1 => ?_) (fun k j z => up2_n (fun w => z w.1)) (RH_bset 0 hS hj (Or.inl ⟨rfl, pL_iff.mp c.2⟩))
    have c7 := c_X7_levels_O E v1 r1 (u 6) j v (by rw [eB]; exact hR.1.1.2) (by rw [eB]; exact hj) (cc.mp c).2 (by rw [up2_n (by omega)]; exact v0) (by rw [e1, e]; exact nref (by omega))
    rw [e1] at c7
    exact c7
  · exact st_ref H (Or.inl rfl) _ (Or.inr rfl) (c_X6_levels_B E u r (u 5) (u (r 0)) b v hi hi5 c) (fun v1 => c_X7_levels_B E v1 r (u 6) b v (fun z => c (cc.mpr z)))

theorem st_asks {E : EN} {N : Nat} {u : U3} {r : R1} (H : IV N u r) (hN : N + 15200 < 2 ^ 30) (b d s0 : Int32) : StI E N u r yX6_asks wsX6_asks (rmT 5 104) yX7_asks wsX7_asks (rmT 5 115) [.int b, .int d, .int s0] := by
  obtain ⟨hr, s, HS⟩ := id H
  have hR := HS.2.2.2.1
  obtain ⟨hi, hi5, hrn⟩ := RP_0 hr
  have b1 := ix_lt hR.1.1.1 (by decide)
  have b2 := ix_lt hR.1.1.2 (by decide)
  have hT := hR.2.2.2.2.2.1
  have eD : M_bring (u 6) 1 0 2 0 1 529 = u (r 0) 1 0 := by rw [sv_1]; exact hR.1.2.2.2.1.2.2.2.1
  have eB : M_bring (u 6) 1 0 2 0 1 530 = u (r 0) 18 0 := by rw [sv_1]; exact hR.1.2.2.2.1.2.2.2.2
  have hS : RH N (u (r 0)) (M_bring (u 6) 1 0 2 0 1) := by rw [sv_1]; exact hR
  have v0 : vI (M_bring (u 6) 1 0 2 0 0 0) 5 := by rw [sv_n (by decide), HS.2.2.1]; exact ⟨s, by have := HS.1; omega, rfl⟩
  have cc : (pB (u (r 0)) b ∧ pD (u (r 0)) d ∧ pF s0) ↔ ((¬ b < nI 0 ∧ ¬ M_bring (u 6) 1 0 2 0 1 530 - nI 1 < b) ∧ (¬ d < nI 0 ∧ ¬ M_bring (u 6) 1 0 2 0 1 529 - nI 1 < d) ∧ (¬ s0 < nI 0 ∧ ¬ nI 1 < s0)) := by
    rw [pB_mp hS.1, pD_mp hS.1, pF_iff, show (¬ s0 < nI 0 ∧ ¬ nI 1 < s0) ↔ vI s0 2 from mpI_iff (by decide)]
  by_cases c : pB (u (r 0)) b ∧ pD (u (r 0)) d ∧ pF s0
  · have c0 : H_rAsk (u (r 0)) b d s0 = 0 := by unfold H_rAsk; rw [if_pos c]; rfl
    obtain ⟨x, hx, rfl⟩ := (pX_iff (N := 8) hR.1.1.2 (by decide)).mp c.1
    obtain ⟨y, hy, rfl⟩ := (pX_iff (N := 8) hR.1.1.1 (by decide)).mp c.2.1
    obtain ⟨o1, o2, o3, -⟩ := (HOk_of hR).2.2.2.2 y hy
    obtain ⟨-, -, m3, mA⟩ := MOk_of hS (by omega)
    obtain ⟨a1, a2, a3, a4, a5, a6, a7⟩ := mA x y (by omega) (by rw [eD]; exact hy)
    have hs2 : s0 = nI 0 ∨ s0 = nI 1 := c.2.2
    refine st_keep (N' := N + 2) (x := nI (H_dec (u (r 0)) x y)) (g' := H_ask (u (r 0)) x y s0) (m1 := M_askH (M_bring (u 6) 1 0 2 0) x y s0) H (by omega) (by omega) (fun s hs f0 => c_X6_asks_K E u r (u 5) (u (r 0)) x y s0 s hi hi5 hr.1 hrn hR.1.1.1 hR.1.1.2 hT.1 f0 hs c0 (by omega) (by omega) o1 o2 o3) (fun f0 => c_X6_asks_L E u r (u 5) (u (r 0)) x y s0 hi hi5 hr.1 hrn hR.1.1.1 hR.1.1.2 hT.1 f0 c0 (by omega) (by omega) o1 o2 o3) (fun v1 r1 => ?_) (fun k j z => M_askH_k z) (RH_ask hS hx hy (by omega) hs2)
    have c7 := c_X7_asks_O E v1 r1 (u 6) x y s0 (by rw [eB]; exact hR.1.1.2) (by rw [eD]; exact hR.1.1.1) (by rw [eB]; exact hx) (by rw [eD]; exact hy) (cc.mp c).2.2 a1 m3 a2 a3 a4 a5 a6 (by rw [M_askH_k (by decide)]; exact v0)
    rw [dec_eq hS hx hy] at c7
    exact c7
  · have c0 : H_rAsk (u (r 0)) b d s0 = -2 := by unfold H_rAsk; rw [if_neg c]
    have c6 := c_X6_asks_B E u r (u 5) (u (r 0)) b d s0 hi hi5 (Or.inl c0) (by rw [c0]; decide)
    rw [c0] at c6
    exact st_ref H (Or.inl rfl) _ (Or.inr rfl) c6 (fun v1 => c_X7_asks_B E v1 r (u 6) b d s0 (fun z => c (cc.mpr z)))

theorem st_online {E : EN} {N : Nat} {u : U3} {r : R1} (H : IV N u r) (hN : N + 15200 < 2 ^ 30) (d s0 : Int32) : StI E N u r yX6_online wsX6_online (rmT 5 104) yX7_online wsX7_online (rmT 4 92) [.int d, .int s0] := by
  obtain ⟨hr, s, HS⟩ := id H
  have hR := HS.2.2.2.1
  obtain ⟨hi, hi5, hrn⟩ := RP_0 hr
  have b1 := ix_lt hR.1.1.1 (by decide)
  have b2 := ix_lt hR.1.1.2 (by decide)
  have hT := hR.2.2.2.2.2.1
  have eD : M_bring (u 6) 1 0 2 0 1 529 = u (r 0) 1 0 := by rw [sv_1]; exact hR.1.2.2.2.1.2.2.2.1
  have eB : M_bring (u 6) 1 0 2 0 1 530 = u (r 0) 18 0 := by rw [sv_1]; exact hR.1.2.2.2.1.2.2.2.2
  have hS : RH N (u (r 0)) (M_bring (u 6) 1 0 2 0 1) := by rw [sv_1]; exact hR
  have v0 : vI (M_bring (u 6) 1 0 2 0 0 0) 5 := by rw [sv_n (by decide), HS.2.2.1]; exact ⟨s, by have := HS.1; omega, rfl⟩
  have cc : (pD (u (r 0)) d ∧ pF s0) ↔ ((¬ d < nI 0 ∧ ¬ M_bring (u 6) 1 0 2 0 1 529 - nI 1 < d) ∧ (¬ s0 < nI 0 ∧ ¬ nI 1 < s0)) := by
    rw [pD_mp hS.1, pF_iff, show (¬ s0 < nI 0 ∧ ¬ nI 1 < s0) ↔ vI s0 2 from mpI_iff (by decide)]
  have hDm : vI (M_bring (u 6) 1 0 2 0 1 529) 9 := by rw [eD]; exact hR.1.1.1
  rcases rOnline_v (u (r 0)) d s0 with c | c | c
  · have nc := rOnline_2 c
    have c6 := c_X6_online_B E u r (u 5) (u (r 0)) d s0 hi hi5 hR.1.1.1 (Or.inl c) (by rw [c]; decide)
    rw [c] at c6
    exact st_ref H (Or.inl rfl) _ (Or.inr rfl) c6 (fun v1 => c_X7_online_B E v1 r (u 6) d s0 (fun z => nc (cc.mpr z)))
  · obtain ⟨p1, p2⟩ := rOnline_3 c
    have c6 := c_X6_online_B E u r (u 5) (u (r 0)) d s0 hi hi5 hR.1.1.1 (Or.inr (Or.inl c)) (by rw [c]; decide)
    rw [c] at c6
    obtain ⟨y, hy, rfl⟩ := (pX_iff (N := 8) hR.1.1.1 (by decide)).mp p1.1
    rw [ix_nI (by omega)] at p2
    have e7 : M_bring (u 6) 1 0 2 0 1 (60 * y + 7) = u (r 0) 9 y := by rw [sv_1]; exact hR.1.2.1 y 7 hy (by decide)
    exact st_ref H (Or.inr (Or.inl rfl)) _ (Or.inr rfl) c6 (fun v1 => c_X7_online_N E v1 r (u 6) y s0 hDm (by rw [eD]; exact hy) (cc.mp p1).2 (by rw [e7]; exact p2))
  · obtain ⟨p1, p2⟩ := rOnline0 c
    obtain ⟨y, hy, rfl⟩ := (pX_iff (N := 8) hR.1.1.1 (by decide)).mp p1.1
    rw [ix_nI (by omega)] at p2
    have e7 : M_bring (u 6) 1 0 2 0 1 (60 * y + 7) = u (r 0) 9 y := by rw [sv_1]; exact hR.1.2.1 y 7 hy (by decide)
    obtain ⟨n1, n2, n3⟩ := hS.2.2.2.1 y hy
    rcases p1.2 with z | z
    · have z' : s0 = nI 0 := z
      subst z'
      refine st_keep (N' := N) (x := nI 0) (g' := H_offline (u (r 0)) y) (m1 := M_copy (up2 (M_bring (u 6) 1 0 2 0) 1 (60 * y + 7) (nI 0)) y) H (Nat.le_refl _) (by omega) (fun s hs f0 => c_X6_online_KZ E u r (u 5) (u (r 0)) y s hi hi5 hr.1 hrn hR.1.1.1 hR.1.1.2 hT.1 f0 hs c (by omega)) (fun f0 => c_X6_online_LZ E u r (u 5) (u (r 0)) y hi hi5 hr.1 hrn hR.1.1.1 hR.1.1.2 hT.1 f0 c (by omega)) (fun v1 r1 => ?_) (fun k j z => by rw [M_copy_k z, up2_n (fun w => z w.1)]) (RH_offline hS hy)
      exact c_X7_online_Z E v1 r1 (u 6) y hDm (by rw [eD]; exact hy) (by rw [e7]; exact p2) (by rw [M_copy_k (by decide), up2_n (by omega)]; exact v0)
    · subst z
      refine st_keep (N' := N) (x := nI (ix (u (r 0) 12 y))) (g' := H_online (u (r 0)) y) (m1 := M_merge (up2 (M_bring (u 6) 1 0 2 0) 1 (60 * y + 7) (nI 1)) y) H (Nat.le_refl _) (by omega) (fun s hs f0 => c_X6_online_KA E u r (u 5) (u (r 0)) y s hi hi5 hr.1 hrn hR.1.1.1 hR.1.1.2 hT.1 f0 hs c (by omega) n2 (fun i hi => vI_mono (n3 i hi).2.2 (by omega))) (fun f0 => c_X6_online_LA E u r (u 5) (u (r 0)) y hi hi5 hr.1 hrn hR.1.1.1 hR.1.1.2 hT.1 f0 c (by omega) n2 (fun i hi => vI_mono (n3 i hi).2.2 (by omega))) (fun v1 r1 => ?_) (fun k j z => by rw [M_merge_k z, up2_n (fun w => z w.1)]) (RH_online hS hy)
      have c7 := c_X7_online_A E v1 r1 (u 6) y hDm (by rw [eD]; exact hy) (by rw [e7]; exact p2) (by rw [n1]; exact n2) (fun i hi => by rw [n1] at hi; rw [(n3 i hi).2.1]; exact vI_mono (n3 i hi).2.2 (by omega)) (by rw [M_merge_k (by decide), up2_n (by omega)]; exact v0)
      rw [n1] at c7
      exact c7

theorem set_iff {w v : Int32} : ((w = 0 ∧ ¬ v < 0 ∧ v ≤ nI 2) ∨ (w = nI 1 ∧ (v = 0 ∨ v = nI 1))) ↔ ∃ k j, k < 2 ∧ j ≤ 2 - k ∧ w = nI k ∧ v = nI j := by
  constructor
  · rintro (⟨h1, h2, h3⟩ | ⟨h1, h2⟩)
    · obtain ⟨j, hj, rfl⟩ := nI_of h2
      rw [nI_leI hj (by decide)] at h3
      exact ⟨0, j, by omega, by omega, h1, rfl⟩
    · rcases h2 with h2 | h2
      · exact ⟨1, 0, by omega, by omega, h1, h2⟩
      · exact ⟨1, 1, by omega, by omega, h1, h2⟩
  · rintro ⟨k, j, h1, h2, rfl, rfl⟩
    rcases (by omega : k = 0 ∨ k = 1) with rfl | rfl
    · exact Or.inl ⟨rfl, nI_pos (by omega), nI_le (by omega) (by decide)⟩
    · refine Or.inr ⟨rfl, ?_⟩
      rcases (by omega : j = 0 ∨ j = 1) with rfl | rfl
      · exact Or.inl rfl
      · exact Or.inr rfl
theorem set_iffM {w v : Int32} : ((¬ w < nI 0 ∧ ¬ nI 1 < w) ∧ (¬ v < nI 0 ∧ ¬ nI 2 - w < v)) ↔ ∃ k j, k < 2 ∧ j ≤ 2 - k ∧ w = nI k ∧ v = nI j := by
  constructor
  · rintro ⟨h1, h2, h3⟩
    obtain ⟨k, hk, rfl⟩ := (mpI_iff (n := 1) (by decide)).mp h1
    rw [nI_0] at h2
    obtain ⟨j, hj, rfl⟩ := nI_of h2
    rw [pk_sub (by omega), nI_ltI (by omega) hj] at h3
    exact ⟨k, j, by omega, by omega, rfl, rfl⟩
  · rintro ⟨k, j, h1, h2, rfl, rfl⟩
    refine ⟨(mpI_iff (n := 1) (by decide)).mpr ⟨k, by omega, rfl⟩, by rw [nI_0]; exact nI_pos (by omega), ?_⟩
    rw [pk_sub (by omega), nI_ltI (by omega) (by omega)]
    omega

theorem st_sets {E : EN} {N : Nat} {u : U3} {r : R1} (H : IV N u r) (hN : N + 15200 < 2 ^ 30) (d w v : Int32) : StI E N u r yX6_sets wsX6_sets (rmT 5 104) yX7_sets wsX7_sets (rmT 2 46) [.int d, .int w, .int v] := by
  obtain ⟨hr, s, HS⟩ := id H
  have hR := HS.2.2.2.1
  obtain ⟨hi, hi5, hrn⟩ := RP_0 hr
  have b1 := ix_lt hR.1.1.1 (by decide)
  have b2 := ix_lt hR.1.1.2 (by decide)
  have hT := hR.2.2.2.2.2.1
  have eD : M_bring (u 6) 1 0 2 0 1 529 = u (r 0) 1 0 := by rw [sv_1]; exact hR.1.2.2.2.1.2.2.2.1
  have eB : M_bring (u 6) 1 0 2 0 1 530 = u (r 0) 18 0 := by rw [sv_1]; exact hR.1.2.2.2.1.2.2.2.2
  have hS : RH N (u (r 0)) (M_bring (u 6) 1 0 2 0 1) := by rw [sv_1]; exact hR
  have v0 : vI (M_bring (u 6) 1 0 2 0 0 0) 5 := by rw [sv_n (by decide), HS.2.2.1]; exact ⟨s, by have := HS.1; omega, rfl⟩
  have cc : ((¬ d < 0 ∧ ¬ u (r 0) 1 0 ≤ d) ∧ ((w = 0 ∧ ¬ v < 0 ∧ v ≤ nI 2) ∨ (w = nI 1 ∧ (v = 0 ∨ v = nI 1)))) ↔ ((¬ d < nI 0 ∧ ¬ M_bring (u 6) 1 0 2 0 1 529 - nI 1 < d) ∧ (¬ w < nI 0 ∧ ¬ nI 1 < w) ∧ (¬ v < nI 0 ∧ ¬ nI 2 - w < v)) := by
    rw [show (¬ d < 0 ∧ ¬ u (r 0) 1 0 ≤ d) ↔ (¬ d < nI 0 ∧ ¬ M_bring (u 6) 1 0 2 0 1 529 - nI 1 < d) from pD_mp hS.1, set_iff, set_iffM]
  by_cases c : (¬ d < 0 ∧ ¬ u (r 0) 1 0 ≤ d) ∧ ((w = 0 ∧ ¬ v < 0 ∧ v ≤ nI 2) ∨ (w = nI 1 ∧ (v = 0 ∨ v = nI 1)))
  · obtain ⟨y, hy, rfl⟩ := (pX_iff (N := 8) hR.1.1.1 (by decide)).mp c.1
    obtain ⟨k, j, hk, hj, rfl, rfl⟩ := set_iff.mp c.2
    obtain ⟨-, -, v6, v7, -⟩ := hR.2.2.2.2.2.2.2.1 y hy
    rcases (by omega : k = 0 ∨ k = 1) with rfl | rfl
    · have e1 : M_bring (u 6) 1 0 2 0 1 (60 * y + 4 + 0) = u (r 0) 6 y := by rw [sv_1]; exact hR.1.2.1 y 4 hy (by decide)
      obtain ⟨x, hx, e⟩ := v6
      refine st_keep (N' := N) (x := u (r 0) 6 y) (g' := up2 (u (r 0)) 6 y (nI j)) (m1 := up2 (M_bring (u 6) 1 0 2 0) 1 (60 * y + 4 + 0) (nI j)) H (Nat.le_refl _) (by omega) (fun s hs f0 => ?_) (fun f0 => ?_) (fun v1 r1 => ?_) (fun k j z => up2_n (fun w => z w.1)) (RH_set 4 hS hy (Or.inl ⟨rfl, ⟨j, by omega, rfl⟩⟩))
      · have := c_X6_sets_K E u r (u 5) (u (r 0)) y (nI 0) (nI j) s hi hi5 hr.1 hrn hR.1.1.1 hR.1.1.2 hT.1 f0 hs hy c.2
        rw [if_pos (show nI 0 = (0 : Int32) by decide), if_pos (show nI 0 = (0 : Int32) by decide)] at this
        exact this
      · have := c_X6_sets_L E u r (u 5) (u (r 0)) y (nI 0) (nI j) hi hi5 hr.1 hrn hR.1.1.1 hR.1.1.2 hT.1 f0 hy c.2
        rw [if_pos (show nI 0 = (0 : Int32) by decide), if_pos (show nI 0 = (0 : Int32) by decide)] at this
        exact this
      · have c7 := c_X7_sets_O E v1 r1 (u 6) y 0 j (by rw [eD]; exact hR.1.1.1) (by rw [eD]; exact hy) (by decide) (by omega) (by rw [up2_n (by omega)]; exact v0) (by rw [e1, e]; exact nref (by omega))
        rw [e1] at c7
        exact c7
    · have e1 : M_bring (u 6) 1 0 2 0 1 (60 * y + 4 + 1) = u (r 0) 7 y := by rw [sv_1]; exact hR.1.2.1 y 5 hy (by decide)
      obtain ⟨x, hx, e⟩ := v7
      refine st_keep (N' := N) (x := u (r 0) 7 y) (g' := up2 (u (r 0)) 7 y (nI j)) (m1 := up2 (M_bring (u 6) 1 0 2 0) 1 (60 * y + 4 + 1) (nI j)) H (Nat.le_refl _) (by omega) (fun s hs f0 => ?_) (fun f0 => ?_) (fun v1 r1 => ?_) (fun k j z => up2_n (fun w => z w.1)) (RH_set 5 hS hy (Or.inr ⟨rfl, ⟨j, by omega, rfl⟩⟩))
      · have := c_X6_sets_K E u r (u 5) (u (r 0)) y (nI 1) (nI j) s hi hi5 hr.1 hrn hR.1.1.1 hR.1.1.2 hT.1 f0 hs hy c.2
        rw [if_neg (show ¬ nI 1 = (0 : Int32) by decide), if_neg (show ¬ nI 1 = (0 : Int32) by decide)] at this
        exact this
      · have := c_X6_sets_L E u r (u 5) (u (r 0)) y (nI 1) (nI j) hi hi5 hr.1 hrn hR.1.1.1 hR.1.1.2 hT.1 f0 hy c.2
        rw [if_neg (show ¬ nI 1 = (0 : Int32) by decide), if_neg (show ¬ nI 1 = (0 : Int32) by decide)] at this
        exact this
      · have c7 := c_X7_sets_O E v1 r1 (u 6) y 1 j (by rw [eD]; exact hR.1.1.1) (by rw [eD]; exact hy) (by decide) (by omega) (by rw [up2_n (by omega)]; exact v0) (by rw [e1, e]; exact nref (by omega))
        rw [e1] at c7
        exact c7
  · exact st_ref H (Or.inl rfl) _ (Or.inr rfl) (c_X6_sets_B E u r (u 5) (u (r 0)) d w v hi hi5 c) (fun v1 => c_X7_sets_B E v1 r (u 6) d w v (fun z => c (cc.mpr z)))

theorem st_locks {E : EN} {N : Nat} {u : U3} {r : R1} (H : IV N u r) (hN : N + 15200 < 2 ^ 30) (d e : Int32) : StI E N u r yX6_locks wsX6_locks (rmT 5 104) yX7_locks wsX7_locks (rmT 3 67) [.int d, .int e] := by
  obtain ⟨hr, s, HS⟩ := id H
  have hR := HS.2.2.2.1
  obtain ⟨hi, hi5, hrn⟩ := RP_0 hr
  have b1 := ix_lt hR.1.1.1 (by decide)
  have b2 := ix_lt hR.1.1.2 (by decide)
  have hT := hR.2.2.2.2.2.1
  have eD : M_bring (u 6) 1 0 2 0 1 529 = u (r 0) 1 0 := by rw [sv_1]; exact hR.1.2.2.2.1.2.2.2.1
  have eB : M_bring (u 6) 1 0 2 0 1 530 = u (r 0) 18 0 := by rw [sv_1]; exact hR.1.2.2.2.1.2.2.2.2
  have hS : RH N (u (r 0)) (M_bring (u 6) 1 0 2 0 1) := by rw [sv_1]; exact hR
  have v0 : vI (M_bring (u 6) 1 0 2 0 0 0) 5 := by rw [sv_n (by decide), HS.2.2.1]; exact ⟨s, by have := HS.1; omega, rfl⟩
  have pd := pD_mp hS.1 (d := d)
  have pe := pD_mp hS.1 (d := e)
  have cc : ((¬ d < 0 ∧ ¬ u (r 0) 1 0 ≤ d) ∧ ¬ e = d ∧ (e = -1 ∨ (¬ e < 0 ∧ ¬ u (r 0) 1 0 ≤ e))) ↔ ((¬ d < nI 0 ∧ ¬ M_bring (u 6) 1 0 2 0 1 529 - nI 1 < d) ∧ (e = -1 ∨ (¬ e < nI 0 ∧ ¬ M_bring (u 6) 1 0 2 0 1 529 - nI 1 < e)) ∧ ¬ d = e) :=
    ⟨fun z => ⟨pd.mp z.1, z.2.2.elim Or.inl (fun w => Or.inr (pe.mp w)), fun w => z.2.1 w.symm⟩, fun z => ⟨pd.mpr z.1, fun w => z.2.2 w.symm, z.2.1.elim Or.inl (fun w => Or.inr (pe.mpr w))⟩⟩
  have hDm : vI (M_bring (u 6) 1 0 2 0 1 529) 9 := by rw [eD]; exact hR.1.1.1
  by_cases c : (¬ d < 0 ∧ ¬ u (r 0) 1 0 ≤ d) ∧ ¬ e = d ∧ (e = -1 ∨ (¬ e < 0 ∧ ¬ u (r 0) 1 0 ≤ e))
  · obtain ⟨y, hy, rfl⟩ := (pX_iff (N := 8) hR.1.1.1 (by decide)).mp c.1
    have ho := ((HOk_of hR).2.2.2.2 y hy).1
    have e6 : ∀ x, x < ix (u (r 0) 1 0) → M_bring (u 6) 1 0 2 0 1 (60 * x + 6) = u (r 0) 8 x := fun x hx => by rw [sv_1]; exact hR.1.2.1 x 6 hx (by decide)
    have nr : ¬ (¬ (-2 : Int32) < u (r 0) 8 y ∧ ¬ u (r 0) 8 y < (-4 : Int32)) := by
      rcases ho with z | ⟨x, hx, z⟩
      · rw [z]; decide
      · rw [z]; exact nref (by omega)
    by_cases q : e = -1
    · subst q
      have kk : ∀ k j, k ≠ 1 → M_lockN (M_bring (u 6) 1 0 2 0) y k j = M_bring (u 6) 1 0 2 0 k j := fun k j z => by
        unfold M_lockN M_unl
        split
        · rw [up2_n (fun w => z w.1)]
        · rw [up2_n (fun w => z w.1), up2_n (fun w => z w.1)]
      refine st_keep (N' := N) (x := u (r 0) 8 y) (g' := H_unlock (u (r 0)) y) (m1 := M_lockN (M_bring (u 6) 1 0 2 0) y) H (Nat.le_refl _) (by omega) (fun s hs f0 => c_X6_locks_KN E u r (u 5) (u (r 0)) y s hi hi5 hr.1 hrn hR.1.1.1 hR.1.1.2 hT.1 f0 hs hy ho) (fun f0 => c_X6_locks_LN E u r (u 5) (u (r 0)) y hi hi5 hr.1 hrn hR.1.1.1 hR.1.1.2 hT.1 f0 hy ho) (fun v1 r1 => ?_) kk (RH_unlock hS hy)
      have c7 := c_X7_locks_N E v1 r1 (u 6) y hDm (by rw [eD]; exact hy) (by rw [e6 y hy]; exact ho) (by rw [kk 0 0 (by decide)]; exact v0) (by rw [e6 y hy]; exact nr)
      rw [e6 y hy] at c7
      exact c7
    · obtain ⟨x, hx, rfl⟩ := (pX_iff (N := 8) hR.1.1.1 (by decide)).mp (c.2.2.resolve_left q)
      have hne : x ≠ y := fun z => c.2.1 (by rw [z])
      have hoe := ((HOk_of hR).2.2.2.2 x hx).1
      have kk : ∀ k j, k ≠ 1 → M_lockE (M_bring (u 6) 1 0 2 0) y x k j = M_bring (u 6) 1 0 2 0 k j := fun k j z => by
        unfold M_lockE M_unl
        repeat' split
        all_goals rw [up2_n (fun w => z w.1), up2_n (fun w => z w.1)]
        · rw [up2_n (fun w => z w.1)]
        · rw [up2_n (fun w => z w.1)]
        · rw [up2_n (fun w => z w.1), up2_n (fun w => z w.1)]
      refine st_keep (N' := N) (x := u (r 0) 8 y) (g' := H_lock (u (r 0)) y x) (m1 := M_lockE (M_bring (u 6) 1 0 2 0) y x) H (Nat.le_refl _) (by omega) (fun s hs f0 => c_X6_locks_KE E u r (u 5) (u (r 0)) y x s hi hi5 hr.1 hrn hR.1.1.1 hR.1.1.2 hT.1 f0 hs hy hx hne ho hoe) (fun f0 => c_X6_locks_LE E u r (u 5) (u (r 0)) y x hi hi5 hr.1 hrn hR.1.1.1 hR.1.1.2 hT.1 f0 hy hx hne ho hoe) (fun v1 r1 => ?_) kk (RH_lock hS hy hx hne)
      have c7 := c_X7_locks_E E v1 r1 (u 6) y x hDm (by rw [eD]; exact hy) (by rw [eD]; exact hx) (Ne.symm hne) (by rw [e6 y hy]; exact ho) (by rw [e6 x hx]; exact hoe) (by rw [kk 0 0 (by decide)]; exact v0) (by rw [e6 y hy]; exact nr)
      rw [e6 y hy] at c7
      exact c7
  · exact st_ref H (Or.inl rfl) _ (Or.inr rfl) (c_X6_locks_B E u r (u 5) (u (r 0)) d e hi hi5 c) (fun v1 => c_X7_locks_B E v1 r (u 6) d e (fun z => c (cc.mpr z)))
