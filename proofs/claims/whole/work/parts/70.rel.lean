/-! THE RELATION between a House's block g and a row q of the reference, in pieces. N bounds TIME and the counts of twos. -/
/-- doors but who waits, badges but alarms, scalars, outcomes -/
def RS0 (g : HB) (q : Nat → Int32) : Prop := (vI (g 1 0) 9 ∧ vI (g 18 0) 9) ∧ (∀ d k, d < ix (g 1 0) → k < 9 → q (60 * d + k) = g (2 + k) d) ∧ (∀ b k, b < ix (g 18 0) → k < 6 → k ≠ 4 → q (480 + 6 * b + k) = g (19 + k) b) ∧ (q 528 = g 0 0 ∧ q 531 = g 0 1 ∧ q 532 = g 0 2 ∧ q 529 = g 1 0 ∧ q 530 = g 18 0) ∧ (∀ k, k < 6 → q (534 + k) = g 28 k)
def RWt (g : HB) (q : Nat → Int32) : Prop := ∀ d, d < ix (g 1 0) → q (60 * d + 9) = g 11 d
def RAl (g : HB) (q : Nat → Int32) : Prop := q 533 = g 0 3 ∧ ∀ b, b < ix (g 18 0) → q (480 + 6 * b + 4) = g 23 b
def RNt (g : HB) (q : Nat → Int32) : Prop := ∀ d, d < ix (g 1 0) → q (60 * d + 19) = g 12 d ∧ vI (g 12 d) 21 ∧ ∀ i, i < ix (g 12 d) → q (60 * d + (20 + 2 * i)) = g 13 (d * 20 + i) ∧ q (60 * d + (20 + 2 * i + 1)) = g 14 (d * 20 + i) ∧ vI (g 14 (d * 20 + i)) (ix (g 18 0))
def RCp (g : HB) (q : Nat → Int32) : Prop := ∀ d, d < ix (g 1 0) → g 9 d = nI 0 → vI (g 15 d) 9 ∧ ∀ b, b < 8 → (((q (60 * d + 10) >>> (nI b &&& 31)) &&& nI 1 = nI 1) ↔ (g 15 d ≤ nI b ∨ g 16 (d * 8 + b) = nI 1)) ∧ (b < ix (g 15 d) → q (60 * d + (11 + b)) = g 17 (d * 8 + b))
def RTw (N : Nat) (g : HB) (q : Nat → Int32) : Prop := vI (g 25 0) 65 ∧ q 540 = g 25 0 ∧ (∀ i, i < ix (g 25 0) → vI (g 26 i) 64 ∧ q (541 + 3 * i) = nI (ix (g 26 i) / 8) ∧ q (541 + 3 * i + 1) = nI (ix (g 26 i) % 8) ∧ q (541 + 3 * i + 2) = g 27 (ix (g 26 i)) ∧ ¬ g 27 (ix (g 26 i)) = 0) ∧ (∀ i j, i < ix (g 25 0) → j < ix (g 25 0) → g 26 i = g 26 j → i = j) ∧ (∀ t, t < 64 → vI (g 27 t) (N + 1)) ∧ (∀ t, t < 64 → ¬ g 27 t = 0 → ∃ i, i < ix (g 25 0) ∧ g 26 i = nI t)
def SymL (f : Nat → Int32) (n : Nat) : Prop := ∀ x, x < n → f x = -1 ∨ ∃ y, y < n ∧ f x = nI y ∧ f y = nI x
def RVd (g : HB) : Prop := ∀ d, d < ix (g 1 0) → vI (g 2 d) 6 ∧ vI (g 3 d) 6 ∧ vI (g 6 d) 3 ∧ vI (g 7 d) 2 ∧ vI (g 9 d) 2 ∧ (g 11 d = -1 ∨ vI (g 11 d) (ix (g 18 0))) ∧ (g 3 d = 0 → g 11 d = -1)
def RVb (g : HB) : Prop := ∀ b, b < ix (g 18 0) → vI (g 19 b) 4 ∧ vI (g 20 b) 2 ∧ vI (g 21 b) 6
def RVt (N : Nat) (g : HB) : Prop := vI (g 0 0) (N + 1)
def RV (N : Nat) (g : HB) : Prop := SymL (g 8) (ix (g 1 0)) ∧ RVd g ∧ RVb g ∧ RVt N g
def RH (N : Nat) (g : HB) (q : Nat → Int32) : Prop := RS0 g q ∧ RWt g q ∧ RAl g q ∧ RNt g q ∧ RCp g q ∧ RTw N g q ∧ RV N g
theorem vI_mono {x : Int32} {n m : Nat} (h : vI x n) (hm : n ≤ m) : vI x m := by
  obtain ⟨j, hj, e⟩ := h
  exact ⟨j, by omega, e⟩
theorem RTw_mono {N M : Nat} {g : HB} {q : Nat → Int32} (h : RTw N g q) (hm : N ≤ M) : RTw M g q := ⟨h.1, h.2.1, h.2.2.1, h.2.2.2.1, fun t ht => vI_mono (h.2.2.2.2.1 t ht) (by omega), h.2.2.2.2.2⟩
theorem RV_mono {N M : Nat} {g : HB} (h : RV N g) (hm : N ≤ M) : RV M g := ⟨h.1, h.2.1, h.2.2.1, vI_mono h.2.2.2 (by omega)⟩
theorem RH_mono {N M : Nat} {g : HB} {q : Nat → Int32} (h : RH N g q) (hm : N ≤ M) : RH M g q := ⟨h.1, h.2.1, h.2.2.1, h.2.2.2.1, h.2.2.2.2.1, RTw_mono h.2.2.2.2.2.1 hm, RV_mono h.2.2.2.2.2.2 hm⟩
/-! frames -/
theorem RS0_fr {g g' : HB} {q q' : Nat → Int32} (H : RS0 g q) (h1 : g' 1 0 = g 1 0) (h2 : g' 18 0 = g 18 0) (hd : ∀ d k, d < ix (g 1 0) → k < 9 → g' (2 + k) d = g (2 + k) d) (hb : ∀ b k, b < ix (g 18 0) → k < 6 → k ≠ 4 → g' (19 + k) b = g (19 + k) b) (h0 : ∀ j, j < 3 → g' 0 j = g 0 j) (ho : ∀ k, k < 6 → g' 28 k = g 28 k)
    (hq : ∀ p, p < 540 → p ≠ 533 → (p < 480 → p % 60 < 9) → (480 ≤ p → p < 528 → p % 6 ≠ 4) → q' p = q p) : RS0 g' q' := by
  obtain ⟨⟨a1, a2⟩, a3, a4, ⟨a5, a6, a7, a8, a9⟩, a10⟩ := H
  have b1 := ix_lt a1 (by decide)
  have b2 := ix_lt a2 (by decide)
  refine ⟨⟨by rw [h1]; exact a1, by rw [h2]; exact a2⟩, fun d k x y => ?_, fun b k x y z => ?_, ⟨?_, ?_, ?_, ?_, ?_⟩, fun k x => ?_⟩
  · rw [h1] at x
    rw [hd d k x y, hq _ (by omega) (by omega) (by omega) (by omega)]; exact a3 d k x y
  · rw [h2] at x
    rw [hb b k x y z, hq _ (by omega) (by omega) (by omega) (by omega)]; exact a4 b k x y z
  · rw [h0 0 (by decide), hq _ (by omega) (by omega) (by omega) (by omega)]; exact a5
  · rw [h0 1 (by decide), hq _ (by omega) (by omega) (by omega) (by omega)]; exact a6
  · rw [h0 2 (by decide), hq _ (by omega) (by omega) (by omega) (by omega)]; exact a7
  · rw [h1, hq _ (by omega) (by omega) (by omega) (by omega)]; exact a8
  · rw [h2, hq _ (by omega) (by omega) (by omega) (by omega)]; exact a9
  · rw [ho k x, hq _ (by omega) (by omega) (by omega) (by omega)]; exact a10 k x
theorem RWt_fr {g g' : HB} {q q' : Nat → Int32} (H : RWt g q) (h1 : g' 1 0 = g 1 0) (hd : ∀ d, d < ix (g 1 0) → g' 11 d = g 11 d) (hq : ∀ d, d < ix (g 1 0) → q' (60 * d + 9) = q (60 * d + 9)) : RWt g' q' := by
  intro d x
  rw [h1] at x
  rw [hd d x, hq d x]; exact H d x
theorem RAl_fr {g g' : HB} {q q' : Nat → Int32} (H : RAl g q) (h1 : g' 18 0 = g 18 0) (h0 : g' 0 3 = g 0 3) (hb : ∀ b, b < ix (g 18 0) → g' 23 b = g 23 b) (hq0 : q' 533 = q 533) (hq : ∀ b, b < ix (g 18 0) → q' (480 + 6 * b + 4) = q (480 + 6 * b + 4)) : RAl g' q' := by
  refine ⟨by rw [hq0, h0]; exact H.1, fun b x => ?_⟩
  rw [h1] at x
  rw [hb b x, hq b x]; exact H.2 b x
theorem RNt_fr {g g' : HB} {q q' : Nat → Int32} (H : RNt g q) (h1 : g' 1 0 = g 1 0) (h2 : ix (g 18 0) ≤ ix (g' 18 0)) (hd : ∀ d, d < ix (g 1 0) → g' 12 d = g 12 d) (hn : ∀ d i, d < ix (g 1 0) → i < 20 → g' 13 (d * 20 + i) = g 13 (d * 20 + i) ∧ g' 14 (d * 20 + i) = g 14 (d * 20 + i)) (hq : ∀ d p, d < ix (g 1 0) → 19 ≤ p → p < 60 → q' (60 * d + p) = q (60 * d + p)) : RNt g' q' := by
  intro d x
  rw [h1] at x
  obtain ⟨a1, a2, a3⟩ := H d x
  have a2' := ix_lt a2 (by decide)
  refine ⟨by rw [hq d 19 x (by omega) (by omega), hd d x]; exact a1, by rw [hd d x]; exact a2, fun i y => ?_⟩
  rw [hd d x] at y
  obtain ⟨c1, c2, c3⟩ := a3 i y
  obtain ⟨e1, e2⟩ := hn d i x (by omega)
  exact ⟨by rw [hq d _ x (by omega) (by omega), e1]; exact c1, by rw [hq d _ x (by omega) (by omega), e2]; exact c2, by rw [e2]; exact vI_mono c3 h2⟩
theorem RCp_fr {g g' : HB} {q q' : Nat → Int32} (H : RCp g q) (h1 : g' 1 0 = g 1 0) (hd : ∀ d, d < ix (g 1 0) → (g' 9 d = nI 0 → g 9 d = nI 0) ∧ g' 15 d = g 15 d) (hn : ∀ d i, d < ix (g 1 0) → i < 8 → g' 16 (d * 8 + i) = g 16 (d * 8 + i) ∧ g' 17 (d * 8 + i) = g 17 (d * 8 + i)) (hq : ∀ d p, d < ix (g 1 0) → 10 ≤ p → p < 19 → q' (60 * d + p) = q (60 * d + p)) : RCp g' q' := by
  intro d x y
  rw [h1] at x
  obtain ⟨e1, e2⟩ := hd d x
  obtain ⟨a1, a2⟩ := H d x (e1 y)
  refine ⟨by rw [e2]; exact a1, fun b z => ?_⟩
  obtain ⟨c1, c2⟩ := a2 b z
  obtain ⟨f1, f2⟩ := hn d b x z
  refine ⟨by rw [hq d 10 x (by omega) (by omega), e2, f1]; exact c1, fun w => ?_⟩
  rw [e2] at w
  rw [hq d _ x (by omega) (by omega), f2]; exact c2 w
theorem RTw_fr {N : Nat} {g g' : HB} {q q' : Nat → Int32} (H : RTw N g q) (h1 : g' 25 0 = g 25 0) (h26 : ∀ i, i < ix (g 25 0) → g' 26 i = g 26 i) (h27 : ∀ i, i < 64 → g' 27 i = g 27 i) (hq : ∀ p, 540 ≤ p → p < 733 → q' p = q p) : RTw N g' q' := by
  obtain ⟨a1, a2, a3, a4, a5, a6⟩ := H
  have b1 := ix_lt a1 (by decide)
  refine ⟨by rw [h1]; exact a1, by rw [h1, hq _ (by omega) (by omega)]; exact a2, fun i x => ?_, fun i j x y e => ?_, fun t x => by rw [h27 t x]; exact a5 t x, fun t x y => ?_⟩
  · rw [h1] at x
    obtain ⟨c1, c2, c3, c4, c5⟩ := a3 i x
    have c1' := ix_lt c1 (by decide)
    rw [h26 i x, h27 _ c1']
    exact ⟨c1, by rw [hq _ (by omega) (by omega)]; exact c2, by rw [hq _ (by omega) (by omega)]; exact c3, by rw [hq _ (by omega) (by omega)]; exact c4, c5⟩
  · rw [h1] at x y
    rw [h26 i x, h26 j y] at e
    exact a4 i j x y e
  · rw [h27 t x] at y
    obtain ⟨i, z, e⟩ := a6 t x y
    exact ⟨i, by rw [h1]; exact z, by rw [h26 i z]; exact e⟩
theorem RH_row {N : Nat} {g : HB} {q q' : Nat → Int32} (H : RH N g q) (hq : ∀ p, p < 733 → q' p = q p) : RH N g q' := by
  obtain ⟨h1, h2, h3, h4, h5, h6, h7⟩ := H
  have b1 := ix_lt h1.1.1 (by decide)
  have b2 := ix_lt h1.1.2 (by decide)
  exact ⟨RS0_fr h1 rfl rfl (fun _ _ _ _ => rfl) (fun _ _ _ _ _ => rfl) (fun _ _ => rfl) (fun _ _ => rfl) (fun p x _ _ _ => hq p (by omega)), RWt_fr h2 rfl (fun _ _ => rfl) (fun d x => hq _ (by omega)), RAl_fr h3 rfl rfl (fun _ _ => rfl) (hq _ (by omega)) (fun b x => hq _ (by omega)), RNt_fr h4 rfl (Nat.le_refl _) (fun _ _ => rfl) (fun _ _ _ _ => ⟨rfl, rfl⟩) (fun d p x _ _ => hq _ (by omega)), RCp_fr h5 rfl (fun _ _ => ⟨id, rfl⟩) (fun _ _ _ _ => ⟨rfl, rfl⟩) (fun d p x _ _ => hq _ (by omega)), RTw_fr h6 rfl (fun _ _ => rfl) (fun _ _ => rfl) (fun p _ x => hq p x), h7⟩
/-! one cell in both -/
theorem RS0_d {g m : HB} {d0 : Nat} (k0 : Nat) {v : Int32} (H : RS0 g (m 1)) (hd : d0 < 8) (hk : k0 < 9) : RS0 (up2 g (2 + k0) d0 v) (up2 m 1 (60 * d0 + k0) v 1) := by
  obtain ⟨⟨a1, a2⟩, a3, a4, ⟨a5, a6, a7, a8, a9⟩, a10⟩ := H
  have b1 := ix_lt a1 (by decide)
  have b2 := ix_lt a2 (by decide)
  have e1 : up2 g (2 + k0) d0 v 1 0 = g 1 0 := up2_n (by omega)
  have e2 : up2 g (2 + k0) d0 v 18 0 = g 18 0 := up2_n (by omega)
  refine ⟨⟨by rw [e1]; exact a1, by rw [e2]; exact a2⟩, fun d k x y => ?_, fun b k x y z => ?_, ⟨?_, ?_, ?_, ?_, ?_⟩, fun k x => ?_⟩
  · rw [e1] at x
    by_cases c : d = d0 ∧ k = k0
    · obtain ⟨rfl, rfl⟩ := c; rw [up2_s, up2_s]
    · rw [up2_n (by omega), up2_n (by omega)]; exact a3 d k x y
  · rw [e2] at x
    rw [up2_n (by omega), up2_n (by omega)]; exact a4 b k x y z
  · rw [up2_n (by omega), up2_n (by omega)]; exact a5
  · rw [up2_n (by omega), up2_n (by omega)]; exact a6
  · rw [up2_n (by omega), up2_n (by omega)]; exact a7
  · rw [up2_n (by omega), e1]; exact a8
  · rw [up2_n (by omega), e2]; exact a9
  · rw [up2_n (by omega), up2_n (by omega)]; exact a10 k x
theorem RS0_b {g m : HB} {b0 : Nat} (k0 : Nat) {v : Int32} (H : RS0 g (m 1)) (hb : b0 < 8) (hk : k0 < 6) : RS0 (up2 g (19 + k0) b0 v) (up2 m 1 (480 + 6 * b0 + k0) v 1) := by
  obtain ⟨⟨a1, a2⟩, a3, a4, ⟨a5, a6, a7, a8, a9⟩, a10⟩ := H
  have b1 := ix_lt a1 (by decide)
  have b2 := ix_lt a2 (by decide)
  have e1 : up2 g (19 + k0) b0 v 1 0 = g 1 0 := up2_n (by omega)
  have e2 : up2 g (19 + k0) b0 v 18 0 = g 18 0 := up2_n (by omega)
  refine ⟨⟨by rw [e1]; exact a1, by rw [e2]; exact a2⟩, fun d k x y => ?_, fun b k x y z => ?_, ⟨?_, ?_, ?_, ?_, ?_⟩, fun k x => ?_⟩
  · rw [e1] at x
    rw [up2_n (by omega), up2_n (by omega)]; exact a3 d k x y
  · rw [e2] at x
    by_cases c : b = b0 ∧ k = k0
    · obtain ⟨rfl, rfl⟩ := c; rw [up2_s, up2_s]
    · rw [up2_n (by omega), up2_n (by omega)]; exact a4 b k x y z
  · rw [up2_n (by omega), up2_n (by omega)]; exact a5
  · rw [up2_n (by omega), up2_n (by omega)]; exact a6
  · rw [up2_n (by omega), up2_n (by omega)]; exact a7
  · rw [up2_n (by omega), e1]; exact a8
  · rw [up2_n (by omega), e2]; exact a9
  · rw [up2_n (by omega), up2_n (by omega)]; exact a10 k x
theorem RS0_o {g m : HB} (k0 : Nat) {v : Int32} (H : RS0 g (m 1)) (hk : k0 < 6) : RS0 (up2 g 28 k0 v) (up2 m 1 (534 + k0) v 1) := by
  obtain ⟨⟨a1, a2⟩, a3, a4, ⟨a5, a6, a7, a8, a9⟩, a10⟩ := H
  have b1 := ix_lt a1 (by decide)
  have b2 := ix_lt a2 (by decide)
  have e1 : up2 g 28 k0 v 1 0 = g 1 0 := up2_n (by omega)
  have e2 : up2 g 28 k0 v 18 0 = g 18 0 := up2_n (by omega)
  refine ⟨⟨by rw [e1]; exact a1, by rw [e2]; exact a2⟩, fun d k x y => ?_, fun b k x y z => ?_, ⟨?_, ?_, ?_, ?_, ?_⟩, fun k x => ?_⟩
  · rw [e1] at x
    rw [up2_n (by omega), up2_n (by omega)]; exact a3 d k x y
  · rw [e2] at x
    rw [up2_n (by omega), up2_n (by omega)]; exact a4 b k x y z
  · rw [up2_n (by omega), up2_n (by omega)]; exact a5
  · rw [up2_n (by omega), up2_n (by omega)]; exact a6
  · rw [up2_n (by omega), up2_n (by omega)]; exact a7
  · rw [up2_n (by omega), e1]; exact a8
  · rw [up2_n (by omega), e2]; exact a9
  · by_cases c : k = k0
    · subst c; rw [up2_s, up2_s]
    · rw [up2_n (by omega), up2_n (by omega)]; exact a10 k x
/-- TIME, FLAWS, LATE -/
theorem RS0_s {g m : HB} (k0 p0 : Nat) {v : Int32} (H : RS0 g (m 1)) (hk : k0 = 0 ∧ p0 = 528 ∨ k0 = 1 ∧ p0 = 531 ∨ k0 = 2 ∧ p0 = 532) : RS0 (up2 g 0 k0 v) (up2 m 1 p0 v 1) := by
  obtain ⟨⟨a1, a2⟩, a3, a4, ⟨a5, a6, a7, a8, a9⟩, a10⟩ := H
  have b1 := ix_lt a1 (by decide)
  have b2 := ix_lt a2 (by decide)
  have e1 : up2 g 0 k0 v 1 0 = g 1 0 := up2_n (by omega)
  have e2 : up2 g 0 k0 v 18 0 = g 18 0 := up2_n (by omega)
  refine ⟨⟨by rw [e1]; exact a1, by rw [e2]; exact a2⟩, fun d k x y => ?_, fun b k x y z => ?_, ⟨?_, ?_, ?_, ?_, ?_⟩, fun k x => ?_⟩
  · rw [e1] at x
    rw [up2_n (by omega), up2_n (by omega)]; exact a3 d k x y
  · rw [e2] at x
    rw [up2_n (by omega), up2_n (by omega)]; exact a4 b k x y z
  · by_cases c : k0 = 0
    · obtain ⟨rfl, rfl⟩ : k0 = 0 ∧ p0 = 528 := by omega
      rw [up2_s, up2_s]
    · rw [up2_n (by omega), up2_n (by omega)]; exact a5
  · by_cases c : k0 = 1
    · obtain ⟨rfl, rfl⟩ : k0 = 1 ∧ p0 = 531 := by omega
      rw [up2_s, up2_s]
    · rw [up2_n (by omega), up2_n (by omega)]; exact a6
  · by_cases c : k0 = 2
    · obtain ⟨rfl, rfl⟩ : k0 = 2 ∧ p0 = 532 := by omega
      rw [up2_s, up2_s]
    · rw [up2_n (by omega), up2_n (by omega)]; exact a7
  · rw [up2_n (by omega), e1]; exact a8
  · rw [up2_n (by omega), e2]; exact a9
  · rw [up2_n (by omega), up2_n (by omega)]; exact a10 k x
/-- what RS0 doesn't look at -/
theorem RS0_m {g m : HB} {p0 : Nat} {v : Int32} (H : RS0 g (m 1)) (hp : p0 = 533 ∨ 540 ≤ p0 ∨ (p0 < 480 ∧ 9 ≤ p0 % 60) ∨ (480 ≤ p0 ∧ p0 < 528 ∧ p0 % 6 = 4)) : RS0 g (up2 m 1 p0 v 1) :=
  RS0_fr H rfl rfl (fun _ _ _ _ => rfl) (fun _ _ _ _ _ => rfl) (fun _ _ => rfl) (fun _ _ => rfl) (fun p x y z w => up2_n (by omega))
theorem RS0_g {g : HB} {q : Nat → Int32} {k0 j0 : Nat} {v : Int32} (H : RS0 g q) (hk : (11 ≤ k0 ∧ k0 < 18) ∨ k0 = 23 ∨ (25 ≤ k0 ∧ k0 < 28) ∨ (k0 = 0 ∧ j0 = 3)) : RS0 (up2 g k0 j0 v) q :=
  RS0_fr H (up2_n (by omega)) (up2_n (by omega)) (fun _ _ _ _ => up2_n (by omega)) (fun _ _ _ _ _ => up2_n (by omega)) (fun _ _ => up2_n (by omega)) (fun _ _ => up2_n (by omega)) (fun _ _ _ _ _ => rfl)
