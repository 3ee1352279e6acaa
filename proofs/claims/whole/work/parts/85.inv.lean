/-! WHAT HOLDS BETWEEN CALLS -/
def RP (r : R1) : Prop := (∀ j, j < 5 → r j < 5) ∧ ∀ i j, i < 5 → j < 5 → r i = r j → i = j
def IVs (N s : Nat) (u : U3) (r : R1) : Prop := s ≤ 4 ∧ u 5 0 0 = nI s ∧ u 6 0 0 = nI s ∧ RH N (u (r 0)) (u 6 1) ∧ (∀ j, j < s → RH N (u (r (j + 1))) (fun k => u 6 3 (733 * j + k))) ∧ (u 5 0 1 = u 6 4 0 ∧ u 5 0 2 = u 6 4 1 ∧ u 5 0 3 = u 6 4 2) ∧ ∃ L, L ≤ 150 ∧ u 5 2 0 = nI L ∧ u 6 0 1 = nI L ∧ u 5 4 = u 6 5
def IV (N : Nat) (u : U3) (r : R1) : Prop := RP r ∧ ∃ s, IVs N s u r
theorem bring_v {k1 a k2 b : Nat} (hk : k1 ≠ k2) : ∀ (n : Nat) (h : HB) (k : Nat), k < n → iter (bringB k1 a k2 b) n h k2 (b + k) = h k1 (a + k)
  | 0, h, k, q => absurd q (by omega)
  | n + 1, h, k, q => by
    have ih : k ≠ n → iter (bringB k1 a k2 b) n h k2 (b + k) = h k1 (a + k) := fun z => bring_v hk n h k (by omega)
    have kp : iter (bringB k1 a k2 b) n h k1 (a + n) = h k1 (a + n) := iter_keep (fun x : HB => x k1 (a + n)) (fun n x => up2_n (fun z => hk z.1)) n h
    show bringB k1 a k2 b n (iter (bringB k1 a k2 b) n h) k2 (b + k) = _
    generalize iter (bringB k1 a k2 b) n h = y at *
    unfold bringB
    by_cases c : k = n
    · subst c; rw [up2_s]; exact kp
    · rw [up2_n (by omega)]; exact ih c
theorem bring_o {k1 a k2 b : Nat} : ∀ (n : Nat) (h : HB) (j : Nat), (j < b ∨ b + n ≤ j) → iter (bringB k1 a k2 b) n h k2 j = h k2 j
  | 0, h, j, q => rfl
  | n + 1, h, j, q => by
    have ih := bring_o (k1 := k1) (a := a) (k2 := k2) (b := b) n h j (by omega)
    show bringB k1 a k2 b n (iter (bringB k1 a k2 b) n h) k2 j = _
    generalize iter (bringB k1 a k2 b) n h = y at *
    unfold bringB
    rw [up2_n (by omega)]; exact ih
theorem M_bring_v {h : HB} {k1 a k2 b k : Nat} (hk : k1 ≠ k2) (q : k < 733) : M_bring h k1 a k2 b k2 (b + k) = h k1 (a + k) := bring_v hk 733 h k q
theorem M_bring_o {h : HB} {k1 a k2 b j : Nat} (q : j < b ∨ b + 733 ≤ j) : M_bring h k1 a k2 b k2 j = h k2 j := bring_o 733 h j q
theorem sh_v : ∀ (n : Nat) (h : HB) (k : Nat), iter M_shB n h 3 k = if k < n then h 3 (k + 733) else h 3 k
  | 0, h, k => by simp [iter]
  | n + 1, h, k => by
    have ih := sh_v n h k
    have ih2 := sh_v n h (n + 733)
    rw [if_neg (by omega)] at ih2
    show M_shB n (iter M_shB n h) 3 k = _
    generalize iter M_shB n h = y at *
    unfold M_shB
    by_cases c : k = n
    · subst c; rw [up2_s, if_pos (by omega)]; exact ih2
    · rw [up2_n (by omega), ih]
      by_cases c2 : k < n
      · rw [if_pos c2, if_pos (by omega)]
      · rw [if_neg c2, if_neg (by omega)]
theorem sv_1 (m : HB) : M_bring m 1 0 2 0 1 = m 1 := by
  funext j
  exact M_bring_n (by decide)
theorem sv_n {m : HB} {k j : Nat} (hk : k ≠ 2) : M_bring m 1 0 2 0 k j = m k j := M_bring_n hk
theorem sv_2 {m : HB} {p : Nat} (hp : p < 733) : M_bring m 1 0 2 0 2 p = m 1 p := by
  have := M_bring_v (h := m) (k1 := 1) (a := 0) (k2 := 2) (b := 0) (k := p) (by decide) hp
  rw [Nat.zero_add] at this
  exact this
theorem ub6 {u : U3} {m : HB} : ub u 6 m 6 = m := ub_at u 6 m
theorem ub5 {u : U3} {m : HB} : ub u 5 m 5 = m := ub_at u 5 m
theorem ub65 {u : U3} {m : HB} : ub u 6 m 5 = u 5 := ub_ne (by decide)
theorem ub56 {u : U3} {m : HB} : ub u 5 m 6 = u 6 := ub_ne (by decide)
/-- refused: only how often -/
theorem ref_v {v : Int32} (hv : v = -2 ∨ v = -3 ∨ v = -4) (h m : HB) (e : h 0 1 = m 4 0 ∧ h 0 2 = m 4 1 ∧ h 0 3 = m 4 2) : (H_ref h v 0 1 = M_ref m v 4 0 ∧ H_ref h v 0 2 = M_ref m v 4 1 ∧ H_ref h v 0 3 = M_ref m v 4 2) ∧ (∀ k j, ¬ (k = 0 ∧ (j = 1 ∨ j = 2 ∨ j = 3)) → H_ref h v k j = h k j) ∧ ∀ k j, k ≠ 4 → M_ref m v k j = m k j := by
  obtain ⟨e1, e2, e3⟩ := e
  have i0 : ix ((-2 : Int32) - (-2)) = 0 := by decide
  have i1 : ix ((-2 : Int32) - (-3)) = 1 := by decide
  have i2 : ix ((-2 : Int32) - (-4)) = 2 := by decide
  refine ⟨?_, fun k j z => ?_, fun k j z => ?_⟩
  · unfold H_ref M_ref
    rcases hv with rfl | rfl | rfl
    · rw [if_pos rfl, i0, up2_s, up2_s, up2_n (by decide), up2_n (by decide), up2_n (by decide), up2_n (by decide), e1]
      exact ⟨rfl, e2, e3⟩
    · rw [if_neg (by decide), if_pos rfl, i1, up2_s, up2_s, up2_n (by decide), up2_n (by decide), up2_n (by decide), up2_n (by decide), e2]
      exact ⟨e1, rfl, e3⟩
    · rw [if_neg (by decide), if_neg (by decide), i2, up2_s, up2_s, up2_n (by decide), up2_n (by decide), up2_n (by decide), up2_n (by decide), e3]
      exact ⟨e1, e2, rfl⟩
  · unfold H_ref
    repeat' split
    all_goals exact up2_n (by omega)
  · unfold M_ref
    exact up2_n (fun w => z w.1)
theorem IV_ref {N : Nat} {u : U3} {r : R1} {v : Int32} {m0 : HB} (H : IV N u r) (hv : v = -2 ∨ v = -3 ∨ v = -4) (hm : m0 = u 6 ∨ m0 = M_bring (u 6) 1 0 2 0) : IV N (ub (ub u 5 (H_ref (u 5) v)) 6 (M_ref m0 v)) r := by
  obtain ⟨hr, s, h1, h2, h3, h4, h5, h6, L, l1, l2, l3, l4⟩ := H
  have mk : ∀ k j, k ≠ 2 → m0 k j = u 6 k j := fun k j z => by
    rcases hm with rfl | rfl
    · rfl
    · exact sv_n z
  obtain ⟨a1, a2, a3⟩ := ref_v hv (u 5) m0 (by rw [mk 4 0 (by decide), mk 4 1 (by decide), mk 4 2 (by decide)]; exact h6)
  have r0 := hr.1
  have x5 : ub (ub u 5 (H_ref (u 5) v)) 6 (M_ref m0 v) 5 = H_ref (u 5) v := by rw [ub65, ub5]
  have xb : ∀ i, i < 5 → ub (ub u 5 (H_ref (u 5) v)) 6 (M_ref m0 v) i = u i := fun i hi => by rw [ub_ne (by omega), ub_ne (by omega)]
  refine ⟨hr, s, h1, ?_, ?_, ?_, fun j hj => ?_, ?_, L, l1, ?_, ?_, ?_⟩
  · rw [x5, a2 _ _ (by omega)]; exact h2
  · rw [ub6, a3 _ _ (by omega), mk _ _ (by omega)]; exact h3
  · rw [xb _ (r0 0 (by omega)), ub6]
    exact RH_row h4 (fun p _ => by rw [a3 _ _ (by omega), mk _ _ (by omega)])
  · rw [xb _ (r0 _ (by omega)), ub6]
    exact RH_row (h5 j hj) (fun p _ => by show M_ref m0 v 3 _ = _; rw [a3 _ _ (by omega), mk _ _ (by omega)])
  · rw [x5, ub6]; exact a1
  · rw [x5, a2 _ _ (by omega)]; exact l2
  · rw [ub6, a3 _ _ (by omega), mk _ _ (by omega)]; exact l3
  · rw [x5, ub6]
    funext j
    rw [a2 _ _ (by omega), a3 _ _ (by omega), mk _ _ (by omega), l4]
/-- a question that changes nothing that is looked at -/
theorem IV_same {N : Nat} {u : U3} {r : R1} {h' m' : HB} (H : IV N u r) (hh : ∀ k j, (k = 0 ∨ k = 4 ∨ (k = 2 ∧ j = 0)) → h' k j = u 5 k j) (hm : ∀ k j, ((k = 0 ∧ j < 2) ∨ k = 1 ∨ k = 3 ∨ k = 4 ∨ k = 5) → m' k j = u 6 k j) : IV N (ub (ub u 5 h') 6 m') r := by
  obtain ⟨hr, s, h1, h2, h3, h4, h5, h6, L, l1, l2, l3, l4⟩ := H
  have r0 := hr.1
  have x5 : ub (ub u 5 h') 6 m' 5 = h' := by rw [ub65, ub5]
  have xb : ∀ i, i < 5 → ub (ub u 5 h') 6 m' i = u i := fun i hi => by rw [ub_ne (by omega), ub_ne (by omega)]
  refine ⟨hr, s, h1, ?_, ?_, ?_, fun j hj => ?_, ?_, L, l1, ?_, ?_, ?_⟩
  · rw [x5, hh _ _ (by omega)]; exact h2
  · rw [ub6, hm _ _ (by omega)]; exact h3
  · rw [xb _ (r0 0 (by omega)), ub6]
    exact RH_row h4 (fun p _ => by rw [hm _ _ (by omega)])
  · rw [xb _ (r0 _ (by omega)), ub6]
    exact RH_row (h5 j hj) (fun p _ => by show m' 3 _ = _; rw [hm _ _ (by omega)])
  · rw [x5, ub6, hh _ _ (by omega), hh _ _ (by omega), hh _ _ (by omega), hm _ _ (by omega), hm _ _ (by omega), hm _ _ (by omega)]; exact h6
  · rw [x5, hh _ _ (by omega)]; exact l2
  · rw [ub6, hm _ _ (by omega)]; exact l3
  · rw [x5, ub6]
    funext j
    rw [hh _ _ (by omega), hm _ _ (by omega), l4]
theorem IV_mono {N M : Nat} {u : U3} {r : R1} (H : IV N u r) (h : N ≤ M) : IV M u r := by
  obtain ⟨hr, s, h1, h2, h3, h4, h5, h6⟩ := H
  exact ⟨hr, s, h1, h2, h3, RH_mono h4 h, fun j hj => RH_mono (h5 j hj) h, h6⟩
/-- a state is kept: four at most -/
abbrev mOk (u : U3) (m1 : HB) : Prop := (∀ p, p < 733 → m1 2 p = u 6 1 p) ∧ ∀ k j, ((k = 0 ∧ j < 2) ∨ k = 3 ∨ k = 4 ∨ k = 5) → m1 k j = u 6 k j
abbrev hOk (u : U3) (h' : HB) (s : Nat) : Prop := h' 0 0 = nI s ∧ ∀ k j, ((k = 0 ∧ j ≠ 0) ∨ k = 4 ∨ (k = 2 ∧ j = 0)) → h' k j = u 5 k j
theorem kR_0 (r : R1) : kR r 0 = r 0 := rfl
theorem kR_v (r : R1) : ∀ j, j < 3 → kR r (j + 1) = r (j + 2) := by
  intro j hj
  rcases (by omega : j = 0 ∨ j = 1 ∨ j = 2) with rfl | rfl | rfl <;> rfl
theorem kR_4 (r : R1) : kR r 4 = r 1 := rfl
theorem kR_RP {r : R1} (h : RP r) : RP (kR r) := by
  have e : ∀ j, j < 5 → kR r j = r (if j = 0 then 0 else if j = 4 then 1 else j + 1) := by
    intro j hj
    rcases (by omega : j = 0 ∨ j = 1 ∨ j = 2 ∨ j = 3 ∨ j = 4) with rfl | rfl | rfl | rfl | rfl <;> rfl
  have lt : ∀ j, j < 5 → (if j = 0 then 0 else if j = 4 then 1 else j + 1) < 5 := by decide
  refine ⟨fun j hj => by rw [e j hj]; exact h.1 _ (lt j hj), fun i j hi hj q => ?_⟩
  rw [e i hi, e j hj] at q
  have := h.2 _ _ (lt i hi) (lt j hj) q
  have inj : ∀ i, i < 5 → ∀ j, j < 5 → (if i = 0 then 0 else if i = 4 then 1 else i + 1) = (if j = 0 then 0 else if j = 4 then 1 else j + 1) → i = j := by decide
  exact inj i hi j hj this
theorem IV_K {N N' s : Nat} {u : U3} {r : R1} {g' h' m1 : HB} (hr : RP r) (H : IVs N s u r) (hs : s < 4) (hN : N ≤ N') (hg : RH N' g' (m1 1)) (hm : mOk u m1) (hh : hOk u h' (s + 1)) : IV N' (ub (ub (ub (kA u (r (s + 1)) (u (r 0))) (r 0) g') 5 h') 6 (M_push m1)) r := by
  obtain ⟨h1, h2, h3, h4, h5, h6, L, l1, l2, l3, l4⟩ := H
  have r0 := hr.1 0 (by omega)
  have rs := hr.1 (s + 1) (by omega)
  have rne : r 0 ≠ r (s + 1) := fun z => absurd (hr.2 0 (s + 1) (by omega) (by omega) z) (by omega)
  have es : ix (m1 0 0) = s := by rw [hm.2 _ _ (by omega), h3, ix_nI (by omega)]
  generalize hM : M_push m1 = M
  have eM : M = up2 (M_bring m1 2 0 3 (733 * s)) 0 0 (nI (s + 1)) := by
    rw [← hM]
    unfold M_push
    rw [es, if_neg (by omega)]
  have Mk : ∀ k j, k ≠ 3 → ¬ (k = 0 ∧ j = 0) → M k j = m1 k j := fun k j a b => by rw [eM, up2_n b, M_bring_n a]
  have x5 : ub (ub (ub (kA u (r (s + 1)) (u (r 0))) (r 0) g') 5 h') 6 M 5 = h' := by rw [ub65, ub5]
  have x0 : ub (ub (ub (kA u (r (s + 1)) (u (r 0))) (r 0) g') 5 h') 6 M (r 0) = g' := by rw [ub_ne (by omega), ub_ne (by omega), ub_at]
  have xs : ub (ub (ub (kA u (r (s + 1)) (u (r 0))) (r 0) g') 5 h') 6 M (r (s + 1)) = H_copy (u (r (s + 1))) (u (r 0)) := by
    rw [ub_ne (by omega), ub_ne (by omega), ub_ne (Ne.symm rne)]
    unfold kA
    rw [ub_at]
  have xo : ∀ j, j < s → ub (ub (ub (kA u (r (s + 1)) (u (r 0))) (r 0) g') 5 h') 6 M (r (j + 1)) = u (r (j + 1)) := fun j hj => by
    have q1 := hr.1 (j + 1) (by omega)
    have q2 : r (j + 1) ≠ r 0 := fun z => absurd (hr.2 _ _ (by omega) (by omega) z) (by omega)
    have q3 : r (j + 1) ≠ r (s + 1) := fun z => absurd (hr.2 _ _ (by omega) (by omega) z) (by omega)
    rw [ub_ne (by omega), ub_ne (by omega), ub_ne q2]
    unfold kA
    rw [ub_ne q3]
  refine ⟨hr, s + 1, by omega, ?_, ?_, ?_, fun j hj => ?_, ?_, L, l1, ?_, ?_, ?_⟩
  · rw [x5]; exact hh.1
  · rw [ub6, eM, up2_s]
  · rw [x0, ub6]
    exact RH_row hg (fun p _ => Mk _ _ (by omega) (by omega))
  · rw [ub6]
    by_cases c : j = s
    · subst c
      rw [xs]
      refine RH_mono (RH_row (RH_copy _ h4) (fun p hp => ?_)) hN
      show M 3 (733 * j + p) = _
      rw [eM, up2_n (by omega), M_bring_v (by decide) hp, Nat.zero_add, hm.1 p hp]
    · rw [xo j (by omega)]
      refine RH_mono (RH_row (h5 j (by omega)) (fun p hp => ?_)) hN
      show M 3 (733 * j + p) = u 6 3 (733 * j + p)
      rw [eM, up2_n (by omega), M_bring_o (by omega), hm.2 _ _ (by omega)]
  · rw [x5, ub6, hh.2 _ _ (by omega), hh.2 _ _ (by omega), hh.2 _ _ (by omega), Mk _ _ (by omega) (by omega), Mk _ _ (by omega) (by omega), Mk _ _ (by omega) (by omega), hm.2 _ _ (by omega), hm.2 _ _ (by omega), hm.2 _ _ (by omega)]; exact h6
  · rw [x5, hh.2 _ _ (by omega)]; exact l2
  · rw [ub6, Mk _ _ (by omega) (by omega), hm.2 _ _ (by omega)]; exact l3
  · rw [x5, ub6]
    funext j
    rw [hh.2 _ _ (by omega), Mk _ _ (by omega) (by omega), hm.2 _ _ (by omega), l4]
theorem IV_L {N N' : Nat} {u : U3} {r : R1} {g' h' m1 : HB} (hr : RP r) (H : IVs N 4 u r) (hN : N ≤ N') (hg : RH N' g' (m1 1)) (hm : mOk u m1) (hh : hOk u h' 4) : IV N' (ub (ub (ub (kA u (r 1) (u (r 0))) (r 0) g') 5 h') 6 (M_push m1)) (kR r) := by
  obtain ⟨h1, h2, h3, h4, h5, h6, L, l1, l2, l3, l4⟩ := H
  have r0 := hr.1 0 (by omega)
  have rs := hr.1 1 (by omega)
  have rne : r 0 ≠ r 1 := fun z => absurd (hr.2 0 1 (by omega) (by omega) z) (by omega)
  have es : ix (m1 0 0) = 4 := by rw [hm.2 _ _ (by omega), h3, ix_nI (by omega)]
  generalize hM : M_push m1 = M
  have eM : M = up2 (M_bring (up2 (M_sh m1) 0 0 (nI (4 - 1))) 2 0 3 (733 * (4 - 1))) 0 0 (nI (4 - 1 + 1)) := by
    rw [← hM]
    unfold M_push
    rw [es, if_pos rfl]
  have Mk : ∀ k j, k ≠ 3 → ¬ (k = 0 ∧ j = 0) → M k j = m1 k j := fun k j a b => by
    rw [eM, up2_n b, M_bring_n a, up2_n b]
    exact M_shB_k m1 2199 k j a
  have x5 : ub (ub (ub (kA u (r 1) (u (r 0))) (r 0) g') 5 h') 6 M 5 = h' := by rw [ub65, ub5]
  have x0 : ub (ub (ub (kA u (r 1) (u (r 0))) (r 0) g') 5 h') 6 M (r 0) = g' := by rw [ub_ne (by omega), ub_ne (by omega), ub_at]
  have xs : ub (ub (ub (kA u (r 1) (u (r 0))) (r 0) g') 5 h') 6 M (r 1) = H_copy (u (r 1)) (u (r 0)) := by
    rw [ub_ne (by omega), ub_ne (by omega), ub_ne (Ne.symm rne)]
    unfold kA
    rw [ub_at]
  have xo : ∀ j, j < 3 → ub (ub (ub (kA u (r 1) (u (r 0))) (r 0) g') 5 h') 6 M (r (j + 2)) = u (r (j + 2)) := fun j hj => by
    have q1 := hr.1 (j + 2) (by omega)
    have q2 : r (j + 2) ≠ r 0 := fun z => absurd (hr.2 _ _ (by omega) (by omega) z) (by omega)
    have q3 : r (j + 2) ≠ r 1 := fun z => absurd (hr.2 _ _ (by omega) (by omega) z) (by omega)
    rw [ub_ne (by omega), ub_ne (by omega), ub_ne q2]
    unfold kA
    rw [ub_ne q3]
  refine ⟨kR_RP hr, 4, by omega, ?_, ?_, ?_, fun j hj => ?_, ?_, L, l1, ?_, ?_, ?_⟩
  · rw [x5]; exact hh.1
  · rw [ub6, eM, up2_s]
  · rw [kR_0, x0, ub6]
    exact RH_row hg (fun p _ => Mk _ _ (by omega) (by omega))
  · rw [ub6]
    by_cases c : j = 3
    · subst c
      rw [kR_4, xs]
      refine RH_mono (RH_row (RH_copy _ h4) (fun p hp => ?_)) hN
      show M 3 (733 * 3 + p) = _
      rw [eM, up2_n (by omega), show (4 : Nat) - 1 = 3 from rfl, M_bring_v (by decide) hp, Nat.zero_add, up2_n (by omega)]
      rw [show M_sh m1 2 p = m1 2 p from M_shB_k m1 2199 2 p (by decide), hm.1 p hp]
    · rw [kR_v r j (by omega), xo j (by omega)]
      refine RH_mono (RH_row (h5 (j + 1) (by omega)) (fun p hp => ?_)) hN
      show M 3 (733 * j + p) = u 6 3 (733 * (j + 1) + p)
      rw [eM, up2_n (by omega), M_bring_o (by omega), up2_n (by omega)]
      rw [show M_sh m1 3 (733 * j + p) = m1 3 (733 * j + p + 733) from by
        show iter M_shB 2199 m1 3 (733 * j + p) = _
        rw [sh_v, if_pos (by omega)]]
      rw [hm.2 _ _ (by omega), show 733 * j + p + 733 = 733 * (j + 1) + p from by omega]
  · rw [x5, ub6, hh.2 _ _ (by omega), hh.2 _ _ (by omega), hh.2 _ _ (by omega), Mk _ _ (by omega) (by omega), Mk _ _ (by omega) (by omega), Mk _ _ (by omega) (by omega), hm.2 _ _ (by omega), hm.2 _ _ (by omega), hm.2 _ _ (by omega)]; exact h6
  · rw [x5, hh.2 _ _ (by omega)]; exact l2
  · rw [ub6, Mk _ _ (by omega) (by omega), hm.2 _ _ (by omega)]; exact l3
  · rw [x5, ub6]
    funext j
    rw [hh.2 _ _ (by omega), Mk _ _ (by omega) (by omega), hm.2 _ _ (by omega), l4]
theorem IV_back {N s : Nat} {u : U3} {r : R1} (hr : RP r) (H : IVs N s u r) (hs : 0 < s) : IV N (ub (ub u 5 (up2 (u 5) 0 0 (nI (s - 1)))) 6 (M_bring (up2 (u 6) 0 0 (nI (s - 1))) 3 (733 * (s - 1)) 1 0)) (upr (upr r (s - 1 + 1) (r 0)) 0 (r (s - 1 + 1))) := by
  obtain ⟨h1, h2, h3, h4, h5, h6, L, l1, l2, l3, l4⟩ := H
  have e0 : s - 1 + 1 = s := by omega
  rw [e0]
  have q0 : upr (upr r s (r 0)) 0 (r s) 0 = r s := rfl
  have qv : ∀ j, j < 5 → upr (upr r s (r 0)) 0 (r s) j = r (if j = 0 then s else if j = s then 0 else j) := by
    intro j hj
    unfold upr
    by_cases c0 : j = 0
    · rw [if_pos c0, if_pos c0]
    · rw [if_neg c0, if_neg c0]
      by_cases c1 : j = s
      · rw [if_pos c1, if_pos c1]
      · rw [if_neg c1, if_neg c1]
  have lt : ∀ j, j < 5 → (if j = 0 then s else if j = s then 0 else j) < 5 := fun j hj => by
    repeat' split
    all_goals omega
  have hr' : RP (upr (upr r s (r 0)) 0 (r s)) := by
    refine ⟨fun j hj => by rw [qv j hj]; exact hr.1 _ (lt j hj), fun i j hi hj q => ?_⟩
    rw [qv i hi, qv j hj] at q
    have := hr.2 _ _ (lt i hi) (lt j hj) q
    by_cases a1 : i = 0
    · by_cases b1 : j = 0
      · omega
      · rw [if_pos a1, if_neg b1] at this
        by_cases b2 : j = s
        · rw [if_pos b2] at this; omega
        · rw [if_neg b2] at this; omega
    · rw [if_neg a1] at this
      by_cases b1 : j = 0
      · rw [if_pos b1] at this
        by_cases a2 : i = s
        · rw [if_pos a2] at this; omega
        · rw [if_neg a2] at this; omega
      · rw [if_neg b1] at this
        by_cases a2 : i = s
        · rw [if_pos a2] at this
          by_cases b2 : j = s
          · omega
          · rw [if_neg b2] at this; omega
        · rw [if_neg a2] at this
          by_cases b2 : j = s
          · rw [if_pos b2] at this; omega
          · rw [if_neg b2] at this; exact this
  have Mk : ∀ k j, k ≠ 1 → ¬ (k = 0 ∧ j = 0) → M_bring (up2 (u 6) 0 0 (nI (s - 1))) 3 (733 * (s - 1)) 1 0 k j = u 6 k j := fun k j a b => by rw [M_bring_n a, up2_n b]
  have x5 : ub (ub u 5 (up2 (u 5) 0 0 (nI (s - 1)))) 6 (M_bring (up2 (u 6) 0 0 (nI (s - 1))) 3 (733 * (s - 1)) 1 0) 5 = up2 (u 5) 0 0 (nI (s - 1)) := by rw [ub65, ub5]
  have xb : ∀ i, i < 5 → ub (ub u 5 (up2 (u 5) 0 0 (nI (s - 1)))) 6 (M_bring (up2 (u 6) 0 0 (nI (s - 1))) 3 (733 * (s - 1)) 1 0) i = u i := fun i hi => by rw [ub_ne (by omega), ub_ne (by omega)]
  refine ⟨hr', s - 1, by omega, ?_, ?_, ?_, fun j hj => ?_, ?_, L, l1, ?_, ?_, ?_⟩
  · rw [x5, up2_s]
  · rw [ub6, M_bring_n (by omega), up2_s]
  · rw [q0, xb _ (hr.1 s (by omega)), ub6]
    have hj := h5 (s - 1) (by omega)
    rw [e0] at hj
    refine RH_row hj (fun p hp => ?_)
    have := M_bring_v (h := up2 (u 6) 0 0 (nI (s - 1))) (k1 := 3) (a := 733 * (s - 1)) (k2 := 1) (b := 0) (k := p) (by decide) hp
    rw [Nat.zero_add] at this
    rw [this, up2_n (by omega)]
  · rw [qv (j + 1) (by omega), if_neg (by omega), if_neg (by omega), xb _ (hr.1 _ (by omega)), ub6]
    refine RH_row (h5 j (by omega)) (fun p hp => ?_)
    show M_bring _ _ _ _ _ 3 _ = _
    rw [Mk _ _ (by omega) (by omega)]
  · rw [x5, ub6, up2_n (by omega), up2_n (by omega), up2_n (by omega), Mk _ _ (by omega) (by omega), Mk _ _ (by omega) (by omega), Mk _ _ (by omega) (by omega)]; exact h6
  · rw [x5, up2_n (by omega)]; exact l2
  · rw [ub6, Mk _ _ (by omega) (by omega)]; exact l3
  · rw [x5, ub6]
    funext j
    rw [up2_n (by omega), Mk _ _ (by omega) (by omega), l4]
