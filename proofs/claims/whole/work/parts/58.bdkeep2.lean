def kA (u : U3) (i : Nat) (g : HB) : U3 := ub u i (H_copy (u i) g)
theorem ub_comm9 (u : U3) {i j : Nat} (h k : HB) (hi : i ≠ j) : ub (ub u j h) i k = ub (ub u i k) j h := by
  funext a
  by_cases e : a = i
  · subst e; rw [ub_at, ub_ne hi, ub_at]
  · by_cases e5 : a = j
    · subst e5; rw [ub_ne e, ub_at, ub_at]
    · rw [ub_ne e, ub_ne e5, ub_ne e5, ub_ne e]
theorem kU_A (u : U3) (r : R1) (s : Nat) (g : HB) (hne : r 0 ≠ r (s + 1)) : kU (ub u (r 0) g) r s = ub (kA u (r (s + 1)) g) (r 0) g := by
  unfold kU kA
  rw [ub_at, ub_ne (Ne.symm hne), ub_comm9 _ _ _ (Ne.symm hne)]
theorem c_X6_keepState_K (E : EN) (u : U3) (r : R1) (h g : HB) (s : Nat) (hr : ∀ j, j < 5 → r j < 5) (hrn : ∀ j, j < 4 → r 0 ≠ r (j + 1)) (hD : vI (g 1 0) 9) (hB : vI (g 18 0) 9) (hm : vI (g 25 0) 65) (f0 : h 0 0 = nI s) (hs : s < 4) : CT E yX6_keepState wsX6_keepState (rmT 4 84) [.ref (eA E 5 0)] (ub (ub u (r 0) g) 5 h) r none (ub (ub (kA u (r (s + 1)) g) (r 0) g) 5 (up2 h 0 0 (nI (s + 1)))) r := by
  have h1 := c_X6_keepState_O E (ub u (r 0) g) r h s hr hrn (by rw [ub_at]; exact hD) (by rw [ub_at]; exact hB) (by rw [ub_at]; exact hm) f0 hs
  rw [kU_A _ _ _ _ (hrn s hs)] at h1
  exact h1
theorem c_X6_keepState_L (E : EN) (u : U3) (r : R1) (h g : HB) (hr : ∀ j, j < 5 → r j < 5) (hrn : ∀ j, j < 4 → r 0 ≠ r (j + 1)) (hD : vI (g 1 0) 9) (hB : vI (g 18 0) 9) (hm : vI (g 25 0) 65) (f0 : h 0 0 = nI 4) : CT E yX6_keepState wsX6_keepState (rmT 4 84) [.ref (eA E 5 0)] (ub (ub u (r 0) g) 5 h) r none (ub (ub (kA u (r 1) g) (r 0) g) 5 (up2 (up2 h 0 0 (nI 3)) 0 0 (nI 4))) (kR r) := by
  have h1 := c_X6_keepState_F E (ub u (r 0) g) r h hr hrn (by rw [ub_at]; exact hD) (by rw [ub_at]; exact hB) (by rw [ub_at]; exact hm) f0
  have e1 : kU (ub u (r 0) g) (kR r) 3 = ub (kA u (r 1) g) (r 0) g := kU_A u (kR r) 3 g (hrn 0 (by decide))
  rw [e1] at h1
  exact h1
