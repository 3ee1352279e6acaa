/-! a copy holds what it copies -/
def Lv (g : HB) (k j : Nat) : Prop := (2 ≤ k ∧ k ≤ 12 ∧ j < ix (g 1 0)) ∨ (13 ≤ k ∧ k ≤ 14 ∧ j < ix (g 1 0) * 20) ∨ (k = 15 ∧ j < ix (g 1 0)) ∨ (16 ≤ k ∧ k ≤ 17 ∧ j < ix (g 1 0) * 8) ∨ (19 ≤ k ∧ k ≤ 24 ∧ j < ix (g 18 0)) ∨ (k = 26 ∧ j < ix (g 25 0)) ∨ (k = 27 ∧ j < 64) ∨ (k = 28 ∧ j < 6) ∨ (k = 0 ∧ j < 4) ∨ (k = 1 ∧ j = 0) ∨ (k = 18 ∧ j = 0) ∨ (k = 25 ∧ j = 0)
theorem H_copy_v {x g : HB} (h1 : vI (g 1 0) 9) (h2 : vI (g 18 0) 9) (h3 : vI (g 25 0) 65) {k j : Nat} (h : Lv g k j) : H_copy x g k j = g k j := by
  have n1 := nI_ix h1 (by decide)
  have n2 := nI_ix h2 (by decide)
  have n3 := nI_ix h3 (by decide)
  have hk : k < 29 := by unfold Lv at h; omega
  unfold Lv at h
  unfold H_copy H_cpT H_cpB H_cpD
  rcases (by omega : k = 0 ∨ k = 1 ∨ k = 2 ∨ k = 3 ∨ k = 4 ∨ k = 5 ∨ k = 6 ∨ k = 7 ∨ k = 8 ∨ k = 9 ∨ k = 10 ∨ k = 11 ∨ k = 12 ∨ k = 13 ∨ k = 14 ∨ k = 15 ∨ k = 16 ∨ k = 17 ∨ k = 18 ∨ k = 19 ∨ k = 20 ∨ k = 21 ∨ k = 22 ∨ k = 23 ∨ k = 24 ∨ k = 25 ∨ k = 26 ∨ k = 27 ∨ k = 28) with rfl | rfl | rfl | rfl | rfl | rfl | rfl | rfl | rfl | rfl | rfl | rfl | rfl | rfl | rfl | rfl | rfl | rfl | rfl | rfl | rfl | rfl | rfl | rfl | rfl | rfl | rfl | rfl | rfl
  · rcases (by omega : j = 0 ∨ j = 1 ∨ j = 2 ∨ j = 3) with rfl | rfl | rfl | rfl <;> simp [up2, cp2]
  · obtain rfl : j = 0 := by omega
    simp [up2, cp2]; exact n1
  · have hj : j < ix (g 1 0) := by omega
    simp [up2, cp2, hj]
  · have hj : j < ix (g 1 0) := by omega
    simp [up2, cp2, hj]
  · have hj : j < ix (g 1 0) := by omega
    simp [up2, cp2, hj]
  · have hj : j < ix (g 1 0) := by omega
    simp [up2, cp2, hj]
  · have hj : j < ix (g 1 0) := by omega
    simp [up2, cp2, hj]
  · have hj : j < ix (g 1 0) := by omega
    simp [up2, cp2, hj]
  · have hj : j < ix (g 1 0) := by omega
    simp [up2, cp2, hj]
  · have hj : j < ix (g 1 0) := by omega
    simp [up2, cp2, hj]
  · have hj : j < ix (g 1 0) := by omega
    simp [up2, cp2, hj]
  · have hj : j < ix (g 1 0) := by omega
    simp [up2, cp2, hj]
  · have hj : j < ix (g 1 0) := by omega
    simp [up2, cp2, hj]
  · have hj : j < ix (g 1 0) * 20 := by omega
    simp [up2, cp2, hj]
  · have hj : j < ix (g 1 0) * 20 := by omega
    simp [up2, cp2, hj]
  · have hj : j < ix (g 1 0) := by omega
    simp [up2, cp2, hj]
  · have hj : j < ix (g 1 0) * 8 := by omega
    simp [up2, cp2, hj]
  · have hj : j < ix (g 1 0) * 8 := by omega
    simp [up2, cp2, hj]
  · obtain rfl : j = 0 := by omega
    simp [up2, cp2]; exact n2
  · have hj : j < ix (g 18 0) := by omega
    simp [up2, cp2, hj]
  · have hj : j < ix (g 18 0) := by omega
    simp [up2, cp2, hj]
  · have hj : j < ix (g 18 0) := by omega
    simp [up2, cp2, hj]
  · have hj : j < ix (g 18 0) := by omega
    simp [up2, cp2, hj]
  · have hj : j < ix (g 18 0) := by omega
    simp [up2, cp2, hj]
  · have hj : j < ix (g 18 0) := by omega
    simp [up2, cp2, hj]
  · obtain rfl : j = 0 := by omega
    simp [up2, cp2]; exact n3
  · have hj : j < ix (g 25 0) := by omega
    simp [up2, cp2, hj]
  · have hj : j < 64 := by omega
    simp [up2, cp2, hj]
  · have hj : j < 6 := by omega
    simp [up2, cp2, hj]
theorem RH_copy {N : Nat} {g : HB} {q : Nat → Int32} (x : HB) (H : RH N g q) : RH N (H_copy x g) q := by
  obtain ⟨h1, h2, h3, h4, h5, h6, h7⟩ := H
  have b1 := ix_lt h1.1.1 (by decide)
  have b2 := ix_lt h1.1.2 (by decide)
  have cv : ∀ k j, Lv g k j → H_copy x g k j = g k j := fun k j z => H_copy_v h1.1.1 h1.1.2 h6.1 z
  have e1 := cv 1 0 (by unfold Lv; omega)
  have e2 := cv 18 0 (by unfold Lv; omega)
  refine ⟨RS0_fr h1 e1 e2 (fun _ _ _ _ => cv _ _ (by unfold Lv; omega)) (fun _ _ _ _ _ => cv _ _ (by unfold Lv; omega)) (fun _ _ => cv _ _ (by unfold Lv; omega)) (fun _ _ => cv _ _ (by unfold Lv; omega)) (fun _ _ _ _ _ => rfl), RWt_fr h2 e1 (fun _ _ => cv _ _ (by unfold Lv; omega)) (fun _ _ => rfl), RAl_fr h3 e2 (cv _ _ (by unfold Lv; omega)) (fun _ _ => cv _ _ (by unfold Lv; omega)) rfl (fun _ _ => rfl), RNt_fr h4 e1 (by rw [e2]; exact Nat.le_refl _) (fun _ _ => cv _ _ (by unfold Lv; omega)) (fun _ _ _ _ => ⟨cv _ _ (by unfold Lv; omega), cv _ _ (by unfold Lv; omega)⟩) (fun _ _ _ _ _ => rfl), RCp_fr h5 e1 (fun d hd => ⟨fun z => by rw [cv 9 d (by unfold Lv; omega)] at z; exact z, cv _ _ (by unfold Lv; omega)⟩) (fun _ _ _ _ => ⟨cv _ _ (by unfold Lv; omega), cv _ _ (by unfold Lv; omega)⟩) (fun _ _ _ _ _ => rfl), RTw_fr h6 (cv _ _ (by unfold Lv; omega)) (fun _ _ => cv _ _ (by unfold Lv; omega)) (fun _ _ => cv _ _ (by unfold Lv; omega)) (fun _ _ _ => rfl), ?_⟩
  obtain ⟨v1, v2, v3, v4⟩ := h7
  refine ⟨by rw [e1]; exact SymL_fr v1 (fun _ _ => cv _ _ (by unfold Lv; omega)), RVd_fr v2 e1 (by rw [e2]; exact Nat.le_refl _) (fun _ _ _ _ => cv _ _ (by unfold Lv; omega)), RVb_fr v3 e2 (fun _ _ _ _ => cv _ _ (by unfold Lv; omega)), ?_⟩
  unfold RVt; rw [cv 0 0 (by unfold Lv; omega)]; exact v4
