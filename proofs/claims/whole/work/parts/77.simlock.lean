/-! LOCKS -/
theorem RH_r8 {N : Nat} {g g' m : HB} {q' : Nat → Int32} (H : RH N g (m 1)) (hg : ∀ k j, k ≠ 8 → g' k j = g k j) (hq : ∀ p, (480 ≤ p ∨ p % 60 ≠ 6) → q' p = m 1 p) (h8 : ∀ x, x < ix (g 1 0) → q' (60 * x + 6) = g' 8 x) (hS : SymL (g' 8) (ix (g 1 0))) : RH N g' q' := by
  obtain ⟨h1, h2, h3, h4, h5, h6, h7⟩ := H
  have b1 := ix_lt h1.1.1 (by decide)
  have b2 := ix_lt h1.1.2 (by decide)
  have e1 := hg 1 0 (by decide)
  have e2 := hg 18 0 (by decide)
  refine ⟨?_, RWt_fr h2 e1 (fun _ _ => hg _ _ (by omega)) (fun _ _ => hq _ (by omega)), RAl_fr h3 e2 (hg _ _ (by omega)) (fun _ _ => hg _ _ (by omega)) (hq _ (by omega)) (fun _ _ => hq _ (by omega)), RNt_fr h4 e1 (by rw [e2]; exact Nat.le_refl _) (fun _ _ => hg _ _ (by omega)) (fun _ _ _ _ => ⟨hg _ _ (by omega), hg _ _ (by omega)⟩) (fun _ _ _ _ _ => hq _ (by omega)), RCp_fr h5 e1 (fun _ _ => ⟨fun z => by rw [hg _ _ (by omega)] at z; exact z, hg _ _ (by omega)⟩) (fun _ _ _ _ => ⟨hg _ _ (by omega), hg _ _ (by omega)⟩) (fun _ _ _ _ _ => hq _ (by omega)), RTw_fr h6 (hg _ _ (by omega)) (fun _ _ => hg _ _ (by omega)) (fun _ _ => hg _ _ (by omega)) (fun _ _ _ => hq _ (by omega)), ?_⟩
  · obtain ⟨⟨a1, a2⟩, a3, a4, ⟨a5, a6, a7, a8, a9⟩, a10⟩ := h1
    refine ⟨⟨by rw [e1]; exact a1, by rw [e2]; exact a2⟩, fun d k x y => ?_, fun b k x y z => ?_, ⟨?_, ?_, ?_, ?_, ?_⟩, fun k x => ?_⟩
    · rw [e1] at x
      by_cases c : k = 6
      · subst c; exact h8 d x
      · rw [hg _ _ (by omega), hq _ (by omega)]; exact a3 d k x y
    · rw [e2] at x
      rw [hg _ _ (by omega), hq _ (by omega)]; exact a4 b k x y z
    · rw [hg _ _ (by omega), hq _ (by omega)]; exact a5
    · rw [hg _ _ (by omega), hq _ (by omega)]; exact a6
    · rw [hg _ _ (by omega), hq _ (by omega)]; exact a7
    · rw [e1, hq _ (by omega)]; exact a8
    · rw [e2, hq _ (by omega)]; exact a9
    · rw [hg _ _ (by omega), hq _ (by omega)]; exact a10 k x
  · obtain ⟨v1, v2, v3, v4⟩ := h7
    refine ⟨by rw [e1]; exact hS, RVd_fr v2 e1 (by rw [e2]; exact Nat.le_refl _) (fun _ _ _ _ => hg _ _ (by omega)), RVb_fr v3 e2 (fun _ _ _ _ => hg _ _ (by omega)), ?_⟩
    unfold RVt; rw [hg _ _ (by omega)]; exact v4
def un (f : Nat → Int32) (d : Nat) : Nat → Int32 := fun x => if x = d then -1 else if ¬ f d = -1 ∧ x = ix (f d) then -1 else f x
def lk (f : Nat → Int32) (d e : Nat) : Nat → Int32 := fun x => if x = e then nI d else if x = d then nI e else un (un f d) e x
theorem nI_n1 {y : Nat} (h : y < 2 ^ 30) : ¬ nI y = -1 := vI_ne (vI_nI (j := y) (n := y + 1) (by omega)) (by omega)
theorem un_at (f : Nat → Int32) (d : Nat) : un f d d = -1 := if_pos rfl
theorem un_1 {f : Nat → Int32} {d x : Nat} (h : f x = -1) : un f d x = -1 := by
  unfold un
  repeat' split
  all_goals first | rfl | exact h
theorem un_sym {f : Nat → Int32} {n d : Nat} (hn : n ≤ 8) (H : SymL f n) (hd : d < n) : SymL (un f d) n := by
  intro x hx
  by_cases c : un f d x = -1
  · exact Or.inl c
  · refine Or.inr ?_
    unfold un at c
    by_cases c1 : x = d
    · rw [if_pos c1] at c; exact absurd rfl c
    · by_cases c2 : ¬ f d = -1 ∧ x = ix (f d)
      · rw [if_neg c1, if_pos c2] at c; exact absurd rfl c
      · rw [if_neg c1, if_neg c2] at c
        obtain ⟨y, h1, h2, h3⟩ := (H x hx).resolve_left c
        have ex : un f d x = f x := by unfold un; rw [if_neg c1, if_neg c2]
        refine ⟨y, h1, by rw [ex]; exact h2, ?_⟩
        have y1 : y ≠ d := by
          intro z
          subst z
          exact c2 ⟨by rw [h3]; exact nI_n1 (by omega), by rw [h3, ix_nI (by omega)]⟩
        have y2 : ¬ (¬ f d = -1 ∧ y = ix (f d)) := by
          rintro ⟨z1, z2⟩
          obtain ⟨w, w1, w2, w3⟩ := (H d hd).resolve_left z1
          rw [w2, ix_nI (by omega)] at z2
          subst z2
          rw [h3] at w3
          exact c1 ((nI_eq (by omega) (by omega)).mp w3)
        unfold un
        rw [if_neg y1, if_neg y2]; exact h3
theorem lk_sym {f : Nat → Int32} {n d e : Nat} (hn : n ≤ 8) (H : SymL f n) (hd : d < n) (he : e < n) (hne : e ≠ d) : SymL (lk f d e) n := by
  have S := un_sym hn (un_sym hn H hd) he
  have fd : un (un f d) e d = -1 := un_1 (un_at f d)
  have fe : un (un f d) e e = -1 := un_at _ _
  have le : lk f d e e = nI d := if_pos rfl
  have ld : lk f d e d = nI e := by unfold lk; rw [if_neg (Ne.symm hne), if_pos rfl]
  intro x hx
  by_cases c1 : x = e
  · subst c1; exact Or.inr ⟨d, hd, le, ld⟩
  · by_cases c2 : x = d
    · subst c2; exact Or.inr ⟨e, he, ld, le⟩
    · have lx : lk f d e x = un (un f d) e x := by unfold lk; rw [if_neg c1, if_neg c2]
      rcases S x hx with z | ⟨y, h1, h2, h3⟩
      · exact Or.inl (by rw [lx]; exact z)
      · refine Or.inr ⟨y, h1, by rw [lx]; exact h2, ?_⟩
        have y1 : y ≠ e := by
          intro z; subst z; rw [fe] at h3; exact nI_n1 (by omega) h3.symm
        have y2 : y ≠ d := by
          intro z; subst z; rw [fd] at h3; exact nI_n1 (by omega) h3.symm
        unfold lk
        rw [if_neg y1, if_neg y2]; exact h3
theorem H_unlock_8 (g : HB) (d x : Nat) : H_unlock g d 8 x = un (g 8) d x := by
  unfold H_unlock un
  by_cases c : g 8 d = -1
  · rw [if_pos c]
    by_cases c1 : x = d
    · subst c1; rw [up2_s, if_pos rfl]
    · rw [up2_n (by omega), if_neg c1, if_neg (fun z => z.1 c)]
  · rw [if_neg c]
    by_cases c1 : x = d
    · subst c1; rw [up2_s, if_pos rfl]
    · rw [up2_n (by omega), if_neg c1]
      by_cases c2 : x = ix (g 8 d)
      · subst c2; rw [up2_s, if_pos ⟨c, rfl⟩]
      · rw [up2_n (by omega), if_neg (fun z => c2 z.2)]
theorem H_unlock_k {g : HB} {d k j : Nat} (hk : k ≠ 8) : H_unlock g d k j = g k j := by
  unfold H_unlock
  split
  · rw [up2_n (by omega)]
  · rw [up2_n (by omega), up2_n (by omega)]
theorem H_lock_8 (g : HB) (d e x : Nat) : H_lock g d e 8 x = lk (g 8) d e x := by
  unfold H_lock lk
  by_cases c1 : x = e
  · subst c1; rw [up2_s, if_pos rfl]
  · by_cases c2 : x = d
    · subst c2; rw [up2_n (by omega), up2_s, if_neg c1, if_pos rfl]
    · rw [up2_n (by omega), up2_n (by omega), if_neg c1, if_neg c2, H_unlock_8]
      congr 1
      funext y
      exact H_unlock_8 g d y
theorem H_lock_k {g : HB} {d e k j : Nat} (hk : k ≠ 8) : H_lock g d e k j = g k j := by
  unfold H_lock
  rw [up2_n (by omega), up2_n (by omega), H_unlock_k hk, H_unlock_k hk]
theorem M_unl_6 (m : HB) (x : Int32) (y : Nat) : M_unl m x 1 (60 * y + 6) = if ¬ x = -1 ∧ y = ix x then -1 else m 1 (60 * y + 6) := by
  unfold M_unl
  by_cases c : x = -1
  · rw [if_pos c, if_neg (fun z => z.1 c)]
  · rw [if_neg c]
    by_cases c2 : y = ix x
    · subst c2; rw [up2_s, if_pos ⟨c, rfl⟩]
    · rw [up2_n (by omega), if_neg (fun z => c2 z.2)]
theorem M_unl_n {m : HB} {x : Int32} {p : Nat} (hx : x = -1 ∨ vI x 8) (hp : 480 ≤ p ∨ p % 60 ≠ 6) : M_unl m x 1 p = m 1 p := by
  unfold M_unl
  split
  · rfl
  · rename_i c
    have := ix_lt (hx.resolve_left c) (by decide)
    rw [up2_n (by omega)]
theorem RH_unlock {N d : Nat} {g m : HB} (H : RH N g (m 1)) (hd : d < ix (g 1 0)) : RH N (H_unlock g d) (M_lockN m d 1) := by
  have b1 := ix_lt H.1.1.1 (by decide)
  have e6 : ∀ x, x < ix (g 1 0) → m 1 (60 * x + 6) = g 8 x := fun x hx => H.1.2.1 x 6 hx (by decide)
  have ho := (HOk_of H).2.2.2.2 d hd
  refine RH_r8 H (fun k j z => H_unlock_k z) (fun p z => ?_) (fun x hx => ?_) ?_
  · unfold M_lockN
    rw [up2_n (by omega), M_unl_n (by rw [e6 d hd]; exact ho.1) z]
  · rw [H_unlock_8]
    unfold M_lockN un
    by_cases c : x = d
    · subst c; rw [up2_s, if_pos rfl]
    · rw [up2_n (by omega), M_unl_6, e6 d hd, e6 x hx, if_neg c]
  · have : H_unlock g d 8 = un (g 8) d := funext (H_unlock_8 g d)
    rw [this]
    exact un_sym (by omega) H.2.2.2.2.2.2.1 hd
theorem RH_lock {N d e : Nat} {g m : HB} (H : RH N g (m 1)) (hd : d < ix (g 1 0)) (he : e < ix (g 1 0)) (hne : e ≠ d) : RH N (H_lock g d e) (M_lockE m d e 1) := by
  have b1 := ix_lt H.1.1.1 (by decide)
  have e6 : ∀ x, x < ix (g 1 0) → m 1 (60 * x + 6) = g 8 x := fun x hx => H.1.2.1 x 6 hx (by decide)
  have hod := ((HOk_of H).2.2.2.2 d hd).1
  have hoe := ((HOk_of H).2.2.2.2 e he).1
  have S := H.2.2.2.2.2.2.1
  refine RH_r8 H (fun k j z => H_lock_k z) (fun p z => ?_) (fun x hx => ?_) ?_
  · unfold M_lockE
    rw [up2_n (by omega), up2_n (by omega), M_unl_n (by rw [e6 e he]; exact hoe) z, M_unl_n (by rw [e6 d hd]; exact hod) z]
  · rw [H_lock_8]
    unfold M_lockE lk
    by_cases c1 : x = e
    · subst c1; rw [up2_s, if_pos rfl]
    · by_cases c2 : x = d
      · subst c2; rw [up2_n (by omega), up2_s, if_neg c1, if_pos rfl]
      · rw [up2_n (by omega), up2_n (by omega), if_neg c1, if_neg c2, M_unl_6, M_unl_6, e6 e he, e6 d hd, e6 x hx]
        have ue : un (g 8) d e = if ¬ g 8 d = -1 ∧ e = ix (g 8 d) then -1 else g 8 e := by unfold un; rw [if_neg hne]
        have ux : un (g 8) d x = if ¬ g 8 d = -1 ∧ x = ix (g 8 d) then -1 else g 8 x := by unfold un; rw [if_neg c2]
        have e0 : un (un (g 8) d) e x = if ¬ un (g 8) d e = -1 ∧ x = ix (un (g 8) d e) then -1 else un (g 8) d x := by
          show (if x = e then _ else _) = _
          rw [if_neg c1]
        rw [e0, ux]
        by_cases q : ¬ g 8 d = -1 ∧ e = ix (g 8 d)
        · rw [if_pos q] at ue
          rw [ue]
          obtain ⟨y, y1, y2, y3⟩ := (S d hd).resolve_left q.1
          have ye : y = e := by rw [q.2, y2, ix_nI (by omega)]
          subst ye
          rw [y3]
          rw [if_neg (fun z : ¬ nI d = -1 ∧ x = ix (nI d) => c2 (by rw [z.2, ix_nI (by omega)])), if_neg (fun z : ¬ (-1 : Int32) = -1 ∧ x = ix (-1) => z.1 rfl)]
        · rw [if_neg q] at ue
          rw [ue]
  · have : H_lock g d e 8 = lk (g 8) d e := funext (H_lock_8 g d e)
    rw [this]
    exact lk_sym (by omega) S hd he hne
