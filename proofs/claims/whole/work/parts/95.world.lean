/-! THE WORLD AT THE START: what both constructors made is the picture of zeros -/
def u00 : U3 := fun _ _ _ => 0
def r00 : R1 := fun j => j
def AA (A : Nat → Nat → Nat) (mm : Nat → Nat) : Nat → Nat → Nat := fun i k => if i = 6 then mm k else A i k
abbrev ES (l : Launch) (cI cO : ClassId) (D : va_G) (A : Nat → Nat → Nat) (mm : Nat → Nat) (t : Nat) (adK adV : Nat → Nat) : EN := (l, cI, cO, D.1, D.2, AA A mm, t, adK, adV)
def kept0 (A : Nat → Nat → Nat) : Nat → Option Nat := va_up (va_up (va_up (va_up (fun _ => none) 0 (some (A 1 0))) 1 (some (A 2 0))) 2 (some (A 3 0))) 3 (some (A 4 0))
def gcX (E : EN) (A : Nat → Nat → Nat) (q : Nat × Nat) : va_E := if q.1 = 5 ∧ q.2 = 1 then .inl (eO E, 4, .inr (.inr (.inr (.inr (kept0 A))))) else gcell E u00 r00 q
def LR (i : Nat) : List (Nat × Nat) := (List.range 29).map (fun k => (i, k))
def L0 : List (Nat × Nat) := ([(5, 0)] ++ LR 0 ++ [(5, 1)] ++ LR 1 ++ LR 2 ++ LR 3 ++ LR 4 ++ [(5, 2), (5, 3), (5, 4)] ++ [(5, 5), (5, 6)]) ++ [(6, 0), (6, 1), (6, 2), (6, 3), (6, 4), (6, 5), (6, 6), (6, 7), (6, 8), (6, 9), (6, 10)]
theorem LB_L0 : ∀ q ∈ LB, q ∈ L0 := by decide +kernel
set_option maxHeartbeats 4000000 in
theorem ws_start (l : Launch) (cI cO : ClassId) (D : va_G) (A : Nat → Nat → Nat) (mm : Nat → Nat) (t : Nat) (adK adV : Nat → Nat) : cW6 cI cO A ++ cW7 cI mm = L0.map (fun q => (eA (ES l cI cO D A mm t adK adV) q.1 q.2, gcX (ES l cI cO D A mm t adK adV) A q)) := by
  have h0 : cW2 cI (A 0) = (LR 0).map (fun q => (eA (ES l cI cO D A mm t adK adV) q.1 q.2, gcX (ES l cI cO D A mm t adK adV) A q)) := by
    unfold LR cW2; rw [List.map_map]; exact List.map_congr_left (fun k _ => rfl)
  have h1 : cW2 cI (A 1) = (LR 1).map (fun q => (eA (ES l cI cO D A mm t adK adV) q.1 q.2, gcX (ES l cI cO D A mm t adK adV) A q)) := by
    unfold LR cW2; rw [List.map_map]; exact List.map_congr_left (fun k _ => rfl)
  have h2 : cW2 cI (A 2) = (LR 2).map (fun q => (eA (ES l cI cO D A mm t adK adV) q.1 q.2, gcX (ES l cI cO D A mm t adK adV) A q)) := by
    unfold LR cW2; rw [List.map_map]; exact List.map_congr_left (fun k _ => rfl)
  have h3 : cW2 cI (A 3) = (LR 3).map (fun q => (eA (ES l cI cO D A mm t adK adV) q.1 q.2, gcX (ES l cI cO D A mm t adK adV) A q)) := by
    unfold LR cW2; rw [List.map_map]; exact List.map_congr_left (fun k _ => rfl)
  have h4 : cW2 cI (A 4) = (LR 4).map (fun q => (eA (ES l cI cO D A mm t adK adV) q.1 q.2, gcX (ES l cI cO D A mm t adK adV) A q)) := by
    unfold LR cW2; rw [List.map_map]; exact List.map_congr_left (fun k _ => rfl)
  unfold cW6 L0
  rw [h0, h1, h2, h3, h4]
  simp only [List.map_append]
  rfl
section
variable {l : Launch} {cI cO : ClassId} {D : va_G} {A : Nat → Nat → Nat} {mm : Nat → Nat} {t : Nat} {adK adV : Nat → Nat} {B : Nat → Prop} {H : Heap}
theorem L0_place (l : Launch) (cI cO : ClassId) (D : va_G) (A : Nat → Nat → Nat) (mm : Nat → Nat) (t : Nat) (adK adV : Nat → Nat) {q : Nat × Nat} (hq : q ∈ LB) : ∃ p : Nat, L0[p]? = some q ∧ (cW6 cI cO A ++ cW7 cI mm)[p]? = some (eA (ES l cI cO D A mm t adK adV) q.1 q.2, gcX (ES l cI cO D A mm t adK adV) A q) := by
  obtain ⟨p, hp⟩ := List.getElem?_of_mem (LB_L0 q hq)
  exact ⟨p, hp, by rw [ws_start l cI cO D A mm t adK adV, List.getElem?_map, hp]; rfl⟩
theorem start_AD (l : Launch) (cI cO : ClassId) (D : va_G) (t : Nat) (adK adV : Nat → Nat) (hD : va_D B (cW6 cI cO A ++ cW7 cI mm)) : AD (ES l cI cO D A mm t adK adV) := by
  intro q hq q' hq' e
  obtain ⟨p, h1, h2⟩ := L0_place l cI cO D A mm t adK adV hq
  obtain ⟨p', h3, h4⟩ := L0_place l cI cO D A mm t adK adV hq'
  have e2 := hD.1 p p' _ _ h2 h4 e
  subst e2
  rw [h1] at h3
  exact Option.some.inj h3
theorem start_B (l : Launch) (cI cO : ClassId) (D : va_G) (t : Nat) (adK adV : Nat → Nat) (hD : va_D B (cW6 cI cO A ++ cW7 cI mm)) : ∀ q ∈ LB, B (eA (ES l cI cO D A mm t adK adV) q.1 q.2) := by
  intro q hq
  obtain ⟨p, h1, h2⟩ := L0_place l cI cO D A mm t adK adV hq
  exact hD.2 p _ h2
theorem start_P (l : Launch) (cI cO : ClassId) (D : va_G) (t : Nat) (adK adV : Nat → Nat) (hP : va_P D vwCl (cW6 cI cO A ++ cW7 cI mm) H) : va_P (eD (ES l cI cO D A mm t adK adV)) vwCl (wg (ES l cI cO D A mm t adK adV) u00 r00) H := by
  intro k x hk
  rw [wg, List.getElem?_map] at hk
  cases h : LB[k]? with
  | none => rw [h] at hk; cases hk
  | some q =>
    rw [h] at hk
    have hx : (eA (ES l cI cO D A mm t adK adV) q.1 q.2, gcell (ES l cI cO D A mm t adK adV) u00 r00 q) = x := Option.some.inj hk
    subst hx
    obtain ⟨p, h1, h2⟩ := L0_place l cI cO D A mm t adK adV (List.mem_of_getElem? h)
    have h3 := hP p _ h2
    unfold gcX at h3
    by_cases c : q.1 = 5 ∧ q.2 = 1
    · rw [if_pos c] at h3
      obtain ⟨q1, q2⟩ := q
      obtain ⟨c1, c2⟩ := c
      simp only at c1 c2
      subst c1; subst c2
      rw [gc51]
      have h4 : H[eA (ES l cI cO D A mm t adK adV) 5 1]? = some (vp_cell cO (4, .inr (.inr (.inr (.inr (kept0 A)))))) := h3
      show H[eA (ES l cI cO D A mm t adK adV) 5 1]? = some (vp_cell cO (4, .inr (.inr (.inr (.inr (fun j => some (eA (ES l cI cO D A mm t adK adV) (r00 (j + 1)) 0)))))))
      rw [h4]
      congr 1
    · rw [if_neg c] at h3
      exact h3
end
theorem vI_0 {n : Nat} (h : 0 < n) : vI 0 n := ⟨0, h, rfl⟩
theorem ix_0 : ix 0 = 0 := by decide
theorem RH_0 (g : HB) (hg : ∀ k j, g k j = 0) (q : Nat → Int32) (hq : ∀ j, q j = 0) : RH 0 g q := by
  have no : ∀ {d : Nat} {x : Int32}, x = 0 → d < ix x → False := by
    intro d x e h
    rw [e, ix_0] at h
    omega
  refine ⟨⟨⟨?_, ?_⟩, fun d k x _ => (no (hg _ _) x).elim, fun d k x _ _ => (no (hg _ _) x).elim, ⟨?_, ?_, ?_, ?_, ?_⟩, fun k _ => ?_⟩, fun d x => (no (hg _ _) x).elim, ⟨?_, fun d x => (no (hg _ _) x).elim⟩, fun d x => (no (hg _ _) x).elim, fun d x => (no (hg _ _) x).elim, ⟨?_, ?_, fun d x => (no (hg _ _) x).elim, fun d _ x => (no (hg _ _) x).elim, fun t _ => ?_, fun t _ z => absurd (hg _ _) z⟩, fun d x => (no (hg _ _) x).elim, fun d x => (no (hg _ _) x).elim, fun d x => (no (hg _ _) x).elim, ?_⟩ <;> simp only [hg, hq, RVt] <;> exact vI_0 (by decide)
theorem IV_0 : IV 0 u00 r00 := by
  refine ⟨⟨fun j h => h, fun i j _ _ h => h⟩, 0, by decide, rfl, rfl, RH_0 _ (fun _ _ => rfl) _ (fun _ => rfl), fun j h => absurd h (by omega), ⟨rfl, rfl, rfl⟩, 0, by decide, rfl, rfl, rfl⟩
