/-! THE PICTURE: one world of 163 cells for class and reference. A label (i, k): i < 5 a House's block, 5 the class's own cells, 6 the reference's. u i k j: the j-th number of the cell (i, k); r 0 the block of now, r (1 + j) that of kept[j]. -/
abbrev U3 : Type := Nat → Nat → Nat → Int32
abbrev R1 : Type := Nat → Nat
abbrev EN : Type := Launch × ClassId × ClassId × (Nat → ClassId) × (Nat → Nat → Nat) × (Nat → Nat → Nat) × Nat × (Nat → Nat) × (Nat → Nat)
abbrev eL (E : EN) : Launch := E.1
abbrev eI (E : EN) : ClassId := E.2.1
abbrev eO (E : EN) : ClassId := E.2.2.1
abbrev eD (E : EN) : va_G := (E.2.2.2.1, E.2.2.2.2.1)
def eA (E : EN) : Nat → Nat → Nat := E.2.2.2.2.2.1
abbrev eT (E : EN) : Nat := E.2.2.2.2.2.2.1
abbrev eK (E : EN) : Nat → Nat := E.2.2.2.2.2.2.2.1
abbrev eV (E : EN) : Nat → Nat := E.2.2.2.2.2.2.2.2
abbrev tysE (E : EN) : List (ClassId × FieldType) := [(eI E, .int), (eO E, .object "BadgeDoors$House")]
def up3 (u : U3) (i k j : Nat) (v : Int32) : U3 := fun i' k' j' => if i' = i ∧ k' = k ∧ j' = j then v else u i' k' j'
theorem up3_s (u : U3) (i k j : Nat) (v : Int32) : up3 u i k j v i k j = v := by simp [up3]
theorem up3_n {u : U3} {i k j : Nat} {v : Int32} {i' k' j' : Nat} (h : ¬ (i' = i ∧ k' = k ∧ j' = j)) : up3 u i k j v i' k' j' = u i' k' j' := by simp [up3, h]
theorem up3_cell {u : U3} {i k j : Nat} {v : Int32} {q : Nat × Nat} (h : q ≠ (i, k)) : up3 u i k j v q.1 q.2 = u q.1 q.2 := by
  funext j'
  refine up3_n (fun z => h ?_)
  exact Prod.ext z.1 z.2.1
theorem up3_row (u : U3) (i k j : Nat) (v : Int32) : up3 u i k j v i k = upd (u i k) j v := by
  funext j'
  by_cases h : j' = j
  · subst h; simp [up3, upd]
  · simp [up3, upd, h]
def hlen (k : Nat) : Nat := if k = 13 then 160 else if k = 14 then 160 else if k = 16 then 64 else if k = 17 then 64 else if k = 26 then 64 else if k = 27 then 64 else if k = 28 then 6 else 8
def tlen (k : Nat) : Nat := if k = 3 then 4 else if k = 4 then 150 else 6
def mlen (k : Nat) : Nat := if k = 1 then 733 else if k = 2 then 733 else if k = 3 then 2932 else if k = 4 then 3 else if k = 5 then 150 else if k = 6 then 150 else if k = 7 then 151 else if k = 8 then 150 else if k = 9 then 6 else 8
def hcell (E : EN) (u : U3) (i k : Nat) : va_E :=
  if k = 0 then .inr (2, [.ref (eA E i 1), .ref (eA E i 18), .ref (eA E i 25), .ref (eA E i 28), .int (u i 0 0), .int (u i 0 1), .int (u i 0 2), .int (u i 0 3)])
  else if k = 1 then .inr (1, [.int (u i 1 0), .ref (eA E i 2), .ref (eA E i 3), .ref (eA E i 4), .ref (eA E i 5), .ref (eA E i 6), .ref (eA E i 7), .ref (eA E i 8), .ref (eA E i 9), .ref (eA E i 10), .ref (eA E i 11), .ref (eA E i 12), .ref (eA E i 13), .ref (eA E i 14), .ref (eA E i 15), .ref (eA E i 16), .ref (eA E i 17)])
  else if k = 18 then .inr (0, [.int (u i 18 0), .ref (eA E i 19), .ref (eA E i 20), .ref (eA E i 21), .ref (eA E i 22), .ref (eA E i 23), .ref (eA E i 24)])
  else if k = 25 then .inr (5, [.int (u i 25 0), .ref (eA E i 26), .ref (eA E i 27)])
  else .inl (eI E, hlen k, .inl (u i k))
def tcell (E : EN) (u : U3) (r : R1) (k : Nat) : va_E :=
  if k = 0 then .inr (6, [.ref (eA E (r 0) 0), .ref (eA E 5 1), .int (u 5 0 0), .ref (eA E 5 2), .ref (eA E 5 5), .int (u 5 0 1), .int (u 5 0 2), .int (u 5 0 3)])
  else if k = 1 then .inl (eO E, 4, .inr (.inr (.inr (.inr (fun j => some (eA E (r (j + 1)) 0))))))
  else if k = 2 then .inr (4, [.int (u 5 2 0), .int (u 5 2 1), .ref (eA E 5 3), .ref (eA E 5 4), .int (u 5 2 2)])
  else if k = 5 then .inr (3, [.ref (eA E 5 6)])
  else .inl (eI E, tlen k, .inl (u 5 k))
def mcell (E : EN) (u : U3) (k : Nat) : va_E :=
  if k = 0 then .inr (7, [.ref (eA E 6 1), .ref (eA E 6 2), .ref (eA E 6 3), .int (u 6 0 0), .ref (eA E 6 4), .ref (eA E 6 5), .int (u 6 0 1), .ref (eA E 6 6), .ref (eA E 6 7), .ref (eA E 6 8), .int (u 6 0 2), .ref (eA E 6 9), .ref (eA E 6 10), .int (u 6 0 3), .int (u 6 0 4)])
  else .inl (eI E, mlen k, .inl (u 6 k))
def gcell (E : EN) (u : U3) (r : R1) (q : Nat × Nat) : va_E := if q.1 < 5 then hcell E u q.1 q.2 else if q.1 = 5 then tcell E u r q.2 else mcell E u q.2
def LB : List (Nat × Nat) := (List.range 5).flatMap (fun i => (List.range 29).map (fun k => (i, k))) ++ ((List.range 7).map (fun k => (5, k)) ++ (List.range 11).map (fun k => (6, k)))
theorem LB_nd : LB.Nodup := by decide +kernel
theorem LB_h {i k : Nat} (hi : i < 5) (hk : k < 29) : (i, k) ∈ LB := List.mem_append_left _ (List.mem_flatMap.mpr ⟨i, List.mem_range.mpr hi, List.mem_map.mpr ⟨k, List.mem_range.mpr hk, rfl⟩⟩)
theorem LB_t {k : Nat} (hk : k < 7) : (5, k) ∈ LB := List.mem_append_right _ (List.mem_append_left _ (List.mem_map.mpr ⟨k, List.mem_range.mpr hk, rfl⟩))
theorem LB_m {k : Nat} (hk : k < 11) : (6, k) ∈ LB := List.mem_append_right _ (List.mem_append_right _ (List.mem_map.mpr ⟨k, List.mem_range.mpr hk, rfl⟩))
theorem LB_of {q : Nat × Nat} (h : q ∈ LB) : (q.1 < 5 ∧ q.2 < 29) ∨ (q.1 = 5 ∧ q.2 < 7) ∨ (q.1 = 6 ∧ q.2 < 11) := by
  rcases List.mem_append.mp h with h | h
  · obtain ⟨i, hi, h2⟩ := List.mem_flatMap.mp h
    obtain ⟨k, hk, rfl⟩ := List.mem_map.mp h2
    exact Or.inl ⟨List.mem_range.mp hi, List.mem_range.mp hk⟩
  · rcases List.mem_append.mp h with h | h
    · obtain ⟨k, hk, rfl⟩ := List.mem_map.mp h
      exact Or.inr (Or.inl ⟨rfl, List.mem_range.mp hk⟩)
    · obtain ⟨k, hk, rfl⟩ := List.mem_map.mp h
      exact Or.inr (Or.inr ⟨rfl, List.mem_range.mp hk⟩)
def wg (E : EN) (u : U3) (r : R1) : va_W := LB.map (fun q => (eA E q.1 q.2, gcell E u r q))
def AD (E : EN) : Prop := ∀ q ∈ LB, ∀ q' ∈ LB, eA E q.1 q.2 = eA E q'.1 q'.2 → q = q'
def XW (E : EN) (a : Nat) : Prop := ∃ q ∈ LB, a = eA E q.1 q.2
def XB (E : EN) (sz : Nat) (a : Nat) : Prop := XW E a ∨ sz ≤ a
theorem wg_place {E : EN} {u : U3} {r : R1} {q : Nat × Nat} (hq : q ∈ LB) : ∃ p : Nat, LB[p]? = some q ∧ (wg E u r)[p]? = some (eA E q.1 q.2, gcell E u r q) := by
  obtain ⟨p, hp⟩ := List.getElem?_of_mem hq
  exact ⟨p, hp, by rw [wg, List.getElem?_map, hp]; rfl⟩
theorem LB_inj {i j : Nat} {q : Nat × Nat} (hi : LB[i]? = some q) (hj : LB[j]? = some q) : i = j := (List.getElem?_inj (List.getElem?_eq_some_iff.mp hi).1 LB_nd).mp (hi.trans hj.symm)
theorem wg_D {E : EN} {u : U3} {r : R1} {B : Nat → Prop} (hA : AD E) (hB : ∀ q ∈ LB, B (eA E q.1 q.2)) : va_D B (wg E u r) := by
  have key : ∀ (k : Nat) (x : Nat × va_E), (wg E u r)[k]? = some x → ∃ q, LB[k]? = some q ∧ x.1 = eA E q.1 q.2 := by
    intro k x hk
    rw [wg, List.getElem?_map] at hk
    cases h : LB[k]? with
    | none => rw [h] at hk; cases hk
    | some q => rw [h] at hk; cases hk; exact ⟨q, rfl, rfl⟩
  refine ⟨fun i j x y hi hj e => ?_, fun k x hk => ?_⟩
  · obtain ⟨q, h1, h2⟩ := key i x hi
    obtain ⟨q', h3, h4⟩ := key j y hj
    have e2 := hA q (List.mem_of_getElem? h1) q' (List.mem_of_getElem? h3) (h2.symm.trans (e.trans h4))
    subst e2
    exact LB_inj h1 h3
  · obtain ⟨q, h1, h2⟩ := key k x hk
    rw [h2]
    exact hB q (List.mem_of_getElem? h1)
theorem wg_set {E : EN} {u u' : U3} {r r' : R1} {p : Nat} {q : Nat × Nat} (hp : LB[p]? = some q) (hc : ∀ q' ∈ LB, q' ≠ q → gcell E u' r' q' = gcell E u r q') : (wg E u r).set p (eA E q.1 q.2, gcell E u' r' q) = wg E u' r' := by
  apply List.ext_getElem?
  intro k
  by_cases hk : k = p
  · subst hk
    have hl : k < (wg E u r).length := by rw [wg, List.length_map]; exact (List.getElem?_eq_some_iff.mp hp).1
    rw [List.getElem?_set_self hl, wg, List.getElem?_map, hp]
    rfl
  · rw [List.getElem?_set_ne (Ne.symm hk), wg, wg, List.getElem?_map, List.getElem?_map]
    cases h : LB[k]? with
    | none => rfl
    | some q' =>
      have hne : q' ≠ q := fun z => hk (LB_inj (z ▸ h) hp)
      simp only [Option.map_some, hc q' (List.mem_of_getElem? h) hne]
theorem gcell_cong {E : EN} {u u' : U3} {r : R1} {q : Nat × Nat} (h6 : q ∈ LB) (h : u' q.1 q.2 = u q.1 q.2) : gcell E u' r q = gcell E u r q := by
  obtain ⟨i, k⟩ := q
  dsimp only at h
  rcases LB_of h6 with ⟨h1, h2⟩ | ⟨h1, h2⟩ | ⟨h1, h2⟩
  · simp only [gcell, hcell, h]
    dsimp only at h1
    simp only [h1, if_true]
    by_cases k0 : k = 0
    · subst k0; simp [h]
    by_cases k1 : k = 1
    · subst k1; simp [h]
    by_cases k18 : k = 18
    · subst k18; simp [h]
    by_cases k25 : k = 25
    · subst k25; simp [h]
    simp [k0, k1, k18, k25]
  · dsimp only at h1
    subst h1
    simp only [gcell, tcell]
    by_cases k0 : k = 0
    · subst k0; simp [h]
    by_cases k1 : k = 1
    · subst k1; simp
    by_cases k2 : k = 2
    · subst k2; simp [h]
    by_cases k5 : k = 5
    · subst k5; simp
    simp [k0, k1, k2, k5, h]
  · dsimp only at h1
    subst h1
    simp only [gcell, mcell]
    by_cases k0 : k = 0
    · subst k0; simp [h]
    simp [k0, h]
theorem gcell_up {E : EN} {u : U3} {r : R1} {i k j : Nat} {v : Int32} : ∀ q' ∈ LB, q' ≠ (i, k) → gcell E (up3 u i k j v) r q' = gcell E u r q' := fun _ hm hq => gcell_cong hm (up3_cell hq)
/-- an int array at a label -/
def Arr (i k n : Nat) : Prop := ((i, k) ∈ LB ∧ n < 3000) ∧ ∀ (E : EN) (u : U3) (r : R1), gcell E u r (i, k) = .inl (eI E, n, .inl (u i k))
theorem aH2 {i : Nat} (hi : i < 5) : Arr i 2 8 := ⟨⟨LB_h hi (by decide), by decide⟩, fun E u r => by simp [gcell, hcell, hi, hlen]⟩
theorem aH3 {i : Nat} (hi : i < 5) : Arr i 3 8 := ⟨⟨LB_h hi (by decide), by decide⟩, fun E u r => by simp [gcell, hcell, hi, hlen]⟩
theorem aH4 {i : Nat} (hi : i < 5) : Arr i 4 8 := ⟨⟨LB_h hi (by decide), by decide⟩, fun E u r => by simp [gcell, hcell, hi, hlen]⟩
theorem aH5 {i : Nat} (hi : i < 5) : Arr i 5 8 := ⟨⟨LB_h hi (by decide), by decide⟩, fun E u r => by simp [gcell, hcell, hi, hlen]⟩
theorem aH6 {i : Nat} (hi : i < 5) : Arr i 6 8 := ⟨⟨LB_h hi (by decide), by decide⟩, fun E u r => by simp [gcell, hcell, hi, hlen]⟩
theorem aH7 {i : Nat} (hi : i < 5) : Arr i 7 8 := ⟨⟨LB_h hi (by decide), by decide⟩, fun E u r => by simp [gcell, hcell, hi, hlen]⟩
theorem aH8 {i : Nat} (hi : i < 5) : Arr i 8 8 := ⟨⟨LB_h hi (by decide), by decide⟩, fun E u r => by simp [gcell, hcell, hi, hlen]⟩
theorem aH9 {i : Nat} (hi : i < 5) : Arr i 9 8 := ⟨⟨LB_h hi (by decide), by decide⟩, fun E u r => by simp [gcell, hcell, hi, hlen]⟩
theorem aH10 {i : Nat} (hi : i < 5) : Arr i 10 8 := ⟨⟨LB_h hi (by decide), by decide⟩, fun E u r => by simp [gcell, hcell, hi, hlen]⟩
theorem aH11 {i : Nat} (hi : i < 5) : Arr i 11 8 := ⟨⟨LB_h hi (by decide), by decide⟩, fun E u r => by simp [gcell, hcell, hi, hlen]⟩
theorem aH12 {i : Nat} (hi : i < 5) : Arr i 12 8 := ⟨⟨LB_h hi (by decide), by decide⟩, fun E u r => by simp [gcell, hcell, hi, hlen]⟩
theorem aH13 {i : Nat} (hi : i < 5) : Arr i 13 160 := ⟨⟨LB_h hi (by decide), by decide⟩, fun E u r => by simp [gcell, hcell, hi, hlen]⟩
theorem aH14 {i : Nat} (hi : i < 5) : Arr i 14 160 := ⟨⟨LB_h hi (by decide), by decide⟩, fun E u r => by simp [gcell, hcell, hi, hlen]⟩
theorem aH15 {i : Nat} (hi : i < 5) : Arr i 15 8 := ⟨⟨LB_h hi (by decide), by decide⟩, fun E u r => by simp [gcell, hcell, hi, hlen]⟩
theorem aH16 {i : Nat} (hi : i < 5) : Arr i 16 64 := ⟨⟨LB_h hi (by decide), by decide⟩, fun E u r => by simp [gcell, hcell, hi, hlen]⟩
theorem aH17 {i : Nat} (hi : i < 5) : Arr i 17 64 := ⟨⟨LB_h hi (by decide), by decide⟩, fun E u r => by simp [gcell, hcell, hi, hlen]⟩
theorem aH19 {i : Nat} (hi : i < 5) : Arr i 19 8 := ⟨⟨LB_h hi (by decide), by decide⟩, fun E u r => by simp [gcell, hcell, hi, hlen]⟩
theorem aH20 {i : Nat} (hi : i < 5) : Arr i 20 8 := ⟨⟨LB_h hi (by decide), by decide⟩, fun E u r => by simp [gcell, hcell, hi, hlen]⟩
theorem aH21 {i : Nat} (hi : i < 5) : Arr i 21 8 := ⟨⟨LB_h hi (by decide), by decide⟩, fun E u r => by simp [gcell, hcell, hi, hlen]⟩
theorem aH22 {i : Nat} (hi : i < 5) : Arr i 22 8 := ⟨⟨LB_h hi (by decide), by decide⟩, fun E u r => by simp [gcell, hcell, hi, hlen]⟩
theorem aH23 {i : Nat} (hi : i < 5) : Arr i 23 8 := ⟨⟨LB_h hi (by decide), by decide⟩, fun E u r => by simp [gcell, hcell, hi, hlen]⟩
theorem aH24 {i : Nat} (hi : i < 5) : Arr i 24 8 := ⟨⟨LB_h hi (by decide), by decide⟩, fun E u r => by simp [gcell, hcell, hi, hlen]⟩
theorem aH26 {i : Nat} (hi : i < 5) : Arr i 26 64 := ⟨⟨LB_h hi (by decide), by decide⟩, fun E u r => by simp [gcell, hcell, hi, hlen]⟩
theorem aH27 {i : Nat} (hi : i < 5) : Arr i 27 64 := ⟨⟨LB_h hi (by decide), by decide⟩, fun E u r => by simp [gcell, hcell, hi, hlen]⟩
theorem aH28 {i : Nat} (hi : i < 5) : Arr i 28 6 := ⟨⟨LB_h hi (by decide), by decide⟩, fun E u r => by simp [gcell, hcell, hi, hlen]⟩
theorem aT3 : Arr 5 3 4 := ⟨⟨LB_t (by decide), by decide⟩, fun _ _ _ => rfl⟩
theorem aT4 : Arr 5 4 150 := ⟨⟨LB_t (by decide), by decide⟩, fun _ _ _ => rfl⟩
theorem aT6 : Arr 5 6 6 := ⟨⟨LB_t (by decide), by decide⟩, fun _ _ _ => rfl⟩
theorem aM1 : Arr 6 1 733 := ⟨⟨LB_m (by decide), by decide⟩, fun _ _ _ => rfl⟩
theorem aM2 : Arr 6 2 733 := ⟨⟨LB_m (by decide), by decide⟩, fun _ _ _ => rfl⟩
theorem aM3 : Arr 6 3 2932 := ⟨⟨LB_m (by decide), by decide⟩, fun _ _ _ => rfl⟩
theorem aM4 : Arr 6 4 3 := ⟨⟨LB_m (by decide), by decide⟩, fun _ _ _ => rfl⟩
theorem aM5 : Arr 6 5 150 := ⟨⟨LB_m (by decide), by decide⟩, fun _ _ _ => rfl⟩
theorem aM6 : Arr 6 6 150 := ⟨⟨LB_m (by decide), by decide⟩, fun _ _ _ => rfl⟩
theorem aM7 : Arr 6 7 151 := ⟨⟨LB_m (by decide), by decide⟩, fun _ _ _ => rfl⟩
theorem aM8 : Arr 6 8 150 := ⟨⟨LB_m (by decide), by decide⟩, fun _ _ _ => rfl⟩
theorem aM9 : Arr 6 9 6 := ⟨⟨LB_m (by decide), by decide⟩, fun _ _ _ => rfl⟩
theorem aM10 : Arr 6 10 8 := ⟨⟨LB_m (by decide), by decide⟩, fun _ _ _ => rfl⟩
/-- an object at a label: its class' number, its fields -/
def Obj (E : EN) (u : U3) (r : R1) (i k ci : Nat) (fs : List Value) : Prop := (i, k) ∈ LB ∧ gcell E u r (i, k) = .inr (ci, fs)
theorem oH0 {E : EN} {u : U3} {r : R1} {i : Nat} (hi : i < 5) : Obj E u r i 0 2 [.ref (eA E i 1), .ref (eA E i 18), .ref (eA E i 25), .ref (eA E i 28), .int (u i 0 0), .int (u i 0 1), .int (u i 0 2), .int (u i 0 3)] := ⟨LB_h hi (by decide), by simp [gcell, hcell, hi]⟩
theorem oH1 {E : EN} {u : U3} {r : R1} {i : Nat} (hi : i < 5) : Obj E u r i 1 1 [.int (u i 1 0), .ref (eA E i 2), .ref (eA E i 3), .ref (eA E i 4), .ref (eA E i 5), .ref (eA E i 6), .ref (eA E i 7), .ref (eA E i 8), .ref (eA E i 9), .ref (eA E i 10), .ref (eA E i 11), .ref (eA E i 12), .ref (eA E i 13), .ref (eA E i 14), .ref (eA E i 15), .ref (eA E i 16), .ref (eA E i 17)] := ⟨LB_h hi (by decide), by simp [gcell, hcell, hi]⟩
theorem oH18 {E : EN} {u : U3} {r : R1} {i : Nat} (hi : i < 5) : Obj E u r i 18 0 [.int (u i 18 0), .ref (eA E i 19), .ref (eA E i 20), .ref (eA E i 21), .ref (eA E i 22), .ref (eA E i 23), .ref (eA E i 24)] := ⟨LB_h hi (by decide), by simp [gcell, hcell, hi]⟩
theorem oH25 {E : EN} {u : U3} {r : R1} {i : Nat} (hi : i < 5) : Obj E u r i 25 5 [.int (u i 25 0), .ref (eA E i 26), .ref (eA E i 27)] := ⟨LB_h hi (by decide), by simp [gcell, hcell, hi]⟩
theorem oT0 {E : EN} {u : U3} {r : R1} : Obj E u r 5 0 6 [.ref (eA E (r 0) 0), .ref (eA E 5 1), .int (u 5 0 0), .ref (eA E 5 2), .ref (eA E 5 5), .int (u 5 0 1), .int (u 5 0 2), .int (u 5 0 3)] := ⟨LB_t (by decide), rfl⟩
theorem oT2 {E : EN} {u : U3} {r : R1} : Obj E u r 5 2 4 [.int (u 5 2 0), .int (u 5 2 1), .ref (eA E 5 3), .ref (eA E 5 4), .int (u 5 2 2)] := ⟨LB_t (by decide), rfl⟩
theorem oT5 {E : EN} {u : U3} {r : R1} : Obj E u r 5 5 3 [.ref (eA E 5 6)] := ⟨LB_t (by decide), rfl⟩
theorem oM0 {E : EN} {u : U3} {r : R1} : Obj E u r 6 0 7 [.ref (eA E 6 1), .ref (eA E 6 2), .ref (eA E 6 3), .int (u 6 0 0), .ref (eA E 6 4), .ref (eA E 6 5), .int (u 6 0 1), .ref (eA E 6 6), .ref (eA E 6 7), .ref (eA E 6 8), .int (u 6 0 2), .ref (eA E 6 9), .ref (eA E 6 10), .int (u 6 0 3), .int (u 6 0 4)] := ⟨LB_m (by decide), rfl⟩
/-- an object's int field: the slot n of the cell holds u i k j, and a put there makes the new picture -/
def Fld (i k ci n j : Nat) : Prop := ∀ (E : EN) (u : U3) (r : R1), (i, k) ∈ LB ∧ ∃ fs : List Value, gcell E u r (i, k) = .inr (ci, fs) ∧ fs[n]? = some (.int (u i k j)) ∧ n < fs.length ∧ ∀ v : Int32, (.inr (ci, fs.set n (.int v)) : va_E) = gcell E (up3 u i k j v) r (i, k)
theorem fH0_0 {i : Nat} (hi : i < 5) : Fld i 0 2 4 0 := fun E u r => ⟨LB_h hi (by decide), [.ref (eA E i 1), .ref (eA E i 18), .ref (eA E i 25), .ref (eA E i 28), .int (u i 0 0), .int (u i 0 1), .int (u i 0 2), .int (u i 0 3)], by simp [gcell, hcell, hi], rfl, (by simp), fun v => by simp [gcell, hcell, hi, up3]⟩
theorem fH0_1 {i : Nat} (hi : i < 5) : Fld i 0 2 5 1 := fun E u r => ⟨LB_h hi (by decide), [.ref (eA E i 1), .ref (eA E i 18), .ref (eA E i 25), .ref (eA E i 28), .int (u i 0 0), .int (u i 0 1), .int (u i 0 2), .int (u i 0 3)], by simp [gcell, hcell, hi], rfl, (by simp), fun v => by simp [gcell, hcell, hi, up3]⟩
theorem fH0_2 {i : Nat} (hi : i < 5) : Fld i 0 2 6 2 := fun E u r => ⟨LB_h hi (by decide), [.ref (eA E i 1), .ref (eA E i 18), .ref (eA E i 25), .ref (eA E i 28), .int (u i 0 0), .int (u i 0 1), .int (u i 0 2), .int (u i 0 3)], by simp [gcell, hcell, hi], rfl, (by simp), fun v => by simp [gcell, hcell, hi, up3]⟩
theorem fH0_3 {i : Nat} (hi : i < 5) : Fld i 0 2 7 3 := fun E u r => ⟨LB_h hi (by decide), [.ref (eA E i 1), .ref (eA E i 18), .ref (eA E i 25), .ref (eA E i 28), .int (u i 0 0), .int (u i 0 1), .int (u i 0 2), .int (u i 0 3)], by simp [gcell, hcell, hi], rfl, (by simp), fun v => by simp [gcell, hcell, hi, up3]⟩
theorem fH1_0 {i : Nat} (hi : i < 5) : Fld i 1 1 0 0 := fun E u r => ⟨LB_h hi (by decide), [.int (u i 1 0), .ref (eA E i 2), .ref (eA E i 3), .ref (eA E i 4), .ref (eA E i 5), .ref (eA E i 6), .ref (eA E i 7), .ref (eA E i 8), .ref (eA E i 9), .ref (eA E i 10), .ref (eA E i 11), .ref (eA E i 12), .ref (eA E i 13), .ref (eA E i 14), .ref (eA E i 15), .ref (eA E i 16), .ref (eA E i 17)], by simp [gcell, hcell, hi], rfl, (by simp), fun v => by simp [gcell, hcell, hi, up3]⟩
theorem fH18_0 {i : Nat} (hi : i < 5) : Fld i 18 0 0 0 := fun E u r => ⟨LB_h hi (by decide), [.int (u i 18 0), .ref (eA E i 19), .ref (eA E i 20), .ref (eA E i 21), .ref (eA E i 22), .ref (eA E i 23), .ref (eA E i 24)], by simp [gcell, hcell, hi], rfl, (by simp), fun v => by simp [gcell, hcell, hi, up3]⟩
theorem fH25_0 {i : Nat} (hi : i < 5) : Fld i 25 5 0 0 := fun E u r => ⟨LB_h hi (by decide), [.int (u i 25 0), .ref (eA E i 26), .ref (eA E i 27)], by simp [gcell, hcell, hi], rfl, (by simp), fun v => by simp [gcell, hcell, hi, up3]⟩
theorem fT0_0 : Fld 5 0 6 2 0 := fun E u r => ⟨LB_t (by decide), [.ref (eA E (r 0) 0), .ref (eA E 5 1), .int (u 5 0 0), .ref (eA E 5 2), .ref (eA E 5 5), .int (u 5 0 1), .int (u 5 0 2), .int (u 5 0 3)], rfl, rfl, (by simp), fun v => by simp [gcell, tcell, up3]⟩
theorem fT0_1 : Fld 5 0 6 5 1 := fun E u r => ⟨LB_t (by decide), [.ref (eA E (r 0) 0), .ref (eA E 5 1), .int (u 5 0 0), .ref (eA E 5 2), .ref (eA E 5 5), .int (u 5 0 1), .int (u 5 0 2), .int (u 5 0 3)], rfl, rfl, (by simp), fun v => by simp [gcell, tcell, up3]⟩
theorem fT0_2 : Fld 5 0 6 6 2 := fun E u r => ⟨LB_t (by decide), [.ref (eA E (r 0) 0), .ref (eA E 5 1), .int (u 5 0 0), .ref (eA E 5 2), .ref (eA E 5 5), .int (u 5 0 1), .int (u 5 0 2), .int (u 5 0 3)], rfl, rfl, (by simp), fun v => by simp [gcell, tcell, up3]⟩
theorem fT0_3 : Fld 5 0 6 7 3 := fun E u r => ⟨LB_t (by decide), [.ref (eA E (r 0) 0), .ref (eA E 5 1), .int (u 5 0 0), .ref (eA E 5 2), .ref (eA E 5 5), .int (u 5 0 1), .int (u 5 0 2), .int (u 5 0 3)], rfl, rfl, (by simp), fun v => by simp [gcell, tcell, up3]⟩
theorem fT2_0 : Fld 5 2 4 0 0 := fun E u r => ⟨LB_t (by decide), [.int (u 5 2 0), .int (u 5 2 1), .ref (eA E 5 3), .ref (eA E 5 4), .int (u 5 2 2)], rfl, rfl, (by simp), fun v => by simp [gcell, tcell, up3]⟩
theorem fT2_1 : Fld 5 2 4 1 1 := fun E u r => ⟨LB_t (by decide), [.int (u 5 2 0), .int (u 5 2 1), .ref (eA E 5 3), .ref (eA E 5 4), .int (u 5 2 2)], rfl, rfl, (by simp), fun v => by simp [gcell, tcell, up3]⟩
theorem fT2_2 : Fld 5 2 4 4 2 := fun E u r => ⟨LB_t (by decide), [.int (u 5 2 0), .int (u 5 2 1), .ref (eA E 5 3), .ref (eA E 5 4), .int (u 5 2 2)], rfl, rfl, (by simp), fun v => by simp [gcell, tcell, up3]⟩
theorem fM0_0 : Fld 6 0 7 3 0 := fun E u r => ⟨LB_m (by decide), [.ref (eA E 6 1), .ref (eA E 6 2), .ref (eA E 6 3), .int (u 6 0 0), .ref (eA E 6 4), .ref (eA E 6 5), .int (u 6 0 1), .ref (eA E 6 6), .ref (eA E 6 7), .ref (eA E 6 8), .int (u 6 0 2), .ref (eA E 6 9), .ref (eA E 6 10), .int (u 6 0 3), .int (u 6 0 4)], rfl, rfl, (by simp), fun v => by simp [gcell, mcell, up3]⟩
theorem fM0_1 : Fld 6 0 7 6 1 := fun E u r => ⟨LB_m (by decide), [.ref (eA E 6 1), .ref (eA E 6 2), .ref (eA E 6 3), .int (u 6 0 0), .ref (eA E 6 4), .ref (eA E 6 5), .int (u 6 0 1), .ref (eA E 6 6), .ref (eA E 6 7), .ref (eA E 6 8), .int (u 6 0 2), .ref (eA E 6 9), .ref (eA E 6 10), .int (u 6 0 3), .int (u 6 0 4)], rfl, rfl, (by simp), fun v => by simp [gcell, mcell, up3]⟩
theorem fM0_2 : Fld 6 0 7 10 2 := fun E u r => ⟨LB_m (by decide), [.ref (eA E 6 1), .ref (eA E 6 2), .ref (eA E 6 3), .int (u 6 0 0), .ref (eA E 6 4), .ref (eA E 6 5), .int (u 6 0 1), .ref (eA E 6 6), .ref (eA E 6 7), .ref (eA E 6 8), .int (u 6 0 2), .ref (eA E 6 9), .ref (eA E 6 10), .int (u 6 0 3), .int (u 6 0 4)], rfl, rfl, (by simp), fun v => by simp [gcell, mcell, up3]⟩
theorem fM0_3 : Fld 6 0 7 13 3 := fun E u r => ⟨LB_m (by decide), [.ref (eA E 6 1), .ref (eA E 6 2), .ref (eA E 6 3), .int (u 6 0 0), .ref (eA E 6 4), .ref (eA E 6 5), .int (u 6 0 1), .ref (eA E 6 6), .ref (eA E 6 7), .ref (eA E 6 8), .int (u 6 0 2), .ref (eA E 6 9), .ref (eA E 6 10), .int (u 6 0 3), .int (u 6 0 4)], rfl, rfl, (by simp), fun v => by simp [gcell, mcell, up3]⟩
theorem fM0_4 : Fld 6 0 7 14 4 := fun E u r => ⟨LB_m (by decide), [.ref (eA E 6 1), .ref (eA E 6 2), .ref (eA E 6 3), .int (u 6 0 0), .ref (eA E 6 4), .ref (eA E 6 5), .int (u 6 0 1), .ref (eA E 6 6), .ref (eA E 6 7), .ref (eA E 6 8), .int (u 6 0 2), .ref (eA E 6 9), .ref (eA E 6 10), .int (u 6 0 3), .int (u 6 0 4)], rfl, rfl, (by simp), fun v => by simp [gcell, mcell, up3]⟩
