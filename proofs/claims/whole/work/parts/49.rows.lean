/-! kept and now: r changes -/
def upr (r : R1) (j v : Nat) : R1 := fun a => if a = j then v else r a
theorem upr_s (r : R1) (j v : Nat) : upr r j v j = v := by simp [upr]
theorem upr_n {r : R1} {j v a : Nat} (h : a ≠ j) : upr r j v a = r a := by simp [upr, h]
theorem gc51 (E : EN) (u : U3) (r : R1) : gcell E u r (5, 1) = .inl (eO E, 4, .inr (.inr (.inr (.inr (fun j => some (eA E (r (j + 1)) 0)))))) := rfl
theorem gc_upr {E : EN} {u : U3} {r : R1} {j v : Nat} : ∀ q' ∈ LB, q' ≠ (5, 1) → gcell E u (upr r (j + 1) v) q' = gcell E u r q' := by
  intro q hq hne
  unfold gcell
  split
  · rfl
  · split
    · next h1 h2 =>
      have h3 : q.2 ≠ 1 := fun z => hne (Prod.ext h2 z)
      unfold tcell
      rw [if_neg h3, if_neg h3, upr_n (by omega)]
    · rfl
theorem gc_upr0 {E : EN} {u : U3} {r : R1} {v : Nat} : ∀ q' ∈ LB, q' ≠ (5, 0) → gcell E u (upr r 0 v) q' = gcell E u r q' := by
  intro q hq hne
  unfold gcell
  split
  · rfl
  · split
    · next h1 h2 =>
      have h3 : q.2 ≠ 0 := fun z => hne (Prod.ext h2 z)
      unfold tcell
      rw [if_neg h3, if_neg h3]
      rw [show (fun j => some (eA E (upr r 0 v (j + 1)) 0)) = (fun j => some (eA E (r (j + 1)) 0)) from by funext j; rw [upr_n (by omega)]]
    · rfl
section
variable {E : EN} {F : FX} {cc : ByteArray} {nL : Nat} {own : String} {Ts : List Cond} {rm0 : Room} {u : U3} {r : R1} {pc : Nat} {lv : List (Nat × Value)} {st : List Value}
theorem tt_aaldK (C : Cx E F cc nL own Ts rm0) {x : Int32} (j : Nat) (hx : x = nI j) (hj : j < 4) (hd : decode cc pc = .ok (.aaload, 1)) (kk : T E F nL u r (pc + 1) lv (.ref (eA E (r (j + 1)) 0) :: st)) : T E F nL u r pc lv (.int x :: .ref (eA E 5 1) :: st) := by
  intro ls H locs hl hP hS
  obtain ⟨p, -, hp⟩ := wg_place (E := E) (u := u) (r := r) (LB_t (k := 1) (by decide))
  rw [gc51] at hp
  subst hx
  refine va_aldq C.1 C.2.1 C.2.2.2.2.2.1 hP p 1 hp rfl (vp_in_nI hj (by omega)) hd ?_
  rw [nI_clamp (by omega)]
  exact kk ls H locs hl hP hS
theorem tt_aastK (C : Cx E F cc nL own Ts rm0) {x : Int32} (j i : Nat) (hi : i < 5) (hx : x = nI j) (hj : j < 4) (hd : decode cc pc = .ok (.aastore, 1)) (kk : T E F nL u (upr r (j + 1) i) (pc + 1) lv st) : T E F nL u r pc lv (.ref (eA E i 0) :: .int x :: .ref (eA E 5 1) :: st) := by
  intro ls H locs hl hP hS
  obtain ⟨p, hp0, hp⟩ := wg_place (E := E) (u := u) (r := r) (LB_t (k := 1) (by decide))
  obtain ⟨q, -, hq⟩ := wg_place (E := E) (u := u) (r := r) (LB_h (i := i) (k := 0) hi (by decide))
  rw [gc51] at hp
  rw [(oH0 (E := E) (u := u) (r := r) hi).2] at hq
  subst hx
  refine va_astq (A := fB F) C.1 C.2.1 C.2.2.2.2.2.1 hP (wg_D C.2.2.2.2.2.2.1 C.2.2.2.2.2.2.2.1) hS p 1 q 2 hp rfl hq rfl (vp_in_nI hj (by omega)) hd (fun H1 locs1 hP1 _ hS1 => ?_)
  have e9 : (Sum.inl (eO E, 4, .inr (.inr (.inr (.inr (va_up (fun j => some (eA E (r (j + 1)) 0)) (nI j).toNatClampNeg (some (eA E i 0))))))) : va_E) = gcell E u (upr r (j + 1) i) (5, 1) := by
    rw [gc51, nI_clamp (by omega)]
    congr 7
    funext a
    by_cases z : a = j
    · subst z; simp [va_up, upr]
    · simp [va_up, upr, z]
  have hP2 : va_P (eD E) vwCl ((wg E u r).set p (eA E 5 1, gcell E u (upr r (j + 1) i) (5, 1))) H1 := by rw [← e9]; exact hP1
  have e8 : (wg E u r).set p (eA E 5 1, gcell E u (upr r (j + 1) i) (5, 1)) = wg E u (upr r (j + 1) i) := wg_set hp0 gc_upr
  rw [e8] at hP2
  exact kk ls H1 locs1 hl hP2 hS1
theorem tt_putNow (C : Cx E F cc nL own Ts rm0) {idx : Nat} {Tt : u_T} (i : Nat) (hc : vwCl[6]? = some (RX6, Tt, 8)) (hin : ∀ w ∈ u_ws RX6 Tt 8, w ∈ Ts) (ty0 : Nat → FieldType) (hty : ∀ k, k < 8 → parseFieldDescriptor (Tt k).2.2.1 = some (ty0 k)) (hnm : ∀ a, a < 8 → ∀ b, b < 8 → a ≠ b → (Tt a).2.1 ≠ (Tt b).2.1) (hl0 : Cond.fieldLink own idx (Tt 0).1 (Tt 0).2.1 (Tt 0).2.2.1 ∈ Ts) (hfin : (Tt 0).2.2.2 = false) (hd9 : parseFieldDescriptor (Tt 0).2.2.1 = some (.object "BadgeDoors$House")) (hd : decode cc pc = .ok (.putfield idx, 3)) (kk : T E F nL u (upr r 0 i) (pc + 3) lv st) : T E F nL u r pc lv (.ref (eA E i 0) :: .ref (eA E 5 0) :: st) := by
  intro ls H locs hl hP hS
  obtain ⟨p, hp0, hp⟩ := wg_place (E := E) (u := u) (r := r) (LB_t (k := 0) (by decide))
  rw [(oT0 (E := E) (u := u) (r := r)).2] at hp
  refine va_put (A := fB F) C.1 C.2.1 C.2.2.2.2.1 hin ty0 hty hnm C.2.2.2.1 C.2.2.2.2.2.1 hP (wg_D C.2.2.2.2.2.2.1 C.2.2.2.2.2.2.2.1) hS p hp hc 0 (by decide) (C.2.2.2.2.1 _ hl0) (fun _ h9 => h9) hfin hd9 rfl rfl (by simp) hd (fun H1 locs1 hP1 _ hS1 => ?_)
  have e8 : (wg E u r).set p (eA E 5 0, gcell E u (upr r 0 i) (5, 0)) = wg E u (upr r 0 i) := wg_set hp0 gc_upr0
  have hP2 : va_P (eD E) vwCl ((wg E u r).set p (eA E 5 0, gcell E u (upr r 0 i) (5, 0))) H1 := hP1
  rw [e8] at hP2
  exact kk ls H1 locs1 hl hP2 hS1
end
