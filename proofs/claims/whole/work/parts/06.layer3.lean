/-! the row that a copy leaves; Math.min; arraycopy -/
def urow (u : U3) (i k : Nat) (f : Nat → Int32) : U3 := fun i' k' => if i' = i ∧ k' = k then f else u i' k'
theorem urow_s (u : U3) (i k : Nat) (f : Nat → Int32) : urow u i k f i k = f := by simp [urow]
theorem urow_cell {u : U3} {i k : Nat} {f : Nat → Int32} {q : Nat × Nat} (h : q ≠ (i, k)) : urow u i k f q.1 q.2 = u q.1 q.2 := by
  have hn : ¬ (q.1 = i ∧ q.2 = k) := fun z => h (Prod.ext z.1 z.2)
  simp [urow, hn]
def cp2 (h g : HB) (k n : Nat) : HB := fun k' j' => if k' = k ∧ j' < n then g k' j' else h k' j'
theorem urow_ub (u : U3) {i i2 : Nat} (hne : i2 ≠ i) (h g : HB) (k n : Nat) : urow (ub (ub u i2 g) i h) i k (va_cpy (ub (ub u i2 g) i h i2 k) (ub (ub u i2 g) i h i k) 0 0 n) = ub (ub u i2 g) i (cp2 h g k n) := by
  have e1 : ub (ub u i2 g) i h i2 = g := by rw [ub_ne hne, ub_at]
  have e2 : ub (ub u i2 g) i h i = h := ub_at _ _ _
  rw [e1, e2]
  funext i' k' j'
  by_cases hi : i' = i
  · subst hi
    by_cases hk : k' = k
    · subst hk
      by_cases hj : j' < n <;> simp [urow, ub, cp2, va_cpy, hj]
    · simp [urow, ub, cp2, hk]
  · simp [urow, ub, hi]
theorem cp2_n {h g : HB} {k n k' j : Nat} (hk : k' ≠ k) : cp2 h g k n k' j = h k' j := by simp [cp2, hk]
theorem ub_w {u : U3} {i i2 : Nat} {g h : HB} {k j : Nat} (hne : i2 ≠ i) : ub (ub u i2 g) i h i2 k j = g k j := by rw [ub_ne hne, ub_at]
theorem CT_comm {E : EN} {y : MethodName} {ws : List Cond} {rm : Room} {as : List Value} {u : U3} {i : Nat} {h h' t : HB} {r r' : R1} {oc : Option Value} (hne : i ≠ 5) (hc : CT E y ws rm as (ub (ub u 5 t) i h) r oc (ub (ub u 5 t) i h') r') : CT E y ws rm as (ub (ub u i h) 5 t) r oc (ub (ub u i h') 5 t) r' := by
  rw [ub_comm u hne, ub_comm u hne h']
  exact hc
section TC
variable {E : EN} {F : FX} {cc : ByteArray} {nL : Nat} {own : String} {Ts : List Cond} {rm0 : Room} {u u' : U3} {r r' : R1} {pc : Nat} {lv : List (Nat × Value)} {st rest : List Value} {h : HB}
theorem tt_mmin (C : Cx E F cc nL own Ts rm0) {idx : Nat} {x y v : Int32} (h1 : Cond.methodLink own idx Lib.Math.min.name ∈ Ts) (h2 : Cond.static Lib.Math.min.name ∈ Ts) (h3 : Cond.initialized "java/lang/Math" ∈ Ts) (h4 : Cond.code Lib.Math.min.name Lib.Math.min.code 2 (some .int) ∈ Ts) (hf : 1 ≤ rm0.frames) (hl0 : (st.map fun v => v.category).sum + 13 ≤ rm0.locals) (hd : decode cc pc = .ok (.invokestatic idx, 3)) (hv : (if y < x then y else x) = v) (k : T E F nL u r (pc + 3) lv (.int v :: st)) : T E F nL u r pc lv (.int y :: .int x :: st) := by
  intro ls H locs hl hP hS
  have hR := C.2.2.2.2.2.2.2.2.2.2.2.2.1
  refine va_mmin C.1 C.2.1 (by rw [C.2.2.1]; exact hl.1.symm) C.2.2.2.1 (C.2.2.2.2.1 _ h1) (C.2.2.2.2.1 _ h2) (C.2.2.2.2.1 _ h3) (C.2.2.2.2.1 _ h4) (by rw [hR]; exact hf) (by rw [hR]; exact hl0) (by rw [hR]; exact C.2.2.2.2.2.2.2.2.2.2.2.2.2.1) (by rw [hR]; exact C.2.2.2.2.2.2.2.2.2.2.2.2.2.2) hd ?_
  rw [hv]
  exact k ls H locs hl hP hS
theorem tt_acopy (C : Cx E F cc nL own Ts rm0) {idx i i2 k n n1 n2 : Nat} (h1 : Cond.methodLink own idx arraycopyName ∈ Ts) (h2 : Cond.native arraycopyName ∈ Ts) (h3 : Cond.static arraycopyName ∈ Ts) (h4 : Cond.initialized "java/lang/System" ∈ Ts) (hA1 : Arr i2 k n1) (hA2 : Arr i k n2) (hn1 : n ≤ n1) (hn2 : n ≤ n2) (hf : 1 ≤ rm0.frames) (hl0 : (st.map fun v => v.category).sum + 18 ≤ rm0.locals) (hd : decode cc pc = .ok (.invokestatic idx, 3)) (kk : T E F nL (urow u i k (va_cpy (u i2 k) (u i k) 0 0 n)) r (pc + 3) lv st) : T E F nL u r pc lv (.int (nI n) :: .int (nI 0) :: .ref (eA E i k) :: .int (nI 0) :: .ref (eA E i2 k) :: st) := by
  intro ls H locs hl hP hS
  have hR := C.2.2.2.2.2.2.2.2.2.2.2.2.1
  obtain ⟨p1, -, hp1⟩ := wg_place (E := E) (u := u) (r := r) hA1.1.1
  obtain ⟨p2, hq2, hp2⟩ := wg_place (E := E) (u := u) (r := r) hA2.1.1
  rw [hA1.2 E u r] at hp1
  rw [hA2.2 E u r] at hp2
  have b1 : n1 < 3000 := hA1.1.2
  have c0 : (nI 0).toNatClampNeg = 0 := rfl
  have cn : (nI n).toNatClampNeg = n := nI_clamp (by omega)
  refine va_copyi (A := fB F) (ty := .int) C.1 C.2.1 (by rw [C.2.2.1]; exact hl.1.symm) C.2.2.2.1 (C.2.2.2.2.1 _ h1) (C.2.2.2.2.1 _ h2) (C.2.2.2.2.1 _ h3) (C.2.2.2.2.1 _ h4) C.2.2.2.2.2.1 hP (wg_D C.2.2.2.2.2.2.1 C.2.2.2.2.2.2.2.1) hS p1 p2 0 0 hp1 hp2 rfl rfl rfl (nI_pos (by decide)) (nI_pos (by decide)) (nI_pos (by omega)) (by rw [c0, cn]; omega) (by rw [c0, cn]; omega) (fun _ _ => rfl) (by rw [hR]; exact hf) (by rw [hR]; exact hl0) hd (fun H1 locs1 hP1 _ hS1 => ?_)
  rw [c0, cn] at hP1
  have e1 : (.inl (eI E, n2, .inl (va_cpy (u i2 k) (u i k) 0 0 n)) : va_E) = gcell E (urow u i k (va_cpy (u i2 k) (u i k) 0 0 n)) r (i, k) := by rw [hA2.2, urow_s]
  rw [e1, wg_set hq2 (fun q' hm hq => gcell_cong hm (urow_cell hq))] at hP1
  exact kk ls H1 locs1 hl hP1 hS1
end TC
