/-! a block's picture: h k j; and the rows for it -/
abbrev HB : Type := Nat → Nat → Int32
def ub (u : U3) (i : Nat) (h : HB) : U3 := fun i' => if i' = i then h else u i'
theorem ub_at (u : U3) (i : Nat) (h : HB) : ub u i h i = h := by simp [ub]
theorem ub_v {u : U3} {i : Nat} {h : HB} {k j : Nat} : ub u i h i k j = h k j := by rw [ub_at]
theorem ub_ne {u : U3} {i i' : Nat} {h : HB} (hn : i' ≠ i) : ub u i h i' = u i' := by simp [ub, hn]
theorem ub_ub (u : U3) (i : Nat) (h h' : HB) : ub (ub u i h) i h' = ub u i h' := by
  funext i'
  by_cases e : i' = i <;> simp [ub, e]
theorem ub_self (u : U3) (i : Nat) : ub u i (u i) = u := by
  funext i'
  by_cases e : i' = i
  · subst e; simp [ub]
  · simp [ub, e]
theorem ub_comm (u : U3) {i j : Nat} (hn : i ≠ j) (h h' : HB) : ub (ub u i h) j h' = ub (ub u j h') i h := by
  funext i'
  by_cases e : i' = i
  · subst e; simp [ub, hn]
  · by_cases e2 : i' = j
    · subst e2; simp [ub, e]
    · simp [ub, e, e2]
def up2 (h : HB) (k j : Nat) (v : Int32) : HB := fun k' j' => if k' = k ∧ j' = j then v else h k' j'
theorem up2_s (h : HB) (k j : Nat) (v : Int32) : up2 h k j v k j = v := by simp [up2]
theorem up2_n {h : HB} {k j : Nat} {v : Int32} {k' j' : Nat} (hn : ¬ (k' = k ∧ j' = j)) : up2 h k j v k' j' = h k' j' := by simp [up2, hn]
theorem up3_ub (u : U3) (i : Nat) (h : HB) (k j : Nat) (v : Int32) : up3 (ub u i h) i k j v = ub u i (up2 h k j v) := by
  funext i' k' j'
  by_cases e : i' = i
  · subst e; simp [up3, ub, up2]
  · simp [up3, ub, e]
def b2i (P : Prop) [Decidable P] : Int32 := if P then 1 else 0
theorem b2i_t {P : Prop} [Decidable P] (h : P) : b2i P = 1 := by simp [b2i, h]
theorem b2i_f {P : Prop} [Decidable P] (h : ¬ P) : b2i P = 0 := by simp [b2i, h]
theorem b2i_0 {P : Prop} [Decidable P] : b2i P = 0 ↔ ¬ P := by by_cases h : P <;> simp [b2i, h]
theorem b2i_z (P : Prop) [Decidable P] : narrow .boolean (.int (b2i P)) = .int (b2i P) := by by_cases h : P <;> simp only [b2i, h, if_true, if_false] <;> rfl
theorem b1_t {P : Prop} [Decidable P] (h : P) : nI 1 = b2i P := by rw [b2i_t h]; rfl
theorem b1_f {P : Prop} [Decidable P] (h : ¬ P) : nI 0 = b2i P := by rw [b2i_f h]; rfl
/-- a number that is a place below n -/
def vI (x : Int32) (n : Nat) : Prop := ∃ j : Nat, j < n ∧ x = nI j
abbrev ix (x : Int32) : Nat := x.toNatClampNeg
theorem ix_nI {j : Nat} (h : j < 2 ^ 31) : ix (nI j) = j := nI_clamp h
theorem ix_eq {x : Int32} {n : Nat} (h : vI x n) (hn : n < 2 ^ 31) : x = nI (ix x) := by
  obtain ⟨j, hj, rfl⟩ := h
  rw [ix_nI (by omega)]
theorem ix_lt {x : Int32} {n : Nat} (h : vI x n) (hn : n < 2 ^ 31) : ix x < n := by
  obtain ⟨j, hj, rfl⟩ := h
  rw [ix_nI (by omega)]; exact hj
theorem vI_nI {j n : Nat} (h : j < n) : vI (nI j) n := ⟨j, h, rfl⟩
theorem vI_ne {x : Int32} {n : Nat} (h : vI x n) (hn : n < 2 ^ 31) : ¬ x = -1 := by
  obtain ⟨j, hj, rfl⟩ := h
  intro e
  exact nI_pos (n := j) (by omega) (by rw [e]; decide)
theorem vI_of {x : Int32} {n : Nat} (hn : n < 2 ^ 31) (h1 : ¬ x < 0) (h2 : ¬ nI n ≤ x) : vI x n := by
  obtain ⟨j, hj, rfl⟩ := nI_of h1
  refine ⟨j, ?_, rfl⟩
  exact Nat.not_le.mp (fun z => h2 (nI_le z hj))
theorem nI_eq0 {a : Nat} (h : a < 2 ^ 31) : nI a = 0 ↔ a = 0 := by rw [← nI_0]; exact nI_eq h (by decide)
theorem nI_lt0 {a : Nat} (h : a < 2 ^ 31) : nI a < 0 ↔ False := ⟨fun z => nI_pos h z, fun z => z.elim⟩
theorem nI_ge0 {a : Nat} (h : a < 2 ^ 31) : 0 ≤ nI a ↔ True := ⟨fun _ => trivial, fun _ => nI_pos' h⟩
theorem nI_gt0 {a : Nat} (h : a < 2 ^ 31) : 0 < nI a ↔ 0 < a := by rw [← nI_0]; exact nI_ltI (by decide) h
theorem nI_le0 {a : Nat} (h : a < 2 ^ 31) : nI a ≤ 0 ↔ a ≤ 0 := by rw [← nI_0]; exact nI_leI h (by decide)
def iter {α : Type} (f : Nat → α → α) : Nat → α → α
  | 0, a => a
  | n + 1, a => f n (iter f n a)
theorem iter_keep {α β : Type} {f : Nat → α → α} (g : α → β) (hf : ∀ n a, g (f n a) = g a) (n : Nat) (a : α) : g (iter f n a) = g a := by
  induction n with
  | zero => rfl
  | succ n ih => exact (hf n _).trans ih
section TB
variable {E : EN} {F : FX} {cc : ByteArray} {nL : Nat} {own : String} {Ts : List Cond} {rm0 : Room} {u u' : U3} {r r' : R1} {pc : Nat} {lv : List (Nat × Value)} {st rest : List Value} {h : HB}
theorem tt_ialdB (C : Cx E F cc nL own Ts rm0) {i k n : Nat} {x v : Int32} (hA : Arr i k n) (j : Nat) (hx : x = nI j) (hj : j < n) (hv : h k j = v) (hd : decode cc pc = .ok (.iaload, 1)) (kk : T E F nL (ub u i h) r (pc + 1) lv (.int v :: st)) : T E F nL (ub u i h) r pc lv (.int x :: .ref (eA E i k) :: st) := tt_iald C hA j hx hj (ub_v.trans hv) hd kk
theorem tt_iastB (C : Cx E F cc nL own Ts rm0) {i k n : Nat} {x v : Int32} (hA : Arr i k n) (j : Nat) (hx : x = nI j) (hj : j < n) (hd : decode cc pc = .ok (.iastore, 1)) (kk : T E F nL (ub u i (up2 h k j v)) r (pc + 1) lv st) : T E F nL (ub u i h) r pc lv (.int v :: .int x :: .ref (eA E i k) :: st) := tt_iast C hA j hx hj hd (by rw [up3_ub]; exact kk)
theorem tt_putIB (C : Cx E F cc nL own Ts rm0) {i k ci j N idx n : Nat} {Cn : String} {Tt : u_T} {v : Int32} (hf : Fld i k ci n j) (hc : vwCl[ci]? = some (Cn, Tt, N)) (hin : ∀ w ∈ u_ws Cn Tt N, w ∈ Ts) (ty0 : Nat → FieldType) (hty : ∀ k, k < N → parseFieldDescriptor (Tt k).2.2.1 = some (ty0 k)) (hnm : ∀ a, a < N → ∀ b, b < N → a ≠ b → (Tt a).2.1 ≠ (Tt b).2.1) (hn : n < N) (hl0 : Cond.fieldLink own idx (Tt n).1 (Tt n).2.1 (Tt n).2.2.1 ∈ Ts) (hfin : (Tt n).2.2.2 = false) (hd9 : parseFieldDescriptor (Tt n).2.2.1 = some .int) (hd : decode cc pc = .ok (.putfield idx, 3)) (kk : T E F nL (ub u i (up2 h k j v)) r (pc + 3) lv st) : T E F nL (ub u i h) r pc lv (.int v :: .ref (eA E i k) :: st) := tt_putI C hf hc hin ty0 hty hnm hn hl0 hfin hd9 hd (by rw [up3_ub]; exact kk)
theorem tt_if_eqB (C : Cx E F cc nL own Ts rm0) {P : Prop} [Decidable P] {off : Int} {tgt : Nat} (hd : decode cc pc = .ok (.ifCond .eq off, 3)) (ht : (pc : Int) + off = (tgt : Int)) (kt : ¬ P → T E F nL u r tgt lv st) (kf : P → T E F nL u r (pc + 3) lv st) : T E F nL u r pc lv (.int (b2i P) :: st) := tt_if_eq C hd ht b2i_0 kt (fun z => kf (Decidable.not_not.mp z))
theorem tt_if_neB (C : Cx E F cc nL own Ts rm0) {P : Prop} [Decidable P] {off : Int} {tgt : Nat} (hd : decode cc pc = .ok (.ifCond .ne off, 3)) (ht : (pc : Int) + off = (tgt : Int)) (kt : P → T E F nL u r tgt lv st) (kf : ¬ P → T E F nL u r (pc + 3) lv st) : T E F nL u r pc lv (.int (b2i P) :: st) := tt_if_ne C hd ht b2i_0 (fun z => kt (Decidable.not_not.mp z)) kf
end TB
