def mt (y : HB) (b t d : Nat) : Prop := dF y d = t ∧ cp y b d ∧ y 9 (dT y d) + nI 1 = y 9 t
def WkOk (y : HB) (b : Nat) : List Nat → Nat → Prop
  | [], t => y 9 t ≤ 0 ∨ nI 100 ≤ y 9 t
  | D :: l, t => ¬ y 9 t ≤ 0 ∧ ¬ nI 100 ≤ y 9 t ∧ D < ix (y 1 529) ∧ mt y b t D ∧ (∀ d, d < D → ¬ mt y b t d) ∧ WkOk y b l (dT y D)
def wkH : List Nat → Nat → HB → HB
  | [], _, x => x
  | D :: l, m, x => wkH l (m + 1) (up2 (up2 x 10 m (nI D)) 0 3 (nI (m + 1)))
theorem wkH_n : ∀ (l : List Nat) (m : Nat) (x : HB) {k j : Nat}, k ≠ 10 → ¬ (k = 0 ∧ j = 3) → wkH l m x k j = x k j
  | [], m, x, k, j, _, _ => rfl
  | D :: l, m, x, k, j, h1, h2 => by
    rw [wkH, wkH_n l (m + 1) _ h1 h2, up2_n h2, up2_n (fun z => h1 z.1)]
theorem wkH_m : ∀ (l : List Nat) (m : Nat) (x : HB), x 0 3 = nI m → wkH l m x 0 3 = nI (m + l.length)
  | [], m, x, e => e
  | D :: l, m, x, e => by
    rw [wkH, wkH_m l (m + 1) _ (up2_s _ _ _ _), show m + 1 + l.length = m + (D :: l).length from by simp; omega]

set_option maxHeartbeats 4000000 in
set_option maxRecDepth 100000 in
theorem l_wS (E : EN) (u : U3) (r : R1) (h : HB) (b a c t D : Nat) (hb : b < 8) (ht : t < 6) (hD : vI (h 1 529) 9) (hO : DOk h) (hDm : D < ix (h 1 529)) (hD1 : mt h b t D) (hD2 : ∀ d, d < D → ¬ mt h b t d) (F : FX) (C : Cx E F cX7_findWay 8 RX7 wsX7_findWay (rmT 4 85)) (Kc : T E F 8 (ub u 6 h) r 224 [(0, .ref (eA E 6 0)), (1, .int (nI b)), (2, .int (nI a)), (3, .int (nI c)), (4, .int (nI t)), (5, .int (nI D))] []) : ∀ (n j : Nat), j ≤ D → D + 1 ≤ j + n → T E F 8 (ub u 6 h) r 172 [(0, .ref (eA E 6 0)), (1, .int (nI b)), (2, .int (nI a)), (3, .int (nI c)), (4, .int (nI t)), (5, .int (nI j))] [] := by
  have hin7 : ∀ w ∈ u_ws RX7 TX7 15, w ∈ wsX7_findWay := by decide +kernel
  have hD' := ix_lt hD (by decide)
  intro n
  induction n with
  | zero => intro j h1 h2; exact absurd h2 (by omega)
  | succ n ih =>
    intro j h1 h2
    obtain ⟨hv0, hv1⟩ := hO j (by omega)
    have hv0' : dF h j < 6 := ix_lt hv0 (by decide)
    have hv1' : dT h j < 6 := ix_lt hv1 (by decide)
    refine tt_aload_n C dX7_findWay_172 rfl 0 rfl ?_
    refine tt_iload C dX7_findWay_173 5 rfl ?_
    refine tt_iconst (v := nI 0) C dX7_findWay_175 (by decide) ?_
    refine tt_cVI C (c_X7_ofDoor E u r h j 0 (by first | assumption | omega) (by first | assumption | omega)) gX7_findWay_X7_ofDoor rfl ⟨rfl, rfl⟩ 2 (by decide +kernel) ⟨Nat.le_of_ble_eq_true rfl, Nat.le_of_ble_eq_true rfl⟩ rfl oM0 rfl (Nat.le_of_ble_eq_true rfl) dX7_findWay_176 rfl ?_
    refine tt_to (st1 := [.int (nI (dF h j))]) rfl rfl rfl (congrArg (fun z => ([.int z] : List Value)) (ix_eq hv0 (by decide))) ?_
    refine tt_iload C dX7_findWay_179 4 rfl ?_
    refine tt_icmp_ne C (tgt := 218) dX7_findWay_181 (by decide) (nI_eq (by omega) (by omega)) (fun c_1001 => ?_) (fun c_1001 => ?_)
    · skip
      refine tt_iinc (p := 5) (v := nI (j + 1)) (lv' := [(0, .ref (eA E 6 0)), (1, .int (nI b)), (2, .int (nI a)), (3, .int (nI c)), (4, .int (nI t)), (5, .int (nI (j + 1)))]) C dX7_findWay_218 rfl (by rw [show Int32.ofInt 1 = nI 1 from by decide]; exact nI_add _ _) (by decide) [1, 2, 3, 4, 5, 0] rfl ?_
      refine tt_goto (tgt := 172) C dX7_findWay_221 (by decide) ?_
      have hne : j ≠ D := fun q => by subst q; exact absurd hD1 (fun z => c_1001 z.1)
      exact ih (j + 1) (by omega) (by omega)
    · skip
      refine tt_aload_n C dX7_findWay_184 rfl 0 rfl ?_
      refine tt_iload_n C dX7_findWay_185 rfl 1 rfl ?_
      refine tt_iload C dX7_findWay_186 5 rfl ?_
      refine tt_cVI C (c_X7_couldPass E u r h b j (by first | assumption | omega) (by first | assumption | omega)) gX7_findWay_X7_couldPass rfl ⟨rfl, rfl⟩ 2 (by decide +kernel) ⟨Nat.le_of_ble_eq_true rfl, Nat.le_of_ble_eq_true rfl⟩ rfl oM0 rfl (Nat.le_of_ble_eq_true rfl) dX7_findWay_188 rfl ?_
      refine tt_if_eqB C (tgt := 218) dX7_findWay_191 (by decide) (fun c_1002 => ?_) (fun c_1002 => ?_)
      · skip
        refine tt_iinc (p := 5) (v := nI (j + 1)) (lv' := [(0, .ref (eA E 6 0)), (1, .int (nI b)), (2, .int (nI a)), (3, .int (nI c)), (4, .int (nI t)), (5, .int (nI (j + 1)))]) C dX7_findWay_218 rfl (by rw [show Int32.ofInt 1 = nI 1 from by decide]; exact nI_add _ _) (by decide) [1, 2, 3, 4, 5, 0] rfl ?_
        refine tt_goto (tgt := 172) C dX7_findWay_221 (by decide) ?_
        have hne : j ≠ D := fun q => by subst q; exact absurd hD1 (fun z => c_1002 z.2.1)
        exact ih (j + 1) (by omega) (by omega)
      · skip
        refine tt_aload_n C dX7_findWay_194 rfl 0 rfl ?_
        refine tt_get (v := .ref (eA E 6 9)) C oM0 rfl hin7 11 (by decide) (List.mem_of_getElem? (i := 1) (by decide +kernel)) rfl dX7_findWay_195 ?_
        refine tt_aload_n C dX7_findWay_198 rfl 0 rfl ?_
        refine tt_iload C dX7_findWay_199 5 rfl ?_
        refine tt_iconst (v := nI 1) C dX7_findWay_201 (by decide) ?_
        refine tt_cVI C (c_X7_ofDoor E u r h j 1 (by first | assumption | omega) (by first | assumption | omega)) gX7_findWay_X7_ofDoor rfl ⟨rfl, rfl⟩ 2 (by decide +kernel) ⟨Nat.le_of_ble_eq_true rfl, Nat.le_of_ble_eq_true rfl⟩ rfl oM0 rfl (Nat.le_of_ble_eq_true rfl) dX7_findWay_202 rfl ?_
        refine tt_to (st1 := [.int (nI (dT h j)), .ref (eA E 6 9)]) rfl rfl rfl (congrArg (fun z => ([.int z, .ref (eA E 6 9)] : List Value)) (ix_eq hv1 (by decide))) ?_
        refine tt_ialdB (v := h 9 (dT h j)) C aM9 (dT h j) rfl (by omega) rfl dX7_findWay_205 ?_
        refine tt_iconst (v := nI 1) C dX7_findWay_206 (by decide) ?_
        refine tt_iadd C dX7_findWay_207 rfl ?_
        refine tt_aload_n C dX7_findWay_208 rfl 0 rfl ?_
        refine tt_get (v := .ref (eA E 6 9)) C oM0 rfl hin7 11 (by decide) (List.mem_of_getElem? (i := 1) (by decide +kernel)) rfl dX7_findWay_209 ?_
        refine tt_iload C dX7_findWay_212 4 rfl ?_
        refine tt_ialdB (v := h 9 t) C aM9 t rfl (by omega) rfl dX7_findWay_214 ?_
        refine tt_icmp_eq C (tgt := 224) dX7_findWay_215 (by decide) Iff.rfl (fun c_1003 => ?_) (fun c_1003 => ?_)
        · skip
          have he : j = D := by
            rcases Nat.lt_or_ge j D with q | q
            · exact absurd ⟨c_1001, c_1002, c_1003⟩ (hD2 j q)
            · omega
          rw [he]; exact Kc
        · skip
          refine tt_iinc (p := 5) (v := nI (j + 1)) (lv' := [(0, .ref (eA E 6 0)), (1, .int (nI b)), (2, .int (nI a)), (3, .int (nI c)), (4, .int (nI t)), (5, .int (nI (j + 1)))]) C dX7_findWay_218 rfl (by rw [show Int32.ofInt 1 = nI 1 from by decide]; exact nI_add _ _) (by decide) [1, 2, 3, 4, 5, 0] rfl ?_
          refine tt_goto (tgt := 172) C dX7_findWay_221 (by decide) ?_
          have hne : j ≠ D := fun q => by subst q; exact absurd hD1 (fun z => c_1003 z.2.2)
          exact ih (j + 1) (by omega) (by omega)

theorem cp_of {x y : HB} (e1 : x 1 = y 1) (e9 : x 9 = y 9) {b t d : Nat} : mt x b t d ↔ mt y b t d := by
  unfold mt
  rw [show cp x b d = cp y b d from propext (cp_row e1 b d), e9]
  unfold dF dT
  rw [e1]

set_option maxHeartbeats 4000000 in
set_option maxRecDepth 100000 in
theorem l_wW (E : EN) (u : U3) (r : R1) (y : HB) (b a c : Nat) (hb : b < 8) (hD : vI (y 1 529) 9) (hO : DOk y) (F : FX) (C : Cx E F cX7_findWay 8 RX7 wsX7_findWay (rmT 4 85)) : ∀ (l : List Nat) (m : Nat) (x : HB) (t : Nat), x 1 = y 1 → x 9 = y 9 → x 0 3 = nI m → t < 6 → m + l.length ≤ 8 → WkOk y b l t → RtV E F cX7_findWay (ub u 6 (wkH l m x)) r → T E F 8 (ub u 6 x) r 147 [(0, .ref (eA E 6 0)), (1, .int (nI b)), (2, .int (nI a)), (3, .int (nI c)), (4, .int (nI t))] [] := by
  have hin7 : ∀ w ∈ u_ws RX7 TX7 15, w ∈ wsX7_findWay := by decide +kernel
  have hD' := ix_lt hD (by decide)
  intro l
  induction l with
  | nil =>
    intro m x t e1 e9 f3 ht hl hW K
    refine tt_aload_n C dX7_findWay_147 rfl 0 rfl ?_
    refine tt_get (v := .ref (eA E 6 9)) C oM0 rfl hin7 11 (by decide) (List.mem_of_getElem? (i := 1) (by decide +kernel)) rfl dX7_findWay_148 ?_
    refine tt_iload C dX7_findWay_151 4 rfl ?_
    refine tt_ialdB (v := y 9 t) C aM9 t rfl (by omega) (congrFun e9 t) dX7_findWay_153 ?_
    refine tt_if_le C (tgt := 257) dX7_findWay_154 (by decide) Iff.rfl (fun c_1101 => ?_) (fun c_1101 => ?_)
    · skip
      exact tt_vret K dX7_findWay_257 (by rfl) rfl
    · skip
      refine tt_aload_n C dX7_findWay_157 rfl 0 rfl ?_
      refine tt_get (v := .ref (eA E 6 9)) C oM0 rfl hin7 11 (by decide) (List.mem_of_getElem? (i := 1) (by decide +kernel)) rfl dX7_findWay_158 ?_
      refine tt_iload C dX7_findWay_161 4 rfl ?_
      refine tt_ialdB (v := y 9 t) C aM9 t rfl (by omega) (congrFun e9 t) dX7_findWay_163 ?_
      refine tt_bipush (v := nI 100) C dX7_findWay_164 (by decide) ?_
      refine tt_icmp_ge C (tgt := 257) dX7_findWay_166 (by decide) Iff.rfl (fun c_1102 => ?_) (fun c_1102 => ?_)
      · skip
        exact tt_vret K dX7_findWay_257 (by rfl) rfl
      · skip
        exact absurd hW (fun z => z.elim c_1101 c_1102)
  | cons D l ih =>
    intro m x t e1 e9 f3 ht hl hW K
    obtain ⟨hW1, hW2, hW3, hW4, hW5, hW6⟩ := hW
    obtain ⟨hv0, hv1⟩ := hO D hW3
    have hv1' : dT y D < 6 := ix_lt hv1 (by decide)
    have hl' : m + 1 ≤ 8 := by simp at hl; omega
    refine tt_aload_n C dX7_findWay_147 rfl 0 rfl ?_
    refine tt_get (v := .ref (eA E 6 9)) C oM0 rfl hin7 11 (by decide) (List.mem_of_getElem? (i := 1) (by decide +kernel)) rfl dX7_findWay_148 ?_
    refine tt_iload C dX7_findWay_151 4 rfl ?_
    refine tt_ialdB (v := y 9 t) C aM9 t rfl (by omega) (congrFun e9 t) dX7_findWay_153 ?_
    refine tt_if_le C (tgt := 257) dX7_findWay_154 (by decide) Iff.rfl (fun c_1201 => ?_) (fun c_1201 => ?_)
    · skip
      exact absurd c_1201 hW1
    · skip
      refine tt_aload_n C dX7_findWay_157 rfl 0 rfl ?_
      refine tt_get (v := .ref (eA E 6 9)) C oM0 rfl hin7 11 (by decide) (List.mem_of_getElem? (i := 1) (by decide +kernel)) rfl dX7_findWay_158 ?_
      refine tt_iload C dX7_findWay_161 4 rfl ?_
      refine tt_ialdB (v := y 9 t) C aM9 t rfl (by omega) (congrFun e9 t) dX7_findWay_163 ?_
      refine tt_bipush (v := nI 100) C dX7_findWay_164 (by decide) ?_
      refine tt_icmp_ge C (tgt := 257) dX7_findWay_166 (by decide) Iff.rfl (fun c_1202 => ?_) (fun c_1202 => ?_)
      · skip
        exact absurd c_1202 hW2
      · skip
        refine tt_iconst (v := nI 0) C dX7_findWay_169 (by decide) ?_
        refine tt_istore (lv' := [(0, .ref (eA E 6 0)), (1, .int (nI b)), (2, .int (nI a)), (3, .int (nI c)), (4, .int (nI t)), (5, .int (nI 0))]) C dX7_findWay_170 (by decide) [1, 2, 3, 4, 5, 0] rfl ?_
        refine l_wS E u r x b a c t D hb ht (by rw [e1]; exact hD) (by intro d hd; rw [e1] at hd ⊢; exact hO d hd) (by rw [e1]; exact hW3) ((cp_of e1 e9).mpr hW4) (fun d hd z => hW5 d hd ((cp_of e1 e9).mp z)) F C ?_ (D + 1) 0 (by omega) (by omega)
        refine tt_aload_n C dX7_findWay_224 rfl 0 rfl ?_
        refine tt_get (v := .ref (eA E 6 10)) C oM0 rfl hin7 12 (by decide) (List.mem_of_getElem? (i := 4) (by decide +kernel)) rfl dX7_findWay_225 ?_
        refine tt_aload_n C dX7_findWay_228 rfl 0 rfl ?_
        refine tt_getI (v := nI m) C oM0 rfl hin7 13 (by decide) (List.mem_of_getElem? (i := 3) (by decide +kernel)) rfl (ub_v.trans f3) dX7_findWay_229 ?_
        refine tt_iload C dX7_findWay_232 5 rfl ?_
        refine tt_iastB C aM10 m rfl (by omega) dX7_findWay_234 ?_
        generalize e_1204 : up2 x 10 m (nI D) = h_1203
        refine tt_aload_n C dX7_findWay_235 rfl 0 rfl ?_
        refine tt_dup C dX7_findWay_236 rfl ?_
        refine tt_getI (v := nI m) C oM0 rfl hin7 13 (by decide) (List.mem_of_getElem? (i := 3) (by decide +kernel)) rfl (ub_v.trans (by rw [← e_1204, up2_n (fun z => absurd z.1 (by decide))]; exact f3)) dX7_findWay_237 ?_
        refine tt_iconst (v := nI 1) C dX7_findWay_240 (by decide) ?_
        refine tt_iadd (v := nI (m + 1)) C dX7_findWay_241 (nI_add _ _) ?_
        refine tt_putIB C fM0_3 rfl hin7 tyX7 tyX7_ok nmX7 (by decide) (List.mem_of_getElem? (i := 3) (by decide +kernel)) (by decide +kernel) (by decide +kernel) dX7_findWay_242 ?_
        generalize e_1206 : up2 h_1203 0 3 (nI (m + 1)) = h_1205
        refine tt_aload_n C dX7_findWay_245 rfl 0 rfl ?_
        refine tt_iload C dX7_findWay_246 5 rfl ?_
        refine tt_iconst (v := nI 1) C dX7_findWay_248 (by decide) ?_
        refine tt_cVI C (c_X7_ofDoor E u r h_1205 D 1 (by first | assumption | omega) (by first | assumption | omega)) gX7_findWay_X7_ofDoor rfl ⟨rfl, rfl⟩ 2 (by decide +kernel) ⟨Nat.le_of_ble_eq_true rfl, Nat.le_of_ble_eq_true rfl⟩ rfl oM0 rfl (Nat.le_of_ble_eq_true rfl) dX7_findWay_249 rfl ?_
        refine tt_to (st1 := [.int (nI (dT y D))]) rfl rfl rfl (congrArg (fun z => ([.int z] : List Value)) (by rw [← e_1206, up2_n (fun z => absurd z.1 (by decide)), ← e_1204, up2_n (fun z => absurd z.1 (by decide))]; exact ((congrFun e1 (60 * D + 1)).trans (ix_eq hv1 (by decide))))) ?_
        refine tt_istore (lv' := [(0, .ref (eA E 6 0)), (1, .int (nI b)), (2, .int (nI a)), (3, .int (nI c)), (4, .int (nI (dT y D))), (5, .int (nI D))]) C dX7_findWay_252 (by decide) [1, 2, 3, 4, 0, 5] rfl ?_
        refine tt_goto (tgt := 147) C dX7_findWay_254 (by decide) ?_
        subst e_1206
        subst e_1204
        refine tt_lvsub [0, 1, 2, 3, 4] rfl ?_
        refine ih (m + 1) _ (dT y D) (by rw [up2_row (by decide), up2_row (by decide)]; exact e1) (by rw [up2_row (by decide), up2_row (by decide)]; exact e9) (up2_s _ _ _ _) hv1' (by simp at hl; omega) hW6 K

def M_far (h : HB) (b c : Nat) : HB := iter (fwR h b) 6 (iter (fwA c) 6 h)
def M_way (h : HB) (b c : Nat) (l : List Nat) : HB := wkH l 0 (up2 (M_far h b c) 0 3 (nI 0))
theorem M_far_row {h : HB} {b c k : Nat} (hk : k ≠ 9) : M_far h b c k = h k := by
  unfold M_far
  rw [fwR_row _ _ _ _ _ hk, fwA_row _ _ _ _ hk]

set_option maxHeartbeats 4000000 in
set_option maxRecDepth 100000 in
theorem c_X7_findWay (E : EN) (u : U3) (r : R1) (h : HB) (b : Nat) (a : Nat) (c : Nat) (l : List Nat) (hb : b < 8) (ha : a < 6) (hc : c < 6) (hD : vI (h 1 529) 9) (hO : DOk h) (hl : l.length ≤ 8) (hW : WkOk (M_far h b c) b l a) : CT E yX7_findWay wsX7_findWay (rmT 4 85) [.ref (eA E 6 0), .int (nI b), .int (nI a), .int (nI c)] (ub u 6 h) r none (ub u 6 (M_way h b c l)) r := by
  refine CT_ofV (cc := cX7_findWay) (nL := 8) (own := RX7) (by decide) rfl rfl (Nat.le_of_ble_eq_true rfl) (fun F C K => ?_)
  have hin7 : ∀ w ∈ u_ws RX7 TX7 15, w ∈ wsX7_findWay := by decide +kernel
  refine tt_to (lv1 := [(0, .ref (eA E 6 0)), (1, .int (nI b)), (2, .int (nI a)), (3, .int (nI c))]) rfl rfl rfl rfl ?_
  refine tt_iconst (v := nI 0) C dX7_findWay_0 (by decide) ?_
  refine tt_istore (lv' := [(0, .ref (eA E 6 0)), (1, .int (nI b)), (2, .int (nI a)), (3, .int (nI c)), (4, .int (nI 0))]) C dX7_findWay_1 (by decide) [1, 2, 3, 4, 0] rfl ?_
  refine l_wA E u r h b a c hb ha hc F C ?_ 7 0 (by omega) (by omega)
  refine tt_iconst (v := nI 0) C dX7_findWay_35 (by decide) ?_
  refine tt_istore (lv' := [(0, .ref (eA E 6 0)), (1, .int (nI b)), (2, .int (nI a)), (3, .int (nI c)), (4, .int (nI 0))]) C dX7_findWay_36 (by decide) [1, 2, 3, 4, 0] rfl ?_
  refine l_wC E u r h (iter (fwA c) 6 h) (fwA_row _ _ _ _ (by decide)) b a c hb ha hc hD hO F C ?_ 7 0 (by omega) (by omega)
  change T E F 8 (ub u 6 (M_far h b c)) r 139 _ _
  generalize e_0 : M_far h b c = h_0
  refine tt_aload_n C dX7_findWay_139 rfl 0 rfl ?_
  refine tt_iconst (v := nI 0) C dX7_findWay_140 (by decide) ?_
  refine tt_putIB C fM0_3 rfl hin7 tyX7 tyX7_ok nmX7 (by decide) (List.mem_of_getElem? (i := 3) (by decide +kernel)) (by decide +kernel) (by decide +kernel) dX7_findWay_141 ?_
  generalize e_2 : up2 h_0 0 3 (nI 0) = h_1
  refine tt_iload_n C dX7_findWay_144 rfl 2 rfl ?_
  refine tt_istore (lv' := [(0, .ref (eA E 6 0)), (1, .int (nI b)), (2, .int (nI a)), (3, .int (nI c)), (4, .int (nI a))]) C dX7_findWay_145 (by decide) [1, 2, 3, 4, 0] rfl ?_
  subst e_2
  subst e_0
  have eF : (M_far h b c) 1 = h 1 := M_far_row (by decide)
  exact l_wW E u r (M_far h b c) b a c hb (by rw [eF]; exact hD) (by intro d hd; rw [eF] at hd ⊢; exact hO d hd) F C l 0 _ a (up2_row (by decide)) (up2_row (by decide)) (up2_s _ _ _ _) ha (by omega) hW K
