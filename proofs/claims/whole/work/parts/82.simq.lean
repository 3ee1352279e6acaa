/-! reads of both; questions of both -/
theorem rd_sim {N L Q : Nat} {f : Nat → Int32} {h' g m2 : HB} (hL : L ≤ 150) (H : RH N g (m2 1)) (hS : RdS f L m2 Q) (hg : ∀ j, j < Q → gd f L j) (hN : N + 100 * Q + 100 < 2 ^ 30) : ∀ j, j ≤ Q → RH (N + 100 * j) (cG f L h' g j) ((M_rd m2 j).2 1) ∧ cN f L h' g j = (M_rd m2 j).1 := by
  intro j
  induction j with
  | zero => intro _; exact ⟨H, rfl⟩
  | succ j ih =>
    intro hj
    obtain ⟨i1, i2⟩ := ih (by omega)
    obtain ⟨s1, s2, s3, s4⟩ := hS
    have g1 := hg j (by omega)
    have c2 := (cO_le hg).1
    have c3 := cP_le f L Q
    have cm := cO_mono (f := f) (L := L) (q := Q) (j := j) (by omega)
    have e6 : ix (m2 6 j) = cW f L j := by rw [s2 j (by omega), ix_nI (by have : cW f L j < 8 := g1.2.1; omega)]
    have e7 : ix (m2 7 j) = cO f L j := by rw [s3 j (by omega), ix_nI (by omega)]
    have d1 : 1 ≤ dueN (cW f L j) := (due_eq _ g1.2.1).2.1
    have nv : ∀ i, i < dueN (cW f L j) → cH f L h' (j + 1) 3 i = (M_rd m2 j).2 8 (cO f L j + i) := fun i hi => by
      rw [cH_v h' g1 hL hi, M_rd_k m2 (by decide), s4 j i (by omega) hi]
    have E := do_eq (w := cW f L j) (p := cO f L j) (a := cH f L h' (j + 1) 3 0) (b := cH f L h' (j + 1) 3 1) (c := cH f L h' (j + 1) 3 2) (d := cH f L h' (j + 1) 3 3) i1 (by omega) (nv 0 (by omega)) (fun w => nv 1 (by rcases w with w | w <;> rw [w] <;> decide)) (fun w => ⟨nv 1 (by rw [w]; decide), nv 2 (by rw [w]; decide), nv 3 (by rw [w]; decide)⟩)
    have eM : (M_rd m2 (j + 1)) = ((M_rd m2 j).1 + (if M_rf (M_doT (M_rd m2 j).2 (cW f L j) (cO f L j)).1 then 0 else 1), (M_doT (M_rd m2 j).2 (cW f L j) (cO f L j)).2) := by
      rw [M_rd, e6, e7]
    rw [eM]
    refine ⟨?_, ?_⟩
    · have := E.2
      rw [show N + 100 * (j + 1) = N + 100 * j + 100 from by omega]
      exact this
    · show cN f L h' g j + (if cR f L h' g j = 0 then 1 else 0) = _
      rw [i2]
      have e0 := E.1
      by_cases c : cR f L h' g j = 0
      · rw [if_pos c, if_neg (e0.mp c)]
      · rw [if_neg c, if_pos (Decidable.not_not.mp (fun z => c (e0.mpr z)))]
theorem CdOk_of {N L Q : Nat} {f : Nat → Int32} {h' g m2 : HB} (hL : L ≤ 150) (H : RH N g (m2 1)) (hS : RdS f L m2 Q) (hg : ∀ j, j < Q → gd f L j) (hN : N + 100 * Q + 100 < 2 ^ 30) (hQ : Q < 150) (hn : ¬ cQ f L Q < L) : CdOk f L h' g Q :=
  ⟨hQ, fun j hj => ⟨(hg j hj).1, (hg j hj).2, HOk_of (rd_sim (h' := h') hL H hS hg hN j (by omega)).1⟩, hn⟩
theorem RdOk_of {N L Q : Nat} {f : Nat → Int32} {g m2 : HB} (hL : L ≤ 150) (H : RH N g (m2 1)) (hS : RdS f L m2 Q) (hg : ∀ j, j < Q → gd f L j) (hN : N + 100 * Q + 102 < 2 ^ 30) (hQ : Q < 150) (h0 : vI (m2 0 0) 5) : RdOk m2 Q := by
  refine ⟨hS.1, hQ, h0, fun j hj => ?_⟩
  have k := (rd_sim (h' := g) hL H hS hg (by omega) j (by omega)).1
  have hw : cW f L j < 8 := (hg j hj).2.1
  have c2 := (cO_le hg).1
  have c3 := cP_le f L Q
  have cm := cO_mono (f := f) (L := L) (q := Q) (j := j) hj
  have d1 : 1 ≤ dueN (cW f L j) := (due_eq _ hw).2.1
  have e6 := hS.2.1 j hj
  have e7 := hS.2.2.1 j (by omega)
  have x6 : ix (m2 6 j) = cW f L j := by rw [e6, ix_nI (by omega)]
  have x7 : ix (m2 7 j) = cO f L j := by rw [e7, ix_nI (by omega)]
  refine ⟨MOk_of k (by omega), ⟨_, hw, e6⟩, ⟨cO f L j, by omega, e7⟩, fun w => ?_, fun w => ?_⟩
  · rw [x6] at w
    rw [x7]
    have : dueN (cW f L j) = 2 := by rcases w with w | w <;> rw [w] <;> rfl
    omega
  · rw [x6] at w
    rw [x7]
    have : dueN (cW f L j) = 4 := by rw [w]; rfl
    omega
/-! questions -/
theorem abD_eq {N d w : Nat} {g m : HB} (H : RH N g (m 1)) (hd : d < ix (g 1 0)) (hw : w < 11) : M_abD m d w = H_df g d w := by
  have et : m 1 528 = g 0 0 := H.1.2.2.2.1.1
  unfold M_abD H_df
  by_cases c8 : w = 8
  · subst c8
    have e8 : m 1 (60 * d + 8) = g 10 d := H.1.2.1 d 8 hd (by decide)
    rw [e8, et, if_pos rfl, if_neg (show ¬ (8 < 8) by decide), if_pos rfl]
    by_cases q : g 10 d = g 0 0
    · rw [if_pos q, b2i_t q]; rfl
    · rw [if_neg q, b2i_f q]; rfl
  · by_cases c10 : w = 10
    · subst c10
      rw [if_neg (by decide), if_pos rfl, if_neg (by decide), if_neg (by decide), (H.2.2.2.1 d hd).1]
    · by_cases c9 : w = 9
      · subst c9
        rw [if_neg (by decide), if_neg (by decide), if_neg (by decide), if_neg (by decide), H.2.1 d hd]
      · rw [if_neg c8, if_neg c10, if_pos (by omega), H.1.2.1 d w hd (by omega)]
theorem bw_eq {N b w : Nat} {g m : HB} (H : RH N g (m 1)) (hb : b < ix (g 18 0)) (hw : w < 6) : m 1 (480 + 6 * b + w) = g (19 + w) b := by
  by_cases c : w = 4
  · subst c; exact H.2.2.1.2 b hb
  · exact H.1.2.2.1 b w hb hw c
theorem cnt_eq {N w : Nat} {g m : HB} (H : RH N g (m 1)) (hw : w < 12) : M_cnt m w = H_cnt g w := by
  obtain ⟨e0, e1, e2, -, -⟩ := H.1.2.2.2.1
  have eo := H.1.2.2.2.2
  have ea := H.2.2.1.1
  have et := H.2.2.2.2.2.1.2.1
  unfold M_cnt H_cnt
  rcases (by omega : w = 0 ∨ w = 1 ∨ w = 2 ∨ w = 3 ∨ w = 4 ∨ w = 5 ∨ w = 6 ∨ w = 7 ∨ w = 8 ∨ w = 9 ∨ w = 10 ∨ w = 11) with rfl | rfl | rfl | rfl | rfl | rfl | rfl | rfl | rfl | rfl | rfl | rfl
  · exact e0
  · show rem24 (m 1 528) = rem24 (g 0 0); rw [e0]
  · exact e1
  · exact e2
  · exact ea
  · exact eo 0 (by decide)
  · exact eo 1 (by decide)
  · exact eo 2 (by decide)
  · exact eo 3 (by decide)
  · exact eo 4 (by decide)
  · exact eo 5 (by decide)
  · exact et
theorem tw_eq {N i w : Nat} {g m : HB} (H : RH N g (m 1)) (hi : i < ix (g 25 0)) (hw : w < 3) : m 1 (541 + 3 * i + w) = H_twf g i w := by
  obtain ⟨c1, c2, c3, c4, c5⟩ := H.2.2.2.2.2.1.2.2.1 i hi
  unfold H_twf
  rw [if_neg (fun z => z hi)]
  rcases (by omega : w = 0 ∨ w = 1 ∨ w = 2) with rfl | rfl | rfl
  · exact c2
  · exact c3
  · exact c4
theorem psd_eq {N i w : Nat} {g m : HB} (H : RH N g (m 1)) (hw : w < 3) : M_psdR m i w = H_twf g i w := by
  have e : ix (m 1 540) = ix (g 25 0) := by rw [H.2.2.2.2.2.1.2.1]
  unfold M_psdR
  rw [e]
  by_cases c : ix (g 25 0) ≤ i
  · rw [if_pos c]
    unfold H_twf
    rw [if_pos (by omega)]
  · rw [if_neg c]
    exact tw_eq H (by omega) hw
theorem note_eq {N d i w : Nat} {g m : HB} (H : RH N g (m 1)) (hd : d < ix (g 1 0)) (hw : w < 2) : M_noteR m d i w = if ix (g 12 d) ≤ i then -1 else if nI w = 0 then g 13 (d * 20 + i) else g 14 (d * 20 + i) := by
  obtain ⟨n1, n2, n3⟩ := H.2.2.2.1 d hd
  unfold M_noteR
  rw [n1]
  by_cases c : ix (g 12 d) ≤ i
  · rw [if_pos c, if_pos c]
  · rw [if_neg c, if_neg c]
    obtain ⟨c1, c2, -⟩ := n3 i (by omega)
    rcases (by omega : w = 0 ∨ w = 1) with rfl | rfl
    · rw [if_pos (by decide)]; exact c1
    · rw [if_neg (by decide)]; exact c2
theorem dgM_cong {f f' : Nat → Int32} {x : Int64} : ∀ n, (∀ i, i < n → f i = f' i) → dgM f x n = dgM f' x n
  | 0, _ => rfl
  | n + 1, h => by
    show 31 * dgM f x n + (f n).toInt64 = 31 * dgM f' x n + (f' n).toInt64
    rw [dgM_cong n (fun i hi => h i (by omega)), h n (by omega)]
theorem dgD_cong {f f' : Nat → Nat → Int32} {k : Nat} {x : Int64} : ∀ n, (∀ d i, d < n → i < k → f d i = f' d i) → dgD f k x n = dgD f' k x n
  | 0, _ => rfl
  | n + 1, h => by
    show dgM (f n) (dgD f k x n) k = dgM (f' n) (dgD f' k x n) k
    rw [dgD_cong n (fun d i hd hi => h d i (by omega) hi), dgM_cong k (fun i hi => h n i (by omega) hi)]
theorem dg_three (f : Nat → Int32) (x : Int64) : ∀ n, dgM f x (3 * n) = dgD (fun i w => f (3 * i + w)) 3 x n
  | 0 => rfl
  | n + 1 => by
    show dgM f x (3 * n + 1 + 1 + 1) = dgM (fun w => f (3 * n + w)) (dgD (fun i w => f (3 * i + w)) 3 x n) 3
    rw [← dg_three f x n]
    rfl
theorem dig_eq {N : Nat} {g h m : HB} (H : RH N g (m 1)) (ht : ∀ w, w < 7 → M_told m w = H_told h g w) : M_dig m = H_dig h g := by
  have eD : ix (m 1 529) = ix (g 1 0) := by rw [H.1.2.2.2.1.2.2.2.1]
  have eB : ix (m 1 530) = ix (g 18 0) := by rw [H.1.2.2.2.1.2.2.2.2]
  have eT : ix (m 1 540) = ix (g 25 0) := by rw [H.2.2.2.2.2.1.2.1]
  unfold M_dig H_dig dg2 dg3 dg4 dg5 hdg2
  rw [eD, eB, eT, dg_three, dgM_cong 7 ht, dgD_cong (f := M_abD m) (f' := H_df g) _ (fun d w hd hw => abD_eq H hd hw), dgD_cong (f := M_bw m) (f' := H_bw g) _ (fun b w hb hw => bw_eq H hb hw), dgM_cong (f := M_cnt m) (f' := H_cnt g) 12 (fun w hw => cnt_eq H hw)]
  refine dgD_cong _ (fun i w hi hw => ?_)
  show m 1 (541 + (3 * i + w)) = _
  rw [show 541 + (3 * i + w) = 541 + 3 * i + w from by omega]
  exact tw_eq H hi hw
