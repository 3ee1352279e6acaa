def dgM (f : Nat → Int32) (x : Int64) : Nat → Int64
  | 0 => x
  | n + 1 => 31 * dgM f x n + (f n).toInt64
def dgD (g : Nat → Nat → Int32) (m : Nat) (x : Int64) : Nat → Int64
  | 0 => x
  | d + 1 => dgM (g d) (dgD g m x d) m
abbrev M_bw (h : HB) (b w : Nat) : Int32 := h 1 (480 + 6 * b + w)
abbrev M_tw (h : HB) (k : Nat) : Int32 := h 1 (541 + k)
abbrev dg5 (h : HB) (x : Int64) : Int64 := dgM (M_tw h) x (3 * ix (h 1 540))
abbrev dg4 (h : HB) (x : Int64) : Int64 := dg5 h (dgM (M_cnt h) x 12)
abbrev dg3 (h : HB) (x : Int64) : Int64 := dg4 h (dgD (M_bw h) 6 x (ix (h 1 530)))
abbrev dg2 (h : HB) (x : Int64) : Int64 := dg3 h (dgD (M_abD h) 11 x (ix (h 1 529)))
def M_dig (h : HB) : Int64 := dg2 h (dgM (M_told h) 2437 7)

set_option maxHeartbeats 4000000 in
set_option maxRecDepth 100000 in
theorem l_d5 (E : EN) (u : U3) (r : R1) (h : HB) (x : Int64) (hD : vI (h 1 529) 9) (hB : vI (h 1 530) 9) (hm : vI (h 1 540) 65) (F : FX) (C : Cx E F cX7_digest 5 RX7 wsX7_digest (rmT 3 65)) (K : RtL E F cX7_digest (dg5 h x) (ub u 6 h) r) : ∀ (n j : Nat), j ≤ 3 * ix (h 1 540) → 3 * ix (h 1 540) + 1 ≤ j + n → T E F 5 (ub u 6 h) r 162 [(0, .ref (eA E 6 0)), (1, .long (dgM (M_tw h) x j)), (3, .int (nI j))] [] := by
  have hin7 : ∀ w ∈ u_ws RX7 TX7 15, w ∈ wsX7_digest := by decide +kernel
  intro n
  induction n with
  | zero => intro j h1 h2; exact absurd h2 (by omega)
  | succ n ih =>
    intro j h1 h2
    have hD' := ix_lt hD (by decide)
    have hB' := ix_lt hB (by decide)
    have hm' := ix_lt hm (by decide)
    refine tt_iload_n C dX7_digest_162 rfl 2 rfl ?_
    refine tt_iconst (v := nI 3) C dX7_digest_163 (by decide) ?_
    refine tt_aload_n C dX7_digest_164 rfl 0 rfl ?_
    refine tt_get (v := .ref (eA E 6 1)) C oM0 rfl hin7 0 (by decide) (List.mem_of_getElem? (i := 3) (by decide +kernel)) rfl dX7_digest_165 ?_
    refine tt_sipush (v := nI 540) C dX7_digest_168 (by decide) ?_
    refine tt_ialdB (v := nI (ix (h 1 540))) C aM1 540 rfl (by omega) (ix_eq hm (by decide)) dX7_digest_171 ?_
    refine tt_imul (v := nI (3 * (ix (h 1 540)))) C dX7_digest_172 (pk_mul _ _) ?_
    refine tt_icmp_ge C (tgt := 200) dX7_digest_173 (by decide) (nI_leI (by omega) (by omega)) (fun c_101 => ?_) (fun c_101 => ?_)
    · skip
      have hje : j = 3 * ix (h 1 540) := (by omega); subst hje
      refine tt_lload_n C dX7_digest_200 rfl 1 rfl ?_
      exact tt_lret K dX7_digest_201 (by rfl) (by rfl) rfl
    · skip
      refine tt_ldc2 (v := 31) C (List.mem_of_getElem? (i := 2) (by decide +kernel)) dX7_digest_176 ?_
      refine tt_lload_n C dX7_digest_179 rfl 1 rfl ?_
      refine tt_lmul C dX7_digest_180 rfl ?_
      refine tt_aload_n C dX7_digest_181 rfl 0 rfl ?_
      refine tt_get (v := .ref (eA E 6 1)) C oM0 rfl hin7 0 (by decide) (List.mem_of_getElem? (i := 3) (by decide +kernel)) rfl dX7_digest_182 ?_
      refine tt_sipush (v := nI 541) C dX7_digest_185 (by decide) ?_
      refine tt_iload_n C dX7_digest_188 rfl 2 rfl ?_
      refine tt_iadd (v := nI (541 + j)) C dX7_digest_189 (nI_add _ _) ?_
      refine tt_ialdB (v := h 1 (541 + j)) C aM1 (541 + j) rfl (by omega) rfl dX7_digest_190 ?_
      refine tt_i2l C dX7_digest_191 rfl ?_
      refine tt_ladd C dX7_digest_192 rfl ?_
      refine tt_lstore_n (lv' := [(0, .ref (eA E 6 0)), (1, .long (((31 : Int64) * (dgM (M_tw h) x j)) + ((h 1 (541 + j)).toInt64))), (3, .int (nI j))]) C dX7_digest_193 rfl (by decide) [1, 0, 2] rfl ?_
      refine tt_iinc (p := 2) (v := nI (j + 1)) (lv' := [(0, .ref (eA E 6 0)), (1, .long (((31 : Int64) * (dgM (M_tw h) x j)) + ((h 1 (541 + j)).toInt64))), (3, .int (nI (j + 1)))]) C dX7_digest_194 rfl (by rw [show Int32.ofInt 1 = nI 1 from by decide]; exact nI_add _ _) (by decide) [1, 2, 0] rfl ?_
      refine tt_goto (tgt := 162) C dX7_digest_197 (by decide) ?_
      exact ih (j + 1) (by omega) (by omega)

set_option maxHeartbeats 4000000 in
set_option maxRecDepth 100000 in
theorem l_d4 (E : EN) (u : U3) (r : R1) (h : HB) (x : Int64) (hD : vI (h 1 529) 9) (hB : vI (h 1 530) 9) (hm : vI (h 1 540) 65) (F : FX) (C : Cx E F cX7_digest 5 RX7 wsX7_digest (rmT 3 65)) (K : RtL E F cX7_digest (dg4 h x) (ub u 6 h) r) : ∀ (n j : Nat), j ≤ 12 → 12 + 1 ≤ j + n → T E F 5 (ub u 6 h) r 135 [(0, .ref (eA E 6 0)), (1, .long (dgM (M_cnt h) x j)), (3, .int (nI j))] [] := by
  intro n
  induction n with
  | zero => intro j h1 h2; exact absurd h2 (by omega)
  | succ n ih =>
    intro j h1 h2
    have hD' := ix_lt hD (by decide)
    have hB' := ix_lt hB (by decide)
    have hm' := ix_lt hm (by decide)
    refine tt_iload_n C dX7_digest_135 rfl 2 rfl ?_
    refine tt_bipush (v := nI 12) C dX7_digest_136 (by decide) ?_
    refine tt_icmp_ge C (tgt := 160) dX7_digest_138 (by decide) (nI_leI (by omega) (by omega)) (fun c_101 => ?_) (fun c_101 => ?_)
    · skip
      have hje : j = 12 := (by omega); subst hje
      refine tt_iconst (v := nI 0) C dX7_digest_160 (by decide) ?_
      refine tt_istore_n (lv' := [(0, .ref (eA E 6 0)), (1, .long (dgM (M_cnt h) x 12)), (3, .int (nI 0))]) C dX7_digest_161 rfl (by decide) [1, 2, 0] rfl ?_
      exact l_d5 E u r h _ hD hB hm F C K (3 * ix (h 1 540) + 1) 0 (by omega) (by omega)
    · skip
      refine tt_ldc2 (v := 31) C (List.mem_of_getElem? (i := 2) (by decide +kernel)) dX7_digest_141 ?_
      refine tt_lload_n C dX7_digest_144 rfl 1 rfl ?_
      refine tt_lmul C dX7_digest_145 rfl ?_
      refine tt_aload_n C dX7_digest_146 rfl 0 rfl ?_
      refine tt_iload_n C dX7_digest_147 rfl 2 rfl ?_
      refine tt_cVI C (c_X7_countOf E u r h j (by first | assumption | omega)) gX7_digest_X7_countOf rfl ⟨rfl, rfl⟩ 1 (by decide +kernel) ⟨Nat.le_of_ble_eq_true rfl, Nat.le_of_ble_eq_true rfl⟩ rfl oM0 rfl (Nat.le_of_ble_eq_true rfl) dX7_digest_148 rfl ?_
      refine tt_i2l C dX7_digest_151 rfl ?_
      refine tt_ladd C dX7_digest_152 rfl ?_
      refine tt_lstore_n (lv' := [(0, .ref (eA E 6 0)), (1, .long (((31 : Int64) * (dgM (M_cnt h) x j)) + ((M_cnt h j).toInt64))), (3, .int (nI j))]) C dX7_digest_153 rfl (by decide) [1, 0, 2] rfl ?_
      refine tt_iinc (p := 2) (v := nI (j + 1)) (lv' := [(0, .ref (eA E 6 0)), (1, .long (((31 : Int64) * (dgM (M_cnt h) x j)) + ((M_cnt h j).toInt64))), (3, .int (nI (j + 1)))]) C dX7_digest_154 rfl (by rw [show Int32.ofInt 1 = nI 1 from by decide]; exact nI_add _ _) (by decide) [1, 2, 0] rfl ?_
      refine tt_goto (tgt := 135) C dX7_digest_157 (by decide) ?_
      exact ih (j + 1) (by omega) (by omega)

set_option maxHeartbeats 4000000 in
set_option maxRecDepth 100000 in
theorem l_d3i (E : EN) (u : U3) (r : R1) (h : HB) (x : Int64) (d : Nat) (hd : d < 8) (F : FX) (C : Cx E F cX7_digest 5 RX7 wsX7_digest (rmT 3 65)) (Kc : T E F 5 (ub u 6 h) r 84 [(0, .ref (eA E 6 0)), (1, .long (dgM (M_bw h d) x 6)), (3, .int (nI (d + 1)))] []) : ∀ (n j : Nat), j ≤ 6 → 6 + 1 ≤ j + n → T E F 5 (ub u 6 h) r 99 [(0, .ref (eA E 6 0)), (1, .long (dgM (M_bw h d) x j)), (3, .int (nI d)), (4, .int (nI j))] [] := by
  intro n
  induction n with
  | zero => intro j h1 h2; exact absurd h2 (by omega)
  | succ n ih =>
    intro j h1 h2
    refine tt_iload C dX7_digest_99 3 rfl ?_
    refine tt_bipush (v := nI 6) C dX7_digest_101 (by decide) ?_
    refine tt_icmp_ge C (tgt := 127) dX7_digest_103 (by decide) (nI_leI (by omega) (by omega)) (fun c_801 => ?_) (fun c_801 => ?_)
    · skip
      refine tt_iinc (p := 2) (v := nI (d + 1)) (lv' := [(0, .ref (eA E 6 0)), (1, .long (dgM (M_bw h d) x j)), (3, .int (nI (d + 1))), (4, .int (nI j))]) C dX7_digest_127 rfl (by rw [show Int32.ofInt 1 = nI 1 from by decide]; exact nI_add _ _) (by decide) [1, 2, 0, 3] rfl ?_
      refine tt_goto (tgt := 84) C dX7_digest_130 (by decide) ?_
      have hje : j = 6 := (by omega); subst hje
      exact tt_lvsub [0, 1, 2] rfl Kc
    · skip
      refine tt_ldc2 (v := 31) C (List.mem_of_getElem? (i := 2) (by decide +kernel)) dX7_digest_106 ?_
      refine tt_lload_n C dX7_digest_109 rfl 1 rfl ?_
      refine tt_lmul C dX7_digest_110 rfl ?_
      refine tt_aload_n C dX7_digest_111 rfl 0 rfl ?_
      refine tt_iload_n C dX7_digest_112 rfl 2 rfl ?_
      refine tt_iload C dX7_digest_113 3 rfl ?_
      refine tt_cVI C (c_X7_ofBadge E u r h d j (by first | assumption | omega) (by first | assumption | omega)) gX7_digest_X7_ofBadge rfl ⟨rfl, rfl⟩ 2 (by decide +kernel) ⟨Nat.le_of_ble_eq_true rfl, Nat.le_of_ble_eq_true rfl⟩ rfl oM0 rfl (Nat.le_of_ble_eq_true rfl) dX7_digest_115 rfl ?_
      refine tt_i2l C dX7_digest_118 rfl ?_
      refine tt_ladd C dX7_digest_119 rfl ?_
      refine tt_lstore_n (lv' := [(0, .ref (eA E 6 0)), (1, .long (((31 : Int64) * (dgM (M_bw h d) x j)) + ((h 1 (480 + 6 * d + j)).toInt64))), (3, .int (nI d)), (4, .int (nI j))]) C dX7_digest_120 rfl (by decide) [1, 0, 2, 3] rfl ?_
      refine tt_iinc (p := 3) (v := nI (j + 1)) (lv' := [(0, .ref (eA E 6 0)), (1, .long (((31 : Int64) * (dgM (M_bw h d) x j)) + ((h 1 (480 + 6 * d + j)).toInt64))), (3, .int (nI d)), (4, .int (nI (j + 1)))]) C dX7_digest_121 rfl (by rw [show Int32.ofInt 1 = nI 1 from by decide]; exact nI_add _ _) (by decide) [1, 2, 3, 0] rfl ?_
      refine tt_goto (tgt := 99) C dX7_digest_124 (by decide) ?_
      exact ih (j + 1) (by omega) (by omega)

set_option maxHeartbeats 4000000 in
set_option maxRecDepth 100000 in
theorem l_d3 (E : EN) (u : U3) (r : R1) (h : HB) (x : Int64) (hD : vI (h 1 529) 9) (hB : vI (h 1 530) 9) (hm : vI (h 1 540) 65) (F : FX) (C : Cx E F cX7_digest 5 RX7 wsX7_digest (rmT 3 65)) (K : RtL E F cX7_digest (dg3 h x) (ub u 6 h) r) : ∀ (n j : Nat), j ≤ ix (h 1 530) → ix (h 1 530) + 1 ≤ j + n → T E F 5 (ub u 6 h) r 84 [(0, .ref (eA E 6 0)), (1, .long (dgD (M_bw h) 6 x j)), (3, .int (nI j))] [] := by
  have hin7 : ∀ w ∈ u_ws RX7 TX7 15, w ∈ wsX7_digest := by decide +kernel
  intro n
  induction n with
  | zero => intro j h1 h2; exact absurd h2 (by omega)
  | succ n ih =>
    intro j h1 h2
    have hD' := ix_lt hD (by decide)
    have hB' := ix_lt hB (by decide)
    have hm' := ix_lt hm (by decide)
    refine tt_iload_n C dX7_digest_84 rfl 2 rfl ?_
    refine tt_aload_n C dX7_digest_85 rfl 0 rfl ?_
    refine tt_get (v := .ref (eA E 6 1)) C oM0 rfl hin7 0 (by decide) (List.mem_of_getElem? (i := 3) (by decide +kernel)) rfl dX7_digest_86 ?_
    refine tt_sipush (v := nI 530) C dX7_digest_89 (by decide) ?_
    refine tt_ialdB (v := nI (ix (h 1 530))) C aM1 530 rfl (by omega) (ix_eq hB (by decide)) dX7_digest_92 ?_
    refine tt_icmp_ge C (tgt := 133) dX7_digest_93 (by decide) (nI_leI (by omega) (by omega)) (fun c_101 => ?_) (fun c_101 => ?_)
    · skip
      have hje : j = ix (h 1 530) := (by omega); subst hje
      refine tt_iconst (v := nI 0) C dX7_digest_133 (by decide) ?_
      refine tt_istore_n (lv' := [(0, .ref (eA E 6 0)), (1, .long (dgD (M_bw h) 6 x (ix (h 1 530)))), (3, .int (nI 0))]) C dX7_digest_134 rfl (by decide) [1, 2, 0] rfl ?_
      exact l_d4 E u r h _ hD hB hm F C K (12 + 1) 0 (by omega) (by omega)
    · skip
      refine tt_iconst (v := nI 0) C dX7_digest_96 (by decide) ?_
      refine tt_istore (lv' := [(0, .ref (eA E 6 0)), (1, .long (dgD (M_bw h) 6 x j)), (3, .int (nI j)), (4, .int (nI 0))]) C dX7_digest_97 (by decide) [1, 2, 3, 0] rfl ?_
      exact l_d3i E u r h _ j (by omega) F C (ih (j + 1) (by omega) (by omega)) 7 0 (by omega) (by omega)

set_option maxHeartbeats 4000000 in
set_option maxRecDepth 100000 in
theorem l_d2i (E : EN) (u : U3) (r : R1) (h : HB) (x : Int64) (d : Nat) (hd : d < 8) (F : FX) (C : Cx E F cX7_digest 5 RX7 wsX7_digest (rmT 3 65)) (Kc : T E F 5 (ub u 6 h) r 33 [(0, .ref (eA E 6 0)), (1, .long (dgM (M_abD h d) x 11)), (3, .int (nI (d + 1)))] []) : ∀ (n j : Nat), j ≤ 11 → 11 + 1 ≤ j + n → T E F 5 (ub u 6 h) r 48 [(0, .ref (eA E 6 0)), (1, .long (dgM (M_abD h d) x j)), (3, .int (nI d)), (4, .int (nI j))] [] := by
  intro n
  induction n with
  | zero => intro j h1 h2; exact absurd h2 (by omega)
  | succ n ih =>
    intro j h1 h2
    refine tt_iload C dX7_digest_48 3 rfl ?_
    refine tt_bipush (v := nI 11) C dX7_digest_50 (by decide) ?_
    refine tt_icmp_ge C (tgt := 76) dX7_digest_52 (by decide) (nI_leI (by omega) (by omega)) (fun c_801 => ?_) (fun c_801 => ?_)
    · skip
      refine tt_iinc (p := 2) (v := nI (d + 1)) (lv' := [(0, .ref (eA E 6 0)), (1, .long (dgM (M_abD h d) x j)), (3, .int (nI (d + 1))), (4, .int (nI j))]) C dX7_digest_76 rfl (by rw [show Int32.ofInt 1 = nI 1 from by decide]; exact nI_add _ _) (by decide) [1, 2, 0, 3] rfl ?_
      refine tt_goto (tgt := 33) C dX7_digest_79 (by decide) ?_
      have hje : j = 11 := (by omega); subst hje
      exact tt_lvsub [0, 1, 2] rfl Kc
    · skip
      refine tt_ldc2 (v := 31) C (List.mem_of_getElem? (i := 2) (by decide +kernel)) dX7_digest_55 ?_
      refine tt_lload_n C dX7_digest_58 rfl 1 rfl ?_
      refine tt_lmul C dX7_digest_59 rfl ?_
      refine tt_aload_n C dX7_digest_60 rfl 0 rfl ?_
      refine tt_iload_n C dX7_digest_61 rfl 2 rfl ?_
      refine tt_iload C dX7_digest_62 3 rfl ?_
      refine tt_cVI C (c_X7_aboutDoor E u r h d j (by first | assumption | omega) (by first | assumption | omega)) gX7_digest_X7_aboutDoor rfl ⟨rfl, rfl⟩ 2 (by decide +kernel) ⟨Nat.le_of_ble_eq_true rfl, Nat.le_of_ble_eq_true rfl⟩ rfl oM0 rfl (Nat.le_of_ble_eq_true rfl) dX7_digest_64 rfl ?_
      refine tt_i2l C dX7_digest_67 rfl ?_
      refine tt_ladd C dX7_digest_68 rfl ?_
      refine tt_lstore_n (lv' := [(0, .ref (eA E 6 0)), (1, .long (((31 : Int64) * (dgM (M_abD h d) x j)) + ((M_abD h d j).toInt64))), (3, .int (nI d)), (4, .int (nI j))]) C dX7_digest_69 rfl (by decide) [1, 0, 2, 3] rfl ?_
      refine tt_iinc (p := 3) (v := nI (j + 1)) (lv' := [(0, .ref (eA E 6 0)), (1, .long (((31 : Int64) * (dgM (M_abD h d) x j)) + ((M_abD h d j).toInt64))), (3, .int (nI d)), (4, .int (nI (j + 1)))]) C dX7_digest_70 rfl (by rw [show Int32.ofInt 1 = nI 1 from by decide]; exact nI_add _ _) (by decide) [1, 2, 3, 0] rfl ?_
      refine tt_goto (tgt := 48) C dX7_digest_73 (by decide) ?_
      exact ih (j + 1) (by omega) (by omega)

set_option maxHeartbeats 4000000 in
set_option maxRecDepth 100000 in
theorem l_d2 (E : EN) (u : U3) (r : R1) (h : HB) (x : Int64) (hD : vI (h 1 529) 9) (hB : vI (h 1 530) 9) (hm : vI (h 1 540) 65) (F : FX) (C : Cx E F cX7_digest 5 RX7 wsX7_digest (rmT 3 65)) (K : RtL E F cX7_digest (dg2 h x) (ub u 6 h) r) : ∀ (n j : Nat), j ≤ ix (h 1 529) → ix (h 1 529) + 1 ≤ j + n → T E F 5 (ub u 6 h) r 33 [(0, .ref (eA E 6 0)), (1, .long (dgD (M_abD h) 11 x j)), (3, .int (nI j))] [] := by
  have hin7 : ∀ w ∈ u_ws RX7 TX7 15, w ∈ wsX7_digest := by decide +kernel
  intro n
  induction n with
  | zero => intro j h1 h2; exact absurd h2 (by omega)
  | succ n ih =>
    intro j h1 h2
    have hD' := ix_lt hD (by decide)
    have hB' := ix_lt hB (by decide)
    have hm' := ix_lt hm (by decide)
    refine tt_iload_n C dX7_digest_33 rfl 2 rfl ?_
    refine tt_aload_n C dX7_digest_34 rfl 0 rfl ?_
    refine tt_get (v := .ref (eA E 6 1)) C oM0 rfl hin7 0 (by decide) (List.mem_of_getElem? (i := 3) (by decide +kernel)) rfl dX7_digest_35 ?_
    refine tt_sipush (v := nI 529) C dX7_digest_38 (by decide) ?_
    refine tt_ialdB (v := nI (ix (h 1 529))) C aM1 529 rfl (by omega) (ix_eq hD (by decide)) dX7_digest_41 ?_
    refine tt_icmp_ge C (tgt := 82) dX7_digest_42 (by decide) (nI_leI (by omega) (by omega)) (fun c_101 => ?_) (fun c_101 => ?_)
    · skip
      have hje : j = ix (h 1 529) := (by omega); subst hje
      refine tt_iconst (v := nI 0) C dX7_digest_82 (by decide) ?_
      refine tt_istore_n (lv' := [(0, .ref (eA E 6 0)), (1, .long (dgD (M_abD h) 11 x (ix (h 1 529)))), (3, .int (nI 0))]) C dX7_digest_83 rfl (by decide) [1, 2, 0] rfl ?_
      exact l_d3 E u r h _ hD hB hm F C K (ix (h 1 530) + 1) 0 (by omega) (by omega)
    · skip
      refine tt_iconst (v := nI 0) C dX7_digest_45 (by decide) ?_
      refine tt_istore (lv' := [(0, .ref (eA E 6 0)), (1, .long (dgD (M_abD h) 11 x j)), (3, .int (nI j)), (4, .int (nI 0))]) C dX7_digest_46 (by decide) [1, 2, 3, 0] rfl ?_
      exact l_d2i E u r h _ j (by omega) F C (ih (j + 1) (by omega) (by omega)) 12 0 (by omega) (by omega)

set_option maxHeartbeats 4000000 in
set_option maxRecDepth 100000 in
theorem l_d1 (E : EN) (u : U3) (r : R1) (h : HB)  (hD : vI (h 1 529) 9) (hB : vI (h 1 530) 9) (hm : vI (h 1 540) 65) (F : FX) (C : Cx E F cX7_digest 5 RX7 wsX7_digest (rmT 3 65)) (K : RtL E F cX7_digest (M_dig h) (ub u 6 h) r) : ∀ (n j : Nat), j ≤ 7 → 7 + 1 ≤ j + n → T E F 5 (ub u 6 h) r 6 [(0, .ref (eA E 6 0)), (1, .long (dgM (M_told h) 2437 j)), (3, .int (nI j))] [] := by
  intro n
  induction n with
  | zero => intro j h1 h2; exact absurd h2 (by omega)
  | succ n ih =>
    intro j h1 h2
    have hD' := ix_lt hD (by decide)
    have hB' := ix_lt hB (by decide)
    have hm' := ix_lt hm (by decide)
    refine tt_iload_n C dX7_digest_6 rfl 2 rfl ?_
    refine tt_bipush (v := nI 7) C dX7_digest_7 (by decide) ?_
    refine tt_icmp_ge C (tgt := 31) dX7_digest_9 (by decide) (nI_leI (by omega) (by omega)) (fun c_101 => ?_) (fun c_101 => ?_)
    · skip
      have hje : j = 7 := (by omega); subst hje
      refine tt_iconst (v := nI 0) C dX7_digest_31 (by decide) ?_
      refine tt_istore_n (lv' := [(0, .ref (eA E 6 0)), (1, .long (dgM (M_told h) 2437 7)), (3, .int (nI 0))]) C dX7_digest_32 rfl (by decide) [1, 2, 0] rfl ?_
      exact l_d2 E u r h _ hD hB hm F C K (ix (h 1 529) + 1) 0 (by omega) (by omega)
    · skip
      refine tt_ldc2 (v := 31) C (List.mem_of_getElem? (i := 2) (by decide +kernel)) dX7_digest_12 ?_
      refine tt_lload_n C dX7_digest_15 rfl 1 rfl ?_
      refine tt_lmul C dX7_digest_16 rfl ?_
      refine tt_aload_n C dX7_digest_17 rfl 0 rfl ?_
      refine tt_iload_n C dX7_digest_18 rfl 2 rfl ?_
      refine tt_cVI C (c_X7_toldOf E u r h j (by first | assumption | omega)) gX7_digest_X7_toldOf rfl ⟨rfl, rfl⟩ 1 (by decide +kernel) ⟨Nat.le_of_ble_eq_true rfl, Nat.le_of_ble_eq_true rfl⟩ rfl oM0 rfl (Nat.le_of_ble_eq_true rfl) dX7_digest_19 rfl ?_
      refine tt_i2l C dX7_digest_22 rfl ?_
      refine tt_ladd C dX7_digest_23 rfl ?_
      refine tt_lstore_n (lv' := [(0, .ref (eA E 6 0)), (1, .long (((31 : Int64) * (dgM (M_told h) 2437 j)) + ((M_told h j).toInt64))), (3, .int (nI j))]) C dX7_digest_24 rfl (by decide) [1, 0, 2] rfl ?_
      refine tt_iinc (p := 2) (v := nI (j + 1)) (lv' := [(0, .ref (eA E 6 0)), (1, .long (((31 : Int64) * (dgM (M_told h) 2437 j)) + ((M_told h j).toInt64))), (3, .int (nI (j + 1)))]) C dX7_digest_25 rfl (by rw [show Int32.ofInt 1 = nI 1 from by decide]; exact nI_add _ _) (by decide) [1, 2, 0] rfl ?_
      refine tt_goto (tgt := 6) C dX7_digest_28 (by decide) ?_
      exact ih (j + 1) (by omega) (by omega)

set_option maxHeartbeats 4000000 in
set_option maxRecDepth 100000 in
theorem c_X7_digest (E : EN) (u : U3) (r : R1) (h : HB)  (hD : vI (h 1 529) 9) (hB : vI (h 1 530) 9) (hm : vI (h 1 540) 65) : CT E yX7_digest wsX7_digest (rmT 3 65) [.ref (eA E 6 0)] (ub u 6 h) r (some (.long (M_dig h))) (ub u 6 h) r := by
  refine CT_ofL (cc := cX7_digest) (nL := 5) (own := RX7) (by decide) rfl rfl (Nat.le_of_ble_eq_true rfl) (fun F C K => ?_)
  refine tt_to (lv1 := [(0, .ref (eA E 6 0))]) rfl rfl rfl rfl ?_
  refine tt_ldc2 (v := 2437) C (List.mem_of_getElem? (i := 1) (by decide +kernel)) dX7_digest_0 ?_
  refine tt_lstore_n (lv' := [(0, .ref (eA E 6 0)), (1, .long (2437 : Int64))]) C dX7_digest_3 rfl (by decide) [1, 0] rfl ?_
  refine tt_iconst (v := nI 0) C dX7_digest_4 (by decide) ?_
  refine tt_istore_n (lv' := [(0, .ref (eA E 6 0)), (1, .long (2437 : Int64)), (3, .int (nI 0))]) C dX7_digest_5 rfl (by decide) [1, 2, 0] rfl ?_
  exact l_d1 E u r h hD hB hm F C K 8 0 (by omega) (by omega)
