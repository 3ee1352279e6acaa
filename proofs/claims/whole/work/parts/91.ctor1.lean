/-! constructors without calls: from the new object its rows, all 0 -/
def cW0 (cI : ClassId) (a : Nat → Nat) : va_W := [(a 0, .inr (0, [.int 0, .ref (a 1), .ref (a 2), .ref (a 3), .ref (a 4), .ref (a 5), .ref (a 6)])), (a 1, .inl (cI, 8, .inl (fun _ => 0))), (a 2, .inl (cI, 8, .inl (fun _ => 0))), (a 3, .inl (cI, 8, .inl (fun _ => 0))), (a 4, .inl (cI, 8, .inl (fun _ => 0))), (a 5, .inl (cI, 8, .inl (fun _ => 0))), (a 6, .inl (cI, 8, .inl (fun _ => 0)))]
set_option maxHeartbeats 4000000 in
set_option maxRecDepth 100000 in
theorem cg_X0 (l : Launch) (D : va_G) (cI : ClassId) : CG l D [(cI, .int)] yX0_init wsX0_init ({ frames := 1, cells := 6, slots := 48, locals := 12 }) 0 [.int 0, .null, .null, .null, .null, .null, .null] 6 48 (cW0 cI) := by
  refine CG_of (cc := cX0_init) (nL := 1) (own := RX0) (by decide) rfl rfl rfl (Nat.le_of_ble_eq_true rfl) (fun h0 F C hname K => ?_)
  have hin0 : ∀ w ∈ u_ws RX0 TX0 7, w ∈ wsX0_init := by decide +kernel
  refine tg_aload_n C dX0_init_0 rfl 0 rfl ?_
  refine tg_obj C (List.mem_of_getElem? (i := 1) (by decide +kernel)) (List.mem_of_getElem? (i := 2) (by decide +kernel)) (List.mem_of_getElem? (i := 3) (by decide +kernel)) (Nat.le_of_ble_eq_true rfl) (Nat.le_of_ble_eq_true rfl) dX0_init_1 ?_
  refine tg_aload_n C dX0_init_4 rfl 0 rfl ?_
  refine tg_bipush (v := nI 8) C dX0_init_5 (by decide) ?_
  refine tg_newa C 0 rfl (List.mem_of_getElem? (i := 4) (by decide +kernel)) (by decide) (Nat.le_of_ble_eq_true rfl) (Nat.le_of_ble_eq_true rfl) (Nat.le_of_ble_eq_true rfl) dX0_init_7 (fun q1 => ?_)
  refine tg_putF C 0 rfl rfl hin0 tyX0 tyX0_ok nmX0 1 (by decide) (List.mem_of_getElem? (i := 5) (by decide +kernel)) (by decide +kernel) hname (by decide +kernel) (ty := .array .int) (by decide +kernel) rfl rfl (Nat.le_of_ble_eq_true rfl) dX0_init_9 ?_
  refine tg_to (ws1 := [(h0, .inr (0, [.int 0, .ref q1, .null, .null, .null, .null, .null])), (q1, .inl (cI, 8, .inl (fun _ => 0)))]) (cs1 := 1) (sl1 := 8) rfl rfl rfl rfl ?_
  refine tg_aload_n C dX0_init_12 rfl 0 rfl ?_
  refine tg_bipush (v := nI 8) C dX0_init_13 (by decide) ?_
  refine tg_newa C 0 rfl (List.mem_of_getElem? (i := 4) (by decide +kernel)) (by decide) (Nat.le_of_ble_eq_true rfl) (Nat.le_of_ble_eq_true rfl) (Nat.le_of_ble_eq_true rfl) dX0_init_15 (fun q2 => ?_)
  refine tg_putF C 0 rfl rfl hin0 tyX0 tyX0_ok nmX0 2 (by decide) (List.mem_of_getElem? (i := 6) (by decide +kernel)) (by decide +kernel) hname (by decide +kernel) (ty := .array .int) (by decide +kernel) rfl rfl (Nat.le_of_ble_eq_true rfl) dX0_init_17 ?_
  refine tg_to (ws1 := [(h0, .inr (0, [.int 0, .ref q1, .ref q2, .null, .null, .null, .null])), (q1, .inl (cI, 8, .inl (fun _ => 0))), (q2, .inl (cI, 8, .inl (fun _ => 0)))]) (cs1 := 2) (sl1 := 16) rfl rfl rfl rfl ?_
  refine tg_aload_n C dX0_init_20 rfl 0 rfl ?_
  refine tg_bipush (v := nI 8) C dX0_init_21 (by decide) ?_
  refine tg_newa C 0 rfl (List.mem_of_getElem? (i := 4) (by decide +kernel)) (by decide) (Nat.le_of_ble_eq_true rfl) (Nat.le_of_ble_eq_true rfl) (Nat.le_of_ble_eq_true rfl) dX0_init_23 (fun q3 => ?_)
  refine tg_putF C 0 rfl rfl hin0 tyX0 tyX0_ok nmX0 3 (by decide) (List.mem_of_getElem? (i := 7) (by decide +kernel)) (by decide +kernel) hname (by decide +kernel) (ty := .array .int) (by decide +kernel) rfl rfl (Nat.le_of_ble_eq_true rfl) dX0_init_25 ?_
  refine tg_to (ws1 := [(h0, .inr (0, [.int 0, .ref q1, .ref q2, .ref q3, .null, .null, .null])), (q1, .inl (cI, 8, .inl (fun _ => 0))), (q2, .inl (cI, 8, .inl (fun _ => 0))), (q3, .inl (cI, 8, .inl (fun _ => 0)))]) (cs1 := 3) (sl1 := 24) rfl rfl rfl rfl ?_
  refine tg_aload_n C dX0_init_28 rfl 0 rfl ?_
  refine tg_bipush (v := nI 8) C dX0_init_29 (by decide) ?_
  refine tg_newa C 0 rfl (List.mem_of_getElem? (i := 4) (by decide +kernel)) (by decide) (Nat.le_of_ble_eq_true rfl) (Nat.le_of_ble_eq_true rfl) (Nat.le_of_ble_eq_true rfl) dX0_init_31 (fun q4 => ?_)
  refine tg_putF C 0 rfl rfl hin0 tyX0 tyX0_ok nmX0 4 (by decide) (List.mem_of_getElem? (i := 8) (by decide +kernel)) (by decide +kernel) hname (by decide +kernel) (ty := .array .int) (by decide +kernel) rfl rfl (Nat.le_of_ble_eq_true rfl) dX0_init_33 ?_
  refine tg_to (ws1 := [(h0, .inr (0, [.int 0, .ref q1, .ref q2, .ref q3, .ref q4, .null, .null])), (q1, .inl (cI, 8, .inl (fun _ => 0))), (q2, .inl (cI, 8, .inl (fun _ => 0))), (q3, .inl (cI, 8, .inl (fun _ => 0))), (q4, .inl (cI, 8, .inl (fun _ => 0)))]) (cs1 := 4) (sl1 := 32) rfl rfl rfl rfl ?_
  refine tg_aload_n C dX0_init_36 rfl 0 rfl ?_
  refine tg_bipush (v := nI 8) C dX0_init_37 (by decide) ?_
  refine tg_newa C 0 rfl (List.mem_of_getElem? (i := 4) (by decide +kernel)) (by decide) (Nat.le_of_ble_eq_true rfl) (Nat.le_of_ble_eq_true rfl) (Nat.le_of_ble_eq_true rfl) dX0_init_39 (fun q5 => ?_)
  refine tg_putF C 0 rfl rfl hin0 tyX0 tyX0_ok nmX0 5 (by decide) (List.mem_of_getElem? (i := 9) (by decide +kernel)) (by decide +kernel) hname (by decide +kernel) (ty := .array .int) (by decide +kernel) rfl rfl (Nat.le_of_ble_eq_true rfl) dX0_init_41 ?_
  refine tg_to (ws1 := [(h0, .inr (0, [.int 0, .ref q1, .ref q2, .ref q3, .ref q4, .ref q5, .null])), (q1, .inl (cI, 8, .inl (fun _ => 0))), (q2, .inl (cI, 8, .inl (fun _ => 0))), (q3, .inl (cI, 8, .inl (fun _ => 0))), (q4, .inl (cI, 8, .inl (fun _ => 0))), (q5, .inl (cI, 8, .inl (fun _ => 0)))]) (cs1 := 5) (sl1 := 40) rfl rfl rfl rfl ?_
  refine tg_aload_n C dX0_init_44 rfl 0 rfl ?_
  refine tg_bipush (v := nI 8) C dX0_init_45 (by decide) ?_
  refine tg_newa C 0 rfl (List.mem_of_getElem? (i := 4) (by decide +kernel)) (by decide) (Nat.le_of_ble_eq_true rfl) (Nat.le_of_ble_eq_true rfl) (Nat.le_of_ble_eq_true rfl) dX0_init_47 (fun q6 => ?_)
  refine tg_putF C 0 rfl rfl hin0 tyX0 tyX0_ok nmX0 6 (by decide) (List.mem_of_getElem? (i := 10) (by decide +kernel)) (by decide +kernel) hname (by decide +kernel) (ty := .array .int) (by decide +kernel) rfl rfl (Nat.le_of_ble_eq_true rfl) dX0_init_49 ?_
  refine tg_to (ws1 := [(h0, .inr (0, [.int 0, .ref q1, .ref q2, .ref q3, .ref q4, .ref q5, .ref q6])), (q1, .inl (cI, 8, .inl (fun _ => 0))), (q2, .inl (cI, 8, .inl (fun _ => 0))), (q3, .inl (cI, 8, .inl (fun _ => 0))), (q4, .inl (cI, 8, .inl (fun _ => 0))), (q5, .inl (cI, 8, .inl (fun _ => 0))), (q6, .inl (cI, 8, .inl (fun _ => 0)))]) (cs1 := 6) (sl1 := 48) rfl rfl rfl rfl ?_
  exact fun ls H locs hl hP hD hS => K (fun k => ([h0, q1, q2, q3, q4, q5, q6] : List Nat).getD k 0) ls H locs 52 rfl dX0_init_52 hP hD hS

def cW1 (cI : ClassId) (a : Nat → Nat) : va_W := [(a 0, .inr (1, [.int 0, .ref (a 1), .ref (a 2), .ref (a 3), .ref (a 4), .ref (a 5), .ref (a 6), .ref (a 7), .ref (a 8), .ref (a 9), .ref (a 10), .ref (a 11), .ref (a 12), .ref (a 13), .ref (a 14), .ref (a 15), .ref (a 16)])), (a 1, .inl (cI, 8, .inl (fun _ => 0))), (a 2, .inl (cI, 8, .inl (fun _ => 0))), (a 3, .inl (cI, 8, .inl (fun _ => 0))), (a 4, .inl (cI, 8, .inl (fun _ => 0))), (a 5, .inl (cI, 8, .inl (fun _ => 0))), (a 6, .inl (cI, 8, .inl (fun _ => 0))), (a 7, .inl (cI, 8, .inl (fun _ => 0))), (a 8, .inl (cI, 8, .inl (fun _ => 0))), (a 9, .inl (cI, 8, .inl (fun _ => 0))), (a 10, .inl (cI, 8, .inl (fun _ => 0))), (a 11, .inl (cI, 8, .inl (fun _ => 0))), (a 12, .inl (cI, 160, .inl (fun _ => 0))), (a 13, .inl (cI, 160, .inl (fun _ => 0))), (a 14, .inl (cI, 8, .inl (fun _ => 0))), (a 15, .inl (cI, 64, .inl (fun _ => 0))), (a 16, .inl (cI, 64, .inl (fun _ => 0)))]
set_option maxHeartbeats 4000000 in
set_option maxRecDepth 100000 in
theorem cg_X1 (l : Launch) (D : va_G) (cI : ClassId) : CG l D [(cI, .int)] yX1_init wsX1_init ({ frames := 1, cells := 16, slots := 544, locals := 12 }) 1 [.int 0, .null, .null, .null, .null, .null, .null, .null, .null, .null, .null, .null, .null, .null, .null, .null, .null] 16 544 (cW1 cI) := by
  refine CG_of (cc := cX1_init) (nL := 1) (own := RX1) (by decide) rfl rfl rfl (Nat.le_of_ble_eq_true rfl) (fun h0 F C hname K => ?_)
  have hin1 : ∀ w ∈ u_ws RX1 TX1 17, w ∈ wsX1_init := by decide +kernel
  refine tg_aload_n C dX1_init_0 rfl 0 rfl ?_
  refine tg_obj C (List.mem_of_getElem? (i := 1) (by decide +kernel)) (List.mem_of_getElem? (i := 2) (by decide +kernel)) (List.mem_of_getElem? (i := 3) (by decide +kernel)) (Nat.le_of_ble_eq_true rfl) (Nat.le_of_ble_eq_true rfl) dX1_init_1 ?_
  refine tg_aload_n C dX1_init_4 rfl 0 rfl ?_
  refine tg_bipush (v := nI 8) C dX1_init_5 (by decide) ?_
  refine tg_newa C 0 rfl (List.mem_of_getElem? (i := 4) (by decide +kernel)) (by decide) (Nat.le_of_ble_eq_true rfl) (Nat.le_of_ble_eq_true rfl) (Nat.le_of_ble_eq_true rfl) dX1_init_7 (fun q1 => ?_)
  refine tg_putF C 0 rfl rfl hin1 tyX1 tyX1_ok nmX1 1 (by decide) (List.mem_of_getElem? (i := 5) (by decide +kernel)) (by decide +kernel) hname (by decide +kernel) (ty := .array .int) (by decide +kernel) rfl rfl (Nat.le_of_ble_eq_true rfl) dX1_init_9 ?_
  refine tg_to (ws1 := [(h0, .inr (1, [.int 0, .ref q1, .null, .null, .null, .null, .null, .null, .null, .null, .null, .null, .null, .null, .null, .null, .null])), (q1, .inl (cI, 8, .inl (fun _ => 0)))]) (cs1 := 1) (sl1 := 8) rfl rfl rfl rfl ?_
  refine tg_aload_n C dX1_init_12 rfl 0 rfl ?_
  refine tg_bipush (v := nI 8) C dX1_init_13 (by decide) ?_
  refine tg_newa C 0 rfl (List.mem_of_getElem? (i := 4) (by decide +kernel)) (by decide) (Nat.le_of_ble_eq_true rfl) (Nat.le_of_ble_eq_true rfl) (Nat.le_of_ble_eq_true rfl) dX1_init_15 (fun q2 => ?_)
  refine tg_putF C 0 rfl rfl hin1 tyX1 tyX1_ok nmX1 2 (by decide) (List.mem_of_getElem? (i := 6) (by decide +kernel)) (by decide +kernel) hname (by decide +kernel) (ty := .array .int) (by decide +kernel) rfl rfl (Nat.le_of_ble_eq_true rfl) dX1_init_17 ?_
  refine tg_to (ws1 := [(h0, .inr (1, [.int 0, .ref q1, .ref q2, .null, .null, .null, .null, .null, .null, .null, .null, .null, .null, .null, .null, .null, .null])), (q1, .inl (cI, 8, .inl (fun _ => 0))), (q2, .inl (cI, 8, .inl (fun _ => 0)))]) (cs1 := 2) (sl1 := 16) rfl rfl rfl rfl ?_
  refine tg_aload_n C dX1_init_20 rfl 0 rfl ?_
  refine tg_bipush (v := nI 8) C dX1_init_21 (by decide) ?_
  refine tg_newa C 0 rfl (List.mem_of_getElem? (i := 4) (by decide +kernel)) (by decide) (Nat.le_of_ble_eq_true rfl) (Nat.le_of_ble_eq_true rfl) (Nat.le_of_ble_eq_true rfl) dX1_init_23 (fun q3 => ?_)
  refine tg_putF C 0 rfl rfl hin1 tyX1 tyX1_ok nmX1 3 (by decide) (List.mem_of_getElem? (i := 7) (by decide +kernel)) (by decide +kernel) hname (by decide +kernel) (ty := .array .int) (by decide +kernel) rfl rfl (Nat.le_of_ble_eq_true rfl) dX1_init_25 ?_
  refine tg_to (ws1 := [(h0, .inr (1, [.int 0, .ref q1, .ref q2, .ref q3, .null, .null, .null, .null, .null, .null, .null, .null, .null, .null, .null, .null, .null])), (q1, .inl (cI, 8, .inl (fun _ => 0))), (q2, .inl (cI, 8, .inl (fun _ => 0))), (q3, .inl (cI, 8, .inl (fun _ => 0)))]) (cs1 := 3) (sl1 := 24) rfl rfl rfl rfl ?_
  refine tg_aload_n C dX1_init_28 rfl 0 rfl ?_
  refine tg_bipush (v := nI 8) C dX1_init_29 (by decide) ?_
  refine tg_newa C 0 rfl (List.mem_of_getElem? (i := 4) (by decide +kernel)) (by decide) (Nat.le_of_ble_eq_true rfl) (Nat.le_of_ble_eq_true rfl) (Nat.le_of_ble_eq_true rfl) dX1_init_31 (fun q4 => ?_)
  refine tg_putF C 0 rfl rfl hin1 tyX1 tyX1_ok nmX1 4 (by decide) (List.mem_of_getElem? (i := 8) (by decide +kernel)) (by decide +kernel) hname (by decide +kernel) (ty := .array .int) (by decide +kernel) rfl rfl (Nat.le_of_ble_eq_true rfl) dX1_init_33 ?_
  refine tg_to (ws1 := [(h0, .inr (1, [.int 0, .ref q1, .ref q2, .ref q3, .ref q4, .null, .null, .null, .null, .null, .null, .null, .null, .null, .null, .null, .null])), (q1, .inl (cI, 8, .inl (fun _ => 0))), (q2, .inl (cI, 8, .inl (fun _ => 0))), (q3, .inl (cI, 8, .inl (fun _ => 0))), (q4, .inl (cI, 8, .inl (fun _ => 0)))]) (cs1 := 4) (sl1 := 32) rfl rfl rfl rfl ?_
  refine tg_aload_n C dX1_init_36 rfl 0 rfl ?_
  refine tg_bipush (v := nI 8) C dX1_init_37 (by decide) ?_
  refine tg_newa C 0 rfl (List.mem_of_getElem? (i := 4) (by decide +kernel)) (by decide) (Nat.le_of_ble_eq_true rfl) (Nat.le_of_ble_eq_true rfl) (Nat.le_of_ble_eq_true rfl) dX1_init_39 (fun q5 => ?_)
  refine tg_putF C 0 rfl rfl hin1 tyX1 tyX1_ok nmX1 5 (by decide) (List.mem_of_getElem? (i := 9) (by decide +kernel)) (by decide +kernel) hname (by decide +kernel) (ty := .array .int) (by decide +kernel) rfl rfl (Nat.le_of_ble_eq_true rfl) dX1_init_41 ?_
  refine tg_to (ws1 := [(h0, .inr (1, [.int 0, .ref q1, .ref q2, .ref q3, .ref q4, .ref q5, .null, .null, .null, .null, .null, .null, .null, .null, .null, .null, .null])), (q1, .inl (cI, 8, .inl (fun _ => 0))), (q2, .inl (cI, 8, .inl (fun _ => 0))), (q3, .inl (cI, 8, .inl (fun _ => 0))), (q4, .inl (cI, 8, .inl (fun _ => 0))), (q5, .inl (cI, 8, .inl (fun _ => 0)))]) (cs1 := 5) (sl1 := 40) rfl rfl rfl rfl ?_
  refine tg_aload_n C dX1_init_44 rfl 0 rfl ?_
  refine tg_bipush (v := nI 8) C dX1_init_45 (by decide) ?_
  refine tg_newa C 0 rfl (List.mem_of_getElem? (i := 4) (by decide +kernel)) (by decide) (Nat.le_of_ble_eq_true rfl) (Nat.le_of_ble_eq_true rfl) (Nat.le_of_ble_eq_true rfl) dX1_init_47 (fun q6 => ?_)
  refine tg_putF C 0 rfl rfl hin1 tyX1 tyX1_ok nmX1 6 (by decide) (List.mem_of_getElem? (i := 10) (by decide +kernel)) (by decide +kernel) hname (by decide +kernel) (ty := .array .int) (by decide +kernel) rfl rfl (Nat.le_of_ble_eq_true rfl) dX1_init_49 ?_
  refine tg_to (ws1 := [(h0, .inr (1, [.int 0, .ref q1, .ref q2, .ref q3, .ref q4, .ref q5, .ref q6, .null, .null, .null, .null, .null, .null, .null, .null, .null, .null])), (q1, .inl (cI, 8, .inl (fun _ => 0))), (q2, .inl (cI, 8, .inl (fun _ => 0))), (q3, .inl (cI, 8, .inl (fun _ => 0))), (q4, .inl (cI, 8, .inl (fun _ => 0))), (q5, .inl (cI, 8, .inl (fun _ => 0))), (q6, .inl (cI, 8, .inl (fun _ => 0)))]) (cs1 := 6) (sl1 := 48) rfl rfl rfl rfl ?_
  refine tg_aload_n C dX1_init_52 rfl 0 rfl ?_
  refine tg_bipush (v := nI 8) C dX1_init_53 (by decide) ?_
  refine tg_newa C 0 rfl (List.mem_of_getElem? (i := 4) (by decide +kernel)) (by decide) (Nat.le_of_ble_eq_true rfl) (Nat.le_of_ble_eq_true rfl) (Nat.le_of_ble_eq_true rfl) dX1_init_55 (fun q7 => ?_)
  refine tg_putF C 0 rfl rfl hin1 tyX1 tyX1_ok nmX1 7 (by decide) (List.mem_of_getElem? (i := 11) (by decide +kernel)) (by decide +kernel) hname (by decide +kernel) (ty := .array .int) (by decide +kernel) rfl rfl (Nat.le_of_ble_eq_true rfl) dX1_init_57 ?_
  refine tg_to (ws1 := [(h0, .inr (1, [.int 0, .ref q1, .ref q2, .ref q3, .ref q4, .ref q5, .ref q6, .ref q7, .null, .null, .null, .null, .null, .null, .null, .null, .null])), (q1, .inl (cI, 8, .inl (fun _ => 0))), (q2, .inl (cI, 8, .inl (fun _ => 0))), (q3, .inl (cI, 8, .inl (fun _ => 0))), (q4, .inl (cI, 8, .inl (fun _ => 0))), (q5, .inl (cI, 8, .inl (fun _ => 0))), (q6, .inl (cI, 8, .inl (fun _ => 0))), (q7, .inl (cI, 8, .inl (fun _ => 0)))]) (cs1 := 7) (sl1 := 56) rfl rfl rfl rfl ?_
  refine tg_aload_n C dX1_init_60 rfl 0 rfl ?_
  refine tg_bipush (v := nI 8) C dX1_init_61 (by decide) ?_
  refine tg_newa C 0 rfl (List.mem_of_getElem? (i := 4) (by decide +kernel)) (by decide) (Nat.le_of_ble_eq_true rfl) (Nat.le_of_ble_eq_true rfl) (Nat.le_of_ble_eq_true rfl) dX1_init_63 (fun q8 => ?_)
  refine tg_putF C 0 rfl rfl hin1 tyX1 tyX1_ok nmX1 8 (by decide) (List.mem_of_getElem? (i := 12) (by decide +kernel)) (by decide +kernel) hname (by decide +kernel) (ty := .array .int) (by decide +kernel) rfl rfl (Nat.le_of_ble_eq_true rfl) dX1_init_65 ?_
  refine tg_to (ws1 := [(h0, .inr (1, [.int 0, .ref q1, .ref q2, .ref q3, .ref q4, .ref q5, .ref q6, .ref q7, .ref q8, .null, .null, .null, .null, .null, .null, .null, .null])), (q1, .inl (cI, 8, .inl (fun _ => 0))), (q2, .inl (cI, 8, .inl (fun _ => 0))), (q3, .inl (cI, 8, .inl (fun _ => 0))), (q4, .inl (cI, 8, .inl (fun _ => 0))), (q5, .inl (cI, 8, .inl (fun _ => 0))), (q6, .inl (cI, 8, .inl (fun _ => 0))), (q7, .inl (cI, 8, .inl (fun _ => 0))), (q8, .inl (cI, 8, .inl (fun _ => 0)))]) (cs1 := 8) (sl1 := 64) rfl rfl rfl rfl ?_
  refine tg_aload_n C dX1_init_68 rfl 0 rfl ?_
  refine tg_bipush (v := nI 8) C dX1_init_69 (by decide) ?_
  refine tg_newa C 0 rfl (List.mem_of_getElem? (i := 4) (by decide +kernel)) (by decide) (Nat.le_of_ble_eq_true rfl) (Nat.le_of_ble_eq_true rfl) (Nat.le_of_ble_eq_true rfl) dX1_init_71 (fun q9 => ?_)
  refine tg_putF C 0 rfl rfl hin1 tyX1 tyX1_ok nmX1 9 (by decide) (List.mem_of_getElem? (i := 13) (by decide +kernel)) (by decide +kernel) hname (by decide +kernel) (ty := .array .int) (by decide +kernel) rfl rfl (Nat.le_of_ble_eq_true rfl) dX1_init_73 ?_
  refine tg_to (ws1 := [(h0, .inr (1, [.int 0, .ref q1, .ref q2, .ref q3, .ref q4, .ref q5, .ref q6, .ref q7, .ref q8, .ref q9, .null, .null, .null, .null, .null, .null, .null])), (q1, .inl (cI, 8, .inl (fun _ => 0))), (q2, .inl (cI, 8, .inl (fun _ => 0))), (q3, .inl (cI, 8, .inl (fun _ => 0))), (q4, .inl (cI, 8, .inl (fun _ => 0))), (q5, .inl (cI, 8, .inl (fun _ => 0))), (q6, .inl (cI, 8, .inl (fun _ => 0))), (q7, .inl (cI, 8, .inl (fun _ => 0))), (q8, .inl (cI, 8, .inl (fun _ => 0))), (q9, .inl (cI, 8, .inl (fun _ => 0)))]) (cs1 := 9) (sl1 := 72) rfl rfl rfl rfl ?_
  refine tg_aload_n C dX1_init_76 rfl 0 rfl ?_
  refine tg_bipush (v := nI 8) C dX1_init_77 (by decide) ?_
  refine tg_newa C 0 rfl (List.mem_of_getElem? (i := 4) (by decide +kernel)) (by decide) (Nat.le_of_ble_eq_true rfl) (Nat.le_of_ble_eq_true rfl) (Nat.le_of_ble_eq_true rfl) dX1_init_79 (fun q10 => ?_)
  refine tg_putF C 0 rfl rfl hin1 tyX1 tyX1_ok nmX1 10 (by decide) (List.mem_of_getElem? (i := 14) (by decide +kernel)) (by decide +kernel) hname (by decide +kernel) (ty := .array .int) (by decide +kernel) rfl rfl (Nat.le_of_ble_eq_true rfl) dX1_init_81 ?_
  refine tg_to (ws1 := [(h0, .inr (1, [.int 0, .ref q1, .ref q2, .ref q3, .ref q4, .ref q5, .ref q6, .ref q7, .ref q8, .ref q9, .ref q10, .null, .null, .null, .null, .null, .null])), (q1, .inl (cI, 8, .inl (fun _ => 0))), (q2, .inl (cI, 8, .inl (fun _ => 0))), (q3, .inl (cI, 8, .inl (fun _ => 0))), (q4, .inl (cI, 8, .inl (fun _ => 0))), (q5, .inl (cI, 8, .inl (fun _ => 0))), (q6, .inl (cI, 8, .inl (fun _ => 0))), (q7, .inl (cI, 8, .inl (fun _ => 0))), (q8, .inl (cI, 8, .inl (fun _ => 0))), (q9, .inl (cI, 8, .inl (fun _ => 0))), (q10, .inl (cI, 8, .inl (fun _ => 0)))]) (cs1 := 10) (sl1 := 80) rfl rfl rfl rfl ?_
  refine tg_aload_n C dX1_init_84 rfl 0 rfl ?_
  refine tg_bipush (v := nI 8) C dX1_init_85 (by decide) ?_
  refine tg_newa C 0 rfl (List.mem_of_getElem? (i := 4) (by decide +kernel)) (by decide) (Nat.le_of_ble_eq_true rfl) (Nat.le_of_ble_eq_true rfl) (Nat.le_of_ble_eq_true rfl) dX1_init_87 (fun q11 => ?_)
  refine tg_putF C 0 rfl rfl hin1 tyX1 tyX1_ok nmX1 11 (by decide) (List.mem_of_getElem? (i := 15) (by decide +kernel)) (by decide +kernel) hname (by decide +kernel) (ty := .array .int) (by decide +kernel) rfl rfl (Nat.le_of_ble_eq_true rfl) dX1_init_89 ?_
  refine tg_to (ws1 := [(h0, .inr (1, [.int 0, .ref q1, .ref q2, .ref q3, .ref q4, .ref q5, .ref q6, .ref q7, .ref q8, .ref q9, .ref q10, .ref q11, .null, .null, .null, .null, .null])), (q1, .inl (cI, 8, .inl (fun _ => 0))), (q2, .inl (cI, 8, .inl (fun _ => 0))), (q3, .inl (cI, 8, .inl (fun _ => 0))), (q4, .inl (cI, 8, .inl (fun _ => 0))), (q5, .inl (cI, 8, .inl (fun _ => 0))), (q6, .inl (cI, 8, .inl (fun _ => 0))), (q7, .inl (cI, 8, .inl (fun _ => 0))), (q8, .inl (cI, 8, .inl (fun _ => 0))), (q9, .inl (cI, 8, .inl (fun _ => 0))), (q10, .inl (cI, 8, .inl (fun _ => 0))), (q11, .inl (cI, 8, .inl (fun _ => 0)))]) (cs1 := 11) (sl1 := 88) rfl rfl rfl rfl ?_
  refine tg_aload_n C dX1_init_92 rfl 0 rfl ?_
  refine tg_sipush (v := nI 160) C dX1_init_93 (by decide) ?_
  refine tg_newa C 0 rfl (List.mem_of_getElem? (i := 4) (by decide +kernel)) (by decide) (Nat.le_of_ble_eq_true rfl) (Nat.le_of_ble_eq_true rfl) (Nat.le_of_ble_eq_true rfl) dX1_init_96 (fun q12 => ?_)
  refine tg_putF C 0 rfl rfl hin1 tyX1 tyX1_ok nmX1 12 (by decide) (List.mem_of_getElem? (i := 16) (by decide +kernel)) (by decide +kernel) hname (by decide +kernel) (ty := .array .int) (by decide +kernel) rfl rfl (Nat.le_of_ble_eq_true rfl) dX1_init_98 ?_
  refine tg_to (ws1 := [(h0, .inr (1, [.int 0, .ref q1, .ref q2, .ref q3, .ref q4, .ref q5, .ref q6, .ref q7, .ref q8, .ref q9, .ref q10, .ref q11, .ref q12, .null, .null, .null, .null])), (q1, .inl (cI, 8, .inl (fun _ => 0))), (q2, .inl (cI, 8, .inl (fun _ => 0))), (q3, .inl (cI, 8, .inl (fun _ => 0))), (q4, .inl (cI, 8, .inl (fun _ => 0))), (q5, .inl (cI, 8, .inl (fun _ => 0))), (q6, .inl (cI, 8, .inl (fun _ => 0))), (q7, .inl (cI, 8, .inl (fun _ => 0))), (q8, .inl (cI, 8, .inl (fun _ => 0))), (q9, .inl (cI, 8, .inl (fun _ => 0))), (q10, .inl (cI, 8, .inl (fun _ => 0))), (q11, .inl (cI, 8, .inl (fun _ => 0))), (q12, .inl (cI, 160, .inl (fun _ => 0)))]) (cs1 := 12) (sl1 := 248) rfl rfl rfl rfl ?_
  refine tg_aload_n C dX1_init_101 rfl 0 rfl ?_
  refine tg_sipush (v := nI 160) C dX1_init_102 (by decide) ?_
  refine tg_newa C 0 rfl (List.mem_of_getElem? (i := 4) (by decide +kernel)) (by decide) (Nat.le_of_ble_eq_true rfl) (Nat.le_of_ble_eq_true rfl) (Nat.le_of_ble_eq_true rfl) dX1_init_105 (fun q13 => ?_)
  refine tg_putF C 0 rfl rfl hin1 tyX1 tyX1_ok nmX1 13 (by decide) (List.mem_of_getElem? (i := 17) (by decide +kernel)) (by decide +kernel) hname (by decide +kernel) (ty := .array .int) (by decide +kernel) rfl rfl (Nat.le_of_ble_eq_true rfl) dX1_init_107 ?_
  refine tg_to (ws1 := [(h0, .inr (1, [.int 0, .ref q1, .ref q2, .ref q3, .ref q4, .ref q5, .ref q6, .ref q7, .ref q8, .ref q9, .ref q10, .ref q11, .ref q12, .ref q13, .null, .null, .null])), (q1, .inl (cI, 8, .inl (fun _ => 0))), (q2, .inl (cI, 8, .inl (fun _ => 0))), (q3, .inl (cI, 8, .inl (fun _ => 0))), (q4, .inl (cI, 8, .inl (fun _ => 0))), (q5, .inl (cI, 8, .inl (fun _ => 0))), (q6, .inl (cI, 8, .inl (fun _ => 0))), (q7, .inl (cI, 8, .inl (fun _ => 0))), (q8, .inl (cI, 8, .inl (fun _ => 0))), (q9, .inl (cI, 8, .inl (fun _ => 0))), (q10, .inl (cI, 8, .inl (fun _ => 0))), (q11, .inl (cI, 8, .inl (fun _ => 0))), (q12, .inl (cI, 160, .inl (fun _ => 0))), (q13, .inl (cI, 160, .inl (fun _ => 0)))]) (cs1 := 13) (sl1 := 408) rfl rfl rfl rfl ?_
  refine tg_aload_n C dX1_init_110 rfl 0 rfl ?_
  refine tg_bipush (v := nI 8) C dX1_init_111 (by decide) ?_
  refine tg_newa C 0 rfl (List.mem_of_getElem? (i := 4) (by decide +kernel)) (by decide) (Nat.le_of_ble_eq_true rfl) (Nat.le_of_ble_eq_true rfl) (Nat.le_of_ble_eq_true rfl) dX1_init_113 (fun q14 => ?_)
  refine tg_putF C 0 rfl rfl hin1 tyX1 tyX1_ok nmX1 14 (by decide) (List.mem_of_getElem? (i := 18) (by decide +kernel)) (by decide +kernel) hname (by decide +kernel) (ty := .array .int) (by decide +kernel) rfl rfl (Nat.le_of_ble_eq_true rfl) dX1_init_115 ?_
  refine tg_to (ws1 := [(h0, .inr (1, [.int 0, .ref q1, .ref q2, .ref q3, .ref q4, .ref q5, .ref q6, .ref q7, .ref q8, .ref q9, .ref q10, .ref q11, .ref q12, .ref q13, .ref q14, .null, .null])), (q1, .inl (cI, 8, .inl (fun _ => 0))), (q2, .inl (cI, 8, .inl (fun _ => 0))), (q3, .inl (cI, 8, .inl (fun _ => 0))), (q4, .inl (cI, 8, .inl (fun _ => 0))), (q5, .inl (cI, 8, .inl (fun _ => 0))), (q6, .inl (cI, 8, .inl (fun _ => 0))), (q7, .inl (cI, 8, .inl (fun _ => 0))), (q8, .inl (cI, 8, .inl (fun _ => 0))), (q9, .inl (cI, 8, .inl (fun _ => 0))), (q10, .inl (cI, 8, .inl (fun _ => 0))), (q11, .inl (cI, 8, .inl (fun _ => 0))), (q12, .inl (cI, 160, .inl (fun _ => 0))), (q13, .inl (cI, 160, .inl (fun _ => 0))), (q14, .inl (cI, 8, .inl (fun _ => 0)))]) (cs1 := 14) (sl1 := 416) rfl rfl rfl rfl ?_
  refine tg_aload_n C dX1_init_118 rfl 0 rfl ?_
  refine tg_bipush (v := nI 64) C dX1_init_119 (by decide) ?_
  refine tg_newa C 0 rfl (List.mem_of_getElem? (i := 4) (by decide +kernel)) (by decide) (Nat.le_of_ble_eq_true rfl) (Nat.le_of_ble_eq_true rfl) (Nat.le_of_ble_eq_true rfl) dX1_init_121 (fun q15 => ?_)
  refine tg_putF C 0 rfl rfl hin1 tyX1 tyX1_ok nmX1 15 (by decide) (List.mem_of_getElem? (i := 19) (by decide +kernel)) (by decide +kernel) hname (by decide +kernel) (ty := .array .int) (by decide +kernel) rfl rfl (Nat.le_of_ble_eq_true rfl) dX1_init_123 ?_
  refine tg_to (ws1 := [(h0, .inr (1, [.int 0, .ref q1, .ref q2, .ref q3, .ref q4, .ref q5, .ref q6, .ref q7, .ref q8, .ref q9, .ref q10, .ref q11, .ref q12, .ref q13, .ref q14, .ref q15, .null])), (q1, .inl (cI, 8, .inl (fun _ => 0))), (q2, .inl (cI, 8, .inl (fun _ => 0))), (q3, .inl (cI, 8, .inl (fun _ => 0))), (q4, .inl (cI, 8, .inl (fun _ => 0))), (q5, .inl (cI, 8, .inl (fun _ => 0))), (q6, .inl (cI, 8, .inl (fun _ => 0))), (q7, .inl (cI, 8, .inl (fun _ => 0))), (q8, .inl (cI, 8, .inl (fun _ => 0))), (q9, .inl (cI, 8, .inl (fun _ => 0))), (q10, .inl (cI, 8, .inl (fun _ => 0))), (q11, .inl (cI, 8, .inl (fun _ => 0))), (q12, .inl (cI, 160, .inl (fun _ => 0))), (q13, .inl (cI, 160, .inl (fun _ => 0))), (q14, .inl (cI, 8, .inl (fun _ => 0))), (q15, .inl (cI, 64, .inl (fun _ => 0)))]) (cs1 := 15) (sl1 := 480) rfl rfl rfl rfl ?_
  refine tg_aload_n C dX1_init_126 rfl 0 rfl ?_
  refine tg_bipush (v := nI 64) C dX1_init_127 (by decide) ?_
  refine tg_newa C 0 rfl (List.mem_of_getElem? (i := 4) (by decide +kernel)) (by decide) (Nat.le_of_ble_eq_true rfl) (Nat.le_of_ble_eq_true rfl) (Nat.le_of_ble_eq_true rfl) dX1_init_129 (fun q16 => ?_)
  refine tg_putF C 0 rfl rfl hin1 tyX1 tyX1_ok nmX1 16 (by decide) (List.mem_of_getElem? (i := 20) (by decide +kernel)) (by decide +kernel) hname (by decide +kernel) (ty := .array .int) (by decide +kernel) rfl rfl (Nat.le_of_ble_eq_true rfl) dX1_init_131 ?_
  refine tg_to (ws1 := [(h0, .inr (1, [.int 0, .ref q1, .ref q2, .ref q3, .ref q4, .ref q5, .ref q6, .ref q7, .ref q8, .ref q9, .ref q10, .ref q11, .ref q12, .ref q13, .ref q14, .ref q15, .ref q16])), (q1, .inl (cI, 8, .inl (fun _ => 0))), (q2, .inl (cI, 8, .inl (fun _ => 0))), (q3, .inl (cI, 8, .inl (fun _ => 0))), (q4, .inl (cI, 8, .inl (fun _ => 0))), (q5, .inl (cI, 8, .inl (fun _ => 0))), (q6, .inl (cI, 8, .inl (fun _ => 0))), (q7, .inl (cI, 8, .inl (fun _ => 0))), (q8, .inl (cI, 8, .inl (fun _ => 0))), (q9, .inl (cI, 8, .inl (fun _ => 0))), (q10, .inl (cI, 8, .inl (fun _ => 0))), (q11, .inl (cI, 8, .inl (fun _ => 0))), (q12, .inl (cI, 160, .inl (fun _ => 0))), (q13, .inl (cI, 160, .inl (fun _ => 0))), (q14, .inl (cI, 8, .inl (fun _ => 0))), (q15, .inl (cI, 64, .inl (fun _ => 0))), (q16, .inl (cI, 64, .inl (fun _ => 0)))]) (cs1 := 16) (sl1 := 544) rfl rfl rfl rfl ?_
  exact fun ls H locs hl hP hD hS => K (fun k => ([h0, q1, q2, q3, q4, q5, q6, q7, q8, q9, q10, q11, q12, q13, q14, q15, q16] : List Nat).getD k 0) ls H locs 134 rfl dX1_init_134 hP hD hS

def cW5 (cI : ClassId) (a : Nat → Nat) : va_W := [(a 0, .inr (5, [.int 0, .ref (a 1), .ref (a 2)])), (a 1, .inl (cI, 64, .inl (fun _ => 0))), (a 2, .inl (cI, 64, .inl (fun _ => 0)))]
set_option maxHeartbeats 4000000 in
set_option maxRecDepth 100000 in
theorem cg_X5 (l : Launch) (D : va_G) (cI : ClassId) : CG l D [(cI, .int)] yX5_init wsX5_init ({ frames := 1, cells := 2, slots := 128, locals := 12 }) 5 [.int 0, .null, .null] 2 128 (cW5 cI) := by
  refine CG_of (cc := cX5_init) (nL := 1) (own := RX5) (by decide) rfl rfl rfl (Nat.le_of_ble_eq_true rfl) (fun h0 F C hname K => ?_)
  have hin5 : ∀ w ∈ u_ws RX5 TX5 3, w ∈ wsX5_init := by decide +kernel
  refine tg_aload_n C dX5_init_0 rfl 0 rfl ?_
  refine tg_obj C (List.mem_of_getElem? (i := 1) (by decide +kernel)) (List.mem_of_getElem? (i := 2) (by decide +kernel)) (List.mem_of_getElem? (i := 3) (by decide +kernel)) (Nat.le_of_ble_eq_true rfl) (Nat.le_of_ble_eq_true rfl) dX5_init_1 ?_
  refine tg_aload_n C dX5_init_4 rfl 0 rfl ?_
  refine tg_bipush (v := nI 64) C dX5_init_5 (by decide) ?_
  refine tg_newa C 0 rfl (List.mem_of_getElem? (i := 4) (by decide +kernel)) (by decide) (Nat.le_of_ble_eq_true rfl) (Nat.le_of_ble_eq_true rfl) (Nat.le_of_ble_eq_true rfl) dX5_init_7 (fun q1 => ?_)
  refine tg_putF C 0 rfl rfl hin5 tyX5 tyX5_ok nmX5 1 (by decide) (List.mem_of_getElem? (i := 5) (by decide +kernel)) (by decide +kernel) hname (by decide +kernel) (ty := .array .int) (by decide +kernel) rfl rfl (Nat.le_of_ble_eq_true rfl) dX5_init_9 ?_
  refine tg_to (ws1 := [(h0, .inr (5, [.int 0, .ref q1, .null])), (q1, .inl (cI, 64, .inl (fun _ => 0)))]) (cs1 := 1) (sl1 := 64) rfl rfl rfl rfl ?_
  refine tg_aload_n C dX5_init_12 rfl 0 rfl ?_
  refine tg_bipush (v := nI 64) C dX5_init_13 (by decide) ?_
  refine tg_newa C 0 rfl (List.mem_of_getElem? (i := 4) (by decide +kernel)) (by decide) (Nat.le_of_ble_eq_true rfl) (Nat.le_of_ble_eq_true rfl) (Nat.le_of_ble_eq_true rfl) dX5_init_15 (fun q2 => ?_)
  refine tg_putF C 0 rfl rfl hin5 tyX5 tyX5_ok nmX5 2 (by decide) (List.mem_of_getElem? (i := 6) (by decide +kernel)) (by decide +kernel) hname (by decide +kernel) (ty := .array .int) (by decide +kernel) rfl rfl (Nat.le_of_ble_eq_true rfl) dX5_init_17 ?_
  refine tg_to (ws1 := [(h0, .inr (5, [.int 0, .ref q1, .ref q2])), (q1, .inl (cI, 64, .inl (fun _ => 0))), (q2, .inl (cI, 64, .inl (fun _ => 0)))]) (cs1 := 2) (sl1 := 128) rfl rfl rfl rfl ?_
  exact fun ls H locs hl hP hD hS => K (fun k => ([h0, q1, q2] : List Nat).getD k 0) ls H locs 20 rfl dX5_init_20 hP hD hS

def cW3 (cI : ClassId) (a : Nat → Nat) : va_W := [(a 0, .inr (3, [.ref (a 1)])), (a 1, .inl (cI, 6, .inl (fun _ => 0)))]
set_option maxHeartbeats 4000000 in
set_option maxRecDepth 100000 in
theorem cg_X3 (l : Launch) (D : va_G) (cI : ClassId) : CG l D [(cI, .int)] yX3_init wsX3_init ({ frames := 1, cells := 1, slots := 6, locals := 12 }) 3 [.null] 1 6 (cW3 cI) := by
  refine CG_of (cc := cX3_init) (nL := 1) (own := RX3) (by decide) rfl rfl rfl (Nat.le_of_ble_eq_true rfl) (fun h0 F C hname K => ?_)
  have hin3 : ∀ w ∈ u_ws RX3 TX3 1, w ∈ wsX3_init := by decide +kernel
  refine tg_aload_n C dX3_init_0 rfl 0 rfl ?_
  refine tg_obj C (List.mem_of_getElem? (i := 1) (by decide +kernel)) (List.mem_of_getElem? (i := 2) (by decide +kernel)) (List.mem_of_getElem? (i := 3) (by decide +kernel)) (Nat.le_of_ble_eq_true rfl) (Nat.le_of_ble_eq_true rfl) dX3_init_1 ?_
  refine tg_aload_n C dX3_init_4 rfl 0 rfl ?_
  refine tg_bipush (v := nI 6) C dX3_init_5 (by decide) ?_
  refine tg_newa C 0 rfl (List.mem_of_getElem? (i := 4) (by decide +kernel)) (by decide) (Nat.le_of_ble_eq_true rfl) (Nat.le_of_ble_eq_true rfl) (Nat.le_of_ble_eq_true rfl) dX3_init_7 (fun q1 => ?_)
  refine tg_putF C 0 rfl rfl hin3 tyX3 tyX3_ok nmX3 0 (by decide) (List.mem_of_getElem? (i := 5) (by decide +kernel)) (by decide +kernel) hname (by decide +kernel) (ty := .array .int) (by decide +kernel) rfl rfl (Nat.le_of_ble_eq_true rfl) dX3_init_9 ?_
  refine tg_to (ws1 := [(h0, .inr (3, [.ref q1])), (q1, .inl (cI, 6, .inl (fun _ => 0)))]) (cs1 := 1) (sl1 := 6) rfl rfl rfl rfl ?_
  exact fun ls H locs hl hP hD hS => K (fun k => ([h0, q1] : List Nat).getD k 0) ls H locs 12 rfl dX3_init_12 hP hD hS

def cW4 (cI : ClassId) (a : Nat → Nat) : va_W := [(a 0, .inr (4, [.int 0, .int 0, .ref (a 1), .ref (a 2), .int 0])), (a 1, .inl (cI, 4, .inl (fun _ => 0))), (a 2, .inl (cI, 150, .inl (fun _ => 0)))]
set_option maxHeartbeats 4000000 in
set_option maxRecDepth 100000 in
theorem cg_X4 (l : Launch) (D : va_G) (cI : ClassId) : CG l D [(cI, .int)] yX4_init wsX4_init ({ frames := 1, cells := 2, slots := 154, locals := 12 }) 4 [.int 0, .int 0, .null, .null, .int 0] 2 154 (cW4 cI) := by
  refine CG_of (cc := cX4_init) (nL := 1) (own := RX4) (by decide) rfl rfl rfl (Nat.le_of_ble_eq_true rfl) (fun h0 F C hname K => ?_)
  have hin4 : ∀ w ∈ u_ws RX4 TX4 5, w ∈ wsX4_init := by decide +kernel
  refine tg_aload_n C dX4_init_0 rfl 0 rfl ?_
  refine tg_obj C (List.mem_of_getElem? (i := 1) (by decide +kernel)) (List.mem_of_getElem? (i := 2) (by decide +kernel)) (List.mem_of_getElem? (i := 3) (by decide +kernel)) (Nat.le_of_ble_eq_true rfl) (Nat.le_of_ble_eq_true rfl) dX4_init_1 ?_
  refine tg_aload_n C dX4_init_4 rfl 0 rfl ?_
  refine tg_iconst (v := nI 4) C dX4_init_5 (by decide) ?_
  refine tg_newa C 0 rfl (List.mem_of_getElem? (i := 4) (by decide +kernel)) (by decide) (Nat.le_of_ble_eq_true rfl) (Nat.le_of_ble_eq_true rfl) (Nat.le_of_ble_eq_true rfl) dX4_init_6 (fun q1 => ?_)
  refine tg_putF C 0 rfl rfl hin4 tyX4 tyX4_ok nmX4 2 (by decide) (List.mem_of_getElem? (i := 5) (by decide +kernel)) (by decide +kernel) hname (by decide +kernel) (ty := .array .int) (by decide +kernel) rfl rfl (Nat.le_of_ble_eq_true rfl) dX4_init_8 ?_
  refine tg_to (ws1 := [(h0, .inr (4, [.int 0, .int 0, .ref q1, .null, .int 0])), (q1, .inl (cI, 4, .inl (fun _ => 0)))]) (cs1 := 1) (sl1 := 4) rfl rfl rfl rfl ?_
  refine tg_aload_n C dX4_init_11 rfl 0 rfl ?_
  refine tg_sipush (v := nI 150) C dX4_init_12 (by decide) ?_
  refine tg_newa C 0 rfl (List.mem_of_getElem? (i := 4) (by decide +kernel)) (by decide) (Nat.le_of_ble_eq_true rfl) (Nat.le_of_ble_eq_true rfl) (Nat.le_of_ble_eq_true rfl) dX4_init_15 (fun q2 => ?_)
  refine tg_putF C 0 rfl rfl hin4 tyX4 tyX4_ok nmX4 3 (by decide) (List.mem_of_getElem? (i := 6) (by decide +kernel)) (by decide +kernel) hname (by decide +kernel) (ty := .array .int) (by decide +kernel) rfl rfl (Nat.le_of_ble_eq_true rfl) dX4_init_17 ?_
  refine tg_to (ws1 := [(h0, .inr (4, [.int 0, .int 0, .ref q1, .ref q2, .int 0])), (q1, .inl (cI, 4, .inl (fun _ => 0))), (q2, .inl (cI, 150, .inl (fun _ => 0)))]) (cs1 := 2) (sl1 := 154) rfl rfl rfl rfl ?_
  exact fun ls H locs hl hP hD hS => K (fun k => ([h0, q1, q2] : List Nat).getD k 0) ls H locs 20 rfl dX4_init_20 hP hD hS

def cW7 (cI : ClassId) (a : Nat → Nat) : va_W := [(a 0, .inr (7, [.ref (a 1), .ref (a 2), .ref (a 3), .int 0, .ref (a 4), .ref (a 5), .int 0, .ref (a 6), .ref (a 7), .ref (a 8), .int 0, .ref (a 9), .ref (a 10), .int 0, .int 0])), (a 1, .inl (cI, 733, .inl (fun _ => 0))), (a 2, .inl (cI, 733, .inl (fun _ => 0))), (a 3, .inl (cI, 2932, .inl (fun _ => 0))), (a 4, .inl (cI, 3, .inl (fun _ => 0))), (a 5, .inl (cI, 150, .inl (fun _ => 0))), (a 6, .inl (cI, 150, .inl (fun _ => 0))), (a 7, .inl (cI, 151, .inl (fun _ => 0))), (a 8, .inl (cI, 150, .inl (fun _ => 0))), (a 9, .inl (cI, 6, .inl (fun _ => 0))), (a 10, .inl (cI, 8, .inl (fun _ => 0)))]
set_option maxHeartbeats 4000000 in
set_option maxRecDepth 100000 in
theorem cg_X7 (l : Launch) (D : va_G) (cI : ClassId) : CG l D [(cI, .int)] yX7_init wsX7_init ({ frames := 1, cells := 10, slots := 5016, locals := 12 }) 7 [.null, .null, .null, .int 0, .null, .null, .int 0, .null, .null, .null, .int 0, .null, .null, .int 0, .int 0] 10 5016 (cW7 cI) := by
  refine CG_of (cc := cX7_init) (nL := 1) (own := RX7) (by decide) rfl rfl rfl (Nat.le_of_ble_eq_true rfl) (fun h0 F C hname K => ?_)
  have hin7 : ∀ w ∈ u_ws RX7 TX7 15, w ∈ wsX7_init := by decide +kernel
  refine tg_aload_n C dX7_init_0 rfl 0 rfl ?_
  refine tg_obj C (List.mem_of_getElem? (i := 1) (by decide +kernel)) (List.mem_of_getElem? (i := 2) (by decide +kernel)) (List.mem_of_getElem? (i := 3) (by decide +kernel)) (Nat.le_of_ble_eq_true rfl) (Nat.le_of_ble_eq_true rfl) dX7_init_1 ?_
  refine tg_aload_n C dX7_init_4 rfl 0 rfl ?_
  refine tg_sipush (v := nI 733) C dX7_init_5 (by decide) ?_
  refine tg_newa C 0 rfl (List.mem_of_getElem? (i := 4) (by decide +kernel)) (by decide) (Nat.le_of_ble_eq_true rfl) (Nat.le_of_ble_eq_true rfl) (Nat.le_of_ble_eq_true rfl) dX7_init_8 (fun q1 => ?_)
  refine tg_putF C 0 rfl rfl hin7 tyX7 tyX7_ok nmX7 0 (by decide) (List.mem_of_getElem? (i := 5) (by decide +kernel)) (by decide +kernel) hname (by decide +kernel) (ty := .array .int) (by decide +kernel) rfl rfl (Nat.le_of_ble_eq_true rfl) dX7_init_10 ?_
  refine tg_to (ws1 := [(h0, .inr (7, [.ref q1, .null, .null, .int 0, .null, .null, .int 0, .null, .null, .null, .int 0, .null, .null, .int 0, .int 0])), (q1, .inl (cI, 733, .inl (fun _ => 0)))]) (cs1 := 1) (sl1 := 733) rfl rfl rfl rfl ?_
  refine tg_aload_n C dX7_init_13 rfl 0 rfl ?_
  refine tg_sipush (v := nI 733) C dX7_init_14 (by decide) ?_
  refine tg_newa C 0 rfl (List.mem_of_getElem? (i := 4) (by decide +kernel)) (by decide) (Nat.le_of_ble_eq_true rfl) (Nat.le_of_ble_eq_true rfl) (Nat.le_of_ble_eq_true rfl) dX7_init_17 (fun q2 => ?_)
  refine tg_putF C 0 rfl rfl hin7 tyX7 tyX7_ok nmX7 1 (by decide) (List.mem_of_getElem? (i := 6) (by decide +kernel)) (by decide +kernel) hname (by decide +kernel) (ty := .array .int) (by decide +kernel) rfl rfl (Nat.le_of_ble_eq_true rfl) dX7_init_19 ?_
  refine tg_to (ws1 := [(h0, .inr (7, [.ref q1, .ref q2, .null, .int 0, .null, .null, .int 0, .null, .null, .null, .int 0, .null, .null, .int 0, .int 0])), (q1, .inl (cI, 733, .inl (fun _ => 0))), (q2, .inl (cI, 733, .inl (fun _ => 0)))]) (cs1 := 2) (sl1 := 1466) rfl rfl rfl rfl ?_
  refine tg_aload_n C dX7_init_22 rfl 0 rfl ?_
  refine tg_sipush (v := nI 2932) C dX7_init_23 (by decide) ?_
  refine tg_newa C 0 rfl (List.mem_of_getElem? (i := 4) (by decide +kernel)) (by decide) (Nat.le_of_ble_eq_true rfl) (Nat.le_of_ble_eq_true rfl) (Nat.le_of_ble_eq_true rfl) dX7_init_26 (fun q3 => ?_)
  refine tg_putF C 0 rfl rfl hin7 tyX7 tyX7_ok nmX7 2 (by decide) (List.mem_of_getElem? (i := 7) (by decide +kernel)) (by decide +kernel) hname (by decide +kernel) (ty := .array .int) (by decide +kernel) rfl rfl (Nat.le_of_ble_eq_true rfl) dX7_init_28 ?_
  refine tg_to (ws1 := [(h0, .inr (7, [.ref q1, .ref q2, .ref q3, .int 0, .null, .null, .int 0, .null, .null, .null, .int 0, .null, .null, .int 0, .int 0])), (q1, .inl (cI, 733, .inl (fun _ => 0))), (q2, .inl (cI, 733, .inl (fun _ => 0))), (q3, .inl (cI, 2932, .inl (fun _ => 0)))]) (cs1 := 3) (sl1 := 4398) rfl rfl rfl rfl ?_
  refine tg_aload_n C dX7_init_31 rfl 0 rfl ?_
  refine tg_iconst (v := nI 3) C dX7_init_32 (by decide) ?_
  refine tg_newa C 0 rfl (List.mem_of_getElem? (i := 4) (by decide +kernel)) (by decide) (Nat.le_of_ble_eq_true rfl) (Nat.le_of_ble_eq_true rfl) (Nat.le_of_ble_eq_true rfl) dX7_init_33 (fun q4 => ?_)
  refine tg_putF C 0 rfl rfl hin7 tyX7 tyX7_ok nmX7 4 (by decide) (List.mem_of_getElem? (i := 8) (by decide +kernel)) (by decide +kernel) hname (by decide +kernel) (ty := .array .int) (by decide +kernel) rfl rfl (Nat.le_of_ble_eq_true rfl) dX7_init_35 ?_
  refine tg_to (ws1 := [(h0, .inr (7, [.ref q1, .ref q2, .ref q3, .int 0, .ref q4, .null, .int 0, .null, .null, .null, .int 0, .null, .null, .int 0, .int 0])), (q1, .inl (cI, 733, .inl (fun _ => 0))), (q2, .inl (cI, 733, .inl (fun _ => 0))), (q3, .inl (cI, 2932, .inl (fun _ => 0))), (q4, .inl (cI, 3, .inl (fun _ => 0)))]) (cs1 := 4) (sl1 := 4401) rfl rfl rfl rfl ?_
  refine tg_aload_n C dX7_init_38 rfl 0 rfl ?_
  refine tg_sipush (v := nI 150) C dX7_init_39 (by decide) ?_
  refine tg_newa C 0 rfl (List.mem_of_getElem? (i := 4) (by decide +kernel)) (by decide) (Nat.le_of_ble_eq_true rfl) (Nat.le_of_ble_eq_true rfl) (Nat.le_of_ble_eq_true rfl) dX7_init_42 (fun q5 => ?_)
  refine tg_putF C 0 rfl rfl hin7 tyX7 tyX7_ok nmX7 5 (by decide) (List.mem_of_getElem? (i := 9) (by decide +kernel)) (by decide +kernel) hname (by decide +kernel) (ty := .array .int) (by decide +kernel) rfl rfl (Nat.le_of_ble_eq_true rfl) dX7_init_44 ?_
  refine tg_to (ws1 := [(h0, .inr (7, [.ref q1, .ref q2, .ref q3, .int 0, .ref q4, .ref q5, .int 0, .null, .null, .null, .int 0, .null, .null, .int 0, .int 0])), (q1, .inl (cI, 733, .inl (fun _ => 0))), (q2, .inl (cI, 733, .inl (fun _ => 0))), (q3, .inl (cI, 2932, .inl (fun _ => 0))), (q4, .inl (cI, 3, .inl (fun _ => 0))), (q5, .inl (cI, 150, .inl (fun _ => 0)))]) (cs1 := 5) (sl1 := 4551) rfl rfl rfl rfl ?_
  refine tg_aload_n C dX7_init_47 rfl 0 rfl ?_
  refine tg_sipush (v := nI 150) C dX7_init_48 (by decide) ?_
  refine tg_newa C 0 rfl (List.mem_of_getElem? (i := 4) (by decide +kernel)) (by decide) (Nat.le_of_ble_eq_true rfl) (Nat.le_of_ble_eq_true rfl) (Nat.le_of_ble_eq_true rfl) dX7_init_51 (fun q6 => ?_)
  refine tg_putF C 0 rfl rfl hin7 tyX7 tyX7_ok nmX7 7 (by decide) (List.mem_of_getElem? (i := 10) (by decide +kernel)) (by decide +kernel) hname (by decide +kernel) (ty := .array .int) (by decide +kernel) rfl rfl (Nat.le_of_ble_eq_true rfl) dX7_init_53 ?_
  refine tg_to (ws1 := [(h0, .inr (7, [.ref q1, .ref q2, .ref q3, .int 0, .ref q4, .ref q5, .int 0, .ref q6, .null, .null, .int 0, .null, .null, .int 0, .int 0])), (q1, .inl (cI, 733, .inl (fun _ => 0))), (q2, .inl (cI, 733, .inl (fun _ => 0))), (q3, .inl (cI, 2932, .inl (fun _ => 0))), (q4, .inl (cI, 3, .inl (fun _ => 0))), (q5, .inl (cI, 150, .inl (fun _ => 0))), (q6, .inl (cI, 150, .inl (fun _ => 0)))]) (cs1 := 6) (sl1 := 4701) rfl rfl rfl rfl ?_
  refine tg_aload_n C dX7_init_56 rfl 0 rfl ?_
  refine tg_sipush (v := nI 151) C dX7_init_57 (by decide) ?_
  refine tg_newa C 0 rfl (List.mem_of_getElem? (i := 4) (by decide +kernel)) (by decide) (Nat.le_of_ble_eq_true rfl) (Nat.le_of_ble_eq_true rfl) (Nat.le_of_ble_eq_true rfl) dX7_init_60 (fun q7 => ?_)
  refine tg_putF C 0 rfl rfl hin7 tyX7 tyX7_ok nmX7 8 (by decide) (List.mem_of_getElem? (i := 11) (by decide +kernel)) (by decide +kernel) hname (by decide +kernel) (ty := .array .int) (by decide +kernel) rfl rfl (Nat.le_of_ble_eq_true rfl) dX7_init_62 ?_
  refine tg_to (ws1 := [(h0, .inr (7, [.ref q1, .ref q2, .ref q3, .int 0, .ref q4, .ref q5, .int 0, .ref q6, .ref q7, .null, .int 0, .null, .null, .int 0, .int 0])), (q1, .inl (cI, 733, .inl (fun _ => 0))), (q2, .inl (cI, 733, .inl (fun _ => 0))), (q3, .inl (cI, 2932, .inl (fun _ => 0))), (q4, .inl (cI, 3, .inl (fun _ => 0))), (q5, .inl (cI, 150, .inl (fun _ => 0))), (q6, .inl (cI, 150, .inl (fun _ => 0))), (q7, .inl (cI, 151, .inl (fun _ => 0)))]) (cs1 := 7) (sl1 := 4852) rfl rfl rfl rfl ?_
  refine tg_aload_n C dX7_init_65 rfl 0 rfl ?_
  refine tg_sipush (v := nI 150) C dX7_init_66 (by decide) ?_
  refine tg_newa C 0 rfl (List.mem_of_getElem? (i := 4) (by decide +kernel)) (by decide) (Nat.le_of_ble_eq_true rfl) (Nat.le_of_ble_eq_true rfl) (Nat.le_of_ble_eq_true rfl) dX7_init_69 (fun q8 => ?_)
  refine tg_putF C 0 rfl rfl hin7 tyX7 tyX7_ok nmX7 9 (by decide) (List.mem_of_getElem? (i := 12) (by decide +kernel)) (by decide +kernel) hname (by decide +kernel) (ty := .array .int) (by decide +kernel) rfl rfl (Nat.le_of_ble_eq_true rfl) dX7_init_71 ?_
  refine tg_to (ws1 := [(h0, .inr (7, [.ref q1, .ref q2, .ref q3, .int 0, .ref q4, .ref q5, .int 0, .ref q6, .ref q7, .ref q8, .int 0, .null, .null, .int 0, .int 0])), (q1, .inl (cI, 733, .inl (fun _ => 0))), (q2, .inl (cI, 733, .inl (fun _ => 0))), (q3, .inl (cI, 2932, .inl (fun _ => 0))), (q4, .inl (cI, 3, .inl (fun _ => 0))), (q5, .inl (cI, 150, .inl (fun _ => 0))), (q6, .inl (cI, 150, .inl (fun _ => 0))), (q7, .inl (cI, 151, .inl (fun _ => 0))), (q8, .inl (cI, 150, .inl (fun _ => 0)))]) (cs1 := 8) (sl1 := 5002) rfl rfl rfl rfl ?_
  refine tg_aload_n C dX7_init_74 rfl 0 rfl ?_
  refine tg_bipush (v := nI 6) C dX7_init_75 (by decide) ?_
  refine tg_newa C 0 rfl (List.mem_of_getElem? (i := 4) (by decide +kernel)) (by decide) (Nat.le_of_ble_eq_true rfl) (Nat.le_of_ble_eq_true rfl) (Nat.le_of_ble_eq_true rfl) dX7_init_77 (fun q9 => ?_)
  refine tg_putF C 0 rfl rfl hin7 tyX7 tyX7_ok nmX7 11 (by decide) (List.mem_of_getElem? (i := 13) (by decide +kernel)) (by decide +kernel) hname (by decide +kernel) (ty := .array .int) (by decide +kernel) rfl rfl (Nat.le_of_ble_eq_true rfl) dX7_init_79 ?_
  refine tg_to (ws1 := [(h0, .inr (7, [.ref q1, .ref q2, .ref q3, .int 0, .ref q4, .ref q5, .int 0, .ref q6, .ref q7, .ref q8, .int 0, .ref q9, .null, .int 0, .int 0])), (q1, .inl (cI, 733, .inl (fun _ => 0))), (q2, .inl (cI, 733, .inl (fun _ => 0))), (q3, .inl (cI, 2932, .inl (fun _ => 0))), (q4, .inl (cI, 3, .inl (fun _ => 0))), (q5, .inl (cI, 150, .inl (fun _ => 0))), (q6, .inl (cI, 150, .inl (fun _ => 0))), (q7, .inl (cI, 151, .inl (fun _ => 0))), (q8, .inl (cI, 150, .inl (fun _ => 0))), (q9, .inl (cI, 6, .inl (fun _ => 0)))]) (cs1 := 9) (sl1 := 5008) rfl rfl rfl rfl ?_
  refine tg_aload_n C dX7_init_82 rfl 0 rfl ?_
  refine tg_bipush (v := nI 8) C dX7_init_83 (by decide) ?_
  refine tg_newa C 0 rfl (List.mem_of_getElem? (i := 4) (by decide +kernel)) (by decide) (Nat.le_of_ble_eq_true rfl) (Nat.le_of_ble_eq_true rfl) (Nat.le_of_ble_eq_true rfl) dX7_init_85 (fun q10 => ?_)
  refine tg_putF C 0 rfl rfl hin7 tyX7 tyX7_ok nmX7 12 (by decide) (List.mem_of_getElem? (i := 14) (by decide +kernel)) (by decide +kernel) hname (by decide +kernel) (ty := .array .int) (by decide +kernel) rfl rfl (Nat.le_of_ble_eq_true rfl) dX7_init_87 ?_
  refine tg_to (ws1 := [(h0, .inr (7, [.ref q1, .ref q2, .ref q3, .int 0, .ref q4, .ref q5, .int 0, .ref q6, .ref q7, .ref q8, .int 0, .ref q9, .ref q10, .int 0, .int 0])), (q1, .inl (cI, 733, .inl (fun _ => 0))), (q2, .inl (cI, 733, .inl (fun _ => 0))), (q3, .inl (cI, 2932, .inl (fun _ => 0))), (q4, .inl (cI, 3, .inl (fun _ => 0))), (q5, .inl (cI, 150, .inl (fun _ => 0))), (q6, .inl (cI, 150, .inl (fun _ => 0))), (q7, .inl (cI, 151, .inl (fun _ => 0))), (q8, .inl (cI, 150, .inl (fun _ => 0))), (q9, .inl (cI, 6, .inl (fun _ => 0))), (q10, .inl (cI, 8, .inl (fun _ => 0)))]) (cs1 := 10) (sl1 := 5016) rfl rfl rfl rfl ?_
  exact fun ls H locs hl hP hD hS => K (fun k => ([h0, q1, q2, q3, q4, q5, q6, q7, q8, q9, q10] : List Nat).getD k 0) ls H locs 90 rfl dX7_init_90 hP hD hS
