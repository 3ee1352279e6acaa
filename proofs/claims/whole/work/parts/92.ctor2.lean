/-! House: its cells by label -/
def hcA (cI : ClassId) (a : Nat → Nat) (k : Nat) : va_E :=
  if k = 0 then .inr (2, [.ref (a 1), .ref (a 18), .ref (a 25), .ref (a 28), .int 0, .int 0, .int 0, .int 0])
  else if k = 1 then .inr (1, [.int 0, .ref (a 2), .ref (a 3), .ref (a 4), .ref (a 5), .ref (a 6), .ref (a 7), .ref (a 8), .ref (a 9), .ref (a 10), .ref (a 11), .ref (a 12), .ref (a 13), .ref (a 14), .ref (a 15), .ref (a 16), .ref (a 17)])
  else if k = 18 then .inr (0, [.int 0, .ref (a 19), .ref (a 20), .ref (a 21), .ref (a 22), .ref (a 23), .ref (a 24)])
  else if k = 25 then .inr (5, [.int 0, .ref (a 26), .ref (a 27)])
  else .inl (cI, hlen k, .inl (fun _ => 0))
def cW2 (cI : ClassId) (a : Nat → Nat) : va_W := (List.range 29).map (fun k => (a k, hcA cI a k))
set_option maxHeartbeats 4000000 in
set_option maxRecDepth 100000 in
theorem cg_X2 (l : Launch) (D : va_G) (cI : ClassId) : CG l D [(cI, .int)] yX2_init wsX2_init ({ frames := 2, cells := 28, slots := 753, locals := 32 }) 2 [.null, .null, .null, .null, .int 0, .int 0, .int 0, .int 0] 28 753 (cW2 cI) := by
  refine CG_of (cc := cX2_init) (nL := 1) (own := RX2) (by decide) rfl rfl rfl (Nat.le_of_ble_eq_true rfl) (fun h0 F C hname K => ?_)
  have hin2 : ∀ w ∈ u_ws RX2 TX2 8, w ∈ wsX2_init := by decide +kernel
  have hin1 : ∀ w ∈ u_ws RX1 TX1 17, w ∈ wsX2_init := by decide +kernel
  have hin0 : ∀ w ∈ u_ws RX0 TX0 7, w ∈ wsX2_init := by decide +kernel
  have hin5 : ∀ w ∈ u_ws RX5 TX5 3, w ∈ wsX2_init := by decide +kernel
  refine tg_aload_n C dX2_init_0 rfl 0 rfl ?_
  refine tg_obj C (List.mem_of_getElem? (i := 1) (by decide +kernel)) (List.mem_of_getElem? (i := 2) (by decide +kernel)) (List.mem_of_getElem? (i := 3) (by decide +kernel)) (Nat.le_of_ble_eq_true rfl) (Nat.le_of_ble_eq_true rfl) dX2_init_1 ?_
  refine tg_aload_n C dX2_init_4 rfl 0 rfl ?_
  refine tg_new (ci := 1) (fs := [.int 0, .null, .null, .null, .null, .null, .null, .null, .null, .null, .null, .null, .null, .null, .null, .null, .null]) (Cn := RX1) (T := TX1) (N := 17) C hin1 tyX1 tyX1_ok (List.mem_of_getElem? (i := 4) (by decide +kernel)) (List.mem_of_getElem? (i := 5) (by decide +kernel)) (List.mem_of_getElem? (i := 6) (by decide +kernel)) rfl (fun j hj => by rcases (by omega : j = 0 ∨ j = 1 ∨ j = 2 ∨ j = 3 ∨ j = 4 ∨ j = 5 ∨ j = 6 ∨ j = 7 ∨ j = 8 ∨ j = 9 ∨ j = 10 ∨ j = 11 ∨ j = 12 ∨ j = 13 ∨ j = 14 ∨ j = 15 ∨ j = 16) with rfl | rfl | rfl | rfl | rfl | rfl | rfl | rfl | rfl | rfl | rfl | rfl | rfl | rfl | rfl | rfl | rfl <;> rfl) (Nat.le_of_ble_eq_true rfl) (Nat.le_of_ble_eq_true rfl) dX2_init_5 (fun q => ?_)
  refine tg_dup C dX2_init_8 rfl ?_
  refine tg_init C (cg_X1 l D cI) gX2_init_X1_init rfl ⟨rfl, rfl⟩ (List.mem_of_getElem? (i := 6) (by decide +kernel)) (List.mem_of_getElem? (i := 18) (by decide +kernel)) (List.mem_of_getElem? (i := 19) (by decide +kernel)) rfl (by decide +kernel) ⟨Nat.le_of_ble_eq_true rfl, Nat.le_of_ble_eq_true rfl⟩ ⟨Nat.le_of_ble_eq_true rfl, Nat.le_of_ble_eq_true rfl⟩ (Nat.le_of_ble_eq_true rfl) dX2_init_9 (fun b hq_b => ?_)
  subst hq_b
  refine tg_putF C 0 rfl rfl hin2 tyX2 tyX2_ok nmX2 0 (by decide) (List.mem_of_getElem? (i := 7) (by decide +kernel)) (by decide +kernel) hname (by decide +kernel) (ty := .object "BadgeDoors$Doors") (by decide +kernel) rfl rfl (Nat.le_of_ble_eq_true rfl) dX2_init_12 ?_
  refine tg_to (ws1 := [(h0, .inr (2, [.ref (b 0), .null, .null, .null, .int 0, .int 0, .int 0, .int 0]))] ++ cW1 cI b) (cs1 := 17) (sl1 := 561) rfl rfl rfl rfl ?_
  refine tg_aload_n C dX2_init_15 rfl 0 rfl ?_
  refine tg_new (ci := 0) (fs := [.int 0, .null, .null, .null, .null, .null, .null]) (Cn := RX0) (T := TX0) (N := 7) C hin0 tyX0 tyX0_ok (List.mem_of_getElem? (i := 8) (by decide +kernel)) (List.mem_of_getElem? (i := 9) (by decide +kernel)) (List.mem_of_getElem? (i := 10) (by decide +kernel)) rfl (fun j hj => by rcases (by omega : j = 0 ∨ j = 1 ∨ j = 2 ∨ j = 3 ∨ j = 4 ∨ j = 5 ∨ j = 6) with rfl | rfl | rfl | rfl | rfl | rfl | rfl <;> rfl) (Nat.le_of_ble_eq_true rfl) (Nat.le_of_ble_eq_true rfl) dX2_init_16 (fun q => ?_)
  refine tg_dup C dX2_init_19 rfl ?_
  refine tg_init C (cg_X0 l D cI) gX2_init_X0_init rfl ⟨rfl, rfl⟩ (List.mem_of_getElem? (i := 10) (by decide +kernel)) (List.mem_of_getElem? (i := 38) (by decide +kernel)) (List.mem_of_getElem? (i := 39) (by decide +kernel)) rfl (by decide +kernel) ⟨Nat.le_of_ble_eq_true rfl, Nat.le_of_ble_eq_true rfl⟩ ⟨Nat.le_of_ble_eq_true rfl, Nat.le_of_ble_eq_true rfl⟩ (Nat.le_of_ble_eq_true rfl) dX2_init_20 (fun c hq_c => ?_)
  subst hq_c
  refine tg_putF C 0 rfl rfl hin2 tyX2 tyX2_ok nmX2 1 (by decide) (List.mem_of_getElem? (i := 11) (by decide +kernel)) (by decide +kernel) hname (by decide +kernel) (ty := .object "BadgeDoors$Badges") (by decide +kernel) rfl rfl (Nat.le_of_ble_eq_true rfl) dX2_init_23 ?_
  refine tg_to (ws1 := [(h0, .inr (2, [.ref (b 0), .ref (c 0), .null, .null, .int 0, .int 0, .int 0, .int 0]))] ++ cW1 cI b ++ cW0 cI c) (cs1 := 24) (sl1 := 616) rfl rfl rfl rfl ?_
  refine tg_aload_n C dX2_init_26 rfl 0 rfl ?_
  refine tg_new (ci := 5) (fs := [.int 0, .null, .null]) (Cn := RX5) (T := TX5) (N := 3) C hin5 tyX5 tyX5_ok (List.mem_of_getElem? (i := 12) (by decide +kernel)) (List.mem_of_getElem? (i := 13) (by decide +kernel)) (List.mem_of_getElem? (i := 14) (by decide +kernel)) rfl (fun j hj => by rcases (by omega : j = 0 ∨ j = 1 ∨ j = 2) with rfl | rfl | rfl <;> rfl) (Nat.le_of_ble_eq_true rfl) (Nat.le_of_ble_eq_true rfl) dX2_init_27 (fun q => ?_)
  refine tg_dup C dX2_init_30 rfl ?_
  refine tg_init C (cg_X5 l D cI) gX2_init_X5_init rfl ⟨rfl, rfl⟩ (List.mem_of_getElem? (i := 14) (by decide +kernel)) (List.mem_of_getElem? (i := 48) (by decide +kernel)) (List.mem_of_getElem? (i := 49) (by decide +kernel)) rfl (by decide +kernel) ⟨Nat.le_of_ble_eq_true rfl, Nat.le_of_ble_eq_true rfl⟩ ⟨Nat.le_of_ble_eq_true rfl, Nat.le_of_ble_eq_true rfl⟩ (Nat.le_of_ble_eq_true rfl) dX2_init_31 (fun d hq_d => ?_)
  subst hq_d
  refine tg_putF C 0 rfl rfl hin2 tyX2 tyX2_ok nmX2 2 (by decide) (List.mem_of_getElem? (i := 15) (by decide +kernel)) (by decide +kernel) hname (by decide +kernel) (ty := .object "BadgeDoors$Twos") (by decide +kernel) rfl rfl (Nat.le_of_ble_eq_true rfl) dX2_init_34 ?_
  refine tg_to (ws1 := [(h0, .inr (2, [.ref (b 0), .ref (c 0), .ref (d 0), .null, .int 0, .int 0, .int 0, .int 0]))] ++ cW1 cI b ++ cW0 cI c ++ cW5 cI d) (cs1 := 27) (sl1 := 747) rfl rfl rfl rfl ?_
  refine tg_aload_n C dX2_init_37 rfl 0 rfl ?_
  refine tg_bipush (v := nI 6) C dX2_init_38 (by decide) ?_
  refine tg_newa C 0 rfl (List.mem_of_getElem? (i := 16) (by decide +kernel)) (by decide) (Nat.le_of_ble_eq_true rfl) (Nat.le_of_ble_eq_true rfl) (Nat.le_of_ble_eq_true rfl) dX2_init_40 (fun o => ?_)
  refine tg_putF C 0 rfl rfl hin2 tyX2 tyX2_ok nmX2 3 (by decide) (List.mem_of_getElem? (i := 17) (by decide +kernel)) (by decide +kernel) hname (by decide +kernel) (ty := .array .int) (by decide +kernel) rfl rfl (Nat.le_of_ble_eq_true rfl) dX2_init_42 ?_
  refine tg_to (ws1 := cW2 cI (fun k => if k = 0 then h0 else if k < 18 then b (k - 1) else if k < 25 then c (k - 18) else if k < 28 then d (k - 25) else o)) (cs1 := 28) (sl1 := 753) rfl rfl rfl rfl ?_
  exact fun ls H locs hl hP hD hS => K (fun k => if k = 0 then h0 else if k < 18 then b (k - 1) else if k < 25 then c (k - 18) else if k < 28 then d (k - 25) else o) ls H locs 45 rfl dX2_init_45 hP hD hS
