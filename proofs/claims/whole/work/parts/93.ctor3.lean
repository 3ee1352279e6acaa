/-! BadgeDoors: five houses, the row of the kept, text, route -/
abbrev S6 : Type := (Nat → Nat → Nat) × ClassId
def cW6 (cI cO : ClassId) (A : Nat → Nat → Nat) : va_W := [(A 5 0, .inr (6, [.ref (A 0 0), .ref (A 5 1), .int 0, .ref (A 5 2), .ref (A 5 5), .int 0, .int 0, .int 0]))] ++ cW2 cI (A 0) ++ [(A 5 1, .inl (cO, 4, .inr (.inr (.inr (.inr (va_up (va_up (va_up (va_up (fun _ => none) 0 (some (A 1 0))) 1 (some (A 2 0))) 2 (some (A 3 0))) 3 (some (A 4 0))))))))] ++ cW2 cI (A 1) ++ cW2 cI (A 2) ++ cW2 cI (A 3) ++ cW2 cI (A 4) ++ cW4 cI (fun k => A 5 (k + 2)) ++ cW3 cI (fun k => A 5 (k + 5))
def CG6 (l : Launch) (D : va_G) (cI : ClassId) : Prop := ∀ h0 sz : Nat, Met l yX6_init wsX6_init ({ frames := 3, cells := 151, slots := 3975, locals := 52 } : Room) (va_Pc [.ref h0] (fun U => U.heap.size = sz ∧ va_P D vwCl [(h0, .inr (6, [.null, .null, .int 0, .null, .null, .int 0, .int 0, .int 0]))] U.heap ∧ va_K D vwCl [(cI, .int)] U ∧ va_AO "BadgeDoors$House" U)) (va_Qv (fun z : S6 => z.1 5 0 = h0) (fun z t => va_P D vwCl (cW6 cI z.2 z.1) t.heap ∧ va_K D vwCl [(cI, .int), (z.2, .object "BadgeDoors$House")] t ∧ va_D (va_A [(h0, .inr (6, [.null, .null, .int 0, .null, .null, .int 0, .int 0, .int 0]))] sz) (cW6 cI z.2 z.1)) (va_A [(h0, .inr (6, [.null, .null, .int 0, .null, .null, .int 0, .int 0, .int 0]))] sz)) 151 3975 (va_A [(h0, .inr (6, [.null, .null, .int 0, .null, .null, .int 0, .int 0, .int 0]))] sz)
set_option maxHeartbeats 4000000 in
set_option maxRecDepth 100000 in
theorem cg6_body {l : Launch} {D : va_G} {cI : ClassId} (h0 : Nat) (F : FX) (C : GxC D [(cI, .int)] F cX6_init 2 RX6 wsX6_init ({ frames := 3, cells := 151, slots := 3975, locals := 52 } : Room)) (hname : (fH F).name = "<init>") (K : ∀ (z : S6) (ls : Array Slot) (H : Heap) (locs : List Loc) (pc : Nat), z.1 5 0 = h0 → decode cX6_init pc = .ok (.return_, 1) → va_K D vwCl [(cI, .int), (z.2, .object "BadgeDoors$House")] (fS F) → va_P D vwCl (cW6 cI z.2 z.1) H → va_D (fB F) (cW6 cI z.2 z.1) → va_S (fB F) (fS F).heap H locs → W (fP F) l (fE F) (fR F) (fS F) (fM F) (fG F) (fW F) (fH F) (fC F) H locs 151 3975 (fQ F) (F0 (fM F) pc ls [])) : TG l D F 2 [(h0, .inr (6, [.null, .null, .int 0, .null, .null, .int 0, .int 0, .int 0]))] 0 0 0 [(0, .ref h0)] [] := by
  have hin6 : ∀ w ∈ u_ws RX6 TX6 8, w ∈ wsX6_init := by decide +kernel
  have hin2 : ∀ w ∈ u_ws RX2 TX2 8, w ∈ wsX6_init := by decide +kernel
  have hin4 : ∀ w ∈ u_ws RX4 TX4 5, w ∈ wsX6_init := by decide +kernel
  have hin3 : ∀ w ∈ u_ws RX3 TX3 1, w ∈ wsX6_init := by decide +kernel
  refine tg_aload_n C dX6_init_0 rfl 0 rfl ?_
  refine tg_obj C (List.mem_of_getElem? (i := 1) (by decide +kernel)) (List.mem_of_getElem? (i := 2) (by decide +kernel)) (List.mem_of_getElem? (i := 3) (by decide +kernel)) (Nat.le_of_ble_eq_true rfl) (Nat.le_of_ble_eq_true rfl) dX6_init_1 ?_
  refine tg_aload_n C dX6_init_4 rfl 0 rfl ?_
  refine tg_new (ci := 2) (fs := [.null, .null, .null, .null, .int 0, .int 0, .int 0, .int 0]) (Cn := RX2) (T := TX2) (N := 8) C hin2 tyX2 tyX2_ok (List.mem_of_getElem? (i := 4) (by decide +kernel)) (List.mem_of_getElem? (i := 5) (by decide +kernel)) (List.mem_of_getElem? (i := 6) (by decide +kernel)) rfl (fun j hj => by rcases (by omega : j = 0 ∨ j = 1 ∨ j = 2 ∨ j = 3 ∨ j = 4 ∨ j = 5 ∨ j = 6 ∨ j = 7) with rfl | rfl | rfl | rfl | rfl | rfl | rfl | rfl <;> rfl) (Nat.le_of_ble_eq_true rfl) (Nat.le_of_ble_eq_true rfl) dX6_init_5 (fun q => ?_)
  refine tg_dup C dX6_init_8 rfl ?_
  refine tg_init C (cg_X2 l D cI) gX6_init_X2_init rfl ⟨rfl, rfl⟩ (List.mem_of_getElem? (i := 6) (by decide +kernel)) (List.mem_of_getElem? (i := 17) (by decide +kernel)) (List.mem_of_getElem? (i := 18) (by decide +kernel)) rfl (by decide +kernel) ⟨Nat.le_of_ble_eq_true rfl, Nat.le_of_ble_eq_true rfl⟩ ⟨Nat.le_of_ble_eq_true rfl, Nat.le_of_ble_eq_true rfl⟩ (Nat.le_of_ble_eq_true rfl) dX6_init_9 (fun a0 hq_a0 => ?_)
  subst hq_a0
  refine tg_put C 0 rfl rfl hin6 tyX6 tyX6_ok nmX6 0 (by decide) (List.mem_of_getElem? (i := 7) (by decide +kernel)) (by decide +kernel) (ty := .object "BadgeDoors$House") (by decide +kernel) rfl rfl (Nat.le_of_ble_eq_true rfl) dX6_init_12 ?_
  refine tg_to (ws1 := [(h0, .inr (6, [.ref (a0 0), .null, .int 0, .null, .null, .int 0, .int 0, .int 0]))] ++ cW2 cI a0) (cs1 := 29) (sl1 := 761) rfl rfl rfl rfl ?_
  refine tg_aload_n C dX6_init_15 rfl 0 rfl ?_
  refine tg_iconst (v := nI 4) C dX6_init_16 (by decide) ?_
  refine tg_newq C (List.mem_of_getElem? (i := 4) (by decide +kernel)) (by decide) (Nat.le_of_ble_eq_true rfl) (Nat.le_of_ble_eq_true rfl) (Nat.le_of_ble_eq_true rfl) dX6_init_17 (fun kq cO hK2 => ?_)
  have C2 : GxC D [(cI, .int), (cO, .object "BadgeDoors$House")] F cX6_init 2 RX6 wsX6_init ({ frames := 3, cells := 151, slots := 3975, locals := 52 } : Room) := ⟨C.1, C.2.1, C.2.2.1, C.2.2.2.1, C.2.2.2.2.1, hK2, C.2.2.2.2.2.2⟩
  refine tg_putF C 0 rfl rfl hin6 tyX6 tyX6_ok nmX6 1 (by decide) (List.mem_of_getElem? (i := 8) (by decide +kernel)) (by decide +kernel) hname (by decide +kernel) (ty := .array (.object "BadgeDoors$House")) (by decide +kernel) rfl rfl (Nat.le_of_ble_eq_true rfl) dX6_init_20 ?_
  refine tg_to (ws1 := [(h0, .inr (6, [.ref (a0 0), .ref kq, .int 0, .null, .null, .int 0, .int 0, .int 0]))] ++ cW2 cI a0 ++ [(kq, .inl (cO, 4, .inr (.inr (.inr (.inr (fun _ => none))))))]) (cs1 := 30) (sl1 := 765) rfl rfl rfl rfl ?_
  refine tg_iconst (v := nI 0) C dX6_init_23 (by decide) ?_
  refine tg_istore_n (lv' := [(0, .ref h0), (1, .int (nI 0))]) C dX6_init_24 rfl (by decide) [1, 0] rfl ?_
  refine tg_iload_n C dX6_init_25 rfl 1 rfl ?_
  refine tg_iconst (v := nI 4) C dX6_init_26 (by decide) ?_
  refine tg_icmp_ge (tgt := 49) C dX6_init_27 (by decide) (fun z => absurd z (by decide)) (fun _ => ?_)
  refine tg_aload_n C dX6_init_30 rfl 0 rfl ?_
  refine tg_get (v := .ref kq) C 0 rfl rfl hin6 1 (by decide) (List.mem_of_getElem? (i := 8) (by decide +kernel)) rfl dX6_init_31 ?_
  refine tg_iload_n C dX6_init_34 rfl 1 rfl ?_
  refine tg_new (ci := 2) (fs := [.null, .null, .null, .null, .int 0, .int 0, .int 0, .int 0]) (Cn := RX2) (T := TX2) (N := 8) C hin2 tyX2 tyX2_ok (List.mem_of_getElem? (i := 4) (by decide +kernel)) (List.mem_of_getElem? (i := 5) (by decide +kernel)) (List.mem_of_getElem? (i := 6) (by decide +kernel)) rfl (fun j hj => by rcases (by omega : j = 0 ∨ j = 1 ∨ j = 2 ∨ j = 3 ∨ j = 4 ∨ j = 5 ∨ j = 6 ∨ j = 7) with rfl | rfl | rfl | rfl | rfl | rfl | rfl | rfl <;> rfl) (Nat.le_of_ble_eq_true rfl) (Nat.le_of_ble_eq_true rfl) dX6_init_35 (fun q => ?_)
  refine tg_dup C dX6_init_38 rfl ?_
  refine tg_init C (cg_X2 l D cI) gX6_init_X2_init rfl ⟨rfl, rfl⟩ (List.mem_of_getElem? (i := 6) (by decide +kernel)) (List.mem_of_getElem? (i := 17) (by decide +kernel)) (List.mem_of_getElem? (i := 18) (by decide +kernel)) rfl (by decide +kernel) ⟨Nat.le_of_ble_eq_true rfl, Nat.le_of_ble_eq_true rfl⟩ ⟨Nat.le_of_ble_eq_true rfl, Nat.le_of_ble_eq_true rfl⟩ (Nat.le_of_ble_eq_true rfl) dX6_init_39 (fun a1 hq_a1 => ?_)
  subst hq_a1
  refine tg_astq C2 30 1 31 (r := (RX2, TX2, 8)) rfl rfl rfl rfl (by decide) (by decide) dX6_init_42 ?_
  refine tg_to (ws1 := [(h0, .inr (6, [.ref (a0 0), .ref kq, .int 0, .null, .null, .int 0, .int 0, .int 0]))] ++ cW2 cI a0 ++ [(kq, .inl (cO, 4, .inr (.inr (.inr (.inr (va_up (fun _ => none) 0 (some (a1 0))))))))] ++ cW2 cI a1) (cs1 := 59) (sl1 := 1526) rfl rfl rfl rfl ?_
  refine tg_iinc (p := 1) (v := nI 1) (lv' := [(0, .ref h0), (1, .int (nI 1))]) C dX6_init_43 rfl (by decide) (by decide) [1, 0] rfl ?_
  refine tg_goto (tgt := 25) C dX6_init_46 (by decide) ?_
  refine tg_iload_n C dX6_init_25 rfl 1 rfl ?_
  refine tg_iconst (v := nI 4) C dX6_init_26 (by decide) ?_
  refine tg_icmp_ge (tgt := 49) C dX6_init_27 (by decide) (fun z => absurd z (by decide)) (fun _ => ?_)
  refine tg_aload_n C dX6_init_30 rfl 0 rfl ?_
  refine tg_get (v := .ref kq) C 0 rfl rfl hin6 1 (by decide) (List.mem_of_getElem? (i := 8) (by decide +kernel)) rfl dX6_init_31 ?_
  refine tg_iload_n C dX6_init_34 rfl 1 rfl ?_
  refine tg_new (ci := 2) (fs := [.null, .null, .null, .null, .int 0, .int 0, .int 0, .int 0]) (Cn := RX2) (T := TX2) (N := 8) C hin2 tyX2 tyX2_ok (List.mem_of_getElem? (i := 4) (by decide +kernel)) (List.mem_of_getElem? (i := 5) (by decide +kernel)) (List.mem_of_getElem? (i := 6) (by decide +kernel)) rfl (fun j hj => by rcases (by omega : j = 0 ∨ j = 1 ∨ j = 2 ∨ j = 3 ∨ j = 4 ∨ j = 5 ∨ j = 6 ∨ j = 7) with rfl | rfl | rfl | rfl | rfl | rfl | rfl | rfl <;> rfl) (Nat.le_of_ble_eq_true rfl) (Nat.le_of_ble_eq_true rfl) dX6_init_35 (fun q => ?_)
  refine tg_dup C dX6_init_38 rfl ?_
  refine tg_init C (cg_X2 l D cI) gX6_init_X2_init rfl ⟨rfl, rfl⟩ (List.mem_of_getElem? (i := 6) (by decide +kernel)) (List.mem_of_getElem? (i := 17) (by decide +kernel)) (List.mem_of_getElem? (i := 18) (by decide +kernel)) rfl (by decide +kernel) ⟨Nat.le_of_ble_eq_true rfl, Nat.le_of_ble_eq_true rfl⟩ ⟨Nat.le_of_ble_eq_true rfl, Nat.le_of_ble_eq_true rfl⟩ (Nat.le_of_ble_eq_true rfl) dX6_init_39 (fun a2 hq_a2 => ?_)
  subst hq_a2
  refine tg_astq C2 30 1 60 (r := (RX2, TX2, 8)) rfl rfl rfl rfl (by decide) (by decide) dX6_init_42 ?_
  refine tg_to (ws1 := [(h0, .inr (6, [.ref (a0 0), .ref kq, .int 0, .null, .null, .int 0, .int 0, .int 0]))] ++ cW2 cI a0 ++ [(kq, .inl (cO, 4, .inr (.inr (.inr (.inr (va_up (va_up (fun _ => none) 0 (some (a1 0))) 1 (some (a2 0))))))))] ++ cW2 cI a1 ++ cW2 cI a2) (cs1 := 88) (sl1 := 2287) rfl rfl rfl rfl ?_
  refine tg_iinc (p := 1) (v := nI 2) (lv' := [(0, .ref h0), (1, .int (nI 2))]) C dX6_init_43 rfl (by decide) (by decide) [1, 0] rfl ?_
  refine tg_goto (tgt := 25) C dX6_init_46 (by decide) ?_
  refine tg_iload_n C dX6_init_25 rfl 1 rfl ?_
  refine tg_iconst (v := nI 4) C dX6_init_26 (by decide) ?_
  refine tg_icmp_ge (tgt := 49) C dX6_init_27 (by decide) (fun z => absurd z (by decide)) (fun _ => ?_)
  refine tg_aload_n C dX6_init_30 rfl 0 rfl ?_
  refine tg_get (v := .ref kq) C 0 rfl rfl hin6 1 (by decide) (List.mem_of_getElem? (i := 8) (by decide +kernel)) rfl dX6_init_31 ?_
  refine tg_iload_n C dX6_init_34 rfl 1 rfl ?_
  refine tg_new (ci := 2) (fs := [.null, .null, .null, .null, .int 0, .int 0, .int 0, .int 0]) (Cn := RX2) (T := TX2) (N := 8) C hin2 tyX2 tyX2_ok (List.mem_of_getElem? (i := 4) (by decide +kernel)) (List.mem_of_getElem? (i := 5) (by decide +kernel)) (List.mem_of_getElem? (i := 6) (by decide +kernel)) rfl (fun j hj => by rcases (by omega : j = 0 ∨ j = 1 ∨ j = 2 ∨ j = 3 ∨ j = 4 ∨ j = 5 ∨ j = 6 ∨ j = 7) with rfl | rfl | rfl | rfl | rfl | rfl | rfl | rfl <;> rfl) (Nat.le_of_ble_eq_true rfl) (Nat.le_of_ble_eq_true rfl) dX6_init_35 (fun q => ?_)
  refine tg_dup C dX6_init_38 rfl ?_
  refine tg_init C (cg_X2 l D cI) gX6_init_X2_init rfl ⟨rfl, rfl⟩ (List.mem_of_getElem? (i := 6) (by decide +kernel)) (List.mem_of_getElem? (i := 17) (by decide +kernel)) (List.mem_of_getElem? (i := 18) (by decide +kernel)) rfl (by decide +kernel) ⟨Nat.le_of_ble_eq_true rfl, Nat.le_of_ble_eq_true rfl⟩ ⟨Nat.le_of_ble_eq_true rfl, Nat.le_of_ble_eq_true rfl⟩ (Nat.le_of_ble_eq_true rfl) dX6_init_39 (fun a3 hq_a3 => ?_)
  subst hq_a3
  refine tg_astq C2 30 1 89 (r := (RX2, TX2, 8)) rfl rfl rfl rfl (by decide) (by decide) dX6_init_42 ?_
  refine tg_to (ws1 := [(h0, .inr (6, [.ref (a0 0), .ref kq, .int 0, .null, .null, .int 0, .int 0, .int 0]))] ++ cW2 cI a0 ++ [(kq, .inl (cO, 4, .inr (.inr (.inr (.inr (va_up (va_up (va_up (fun _ => none) 0 (some (a1 0))) 1 (some (a2 0))) 2 (some (a3 0))))))))] ++ cW2 cI a1 ++ cW2 cI a2 ++ cW2 cI a3) (cs1 := 117) (sl1 := 3048) rfl rfl rfl rfl ?_
  refine tg_iinc (p := 1) (v := nI 3) (lv' := [(0, .ref h0), (1, .int (nI 3))]) C dX6_init_43 rfl (by decide) (by decide) [1, 0] rfl ?_
  refine tg_goto (tgt := 25) C dX6_init_46 (by decide) ?_
  refine tg_iload_n C dX6_init_25 rfl 1 rfl ?_
  refine tg_iconst (v := nI 4) C dX6_init_26 (by decide) ?_
  refine tg_icmp_ge (tgt := 49) C dX6_init_27 (by decide) (fun z => absurd z (by decide)) (fun _ => ?_)
  refine tg_aload_n C dX6_init_30 rfl 0 rfl ?_
  refine tg_get (v := .ref kq) C 0 rfl rfl hin6 1 (by decide) (List.mem_of_getElem? (i := 8) (by decide +kernel)) rfl dX6_init_31 ?_
  refine tg_iload_n C dX6_init_34 rfl 1 rfl ?_
  refine tg_new (ci := 2) (fs := [.null, .null, .null, .null, .int 0, .int 0, .int 0, .int 0]) (Cn := RX2) (T := TX2) (N := 8) C hin2 tyX2 tyX2_ok (List.mem_of_getElem? (i := 4) (by decide +kernel)) (List.mem_of_getElem? (i := 5) (by decide +kernel)) (List.mem_of_getElem? (i := 6) (by decide +kernel)) rfl (fun j hj => by rcases (by omega : j = 0 ∨ j = 1 ∨ j = 2 ∨ j = 3 ∨ j = 4 ∨ j = 5 ∨ j = 6 ∨ j = 7) with rfl | rfl | rfl | rfl | rfl | rfl | rfl | rfl <;> rfl) (Nat.le_of_ble_eq_true rfl) (Nat.le_of_ble_eq_true rfl) dX6_init_35 (fun q => ?_)
  refine tg_dup C dX6_init_38 rfl ?_
  refine tg_init C (cg_X2 l D cI) gX6_init_X2_init rfl ⟨rfl, rfl⟩ (List.mem_of_getElem? (i := 6) (by decide +kernel)) (List.mem_of_getElem? (i := 17) (by decide +kernel)) (List.mem_of_getElem? (i := 18) (by decide +kernel)) rfl (by decide +kernel) ⟨Nat.le_of_ble_eq_true rfl, Nat.le_of_ble_eq_true rfl⟩ ⟨Nat.le_of_ble_eq_true rfl, Nat.le_of_ble_eq_true rfl⟩ (Nat.le_of_ble_eq_true rfl) dX6_init_39 (fun a4 hq_a4 => ?_)
  subst hq_a4
  refine tg_astq C2 30 1 118 (r := (RX2, TX2, 8)) rfl rfl rfl rfl (by decide) (by decide) dX6_init_42 ?_
  refine tg_to (ws1 := [(h0, .inr (6, [.ref (a0 0), .ref kq, .int 0, .null, .null, .int 0, .int 0, .int 0]))] ++ cW2 cI a0 ++ [(kq, .inl (cO, 4, .inr (.inr (.inr (.inr (va_up (va_up (va_up (va_up (fun _ => none) 0 (some (a1 0))) 1 (some (a2 0))) 2 (some (a3 0))) 3 (some (a4 0))))))))] ++ cW2 cI a1 ++ cW2 cI a2 ++ cW2 cI a3 ++ cW2 cI a4) (cs1 := 146) (sl1 := 3809) rfl rfl rfl rfl ?_
  refine tg_iinc (p := 1) (v := nI 4) (lv' := [(0, .ref h0), (1, .int (nI 4))]) C dX6_init_43 rfl (by decide) (by decide) [1, 0] rfl ?_
  refine tg_goto (tgt := 25) C dX6_init_46 (by decide) ?_
  refine tg_iload_n C dX6_init_25 rfl 1 rfl ?_
  refine tg_iconst (v := nI 4) C dX6_init_26 (by decide) ?_
  refine tg_icmp_ge (tgt := 49) C dX6_init_27 (by decide) (fun _ => ?_) (fun z => absurd (by decide) z)
  refine tg_aload_n C dX6_init_49 rfl 0 rfl ?_
  refine tg_new (ci := 4) (fs := [.int 0, .int 0, .null, .null, .int 0]) (Cn := RX4) (T := TX4) (N := 5) C hin4 tyX4 tyX4_ok (List.mem_of_getElem? (i := 9) (by decide +kernel)) (List.mem_of_getElem? (i := 10) (by decide +kernel)) (List.mem_of_getElem? (i := 11) (by decide +kernel)) rfl (fun j hj => by rcases (by omega : j = 0 ∨ j = 1 ∨ j = 2 ∨ j = 3 ∨ j = 4) with rfl | rfl | rfl | rfl | rfl <;> rfl) (Nat.le_of_ble_eq_true rfl) (Nat.le_of_ble_eq_true rfl) dX6_init_50 (fun q => ?_)
  refine tg_dup C dX6_init_53 rfl ?_
  refine tg_init C (cg_X4 l D cI) gX6_init_X4_init rfl ⟨rfl, rfl⟩ (List.mem_of_getElem? (i := 11) (by decide +kernel)) (List.mem_of_getElem? (i := 71) (by decide +kernel)) (List.mem_of_getElem? (i := 72) (by decide +kernel)) rfl (by decide +kernel) ⟨Nat.le_of_ble_eq_true rfl, Nat.le_of_ble_eq_true rfl⟩ ⟨Nat.le_of_ble_eq_true rfl, Nat.le_of_ble_eq_true rfl⟩ (Nat.le_of_ble_eq_true rfl) dX6_init_54 (fun t hq_t => ?_)
  subst hq_t
  refine tg_putF C 0 rfl rfl hin6 tyX6 tyX6_ok nmX6 3 (by decide) (List.mem_of_getElem? (i := 12) (by decide +kernel)) (by decide +kernel) hname (by decide +kernel) (ty := .object "BadgeDoors$Text") (by decide +kernel) rfl rfl (Nat.le_of_ble_eq_true rfl) dX6_init_57 ?_
  refine tg_to (ws1 := [(h0, .inr (6, [.ref (a0 0), .ref kq, .int 0, .ref (t 0), .null, .int 0, .int 0, .int 0]))] ++ cW2 cI a0 ++ [(kq, .inl (cO, 4, .inr (.inr (.inr (.inr (va_up (va_up (va_up (va_up (fun _ => none) 0 (some (a1 0))) 1 (some (a2 0))) 2 (some (a3 0))) 3 (some (a4 0))))))))] ++ cW2 cI a1 ++ cW2 cI a2 ++ cW2 cI a3 ++ cW2 cI a4 ++ cW4 cI t) (cs1 := 149) (sl1 := 3968) rfl rfl rfl rfl ?_
  refine tg_aload_n C dX6_init_60 rfl 0 rfl ?_
  refine tg_new (ci := 3) (fs := [.null]) (Cn := RX3) (T := TX3) (N := 1) C hin3 tyX3 tyX3_ok (List.mem_of_getElem? (i := 13) (by decide +kernel)) (List.mem_of_getElem? (i := 14) (by decide +kernel)) (List.mem_of_getElem? (i := 15) (by decide +kernel)) rfl (fun j hj => by rcases (by omega : j = 0) with rfl <;> rfl) (Nat.le_of_ble_eq_true rfl) (Nat.le_of_ble_eq_true rfl) dX6_init_61 (fun q => ?_)
  refine tg_dup C dX6_init_64 rfl ?_
  refine tg_init C (cg_X3 l D cI) gX6_init_X3_init rfl ⟨rfl, rfl⟩ (List.mem_of_getElem? (i := 15) (by decide +kernel)) (List.mem_of_getElem? (i := 77) (by decide +kernel)) (List.mem_of_getElem? (i := 78) (by decide +kernel)) rfl (by decide +kernel) ⟨Nat.le_of_ble_eq_true rfl, Nat.le_of_ble_eq_true rfl⟩ ⟨Nat.le_of_ble_eq_true rfl, Nat.le_of_ble_eq_true rfl⟩ (Nat.le_of_ble_eq_true rfl) dX6_init_65 (fun w hq_w => ?_)
  subst hq_w
  refine tg_putF C 0 rfl rfl hin6 tyX6 tyX6_ok nmX6 4 (by decide) (List.mem_of_getElem? (i := 16) (by decide +kernel)) (by decide +kernel) hname (by decide +kernel) (ty := .object "BadgeDoors$Route") (by decide +kernel) rfl rfl (Nat.le_of_ble_eq_true rfl) dX6_init_68 ?_
  refine tg_to (ws1 := cW6 cI cO (fun i k => if i = 0 then a0 k else if i = 1 then a1 k else if i = 2 then a2 k else if i = 3 then a3 k else if i = 4 then a4 k else if k = 0 then h0 else if k = 1 then kq else if k < 5 then t (k - 2) else w (k - 5))) (cs1 := 151) (sl1 := 3975) rfl rfl rfl rfl ?_
  exact fun ls H locs hl hP hD hS => K ((fun i k => if i = 0 then a0 k else if i = 1 then a1 k else if i = 2 then a2 k else if i = 3 then a3 k else if i = 4 then a4 k else if k = 0 then h0 else if k = 1 then kq else if k < 5 then t (k - 2) else w (k - 5)), cO) ls H locs 71 rfl dX6_init_71 hK2 hP hD hS

set_option maxHeartbeats 4000000 in
set_option maxRecDepth 100000 in
theorem cg_X6 (l : Launch) (D : va_G) (cI : ClassId) : CG6 l D cI := by
  intro h0 sz
  refine Met.ofW (cc := cX6_init) (maxL := 2) (ret := none) (by decide) rfl ?_
  intro p e s m args below meth c s₁ B hml hv
  obtain ⟨rfl, hsz, hP, hK, hAO⟩ := hv
  subst hsz
  have hts := atoms_spec (ws := wsX6_init) B.pre
  have hown : s.vm.findClass RX6 = some m.cls := findClass_of_methodNamed B.named
  have hnm : meth.name = "<init>" := (name_of_methodNamed B.named B.method).1
  have hl := lv_entry [Value.ref h0] (n := 2) (Nat.le_of_ble_eq_true rfl)
  rw [lg_entry_eq]
  refine cg6_body (l := l) (D := D) (cI := cI) h0 (p, e, (headSpec wsX6_init ({ frames := 3, cells := 151, slots := 3975, locals := 52 } : Room)).room, s, m, [Value.ref h0].toArray, below, meth, c, MQ below (va_Qv (fun z : S6 => z.1 5 0 = h0) (fun z t => va_P D vwCl (cW6 cI z.2 z.1) t.heap ∧ va_K D vwCl [(cI, .int), (z.2, .object "BadgeDoors$House")] t ∧ va_D (va_A [(h0, .inr (6, [.null, .null, .int 0, .null, .null, .int 0, .int 0, .int 0]))] s.heap.size) (cW6 cI z.2 z.1)) (va_A [(h0, .inr (6, [.null, .null, .int 0, .null, .null, .int 0, .int 0, .int 0]))] s.heap.size)) [Value.ref h0].toArray s 151 3975 (va_A [(h0, .inr (6, [.null, .null, .int 0, .null, .null, .int 0, .int 0, .int 0]))] s.heap.size), 0, 0, va_A [(h0, .inr (6, [.null, .null, .int 0, .null, .null, .int 0, .int 0, .int 0]))] s.heap.size) ⟨B.exec, B.bytes, hml, hown, hts, hK, fun q h => Or.inr h, rfl, hAO⟩ hnm ?_ _ s.heap [] hl hP (va_D_one (Or.inl ⟨0, _, rfl⟩)) va_S.rf
  intro z ls H locs pc ha hd hK2 hP1 hD1 hS1
  have hS : va_S (va_A [(h0, .inr (6, [.null, .null, .int 0, .null, .null, .int 0, .int 0, .int 0]))] s.heap.size) s.heap H locs := hS1
  show W p l e (headSpec wsX6_init ({ frames := 3, cells := 151, slots := 3975, locals := 52 } : Room)).room s m [Value.ref h0].toArray below meth c H locs 151 3975 (MQ below (va_Qv (fun z : S6 => z.1 5 0 = h0) (fun z t => va_P D vwCl (cW6 cI z.2 z.1) t.heap ∧ va_K D vwCl [(cI, .int), (z.2, .object "BadgeDoors$House")] t ∧ va_D (va_A [(h0, .inr (6, [.null, .null, .int 0, .null, .null, .int 0, .int 0, .int 0]))] s.heap.size) (cW6 cI z.2 z.1)) (va_A [(h0, .inr (6, [.null, .null, .int 0, .null, .null, .int 0, .int 0, .int 0]))] s.heap.size)) [Value.ref h0].toArray s 151 3975 (va_A [(h0, .inr (6, [.null, .null, .int 0, .null, .null, .int 0, .int 0, .int 0]))] s.heap.size)) (F0 m pc ls [])
  exact W.vret B.exec B.bytes B.returns (fun t ht hW => ⟨⟨z, rfl, ha, by rw [ht]; exact hP1, va_K.moved hW.alike hK2, hD1⟩, hS.F ht⟩) hS.2.2 hd B.notSynchronized
