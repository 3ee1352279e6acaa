def bc1 (x : Int32) : Int32 := x - ((x.toUInt32 >>> ((nI 1).toUInt32 &&& Int32.toUInt32 31)).toInt32 &&& (1431655765 : Int32))
def bc2 (x : Int32) : Int32 := (x &&& (858993459 : Int32)) + ((x.toUInt32 >>> ((nI 2).toUInt32 &&& Int32.toUInt32 31)).toInt32 &&& (858993459 : Int32))
def bc3 (x : Int32) : Int32 := (x + (x.toUInt32 >>> ((nI 4).toUInt32 &&& Int32.toUInt32 31)).toInt32) &&& (252645135 : Int32)
def bc4 (x : Int32) : Int32 := x + (x.toUInt32 >>> ((nI 8).toUInt32 &&& Int32.toUInt32 31)).toInt32
def bc5 (x : Int32) : Int32 := x + (x.toUInt32 >>> ((nI 16).toUInt32 &&& Int32.toUInt32 31)).toInt32
def bcF (x : Int32) : Int32 := bc5 (bc4 (bc3 (bc2 (bc1 x)))) &&& nI 63

set_option maxHeartbeats 4000000 in
set_option maxRecDepth 100000 in
theorem c_J6_bitCount_0f7a4 (E : EN) (u : U3) (r : R1) (x : Int32)  : CT E yJ6_bitCount_0f7a4 wsJ6_bitCount_0f7a4 (rmT 0 0) [.int x] (u) r (some (.int (bcF x))) (u) r := by
  refine CT_ofI (cc := cJ6_bitCount_0f7a4) (nL := 1) (own := RJ6) (by decide) rfl rfl rfl (Nat.le_of_ble_eq_true rfl) (fun F C K => ?_)
  refine tt_to (lv1 := [(0, .int x)]) rfl rfl rfl rfl ?_
  refine tt_iload_n C dJ6_bitCount_0f7a4_0 rfl 0 rfl ?_
  refine tt_iload_n C dJ6_bitCount_0f7a4_1 rfl 0 rfl ?_
  refine tt_iconst (v := nI 1) C dJ6_bitCount_0f7a4_2 (by decide) ?_
  refine tt_iushr C dJ6_bitCount_0f7a4_3 rfl ?_
  refine tt_ldcw (v := 1431655765) C (List.mem_of_getElem? (i := 1) (by decide +kernel)) dJ6_bitCount_0f7a4_4 ?_
  refine tt_iand C dJ6_bitCount_0f7a4_7 rfl ?_
  refine tt_isub C dJ6_bitCount_0f7a4_8 rfl ?_
  refine tt_istore_n (lv' := [(0, .int (x - (((x.toUInt32 >>> ((nI 1).toUInt32 &&& Int32.toUInt32 31)).toInt32) &&& (1431655765 : Int32))))]) C dJ6_bitCount_0f7a4_9 rfl (by decide) [0] rfl ?_
  refine tt_iload_n C dJ6_bitCount_0f7a4_10 rfl 0 rfl ?_
  refine tt_ldcw (v := 858993459) C (List.mem_of_getElem? (i := 2) (by decide +kernel)) dJ6_bitCount_0f7a4_11 ?_
  refine tt_iand C dJ6_bitCount_0f7a4_14 rfl ?_
  refine tt_iload_n C dJ6_bitCount_0f7a4_15 rfl 0 rfl ?_
  refine tt_iconst (v := nI 2) C dJ6_bitCount_0f7a4_16 (by decide) ?_
  refine tt_iushr C dJ6_bitCount_0f7a4_17 rfl ?_
  refine tt_ldcw (v := 858993459) C (List.mem_of_getElem? (i := 2) (by decide +kernel)) dJ6_bitCount_0f7a4_18 ?_
  refine tt_iand C dJ6_bitCount_0f7a4_21 rfl ?_
  refine tt_iadd C dJ6_bitCount_0f7a4_22 rfl ?_
  refine tt_istore_n (lv' := [(0, .int (((x - (((x.toUInt32 >>> ((nI 1).toUInt32 &&& Int32.toUInt32 31)).toInt32) &&& (1431655765 : Int32))) &&& (858993459 : Int32)) + ((((x - (((x.toUInt32 >>> ((nI 1).toUInt32 &&& Int32.toUInt32 31)).toInt32) &&& (1431655765 : Int32))).toUInt32 >>> ((nI 2).toUInt32 &&& Int32.toUInt32 31)).toInt32) &&& (858993459 : Int32))))]) C dJ6_bitCount_0f7a4_23 rfl (by decide) [0] rfl ?_
  refine tt_iload_n C dJ6_bitCount_0f7a4_24 rfl 0 rfl ?_
  refine tt_iload_n C dJ6_bitCount_0f7a4_25 rfl 0 rfl ?_
  refine tt_iconst (v := nI 4) C dJ6_bitCount_0f7a4_26 (by decide) ?_
  refine tt_iushr C dJ6_bitCount_0f7a4_27 rfl ?_
  refine tt_iadd C dJ6_bitCount_0f7a4_28 rfl ?_
  refine tt_ldcw (v := 252645135) C (List.mem_of_getElem? (i := 3) (by decide +kernel)) dJ6_bitCount_0f7a4_29 ?_
  refine tt_iand C dJ6_bitCount_0f7a4_32 rfl ?_
  refine tt_istore_n (lv' := [(0, .int (((((x - (((x.toUInt32 >>> ((nI 1).toUInt32 &&& Int32.toUInt32 31)).toInt32) &&& (1431655765 : Int32))) &&& (858993459 : Int32)) + ((((x - (((x.toUInt32 >>> ((nI 1).toUInt32 &&& Int32.toUInt32 31)).toInt32) &&& (1431655765 : Int32))).toUInt32 >>> ((nI 2).toUInt32 &&& Int32.toUInt32 31)).toInt32) &&& (858993459 : Int32))) + (((((x - (((x.toUInt32 >>> ((nI 1).toUInt32 &&& Int32.toUInt32 31)).toInt32) &&& (1431655765 : Int32))) &&& (858993459 : Int32)) + ((((x - (((x.toUInt32 >>> ((nI 1).toUInt32 &&& Int32.toUInt32 31)).toInt32) &&& (1431655765 : Int32))).toUInt32 >>> ((nI 2).toUInt32 &&& Int32.toUInt32 31)).toInt32) &&& (858993459 : Int32))).toUInt32 >>> ((nI 4).toUInt32 &&& Int32.toUInt32 31)).toInt32)) &&& (252645135 : Int32)))]) C dJ6_bitCount_0f7a4_33 rfl (by decide) [0] rfl ?_
  refine tt_iload_n C dJ6_bitCount_0f7a4_34 rfl 0 rfl ?_
  refine tt_iload_n C dJ6_bitCount_0f7a4_35 rfl 0 rfl ?_
  refine tt_bipush (v := nI 8) C dJ6_bitCount_0f7a4_36 (by decide) ?_
  refine tt_iushr C dJ6_bitCount_0f7a4_38 rfl ?_
  refine tt_iadd C dJ6_bitCount_0f7a4_39 rfl ?_
  refine tt_istore_n (lv' := [(0, .int ((((((x - (((x.toUInt32 >>> ((nI 1).toUInt32 &&& Int32.toUInt32 31)).toInt32) &&& (1431655765 : Int32))) &&& (858993459 : Int32)) + ((((x - (((x.toUInt32 >>> ((nI 1).toUInt32 &&& Int32.toUInt32 31)).toInt32) &&& (1431655765 : Int32))).toUInt32 >>> ((nI 2).toUInt32 &&& Int32.toUInt32 31)).toInt32) &&& (858993459 : Int32))) + (((((x - (((x.toUInt32 >>> ((nI 1).toUInt32 &&& Int32.toUInt32 31)).toInt32) &&& (1431655765 : Int32))) &&& (858993459 : Int32)) + ((((x - (((x.toUInt32 >>> ((nI 1).toUInt32 &&& Int32.toUInt32 31)).toInt32) &&& (1431655765 : Int32))).toUInt32 >>> ((nI 2).toUInt32 &&& Int32.toUInt32 31)).toInt32) &&& (858993459 : Int32))).toUInt32 >>> ((nI 4).toUInt32 &&& Int32.toUInt32 31)).toInt32)) &&& (252645135 : Int32)) + (((((((x - (((x.toUInt32 >>> ((nI 1).toUInt32 &&& Int32.toUInt32 31)).toInt32) &&& (1431655765 : Int32))) &&& (858993459 : Int32)) + ((((x - (((x.toUInt32 >>> ((nI 1).toUInt32 &&& Int32.toUInt32 31)).toInt32) &&& (1431655765 : Int32))).toUInt32 >>> ((nI 2).toUInt32 &&& Int32.toUInt32 31)).toInt32) &&& (858993459 : Int32))) + (((((x - (((x.toUInt32 >>> ((nI 1).toUInt32 &&& Int32.toUInt32 31)).toInt32) &&& (1431655765 : Int32))) &&& (858993459 : Int32)) + ((((x - (((x.toUInt32 >>> ((nI 1).toUInt32 &&& Int32.toUInt32 31)).toInt32) &&& (1431655765 : Int32))).toUInt32 >>> ((nI 2).toUInt32 &&& Int32.toUInt32 31)).toInt32) &&& (858993459 : Int32))).toUInt32 >>> ((nI 4).toUInt32 &&& Int32.toUInt32 31)).toInt32)) &&& (252645135 : Int32)).toUInt32 >>> ((nI 8).toUInt32 &&& Int32.toUInt32 31)).toInt32)))]) C dJ6_bitCount_0f7a4_40 rfl (by decide) [0] rfl ?_
  refine tt_iload_n C dJ6_bitCount_0f7a4_41 rfl 0 rfl ?_
  refine tt_iload_n C dJ6_bitCount_0f7a4_42 rfl 0 rfl ?_
  refine tt_bipush (v := nI 16) C dJ6_bitCount_0f7a4_43 (by decide) ?_
  refine tt_iushr C dJ6_bitCount_0f7a4_45 rfl ?_
  refine tt_iadd C dJ6_bitCount_0f7a4_46 rfl ?_
  refine tt_istore_n (lv' := [(0, .int (((((((x - (((x.toUInt32 >>> ((nI 1).toUInt32 &&& Int32.toUInt32 31)).toInt32) &&& (1431655765 : Int32))) &&& (858993459 : Int32)) + ((((x - (((x.toUInt32 >>> ((nI 1).toUInt32 &&& Int32.toUInt32 31)).toInt32) &&& (1431655765 : Int32))).toUInt32 >>> ((nI 2).toUInt32 &&& Int32.toUInt32 31)).toInt32) &&& (858993459 : Int32))) + (((((x - (((x.toUInt32 >>> ((nI 1).toUInt32 &&& Int32.toUInt32 31)).toInt32) &&& (1431655765 : Int32))) &&& (858993459 : Int32)) + ((((x - (((x.toUInt32 >>> ((nI 1).toUInt32 &&& Int32.toUInt32 31)).toInt32) &&& (1431655765 : Int32))).toUInt32 >>> ((nI 2).toUInt32 &&& Int32.toUInt32 31)).toInt32) &&& (858993459 : Int32))).toUInt32 >>> ((nI 4).toUInt32 &&& Int32.toUInt32 31)).toInt32)) &&& (252645135 : Int32)) + (((((((x - (((x.toUInt32 >>> ((nI 1).toUInt32 &&& Int32.toUInt32 31)).toInt32) &&& (1431655765 : Int32))) &&& (858993459 : Int32)) + ((((x - (((x.toUInt32 >>> ((nI 1).toUInt32 &&& Int32.toUInt32 31)).toInt32) &&& (1431655765 : Int32))).toUInt32 >>> ((nI 2).toUInt32 &&& Int32.toUInt32 31)).toInt32) &&& (858993459 : Int32))) + (((((x - (((x.toUInt32 >>> ((nI 1).toUInt32 &&& Int32.toUInt32 31)).toInt32) &&& (1431655765 : Int32))) &&& (858993459 : Int32)) + ((((x - (((x.toUInt32 >>> ((nI 1).toUInt32 &&& Int32.toUInt32 31)).toInt32) &&& (1431655765 : Int32))).toUInt32 >>> ((nI 2).toUInt32 &&& Int32.toUInt32 31)).toInt32) &&& (858993459 : Int32))).toUInt32 >>> ((nI 4).toUInt32 &&& Int32.toUInt32 31)).toInt32)) &&& (252645135 : Int32)).toUInt32 >>> ((nI 8).toUInt32 &&& Int32.toUInt32 31)).toInt32)) + ((((((((x - (((x.toUInt32 >>> ((nI 1).toUInt32 &&& Int32.toUInt32 31)).toInt32) &&& (1431655765 : Int32))) &&& (858993459 : Int32)) + ((((x - (((x.toUInt32 >>> ((nI 1).toUInt32 &&& Int32.toUInt32 31)).toInt32) &&& (1431655765 : Int32))).toUInt32 >>> ((nI 2).toUInt32 &&& Int32.toUInt32 31)).toInt32) &&& (858993459 : Int32))) + (((((x - (((x.toUInt32 >>> ((nI 1).toUInt32 &&& Int32.toUInt32 31)).toInt32) &&& (1431655765 : Int32))) &&& (858993459 : Int32)) + ((((x - (((x.toUInt32 >>> ((nI 1).toUInt32 &&& Int32.toUInt32 31)).toInt32) &&& (1431655765 : Int32))).toUInt32 >>> ((nI 2).toUInt32 &&& Int32.toUInt32 31)).toInt32) &&& (858993459 : Int32))).toUInt32 >>> ((nI 4).toUInt32 &&& Int32.toUInt32 31)).toInt32)) &&& (252645135 : Int32)) + (((((((x - (((x.toUInt32 >>> ((nI 1).toUInt32 &&& Int32.toUInt32 31)).toInt32) &&& (1431655765 : Int32))) &&& (858993459 : Int32)) + ((((x - (((x.toUInt32 >>> ((nI 1).toUInt32 &&& Int32.toUInt32 31)).toInt32) &&& (1431655765 : Int32))).toUInt32 >>> ((nI 2).toUInt32 &&& Int32.toUInt32 31)).toInt32) &&& (858993459 : Int32))) + (((((x - (((x.toUInt32 >>> ((nI 1).toUInt32 &&& Int32.toUInt32 31)).toInt32) &&& (1431655765 : Int32))) &&& (858993459 : Int32)) + ((((x - (((x.toUInt32 >>> ((nI 1).toUInt32 &&& Int32.toUInt32 31)).toInt32) &&& (1431655765 : Int32))).toUInt32 >>> ((nI 2).toUInt32 &&& Int32.toUInt32 31)).toInt32) &&& (858993459 : Int32))).toUInt32 >>> ((nI 4).toUInt32 &&& Int32.toUInt32 31)).toInt32)) &&& (252645135 : Int32)).toUInt32 >>> ((nI 8).toUInt32 &&& Int32.toUInt32 31)).toInt32)).toUInt32 >>> ((nI 16).toUInt32 &&& Int32.toUInt32 31)).toInt32)))]) C dJ6_bitCount_0f7a4_47 rfl (by decide) [0] rfl ?_
  refine tt_iload_n C dJ6_bitCount_0f7a4_48 rfl 0 rfl ?_
  refine tt_bipush (v := nI 63) C dJ6_bitCount_0f7a4_49 (by decide) ?_
  refine tt_iand C dJ6_bitCount_0f7a4_51 rfl ?_
  exact tt_iret K dJ6_bitCount_0f7a4_52 (by rfl) rfl rfl

set_option maxHeartbeats 4000000 in
set_option maxRecDepth 100000 in
theorem c_X6_inside_B (E : EN) (u : U3) (r : R1) (h : HB) (g : HB) (a : Int32) (w : Int32) (hi : r 0 < 5) (hi5 : r 0 ≠ 5) (hc : ¬ ((¬ a < 0 ∧ ¬ nI 6 ≤ a) ∧ (w = 0 ∨ w = nI 1))) : CT E yX6_inside wsX6_inside (rmT 2 41) [.ref (eA E 5 0), .int a, .int w] (ub (ub u (r 0) g) 5 h) r (some (.int (-2))) (ub (ub u (r 0) g) 5 (H_ref h (-2))) r := by
  refine CT_ofI (cc := cX6_inside) (nL := 4) (own := RX6) (by decide) rfl rfl rfl (Nat.le_of_ble_eq_true rfl) (fun F C K => ?_)
  refine tt_to (lv1 := [(0, .ref (eA E 5 0)), (1, .int a), (2, .int w)]) rfl rfl rfl rfl ?_
  refine tt_iload_n C dX6_inside_0 rfl 1 rfl ?_
  refine tt_cSI C (c_X6_isArea E (ub (ub u (r 0) g) 5 h) r a) gX6_inside_X6_isArea rfl ⟨rfl, rfl⟩ 1 (by decide +kernel) ⟨Nat.le_of_ble_eq_true rfl, Nat.le_of_ble_eq_true rfl⟩ rfl (Nat.le_of_ble_eq_true rfl) dX6_inside_1 rfl ?_
  refine tt_if_eqB C (tgt := 14) dX6_inside_4 (by decide) (fun c_1 => ?_) (fun c_1 => ?_)
  · skip
    refine tt_aload_n C dX6_inside_14 rfl 0 rfl ?_
    refine tt_bipush (v := (-2 : Int32)) C dX6_inside_15 (by decide) ?_
    refine tt_cVI C (c_X6_refuse E (ub u (r 0) g) r h (-2 : Int32) (by decide)) gX6_inside_X6_refuse rfl ⟨rfl, rfl⟩ 1 (by decide +kernel) ⟨Nat.le_of_ble_eq_true rfl, Nat.le_of_ble_eq_true rfl⟩ rfl oT0 rfl (Nat.le_of_ble_eq_true rfl) dX6_inside_17 rfl ?_
    generalize e_3 : H_ref h (-2 : Int32) = h_2
    exact tt_iret K dX6_inside_20 (by subst e_3; rfl) (by subst e_3; rfl) rfl
  · skip
    refine tt_iload_n C dX6_inside_7 rfl 2 rfl ?_
    refine tt_cSI C (c_X6_isFlag E (ub (ub u (r 0) g) 5 h) r w) gX6_inside_X6_isFlag rfl ⟨rfl, rfl⟩ 1 (by decide +kernel) ⟨Nat.le_of_ble_eq_true rfl, Nat.le_of_ble_eq_true rfl⟩ rfl (Nat.le_of_ble_eq_true rfl) dX6_inside_8 rfl ?_
    refine tt_if_neB C (tgt := 21) dX6_inside_11 (by decide) (fun c_4 => ?_) (fun c_4 => ?_)
    · skip
      exact absurd ⟨(by assumption), c_4⟩ hc
    · skip
      refine tt_aload_n C dX6_inside_14 rfl 0 rfl ?_
      refine tt_bipush (v := (-2 : Int32)) C dX6_inside_15 (by decide) ?_
      refine tt_cVI C (c_X6_refuse E (ub u (r 0) g) r h (-2 : Int32) (by decide)) gX6_inside_X6_refuse rfl ⟨rfl, rfl⟩ 1 (by decide +kernel) ⟨Nat.le_of_ble_eq_true rfl, Nat.le_of_ble_eq_true rfl⟩ rfl oT0 rfl (Nat.le_of_ble_eq_true rfl) dX6_inside_17 rfl ?_
      generalize e_6 : H_ref h (-2 : Int32) = h_5
      exact tt_iret K dX6_inside_20 (by subst e_6; rfl) (by subst e_6; rfl) rfl

set_option maxHeartbeats 4000000 in
set_option maxRecDepth 100000 in
theorem c_X6_inside_C (E : EN) (u : U3) (r : R1) (h : HB) (g : HB) (a : Int32) (hi : r 0 < 5) (hi5 : r 0 ≠ 5) (hB : vI (g 18 0) 9) (ha : ¬ a < 0 ∧ ¬ nI 6 ≤ a) : CT E yX6_inside wsX6_inside (rmT 2 41) [.ref (eA E 5 0), .int a, .int (nI 0)] (ub (ub u (r 0) g) 5 h) r (some (.int (bcF (H_bits g a (ix (g 18 0)))))) (ub (ub u (r 0) g) 5 h) r := by
  refine CT_ofI (cc := cX6_inside) (nL := 4) (own := RX6) (by decide) rfl rfl rfl (Nat.le_of_ble_eq_true rfl) (fun F C K => ?_)
  have hin2 : ∀ w ∈ u_ws RX2 TX2 8, w ∈ wsX6_inside := by decide +kernel
  have hin6 : ∀ w ∈ u_ws RX6 TX6 8, w ∈ wsX6_inside := by decide +kernel
  refine tt_to (lv1 := [(0, .ref (eA E 5 0)), (1, .int a), (2, .int (nI 0))]) rfl rfl rfl rfl ?_
  refine tt_iload_n C dX6_inside_0 rfl 1 rfl ?_
  refine tt_cSI C (c_X6_isArea E (ub (ub u (r 0) g) 5 h) r a) gX6_inside_X6_isArea rfl ⟨rfl, rfl⟩ 1 (by decide +kernel) ⟨Nat.le_of_ble_eq_true rfl, Nat.le_of_ble_eq_true rfl⟩ rfl (Nat.le_of_ble_eq_true rfl) dX6_inside_1 rfl ?_
  refine tt_if_eqB C (tgt := 14) dX6_inside_4 (by decide) (fun c_1 => ?_) (fun c_1 => ?_)
  · skip
    exact absurd ha c_1
  · skip
    refine tt_iload_n C dX6_inside_7 rfl 2 rfl ?_
    refine tt_cSI C (c_X6_isFlag E (ub (ub u (r 0) g) 5 h) r (nI 0)) gX6_inside_X6_isFlag rfl ⟨rfl, rfl⟩ 1 (by decide +kernel) ⟨Nat.le_of_ble_eq_true rfl, Nat.le_of_ble_eq_true rfl⟩ rfl (Nat.le_of_ble_eq_true rfl) dX6_inside_8 rfl ?_
    refine tt_if_neB C (tgt := 21) dX6_inside_11 (by decide) (fun c_2 => ?_) (fun c_2 => ?_)
    · skip
      refine tt_aload_n C dX6_inside_21 rfl 0 rfl ?_
      refine tt_get (v := .ref (eA E (r 0) 0)) C oT0 rfl hin6 0 (by decide) (List.mem_of_getElem? (i := 1) (by decide +kernel)) rfl dX6_inside_22 ?_
      refine tt_get (v := .ref (eA E (r 0) 18)) C (oH0 hi) rfl hin2 1 (by decide) (List.mem_of_getElem? (i := 2) (by decide +kernel)) rfl dX6_inside_25 ?_
      refine tt_iload_n C dX6_inside_28 rfl 1 rfl ?_
      refine tt_cVI C (CT_comm hi5 (c_X0_bitsIn E (ub u 5 h) r g (r 0) a hi hB)) gX6_inside_X0_bitsIn rfl ⟨rfl, rfl⟩ 1 (by decide +kernel) ⟨Nat.le_of_ble_eq_true rfl, Nat.le_of_ble_eq_true rfl⟩ rfl (oH18 hi) rfl (Nat.le_of_ble_eq_true rfl) dX6_inside_29 rfl ?_
      refine tt_istore_n (lv' := [(0, .ref (eA E 5 0)), (1, .int a), (2, .int (nI 0)), (3, .int (H_bits g a (ix (g 18 0))))]) C dX6_inside_32 rfl (by decide) [1, 2, 3, 0] rfl ?_
      refine tt_iload_n C dX6_inside_33 rfl 2 rfl ?_
      refine tt_if_ne C (tgt := 44) dX6_inside_34 (by decide) (nI_eq0 (by omega)) (fun c_3 => ?_) (fun c_3 => ?_)
      · skip
        exact absurd (by decide) c_3
      · skip
        refine tt_iload_n C dX6_inside_37 rfl 3 rfl ?_
        refine tt_cSI C (c_J6_bitCount_0f7a4 E (ub (ub u (r 0) g) 5 h) r (H_bits g a (ix (g 18 0)))) gX6_inside_J6_bitCount_0f7a4 rfl ⟨rfl, rfl⟩ 1 (by decide +kernel) ⟨Nat.le_of_ble_eq_true rfl, Nat.le_of_ble_eq_true rfl⟩ rfl (Nat.le_of_ble_eq_true rfl) dX6_inside_38 rfl ?_
        refine tt_goto (tgt := 45) C dX6_inside_41 (by decide) ?_
        exact tt_iret K dX6_inside_45 (by rfl) (by rfl) rfl
    · skip
      exact absurd (by decide) c_2

set_option maxHeartbeats 4000000 in
set_option maxRecDepth 100000 in
theorem c_X6_inside_S (E : EN) (u : U3) (r : R1) (h : HB) (g : HB) (a : Int32) (hi : r 0 < 5) (hi5 : r 0 ≠ 5) (hB : vI (g 18 0) 9) (ha : ¬ a < 0 ∧ ¬ nI 6 ≤ a) : CT E yX6_inside wsX6_inside (rmT 2 41) [.ref (eA E 5 0), .int a, .int (nI 1)] (ub (ub u (r 0) g) 5 h) r (some (.int (H_bits g a (ix (g 18 0))))) (ub (ub u (r 0) g) 5 h) r := by
  refine CT_ofI (cc := cX6_inside) (nL := 4) (own := RX6) (by decide) rfl rfl rfl (Nat.le_of_ble_eq_true rfl) (fun F C K => ?_)
  have hin2 : ∀ w ∈ u_ws RX2 TX2 8, w ∈ wsX6_inside := by decide +kernel
  have hin6 : ∀ w ∈ u_ws RX6 TX6 8, w ∈ wsX6_inside := by decide +kernel
  refine tt_to (lv1 := [(0, .ref (eA E 5 0)), (1, .int a), (2, .int (nI 1))]) rfl rfl rfl rfl ?_
  refine tt_iload_n C dX6_inside_0 rfl 1 rfl ?_
  refine tt_cSI C (c_X6_isArea E (ub (ub u (r 0) g) 5 h) r a) gX6_inside_X6_isArea rfl ⟨rfl, rfl⟩ 1 (by decide +kernel) ⟨Nat.le_of_ble_eq_true rfl, Nat.le_of_ble_eq_true rfl⟩ rfl (Nat.le_of_ble_eq_true rfl) dX6_inside_1 rfl ?_
  refine tt_if_eqB C (tgt := 14) dX6_inside_4 (by decide) (fun c_1 => ?_) (fun c_1 => ?_)
  · skip
    exact absurd ha c_1
  · skip
    refine tt_iload_n C dX6_inside_7 rfl 2 rfl ?_
    refine tt_cSI C (c_X6_isFlag E (ub (ub u (r 0) g) 5 h) r (nI 1)) gX6_inside_X6_isFlag rfl ⟨rfl, rfl⟩ 1 (by decide +kernel) ⟨Nat.le_of_ble_eq_true rfl, Nat.le_of_ble_eq_true rfl⟩ rfl (Nat.le_of_ble_eq_true rfl) dX6_inside_8 rfl ?_
    refine tt_if_neB C (tgt := 21) dX6_inside_11 (by decide) (fun c_2 => ?_) (fun c_2 => ?_)
    · skip
      refine tt_aload_n C dX6_inside_21 rfl 0 rfl ?_
      refine tt_get (v := .ref (eA E (r 0) 0)) C oT0 rfl hin6 0 (by decide) (List.mem_of_getElem? (i := 1) (by decide +kernel)) rfl dX6_inside_22 ?_
      refine tt_get (v := .ref (eA E (r 0) 18)) C (oH0 hi) rfl hin2 1 (by decide) (List.mem_of_getElem? (i := 2) (by decide +kernel)) rfl dX6_inside_25 ?_
      refine tt_iload_n C dX6_inside_28 rfl 1 rfl ?_
      refine tt_cVI C (CT_comm hi5 (c_X0_bitsIn E (ub u 5 h) r g (r 0) a hi hB)) gX6_inside_X0_bitsIn rfl ⟨rfl, rfl⟩ 1 (by decide +kernel) ⟨Nat.le_of_ble_eq_true rfl, Nat.le_of_ble_eq_true rfl⟩ rfl (oH18 hi) rfl (Nat.le_of_ble_eq_true rfl) dX6_inside_29 rfl ?_
      refine tt_istore_n (lv' := [(0, .ref (eA E 5 0)), (1, .int a), (2, .int (nI 1)), (3, .int (H_bits g a (ix (g 18 0))))]) C dX6_inside_32 rfl (by decide) [1, 2, 3, 0] rfl ?_
      refine tt_iload_n C dX6_inside_33 rfl 2 rfl ?_
      refine tt_if_ne C (tgt := 44) dX6_inside_34 (by decide) (nI_eq0 (by omega)) (fun c_3 => ?_) (fun c_3 => ?_)
      · skip
        refine tt_iload_n C dX6_inside_44 rfl 3 rfl ?_
        exact tt_iret K dX6_inside_45 (by rfl) (by rfl) rfl
      · skip
        exact absurd c_3 (by decide)
    · skip
      exact absurd (by decide) c_2
