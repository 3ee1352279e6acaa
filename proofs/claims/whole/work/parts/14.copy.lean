set_option maxHeartbeats 4000000 in
set_option maxRecDepth 100000 in
theorem c_X6_copyRow (E : EN) (u : U3) (r : R1) (h : HB) (g : HB) (i i2 k n : Nat) {n1 n2 : Nat} (hne : i2 ≠ i) (hA1 : Arr i2 k n1) (hA2 : Arr i k n2) (hn1 : n ≤ n1) (hn2 : n ≤ n2) : CT E yX6_copyRow wsX6_copyRow (rmT 1 20) [.ref (eA E i2 k), .ref (eA E i k), .int (nI n)] (ub (ub u i2 g) i h) r none (ub (ub u i2 g) i (cp2 h g k n)) r := by
  refine CT_ofV (cc := cX6_copyRow) (nL := 3) (own := RX6) (by decide) rfl rfl (Nat.le_of_ble_eq_true rfl) (fun F C K => ?_)
  refine tt_to (lv1 := [(0, .ref (eA E i2 k)), (1, .ref (eA E i k)), (2, .int (nI n))]) rfl rfl rfl rfl ?_
  refine tt_aload_n C dX6_copyRow_0 rfl 0 rfl ?_
  refine tt_iconst (v := nI 0) C dX6_copyRow_1 (by decide) ?_
  refine tt_aload_n C dX6_copyRow_2 rfl 1 rfl ?_
  refine tt_iconst (v := nI 0) C dX6_copyRow_3 (by decide) ?_
  refine tt_iload_n C dX6_copyRow_4 rfl 2 rfl ?_
  refine tt_acopy C (List.mem_of_getElem? (i := 1) (by decide +kernel)) (List.mem_of_getElem? (i := 2) (by decide +kernel)) (List.mem_of_getElem? (i := 3) (by decide +kernel)) (List.mem_of_getElem? (i := 4) (by decide +kernel)) hA1 hA2 hn1 hn2 (Nat.le_of_ble_eq_true rfl) (Nat.le_of_ble_eq_true rfl) dX6_copyRow_5 ?_
  rw [urow_ub u hne]
  exact tt_vret K dX6_copyRow_8 rfl rfl

def H_cpD (h g : HB) : HB := cp2 (cp2 (cp2 (cp2 (cp2 (cp2 (cp2 (cp2 (cp2 (cp2 (cp2 (cp2 (cp2 (cp2 (cp2 (cp2 (up2 h 1 0 (nI (ix (g 1 0)))) g 2 (ix (g 1 0))) g 3 (ix (g 1 0))) g 4 (ix (g 1 0))) g 5 (ix (g 1 0))) g 6 (ix (g 1 0))) g 7 (ix (g 1 0))) g 8 (ix (g 1 0))) g 9 (ix (g 1 0))) g 10 (ix (g 1 0))) g 11 (ix (g 1 0))) g 12 (ix (g 1 0))) g 13 (ix (g 1 0) * 20)) g 14 (ix (g 1 0) * 20)) g 15 (ix (g 1 0))) g 16 (ix (g 1 0) * 8)) g 17 (ix (g 1 0) * 8)

set_option maxHeartbeats 4000000 in
set_option maxRecDepth 100000 in
theorem c_X1_copyFrom (E : EN) (u : U3) (r : R1) (h : HB) (g : HB) (i : Nat) (i2 : Nat) (hi : i < 5) (hi2 : i2 < 5) (hne : i2 ≠ i) (hG : vI (g 1 0) 9) : CT E yX1_copyFrom wsX1_copyFrom (rmT 2 42) [.ref (eA E i 1), .ref (eA E i2 1)] (ub (ub u i2 g) i h) r none (ub (ub u i2 g) i (H_cpD h g)) r := by
  refine CT_ofV (cc := cX1_copyFrom) (nL := 2) (own := RX1) (by decide) rfl rfl (Nat.le_of_ble_eq_true rfl) (fun F C K => ?_)
  have hin1 : ∀ w ∈ u_ws RX1 TX1 17, w ∈ wsX1_copyFrom := by decide +kernel
  refine tt_to (lv1 := [(0, .ref (eA E i 1)), (1, .ref (eA E i2 1))]) rfl rfl rfl rfl ?_
  have hG' := ix_lt hG (by decide)
  refine tt_aload_n C dX1_copyFrom_0 rfl 0 rfl ?_
  refine tt_aload_n C dX1_copyFrom_1 rfl 1 rfl ?_
  refine tt_getI (v := nI (ix (g 1 0))) C (oH1 hi2) rfl hin1 0 (by decide) (List.mem_of_getElem? (i := 1) (by decide +kernel)) rfl ((ub_w hne).trans (ix_eq hG (by decide))) dX1_copyFrom_2 ?_
  refine tt_putIB C (fH1_0 hi) rfl hin1 tyX1 tyX1_ok nmX1 (by decide) (List.mem_of_getElem? (i := 1) (by decide +kernel)) (by decide +kernel) (by decide +kernel) dX1_copyFrom_5 ?_
  generalize e_2 : up2 h 1 0 (nI (ix (g 1 0))) = h_1
  refine tt_aload_n C dX1_copyFrom_8 rfl 1 rfl ?_
  refine tt_get (v := .ref (eA E i2 2)) C (oH1 hi2) rfl hin1 1 (by decide) (List.mem_of_getElem? (i := 2) (by decide +kernel)) rfl dX1_copyFrom_9 ?_
  refine tt_aload_n C dX1_copyFrom_12 rfl 0 rfl ?_
  refine tt_get (v := .ref (eA E i 2)) C (oH1 hi) rfl hin1 1 (by decide) (List.mem_of_getElem? (i := 2) (by decide +kernel)) rfl dX1_copyFrom_13 ?_
  refine tt_aload_n C dX1_copyFrom_16 rfl 0 rfl ?_
  refine tt_getI (v := nI (ix (g 1 0))) C (oH1 hi) rfl hin1 0 (by decide) (List.mem_of_getElem? (i := 1) (by decide +kernel)) rfl (ub_v.trans (by rw [← e_2]; exact up2_s _ _ _ _)) dX1_copyFrom_17 ?_
  refine tt_cNV C (c_X6_copyRow E u r h_1 g i i2 2 (ix (g 1 0)) hne (aH2 hi2) (aH2 hi) (by omega) (by omega)) gX1_copyFrom_X6_copyRow_n64 rfl ⟨rfl, rfl⟩ 3 C.2.2.2.2.2.2.2.2.2.2.1.2.1 (List.mem_of_getElem? (i := 18) (by decide +kernel)) (List.mem_of_getElem? (i := 19) (by decide +kernel)) (by decide +kernel) ⟨Nat.le_of_ble_eq_true rfl, Nat.le_of_ble_eq_true rfl⟩ rfl (Nat.le_of_ble_eq_true rfl) dX1_copyFrom_20 rfl ?_
  generalize e_4 : cp2 h_1 g 2 (ix (g 1 0)) = h_3
  refine tt_aload_n C dX1_copyFrom_23 rfl 1 rfl ?_
  refine tt_get (v := .ref (eA E i2 3)) C (oH1 hi2) rfl hin1 2 (by decide) (List.mem_of_getElem? (i := 3) (by decide +kernel)) rfl dX1_copyFrom_24 ?_
  refine tt_aload_n C dX1_copyFrom_27 rfl 0 rfl ?_
  refine tt_get (v := .ref (eA E i 3)) C (oH1 hi) rfl hin1 2 (by decide) (List.mem_of_getElem? (i := 3) (by decide +kernel)) rfl dX1_copyFrom_28 ?_
  refine tt_aload_n C dX1_copyFrom_31 rfl 0 rfl ?_
  refine tt_getI (v := nI (ix (g 1 0))) C (oH1 hi) rfl hin1 0 (by decide) (List.mem_of_getElem? (i := 1) (by decide +kernel)) rfl (ub_v.trans (by rw [← e_4, cp2_n (by decide), ← e_2]; exact up2_s _ _ _ _)) dX1_copyFrom_32 ?_
  refine tt_cNV C (c_X6_copyRow E u r h_3 g i i2 3 (ix (g 1 0)) hne (aH3 hi2) (aH3 hi) (by omega) (by omega)) gX1_copyFrom_X6_copyRow_n64 rfl ⟨rfl, rfl⟩ 3 C.2.2.2.2.2.2.2.2.2.2.1.2.1 (List.mem_of_getElem? (i := 18) (by decide +kernel)) (List.mem_of_getElem? (i := 19) (by decide +kernel)) (by decide +kernel) ⟨Nat.le_of_ble_eq_true rfl, Nat.le_of_ble_eq_true rfl⟩ rfl (Nat.le_of_ble_eq_true rfl) dX1_copyFrom_35 rfl ?_
  generalize e_6 : cp2 h_3 g 3 (ix (g 1 0)) = h_5
  refine tt_aload_n C dX1_copyFrom_38 rfl 1 rfl ?_
  refine tt_get (v := .ref (eA E i2 4)) C (oH1 hi2) rfl hin1 3 (by decide) (List.mem_of_getElem? (i := 4) (by decide +kernel)) rfl dX1_copyFrom_39 ?_
  refine tt_aload_n C dX1_copyFrom_42 rfl 0 rfl ?_
  refine tt_get (v := .ref (eA E i 4)) C (oH1 hi) rfl hin1 3 (by decide) (List.mem_of_getElem? (i := 4) (by decide +kernel)) rfl dX1_copyFrom_43 ?_
  refine tt_aload_n C dX1_copyFrom_46 rfl 0 rfl ?_
  refine tt_getI (v := nI (ix (g 1 0))) C (oH1 hi) rfl hin1 0 (by decide) (List.mem_of_getElem? (i := 1) (by decide +kernel)) rfl (ub_v.trans (by rw [← e_6, cp2_n (by decide), ← e_4, cp2_n (by decide), ← e_2]; exact up2_s _ _ _ _)) dX1_copyFrom_47 ?_
  refine tt_cNV C (c_X6_copyRow E u r h_5 g i i2 4 (ix (g 1 0)) hne (aH4 hi2) (aH4 hi) (by omega) (by omega)) gX1_copyFrom_X6_copyRow_n64 rfl ⟨rfl, rfl⟩ 3 C.2.2.2.2.2.2.2.2.2.2.1.2.1 (List.mem_of_getElem? (i := 18) (by decide +kernel)) (List.mem_of_getElem? (i := 19) (by decide +kernel)) (by decide +kernel) ⟨Nat.le_of_ble_eq_true rfl, Nat.le_of_ble_eq_true rfl⟩ rfl (Nat.le_of_ble_eq_true rfl) dX1_copyFrom_50 rfl ?_
  generalize e_8 : cp2 h_5 g 4 (ix (g 1 0)) = h_7
  refine tt_aload_n C dX1_copyFrom_53 rfl 1 rfl ?_
  refine tt_get (v := .ref (eA E i2 5)) C (oH1 hi2) rfl hin1 4 (by decide) (List.mem_of_getElem? (i := 5) (by decide +kernel)) rfl dX1_copyFrom_54 ?_
  refine tt_aload_n C dX1_copyFrom_57 rfl 0 rfl ?_
  refine tt_get (v := .ref (eA E i 5)) C (oH1 hi) rfl hin1 4 (by decide) (List.mem_of_getElem? (i := 5) (by decide +kernel)) rfl dX1_copyFrom_58 ?_
  refine tt_aload_n C dX1_copyFrom_61 rfl 0 rfl ?_
  refine tt_getI (v := nI (ix (g 1 0))) C (oH1 hi) rfl hin1 0 (by decide) (List.mem_of_getElem? (i := 1) (by decide +kernel)) rfl (ub_v.trans (by rw [← e_8, cp2_n (by decide), ← e_6, cp2_n (by decide), ← e_4, cp2_n (by decide), ← e_2]; exact up2_s _ _ _ _)) dX1_copyFrom_62 ?_
  refine tt_cNV C (c_X6_copyRow E u r h_7 g i i2 5 (ix (g 1 0)) hne (aH5 hi2) (aH5 hi) (by omega) (by omega)) gX1_copyFrom_X6_copyRow_n64 rfl ⟨rfl, rfl⟩ 3 C.2.2.2.2.2.2.2.2.2.2.1.2.1 (List.mem_of_getElem? (i := 18) (by decide +kernel)) (List.mem_of_getElem? (i := 19) (by decide +kernel)) (by decide +kernel) ⟨Nat.le_of_ble_eq_true rfl, Nat.le_of_ble_eq_true rfl⟩ rfl (Nat.le_of_ble_eq_true rfl) dX1_copyFrom_65 rfl ?_
  generalize e_10 : cp2 h_7 g 5 (ix (g 1 0)) = h_9
  refine tt_aload_n C dX1_copyFrom_68 rfl 1 rfl ?_
  refine tt_get (v := .ref (eA E i2 6)) C (oH1 hi2) rfl hin1 5 (by decide) (List.mem_of_getElem? (i := 6) (by decide +kernel)) rfl dX1_copyFrom_69 ?_
  refine tt_aload_n C dX1_copyFrom_72 rfl 0 rfl ?_
  refine tt_get (v := .ref (eA E i 6)) C (oH1 hi) rfl hin1 5 (by decide) (List.mem_of_getElem? (i := 6) (by decide +kernel)) rfl dX1_copyFrom_73 ?_
  refine tt_aload_n C dX1_copyFrom_76 rfl 0 rfl ?_
  refine tt_getI (v := nI (ix (g 1 0))) C (oH1 hi) rfl hin1 0 (by decide) (List.mem_of_getElem? (i := 1) (by decide +kernel)) rfl (ub_v.trans (by rw [← e_10, cp2_n (by decide), ← e_8, cp2_n (by decide), ← e_6, cp2_n (by decide), ← e_4, cp2_n (by decide), ← e_2]; exact up2_s _ _ _ _)) dX1_copyFrom_77 ?_
  refine tt_cNV C (c_X6_copyRow E u r h_9 g i i2 6 (ix (g 1 0)) hne (aH6 hi2) (aH6 hi) (by omega) (by omega)) gX1_copyFrom_X6_copyRow_n64 rfl ⟨rfl, rfl⟩ 3 C.2.2.2.2.2.2.2.2.2.2.1.2.1 (List.mem_of_getElem? (i := 18) (by decide +kernel)) (List.mem_of_getElem? (i := 19) (by decide +kernel)) (by decide +kernel) ⟨Nat.le_of_ble_eq_true rfl, Nat.le_of_ble_eq_true rfl⟩ rfl (Nat.le_of_ble_eq_true rfl) dX1_copyFrom_80 rfl ?_
  generalize e_12 : cp2 h_9 g 6 (ix (g 1 0)) = h_11
  refine tt_aload_n C dX1_copyFrom_83 rfl 1 rfl ?_
  refine tt_get (v := .ref (eA E i2 7)) C (oH1 hi2) rfl hin1 6 (by decide) (List.mem_of_getElem? (i := 7) (by decide +kernel)) rfl dX1_copyFrom_84 ?_
  refine tt_aload_n C dX1_copyFrom_87 rfl 0 rfl ?_
  refine tt_get (v := .ref (eA E i 7)) C (oH1 hi) rfl hin1 6 (by decide) (List.mem_of_getElem? (i := 7) (by decide +kernel)) rfl dX1_copyFrom_88 ?_
  refine tt_aload_n C dX1_copyFrom_91 rfl 0 rfl ?_
  refine tt_getI (v := nI (ix (g 1 0))) C (oH1 hi) rfl hin1 0 (by decide) (List.mem_of_getElem? (i := 1) (by decide +kernel)) rfl (ub_v.trans (by rw [← e_12, cp2_n (by decide), ← e_10, cp2_n (by decide), ← e_8, cp2_n (by decide), ← e_6, cp2_n (by decide), ← e_4, cp2_n (by decide), ← e_2]; exact up2_s _ _ _ _)) dX1_copyFrom_92 ?_
  refine tt_cNV C (c_X6_copyRow E u r h_11 g i i2 7 (ix (g 1 0)) hne (aH7 hi2) (aH7 hi) (by omega) (by omega)) gX1_copyFrom_X6_copyRow_n64 rfl ⟨rfl, rfl⟩ 3 C.2.2.2.2.2.2.2.2.2.2.1.2.1 (List.mem_of_getElem? (i := 18) (by decide +kernel)) (List.mem_of_getElem? (i := 19) (by decide +kernel)) (by decide +kernel) ⟨Nat.le_of_ble_eq_true rfl, Nat.le_of_ble_eq_true rfl⟩ rfl (Nat.le_of_ble_eq_true rfl) dX1_copyFrom_95 rfl ?_
  generalize e_14 : cp2 h_11 g 7 (ix (g 1 0)) = h_13
  refine tt_aload_n C dX1_copyFrom_98 rfl 1 rfl ?_
  refine tt_get (v := .ref (eA E i2 8)) C (oH1 hi2) rfl hin1 7 (by decide) (List.mem_of_getElem? (i := 8) (by decide +kernel)) rfl dX1_copyFrom_99 ?_
  refine tt_aload_n C dX1_copyFrom_102 rfl 0 rfl ?_
  refine tt_get (v := .ref (eA E i 8)) C (oH1 hi) rfl hin1 7 (by decide) (List.mem_of_getElem? (i := 8) (by decide +kernel)) rfl dX1_copyFrom_103 ?_
  refine tt_aload_n C dX1_copyFrom_106 rfl 0 rfl ?_
  refine tt_getI (v := nI (ix (g 1 0))) C (oH1 hi) rfl hin1 0 (by decide) (List.mem_of_getElem? (i := 1) (by decide +kernel)) rfl (ub_v.trans (by rw [← e_14, cp2_n (by decide), ← e_12, cp2_n (by decide), ← e_10, cp2_n (by decide), ← e_8, cp2_n (by decide), ← e_6, cp2_n (by decide), ← e_4, cp2_n (by decide), ← e_2]; exact up2_s _ _ _ _)) dX1_copyFrom_107 ?_
  refine tt_cNV C (c_X6_copyRow E u r h_13 g i i2 8 (ix (g 1 0)) hne (aH8 hi2) (aH8 hi) (by omega) (by omega)) gX1_copyFrom_X6_copyRow_n64 rfl ⟨rfl, rfl⟩ 3 C.2.2.2.2.2.2.2.2.2.2.1.2.1 (List.mem_of_getElem? (i := 18) (by decide +kernel)) (List.mem_of_getElem? (i := 19) (by decide +kernel)) (by decide +kernel) ⟨Nat.le_of_ble_eq_true rfl, Nat.le_of_ble_eq_true rfl⟩ rfl (Nat.le_of_ble_eq_true rfl) dX1_copyFrom_110 rfl ?_
  generalize e_16 : cp2 h_13 g 8 (ix (g 1 0)) = h_15
  refine tt_aload_n C dX1_copyFrom_113 rfl 1 rfl ?_
  refine tt_get (v := .ref (eA E i2 9)) C (oH1 hi2) rfl hin1 8 (by decide) (List.mem_of_getElem? (i := 9) (by decide +kernel)) rfl dX1_copyFrom_114 ?_
  refine tt_aload_n C dX1_copyFrom_117 rfl 0 rfl ?_
  refine tt_get (v := .ref (eA E i 9)) C (oH1 hi) rfl hin1 8 (by decide) (List.mem_of_getElem? (i := 9) (by decide +kernel)) rfl dX1_copyFrom_118 ?_
  refine tt_aload_n C dX1_copyFrom_121 rfl 0 rfl ?_
  refine tt_getI (v := nI (ix (g 1 0))) C (oH1 hi) rfl hin1 0 (by decide) (List.mem_of_getElem? (i := 1) (by decide +kernel)) rfl (ub_v.trans (by rw [← e_16, cp2_n (by decide), ← e_14, cp2_n (by decide), ← e_12, cp2_n (by decide), ← e_10, cp2_n (by decide), ← e_8, cp2_n (by decide), ← e_6, cp2_n (by decide), ← e_4, cp2_n (by decide), ← e_2]; exact up2_s _ _ _ _)) dX1_copyFrom_122 ?_
  refine tt_cNV C (c_X6_copyRow E u r h_15 g i i2 9 (ix (g 1 0)) hne (aH9 hi2) (aH9 hi) (by omega) (by omega)) gX1_copyFrom_X6_copyRow_n64 rfl ⟨rfl, rfl⟩ 3 C.2.2.2.2.2.2.2.2.2.2.1.2.1 (List.mem_of_getElem? (i := 18) (by decide +kernel)) (List.mem_of_getElem? (i := 19) (by decide +kernel)) (by decide +kernel) ⟨Nat.le_of_ble_eq_true rfl, Nat.le_of_ble_eq_true rfl⟩ rfl (Nat.le_of_ble_eq_true rfl) dX1_copyFrom_125 rfl ?_
  generalize e_18 : cp2 h_15 g 9 (ix (g 1 0)) = h_17
  refine tt_aload_n C dX1_copyFrom_128 rfl 1 rfl ?_
  refine tt_get (v := .ref (eA E i2 10)) C (oH1 hi2) rfl hin1 9 (by decide) (List.mem_of_getElem? (i := 10) (by decide +kernel)) rfl dX1_copyFrom_129 ?_
  refine tt_aload_n C dX1_copyFrom_132 rfl 0 rfl ?_
  refine tt_get (v := .ref (eA E i 10)) C (oH1 hi) rfl hin1 9 (by decide) (List.mem_of_getElem? (i := 10) (by decide +kernel)) rfl dX1_copyFrom_133 ?_
  refine tt_aload_n C dX1_copyFrom_136 rfl 0 rfl ?_
  refine tt_getI (v := nI (ix (g 1 0))) C (oH1 hi) rfl hin1 0 (by decide) (List.mem_of_getElem? (i := 1) (by decide +kernel)) rfl (ub_v.trans (by rw [← e_18, cp2_n (by decide), ← e_16, cp2_n (by decide), ← e_14, cp2_n (by decide), ← e_12, cp2_n (by decide), ← e_10, cp2_n (by decide), ← e_8, cp2_n (by decide), ← e_6, cp2_n (by decide), ← e_4, cp2_n (by decide), ← e_2]; exact up2_s _ _ _ _)) dX1_copyFrom_137 ?_
  refine tt_cNV C (c_X6_copyRow E u r h_17 g i i2 10 (ix (g 1 0)) hne (aH10 hi2) (aH10 hi) (by omega) (by omega)) gX1_copyFrom_X6_copyRow_n64 rfl ⟨rfl, rfl⟩ 3 C.2.2.2.2.2.2.2.2.2.2.1.2.1 (List.mem_of_getElem? (i := 18) (by decide +kernel)) (List.mem_of_getElem? (i := 19) (by decide +kernel)) (by decide +kernel) ⟨Nat.le_of_ble_eq_true rfl, Nat.le_of_ble_eq_true rfl⟩ rfl (Nat.le_of_ble_eq_true rfl) dX1_copyFrom_140 rfl ?_
  generalize e_20 : cp2 h_17 g 10 (ix (g 1 0)) = h_19
  refine tt_aload_n C dX1_copyFrom_143 rfl 1 rfl ?_
  refine tt_get (v := .ref (eA E i2 11)) C (oH1 hi2) rfl hin1 10 (by decide) (List.mem_of_getElem? (i := 11) (by decide +kernel)) rfl dX1_copyFrom_144 ?_
  refine tt_aload_n C dX1_copyFrom_147 rfl 0 rfl ?_
  refine tt_get (v := .ref (eA E i 11)) C (oH1 hi) rfl hin1 10 (by decide) (List.mem_of_getElem? (i := 11) (by decide +kernel)) rfl dX1_copyFrom_148 ?_
  refine tt_aload_n C dX1_copyFrom_151 rfl 0 rfl ?_
  refine tt_getI (v := nI (ix (g 1 0))) C (oH1 hi) rfl hin1 0 (by decide) (List.mem_of_getElem? (i := 1) (by decide +kernel)) rfl (ub_v.trans (by rw [← e_20, cp2_n (by decide), ← e_18, cp2_n (by decide), ← e_16, cp2_n (by decide), ← e_14, cp2_n (by decide), ← e_12, cp2_n (by decide), ← e_10, cp2_n (by decide), ← e_8, cp2_n (by decide), ← e_6, cp2_n (by decide), ← e_4, cp2_n (by decide), ← e_2]; exact up2_s _ _ _ _)) dX1_copyFrom_152 ?_
  refine tt_cNV C (c_X6_copyRow E u r h_19 g i i2 11 (ix (g 1 0)) hne (aH11 hi2) (aH11 hi) (by omega) (by omega)) gX1_copyFrom_X6_copyRow_n64 rfl ⟨rfl, rfl⟩ 3 C.2.2.2.2.2.2.2.2.2.2.1.2.1 (List.mem_of_getElem? (i := 18) (by decide +kernel)) (List.mem_of_getElem? (i := 19) (by decide +kernel)) (by decide +kernel) ⟨Nat.le_of_ble_eq_true rfl, Nat.le_of_ble_eq_true rfl⟩ rfl (Nat.le_of_ble_eq_true rfl) dX1_copyFrom_155 rfl ?_
  generalize e_22 : cp2 h_19 g 11 (ix (g 1 0)) = h_21
  refine tt_aload_n C dX1_copyFrom_158 rfl 1 rfl ?_
  refine tt_get (v := .ref (eA E i2 12)) C (oH1 hi2) rfl hin1 11 (by decide) (List.mem_of_getElem? (i := 12) (by decide +kernel)) rfl dX1_copyFrom_159 ?_
  refine tt_aload_n C dX1_copyFrom_162 rfl 0 rfl ?_
  refine tt_get (v := .ref (eA E i 12)) C (oH1 hi) rfl hin1 11 (by decide) (List.mem_of_getElem? (i := 12) (by decide +kernel)) rfl dX1_copyFrom_163 ?_
  refine tt_aload_n C dX1_copyFrom_166 rfl 0 rfl ?_
  refine tt_getI (v := nI (ix (g 1 0))) C (oH1 hi) rfl hin1 0 (by decide) (List.mem_of_getElem? (i := 1) (by decide +kernel)) rfl (ub_v.trans (by rw [← e_22, cp2_n (by decide), ← e_20, cp2_n (by decide), ← e_18, cp2_n (by decide), ← e_16, cp2_n (by decide), ← e_14, cp2_n (by decide), ← e_12, cp2_n (by decide), ← e_10, cp2_n (by decide), ← e_8, cp2_n (by decide), ← e_6, cp2_n (by decide), ← e_4, cp2_n (by decide), ← e_2]; exact up2_s _ _ _ _)) dX1_copyFrom_167 ?_
  refine tt_cNV C (c_X6_copyRow E u r h_21 g i i2 12 (ix (g 1 0)) hne (aH12 hi2) (aH12 hi) (by omega) (by omega)) gX1_copyFrom_X6_copyRow_n64 rfl ⟨rfl, rfl⟩ 3 C.2.2.2.2.2.2.2.2.2.2.1.2.1 (List.mem_of_getElem? (i := 18) (by decide +kernel)) (List.mem_of_getElem? (i := 19) (by decide +kernel)) (by decide +kernel) ⟨Nat.le_of_ble_eq_true rfl, Nat.le_of_ble_eq_true rfl⟩ rfl (Nat.le_of_ble_eq_true rfl) dX1_copyFrom_170 rfl ?_
  generalize e_24 : cp2 h_21 g 12 (ix (g 1 0)) = h_23
  refine tt_aload_n C dX1_copyFrom_173 rfl 1 rfl ?_
  refine tt_get (v := .ref (eA E i2 13)) C (oH1 hi2) rfl hin1 12 (by decide) (List.mem_of_getElem? (i := 13) (by decide +kernel)) rfl dX1_copyFrom_174 ?_
  refine tt_aload_n C dX1_copyFrom_177 rfl 0 rfl ?_
  refine tt_get (v := .ref (eA E i 13)) C (oH1 hi) rfl hin1 12 (by decide) (List.mem_of_getElem? (i := 13) (by decide +kernel)) rfl dX1_copyFrom_178 ?_
  refine tt_aload_n C dX1_copyFrom_181 rfl 0 rfl ?_
  refine tt_getI (v := nI (ix (g 1 0))) C (oH1 hi) rfl hin1 0 (by decide) (List.mem_of_getElem? (i := 1) (by decide +kernel)) rfl (ub_v.trans (by rw [← e_24, cp2_n (by decide), ← e_22, cp2_n (by decide), ← e_20, cp2_n (by decide), ← e_18, cp2_n (by decide), ← e_16, cp2_n (by decide), ← e_14, cp2_n (by decide), ← e_12, cp2_n (by decide), ← e_10, cp2_n (by decide), ← e_8, cp2_n (by decide), ← e_6, cp2_n (by decide), ← e_4, cp2_n (by decide), ← e_2]; exact up2_s _ _ _ _)) dX1_copyFrom_182 ?_
  refine tt_bipush (v := nI 20) C dX1_copyFrom_185 (by decide) ?_
  refine tt_imul (v := nI ((ix (g 1 0)) * 20)) C dX1_copyFrom_187 (pk_mul _ _) ?_
  refine tt_cNV C (c_X6_copyRow E u r h_23 g i i2 13 ((ix (g 1 0)) * 20) hne (aH13 hi2) (aH13 hi) (by omega) (by omega)) gX1_copyFrom_X6_copyRow_n64 rfl ⟨rfl, rfl⟩ 3 C.2.2.2.2.2.2.2.2.2.2.1.2.1 (List.mem_of_getElem? (i := 18) (by decide +kernel)) (List.mem_of_getElem? (i := 19) (by decide +kernel)) (by decide +kernel) ⟨Nat.le_of_ble_eq_true rfl, Nat.le_of_ble_eq_true rfl⟩ rfl (Nat.le_of_ble_eq_true rfl) dX1_copyFrom_188 rfl ?_
  generalize e_26 : cp2 h_23 g 13 ((ix (g 1 0)) * 20) = h_25
  refine tt_aload_n C dX1_copyFrom_191 rfl 1 rfl ?_
  refine tt_get (v := .ref (eA E i2 14)) C (oH1 hi2) rfl hin1 13 (by decide) (List.mem_of_getElem? (i := 14) (by decide +kernel)) rfl dX1_copyFrom_192 ?_
  refine tt_aload_n C dX1_copyFrom_195 rfl 0 rfl ?_
  refine tt_get (v := .ref (eA E i 14)) C (oH1 hi) rfl hin1 13 (by decide) (List.mem_of_getElem? (i := 14) (by decide +kernel)) rfl dX1_copyFrom_196 ?_
  refine tt_aload_n C dX1_copyFrom_199 rfl 0 rfl ?_
  refine tt_getI (v := nI (ix (g 1 0))) C (oH1 hi) rfl hin1 0 (by decide) (List.mem_of_getElem? (i := 1) (by decide +kernel)) rfl (ub_v.trans (by rw [← e_26, cp2_n (by decide), ← e_24, cp2_n (by decide), ← e_22, cp2_n (by decide), ← e_20, cp2_n (by decide), ← e_18, cp2_n (by decide), ← e_16, cp2_n (by decide), ← e_14, cp2_n (by decide), ← e_12, cp2_n (by decide), ← e_10, cp2_n (by decide), ← e_8, cp2_n (by decide), ← e_6, cp2_n (by decide), ← e_4, cp2_n (by decide), ← e_2]; exact up2_s _ _ _ _)) dX1_copyFrom_200 ?_
  refine tt_bipush (v := nI 20) C dX1_copyFrom_203 (by decide) ?_
  refine tt_imul (v := nI ((ix (g 1 0)) * 20)) C dX1_copyFrom_205 (pk_mul _ _) ?_
  refine tt_cNV C (c_X6_copyRow E u r h_25 g i i2 14 ((ix (g 1 0)) * 20) hne (aH14 hi2) (aH14 hi) (by omega) (by omega)) gX1_copyFrom_X6_copyRow_n64 rfl ⟨rfl, rfl⟩ 3 C.2.2.2.2.2.2.2.2.2.2.1.2.1 (List.mem_of_getElem? (i := 18) (by decide +kernel)) (List.mem_of_getElem? (i := 19) (by decide +kernel)) (by decide +kernel) ⟨Nat.le_of_ble_eq_true rfl, Nat.le_of_ble_eq_true rfl⟩ rfl (Nat.le_of_ble_eq_true rfl) dX1_copyFrom_206 rfl ?_
  generalize e_28 : cp2 h_25 g 14 ((ix (g 1 0)) * 20) = h_27
  refine tt_aload_n C dX1_copyFrom_209 rfl 1 rfl ?_
  refine tt_get (v := .ref (eA E i2 15)) C (oH1 hi2) rfl hin1 14 (by decide) (List.mem_of_getElem? (i := 15) (by decide +kernel)) rfl dX1_copyFrom_210 ?_
  refine tt_aload_n C dX1_copyFrom_213 rfl 0 rfl ?_
  refine tt_get (v := .ref (eA E i 15)) C (oH1 hi) rfl hin1 14 (by decide) (List.mem_of_getElem? (i := 15) (by decide +kernel)) rfl dX1_copyFrom_214 ?_
  refine tt_aload_n C dX1_copyFrom_217 rfl 0 rfl ?_
  refine tt_getI (v := nI (ix (g 1 0))) C (oH1 hi) rfl hin1 0 (by decide) (List.mem_of_getElem? (i := 1) (by decide +kernel)) rfl (ub_v.trans (by rw [← e_28, cp2_n (by decide), ← e_26, cp2_n (by decide), ← e_24, cp2_n (by decide), ← e_22, cp2_n (by decide), ← e_20, cp2_n (by decide), ← e_18, cp2_n (by decide), ← e_16, cp2_n (by decide), ← e_14, cp2_n (by decide), ← e_12, cp2_n (by decide), ← e_10, cp2_n (by decide), ← e_8, cp2_n (by decide), ← e_6, cp2_n (by decide), ← e_4, cp2_n (by decide), ← e_2]; exact up2_s _ _ _ _)) dX1_copyFrom_218 ?_
  refine tt_cNV C (c_X6_copyRow E u r h_27 g i i2 15 (ix (g 1 0)) hne (aH15 hi2) (aH15 hi) (by omega) (by omega)) gX1_copyFrom_X6_copyRow_n64 rfl ⟨rfl, rfl⟩ 3 C.2.2.2.2.2.2.2.2.2.2.1.2.1 (List.mem_of_getElem? (i := 18) (by decide +kernel)) (List.mem_of_getElem? (i := 19) (by decide +kernel)) (by decide +kernel) ⟨Nat.le_of_ble_eq_true rfl, Nat.le_of_ble_eq_true rfl⟩ rfl (Nat.le_of_ble_eq_true rfl) dX1_copyFrom_221 rfl ?_
  generalize e_30 : cp2 h_27 g 15 (ix (g 1 0)) = h_29
  refine tt_aload_n C dX1_copyFrom_224 rfl 1 rfl ?_
  refine tt_get (v := .ref (eA E i2 16)) C (oH1 hi2) rfl hin1 15 (by decide) (List.mem_of_getElem? (i := 16) (by decide +kernel)) rfl dX1_copyFrom_225 ?_
  refine tt_aload_n C dX1_copyFrom_228 rfl 0 rfl ?_
  refine tt_get (v := .ref (eA E i 16)) C (oH1 hi) rfl hin1 15 (by decide) (List.mem_of_getElem? (i := 16) (by decide +kernel)) rfl dX1_copyFrom_229 ?_
  refine tt_aload_n C dX1_copyFrom_232 rfl 0 rfl ?_
  refine tt_getI (v := nI (ix (g 1 0))) C (oH1 hi) rfl hin1 0 (by decide) (List.mem_of_getElem? (i := 1) (by decide +kernel)) rfl (ub_v.trans (by rw [← e_30, cp2_n (by decide), ← e_28, cp2_n (by decide), ← e_26, cp2_n (by decide), ← e_24, cp2_n (by decide), ← e_22, cp2_n (by decide), ← e_20, cp2_n (by decide), ← e_18, cp2_n (by decide), ← e_16, cp2_n (by decide), ← e_14, cp2_n (by decide), ← e_12, cp2_n (by decide), ← e_10, cp2_n (by decide), ← e_8, cp2_n (by decide), ← e_6, cp2_n (by decide), ← e_4, cp2_n (by decide), ← e_2]; exact up2_s _ _ _ _)) dX1_copyFrom_233 ?_
  refine tt_bipush (v := nI 8) C dX1_copyFrom_236 (by decide) ?_
  refine tt_imul (v := nI ((ix (g 1 0)) * 8)) C dX1_copyFrom_238 (pk_mul _ _) ?_
  refine tt_cNV C (c_X6_copyRow E u r h_29 g i i2 16 ((ix (g 1 0)) * 8) hne (aH16 hi2) (aH16 hi) (by omega) (by omega)) gX1_copyFrom_X6_copyRow_n64 rfl ⟨rfl, rfl⟩ 3 C.2.2.2.2.2.2.2.2.2.2.1.2.1 (List.mem_of_getElem? (i := 18) (by decide +kernel)) (List.mem_of_getElem? (i := 19) (by decide +kernel)) (by decide +kernel) ⟨Nat.le_of_ble_eq_true rfl, Nat.le_of_ble_eq_true rfl⟩ rfl (Nat.le_of_ble_eq_true rfl) dX1_copyFrom_239 rfl ?_
  generalize e_32 : cp2 h_29 g 16 ((ix (g 1 0)) * 8) = h_31
  refine tt_aload_n C dX1_copyFrom_242 rfl 1 rfl ?_
  refine tt_get (v := .ref (eA E i2 17)) C (oH1 hi2) rfl hin1 16 (by decide) (List.mem_of_getElem? (i := 17) (by decide +kernel)) rfl dX1_copyFrom_243 ?_
  refine tt_aload_n C dX1_copyFrom_246 rfl 0 rfl ?_
  refine tt_get (v := .ref (eA E i 17)) C (oH1 hi) rfl hin1 16 (by decide) (List.mem_of_getElem? (i := 17) (by decide +kernel)) rfl dX1_copyFrom_247 ?_
  refine tt_aload_n C dX1_copyFrom_250 rfl 0 rfl ?_
  refine tt_getI (v := nI (ix (g 1 0))) C (oH1 hi) rfl hin1 0 (by decide) (List.mem_of_getElem? (i := 1) (by decide +kernel)) rfl (ub_v.trans (by rw [← e_32, cp2_n (by decide), ← e_30, cp2_n (by decide), ← e_28, cp2_n (by decide), ← e_26, cp2_n (by decide), ← e_24, cp2_n (by decide), ← e_22, cp2_n (by decide), ← e_20, cp2_n (by decide), ← e_18, cp2_n (by decide), ← e_16, cp2_n (by decide), ← e_14, cp2_n (by decide), ← e_12, cp2_n (by decide), ← e_10, cp2_n (by decide), ← e_8, cp2_n (by decide), ← e_6, cp2_n (by decide), ← e_4, cp2_n (by decide), ← e_2]; exact up2_s _ _ _ _)) dX1_copyFrom_251 ?_
  refine tt_bipush (v := nI 8) C dX1_copyFrom_254 (by decide) ?_
  refine tt_imul (v := nI ((ix (g 1 0)) * 8)) C dX1_copyFrom_256 (pk_mul _ _) ?_
  refine tt_cNV C (c_X6_copyRow E u r h_31 g i i2 17 ((ix (g 1 0)) * 8) hne (aH17 hi2) (aH17 hi) (by omega) (by omega)) gX1_copyFrom_X6_copyRow_n64 rfl ⟨rfl, rfl⟩ 3 C.2.2.2.2.2.2.2.2.2.2.1.2.1 (List.mem_of_getElem? (i := 18) (by decide +kernel)) (List.mem_of_getElem? (i := 19) (by decide +kernel)) (by decide +kernel) ⟨Nat.le_of_ble_eq_true rfl, Nat.le_of_ble_eq_true rfl⟩ rfl (Nat.le_of_ble_eq_true rfl) dX1_copyFrom_257 rfl ?_
  generalize e_34 : cp2 h_31 g 17 ((ix (g 1 0)) * 8) = h_33
  exact tt_vret K dX1_copyFrom_260 (by subst e_34; subst e_32; subst e_30; subst e_28; subst e_26; subst e_24; subst e_22; subst e_20; subst e_18; subst e_16; subst e_14; subst e_12; subst e_10; subst e_8; subst e_6; subst e_4; subst e_2; first | rfl | (simp [H_cpD]; done) | (refine congrArg _ ?_; grind [H_cpD])) rfl

def H_cpB (h g : HB) : HB := cp2 (cp2 (cp2 (cp2 (cp2 (cp2 (up2 h 18 0 (nI (ix (g 18 0)))) g 19 (ix (g 18 0))) g 20 (ix (g 18 0))) g 21 (ix (g 18 0))) g 22 (ix (g 18 0))) g 23 (ix (g 18 0))) g 24 (ix (g 18 0))

set_option maxHeartbeats 4000000 in
set_option maxRecDepth 100000 in
theorem c_X0_copyFrom (E : EN) (u : U3) (r : R1) (h : HB) (g : HB) (i : Nat) (i2 : Nat) (hi : i < 5) (hi2 : i2 < 5) (hne : i2 ≠ i) (hG : vI (g 18 0) 9) : CT E yX0_copyFrom wsX0_copyFrom (rmT 2 42) [.ref (eA E i 18), .ref (eA E i2 18)] (ub (ub u i2 g) i h) r none (ub (ub u i2 g) i (H_cpB h g)) r := by
  refine CT_ofV (cc := cX0_copyFrom) (nL := 2) (own := RX0) (by decide) rfl rfl (Nat.le_of_ble_eq_true rfl) (fun F C K => ?_)
  have hin0 : ∀ w ∈ u_ws RX0 TX0 7, w ∈ wsX0_copyFrom := by decide +kernel
  refine tt_to (lv1 := [(0, .ref (eA E i 18)), (1, .ref (eA E i2 18))]) rfl rfl rfl rfl ?_
  have hG' := ix_lt hG (by decide)
  refine tt_aload_n C dX0_copyFrom_0 rfl 0 rfl ?_
  refine tt_aload_n C dX0_copyFrom_1 rfl 1 rfl ?_
  refine tt_getI (v := nI (ix (g 18 0))) C (oH18 hi2) rfl hin0 0 (by decide) (List.mem_of_getElem? (i := 1) (by decide +kernel)) rfl ((ub_w hne).trans (ix_eq hG (by decide))) dX0_copyFrom_2 ?_
  refine tt_putIB C (fH18_0 hi) rfl hin0 tyX0 tyX0_ok nmX0 (by decide) (List.mem_of_getElem? (i := 1) (by decide +kernel)) (by decide +kernel) (by decide +kernel) dX0_copyFrom_5 ?_
  generalize e_2 : up2 h 18 0 (nI (ix (g 18 0))) = h_1
  refine tt_aload_n C dX0_copyFrom_8 rfl 1 rfl ?_
  refine tt_get (v := .ref (eA E i2 19)) C (oH18 hi2) rfl hin0 1 (by decide) (List.mem_of_getElem? (i := 2) (by decide +kernel)) rfl dX0_copyFrom_9 ?_
  refine tt_aload_n C dX0_copyFrom_12 rfl 0 rfl ?_
  refine tt_get (v := .ref (eA E i 19)) C (oH18 hi) rfl hin0 1 (by decide) (List.mem_of_getElem? (i := 2) (by decide +kernel)) rfl dX0_copyFrom_13 ?_
  refine tt_aload_n C dX0_copyFrom_16 rfl 0 rfl ?_
  refine tt_getI (v := nI (ix (g 18 0))) C (oH18 hi) rfl hin0 0 (by decide) (List.mem_of_getElem? (i := 1) (by decide +kernel)) rfl (ub_v.trans (by rw [← e_2]; exact up2_s _ _ _ _)) dX0_copyFrom_17 ?_
  refine tt_cNV C (c_X6_copyRow E u r h_1 g i i2 19 (ix (g 18 0)) hne (aH19 hi2) (aH19 hi) (by omega) (by omega)) gX0_copyFrom_X6_copyRow_n34 rfl ⟨rfl, rfl⟩ 3 C.2.2.2.2.2.2.2.2.2.2.1.1 (List.mem_of_getElem? (i := 8) (by decide +kernel)) (List.mem_of_getElem? (i := 9) (by decide +kernel)) (by decide +kernel) ⟨Nat.le_of_ble_eq_true rfl, Nat.le_of_ble_eq_true rfl⟩ rfl (Nat.le_of_ble_eq_true rfl) dX0_copyFrom_20 rfl ?_
  generalize e_4 : cp2 h_1 g 19 (ix (g 18 0)) = h_3
  refine tt_aload_n C dX0_copyFrom_23 rfl 1 rfl ?_
  refine tt_get (v := .ref (eA E i2 20)) C (oH18 hi2) rfl hin0 2 (by decide) (List.mem_of_getElem? (i := 3) (by decide +kernel)) rfl dX0_copyFrom_24 ?_
  refine tt_aload_n C dX0_copyFrom_27 rfl 0 rfl ?_
  refine tt_get (v := .ref (eA E i 20)) C (oH18 hi) rfl hin0 2 (by decide) (List.mem_of_getElem? (i := 3) (by decide +kernel)) rfl dX0_copyFrom_28 ?_
  refine tt_aload_n C dX0_copyFrom_31 rfl 0 rfl ?_
  refine tt_getI (v := nI (ix (g 18 0))) C (oH18 hi) rfl hin0 0 (by decide) (List.mem_of_getElem? (i := 1) (by decide +kernel)) rfl (ub_v.trans (by rw [← e_4, cp2_n (by decide), ← e_2]; exact up2_s _ _ _ _)) dX0_copyFrom_32 ?_
  refine tt_cNV C (c_X6_copyRow E u r h_3 g i i2 20 (ix (g 18 0)) hne (aH20 hi2) (aH20 hi) (by omega) (by omega)) gX0_copyFrom_X6_copyRow_n34 rfl ⟨rfl, rfl⟩ 3 C.2.2.2.2.2.2.2.2.2.2.1.1 (List.mem_of_getElem? (i := 8) (by decide +kernel)) (List.mem_of_getElem? (i := 9) (by decide +kernel)) (by decide +kernel) ⟨Nat.le_of_ble_eq_true rfl, Nat.le_of_ble_eq_true rfl⟩ rfl (Nat.le_of_ble_eq_true rfl) dX0_copyFrom_35 rfl ?_
  generalize e_6 : cp2 h_3 g 20 (ix (g 18 0)) = h_5
  refine tt_aload_n C dX0_copyFrom_38 rfl 1 rfl ?_
  refine tt_get (v := .ref (eA E i2 21)) C (oH18 hi2) rfl hin0 3 (by decide) (List.mem_of_getElem? (i := 4) (by decide +kernel)) rfl dX0_copyFrom_39 ?_
  refine tt_aload_n C dX0_copyFrom_42 rfl 0 rfl ?_
  refine tt_get (v := .ref (eA E i 21)) C (oH18 hi) rfl hin0 3 (by decide) (List.mem_of_getElem? (i := 4) (by decide +kernel)) rfl dX0_copyFrom_43 ?_
  refine tt_aload_n C dX0_copyFrom_46 rfl 0 rfl ?_
  refine tt_getI (v := nI (ix (g 18 0))) C (oH18 hi) rfl hin0 0 (by decide) (List.mem_of_getElem? (i := 1) (by decide +kernel)) rfl (ub_v.trans (by rw [← e_6, cp2_n (by decide), ← e_4, cp2_n (by decide), ← e_2]; exact up2_s _ _ _ _)) dX0_copyFrom_47 ?_
  refine tt_cNV C (c_X6_copyRow E u r h_5 g i i2 21 (ix (g 18 0)) hne (aH21 hi2) (aH21 hi) (by omega) (by omega)) gX0_copyFrom_X6_copyRow_n34 rfl ⟨rfl, rfl⟩ 3 C.2.2.2.2.2.2.2.2.2.2.1.1 (List.mem_of_getElem? (i := 8) (by decide +kernel)) (List.mem_of_getElem? (i := 9) (by decide +kernel)) (by decide +kernel) ⟨Nat.le_of_ble_eq_true rfl, Nat.le_of_ble_eq_true rfl⟩ rfl (Nat.le_of_ble_eq_true rfl) dX0_copyFrom_50 rfl ?_
  generalize e_8 : cp2 h_5 g 21 (ix (g 18 0)) = h_7
  refine tt_aload_n C dX0_copyFrom_53 rfl 1 rfl ?_
  refine tt_get (v := .ref (eA E i2 22)) C (oH18 hi2) rfl hin0 4 (by decide) (List.mem_of_getElem? (i := 5) (by decide +kernel)) rfl dX0_copyFrom_54 ?_
  refine tt_aload_n C dX0_copyFrom_57 rfl 0 rfl ?_
  refine tt_get (v := .ref (eA E i 22)) C (oH18 hi) rfl hin0 4 (by decide) (List.mem_of_getElem? (i := 5) (by decide +kernel)) rfl dX0_copyFrom_58 ?_
  refine tt_aload_n C dX0_copyFrom_61 rfl 0 rfl ?_
  refine tt_getI (v := nI (ix (g 18 0))) C (oH18 hi) rfl hin0 0 (by decide) (List.mem_of_getElem? (i := 1) (by decide +kernel)) rfl (ub_v.trans (by rw [← e_8, cp2_n (by decide), ← e_6, cp2_n (by decide), ← e_4, cp2_n (by decide), ← e_2]; exact up2_s _ _ _ _)) dX0_copyFrom_62 ?_
  refine tt_cNV C (c_X6_copyRow E u r h_7 g i i2 22 (ix (g 18 0)) hne (aH22 hi2) (aH22 hi) (by omega) (by omega)) gX0_copyFrom_X6_copyRow_n34 rfl ⟨rfl, rfl⟩ 3 C.2.2.2.2.2.2.2.2.2.2.1.1 (List.mem_of_getElem? (i := 8) (by decide +kernel)) (List.mem_of_getElem? (i := 9) (by decide +kernel)) (by decide +kernel) ⟨Nat.le_of_ble_eq_true rfl, Nat.le_of_ble_eq_true rfl⟩ rfl (Nat.le_of_ble_eq_true rfl) dX0_copyFrom_65 rfl ?_
  generalize e_10 : cp2 h_7 g 22 (ix (g 18 0)) = h_9
  refine tt_aload_n C dX0_copyFrom_68 rfl 1 rfl ?_
  refine tt_get (v := .ref (eA E i2 23)) C (oH18 hi2) rfl hin0 5 (by decide) (List.mem_of_getElem? (i := 6) (by decide +kernel)) rfl dX0_copyFrom_69 ?_
  refine tt_aload_n C dX0_copyFrom_72 rfl 0 rfl ?_
  refine tt_get (v := .ref (eA E i 23)) C (oH18 hi) rfl hin0 5 (by decide) (List.mem_of_getElem? (i := 6) (by decide +kernel)) rfl dX0_copyFrom_73 ?_
  refine tt_aload_n C dX0_copyFrom_76 rfl 0 rfl ?_
  refine tt_getI (v := nI (ix (g 18 0))) C (oH18 hi) rfl hin0 0 (by decide) (List.mem_of_getElem? (i := 1) (by decide +kernel)) rfl (ub_v.trans (by rw [← e_10, cp2_n (by decide), ← e_8, cp2_n (by decide), ← e_6, cp2_n (by decide), ← e_4, cp2_n (by decide), ← e_2]; exact up2_s _ _ _ _)) dX0_copyFrom_77 ?_
  refine tt_cNV C (c_X6_copyRow E u r h_9 g i i2 23 (ix (g 18 0)) hne (aH23 hi2) (aH23 hi) (by omega) (by omega)) gX0_copyFrom_X6_copyRow_n34 rfl ⟨rfl, rfl⟩ 3 C.2.2.2.2.2.2.2.2.2.2.1.1 (List.mem_of_getElem? (i := 8) (by decide +kernel)) (List.mem_of_getElem? (i := 9) (by decide +kernel)) (by decide +kernel) ⟨Nat.le_of_ble_eq_true rfl, Nat.le_of_ble_eq_true rfl⟩ rfl (Nat.le_of_ble_eq_true rfl) dX0_copyFrom_80 rfl ?_
  generalize e_12 : cp2 h_9 g 23 (ix (g 18 0)) = h_11
  refine tt_aload_n C dX0_copyFrom_83 rfl 1 rfl ?_
  refine tt_get (v := .ref (eA E i2 24)) C (oH18 hi2) rfl hin0 6 (by decide) (List.mem_of_getElem? (i := 7) (by decide +kernel)) rfl dX0_copyFrom_84 ?_
  refine tt_aload_n C dX0_copyFrom_87 rfl 0 rfl ?_
  refine tt_get (v := .ref (eA E i 24)) C (oH18 hi) rfl hin0 6 (by decide) (List.mem_of_getElem? (i := 7) (by decide +kernel)) rfl dX0_copyFrom_88 ?_
  refine tt_aload_n C dX0_copyFrom_91 rfl 0 rfl ?_
  refine tt_getI (v := nI (ix (g 18 0))) C (oH18 hi) rfl hin0 0 (by decide) (List.mem_of_getElem? (i := 1) (by decide +kernel)) rfl (ub_v.trans (by rw [← e_12, cp2_n (by decide), ← e_10, cp2_n (by decide), ← e_8, cp2_n (by decide), ← e_6, cp2_n (by decide), ← e_4, cp2_n (by decide), ← e_2]; exact up2_s _ _ _ _)) dX0_copyFrom_92 ?_
  refine tt_cNV C (c_X6_copyRow E u r h_11 g i i2 24 (ix (g 18 0)) hne (aH24 hi2) (aH24 hi) (by omega) (by omega)) gX0_copyFrom_X6_copyRow_n34 rfl ⟨rfl, rfl⟩ 3 C.2.2.2.2.2.2.2.2.2.2.1.1 (List.mem_of_getElem? (i := 8) (by decide +kernel)) (List.mem_of_getElem? (i := 9) (by decide +kernel)) (by decide +kernel) ⟨Nat.le_of_ble_eq_true rfl, Nat.le_of_ble_eq_true rfl⟩ rfl (Nat.le_of_ble_eq_true rfl) dX0_copyFrom_95 rfl ?_
  generalize e_14 : cp2 h_11 g 24 (ix (g 18 0)) = h_13
  exact tt_vret K dX0_copyFrom_98 (by subst e_14; subst e_12; subst e_10; subst e_8; subst e_6; subst e_4; subst e_2; first | rfl | (simp [H_cpB]; done) | (refine congrArg _ ?_; grind [H_cpB])) rfl

def H_cpT (h g : HB) : HB := cp2 (cp2 (up2 h 25 0 (nI (ix (g 25 0)))) g 26 (ix (g 25 0))) g 27 64

set_option maxHeartbeats 4000000 in
set_option maxRecDepth 100000 in
theorem c_X5_copyFrom (E : EN) (u : U3) (r : R1) (h : HB) (g : HB) (i : Nat) (i2 : Nat) (hi : i < 5) (hi2 : i2 < 5) (hne : i2 ≠ i) (hG : vI (g 25 0) 65) : CT E yX5_copyFrom wsX5_copyFrom (rmT 2 42) [.ref (eA E i 25), .ref (eA E i2 25)] (ub (ub u i2 g) i h) r none (ub (ub u i2 g) i (H_cpT h g)) r := by
  refine CT_ofV (cc := cX5_copyFrom) (nL := 2) (own := RX5) (by decide) rfl rfl (Nat.le_of_ble_eq_true rfl) (fun F C K => ?_)
  have hin5 : ∀ w ∈ u_ws RX5 TX5 3, w ∈ wsX5_copyFrom := by decide +kernel
  refine tt_to (lv1 := [(0, .ref (eA E i 25)), (1, .ref (eA E i2 25))]) rfl rfl rfl rfl ?_
  have hG' := ix_lt hG (by decide)
  refine tt_aload_n C dX5_copyFrom_0 rfl 0 rfl ?_
  refine tt_aload_n C dX5_copyFrom_1 rfl 1 rfl ?_
  refine tt_getI (v := nI (ix (g 25 0))) C (oH25 hi2) rfl hin5 0 (by decide) (List.mem_of_getElem? (i := 1) (by decide +kernel)) rfl ((ub_w hne).trans (ix_eq hG (by decide))) dX5_copyFrom_2 ?_
  refine tt_putIB C (fH25_0 hi) rfl hin5 tyX5 tyX5_ok nmX5 (by decide) (List.mem_of_getElem? (i := 1) (by decide +kernel)) (by decide +kernel) (by decide +kernel) dX5_copyFrom_5 ?_
  generalize e_2 : up2 h 25 0 (nI (ix (g 25 0))) = h_1
  refine tt_aload_n C dX5_copyFrom_8 rfl 1 rfl ?_
  refine tt_get (v := .ref (eA E i2 26)) C (oH25 hi2) rfl hin5 1 (by decide) (List.mem_of_getElem? (i := 2) (by decide +kernel)) rfl dX5_copyFrom_9 ?_
  refine tt_aload_n C dX5_copyFrom_12 rfl 0 rfl ?_
  refine tt_get (v := .ref (eA E i 26)) C (oH25 hi) rfl hin5 1 (by decide) (List.mem_of_getElem? (i := 2) (by decide +kernel)) rfl dX5_copyFrom_13 ?_
  refine tt_aload_n C dX5_copyFrom_16 rfl 0 rfl ?_
  refine tt_getI (v := nI (ix (g 25 0))) C (oH25 hi) rfl hin5 0 (by decide) (List.mem_of_getElem? (i := 1) (by decide +kernel)) rfl (ub_v.trans (by rw [← e_2]; exact up2_s _ _ _ _)) dX5_copyFrom_17 ?_
  refine tt_cNV C (c_X6_copyRow E u r h_1 g i i2 26 (ix (g 25 0)) hne (aH26 hi2) (aH26 hi) (by omega) (by omega)) gX5_copyFrom_X6_copyRow_n22 rfl ⟨rfl, rfl⟩ 3 C.2.2.2.2.2.2.2.2.2.2.1.2.2.2.2.2.2.2.1 (List.mem_of_getElem? (i := 4) (by decide +kernel)) (List.mem_of_getElem? (i := 5) (by decide +kernel)) (by decide +kernel) ⟨Nat.le_of_ble_eq_true rfl, Nat.le_of_ble_eq_true rfl⟩ rfl (Nat.le_of_ble_eq_true rfl) dX5_copyFrom_20 rfl ?_
  generalize e_4 : cp2 h_1 g 26 (ix (g 25 0)) = h_3
  refine tt_aload_n C dX5_copyFrom_23 rfl 1 rfl ?_
  refine tt_get (v := .ref (eA E i2 27)) C (oH25 hi2) rfl hin5 2 (by decide) (List.mem_of_getElem? (i := 3) (by decide +kernel)) rfl dX5_copyFrom_24 ?_
  refine tt_aload_n C dX5_copyFrom_27 rfl 0 rfl ?_
  refine tt_get (v := .ref (eA E i 27)) C (oH25 hi) rfl hin5 2 (by decide) (List.mem_of_getElem? (i := 3) (by decide +kernel)) rfl dX5_copyFrom_28 ?_
  refine tt_bipush (v := nI 64) C dX5_copyFrom_31 (by decide) ?_
  refine tt_cNV C (c_X6_copyRow E u r h_3 g i i2 27 64 hne (aH27 hi2) (aH27 hi) (by omega) (by omega)) gX5_copyFrom_X6_copyRow_n22 rfl ⟨rfl, rfl⟩ 3 C.2.2.2.2.2.2.2.2.2.2.1.2.2.2.2.2.2.2.1 (List.mem_of_getElem? (i := 4) (by decide +kernel)) (List.mem_of_getElem? (i := 5) (by decide +kernel)) (by decide +kernel) ⟨Nat.le_of_ble_eq_true rfl, Nat.le_of_ble_eq_true rfl⟩ rfl (Nat.le_of_ble_eq_true rfl) dX5_copyFrom_33 rfl ?_
  generalize e_6 : cp2 h_3 g 27 64 = h_5
  exact tt_vret K dX5_copyFrom_36 (by subst e_6; subst e_4; subst e_2; first | rfl | (simp [H_cpT]; done) | (refine congrArg _ ?_; grind [H_cpT])) rfl

def H_copy (h g : HB) : HB := up2 (up2 (up2 (up2 (cp2 (H_cpT (H_cpB (H_cpD h g) g) g) g 28 6) 0 0 (g 0 0)) 0 1 (g 0 1)) 0 2 (g 0 2)) 0 3 (g 0 3)

set_option maxHeartbeats 4000000 in
set_option maxRecDepth 100000 in
theorem c_X2_copyFrom (E : EN) (u : U3) (r : R1) (h : HB) (g : HB) (i : Nat) (i2 : Nat) (hi : i < 5) (hi2 : i2 < 5) (hne : i2 ≠ i) (hG1 : vI (g 1 0) 9) (hG2 : vI (g 18 0) 9) (hG3 : vI (g 25 0) 65) : CT E yX2_copyFrom wsX2_copyFrom (rmT 3 63) [.ref (eA E i 0), .ref (eA E i2 0)] (ub (ub u i2 g) i h) r none (ub (ub u i2 g) i (H_copy h g)) r := by
  refine CT_ofV (cc := cX2_copyFrom) (nL := 2) (own := RX2) (by decide) rfl rfl (Nat.le_of_ble_eq_true rfl) (fun F C K => ?_)
  have hin2 : ∀ w ∈ u_ws RX2 TX2 8, w ∈ wsX2_copyFrom := by decide +kernel
  refine tt_to (lv1 := [(0, .ref (eA E i 0)), (1, .ref (eA E i2 0))]) rfl rfl rfl rfl ?_
  refine tt_aload_n C dX2_copyFrom_0 rfl 0 rfl ?_
  refine tt_get (v := .ref (eA E i 1)) C (oH0 hi) rfl hin2 0 (by decide) (List.mem_of_getElem? (i := 1) (by decide +kernel)) rfl dX2_copyFrom_1 ?_
  refine tt_aload_n C dX2_copyFrom_4 rfl 1 rfl ?_
  refine tt_get (v := .ref (eA E i2 1)) C (oH0 hi2) rfl hin2 0 (by decide) (List.mem_of_getElem? (i := 1) (by decide +kernel)) rfl dX2_copyFrom_5 ?_
  refine tt_cVV C (c_X1_copyFrom E u r h g i i2 hi hi2 hne hG1) gX2_copyFrom_X1_copyFrom rfl ⟨rfl, rfl⟩ 1 (by decide +kernel) ⟨Nat.le_of_ble_eq_true rfl, Nat.le_of_ble_eq_true rfl⟩ rfl (oH1 hi) rfl (Nat.le_of_ble_eq_true rfl) dX2_copyFrom_8 rfl ?_
  generalize e_2 : H_cpD h g = h_1
  refine tt_aload_n C dX2_copyFrom_11 rfl 0 rfl ?_
  refine tt_get (v := .ref (eA E i 18)) C (oH0 hi) rfl hin2 1 (by decide) (List.mem_of_getElem? (i := 2) (by decide +kernel)) rfl dX2_copyFrom_12 ?_
  refine tt_aload_n C dX2_copyFrom_15 rfl 1 rfl ?_
  refine tt_get (v := .ref (eA E i2 18)) C (oH0 hi2) rfl hin2 1 (by decide) (List.mem_of_getElem? (i := 2) (by decide +kernel)) rfl dX2_copyFrom_16 ?_
  refine tt_cVV C (c_X0_copyFrom E u r h_1 g i i2 hi hi2 hne hG2) gX2_copyFrom_X0_copyFrom rfl ⟨rfl, rfl⟩ 1 (by decide +kernel) ⟨Nat.le_of_ble_eq_true rfl, Nat.le_of_ble_eq_true rfl⟩ rfl (oH18 hi) rfl (Nat.le_of_ble_eq_true rfl) dX2_copyFrom_19 rfl ?_
  generalize e_4 : H_cpB h_1 g = h_3
  refine tt_aload_n C dX2_copyFrom_22 rfl 0 rfl ?_
  refine tt_get (v := .ref (eA E i 25)) C (oH0 hi) rfl hin2 2 (by decide) (List.mem_of_getElem? (i := 3) (by decide +kernel)) rfl dX2_copyFrom_23 ?_
  refine tt_aload_n C dX2_copyFrom_26 rfl 1 rfl ?_
  refine tt_get (v := .ref (eA E i2 25)) C (oH0 hi2) rfl hin2 2 (by decide) (List.mem_of_getElem? (i := 3) (by decide +kernel)) rfl dX2_copyFrom_27 ?_
  refine tt_cVV C (c_X5_copyFrom E u r h_3 g i i2 hi hi2 hne hG3) gX2_copyFrom_X5_copyFrom rfl ⟨rfl, rfl⟩ 1 (by decide +kernel) ⟨Nat.le_of_ble_eq_true rfl, Nat.le_of_ble_eq_true rfl⟩ rfl (oH25 hi) rfl (Nat.le_of_ble_eq_true rfl) dX2_copyFrom_30 rfl ?_
  generalize e_6 : H_cpT h_3 g = h_5
  refine tt_aload_n C dX2_copyFrom_33 rfl 1 rfl ?_
  refine tt_get (v := .ref (eA E i2 28)) C (oH0 hi2) rfl hin2 3 (by decide) (List.mem_of_getElem? (i := 4) (by decide +kernel)) rfl dX2_copyFrom_34 ?_
  refine tt_aload_n C dX2_copyFrom_37 rfl 0 rfl ?_
  refine tt_get (v := .ref (eA E i 28)) C (oH0 hi) rfl hin2 3 (by decide) (List.mem_of_getElem? (i := 4) (by decide +kernel)) rfl dX2_copyFrom_38 ?_
  refine tt_bipush (v := nI 6) C dX2_copyFrom_41 (by decide) ?_
  refine tt_cNV C (c_X6_copyRow E u r h_5 g i i2 28 6 hne (aH28 hi2) (aH28 hi) (by omega) (by omega)) gX2_copyFrom_X6_copyRow_n46 rfl ⟨rfl, rfl⟩ 3 C.2.2.2.2.2.2.2.2.2.2.1.2.2.1 (List.mem_of_getElem? (i := 31) (by decide +kernel)) (List.mem_of_getElem? (i := 32) (by decide +kernel)) (by decide +kernel) ⟨Nat.le_of_ble_eq_true rfl, Nat.le_of_ble_eq_true rfl⟩ rfl (Nat.le_of_ble_eq_true rfl) dX2_copyFrom_43 rfl ?_
  generalize e_8 : cp2 h_5 g 28 6 = h_7
  refine tt_aload_n C dX2_copyFrom_46 rfl 0 rfl ?_
  refine tt_aload_n C dX2_copyFrom_47 rfl 1 rfl ?_
  refine tt_getI (v := g 0 0) C (oH0 hi2) rfl hin2 4 (by decide) (List.mem_of_getElem? (i := 5) (by decide +kernel)) rfl (ub_w hne) dX2_copyFrom_48 ?_
  refine tt_putIB C (fH0_0 hi) rfl hin2 tyX2 tyX2_ok nmX2 (by decide) (List.mem_of_getElem? (i := 5) (by decide +kernel)) (by decide +kernel) (by decide +kernel) dX2_copyFrom_51 ?_
  generalize e_10 : up2 h_7 0 0 (g 0 0) = h_9
  refine tt_aload_n C dX2_copyFrom_54 rfl 0 rfl ?_
  refine tt_aload_n C dX2_copyFrom_55 rfl 1 rfl ?_
  refine tt_getI (v := g 0 1) C (oH0 hi2) rfl hin2 5 (by decide) (List.mem_of_getElem? (i := 6) (by decide +kernel)) rfl (ub_w hne) dX2_copyFrom_56 ?_
  refine tt_putIB C (fH0_1 hi) rfl hin2 tyX2 tyX2_ok nmX2 (by decide) (List.mem_of_getElem? (i := 6) (by decide +kernel)) (by decide +kernel) (by decide +kernel) dX2_copyFrom_59 ?_
  generalize e_12 : up2 h_9 0 1 (g 0 1) = h_11
  refine tt_aload_n C dX2_copyFrom_62 rfl 0 rfl ?_
  refine tt_aload_n C dX2_copyFrom_63 rfl 1 rfl ?_
  refine tt_getI (v := g 0 2) C (oH0 hi2) rfl hin2 6 (by decide) (List.mem_of_getElem? (i := 7) (by decide +kernel)) rfl (ub_w hne) dX2_copyFrom_64 ?_
  refine tt_putIB C (fH0_2 hi) rfl hin2 tyX2 tyX2_ok nmX2 (by decide) (List.mem_of_getElem? (i := 7) (by decide +kernel)) (by decide +kernel) (by decide +kernel) dX2_copyFrom_67 ?_
  generalize e_14 : up2 h_11 0 2 (g 0 2) = h_13
  refine tt_aload_n C dX2_copyFrom_70 rfl 0 rfl ?_
  refine tt_aload_n C dX2_copyFrom_71 rfl 1 rfl ?_
  refine tt_getI (v := g 0 3) C (oH0 hi2) rfl hin2 7 (by decide) (List.mem_of_getElem? (i := 8) (by decide +kernel)) rfl (ub_w hne) dX2_copyFrom_72 ?_
  refine tt_putIB C (fH0_3 hi) rfl hin2 tyX2 tyX2_ok nmX2 (by decide) (List.mem_of_getElem? (i := 8) (by decide +kernel)) (by decide +kernel) (by decide +kernel) dX2_copyFrom_75 ?_
  generalize e_16 : up2 h_13 0 3 (g 0 3) = h_15
  exact tt_vret K dX2_copyFrom_78 (by subst e_16; subst e_14; subst e_12; subst e_10; subst e_8; subst e_6; subst e_4; subst e_2; first | rfl | (simp [H_copy]; done) | (refine congrArg _ ?_; grind [H_copy])) rfl
