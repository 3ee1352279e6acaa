abbrev pA (v : Int32) : Prop := ¬ v < 0 ∧ ¬ nI 6 ≤ v
abbrev pL (v : Int32) : Prop := ¬ v < 0 ∧ ¬ nI 3 < v
abbrev pF (v : Int32) : Prop := v = 0 ∨ v = nI 1
abbrev pD (h : HB) (d : Int32) : Prop := ¬ d < 0 ∧ ¬ h 1 0 ≤ d
abbrev pB (h : HB) (b : Int32) : Prop := ¬ b < 0 ∧ ¬ h 18 0 ≤ b
def rem24 (x : Int32) : Int32 := x - x / nI 24 * nI 24
def H_lev (h : HB) (d : Nat) : Int32 := if ¬ rem24 (h 0 0) < nI 8 ∧ ¬ nI 17 < rem24 (h 0 0) then h 4 d else h 5 d
abbrev pShut (h : HB) (d : Nat) : Prop := ¬ h 8 d = -1 ∧ h 10 (ix (h 8 d)) = h 0 0
def H_on (h : HB) (b d : Nat) : Nat := if pShut h d then 1 else if h 3 d = 0 then 0 else if h 20 b = nI 1 then 2 else if ¬ H_lev h d ≤ h 19 b then 3 else if h 6 d = nI 2 ∧ ¬ h 21 b = h 2 d then 4 else if h 7 d = nI 1 ∧ ¬ (¬ h 11 d = -1 ∧ ¬ h 11 d = nI b) then 5 else 0
def H_off (h : HB) (b d : Nat) : Nat := if pShut h d then 1 else if h 3 d = 0 then 0 else if h 15 d ≤ nI b ∨ h 16 (d * 8 + b) = nI 1 then 2 else if ¬ H_lev h d ≤ h 17 (d * 8 + b) then 3 else 0
abbrev pPass (h : HB) (b d : Nat) : Prop := h 3 d = 0 ∨ (h 20 b = 0 ∧ ¬ h 19 b < H_lev h d)
theorem H_on_lt (h : HB) (b d : Nat) : H_on h b d < 6 := by unfold H_on; (repeat' split) <;> decide
theorem H_off_lt (h : HB) (b d : Nat) : H_off h b d < 4 := by unfold H_off; (repeat' split) <;> decide
theorem vI_many {x v : Int32} {n N : Nat} (hm : vI x N) (hN : N ≤ n + 1) (hn : n < 2 ^ 30) (hc : ¬ v < 0 ∧ ¬ x ≤ v) : vI v n := by
  obtain ⟨j, hj, rfl⟩ := hm
  obtain ⟨k, hk, e⟩ := vI_of (by omega) hc.1 hc.2
  exact ⟨k, by omega, e⟩

set_option maxHeartbeats 4000000 in
set_option maxRecDepth 100000 in
theorem c_X2_hour (E : EN) (u : U3) (r : R1) (h : HB) (i : Nat) (hi : i < 5) : CT E yX2_hour wsX2_hour (rmT 0 0) [.ref (eA E i 0)] (ub u i h) r (some (.int (rem24 (h 0 0)))) (ub u i h) r := by
  refine CT_ofI (cc := cX2_hour) (nL := 1) (own := RX2) (by decide) rfl rfl rfl (Nat.le_of_ble_eq_true rfl) (fun F C K => ?_)
  have hin2 : ∀ w ∈ u_ws RX2 TX2 8, w ∈ wsX2_hour := by decide +kernel
  refine tt_to (lv1 := [(0, .ref (eA E i 0))]) rfl rfl rfl rfl ?_
  refine tt_aload_n C dX2_hour_0 rfl 0 rfl ?_
  refine tt_getI (v := h 0 0) C (oH0 hi) rfl hin2 4 (by decide) (List.mem_of_getElem? (i := 1) (by decide +kernel)) rfl (ub_v.trans rfl) dX2_hour_1 ?_
  refine tt_bipush (v := nI 24) C dX2_hour_4 (by decide) ?_
  refine tt_irem (v := (h 0 0) - (h 0 0) / (nI 24) * (nI 24)) C dX2_hour_6 (by decide) rfl ?_
  exact tt_iret K dX2_hour_7 (by first | rfl | (simp []; done) | grind []) (by first | rfl | (simp []; done) | (refine congrArg _ ?_; grind [])) rfl

set_option maxHeartbeats 4000000 in
set_option maxRecDepth 100000 in
theorem c_X2_hasDoor (E : EN) (u : U3) (r : R1) (h : HB) (i : Nat) (d : Int32) (hi : i < 5) : CT E yX2_hasDoor wsX2_hasDoor (rmT 1 21) [.ref (eA E i 0), .int d] (ub u i h) r (some (.int (b2i (¬ d < 0 ∧ ¬ h 1 0 ≤ d)))) (ub u i h) r := by
  refine CT_ofI (cc := cX2_hasDoor) (nL := 2) (own := RX2) (by decide) rfl rfl (b2i_z _) (Nat.le_of_ble_eq_true rfl) (fun F C K => ?_)
  have hin1 : ∀ w ∈ u_ws RX1 TX1 17, w ∈ wsX2_hasDoor := by decide +kernel
  have hin2 : ∀ w ∈ u_ws RX2 TX2 8, w ∈ wsX2_hasDoor := by decide +kernel
  refine tt_to (lv1 := [(0, .ref (eA E i 0)), (1, .int d)]) rfl rfl rfl rfl ?_
  refine tt_iload_n C dX2_hasDoor_0 rfl 1 rfl ?_
  refine tt_aload_n C dX2_hasDoor_1 rfl 0 rfl ?_
  refine tt_get (v := .ref (eA E i 1)) C (oH0 hi) rfl hin2 0 (by decide) (List.mem_of_getElem? (i := 1) (by decide +kernel)) rfl dX2_hasDoor_2 ?_
  refine tt_getI (v := h 1 0) C (oH1 hi) rfl hin1 0 (by decide) (List.mem_of_getElem? (i := 2) (by decide +kernel)) rfl (ub_v.trans rfl) dX2_hasDoor_5 ?_
  refine tt_cNI C (c_X6_isBelow E (ub u i h) r d (h 1 0)) gX2_hasDoor_X6_isBelow_n66 rfl ⟨rfl, rfl⟩ 2 C.2.2.2.2.2.2.2.2.2.2.1.2.2.2.1 (List.mem_of_getElem? (i := 3) (by decide +kernel)) (List.mem_of_getElem? (i := 4) (by decide +kernel)) (by decide +kernel) ⟨Nat.le_of_ble_eq_true rfl, Nat.le_of_ble_eq_true rfl⟩ rfl (Nat.le_of_ble_eq_true rfl) dX2_hasDoor_8 rfl ?_
  exact tt_iret K dX2_hasDoor_11 (by first | rfl | (simp []; done) | grind []) (by first | rfl | (simp []; done) | (refine congrArg _ ?_; grind [])) rfl

set_option maxHeartbeats 4000000 in
set_option maxRecDepth 100000 in
theorem c_X2_hasBadge (E : EN) (u : U3) (r : R1) (h : HB) (i : Nat) (b : Int32) (hi : i < 5) : CT E yX2_hasBadge wsX2_hasBadge (rmT 1 21) [.ref (eA E i 0), .int b] (ub u i h) r (some (.int (b2i (¬ b < 0 ∧ ¬ h 18 0 ≤ b)))) (ub u i h) r := by
  refine CT_ofI (cc := cX2_hasBadge) (nL := 2) (own := RX2) (by decide) rfl rfl (b2i_z _) (Nat.le_of_ble_eq_true rfl) (fun F C K => ?_)
  have hin0 : ∀ w ∈ u_ws RX0 TX0 7, w ∈ wsX2_hasBadge := by decide +kernel
  have hin2 : ∀ w ∈ u_ws RX2 TX2 8, w ∈ wsX2_hasBadge := by decide +kernel
  refine tt_to (lv1 := [(0, .ref (eA E i 0)), (1, .int b)]) rfl rfl rfl rfl ?_
  refine tt_iload_n C dX2_hasBadge_0 rfl 1 rfl ?_
  refine tt_aload_n C dX2_hasBadge_1 rfl 0 rfl ?_
  refine tt_get (v := .ref (eA E i 18)) C (oH0 hi) rfl hin2 1 (by decide) (List.mem_of_getElem? (i := 1) (by decide +kernel)) rfl dX2_hasBadge_2 ?_
  refine tt_getI (v := h 18 0) C (oH18 hi) rfl hin0 0 (by decide) (List.mem_of_getElem? (i := 2) (by decide +kernel)) rfl (ub_v.trans rfl) dX2_hasBadge_5 ?_
  refine tt_cNI C (c_X6_isBelow E (ub u i h) r b (h 18 0)) gX2_hasBadge_X6_isBelow_n66 rfl ⟨rfl, rfl⟩ 2 C.2.2.2.2.2.2.2.2.2.2.1.2.2.2.1 (List.mem_of_getElem? (i := 3) (by decide +kernel)) (List.mem_of_getElem? (i := 4) (by decide +kernel)) (by decide +kernel) ⟨Nat.le_of_ble_eq_true rfl, Nat.le_of_ble_eq_true rfl⟩ rfl (Nat.le_of_ble_eq_true rfl) dX2_hasBadge_8 rfl ?_
  exact tt_iret K dX2_hasBadge_11 (by first | rfl | (simp []; done) | grind []) (by first | rfl | (simp []; done) | (refine congrArg _ ?_; grind [])) rfl

def H_rDoor (h : HB) (f t a b : Int32) : Int32 := if ¬ (pA f ∧ pA t ∧ ¬ f = t ∧ pL a ∧ pL b) then -2 else if ¬ h 1 0 < nI 8 then -4 else nI 0
set_option maxHeartbeats 4000000 in
set_option maxRecDepth 100000 in
theorem c_X2_refusesDoor (E : EN) (u : U3) (r : R1) (h : HB) (i : Nat) (f : Int32) (t : Int32) (a : Int32) (b : Int32) (hi : i < 5) : CT E yX2_refusesDoor wsX2_refusesDoor (rmT 2 41) [.ref (eA E i 0), .int f, .int t, .int a, .int b] (ub u i h) r (some (.int (H_rDoor h f t a b))) (ub u i h) r := by
  refine CT_ofI (cc := cX2_refusesDoor) (nL := 5) (own := RX2) (by decide) rfl rfl rfl (Nat.le_of_ble_eq_true rfl) (fun F C K => ?_)
  have hin1 : ∀ w ∈ u_ws RX1 TX1 17, w ∈ wsX2_refusesDoor := by decide +kernel
  have hin2 : ∀ w ∈ u_ws RX2 TX2 8, w ∈ wsX2_refusesDoor := by decide +kernel
  refine tt_to (lv1 := [(0, .ref (eA E i 0)), (1, .int f), (2, .int t), (3, .int a), (4, .int b)]) rfl rfl rfl rfl ?_
  refine tt_iload_n C dX2_refusesDoor_0 rfl 1 rfl ?_
  refine tt_cNI C (c_X6_isArea E (ub u i h) r f) gX2_refusesDoor_X6_isArea_n71 rfl ⟨rfl, rfl⟩ 1 C.2.2.2.2.2.2.2.2.2.2.1.2.2.2.2.1 (List.mem_of_getElem? (i := 3) (by decide +kernel)) (List.mem_of_getElem? (i := 4) (by decide +kernel)) (by decide +kernel) ⟨Nat.le_of_ble_eq_true rfl, Nat.le_of_ble_eq_true rfl⟩ rfl (Nat.le_of_ble_eq_true rfl) dX2_refusesDoor_1 rfl ?_
  refine tt_if_eqB C (tgt := 34) dX2_refusesDoor_4 (by decide) (fun c_1 => ?_) (fun c_1 => ?_)
  · skip
    refine tt_bipush (v := (-2 : Int32)) C dX2_refusesDoor_34 (by decide) ?_
    exact tt_iret K dX2_refusesDoor_36 (by first | rfl | (simp [c_1, H_rDoor]; done) | grind [H_rDoor]) (by first | rfl | (simp [c_1, H_rDoor]; done) | (refine congrArg _ ?_; grind [H_rDoor])) rfl
  · skip
    refine tt_iload_n C dX2_refusesDoor_7 rfl 2 rfl ?_
    refine tt_cNI C (c_X6_isArea E (ub u i h) r t) gX2_refusesDoor_X6_isArea_n71 rfl ⟨rfl, rfl⟩ 1 C.2.2.2.2.2.2.2.2.2.2.1.2.2.2.2.1 (List.mem_of_getElem? (i := 3) (by decide +kernel)) (List.mem_of_getElem? (i := 4) (by decide +kernel)) (by decide +kernel) ⟨Nat.le_of_ble_eq_true rfl, Nat.le_of_ble_eq_true rfl⟩ rfl (Nat.le_of_ble_eq_true rfl) dX2_refusesDoor_8 rfl ?_
    refine tt_if_eqB C (tgt := 34) dX2_refusesDoor_11 (by decide) (fun c_2 => ?_) (fun c_2 => ?_)
    · skip
      refine tt_bipush (v := (-2 : Int32)) C dX2_refusesDoor_34 (by decide) ?_
      exact tt_iret K dX2_refusesDoor_36 (by first | rfl | (simp [c_1, c_2, H_rDoor]; done) | grind [H_rDoor]) (by first | rfl | (simp [c_1, c_2, H_rDoor]; done) | (refine congrArg _ ?_; grind [H_rDoor])) rfl
    · skip
      refine tt_iload_n C dX2_refusesDoor_14 rfl 1 rfl ?_
      refine tt_iload_n C dX2_refusesDoor_15 rfl 2 rfl ?_
      refine tt_icmp_eq C (tgt := 34) dX2_refusesDoor_16 (by decide) Iff.rfl (fun c_3 => ?_) (fun c_3 => ?_)
      · skip
        refine tt_bipush (v := (-2 : Int32)) C dX2_refusesDoor_34 (by decide) ?_
        exact tt_iret K dX2_refusesDoor_36 (by first | rfl | (simp [c_1, c_2, c_3, H_rDoor]; done) | grind [H_rDoor]) (by first | rfl | (simp [c_1, c_2, c_3, H_rDoor]; done) | (refine congrArg _ ?_; grind [H_rDoor])) rfl
      · skip
        refine tt_iload_n C dX2_refusesDoor_19 rfl 3 rfl ?_
        refine tt_cNI C (c_X6_isLevel E (ub u i h) r a) gX2_refusesDoor_X6_isLevel_n75 rfl ⟨rfl, rfl⟩ 1 C.2.2.2.2.2.2.2.2.2.2.1.2.2.2.2.2.1 (List.mem_of_getElem? (i := 9) (by decide +kernel)) (List.mem_of_getElem? (i := 4) (by decide +kernel)) (by decide +kernel) ⟨Nat.le_of_ble_eq_true rfl, Nat.le_of_ble_eq_true rfl⟩ rfl (Nat.le_of_ble_eq_true rfl) dX2_refusesDoor_20 rfl ?_
        refine tt_if_eqB C (tgt := 34) dX2_refusesDoor_23 (by decide) (fun c_4 => ?_) (fun c_4 => ?_)
        · skip
          refine tt_bipush (v := (-2 : Int32)) C dX2_refusesDoor_34 (by decide) ?_
          exact tt_iret K dX2_refusesDoor_36 (by first | rfl | (simp [c_1, c_2, c_3, c_4, H_rDoor]; done) | grind [H_rDoor]) (by first | rfl | (simp [c_1, c_2, c_3, c_4, H_rDoor]; done) | (refine congrArg _ ?_; grind [H_rDoor])) rfl
        · skip
          refine tt_iload C dX2_refusesDoor_26 4 rfl ?_
          refine tt_cNI C (c_X6_isLevel E (ub u i h) r b) gX2_refusesDoor_X6_isLevel_n75 rfl ⟨rfl, rfl⟩ 1 C.2.2.2.2.2.2.2.2.2.2.1.2.2.2.2.2.1 (List.mem_of_getElem? (i := 9) (by decide +kernel)) (List.mem_of_getElem? (i := 4) (by decide +kernel)) (by decide +kernel) ⟨Nat.le_of_ble_eq_true rfl, Nat.le_of_ble_eq_true rfl⟩ rfl (Nat.le_of_ble_eq_true rfl) dX2_refusesDoor_28 rfl ?_
          refine tt_if_neB C (tgt := 37) dX2_refusesDoor_31 (by decide) (fun c_5 => ?_) (fun c_5 => ?_)
          · skip
            refine tt_aload_n C dX2_refusesDoor_37 rfl 0 rfl ?_
            refine tt_get (v := .ref (eA E i 1)) C (oH0 hi) rfl hin2 0 (by decide) (List.mem_of_getElem? (i := 1) (by decide +kernel)) rfl dX2_refusesDoor_38 ?_
            refine tt_getI (v := h 1 0) C (oH1 hi) rfl hin1 0 (by decide) (List.mem_of_getElem? (i := 2) (by decide +kernel)) rfl (ub_v.trans rfl) dX2_refusesDoor_41 ?_
            refine tt_bipush (v := nI 8) C dX2_refusesDoor_44 (by decide) ?_
            refine tt_icmp_lt C (tgt := 54) dX2_refusesDoor_46 (by decide) Iff.rfl (fun c_6 => ?_) (fun c_6 => ?_)
            · skip
              refine tt_iconst (v := nI 0) C dX2_refusesDoor_54 (by decide) ?_
              exact tt_iret K dX2_refusesDoor_55 (by first | rfl | (simp [c_1, c_2, c_3, c_4, c_5, c_6, H_rDoor]; done) | grind [H_rDoor]) (by first | rfl | (simp [c_1, c_2, c_3, c_4, c_5, c_6, H_rDoor]; done) | (refine congrArg _ ?_; grind [H_rDoor])) rfl
            · skip
              refine tt_bipush (v := (-4 : Int32)) C dX2_refusesDoor_49 (by decide) ?_
              refine tt_goto (tgt := 55) C dX2_refusesDoor_51 (by decide) ?_
              exact tt_iret K dX2_refusesDoor_55 (by first | rfl | (simp [c_1, c_2, c_3, c_4, c_5, c_6, H_rDoor]; done) | grind [H_rDoor]) (by first | rfl | (simp [c_1, c_2, c_3, c_4, c_5, c_6, H_rDoor]; done) | (refine congrArg _ ?_; grind [H_rDoor])) rfl
          · skip
            refine tt_bipush (v := (-2 : Int32)) C dX2_refusesDoor_34 (by decide) ?_
            exact tt_iret K dX2_refusesDoor_36 (by first | rfl | (simp [c_1, c_2, c_3, c_4, c_5, H_rDoor]; done) | grind [H_rDoor]) (by first | rfl | (simp [c_1, c_2, c_3, c_4, c_5, H_rDoor]; done) | (refine congrArg _ ?_; grind [H_rDoor])) rfl

def H_rBadge (h : HB) (v : Int32) : Int32 := if ¬ pL v then -2 else if ¬ h 18 0 < nI 8 then -4 else nI 0
set_option maxHeartbeats 4000000 in
set_option maxRecDepth 100000 in
theorem c_X2_refusesBadge (E : EN) (u : U3) (r : R1) (h : HB) (i : Nat) (v : Int32) (hi : i < 5) : CT E yX2_refusesBadge wsX2_refusesBadge (rmT 1 20) [.ref (eA E i 0), .int v] (ub u i h) r (some (.int (H_rBadge h v))) (ub u i h) r := by
  refine CT_ofI (cc := cX2_refusesBadge) (nL := 2) (own := RX2) (by decide) rfl rfl rfl (Nat.le_of_ble_eq_true rfl) (fun F C K => ?_)
  have hin0 : ∀ w ∈ u_ws RX0 TX0 7, w ∈ wsX2_refusesBadge := by decide +kernel
  have hin2 : ∀ w ∈ u_ws RX2 TX2 8, w ∈ wsX2_refusesBadge := by decide +kernel
  refine tt_to (lv1 := [(0, .ref (eA E i 0)), (1, .int v)]) rfl rfl rfl rfl ?_
  refine tt_iload_n C dX2_refusesBadge_0 rfl 1 rfl ?_
  refine tt_cNI C (c_X6_isLevel E (ub u i h) r v) gX2_refusesBadge_X6_isLevel_n75 rfl ⟨rfl, rfl⟩ 1 C.2.2.2.2.2.2.2.2.2.2.1.2.2.2.2.2.1 (List.mem_of_getElem? (i := 3) (by decide +kernel)) (List.mem_of_getElem? (i := 4) (by decide +kernel)) (by decide +kernel) ⟨Nat.le_of_ble_eq_true rfl, Nat.le_of_ble_eq_true rfl⟩ rfl (Nat.le_of_ble_eq_true rfl) dX2_refusesBadge_1 rfl ?_
  refine tt_if_neB C (tgt := 10) dX2_refusesBadge_4 (by decide) (fun c_1 => ?_) (fun c_1 => ?_)
  · skip
    refine tt_aload_n C dX2_refusesBadge_10 rfl 0 rfl ?_
    refine tt_get (v := .ref (eA E i 18)) C (oH0 hi) rfl hin2 1 (by decide) (List.mem_of_getElem? (i := 1) (by decide +kernel)) rfl dX2_refusesBadge_11 ?_
    refine tt_getI (v := h 18 0) C (oH18 hi) rfl hin0 0 (by decide) (List.mem_of_getElem? (i := 2) (by decide +kernel)) rfl (ub_v.trans rfl) dX2_refusesBadge_14 ?_
    refine tt_bipush (v := nI 8) C dX2_refusesBadge_17 (by decide) ?_
    refine tt_icmp_lt C (tgt := 27) dX2_refusesBadge_19 (by decide) Iff.rfl (fun c_2 => ?_) (fun c_2 => ?_)
    · skip
      refine tt_iconst (v := nI 0) C dX2_refusesBadge_27 (by decide) ?_
      exact tt_iret K dX2_refusesBadge_28 (by first | rfl | (simp [c_1, c_2, H_rBadge]; done) | grind [H_rBadge]) (by first | rfl | (simp [c_1, c_2, H_rBadge]; done) | (refine congrArg _ ?_; grind [H_rBadge])) rfl
    · skip
      refine tt_bipush (v := (-4 : Int32)) C dX2_refusesBadge_22 (by decide) ?_
      refine tt_goto (tgt := 28) C dX2_refusesBadge_24 (by decide) ?_
      exact tt_iret K dX2_refusesBadge_28 (by first | rfl | (simp [c_1, c_2, H_rBadge]; done) | grind [H_rBadge]) (by first | rfl | (simp [c_1, c_2, H_rBadge]; done) | (refine congrArg _ ?_; grind [H_rBadge])) rfl
  · skip
    refine tt_bipush (v := (-2 : Int32)) C dX2_refusesBadge_7 (by decide) ?_
    exact tt_iret K dX2_refusesBadge_9 (by first | rfl | (simp [c_1, H_rBadge]; done) | grind [H_rBadge]) (by first | rfl | (simp [c_1, H_rBadge]; done) | (refine congrArg _ ?_; grind [H_rBadge])) rfl

def H_rBar (h : HB) (b s : Int32) : Int32 := if pB h b ∧ pF s then nI 0 else -2
set_option maxHeartbeats 4000000 in
set_option maxRecDepth 100000 in
theorem c_X2_refusesBar (E : EN) (u : U3) (r : R1) (h : HB) (i : Nat) (b : Int32) (s : Int32) (hi : i < 5) : CT E yX2_refusesBar wsX2_refusesBar (rmT 2 42) [.ref (eA E i 0), .int b, .int s] (ub u i h) r (some (.int (H_rBar h b s))) (ub u i h) r := by
  refine CT_ofI (cc := cX2_refusesBar) (nL := 3) (own := RX2) (by decide) rfl rfl rfl (Nat.le_of_ble_eq_true rfl) (fun F C K => ?_)
  refine tt_to (lv1 := [(0, .ref (eA E i 0)), (1, .int b), (2, .int s)]) rfl rfl rfl rfl ?_
  refine tt_aload_n C dX2_refusesBar_0 rfl 0 rfl ?_
  refine tt_iload_n C dX2_refusesBar_1 rfl 1 rfl ?_
  refine tt_cVI C (c_X2_hasBadge E u r h i b hi) gX2_refusesBar_X2_hasBadge rfl ⟨rfl, rfl⟩ 1 (by decide +kernel) ⟨Nat.le_of_ble_eq_true rfl, Nat.le_of_ble_eq_true rfl⟩ rfl (oH0 hi) rfl (Nat.le_of_ble_eq_true rfl) dX2_refusesBar_2 rfl ?_
  refine tt_if_eqB C (tgt := 19) dX2_refusesBar_5 (by decide) (fun c_1 => ?_) (fun c_1 => ?_)
  · skip
    refine tt_bipush (v := (-2 : Int32)) C dX2_refusesBar_19 (by decide) ?_
    exact tt_iret K dX2_refusesBar_21 (by first | rfl | (simp [c_1, H_rBar]; done) | grind [H_rBar]) (by first | rfl | (simp [c_1, H_rBar]; done) | (refine congrArg _ ?_; grind [H_rBar])) rfl
  · skip
    refine tt_iload_n C dX2_refusesBar_8 rfl 2 rfl ?_
    refine tt_cNI C (c_X6_isFlag E (ub u i h) r s) gX2_refusesBar_X6_isFlag_n81 rfl ⟨rfl, rfl⟩ 1 C.2.2.2.2.2.2.2.2.2.2.1.2.2.2.2.2.2.1 (List.mem_of_getElem? (i := 11) (by decide +kernel)) (List.mem_of_getElem? (i := 9) (by decide +kernel)) (by decide +kernel) ⟨Nat.le_of_ble_eq_true rfl, Nat.le_of_ble_eq_true rfl⟩ rfl (Nat.le_of_ble_eq_true rfl) dX2_refusesBar_9 rfl ?_
    refine tt_if_eqB C (tgt := 19) dX2_refusesBar_12 (by decide) (fun c_2 => ?_) (fun c_2 => ?_)
    · skip
      refine tt_bipush (v := (-2 : Int32)) C dX2_refusesBar_19 (by decide) ?_
      exact tt_iret K dX2_refusesBar_21 (by first | rfl | (simp [c_1, c_2, H_rBar]; done) | grind [H_rBar]) (by first | rfl | (simp [c_1, c_2, H_rBar]; done) | (refine congrArg _ ?_; grind [H_rBar])) rfl
    · skip
      refine tt_iconst (v := nI 0) C dX2_refusesBar_15 (by decide) ?_
      refine tt_goto (tgt := 21) C dX2_refusesBar_16 (by decide) ?_
      exact tt_iret K dX2_refusesBar_21 (by first | rfl | (simp [c_1, c_2, H_rBar]; done) | grind [H_rBar]) (by first | rfl | (simp [c_1, c_2, H_rBar]; done) | (refine congrArg _ ?_; grind [H_rBar])) rfl

def H_rOnline (h : HB) (d s : Int32) : Int32 := if ¬ (pD h d ∧ pF s) then -2 else if h 9 (ix d) = s then -3 else nI 0
set_option maxHeartbeats 4000000 in
set_option maxRecDepth 100000 in
theorem c_X2_refusesOnline (E : EN) (u : U3) (r : R1) (h : HB) (i : Nat) (d : Int32) (s : Int32) (hi : i < 5) (hD : vI (h 1 0) 9) : CT E yX2_refusesOnline wsX2_refusesOnline (rmT 2 42) [.ref (eA E i 0), .int d, .int s] (ub u i h) r (some (.int (H_rOnline h d s))) (ub u i h) r := by
  refine CT_ofI (cc := cX2_refusesOnline) (nL := 3) (own := RX2) (by decide) rfl rfl rfl (Nat.le_of_ble_eq_true rfl) (fun F C K => ?_)
  have hin1 : ∀ w ∈ u_ws RX1 TX1 17, w ∈ wsX2_refusesOnline := by decide +kernel
  have hin2 : ∀ w ∈ u_ws RX2 TX2 8, w ∈ wsX2_refusesOnline := by decide +kernel
  refine tt_to (lv1 := [(0, .ref (eA E i 0)), (1, .int d), (2, .int s)]) rfl rfl rfl rfl ?_
  refine tt_aload_n C dX2_refusesOnline_0 rfl 0 rfl ?_
  refine tt_iload_n C dX2_refusesOnline_1 rfl 1 rfl ?_
  refine tt_cVI C (c_X2_hasDoor E u r h i d hi) gX2_refusesOnline_X2_hasDoor rfl ⟨rfl, rfl⟩ 1 (by decide +kernel) ⟨Nat.le_of_ble_eq_true rfl, Nat.le_of_ble_eq_true rfl⟩ rfl (oH0 hi) rfl (Nat.le_of_ble_eq_true rfl) dX2_refusesOnline_2 rfl ?_
  refine tt_if_eqB C (tgt := 15) dX2_refusesOnline_5 (by decide) (fun c_1 => ?_) (fun c_1 => ?_)
  · skip
    refine tt_bipush (v := (-2 : Int32)) C dX2_refusesOnline_15 (by decide) ?_
    exact tt_iret K dX2_refusesOnline_17 (by first | rfl | (simp [c_1, H_rOnline]; done) | grind [H_rOnline]) (by first | rfl | (simp [c_1, H_rOnline]; done) | (refine congrArg _ ?_; grind [H_rOnline])) rfl
  · skip
    refine tt_iload_n C dX2_refusesOnline_8 rfl 2 rfl ?_
    refine tt_cNI C (c_X6_isFlag E (ub u i h) r s) gX2_refusesOnline_X6_isFlag_n81 rfl ⟨rfl, rfl⟩ 1 C.2.2.2.2.2.2.2.2.2.2.1.2.2.2.2.2.2.1 (List.mem_of_getElem? (i := 12) (by decide +kernel)) (List.mem_of_getElem? (i := 10) (by decide +kernel)) (by decide +kernel) ⟨Nat.le_of_ble_eq_true rfl, Nat.le_of_ble_eq_true rfl⟩ rfl (Nat.le_of_ble_eq_true rfl) dX2_refusesOnline_9 rfl ?_
    refine tt_if_neB C (tgt := 18) dX2_refusesOnline_12 (by decide) (fun c_2 => ?_) (fun c_2 => ?_)
    · skip
      refine tt_aload_n C dX2_refusesOnline_18 rfl 0 rfl ?_
      refine tt_get (v := .ref (eA E i 1)) C (oH0 hi) rfl hin2 0 (by decide) (List.mem_of_getElem? (i := 1) (by decide +kernel)) rfl dX2_refusesOnline_19 ?_
      refine tt_get (v := .ref (eA E i 9)) C (oH1 hi) rfl hin1 8 (by decide) (List.mem_of_getElem? (i := 2) (by decide +kernel)) rfl dX2_refusesOnline_22 ?_
      refine tt_iload_n C dX2_refusesOnline_25 rfl 1 rfl ?_
      refine tt_ialdB (v := h 9 (ix d)) C (aH9 hi) (ix d) (ix_eq (vI_many (n := 8) hD (by decide) (by decide) c_1) (by decide)) (ix_lt (vI_many (n := 8) hD (by decide) (by decide) c_1) (by decide)) rfl dX2_refusesOnline_26 ?_
      refine tt_iload_n C dX2_refusesOnline_27 rfl 2 rfl ?_
      refine tt_icmp_ne C (tgt := 36) dX2_refusesOnline_28 (by decide) Iff.rfl (fun c_3 => ?_) (fun c_3 => ?_)
      · skip
        refine tt_iconst (v := nI 0) C dX2_refusesOnline_36 (by decide) ?_
        exact tt_iret K dX2_refusesOnline_37 (by first | rfl | (simp [c_1, c_2, c_3, H_rOnline]; done) | grind [H_rOnline]) (by first | rfl | (simp [c_1, c_2, c_3, H_rOnline]; done) | (refine congrArg _ ?_; grind [H_rOnline])) rfl
      · skip
        refine tt_bipush (v := (-3 : Int32)) C dX2_refusesOnline_31 (by decide) ?_
        refine tt_goto (tgt := 37) C dX2_refusesOnline_33 (by decide) ?_
        exact tt_iret K dX2_refusesOnline_37 (by first | rfl | (simp [c_1, c_2, c_3, H_rOnline]; done) | grind [H_rOnline]) (by first | rfl | (simp [c_1, c_2, c_3, H_rOnline]; done) | (refine congrArg _ ?_; grind [H_rOnline])) rfl
    · skip
      refine tt_bipush (v := (-2 : Int32)) C dX2_refusesOnline_15 (by decide) ?_
      exact tt_iret K dX2_refusesOnline_17 (by first | rfl | (simp [c_1, c_2, H_rOnline]; done) | grind [H_rOnline]) (by first | rfl | (simp [c_1, c_2, H_rOnline]; done) | (refine congrArg _ ?_; grind [H_rOnline])) rfl

def H_rAsk (h : HB) (b d s : Int32) : Int32 := if pB h b ∧ pD h d ∧ pF s then nI 0 else -2
set_option maxHeartbeats 4000000 in
set_option maxRecDepth 100000 in
theorem c_X2_refusesAsk (E : EN) (u : U3) (r : R1) (h : HB) (i : Nat) (b : Int32) (d : Int32) (s : Int32) (hi : i < 5) : CT E yX2_refusesAsk wsX2_refusesAsk (rmT 2 42) [.ref (eA E i 0), .int b, .int d, .int s] (ub u i h) r (some (.int (H_rAsk h b d s))) (ub u i h) r := by
  refine CT_ofI (cc := cX2_refusesAsk) (nL := 4) (own := RX2) (by decide) rfl rfl rfl (Nat.le_of_ble_eq_true rfl) (fun F C K => ?_)
  refine tt_to (lv1 := [(0, .ref (eA E i 0)), (1, .int b), (2, .int d), (3, .int s)]) rfl rfl rfl rfl ?_
  refine tt_aload_n C dX2_refusesAsk_0 rfl 0 rfl ?_
  refine tt_iload_n C dX2_refusesAsk_1 rfl 1 rfl ?_
  refine tt_cVI C (c_X2_hasBadge E u r h i b hi) gX2_refusesAsk_X2_hasBadge rfl ⟨rfl, rfl⟩ 1 (by decide +kernel) ⟨Nat.le_of_ble_eq_true rfl, Nat.le_of_ble_eq_true rfl⟩ rfl (oH0 hi) rfl (Nat.le_of_ble_eq_true rfl) dX2_refusesAsk_2 rfl ?_
  refine tt_if_eqB C (tgt := 27) dX2_refusesAsk_5 (by decide) (fun c_1 => ?_) (fun c_1 => ?_)
  · skip
    refine tt_bipush (v := (-2 : Int32)) C dX2_refusesAsk_27 (by decide) ?_
    exact tt_iret K dX2_refusesAsk_29 (by first | rfl | (simp [c_1, H_rAsk]; done) | grind [H_rAsk]) (by first | rfl | (simp [c_1, H_rAsk]; done) | (refine congrArg _ ?_; grind [H_rAsk])) rfl
  · skip
    refine tt_aload_n C dX2_refusesAsk_8 rfl 0 rfl ?_
    refine tt_iload_n C dX2_refusesAsk_9 rfl 2 rfl ?_
    refine tt_cVI C (c_X2_hasDoor E u r h i d hi) gX2_refusesAsk_X2_hasDoor rfl ⟨rfl, rfl⟩ 1 (by decide +kernel) ⟨Nat.le_of_ble_eq_true rfl, Nat.le_of_ble_eq_true rfl⟩ rfl (oH0 hi) rfl (Nat.le_of_ble_eq_true rfl) dX2_refusesAsk_10 rfl ?_
    refine tt_if_eqB C (tgt := 27) dX2_refusesAsk_13 (by decide) (fun c_2 => ?_) (fun c_2 => ?_)
    · skip
      refine tt_bipush (v := (-2 : Int32)) C dX2_refusesAsk_27 (by decide) ?_
      exact tt_iret K dX2_refusesAsk_29 (by first | rfl | (simp [c_1, c_2, H_rAsk]; done) | grind [H_rAsk]) (by first | rfl | (simp [c_1, c_2, H_rAsk]; done) | (refine congrArg _ ?_; grind [H_rAsk])) rfl
    · skip
      refine tt_iload_n C dX2_refusesAsk_16 rfl 3 rfl ?_
      refine tt_cNI C (c_X6_isFlag E (ub u i h) r s) gX2_refusesAsk_X6_isFlag_n81 rfl ⟨rfl, rfl⟩ 1 C.2.2.2.2.2.2.2.2.2.2.1.2.2.2.2.2.2.1 (List.mem_of_getElem? (i := 17) (by decide +kernel)) (List.mem_of_getElem? (i := 9) (by decide +kernel)) (by decide +kernel) ⟨Nat.le_of_ble_eq_true rfl, Nat.le_of_ble_eq_true rfl⟩ rfl (Nat.le_of_ble_eq_true rfl) dX2_refusesAsk_17 rfl ?_
      refine tt_if_eqB C (tgt := 27) dX2_refusesAsk_20 (by decide) (fun c_3 => ?_) (fun c_3 => ?_)
      · skip
        refine tt_bipush (v := (-2 : Int32)) C dX2_refusesAsk_27 (by decide) ?_
        exact tt_iret K dX2_refusesAsk_29 (by first | rfl | (simp [c_1, c_2, c_3, H_rAsk]; done) | grind [H_rAsk]) (by first | rfl | (simp [c_1, c_2, c_3, H_rAsk]; done) | (refine congrArg _ ?_; grind [H_rAsk])) rfl
      · skip
        refine tt_iconst (v := nI 0) C dX2_refusesAsk_23 (by decide) ?_
        refine tt_goto (tgt := 29) C dX2_refusesAsk_24 (by decide) ?_
        exact tt_iret K dX2_refusesAsk_29 (by first | rfl | (simp [c_1, c_2, c_3, H_rAsk]; done) | grind [H_rAsk]) (by first | rfl | (simp [c_1, c_2, c_3, H_rAsk]; done) | (refine congrArg _ ?_; grind [H_rAsk])) rfl

def H_rWait (n : Int32) : Int32 := if ¬ n < nI 1 ∧ ¬ nI 99 < n then nI 0 else -2
set_option maxHeartbeats 4000000 in
set_option maxRecDepth 100000 in
theorem c_X2_refusesWait (E : EN) (u : U3) (r : R1) (h : HB) (i : Nat) (n : Int32) (hi : i < 5) : CT E yX2_refusesWait wsX2_refusesWait (rmT 0 0) [.ref (eA E i 0), .int n] (ub u i h) r (some (.int (H_rWait n))) (ub u i h) r := by
  refine CT_ofI (cc := cX2_refusesWait) (nL := 2) (own := RX2) (by decide) rfl rfl rfl (Nat.le_of_ble_eq_true rfl) (fun F C K => ?_)
  refine tt_to (lv1 := [(0, .ref (eA E i 0)), (1, .int n)]) rfl rfl rfl rfl ?_
  refine tt_iload_n C dX2_refusesWait_0 rfl 1 rfl ?_
  refine tt_iconst (v := nI 1) C dX2_refusesWait_1 (by decide) ?_
  refine tt_icmp_lt C (tgt := 15) dX2_refusesWait_2 (by decide) Iff.rfl (fun c_1 => ?_) (fun c_1 => ?_)
  · skip
    refine tt_bipush (v := (-2 : Int32)) C dX2_refusesWait_15 (by decide) ?_
    exact tt_iret K dX2_refusesWait_17 (by first | rfl | (simp [c_1, H_rWait]; done) | grind [H_rWait]) (by first | rfl | (simp [c_1, H_rWait]; done) | (refine congrArg _ ?_; grind [H_rWait])) rfl
  · skip
    refine tt_iload_n C dX2_refusesWait_5 rfl 1 rfl ?_
    refine tt_bipush (v := nI 99) C dX2_refusesWait_6 (by decide) ?_
    refine tt_icmp_gt C (tgt := 15) dX2_refusesWait_8 (by decide) Iff.rfl (fun c_2 => ?_) (fun c_2 => ?_)
    · skip
      refine tt_bipush (v := (-2 : Int32)) C dX2_refusesWait_15 (by decide) ?_
      exact tt_iret K dX2_refusesWait_17 (by first | rfl | (simp [c_1, c_2, H_rWait]; done) | grind [H_rWait]) (by first | rfl | (simp [c_1, c_2, H_rWait]; done) | (refine congrArg _ ?_; grind [H_rWait])) rfl
    · skip
      refine tt_iconst (v := nI 0) C dX2_refusesWait_11 (by decide) ?_
      refine tt_goto (tgt := 17) C dX2_refusesWait_12 (by decide) ?_
      exact tt_iret K dX2_refusesWait_17 (by first | rfl | (simp [c_1, c_2, H_rWait]; done) | grind [H_rWait]) (by first | rfl | (simp [c_1, c_2, H_rWait]; done) | (refine congrArg _ ?_; grind [H_rWait])) rfl

set_option maxHeartbeats 4000000 in
set_option maxRecDepth 100000 in
theorem c_X2_isOpen (E : EN) (u : U3) (r : R1) (h : HB) (i : Nat) (d : Nat) (hi : i < 5) (hd : d < 8) : CT E yX2_isOpen wsX2_isOpen (rmT 0 0) [.ref (eA E i 0), .int (nI d)] (ub u i h) r (some (.int (b2i (h 10 d = h 0 0)))) (ub u i h) r := by
  refine CT_ofI (cc := cX2_isOpen) (nL := 2) (own := RX2) (by decide) rfl rfl (b2i_z _) (Nat.le_of_ble_eq_true rfl) (fun F C K => ?_)
  have hin1 : ∀ w ∈ u_ws RX1 TX1 17, w ∈ wsX2_isOpen := by decide +kernel
  have hin2 : ∀ w ∈ u_ws RX2 TX2 8, w ∈ wsX2_isOpen := by decide +kernel
  refine tt_to (lv1 := [(0, .ref (eA E i 0)), (1, .int (nI d))]) rfl rfl rfl rfl ?_
  refine tt_aload_n C dX2_isOpen_0 rfl 0 rfl ?_
  refine tt_get (v := .ref (eA E i 1)) C (oH0 hi) rfl hin2 0 (by decide) (List.mem_of_getElem? (i := 1) (by decide +kernel)) rfl dX2_isOpen_1 ?_
  refine tt_get (v := .ref (eA E i 10)) C (oH1 hi) rfl hin1 9 (by decide) (List.mem_of_getElem? (i := 2) (by decide +kernel)) rfl dX2_isOpen_4 ?_
  refine tt_iload_n C dX2_isOpen_7 rfl 1 rfl ?_
  refine tt_ialdB (v := h 10 d) C (aH10 hi) d rfl (by omega) rfl dX2_isOpen_8 ?_
  refine tt_aload_n C dX2_isOpen_9 rfl 0 rfl ?_
  refine tt_getI (v := h 0 0) C (oH0 hi) rfl hin2 4 (by decide) (List.mem_of_getElem? (i := 3) (by decide +kernel)) rfl (ub_v.trans rfl) dX2_isOpen_10 ?_
  refine tt_icmp_ne C (tgt := 20) dX2_isOpen_13 (by decide) Iff.rfl (fun c_1 => ?_) (fun c_1 => ?_)
  · skip
    refine tt_iconst (v := nI 0) C dX2_isOpen_20 (by decide) ?_
    exact tt_iret K dX2_isOpen_21 (by exact b1_f (by first | (simp only [c_1, not_false_eq_true, not_true_eq_false, and_true, true_and, and_false, false_and, and_self, or_true, true_or, or_false, false_or, or_self, if_true, if_false]; done) | grind)) (by first | rfl | (simp [c_1]; done) | (refine congrArg _ ?_; grind [])) rfl
  · skip
    refine tt_iconst (v := nI 1) C dX2_isOpen_16 (by decide) ?_
    refine tt_goto (tgt := 21) C dX2_isOpen_17 (by decide) ?_
    exact tt_iret K dX2_isOpen_21 (by exact b1_t (by first | (simp only [c_1, not_false_eq_true, not_true_eq_false, and_true, true_and, and_false, false_and, and_self, or_true, true_or, or_false, false_or, or_self, if_true, if_false]; done) | grind)) (by first | rfl | (simp [c_1]; done) | (refine congrArg _ ?_; grind [])) rfl

set_option maxHeartbeats 4000000 in
set_option maxRecDepth 100000 in
theorem c_X2_levelNow (E : EN) (u : U3) (r : R1) (h : HB) (i : Nat) (d : Nat) (hi : i < 5) (hd : d < 8) : CT E yX2_levelNow wsX2_levelNow (rmT 1 20) [.ref (eA E i 0), .int (nI d)] (ub u i h) r (some (.int (H_lev h d))) (ub u i h) r := by
  refine CT_ofI (cc := cX2_levelNow) (nL := 4) (own := RX2) (by decide) rfl rfl rfl (Nat.le_of_ble_eq_true rfl) (fun F C K => ?_)
  have hin1 : ∀ w ∈ u_ws RX1 TX1 17, w ∈ wsX2_levelNow := by decide +kernel
  have hin2 : ∀ w ∈ u_ws RX2 TX2 8, w ∈ wsX2_levelNow := by decide +kernel
  refine tt_to (lv1 := [(0, .ref (eA E i 0)), (1, .int (nI d))]) rfl rfl rfl rfl ?_
  refine tt_aload_n C dX2_levelNow_0 rfl 0 rfl ?_
  refine tt_cVI C (c_X2_hour E u r h i hi) gX2_levelNow_X2_hour rfl ⟨rfl, rfl⟩ 0 (by decide +kernel) ⟨Nat.le_of_ble_eq_true rfl, Nat.le_of_ble_eq_true rfl⟩ rfl (oH0 hi) rfl (Nat.le_of_ble_eq_true rfl) dX2_levelNow_1 rfl ?_
  refine tt_istore_n (lv' := [(0, .ref (eA E i 0)), (1, .int (nI d)), (2, .int (rem24 (h 0 0)))]) C dX2_levelNow_4 rfl (by decide) [1, 2, 0] rfl ?_
  refine tt_iload_n C dX2_levelNow_5 rfl 2 rfl ?_
  refine tt_bipush (v := nI 8) C dX2_levelNow_6 (by decide) ?_
  refine tt_icmp_lt C (tgt := 21) dX2_levelNow_8 (by decide) Iff.rfl (fun c_1 => ?_) (fun c_1 => ?_)
  · skip
    refine tt_iconst (v := nI 0) C dX2_levelNow_21 (by decide) ?_
    refine tt_istore_n (lv' := [(0, .ref (eA E i 0)), (1, .int (nI d)), (2, .int (rem24 (h 0 0))), (3, .int (nI 0))]) C dX2_levelNow_22 rfl (by decide) [1, 2, 3, 0] rfl ?_
    refine tt_iload_n C dX2_levelNow_23 rfl 3 rfl ?_
    refine tt_if_eq C (tgt := 39) dX2_levelNow_24 (by decide) (nI_eq0 (by omega)) (fun c_2 => ?_) (fun c_2 => ?_)
    · skip
      refine tt_aload_n C dX2_levelNow_39 rfl 0 rfl ?_
      refine tt_get (v := .ref (eA E i 1)) C (oH0 hi) rfl hin2 0 (by decide) (List.mem_of_getElem? (i := 1) (by decide +kernel)) rfl dX2_levelNow_40 ?_
      refine tt_get (v := .ref (eA E i 5)) C (oH1 hi) rfl hin1 4 (by decide) (List.mem_of_getElem? (i := 3) (by decide +kernel)) rfl dX2_levelNow_43 ?_
      refine tt_iload_n C dX2_levelNow_46 rfl 1 rfl ?_
      refine tt_ialdB (v := h 5 d) C (aH5 hi) d rfl (by omega) rfl dX2_levelNow_47 ?_
      exact tt_iret K dX2_levelNow_48 (by first | rfl | (simp [c_1, c_2, H_lev]; done) | grind [H_lev]) (by first | rfl | (simp [c_1, c_2, H_lev]; done) | (refine congrArg _ ?_; grind [H_lev])) rfl
    · skip
      exact absurd (by decide) c_2
  · skip
    refine tt_iload_n C dX2_levelNow_11 rfl 2 rfl ?_
    refine tt_bipush (v := nI 17) C dX2_levelNow_12 (by decide) ?_
    refine tt_icmp_gt C (tgt := 21) dX2_levelNow_14 (by decide) Iff.rfl (fun c_3 => ?_) (fun c_3 => ?_)
    · skip
      refine tt_iconst (v := nI 0) C dX2_levelNow_21 (by decide) ?_
      refine tt_istore_n (lv' := [(0, .ref (eA E i 0)), (1, .int (nI d)), (2, .int (rem24 (h 0 0))), (3, .int (nI 0))]) C dX2_levelNow_22 rfl (by decide) [1, 2, 3, 0] rfl ?_
      refine tt_iload_n C dX2_levelNow_23 rfl 3 rfl ?_
      refine tt_if_eq C (tgt := 39) dX2_levelNow_24 (by decide) (nI_eq0 (by omega)) (fun c_4 => ?_) (fun c_4 => ?_)
      · skip
        refine tt_aload_n C dX2_levelNow_39 rfl 0 rfl ?_
        refine tt_get (v := .ref (eA E i 1)) C (oH0 hi) rfl hin2 0 (by decide) (List.mem_of_getElem? (i := 1) (by decide +kernel)) rfl dX2_levelNow_40 ?_
        refine tt_get (v := .ref (eA E i 5)) C (oH1 hi) rfl hin1 4 (by decide) (List.mem_of_getElem? (i := 3) (by decide +kernel)) rfl dX2_levelNow_43 ?_
        refine tt_iload_n C dX2_levelNow_46 rfl 1 rfl ?_
        refine tt_ialdB (v := h 5 d) C (aH5 hi) d rfl (by omega) rfl dX2_levelNow_47 ?_
        exact tt_iret K dX2_levelNow_48 (by first | rfl | (simp [c_1, c_3, c_4, H_lev]; done) | grind [H_lev]) (by first | rfl | (simp [c_1, c_3, c_4, H_lev]; done) | (refine congrArg _ ?_; grind [H_lev])) rfl
      · skip
        exact absurd (by decide) c_4
    · skip
      refine tt_iconst (v := nI 1) C dX2_levelNow_17 (by decide) ?_
      refine tt_goto (tgt := 22) C dX2_levelNow_18 (by decide) ?_
      refine tt_istore_n (lv' := [(0, .ref (eA E i 0)), (1, .int (nI d)), (2, .int (rem24 (h 0 0))), (3, .int (nI 1))]) C dX2_levelNow_22 rfl (by decide) [1, 2, 3, 0] rfl ?_
      refine tt_iload_n C dX2_levelNow_23 rfl 3 rfl ?_
      refine tt_if_eq C (tgt := 39) dX2_levelNow_24 (by decide) (nI_eq0 (by omega)) (fun c_5 => ?_) (fun c_5 => ?_)
      · skip
        exact absurd c_5 (by decide)
      · skip
        refine tt_aload_n C dX2_levelNow_27 rfl 0 rfl ?_
        refine tt_get (v := .ref (eA E i 1)) C (oH0 hi) rfl hin2 0 (by decide) (List.mem_of_getElem? (i := 1) (by decide +kernel)) rfl dX2_levelNow_28 ?_
        refine tt_get (v := .ref (eA E i 4)) C (oH1 hi) rfl hin1 3 (by decide) (List.mem_of_getElem? (i := 2) (by decide +kernel)) rfl dX2_levelNow_31 ?_
        refine tt_iload_n C dX2_levelNow_34 rfl 1 rfl ?_
        refine tt_ialdB (v := h 4 d) C (aH4 hi) d rfl (by omega) rfl dX2_levelNow_35 ?_
        refine tt_goto (tgt := 48) C dX2_levelNow_36 (by decide) ?_
        exact tt_iret K dX2_levelNow_48 (by first | rfl | (simp [c_1, c_3, c_5, H_lev]; done) | grind [H_lev]) (by first | rfl | (simp [c_1, c_3, c_5, H_lev]; done) | (refine congrArg _ ?_; grind [H_lev])) rfl

set_option maxHeartbeats 4000000 in
set_option maxRecDepth 100000 in
theorem c_X2_isShut (E : EN) (u : U3) (r : R1) (h : HB) (i : Nat) (d : Nat) (hi : i < 5) (hd : d < 8) (ho : h 8 d = -1 ∨ vI (h 8 d) 8) : CT E yX2_isShut wsX2_isShut (rmT 1 21) [.ref (eA E i 0), .int (nI d)] (ub u i h) r (some (.int (b2i (¬ h 8 d = -1 ∧ h 10 (ix (h 8 d)) = h 0 0)))) (ub u i h) r := by
  refine CT_ofI (cc := cX2_isShut) (nL := 3) (own := RX2) (by decide) rfl rfl (b2i_z _) (Nat.le_of_ble_eq_true rfl) (fun F C K => ?_)
  have hin1 : ∀ w ∈ u_ws RX1 TX1 17, w ∈ wsX2_isShut := by decide +kernel
  have hin2 : ∀ w ∈ u_ws RX2 TX2 8, w ∈ wsX2_isShut := by decide +kernel
  refine tt_to (lv1 := [(0, .ref (eA E i 0)), (1, .int (nI d))]) rfl rfl rfl rfl ?_
  refine tt_aload_n C dX2_isShut_0 rfl 0 rfl ?_
  refine tt_get (v := .ref (eA E i 1)) C (oH0 hi) rfl hin2 0 (by decide) (List.mem_of_getElem? (i := 1) (by decide +kernel)) rfl dX2_isShut_1 ?_
  refine tt_get (v := .ref (eA E i 8)) C (oH1 hi) rfl hin1 7 (by decide) (List.mem_of_getElem? (i := 2) (by decide +kernel)) rfl dX2_isShut_4 ?_
  refine tt_iload_n C dX2_isShut_7 rfl 1 rfl ?_
  refine tt_ialdB (v := h 8 d) C (aH8 hi) d rfl (by omega) rfl dX2_isShut_8 ?_
  refine tt_istore_n (lv' := [(0, .ref (eA E i 0)), (1, .int (nI d)), (2, .int (h 8 d))]) C dX2_isShut_9 rfl (by decide) [1, 2, 0] rfl ?_
  refine tt_iload_n C dX2_isShut_10 rfl 2 rfl ?_
  refine tt_iconst (v := (-1 : Int32)) C dX2_isShut_11 (by decide) ?_
  refine tt_icmp_eq C (tgt := 27) dX2_isShut_12 (by decide) Iff.rfl (fun c_1 => ?_) (fun c_1 => ?_)
  · skip
    refine tt_iconst (v := nI 0) C dX2_isShut_27 (by decide) ?_
    exact tt_iret K dX2_isShut_28 (by exact b1_f (by first | (simp only [c_1, not_false_eq_true, not_true_eq_false, and_true, true_and, and_false, false_and, and_self, or_true, true_or, or_false, false_or, or_self, if_true, if_false]; done) | grind)) (by first | rfl | (simp [c_1]; done) | (refine congrArg _ ?_; grind [])) rfl
  · skip
    refine tt_aload_n C dX2_isShut_15 rfl 0 rfl ?_
    refine tt_iload_n C dX2_isShut_16 rfl 2 rfl ?_
    refine tt_to (st1 := [.int (nI (ix (h 8 d))), .ref (eA E i 0)]) rfl rfl rfl (congrArg (fun z => ([.int z, .ref (eA E i 0)] : List Value)) (ix_eq (ho.resolve_left c_1) (by decide))) ?_
    refine tt_cVI C (c_X2_isOpen E u r h i (ix (h 8 d)) hi (ix_lt (ho.resolve_left c_1) (by decide))) gX2_isShut_X2_isOpen rfl ⟨rfl, rfl⟩ 1 (by decide +kernel) ⟨Nat.le_of_ble_eq_true rfl, Nat.le_of_ble_eq_true rfl⟩ rfl (oH0 hi) rfl (Nat.le_of_ble_eq_true rfl) dX2_isShut_17 rfl ?_
    refine tt_if_eqB C (tgt := 27) dX2_isShut_20 (by decide) (fun c_2 => ?_) (fun c_2 => ?_)
    · skip
      refine tt_iconst (v := nI 0) C dX2_isShut_27 (by decide) ?_
      exact tt_iret K dX2_isShut_28 (by exact b1_f (by first | (simp only [c_1, c_2, not_false_eq_true, not_true_eq_false, and_true, true_and, and_false, false_and, and_self, or_true, true_or, or_false, false_or, or_self, if_true, if_false]; done) | grind)) (by first | rfl | (simp [c_1, c_2]; done) | (refine congrArg _ ?_; grind [])) rfl
    · skip
      refine tt_iconst (v := nI 1) C dX2_isShut_23 (by decide) ?_
      refine tt_goto (tgt := 28) C dX2_isShut_24 (by decide) ?_
      exact tt_iret K dX2_isShut_28 (by exact b1_t (by first | (simp only [c_1, c_2, not_false_eq_true, not_true_eq_false, and_true, true_and, and_false, false_and, and_self, or_true, true_or, or_false, false_or, or_self, if_true, if_false]; done) | grind)) (by first | rfl | (simp [c_1, c_2]; done) | (refine congrArg _ ?_; grind [])) rfl

set_option maxHeartbeats 4000000 in
set_option maxRecDepth 100000 in
theorem c_X2_decideOnline (E : EN) (u : U3) (r : R1) (h : HB) (i : Nat) (b : Nat) (d : Nat) (hi : i < 5) (hb : b < 8) (hd : d < 8) (ho : h 8 d = -1 ∨ vI (h 8 d) 8) : CT E yX2_decideOnline wsX2_decideOnline (rmT 2 43) [.ref (eA E i 0), .int (nI b), .int (nI d)] (ub u i h) r (some (.int (nI (H_on h b d)))) (ub u i h) r := by
  refine CT_ofI (cc := cX2_decideOnline) (nL := 3) (own := RX2) (by decide) rfl rfl rfl (Nat.le_of_ble_eq_true rfl) (fun F C K => ?_)
  have hin0 : ∀ w ∈ u_ws RX0 TX0 7, w ∈ wsX2_decideOnline := by decide +kernel
  have hin1 : ∀ w ∈ u_ws RX1 TX1 17, w ∈ wsX2_decideOnline := by decide +kernel
  have hin2 : ∀ w ∈ u_ws RX2 TX2 8, w ∈ wsX2_decideOnline := by decide +kernel
  refine tt_to (lv1 := [(0, .ref (eA E i 0)), (1, .int (nI b)), (2, .int (nI d))]) rfl rfl rfl rfl ?_
  refine tt_aload_n C dX2_decideOnline_0 rfl 0 rfl ?_
  refine tt_iload_n C dX2_decideOnline_1 rfl 2 rfl ?_
  refine tt_cVI C (c_X2_isShut E u r h i d hi hd ho) gX2_decideOnline_X2_isShut rfl ⟨rfl, rfl⟩ 1 (by decide +kernel) ⟨Nat.le_of_ble_eq_true rfl, Nat.le_of_ble_eq_true rfl⟩ rfl (oH0 hi) rfl (Nat.le_of_ble_eq_true rfl) dX2_decideOnline_2 rfl ?_
  refine tt_if_eqB C (tgt := 10) dX2_decideOnline_5 (by decide) (fun c_1 => ?_) (fun c_1 => ?_)
  · skip
    refine tt_aload_n C dX2_decideOnline_10 rfl 0 rfl ?_
    refine tt_get (v := .ref (eA E i 1)) C (oH0 hi) rfl hin2 0 (by decide) (List.mem_of_getElem? (i := 1) (by decide +kernel)) rfl dX2_decideOnline_11 ?_
    refine tt_get (v := .ref (eA E i 3)) C (oH1 hi) rfl hin1 2 (by decide) (List.mem_of_getElem? (i := 2) (by decide +kernel)) rfl dX2_decideOnline_14 ?_
    refine tt_iload_n C dX2_decideOnline_17 rfl 2 rfl ?_
    refine tt_ialdB (v := h 3 d) C (aH3 hi) d rfl (by omega) rfl dX2_decideOnline_18 ?_
    refine tt_if_ne C (tgt := 24) dX2_decideOnline_19 (by decide) Iff.rfl (fun c_2 => ?_) (fun c_2 => ?_)
    · skip
      refine tt_aload_n C dX2_decideOnline_24 rfl 0 rfl ?_
      refine tt_get (v := .ref (eA E i 18)) C (oH0 hi) rfl hin2 1 (by decide) (List.mem_of_getElem? (i := 3) (by decide +kernel)) rfl dX2_decideOnline_25 ?_
      refine tt_get (v := .ref (eA E i 20)) C (oH18 hi) rfl hin0 2 (by decide) (List.mem_of_getElem? (i := 4) (by decide +kernel)) rfl dX2_decideOnline_28 ?_
      refine tt_iload_n C dX2_decideOnline_31 rfl 1 rfl ?_
      refine tt_ialdB (v := h 20 b) C (aH20 hi) b rfl (by omega) rfl dX2_decideOnline_32 ?_
      refine tt_iconst (v := nI 1) C dX2_decideOnline_33 (by decide) ?_
      refine tt_icmp_ne C (tgt := 39) dX2_decideOnline_34 (by decide) Iff.rfl (fun c_3 => ?_) (fun c_3 => ?_)
      · skip
        refine tt_aload_n C dX2_decideOnline_39 rfl 0 rfl ?_
        refine tt_get (v := .ref (eA E i 18)) C (oH0 hi) rfl hin2 1 (by decide) (List.mem_of_getElem? (i := 3) (by decide +kernel)) rfl dX2_decideOnline_40 ?_
        refine tt_get (v := .ref (eA E i 19)) C (oH18 hi) rfl hin0 1 (by decide) (List.mem_of_getElem? (i := 5) (by decide +kernel)) rfl dX2_decideOnline_43 ?_
        refine tt_iload_n C dX2_decideOnline_46 rfl 1 rfl ?_
        refine tt_ialdB (v := h 19 b) C (aH19 hi) b rfl (by omega) rfl dX2_decideOnline_47 ?_
        refine tt_aload_n C dX2_decideOnline_48 rfl 0 rfl ?_
        refine tt_iload_n C dX2_decideOnline_49 rfl 2 rfl ?_
        refine tt_cVI C (c_X2_levelNow E u r h i d hi hd) gX2_decideOnline_X2_levelNow rfl ⟨rfl, rfl⟩ 1 (by decide +kernel) ⟨Nat.le_of_ble_eq_true rfl, Nat.le_of_ble_eq_true rfl⟩ rfl (oH0 hi) rfl (Nat.le_of_ble_eq_true rfl) dX2_decideOnline_50 rfl ?_
        refine tt_icmp_ge C (tgt := 58) dX2_decideOnline_53 (by decide) Iff.rfl (fun c_4 => ?_) (fun c_4 => ?_)
        · skip
          refine tt_aload_n C dX2_decideOnline_58 rfl 0 rfl ?_
          refine tt_get (v := .ref (eA E i 1)) C (oH0 hi) rfl hin2 0 (by decide) (List.mem_of_getElem? (i := 1) (by decide +kernel)) rfl dX2_decideOnline_59 ?_
          refine tt_get (v := .ref (eA E i 6)) C (oH1 hi) rfl hin1 5 (by decide) (List.mem_of_getElem? (i := 6) (by decide +kernel)) rfl dX2_decideOnline_62 ?_
          refine tt_iload_n C dX2_decideOnline_65 rfl 2 rfl ?_
          refine tt_ialdB (v := h 6 d) C (aH6 hi) d rfl (by omega) rfl dX2_decideOnline_66 ?_
          refine tt_iconst (v := nI 2) C dX2_decideOnline_67 (by decide) ?_
          refine tt_icmp_ne C (tgt := 94) dX2_decideOnline_68 (by decide) Iff.rfl (fun c_5 => ?_) (fun c_5 => ?_)
          · skip
            refine tt_aload_n C dX2_decideOnline_94 rfl 0 rfl ?_
            refine tt_get (v := .ref (eA E i 1)) C (oH0 hi) rfl hin2 0 (by decide) (List.mem_of_getElem? (i := 1) (by decide +kernel)) rfl dX2_decideOnline_95 ?_
            refine tt_get (v := .ref (eA E i 7)) C (oH1 hi) rfl hin1 6 (by decide) (List.mem_of_getElem? (i := 9) (by decide +kernel)) rfl dX2_decideOnline_98 ?_
            refine tt_iload_n C dX2_decideOnline_101 rfl 2 rfl ?_
            refine tt_ialdB (v := h 7 d) C (aH7 hi) d rfl (by omega) rfl dX2_decideOnline_102 ?_
            refine tt_iconst (v := nI 1) C dX2_decideOnline_103 (by decide) ?_
            refine tt_icmp_ne C (tgt := 123) dX2_decideOnline_104 (by decide) Iff.rfl (fun c_6 => ?_) (fun c_6 => ?_)
            · skip
              refine tt_iconst (v := nI 0) C dX2_decideOnline_123 (by decide) ?_
              exact tt_iret K dX2_decideOnline_124 (by first | rfl | (simp [c_1, c_2, c_3, c_4, c_5, c_6, H_on]; done) | grind [H_on]) (by first | rfl | (simp [c_1, c_2, c_3, c_4, c_5, c_6, H_on]; done) | (refine congrArg _ ?_; grind [H_on])) rfl
            · skip
              refine tt_aload_n C dX2_decideOnline_107 rfl 0 rfl ?_
              refine tt_get (v := .ref (eA E i 1)) C (oH0 hi) rfl hin2 0 (by decide) (List.mem_of_getElem? (i := 1) (by decide +kernel)) rfl dX2_decideOnline_108 ?_
              refine tt_iload_n C dX2_decideOnline_111 rfl 2 rfl ?_
              refine tt_iload_n C dX2_decideOnline_112 rfl 1 rfl ?_
              refine tt_cVI C (c_X1_anotherWaits E u r h i d b hi hd) gX2_decideOnline_X1_anotherWaits rfl ⟨rfl, rfl⟩ 2 (by decide +kernel) ⟨Nat.le_of_ble_eq_true rfl, Nat.le_of_ble_eq_true rfl⟩ rfl (oH1 hi) rfl (Nat.le_of_ble_eq_true rfl) dX2_decideOnline_113 rfl ?_
              refine tt_if_neB C (tgt := 123) dX2_decideOnline_116 (by decide) (fun c_7 => ?_) (fun c_7 => ?_)
              · skip
                refine tt_iconst (v := nI 0) C dX2_decideOnline_123 (by decide) ?_
                exact tt_iret K dX2_decideOnline_124 (by first | rfl | (simp [c_1, c_2, c_3, c_4, c_5, c_6, c_7, H_on]; done) | grind [H_on]) (by first | rfl | (simp [c_1, c_2, c_3, c_4, c_5, c_6, c_7, H_on]; done) | (refine congrArg _ ?_; grind [H_on])) rfl
              · skip
                refine tt_iconst (v := nI 5) C dX2_decideOnline_119 (by decide) ?_
                refine tt_goto (tgt := 124) C dX2_decideOnline_120 (by decide) ?_
                exact tt_iret K dX2_decideOnline_124 (by first | rfl | (simp [c_1, c_2, c_3, c_4, c_5, c_6, c_7, H_on]; done) | grind [H_on]) (by first | rfl | (simp [c_1, c_2, c_3, c_4, c_5, c_6, c_7, H_on]; done) | (refine congrArg _ ?_; grind [H_on])) rfl
          · skip
            refine tt_aload_n C dX2_decideOnline_71 rfl 0 rfl ?_
            refine tt_get (v := .ref (eA E i 18)) C (oH0 hi) rfl hin2 1 (by decide) (List.mem_of_getElem? (i := 3) (by decide +kernel)) rfl dX2_decideOnline_72 ?_
            refine tt_get (v := .ref (eA E i 21)) C (oH18 hi) rfl hin0 3 (by decide) (List.mem_of_getElem? (i := 7) (by decide +kernel)) rfl dX2_decideOnline_75 ?_
            refine tt_iload_n C dX2_decideOnline_78 rfl 1 rfl ?_
            refine tt_ialdB (v := h 21 b) C (aH21 hi) b rfl (by omega) rfl dX2_decideOnline_79 ?_
            refine tt_aload_n C dX2_decideOnline_80 rfl 0 rfl ?_
            refine tt_get (v := .ref (eA E i 1)) C (oH0 hi) rfl hin2 0 (by decide) (List.mem_of_getElem? (i := 1) (by decide +kernel)) rfl dX2_decideOnline_81 ?_
            refine tt_get (v := .ref (eA E i 2)) C (oH1 hi) rfl hin1 1 (by decide) (List.mem_of_getElem? (i := 8) (by decide +kernel)) rfl dX2_decideOnline_84 ?_
            refine tt_iload_n C dX2_decideOnline_87 rfl 2 rfl ?_
            refine tt_ialdB (v := h 2 d) C (aH2 hi) d rfl (by omega) rfl dX2_decideOnline_88 ?_
            refine tt_icmp_eq C (tgt := 94) dX2_decideOnline_89 (by decide) Iff.rfl (fun c_8 => ?_) (fun c_8 => ?_)
            · skip
              refine tt_aload_n C dX2_decideOnline_94 rfl 0 rfl ?_
              refine tt_get (v := .ref (eA E i 1)) C (oH0 hi) rfl hin2 0 (by decide) (List.mem_of_getElem? (i := 1) (by decide +kernel)) rfl dX2_decideOnline_95 ?_
              refine tt_get (v := .ref (eA E i 7)) C (oH1 hi) rfl hin1 6 (by decide) (List.mem_of_getElem? (i := 9) (by decide +kernel)) rfl dX2_decideOnline_98 ?_
              refine tt_iload_n C dX2_decideOnline_101 rfl 2 rfl ?_
              refine tt_ialdB (v := h 7 d) C (aH7 hi) d rfl (by omega) rfl dX2_decideOnline_102 ?_
              refine tt_iconst (v := nI 1) C dX2_decideOnline_103 (by decide) ?_
              refine tt_icmp_ne C (tgt := 123) dX2_decideOnline_104 (by decide) Iff.rfl (fun c_9 => ?_) (fun c_9 => ?_)
              · skip
                refine tt_iconst (v := nI 0) C dX2_decideOnline_123 (by decide) ?_
                exact tt_iret K dX2_decideOnline_124 (by first | rfl | (simp [c_1, c_2, c_3, c_4, c_5, c_8, c_9, H_on]; done) | grind [H_on]) (by first | rfl | (simp [c_1, c_2, c_3, c_4, c_5, c_8, c_9, H_on]; done) | (refine congrArg _ ?_; grind [H_on])) rfl
              · skip
                refine tt_aload_n C dX2_decideOnline_107 rfl 0 rfl ?_
                refine tt_get (v := .ref (eA E i 1)) C (oH0 hi) rfl hin2 0 (by decide) (List.mem_of_getElem? (i := 1) (by decide +kernel)) rfl dX2_decideOnline_108 ?_
                refine tt_iload_n C dX2_decideOnline_111 rfl 2 rfl ?_
                refine tt_iload_n C dX2_decideOnline_112 rfl 1 rfl ?_
                refine tt_cVI C (c_X1_anotherWaits E u r h i d b hi hd) gX2_decideOnline_X1_anotherWaits rfl ⟨rfl, rfl⟩ 2 (by decide +kernel) ⟨Nat.le_of_ble_eq_true rfl, Nat.le_of_ble_eq_true rfl⟩ rfl (oH1 hi) rfl (Nat.le_of_ble_eq_true rfl) dX2_decideOnline_113 rfl ?_
                refine tt_if_neB C (tgt := 123) dX2_decideOnline_116 (by decide) (fun c_10 => ?_) (fun c_10 => ?_)
                · skip
                  refine tt_iconst (v := nI 0) C dX2_decideOnline_123 (by decide) ?_
                  exact tt_iret K dX2_decideOnline_124 (by first | rfl | (simp [c_1, c_2, c_3, c_4, c_5, c_8, c_9, c_10, H_on]; done) | grind [H_on]) (by first | rfl | (simp [c_1, c_2, c_3, c_4, c_5, c_8, c_9, c_10, H_on]; done) | (refine congrArg _ ?_; grind [H_on])) rfl
                · skip
                  refine tt_iconst (v := nI 5) C dX2_decideOnline_119 (by decide) ?_
                  refine tt_goto (tgt := 124) C dX2_decideOnline_120 (by decide) ?_
                  exact tt_iret K dX2_decideOnline_124 (by first | rfl | (simp [c_1, c_2, c_3, c_4, c_5, c_8, c_9, c_10, H_on]; done) | grind [H_on]) (by first | rfl | (simp [c_1, c_2, c_3, c_4, c_5, c_8, c_9, c_10, H_on]; done) | (refine congrArg _ ?_; grind [H_on])) rfl
            · skip
              refine tt_iconst (v := nI 4) C dX2_decideOnline_92 (by decide) ?_
              exact tt_iret K dX2_decideOnline_93 (by first | rfl | (simp [c_1, c_2, c_3, c_4, c_5, c_8, H_on]; done) | grind [H_on]) (by first | rfl | (simp [c_1, c_2, c_3, c_4, c_5, c_8, H_on]; done) | (refine congrArg _ ?_; grind [H_on])) rfl
        · skip
          refine tt_iconst (v := nI 3) C dX2_decideOnline_56 (by decide) ?_
          exact tt_iret K dX2_decideOnline_57 (by first | rfl | (simp [c_1, c_2, c_3, c_4, H_on]; done) | grind [H_on]) (by first | rfl | (simp [c_1, c_2, c_3, c_4, H_on]; done) | (refine congrArg _ ?_; grind [H_on])) rfl
      · skip
        refine tt_iconst (v := nI 2) C dX2_decideOnline_37 (by decide) ?_
        exact tt_iret K dX2_decideOnline_38 (by first | rfl | (simp [c_1, c_2, c_3, H_on]; done) | grind [H_on]) (by first | rfl | (simp [c_1, c_2, c_3, H_on]; done) | (refine congrArg _ ?_; grind [H_on])) rfl
    · skip
      refine tt_iconst (v := nI 0) C dX2_decideOnline_22 (by decide) ?_
      exact tt_iret K dX2_decideOnline_23 (by first | rfl | (simp [c_1, c_2, H_on]; done) | grind [H_on]) (by first | rfl | (simp [c_1, c_2, H_on]; done) | (refine congrArg _ ?_; grind [H_on])) rfl
  · skip
    refine tt_iconst (v := nI 1) C dX2_decideOnline_8 (by decide) ?_
    exact tt_iret K dX2_decideOnline_9 (by first | rfl | (simp [c_1, H_on]; done) | grind [H_on]) (by first | rfl | (simp [c_1, H_on]; done) | (refine congrArg _ ?_; grind [H_on])) rfl

set_option maxHeartbeats 4000000 in
set_option maxRecDepth 100000 in
theorem c_X2_decideOffline (E : EN) (u : U3) (r : R1) (h : HB) (i : Nat) (b : Nat) (d : Nat) (hi : i < 5) (hb : b < 8) (hd : d < 8) (ho : h 8 d = -1 ∨ vI (h 8 d) 8) : CT E yX2_decideOffline wsX2_decideOffline (rmT 2 43) [.ref (eA E i 0), .int (nI b), .int (nI d)] (ub u i h) r (some (.int (nI (H_off h b d)))) (ub u i h) r := by
  refine CT_ofI (cc := cX2_decideOffline) (nL := 3) (own := RX2) (by decide) rfl rfl rfl (Nat.le_of_ble_eq_true rfl) (fun F C K => ?_)
  have hin1 : ∀ w ∈ u_ws RX1 TX1 17, w ∈ wsX2_decideOffline := by decide +kernel
  have hin2 : ∀ w ∈ u_ws RX2 TX2 8, w ∈ wsX2_decideOffline := by decide +kernel
  refine tt_to (lv1 := [(0, .ref (eA E i 0)), (1, .int (nI b)), (2, .int (nI d))]) rfl rfl rfl rfl ?_
  refine tt_aload_n C dX2_decideOffline_0 rfl 0 rfl ?_
  refine tt_iload_n C dX2_decideOffline_1 rfl 2 rfl ?_
  refine tt_cVI C (c_X2_isShut E u r h i d hi hd ho) gX2_decideOffline_X2_isShut rfl ⟨rfl, rfl⟩ 1 (by decide +kernel) ⟨Nat.le_of_ble_eq_true rfl, Nat.le_of_ble_eq_true rfl⟩ rfl (oH0 hi) rfl (Nat.le_of_ble_eq_true rfl) dX2_decideOffline_2 rfl ?_
  refine tt_if_eqB C (tgt := 10) dX2_decideOffline_5 (by decide) (fun c_1 => ?_) (fun c_1 => ?_)
  · skip
    refine tt_aload_n C dX2_decideOffline_10 rfl 0 rfl ?_
    refine tt_get (v := .ref (eA E i 1)) C (oH0 hi) rfl hin2 0 (by decide) (List.mem_of_getElem? (i := 1) (by decide +kernel)) rfl dX2_decideOffline_11 ?_
    refine tt_get (v := .ref (eA E i 3)) C (oH1 hi) rfl hin1 2 (by decide) (List.mem_of_getElem? (i := 2) (by decide +kernel)) rfl dX2_decideOffline_14 ?_
    refine tt_iload_n C dX2_decideOffline_17 rfl 2 rfl ?_
    refine tt_ialdB (v := h 3 d) C (aH3 hi) d rfl (by omega) rfl dX2_decideOffline_18 ?_
    refine tt_if_ne C (tgt := 24) dX2_decideOffline_19 (by decide) Iff.rfl (fun c_2 => ?_) (fun c_2 => ?_)
    · skip
      refine tt_aload_n C dX2_decideOffline_24 rfl 0 rfl ?_
      refine tt_get (v := .ref (eA E i 1)) C (oH0 hi) rfl hin2 0 (by decide) (List.mem_of_getElem? (i := 1) (by decide +kernel)) rfl dX2_decideOffline_25 ?_
      refine tt_iload_n C dX2_decideOffline_28 rfl 2 rfl ?_
      refine tt_iload_n C dX2_decideOffline_29 rfl 1 rfl ?_
      refine tt_cVI C (c_X1_isBarredByCopy E u r h i d b hi hd hb) gX2_decideOffline_X1_isBarredByCopy rfl ⟨rfl, rfl⟩ 2 (by decide +kernel) ⟨Nat.le_of_ble_eq_true rfl, Nat.le_of_ble_eq_true rfl⟩ rfl (oH1 hi) rfl (Nat.le_of_ble_eq_true rfl) dX2_decideOffline_30 rfl ?_
      refine tt_if_eqB C (tgt := 38) dX2_decideOffline_33 (by decide) (fun c_3 => ?_) (fun c_3 => ?_)
      · skip
        refine tt_aload_n C dX2_decideOffline_38 rfl 0 rfl ?_
        refine tt_get (v := .ref (eA E i 1)) C (oH0 hi) rfl hin2 0 (by decide) (List.mem_of_getElem? (i := 1) (by decide +kernel)) rfl dX2_decideOffline_39 ?_
        refine tt_iload_n C dX2_decideOffline_42 rfl 2 rfl ?_
        refine tt_iload_n C dX2_decideOffline_43 rfl 1 rfl ?_
        refine tt_cVI C (c_X1_levelByCopy E u r h i d b hi hd hb) gX2_decideOffline_X1_levelByCopy rfl ⟨rfl, rfl⟩ 2 (by decide +kernel) ⟨Nat.le_of_ble_eq_true rfl, Nat.le_of_ble_eq_true rfl⟩ rfl (oH1 hi) rfl (Nat.le_of_ble_eq_true rfl) dX2_decideOffline_44 rfl ?_
        refine tt_aload_n C dX2_decideOffline_47 rfl 0 rfl ?_
        refine tt_iload_n C dX2_decideOffline_48 rfl 2 rfl ?_
        refine tt_cVI C (c_X2_levelNow E u r h i d hi hd) gX2_decideOffline_X2_levelNow rfl ⟨rfl, rfl⟩ 1 (by decide +kernel) ⟨Nat.le_of_ble_eq_true rfl, Nat.le_of_ble_eq_true rfl⟩ rfl (oH0 hi) rfl (Nat.le_of_ble_eq_true rfl) dX2_decideOffline_49 rfl ?_
        refine tt_icmp_ge C (tgt := 59) dX2_decideOffline_52 (by decide) Iff.rfl (fun c_4 => ?_) (fun c_4 => ?_)
        · skip
          refine tt_iconst (v := nI 0) C dX2_decideOffline_59 (by decide) ?_
          exact tt_iret K dX2_decideOffline_60 (by first | rfl | (simp [c_1, c_2, c_3, c_4, H_off]; done) | grind [H_off]) (by first | rfl | (simp [c_1, c_2, c_3, c_4, H_off]; done) | (refine congrArg _ ?_; grind [H_off])) rfl
        · skip
          refine tt_iconst (v := nI 3) C dX2_decideOffline_55 (by decide) ?_
          refine tt_goto (tgt := 60) C dX2_decideOffline_56 (by decide) ?_
          exact tt_iret K dX2_decideOffline_60 (by first | rfl | (simp [c_1, c_2, c_3, c_4, H_off]; done) | grind [H_off]) (by first | rfl | (simp [c_1, c_2, c_3, c_4, H_off]; done) | (refine congrArg _ ?_; grind [H_off])) rfl
      · skip
        refine tt_iconst (v := nI 2) C dX2_decideOffline_36 (by decide) ?_
        exact tt_iret K dX2_decideOffline_37 (by first | rfl | (simp [c_1, c_2, c_3, H_off]; done) | grind [H_off]) (by first | rfl | (simp [c_1, c_2, c_3, H_off]; done) | (refine congrArg _ ?_; grind [H_off])) rfl
    · skip
      refine tt_iconst (v := nI 0) C dX2_decideOffline_22 (by decide) ?_
      exact tt_iret K dX2_decideOffline_23 (by first | rfl | (simp [c_1, c_2, H_off]; done) | grind [H_off]) (by first | rfl | (simp [c_1, c_2, H_off]; done) | (refine congrArg _ ?_; grind [H_off])) rfl
  · skip
    refine tt_iconst (v := nI 1) C dX2_decideOffline_8 (by decide) ?_
    exact tt_iret K dX2_decideOffline_9 (by first | rfl | (simp [c_1, H_off]; done) | grind [H_off]) (by first | rfl | (simp [c_1, H_off]; done) | (refine congrArg _ ?_; grind [H_off])) rfl

set_option maxHeartbeats 4000000 in
set_option maxRecDepth 100000 in
theorem c_X2_couldPass (E : EN) (u : U3) (r : R1) (h : HB) (i : Nat) (b : Nat) (d : Nat) (hi : i < 5) (hb : b < 8) (hd : d < 8) : CT E yX2_couldPass wsX2_couldPass (rmT 2 43) [.ref (eA E i 0), .int (nI b), .int (nI d)] (ub u i h) r (some (.int (b2i (h 3 d = 0 ∨ (h 20 b = 0 ∧ ¬ h 19 b < H_lev h d))))) (ub u i h) r := by
  refine CT_ofI (cc := cX2_couldPass) (nL := 3) (own := RX2) (by decide) rfl rfl (b2i_z _) (Nat.le_of_ble_eq_true rfl) (fun F C K => ?_)
  have hin0 : ∀ w ∈ u_ws RX0 TX0 7, w ∈ wsX2_couldPass := by decide +kernel
  have hin1 : ∀ w ∈ u_ws RX1 TX1 17, w ∈ wsX2_couldPass := by decide +kernel
  have hin2 : ∀ w ∈ u_ws RX2 TX2 8, w ∈ wsX2_couldPass := by decide +kernel
  refine tt_to (lv1 := [(0, .ref (eA E i 0)), (1, .int (nI b)), (2, .int (nI d))]) rfl rfl rfl rfl ?_
  refine tt_aload_n C dX2_couldPass_0 rfl 0 rfl ?_
  refine tt_get (v := .ref (eA E i 1)) C (oH0 hi) rfl hin2 0 (by decide) (List.mem_of_getElem? (i := 1) (by decide +kernel)) rfl dX2_couldPass_1 ?_
  refine tt_get (v := .ref (eA E i 3)) C (oH1 hi) rfl hin1 2 (by decide) (List.mem_of_getElem? (i := 2) (by decide +kernel)) rfl dX2_couldPass_4 ?_
  refine tt_iload_n C dX2_couldPass_7 rfl 2 rfl ?_
  refine tt_ialdB (v := h 3 d) C (aH3 hi) d rfl (by omega) rfl dX2_couldPass_8 ?_
  refine tt_if_ne C (tgt := 14) dX2_couldPass_9 (by decide) Iff.rfl (fun c_1 => ?_) (fun c_1 => ?_)
  · skip
    refine tt_aload_n C dX2_couldPass_14 rfl 0 rfl ?_
    refine tt_get (v := .ref (eA E i 18)) C (oH0 hi) rfl hin2 1 (by decide) (List.mem_of_getElem? (i := 3) (by decide +kernel)) rfl dX2_couldPass_15 ?_
    refine tt_get (v := .ref (eA E i 20)) C (oH18 hi) rfl hin0 2 (by decide) (List.mem_of_getElem? (i := 4) (by decide +kernel)) rfl dX2_couldPass_18 ?_
    refine tt_iload_n C dX2_couldPass_21 rfl 1 rfl ?_
    refine tt_ialdB (v := h 20 b) C (aH20 hi) b rfl (by omega) rfl dX2_couldPass_22 ?_
    refine tt_if_ne C (tgt := 47) dX2_couldPass_23 (by decide) Iff.rfl (fun c_2 => ?_) (fun c_2 => ?_)
    · skip
      refine tt_iconst (v := nI 0) C dX2_couldPass_47 (by decide) ?_
      exact tt_iret K dX2_couldPass_48 (by exact b1_f (by first | (simp only [c_1, c_2, not_false_eq_true, not_true_eq_false, and_true, true_and, and_false, false_and, and_self, or_true, true_or, or_false, false_or, or_self, if_true, if_false]; done) | grind)) (by first | rfl | (simp [c_1, c_2]; done) | (refine congrArg _ ?_; grind [])) rfl
    · skip
      refine tt_aload_n C dX2_couldPass_26 rfl 0 rfl ?_
      refine tt_get (v := .ref (eA E i 18)) C (oH0 hi) rfl hin2 1 (by decide) (List.mem_of_getElem? (i := 3) (by decide +kernel)) rfl dX2_couldPass_27 ?_
      refine tt_get (v := .ref (eA E i 19)) C (oH18 hi) rfl hin0 1 (by decide) (List.mem_of_getElem? (i := 5) (by decide +kernel)) rfl dX2_couldPass_30 ?_
      refine tt_iload_n C dX2_couldPass_33 rfl 1 rfl ?_
      refine tt_ialdB (v := h 19 b) C (aH19 hi) b rfl (by omega) rfl dX2_couldPass_34 ?_
      refine tt_aload_n C dX2_couldPass_35 rfl 0 rfl ?_
      refine tt_iload_n C dX2_couldPass_36 rfl 2 rfl ?_
      refine tt_cVI C (c_X2_levelNow E u r h i d hi hd) gX2_couldPass_X2_levelNow rfl ⟨rfl, rfl⟩ 1 (by decide +kernel) ⟨Nat.le_of_ble_eq_true rfl, Nat.le_of_ble_eq_true rfl⟩ rfl (oH0 hi) rfl (Nat.le_of_ble_eq_true rfl) dX2_couldPass_37 rfl ?_
      refine tt_icmp_lt C (tgt := 47) dX2_couldPass_40 (by decide) Iff.rfl (fun c_3 => ?_) (fun c_3 => ?_)
      · skip
        refine tt_iconst (v := nI 0) C dX2_couldPass_47 (by decide) ?_
        exact tt_iret K dX2_couldPass_48 (by exact b1_f (by first | (simp only [c_1, c_2, c_3, not_false_eq_true, not_true_eq_false, and_true, true_and, and_false, false_and, and_self, or_true, true_or, or_false, false_or, or_self, if_true, if_false]; done) | grind)) (by first | rfl | (simp [c_1, c_2, c_3]; done) | (refine congrArg _ ?_; grind [])) rfl
      · skip
        refine tt_iconst (v := nI 1) C dX2_couldPass_43 (by decide) ?_
        refine tt_goto (tgt := 48) C dX2_couldPass_44 (by decide) ?_
        exact tt_iret K dX2_couldPass_48 (by exact b1_t (by first | (simp only [c_1, c_2, c_3, not_false_eq_true, not_true_eq_false, and_true, true_and, and_false, false_and, and_self, or_true, true_or, or_false, false_or, or_self, if_true, if_false]; done) | grind)) (by first | rfl | (simp [c_1, c_2, c_3]; done) | (refine congrArg _ ?_; grind [])) rfl
  · skip
    refine tt_iconst (v := nI 1) C dX2_couldPass_12 (by decide) ?_
    exact tt_iret K dX2_couldPass_13 (by exact b1_t (by first | (simp only [c_1, not_false_eq_true, not_true_eq_false, and_true, true_and, and_false, false_and, and_self, or_true, true_or, or_false, false_or, or_self, if_true, if_false]; done) | grind)) (by first | rfl | (simp [c_1]; done) | (refine congrArg _ ?_; grind [])) rfl

def H_alarm (h : HB) (b : Nat) : HB := up2 (up2 h 0 3 (h 0 3 + nI 1)) 23 b (h 23 b + nI 1)
theorem H_alarm_n {h : HB} {b k j : Nat} (hk : ¬ (k = 0 ∧ j = 3) ∧ k ≠ 23) : H_alarm h b k j = h k j := by unfold H_alarm; simp [up2, hk.1, hk.2]
set_option maxHeartbeats 4000000 in
set_option maxRecDepth 100000 in
theorem c_X2_raiseAlarm (E : EN) (u : U3) (r : R1) (h : HB) (i : Nat) (b : Nat) (hi : i < 5) (hb : b < 8) : CT E yX2_raiseAlarm wsX2_raiseAlarm (rmT 0 0) [.ref (eA E i 0), .int (nI b)] (ub u i h) r none (ub u i (H_alarm h b)) r := by
  refine CT_ofV (cc := cX2_raiseAlarm) (nL := 2) (own := RX2) (by decide) rfl rfl (Nat.le_of_ble_eq_true rfl) (fun F C K => ?_)
  have hin0 : ∀ w ∈ u_ws RX0 TX0 7, w ∈ wsX2_raiseAlarm := by decide +kernel
  have hin2 : ∀ w ∈ u_ws RX2 TX2 8, w ∈ wsX2_raiseAlarm := by decide +kernel
  refine tt_to (lv1 := [(0, .ref (eA E i 0)), (1, .int (nI b))]) rfl rfl rfl rfl ?_
  refine tt_aload_n C dX2_raiseAlarm_0 rfl 0 rfl ?_
  refine tt_dup C dX2_raiseAlarm_1 rfl ?_
  refine tt_getI (v := h 0 3) C (oH0 hi) rfl hin2 7 (by decide) (List.mem_of_getElem? (i := 1) (by decide +kernel)) rfl (ub_v.trans rfl) dX2_raiseAlarm_2 ?_
  refine tt_iconst (v := nI 1) C dX2_raiseAlarm_5 (by decide) ?_
  refine tt_iadd C dX2_raiseAlarm_6 rfl ?_
  refine tt_putIB C (fH0_3 hi) rfl hin2 tyX2 tyX2_ok nmX2 (by decide) (List.mem_of_getElem? (i := 1) (by decide +kernel)) (by decide +kernel) (by decide +kernel) dX2_raiseAlarm_7 ?_
  generalize e_2 : up2 h 0 3 ((h 0 3) + (nI 1)) = h_1
  refine tt_aload_n C dX2_raiseAlarm_10 rfl 0 rfl ?_
  refine tt_get (v := .ref (eA E i 18)) C (oH0 hi) rfl hin2 1 (by decide) (List.mem_of_getElem? (i := 2) (by decide +kernel)) rfl dX2_raiseAlarm_11 ?_
  refine tt_get (v := .ref (eA E i 23)) C (oH18 hi) rfl hin0 5 (by decide) (List.mem_of_getElem? (i := 3) (by decide +kernel)) rfl dX2_raiseAlarm_14 ?_
  refine tt_iload_n C dX2_raiseAlarm_17 rfl 1 rfl ?_
  refine tt_dup2 C dX2_raiseAlarm_18 rfl rfl ?_
  refine tt_ialdB (v := h 23 b) C (aH23 hi) b rfl (by omega) (by rw [← e_2, up2_n (fun z => absurd z.1 (by decide))]) dX2_raiseAlarm_19 ?_
  refine tt_iconst (v := nI 1) C dX2_raiseAlarm_20 (by decide) ?_
  refine tt_iadd C dX2_raiseAlarm_21 rfl ?_
  refine tt_iastB C (aH23 hi) b rfl (by omega) dX2_raiseAlarm_22 ?_
  generalize e_4 : up2 h_1 23 b ((h 23 b) + (nI 1)) = h_3
  exact tt_vret K dX2_raiseAlarm_23 (by subst e_4; subst e_2; first | rfl | (simp [H_alarm]; done) | (refine congrArg _ ?_; grind [H_alarm])) rfl

def H_move (h : HB) (b d : Nat) (w : Int32) : HB := up2 (up2 (if ¬ h 6 d = 0 ∧ ¬ h 21 b = h 2 d then up2 h 0 1 (h 0 1 + nI 1) else h) 21 b (h 3 d)) 22 b w
theorem H_move_n {h : HB} {b d : Nat} {w : Int32} {k j : Nat} (hk : ¬ (k = 0 ∧ j = 1) ∧ k ≠ 21 ∧ k ≠ 22) : H_move h b d w k j = h k j := by unfold H_move; split <;> simp [up2, hk.1, hk.2.1, hk.2.2]
set_option maxHeartbeats 4000000 in
set_option maxRecDepth 100000 in
theorem c_X2_move (E : EN) (u : U3) (r : R1) (h : HB) (i : Nat) (b : Nat) (d : Nat) (w : Int32) (hi : i < 5) (hb : b < 8) (hd : d < 8) : CT E yX2_move wsX2_move (rmT 0 0) [.ref (eA E i 0), .int (nI b), .int (nI d), .int w] (ub u i h) r none (ub u i (H_move h b d w)) r := by
  refine CT_ofV (cc := cX2_move) (nL := 4) (own := RX2) (by decide) rfl rfl (Nat.le_of_ble_eq_true rfl) (fun F C K => ?_)
  have hin0 : ∀ w ∈ u_ws RX0 TX0 7, w ∈ wsX2_move := by decide +kernel
  have hin1 : ∀ w ∈ u_ws RX1 TX1 17, w ∈ wsX2_move := by decide +kernel
  have hin2 : ∀ w ∈ u_ws RX2 TX2 8, w ∈ wsX2_move := by decide +kernel
  refine tt_to (lv1 := [(0, .ref (eA E i 0)), (1, .int (nI b)), (2, .int (nI d)), (3, .int w)]) rfl rfl rfl rfl ?_
  refine tt_aload_n C dX2_move_0 rfl 0 rfl ?_
  refine tt_get (v := .ref (eA E i 1)) C (oH0 hi) rfl hin2 0 (by decide) (List.mem_of_getElem? (i := 1) (by decide +kernel)) rfl dX2_move_1 ?_
  refine tt_get (v := .ref (eA E i 6)) C (oH1 hi) rfl hin1 5 (by decide) (List.mem_of_getElem? (i := 2) (by decide +kernel)) rfl dX2_move_4 ?_
  refine tt_iload_n C dX2_move_7 rfl 2 rfl ?_
  refine tt_ialdB (v := h 6 d) C (aH6 hi) d rfl (by omega) rfl dX2_move_8 ?_
  refine tt_if_eq C (tgt := 43) dX2_move_9 (by decide) Iff.rfl (fun c_1 => ?_) (fun c_1 => ?_)
  · skip
    refine tt_aload_n C dX2_move_43 rfl 0 rfl ?_
    refine tt_get (v := .ref (eA E i 18)) C (oH0 hi) rfl hin2 1 (by decide) (List.mem_of_getElem? (i := 3) (by decide +kernel)) rfl dX2_move_44 ?_
    refine tt_get (v := .ref (eA E i 21)) C (oH18 hi) rfl hin0 3 (by decide) (List.mem_of_getElem? (i := 4) (by decide +kernel)) rfl dX2_move_47 ?_
    refine tt_iload_n C dX2_move_50 rfl 1 rfl ?_
    refine tt_aload_n C dX2_move_51 rfl 0 rfl ?_
    refine tt_get (v := .ref (eA E i 1)) C (oH0 hi) rfl hin2 0 (by decide) (List.mem_of_getElem? (i := 1) (by decide +kernel)) rfl dX2_move_52 ?_
    refine tt_get (v := .ref (eA E i 3)) C (oH1 hi) rfl hin1 2 (by decide) (List.mem_of_getElem? (i := 7) (by decide +kernel)) rfl dX2_move_55 ?_
    refine tt_iload_n C dX2_move_58 rfl 2 rfl ?_
    refine tt_ialdB (v := h 3 d) C (aH3 hi) d rfl (by omega) rfl dX2_move_59 ?_
    refine tt_iastB C (aH21 hi) b rfl (by omega) dX2_move_60 ?_
    generalize e_3 : up2 h 21 b (h 3 d) = h_2
    refine tt_aload_n C dX2_move_61 rfl 0 rfl ?_
    refine tt_get (v := .ref (eA E i 18)) C (oH0 hi) rfl hin2 1 (by decide) (List.mem_of_getElem? (i := 3) (by decide +kernel)) rfl dX2_move_62 ?_
    refine tt_get (v := .ref (eA E i 22)) C (oH18 hi) rfl hin0 4 (by decide) (List.mem_of_getElem? (i := 8) (by decide +kernel)) rfl dX2_move_65 ?_
    refine tt_iload_n C dX2_move_68 rfl 1 rfl ?_
    refine tt_iload_n C dX2_move_69 rfl 3 rfl ?_
    refine tt_iastB C (aH22 hi) b rfl (by omega) dX2_move_70 ?_
    generalize e_5 : up2 h_2 22 b w = h_4
    exact tt_vret K dX2_move_71 (by subst e_5; subst e_3; first | rfl | (simp [c_1, H_move]; done) | (refine congrArg _ ?_; grind [H_move])) rfl
  · skip
    refine tt_aload_n C dX2_move_12 rfl 0 rfl ?_
    refine tt_get (v := .ref (eA E i 18)) C (oH0 hi) rfl hin2 1 (by decide) (List.mem_of_getElem? (i := 3) (by decide +kernel)) rfl dX2_move_13 ?_
    refine tt_get (v := .ref (eA E i 21)) C (oH18 hi) rfl hin0 3 (by decide) (List.mem_of_getElem? (i := 4) (by decide +kernel)) rfl dX2_move_16 ?_
    refine tt_iload_n C dX2_move_19 rfl 1 rfl ?_
    refine tt_ialdB (v := h 21 b) C (aH21 hi) b rfl (by omega) rfl dX2_move_20 ?_
    refine tt_aload_n C dX2_move_21 rfl 0 rfl ?_
    refine tt_get (v := .ref (eA E i 1)) C (oH0 hi) rfl hin2 0 (by decide) (List.mem_of_getElem? (i := 1) (by decide +kernel)) rfl dX2_move_22 ?_
    refine tt_get (v := .ref (eA E i 2)) C (oH1 hi) rfl hin1 1 (by decide) (List.mem_of_getElem? (i := 5) (by decide +kernel)) rfl dX2_move_25 ?_
    refine tt_iload_n C dX2_move_28 rfl 2 rfl ?_
    refine tt_ialdB (v := h 2 d) C (aH2 hi) d rfl (by omega) rfl dX2_move_29 ?_
    refine tt_icmp_eq C (tgt := 43) dX2_move_30 (by decide) Iff.rfl (fun c_6 => ?_) (fun c_6 => ?_)
    · skip
      refine tt_aload_n C dX2_move_43 rfl 0 rfl ?_
      refine tt_get (v := .ref (eA E i 18)) C (oH0 hi) rfl hin2 1 (by decide) (List.mem_of_getElem? (i := 3) (by decide +kernel)) rfl dX2_move_44 ?_
      refine tt_get (v := .ref (eA E i 21)) C (oH18 hi) rfl hin0 3 (by decide) (List.mem_of_getElem? (i := 4) (by decide +kernel)) rfl dX2_move_47 ?_
      refine tt_iload_n C dX2_move_50 rfl 1 rfl ?_
      refine tt_aload_n C dX2_move_51 rfl 0 rfl ?_
      refine tt_get (v := .ref (eA E i 1)) C (oH0 hi) rfl hin2 0 (by decide) (List.mem_of_getElem? (i := 1) (by decide +kernel)) rfl dX2_move_52 ?_
      refine tt_get (v := .ref (eA E i 3)) C (oH1 hi) rfl hin1 2 (by decide) (List.mem_of_getElem? (i := 7) (by decide +kernel)) rfl dX2_move_55 ?_
      refine tt_iload_n C dX2_move_58 rfl 2 rfl ?_
      refine tt_ialdB (v := h 3 d) C (aH3 hi) d rfl (by omega) rfl dX2_move_59 ?_
      refine tt_iastB C (aH21 hi) b rfl (by omega) dX2_move_60 ?_
      generalize e_8 : up2 h 21 b (h 3 d) = h_7
      refine tt_aload_n C dX2_move_61 rfl 0 rfl ?_
      refine tt_get (v := .ref (eA E i 18)) C (oH0 hi) rfl hin2 1 (by decide) (List.mem_of_getElem? (i := 3) (by decide +kernel)) rfl dX2_move_62 ?_
      refine tt_get (v := .ref (eA E i 22)) C (oH18 hi) rfl hin0 4 (by decide) (List.mem_of_getElem? (i := 8) (by decide +kernel)) rfl dX2_move_65 ?_
      refine tt_iload_n C dX2_move_68 rfl 1 rfl ?_
      refine tt_iload_n C dX2_move_69 rfl 3 rfl ?_
      refine tt_iastB C (aH22 hi) b rfl (by omega) dX2_move_70 ?_
      generalize e_10 : up2 h_7 22 b w = h_9
      exact tt_vret K dX2_move_71 (by subst e_10; subst e_8; first | rfl | (simp [c_1, c_6, H_move]; done) | (refine congrArg _ ?_; grind [H_move])) rfl
    · skip
      refine tt_aload_n C dX2_move_33 rfl 0 rfl ?_
      refine tt_dup C dX2_move_34 rfl ?_
      refine tt_getI (v := h 0 1) C (oH0 hi) rfl hin2 5 (by decide) (List.mem_of_getElem? (i := 6) (by decide +kernel)) rfl (ub_v.trans rfl) dX2_move_35 ?_
      refine tt_iconst (v := nI 1) C dX2_move_38 (by decide) ?_
      refine tt_iadd C dX2_move_39 rfl ?_
      refine tt_putIB C (fH0_1 hi) rfl hin2 tyX2 tyX2_ok nmX2 (by decide) (List.mem_of_getElem? (i := 6) (by decide +kernel)) (by decide +kernel) (by decide +kernel) dX2_move_40 ?_
      generalize e_12 : up2 h 0 1 ((h 0 1) + (nI 1)) = h_11
      refine tt_aload_n C dX2_move_43 rfl 0 rfl ?_
      refine tt_get (v := .ref (eA E i 18)) C (oH0 hi) rfl hin2 1 (by decide) (List.mem_of_getElem? (i := 3) (by decide +kernel)) rfl dX2_move_44 ?_
      refine tt_get (v := .ref (eA E i 21)) C (oH18 hi) rfl hin0 3 (by decide) (List.mem_of_getElem? (i := 4) (by decide +kernel)) rfl dX2_move_47 ?_
      refine tt_iload_n C dX2_move_50 rfl 1 rfl ?_
      refine tt_aload_n C dX2_move_51 rfl 0 rfl ?_
      refine tt_get (v := .ref (eA E i 1)) C (oH0 hi) rfl hin2 0 (by decide) (List.mem_of_getElem? (i := 1) (by decide +kernel)) rfl dX2_move_52 ?_
      refine tt_get (v := .ref (eA E i 3)) C (oH1 hi) rfl hin1 2 (by decide) (List.mem_of_getElem? (i := 7) (by decide +kernel)) rfl dX2_move_55 ?_
      refine tt_iload_n C dX2_move_58 rfl 2 rfl ?_
      refine tt_ialdB (v := h 3 d) C (aH3 hi) d rfl (by omega) (by rw [← e_12, up2_n (fun z => absurd z.1 (by decide))]) dX2_move_59 ?_
      refine tt_iastB C (aH21 hi) b rfl (by omega) dX2_move_60 ?_
      generalize e_14 : up2 h_11 21 b (h 3 d) = h_13
      refine tt_aload_n C dX2_move_61 rfl 0 rfl ?_
      refine tt_get (v := .ref (eA E i 18)) C (oH0 hi) rfl hin2 1 (by decide) (List.mem_of_getElem? (i := 3) (by decide +kernel)) rfl dX2_move_62 ?_
      refine tt_get (v := .ref (eA E i 22)) C (oH18 hi) rfl hin0 4 (by decide) (List.mem_of_getElem? (i := 8) (by decide +kernel)) rfl dX2_move_65 ?_
      refine tt_iload_n C dX2_move_68 rfl 1 rfl ?_
      refine tt_iload_n C dX2_move_69 rfl 3 rfl ?_
      refine tt_iastB C (aH22 hi) b rfl (by omega) dX2_move_70 ?_
      generalize e_16 : up2 h_13 22 b w = h_15
      exact tt_vret K dX2_move_71 (by subst e_16; subst e_14; subst e_12; first | rfl | (simp [c_1, c_6, H_move]; done) | (refine congrArg _ ?_; grind [H_move])) rfl

def H_go (h : HB) (b d : Nat) : HB := H_two (up2 (up2 (up2 h 10 d (h 0 0)) 28 0 (h 28 0 + nI 1)) 24 b (h 24 b + nI 1)) b d
theorem H_go_n {h : HB} {b d k j : Nat} (hk : k ≠ 10 ∧ k ≠ 28 ∧ k ≠ 24 ∧ k ≠ 25 ∧ k ≠ 26 ∧ k ≠ 27) : H_go h b d k j = h k j := by unfold H_go; rw [H_two_n ⟨hk.2.2.2.1, hk.2.2.2.2.1, hk.2.2.2.2.2⟩]; simp [up2, hk.1, hk.2.1, hk.2.2.1]
set_option maxHeartbeats 4000000 in
set_option maxRecDepth 100000 in
theorem c_X2_goThrough (E : EN) (u : U3) (r : R1) (h : HB) (i : Nat) (b : Nat) (d : Nat) (hi : i < 5) (hb : b < 8) (hd : d < 8) (hm : vI (h 25 0) 65) : CT E yX2_goThrough wsX2_goThrough (rmT 1 23) [.ref (eA E i 0), .int (nI b), .int (nI d)] (ub u i h) r none (ub u i (H_go h b d)) r := by
  refine CT_ofV (cc := cX2_goThrough) (nL := 3) (own := RX2) (by decide) rfl rfl (Nat.le_of_ble_eq_true rfl) (fun F C K => ?_)
  have hin0 : ∀ w ∈ u_ws RX0 TX0 7, w ∈ wsX2_goThrough := by decide +kernel
  have hin1 : ∀ w ∈ u_ws RX1 TX1 17, w ∈ wsX2_goThrough := by decide +kernel
  have hin2 : ∀ w ∈ u_ws RX2 TX2 8, w ∈ wsX2_goThrough := by decide +kernel
  refine tt_to (lv1 := [(0, .ref (eA E i 0)), (1, .int (nI b)), (2, .int (nI d))]) rfl rfl rfl rfl ?_
  refine tt_aload_n C dX2_goThrough_0 rfl 0 rfl ?_
  refine tt_get (v := .ref (eA E i 1)) C (oH0 hi) rfl hin2 0 (by decide) (List.mem_of_getElem? (i := 1) (by decide +kernel)) rfl dX2_goThrough_1 ?_
  refine tt_get (v := .ref (eA E i 10)) C (oH1 hi) rfl hin1 9 (by decide) (List.mem_of_getElem? (i := 2) (by decide +kernel)) rfl dX2_goThrough_4 ?_
  refine tt_iload_n C dX2_goThrough_7 rfl 2 rfl ?_
  refine tt_aload_n C dX2_goThrough_8 rfl 0 rfl ?_
  refine tt_getI (v := h 0 0) C (oH0 hi) rfl hin2 4 (by decide) (List.mem_of_getElem? (i := 3) (by decide +kernel)) rfl (ub_v.trans rfl) dX2_goThrough_9 ?_
  refine tt_iastB C (aH10 hi) d rfl (by omega) dX2_goThrough_12 ?_
  generalize e_2 : up2 h 10 d (h 0 0) = h_1
  refine tt_aload_n C dX2_goThrough_13 rfl 0 rfl ?_
  refine tt_get (v := .ref (eA E i 28)) C (oH0 hi) rfl hin2 3 (by decide) (List.mem_of_getElem? (i := 4) (by decide +kernel)) rfl dX2_goThrough_14 ?_
  refine tt_iconst (v := nI 0) C dX2_goThrough_17 (by decide) ?_
  refine tt_dup2 C dX2_goThrough_18 rfl rfl ?_
  refine tt_ialdB (v := h 28 0) C (aH28 hi) 0 rfl (by omega) (by rw [← e_2, up2_n (fun z => absurd z.1 (by decide))]) dX2_goThrough_19 ?_
  refine tt_iconst (v := nI 1) C dX2_goThrough_20 (by decide) ?_
  refine tt_iadd C dX2_goThrough_21 rfl ?_
  refine tt_iastB C (aH28 hi) 0 rfl (by omega) dX2_goThrough_22 ?_
  generalize e_4 : up2 h_1 28 0 ((h 28 0) + (nI 1)) = h_3
  refine tt_aload_n C dX2_goThrough_23 rfl 0 rfl ?_
  refine tt_get (v := .ref (eA E i 18)) C (oH0 hi) rfl hin2 1 (by decide) (List.mem_of_getElem? (i := 5) (by decide +kernel)) rfl dX2_goThrough_24 ?_
  refine tt_get (v := .ref (eA E i 24)) C (oH18 hi) rfl hin0 6 (by decide) (List.mem_of_getElem? (i := 6) (by decide +kernel)) rfl dX2_goThrough_27 ?_
  refine tt_iload_n C dX2_goThrough_30 rfl 1 rfl ?_
  refine tt_dup2 C dX2_goThrough_31 rfl rfl ?_
  refine tt_ialdB (v := h 24 b) C (aH24 hi) b rfl (by omega) (by rw [← e_4, up2_n (fun z => absurd z.1 (by decide)), ← e_2, up2_n (fun z => absurd z.1 (by decide))]) dX2_goThrough_32 ?_
  refine tt_iconst (v := nI 1) C dX2_goThrough_33 (by decide) ?_
  refine tt_iadd C dX2_goThrough_34 rfl ?_
  refine tt_iastB C (aH24 hi) b rfl (by omega) dX2_goThrough_35 ?_
  generalize e_6 : up2 h_3 24 b ((h 24 b) + (nI 1)) = h_5
  refine tt_aload_n C dX2_goThrough_36 rfl 0 rfl ?_
  refine tt_get (v := .ref (eA E i 25)) C (oH0 hi) rfl hin2 2 (by decide) (List.mem_of_getElem? (i := 7) (by decide +kernel)) rfl dX2_goThrough_37 ?_
  refine tt_iload_n C dX2_goThrough_40 rfl 1 rfl ?_
  refine tt_iload_n C dX2_goThrough_41 rfl 2 rfl ?_
  refine tt_cVV C (c_X5_add E u r h_5 i b d hi hb hd (by rw [← e_6, ← e_4, ← e_2]; simpa [up2] using hm)) gX2_goThrough_X5_add rfl ⟨rfl, rfl⟩ 2 (by decide +kernel) ⟨Nat.le_of_ble_eq_true rfl, Nat.le_of_ble_eq_true rfl⟩ rfl (oH25 hi) rfl (Nat.le_of_ble_eq_true rfl) dX2_goThrough_42 rfl ?_
  generalize e_8 : H_two h_5 b d = h_7
  exact tt_vret K dX2_goThrough_45 (by subst e_8; subst e_6; subst e_4; subst e_2; first | rfl | (simp [H_go]; done) | (refine congrArg _ ?_; grind [H_go])) rfl

def H_let (h : HB) (b d : Nat) : HB := H_go (H_move h b d (h 0 0)) b d
theorem H_let_n {h : HB} {b d k j : Nat} (hk : ¬ (k = 0 ∧ j = 1) ∧ k ≠ 21 ∧ k ≠ 22 ∧ k ≠ 10 ∧ k ≠ 28 ∧ k ≠ 24 ∧ k ≠ 25 ∧ k ≠ 26 ∧ k ≠ 27) : H_let h b d k j = h k j := by unfold H_let; rw [H_go_n ⟨hk.2.2.2.1, hk.2.2.2.2.1, hk.2.2.2.2.2.1, hk.2.2.2.2.2.2.1, hk.2.2.2.2.2.2.2.1, hk.2.2.2.2.2.2.2.2⟩, H_move_n ⟨hk.1, hk.2.1, hk.2.2.1⟩]
set_option maxHeartbeats 4000000 in
set_option maxRecDepth 100000 in
theorem c_X2_let (E : EN) (u : U3) (r : R1) (h : HB) (i : Nat) (b : Nat) (d : Nat) (hi : i < 5) (hb : b < 8) (hd : d < 8) (hm : vI (h 25 0) 65) : CT E yX2_let wsX2_let (rmT 2 45) [.ref (eA E i 0), .int (nI b), .int (nI d)] (ub u i h) r none (ub u i (H_let h b d)) r := by
  refine CT_ofV (cc := cX2_let) (nL := 3) (own := RX2) (by decide) rfl rfl (Nat.le_of_ble_eq_true rfl) (fun F C K => ?_)
  have hin2 : ∀ w ∈ u_ws RX2 TX2 8, w ∈ wsX2_let := by decide +kernel
  refine tt_to (lv1 := [(0, .ref (eA E i 0)), (1, .int (nI b)), (2, .int (nI d))]) rfl rfl rfl rfl ?_
  refine tt_aload_n C dX2_let_0 rfl 0 rfl ?_
  refine tt_iload_n C dX2_let_1 rfl 1 rfl ?_
  refine tt_iload_n C dX2_let_2 rfl 2 rfl ?_
  refine tt_aload_n C dX2_let_3 rfl 0 rfl ?_
  refine tt_getI (v := h 0 0) C (oH0 hi) rfl hin2 4 (by decide) (List.mem_of_getElem? (i := 1) (by decide +kernel)) rfl (ub_v.trans rfl) dX2_let_4 ?_
  refine tt_cVV C (c_X2_move E u r h i b d (h 0 0) hi hb hd) gX2_let_X2_move rfl ⟨rfl, rfl⟩ 3 (by decide +kernel) ⟨Nat.le_of_ble_eq_true rfl, Nat.le_of_ble_eq_true rfl⟩ rfl (oH0 hi) rfl (Nat.le_of_ble_eq_true rfl) dX2_let_7 rfl ?_
  generalize e_2 : H_move h b d (h 0 0) = h_1
  refine tt_aload_n C dX2_let_10 rfl 0 rfl ?_
  refine tt_iload_n C dX2_let_11 rfl 1 rfl ?_
  refine tt_iload_n C dX2_let_12 rfl 2 rfl ?_
  refine tt_cVV C (c_X2_goThrough E u r h_1 i b d hi hb hd (by rw [← e_2]; rw [H_move_n (by simp)]; exact hm)) gX2_let_X2_goThrough rfl ⟨rfl, rfl⟩ 2 (by decide +kernel) ⟨Nat.le_of_ble_eq_true rfl, Nat.le_of_ble_eq_true rfl⟩ rfl (oH0 hi) rfl (Nat.le_of_ble_eq_true rfl) dX2_let_13 rfl ?_
  generalize e_4 : H_go h_1 b d = h_3
  exact tt_vret K dX2_let_16 (by subst e_4; subst e_2; first | rfl | (simp [H_let]; done) | (refine congrArg _ ?_; grind [H_let])) rfl

def H_mnote (h : HB) (b d : Nat) (w : Int32) : HB := if w < h 22 b then up2 h 0 2 (h 0 2 + nI 1) else H_move h b d w
set_option maxHeartbeats 4000000 in
set_option maxRecDepth 100000 in
theorem c_X2_mergeNote (E : EN) (u : U3) (r : R1) (h : HB) (i : Nat) (b : Nat) (d : Nat) (w : Int32) (hi : i < 5) (hb : b < 8) (hd : d < 8) : CT E yX2_mergeNote wsX2_mergeNote (rmT 1 23) [.ref (eA E i 0), .int (nI b), .int (nI d), .int w] (ub u i h) r none (ub u i (H_mnote h b d w)) r := by
  refine CT_ofV (cc := cX2_mergeNote) (nL := 4) (own := RX2) (by decide) rfl rfl (Nat.le_of_ble_eq_true rfl) (fun F C K => ?_)
  have hin0 : ∀ w ∈ u_ws RX0 TX0 7, w ∈ wsX2_mergeNote := by decide +kernel
  have hin2 : ∀ w ∈ u_ws RX2 TX2 8, w ∈ wsX2_mergeNote := by decide +kernel
  refine tt_to (lv1 := [(0, .ref (eA E i 0)), (1, .int (nI b)), (2, .int (nI d)), (3, .int w)]) rfl rfl rfl rfl ?_
  refine tt_iload_n C dX2_mergeNote_0 rfl 3 rfl ?_
  refine tt_aload_n C dX2_mergeNote_1 rfl 0 rfl ?_
  refine tt_get (v := .ref (eA E i 18)) C (oH0 hi) rfl hin2 1 (by decide) (List.mem_of_getElem? (i := 1) (by decide +kernel)) rfl dX2_mergeNote_2 ?_
  refine tt_get (v := .ref (eA E i 22)) C (oH18 hi) rfl hin0 4 (by decide) (List.mem_of_getElem? (i := 2) (by decide +kernel)) rfl dX2_mergeNote_5 ?_
  refine tt_iload_n C dX2_mergeNote_8 rfl 1 rfl ?_
  refine tt_ialdB (v := h 22 b) C (aH22 hi) b rfl (by omega) rfl dX2_mergeNote_9 ?_
  refine tt_icmp_lt C (tgt := 23) dX2_mergeNote_10 (by decide) Iff.rfl (fun c_1 => ?_) (fun c_1 => ?_)
  · skip
    refine tt_aload_n C dX2_mergeNote_23 rfl 0 rfl ?_
    refine tt_dup C dX2_mergeNote_24 rfl ?_
    refine tt_getI (v := h 0 2) C (oH0 hi) rfl hin2 6 (by decide) (List.mem_of_getElem? (i := 3) (by decide +kernel)) rfl (ub_v.trans rfl) dX2_mergeNote_25 ?_
    refine tt_iconst (v := nI 1) C dX2_mergeNote_28 (by decide) ?_
    refine tt_iadd C dX2_mergeNote_29 rfl ?_
    refine tt_putIB C (fH0_2 hi) rfl hin2 tyX2 tyX2_ok nmX2 (by decide) (List.mem_of_getElem? (i := 3) (by decide +kernel)) (by decide +kernel) (by decide +kernel) dX2_mergeNote_30 ?_
    generalize e_3 : up2 h 0 2 ((h 0 2) + (nI 1)) = h_2
    exact tt_vret K dX2_mergeNote_33 (by subst e_3; first | rfl | (simp [c_1, H_mnote]; done) | (refine congrArg _ ?_; grind [H_mnote])) rfl
  · skip
    refine tt_aload_n C dX2_mergeNote_13 rfl 0 rfl ?_
    refine tt_iload_n C dX2_mergeNote_14 rfl 1 rfl ?_
    refine tt_iload_n C dX2_mergeNote_15 rfl 2 rfl ?_
    refine tt_iload_n C dX2_mergeNote_16 rfl 3 rfl ?_
    refine tt_cVV C (c_X2_move E u r h i b d w hi hb hd) gX2_mergeNote_X2_move rfl ⟨rfl, rfl⟩ 3 (by decide +kernel) ⟨Nat.le_of_ble_eq_true rfl, Nat.le_of_ble_eq_true rfl⟩ rfl (oH0 hi) rfl (Nat.le_of_ble_eq_true rfl) dX2_mergeNote_17 rfl ?_
    generalize e_5 : H_move h b d w = h_4
    refine tt_goto (tgt := 33) C dX2_mergeNote_20 (by decide) ?_
    exact tt_vret K dX2_mergeNote_33 (by subst e_5; first | rfl | (simp [c_1, H_mnote]; done) | (refine congrArg _ ?_; grind [H_mnote])) rfl

set_option maxHeartbeats 4000000 in
set_option maxRecDepth 100000 in
theorem c_X2_outcomeCount (E : EN) (u : U3) (r : R1) (h : HB) (i : Nat) (w : Nat) (hi : i < 5) (hw : w < 6) : CT E yX2_outcomeCount wsX2_outcomeCount (rmT 1 21) [.ref (eA E i 0), .int (nI w)] (ub u i h) r (some (.int (h 28 w))) (ub u i h) r := by
  refine CT_ofI (cc := cX2_outcomeCount) (nL := 2) (own := RX2) (by decide) rfl rfl rfl (Nat.le_of_ble_eq_true rfl) (fun F C K => ?_)
  have hin2 : ∀ w ∈ u_ws RX2 TX2 8, w ∈ wsX2_outcomeCount := by decide +kernel
  refine tt_to (lv1 := [(0, .ref (eA E i 0)), (1, .int (nI w))]) rfl rfl rfl rfl ?_
  refine tt_iload_n C dX2_outcomeCount_0 rfl 1 rfl ?_
  refine tt_bipush (v := nI 6) C dX2_outcomeCount_1 (by decide) ?_
  refine tt_cNI C (c_X6_isBelow E (ub u i h) r (nI w) (nI 6)) gX2_outcomeCount_X6_isBelow_n66 rfl ⟨rfl, rfl⟩ 2 C.2.2.2.2.2.2.2.2.2.2.1.2.2.2.1 (List.mem_of_getElem? (i := 2) (by decide +kernel)) (List.mem_of_getElem? (i := 3) (by decide +kernel)) (by decide +kernel) ⟨Nat.le_of_ble_eq_true rfl, Nat.le_of_ble_eq_true rfl⟩ rfl (Nat.le_of_ble_eq_true rfl) dX2_outcomeCount_3 rfl ?_
  refine tt_if_eqB C (tgt := 18) dX2_outcomeCount_6 (by decide) (fun c_1 => ?_) (fun c_1 => ?_)
  · skip
    exact absurd ⟨nI_pos (by omega), nI_ge (by omega) (by decide)⟩ c_1
  · skip
    refine tt_aload_n C dX2_outcomeCount_9 rfl 0 rfl ?_
    refine tt_get (v := .ref (eA E i 28)) C (oH0 hi) rfl hin2 3 (by decide) (List.mem_of_getElem? (i := 1) (by decide +kernel)) rfl dX2_outcomeCount_10 ?_
    refine tt_iload_n C dX2_outcomeCount_13 rfl 1 rfl ?_
    refine tt_ialdB (v := h 28 w) C (aH28 hi) w rfl (by omega) rfl dX2_outcomeCount_14 ?_
    refine tt_goto (tgt := 19) C dX2_outcomeCount_15 (by decide) ?_
    exact tt_iret K dX2_outcomeCount_19 (by first | rfl | (simp [c_1]; done) | grind []) (by first | rfl | (simp [c_1]; done) | (refine congrArg _ ?_; grind [])) rfl

def H_df (h : HB) (d w : Nat) : Int32 := if w < 8 then h (2 + w) d else if w = 8 then b2i (h 10 d = h 0 0) else h (2 + w) d
set_option maxHeartbeats 4000000 in
set_option maxRecDepth 100000 in
theorem c_X2_doorFact (E : EN) (u : U3) (r : R1) (h : HB) (i : Nat) (d : Nat) (w : Nat) (hi : i < 5) (hd : d < 8) (hw : w < 11) : CT E yX2_doorFact wsX2_doorFact (rmT 1 21) [.ref (eA E i 0), .int (nI d), .int (nI w)] (ub u i h) r (some (.int (H_df h d w))) (ub u i h) r := by
  refine CT_ofI (cc := cX2_doorFact) (nL := 3) (own := RX2) (by decide) rfl rfl rfl (Nat.le_of_ble_eq_true rfl) (fun F C K => ?_)
  have hin1 : ∀ w ∈ u_ws RX1 TX1 17, w ∈ wsX2_doorFact := by decide +kernel
  have hin2 : ∀ w ∈ u_ws RX2 TX2 8, w ∈ wsX2_doorFact := by decide +kernel
  refine tt_to (lv1 := [(0, .ref (eA E i 0)), (1, .int (nI d)), (2, .int (nI w))]) rfl rfl rfl rfl ?_
  refine tt_iload_n C dX2_doorFact_0 rfl 2 rfl ?_
  rcases (by omega : w = 0 ∨ w = 1 ∨ w = 2 ∨ w = 3 ∨ w = 4 ∨ w = 5 ∨ w = 6 ∨ w = 7 ∨ w = 8 ∨ w = 9 ∨ w = 10) with rfl | rfl | rfl | rfl | rfl | rfl | rfl | rfl | rfl | rfl | rfl
  · skip
    refine tt_tabIn (off := 55) (tgt := 56) C dX2_doorFact_1 (by decide) (by decide) (by decide) (by decide) ?_
    refine tt_aload_n C dX2_doorFact_56 rfl 0 rfl ?_
    refine tt_get (v := .ref (eA E i 1)) C (oH0 hi) rfl hin2 0 (by decide) (List.mem_of_getElem? (i := 1) (by decide +kernel)) rfl dX2_doorFact_57 ?_
    refine tt_get (v := .ref (eA E i 2)) C (oH1 hi) rfl hin1 1 (by decide) (List.mem_of_getElem? (i := 2) (by decide +kernel)) rfl dX2_doorFact_60 ?_
    refine tt_iload_n C dX2_doorFact_63 rfl 1 rfl ?_
    refine tt_ialdB (v := h 2 d) C (aH2 hi) d rfl (by omega) rfl dX2_doorFact_64 ?_
    exact tt_iret K dX2_doorFact_65 (by first | rfl | (simp [H_df, b2i]; done) | (simp [H_df, b2i]; rfl) | grind [H_df]) (by first | rfl | (simp [H_df]; done) | (refine congrArg _ ?_; grind [H_df])) rfl
  · skip
    refine tt_tabIn (off := 65) (tgt := 66) C dX2_doorFact_1 (by decide) (by decide) (by decide) (by decide) ?_
    refine tt_aload_n C dX2_doorFact_66 rfl 0 rfl ?_
    refine tt_get (v := .ref (eA E i 1)) C (oH0 hi) rfl hin2 0 (by decide) (List.mem_of_getElem? (i := 1) (by decide +kernel)) rfl dX2_doorFact_67 ?_
    refine tt_get (v := .ref (eA E i 3)) C (oH1 hi) rfl hin1 2 (by decide) (List.mem_of_getElem? (i := 3) (by decide +kernel)) rfl dX2_doorFact_70 ?_
    refine tt_iload_n C dX2_doorFact_73 rfl 1 rfl ?_
    refine tt_ialdB (v := h 3 d) C (aH3 hi) d rfl (by omega) rfl dX2_doorFact_74 ?_
    exact tt_iret K dX2_doorFact_75 (by first | rfl | (simp [H_df, b2i]; done) | (simp [H_df, b2i]; rfl) | grind [H_df]) (by first | rfl | (simp [H_df]; done) | (refine congrArg _ ?_; grind [H_df])) rfl
  · skip
    refine tt_tabIn (off := 75) (tgt := 76) C dX2_doorFact_1 (by decide) (by decide) (by decide) (by decide) ?_
    refine tt_aload_n C dX2_doorFact_76 rfl 0 rfl ?_
    refine tt_get (v := .ref (eA E i 1)) C (oH0 hi) rfl hin2 0 (by decide) (List.mem_of_getElem? (i := 1) (by decide +kernel)) rfl dX2_doorFact_77 ?_
    refine tt_get (v := .ref (eA E i 4)) C (oH1 hi) rfl hin1 3 (by decide) (List.mem_of_getElem? (i := 4) (by decide +kernel)) rfl dX2_doorFact_80 ?_
    refine tt_iload_n C dX2_doorFact_83 rfl 1 rfl ?_
    refine tt_ialdB (v := h 4 d) C (aH4 hi) d rfl (by omega) rfl dX2_doorFact_84 ?_
    exact tt_iret K dX2_doorFact_85 (by first | rfl | (simp [H_df, b2i]; done) | (simp [H_df, b2i]; rfl) | grind [H_df]) (by first | rfl | (simp [H_df]; done) | (refine congrArg _ ?_; grind [H_df])) rfl
  · skip
    refine tt_tabIn (off := 85) (tgt := 86) C dX2_doorFact_1 (by decide) (by decide) (by decide) (by decide) ?_
    refine tt_aload_n C dX2_doorFact_86 rfl 0 rfl ?_
    refine tt_get (v := .ref (eA E i 1)) C (oH0 hi) rfl hin2 0 (by decide) (List.mem_of_getElem? (i := 1) (by decide +kernel)) rfl dX2_doorFact_87 ?_
    refine tt_get (v := .ref (eA E i 5)) C (oH1 hi) rfl hin1 4 (by decide) (List.mem_of_getElem? (i := 5) (by decide +kernel)) rfl dX2_doorFact_90 ?_
    refine tt_iload_n C dX2_doorFact_93 rfl 1 rfl ?_
    refine tt_ialdB (v := h 5 d) C (aH5 hi) d rfl (by omega) rfl dX2_doorFact_94 ?_
    exact tt_iret K dX2_doorFact_95 (by first | rfl | (simp [H_df, b2i]; done) | (simp [H_df, b2i]; rfl) | grind [H_df]) (by first | rfl | (simp [H_df]; done) | (refine congrArg _ ?_; grind [H_df])) rfl
  · skip
    refine tt_tabIn (off := 95) (tgt := 96) C dX2_doorFact_1 (by decide) (by decide) (by decide) (by decide) ?_
    refine tt_aload_n C dX2_doorFact_96 rfl 0 rfl ?_
    refine tt_get (v := .ref (eA E i 1)) C (oH0 hi) rfl hin2 0 (by decide) (List.mem_of_getElem? (i := 1) (by decide +kernel)) rfl dX2_doorFact_97 ?_
    refine tt_get (v := .ref (eA E i 6)) C (oH1 hi) rfl hin1 5 (by decide) (List.mem_of_getElem? (i := 6) (by decide +kernel)) rfl dX2_doorFact_100 ?_
    refine tt_iload_n C dX2_doorFact_103 rfl 1 rfl ?_
    refine tt_ialdB (v := h 6 d) C (aH6 hi) d rfl (by omega) rfl dX2_doorFact_104 ?_
    exact tt_iret K dX2_doorFact_105 (by first | rfl | (simp [H_df, b2i]; done) | (simp [H_df, b2i]; rfl) | grind [H_df]) (by first | rfl | (simp [H_df]; done) | (refine congrArg _ ?_; grind [H_df])) rfl
  · skip
    refine tt_tabIn (off := 105) (tgt := 106) C dX2_doorFact_1 (by decide) (by decide) (by decide) (by decide) ?_
    refine tt_aload_n C dX2_doorFact_106 rfl 0 rfl ?_
    refine tt_get (v := .ref (eA E i 1)) C (oH0 hi) rfl hin2 0 (by decide) (List.mem_of_getElem? (i := 1) (by decide +kernel)) rfl dX2_doorFact_107 ?_
    refine tt_get (v := .ref (eA E i 7)) C (oH1 hi) rfl hin1 6 (by decide) (List.mem_of_getElem? (i := 7) (by decide +kernel)) rfl dX2_doorFact_110 ?_
    refine tt_iload_n C dX2_doorFact_113 rfl 1 rfl ?_
    refine tt_ialdB (v := h 7 d) C (aH7 hi) d rfl (by omega) rfl dX2_doorFact_114 ?_
    exact tt_iret K dX2_doorFact_115 (by first | rfl | (simp [H_df, b2i]; done) | (simp [H_df, b2i]; rfl) | grind [H_df]) (by first | rfl | (simp [H_df]; done) | (refine congrArg _ ?_; grind [H_df])) rfl
  · skip
    refine tt_tabIn (off := 115) (tgt := 116) C dX2_doorFact_1 (by decide) (by decide) (by decide) (by decide) ?_
    refine tt_aload_n C dX2_doorFact_116 rfl 0 rfl ?_
    refine tt_get (v := .ref (eA E i 1)) C (oH0 hi) rfl hin2 0 (by decide) (List.mem_of_getElem? (i := 1) (by decide +kernel)) rfl dX2_doorFact_117 ?_
    refine tt_get (v := .ref (eA E i 8)) C (oH1 hi) rfl hin1 7 (by decide) (List.mem_of_getElem? (i := 8) (by decide +kernel)) rfl dX2_doorFact_120 ?_
    refine tt_iload_n C dX2_doorFact_123 rfl 1 rfl ?_
    refine tt_ialdB (v := h 8 d) C (aH8 hi) d rfl (by omega) rfl dX2_doorFact_124 ?_
    exact tt_iret K dX2_doorFact_125 (by first | rfl | (simp [H_df, b2i]; done) | (simp [H_df, b2i]; rfl) | grind [H_df]) (by first | rfl | (simp [H_df]; done) | (refine congrArg _ ?_; grind [H_df])) rfl
  · skip
    refine tt_tabIn (off := 125) (tgt := 126) C dX2_doorFact_1 (by decide) (by decide) (by decide) (by decide) ?_
    refine tt_aload_n C dX2_doorFact_126 rfl 0 rfl ?_
    refine tt_get (v := .ref (eA E i 1)) C (oH0 hi) rfl hin2 0 (by decide) (List.mem_of_getElem? (i := 1) (by decide +kernel)) rfl dX2_doorFact_127 ?_
    refine tt_get (v := .ref (eA E i 9)) C (oH1 hi) rfl hin1 8 (by decide) (List.mem_of_getElem? (i := 9) (by decide +kernel)) rfl dX2_doorFact_130 ?_
    refine tt_iload_n C dX2_doorFact_133 rfl 1 rfl ?_
    refine tt_ialdB (v := h 9 d) C (aH9 hi) d rfl (by omega) rfl dX2_doorFact_134 ?_
    exact tt_iret K dX2_doorFact_135 (by first | rfl | (simp [H_df, b2i]; done) | (simp [H_df, b2i]; rfl) | grind [H_df]) (by first | rfl | (simp [H_df]; done) | (refine congrArg _ ?_; grind [H_df])) rfl
  · skip
    refine tt_tabIn (off := 135) (tgt := 136) C dX2_doorFact_1 (by decide) (by decide) (by decide) (by decide) ?_
    refine tt_aload_n C dX2_doorFact_136 rfl 0 rfl ?_
    refine tt_iload_n C dX2_doorFact_137 rfl 1 rfl ?_
    refine tt_cVI C (c_X2_isOpen E u r h i d hi hd) gX2_doorFact_X2_isOpen rfl ⟨rfl, rfl⟩ 1 (by decide +kernel) ⟨Nat.le_of_ble_eq_true rfl, Nat.le_of_ble_eq_true rfl⟩ rfl (oH0 hi) rfl (Nat.le_of_ble_eq_true rfl) dX2_doorFact_138 rfl ?_
    refine tt_if_eqB C (tgt := 148) dX2_doorFact_141 (by decide) (fun c_1 => ?_) (fun c_1 => ?_)
    · skip
      refine tt_iconst (v := nI 0) C dX2_doorFact_148 (by decide) ?_
      exact tt_iret K dX2_doorFact_149 (by first | rfl | (simp [c_1, H_df, b2i]; done) | (simp [c_1, H_df, b2i]; rfl) | grind [H_df]) (by first | rfl | (simp [c_1, H_df]; done) | (refine congrArg _ ?_; grind [H_df])) rfl
    · skip
      refine tt_iconst (v := nI 1) C dX2_doorFact_144 (by decide) ?_
      refine tt_goto (tgt := 149) C dX2_doorFact_145 (by decide) ?_
      exact tt_iret K dX2_doorFact_149 (by first | rfl | (simp [c_1, H_df, b2i]; done) | (simp [c_1, H_df, b2i]; rfl) | grind [H_df]) (by first | rfl | (simp [c_1, H_df]; done) | (refine congrArg _ ?_; grind [H_df])) rfl
  · skip
    refine tt_tabIn (off := 149) (tgt := 150) C dX2_doorFact_1 (by decide) (by decide) (by decide) (by decide) ?_
    refine tt_aload_n C dX2_doorFact_150 rfl 0 rfl ?_
    refine tt_get (v := .ref (eA E i 1)) C (oH0 hi) rfl hin2 0 (by decide) (List.mem_of_getElem? (i := 1) (by decide +kernel)) rfl dX2_doorFact_151 ?_
    refine tt_get (v := .ref (eA E i 11)) C (oH1 hi) rfl hin1 10 (by decide) (List.mem_of_getElem? (i := 10) (by decide +kernel)) rfl dX2_doorFact_154 ?_
    refine tt_iload_n C dX2_doorFact_157 rfl 1 rfl ?_
    refine tt_ialdB (v := h 11 d) C (aH11 hi) d rfl (by omega) rfl dX2_doorFact_158 ?_
    exact tt_iret K dX2_doorFact_159 (by first | rfl | (simp [H_df, b2i]; done) | (simp [H_df, b2i]; rfl) | grind [H_df]) (by first | rfl | (simp [H_df]; done) | (refine congrArg _ ?_; grind [H_df])) rfl
  · skip
    refine tt_tabOut (tgt := 160) C dX2_doorFact_1 (by decide) (by decide) ?_
    refine tt_aload_n C dX2_doorFact_160 rfl 0 rfl ?_
    refine tt_get (v := .ref (eA E i 1)) C (oH0 hi) rfl hin2 0 (by decide) (List.mem_of_getElem? (i := 1) (by decide +kernel)) rfl dX2_doorFact_161 ?_
    refine tt_get (v := .ref (eA E i 12)) C (oH1 hi) rfl hin1 11 (by decide) (List.mem_of_getElem? (i := 11) (by decide +kernel)) rfl dX2_doorFact_164 ?_
    refine tt_iload_n C dX2_doorFact_167 rfl 1 rfl ?_
    refine tt_ialdB (v := h 12 d) C (aH12 hi) d rfl (by omega) rfl dX2_doorFact_168 ?_
    exact tt_iret K dX2_doorFact_169 (by first | rfl | (simp [H_df, b2i]; done) | (simp [H_df, b2i]; rfl) | grind [H_df]) (by first | rfl | (simp [H_df]; done) | (refine congrArg _ ?_; grind [H_df])) rfl
