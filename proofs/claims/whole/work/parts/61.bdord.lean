/-! totals of BadgeDoors' orders -/
def HOk (g : HB) : Prop := vI (g 1 0) 9 ∧ vI (g 18 0) 9 ∧ vI (g 25 0) 65 ∧ (∀ a, a < ix (g 25 0) → vI (g 26 a) 64) ∧ ∀ d, d < ix (g 1 0) → (g 8 d = -1 ∨ vI (g 8 d) 8) ∧ vI (g 12 d) 21 ∧ (g 11 d = -1 ∨ vI (g 11 d) 8) ∧ (∀ a, a < ix (g 12 d) → vI (g 14 (d * 20 + a)) 8) ∧ vI (g 2 d) 6 ∧ vI (g 3 d) 6
def H_badgeG (g : HB) (v : Int32) : HB := if H_rBadge g v = 0 then H_badd g v else g
def H_doorG (g : HB) (f t a b : Int32) : HB := if H_rDoor g f t a b = 0 then H_dadd g f t a b else g
def H_askG (g : HB) (b d s : Int32) : HB := if H_rAsk g b d s = 0 then H_ask g (ix b) (ix d) s else g
def H_waitG (g : HB) (n : Int32) : HB := if H_rWait n = 0 then H_wait g n else g
def H_onG (g : HB) (d : Int32) : HB := if H_rOnline g d (nI 1) = 0 then H_online g (ix d) else g
def H_offG (g : HB) (d : Int32) : HB := if H_rOnline g d (nI 0) = 0 then H_offline g (ix d) else g
def H_barG (g : HB) (b : Int32) : HB := if H_rBar g b (nI 1) = 0 then up2 g 20 (ix b) (nI 1) else g
theorem vI_has {x b : Int32} {N : Nat} (hx : vI x (N + 1)) (hN : N < 2 ^ 30) (h : ¬ b < 0 ∧ ¬ x ≤ b) : ∃ j, j < ix x ∧ j < N ∧ b = nI j := by
  obtain ⟨n, hn, rfl⟩ := hx
  obtain ⟨j, hj, rfl⟩ := nI_of h.1
  have h2 : ¬ n ≤ j := fun z => h.2 ((nI_leI (by omega) hj).mpr z)
  exact ⟨j, by rw [show ix (nI n) = n from ix_nI (by omega)]; omega, by omega, rfl⟩
theorem vI_lt8 {x : Int32} (hx : vI x 9) (h : x < nI 8) : vI x 8 := by
  obtain ⟨n, hn, rfl⟩ := hx
  exact ⟨n, (nI_ltI (by omega) (by omega)).mp h, rfl⟩
theorem rBadge0 {g : HB} {v : Int32} (h : H_rBadge g v = 0) : pL v ∧ g 18 0 < nI 8 := by
  unfold H_rBadge at h
  by_cases c : pL v
  · by_cases e : g 18 0 < nI 8
    · exact ⟨c, e⟩
    · rw [if_neg (fun z => z c), if_pos e] at h; exact absurd h (by decide)
  · rw [if_pos c] at h; exact absurd h (by decide)
theorem rDoor0 {g : HB} {f t a b : Int32} (h : H_rDoor g f t a b = 0) : (pA f ∧ pA t ∧ ¬ f = t ∧ pL a ∧ pL b) ∧ g 1 0 < nI 8 := by
  unfold H_rDoor at h
  by_cases c : pA f ∧ pA t ∧ ¬ f = t ∧ pL a ∧ pL b
  · by_cases e : g 1 0 < nI 8
    · exact ⟨c, e⟩
    · rw [if_neg (fun z => z c), if_pos e] at h; exact absurd h (by decide)
  · rw [if_pos c] at h; exact absurd h (by decide)
theorem rBar0 {g : HB} {b s : Int32} (h : H_rBar g b s = 0) : pB g b ∧ pF s := by
  unfold H_rBar at h
  by_cases c : pB g b ∧ pF s
  · exact c
  · rw [if_neg c] at h; exact absurd h (by decide)
theorem rAsk0 {g : HB} {b d s : Int32} (h : H_rAsk g b d s = 0) : pB g b ∧ pD g d ∧ pF s := by
  unfold H_rAsk at h
  by_cases c : pB g b ∧ pD g d ∧ pF s
  · exact c
  · rw [if_neg c] at h; exact absurd h (by decide)
theorem rWait0 {n : Int32} (h : H_rWait n = 0) : ¬ n < nI 1 ∧ ¬ nI 99 < n := by
  unfold H_rWait at h
  by_cases c : ¬ n < nI 1 ∧ ¬ nI 99 < n
  · exact c
  · rw [if_neg c] at h; exact absurd h (by decide)
theorem rOnline0 {g : HB} {d s : Int32} (h : H_rOnline g d s = 0) : (pD g d ∧ pF s) ∧ ¬ g 9 (ix d) = s := by
  unfold H_rOnline at h
  by_cases c : pD g d ∧ pF s
  · by_cases e : g 9 (ix d) = s
    · rw [if_neg (fun z => z c), if_pos e] at h; exact absurd h (by decide)
    · exact ⟨c, e⟩
  · rw [if_pos c] at h; exact absurd h (by decide)

theorem c_X6_orderBadge_T (E : EN) (u : U3) (r : R1) (h g : HB) (v : Int32) (hi : r 0 < 5) (hi5 : r 0 ≠ 5) (hO : HOk g) : CT E yX6_orderBadge wsX6_orderBadge (rmT 2 41) [.ref (eA E 5 0), .int v] (ub (ub u (r 0) g) 5 h) r (some (.int (b2i (H_rBadge g v = 0)))) (ub (ub u (r 0) (H_badgeG g v)) 5 h) r := by
  obtain ⟨hD, hB, hm, hF, hA⟩ := hO
  by_cases c : H_rBadge g v = 0
  · rw [H_badgeG, if_pos c, b2i_t c, ← b2i_t trivial]
    exact c_X6_orderBadge_O E u r h g v hi hi5 c (vI_lt8 hB (rBadge0 c).2)
  · rw [H_badgeG, if_neg c, b2i_f c, ← b2i_f id]
    exact c_X6_orderBadge_B E u r h g v hi hi5 c

theorem c_X6_orderDoor_T (E : EN) (u : U3) (r : R1) (h g : HB) (f t a b : Int32) (hi : r 0 < 5) (hi5 : r 0 ≠ 5) (hO : HOk g) : CT E yX6_orderDoor wsX6_orderDoor (rmT 3 65) [.ref (eA E 5 0), .int f, .int t, .int a, .int b] (ub (ub u (r 0) g) 5 h) r (some (.int (b2i (H_rDoor g f t a b = 0)))) (ub (ub u (r 0) (H_doorG g f t a b)) 5 h) r := by
  obtain ⟨hD, hB, hm, hF, hA⟩ := hO
  by_cases c : H_rDoor g f t a b = 0
  · rw [H_doorG, if_pos c, b2i_t c, ← b2i_t trivial]
    exact c_X6_orderDoor_O E u r h g f t a b hi hi5 c (vI_lt8 hD (rDoor0 c).2)
  · rw [H_doorG, if_neg c, b2i_f c, ← b2i_f id]
    exact c_X6_orderDoor_B E u r h g f t a b hi hi5 c

theorem c_X6_orderAsk_T (E : EN) (u : U3) (r : R1) (h g : HB) (b d s : Int32) (hi : r 0 < 5) (hi5 : r 0 ≠ 5) (hO : HOk g) : CT E yX6_orderAsk wsX6_orderAsk (rmT 4 93) [.ref (eA E 5 0), .int b, .int d, .int s] (ub (ub u (r 0) g) 5 h) r (some (.int (b2i (H_rAsk g b d s = 0)))) (ub (ub u (r 0) (H_askG g b d s)) 5 h) r := by
  obtain ⟨hD, hB, hm, hF, hA⟩ := hO
  by_cases c : H_rAsk g b d s = 0
  · rw [H_askG, if_pos c, b2i_t c, ← b2i_t trivial]
    obtain ⟨c1, c2, c3⟩ := rAsk0 c
    obtain ⟨j, hj, hj8, rfl⟩ := vI_has hB (by decide) c1
    obtain ⟨e, he, he8, rfl⟩ := vI_has hD (by decide) c2
    rw [show ix (nI j) = j from ix_nI (by omega), show ix (nI e) = e from ix_nI (by omega)]
    obtain ⟨a1, a2, a3, -⟩ := hA e he
    exact c_X6_orderAsk_O E u r h g j e s hi hi5 c hj8 he8 a1 hm a2 a3
  · rw [H_askG, if_neg c, b2i_f c, ← b2i_f id]
    exact c_X6_orderAsk_B E u r h g b d s hi hi5 c

theorem c_X6_orderWait_T (E : EN) (u : U3) (r : R1) (h g : HB) (n : Int32) (hi : r 0 < 5) (hi5 : r 0 ≠ 5) (hO : HOk g) : CT E yX6_orderWait wsX6_orderWait (rmT 2 42) [.ref (eA E 5 0), .int n] (ub (ub u (r 0) g) 5 h) r (some (.int (b2i (H_rWait n = 0)))) (ub (ub u (r 0) (H_waitG g n)) 5 h) r := by
  obtain ⟨hD, hB, hm, hF, hA⟩ := hO
  by_cases c : H_rWait n = 0
  · rw [H_waitG, if_pos c, b2i_t c, ← b2i_t trivial]
    exact c_X6_orderWait_O E u r h g n hi hi5 c hD
  · rw [H_waitG, if_neg c, b2i_f c, ← b2i_f id]
    exact c_X6_orderWait_B E u r h g n hi hi5 c

theorem c_X6_orderOnline_TA (E : EN) (u : U3) (r : R1) (h g : HB) (d : Int32) (hi : r 0 < 5) (hi5 : r 0 ≠ 5) (hO : HOk g) : CT E yX6_orderOnline wsX6_orderOnline (rmT 4 92) [.ref (eA E 5 0), .int d, .int (nI 1)] (ub (ub u (r 0) g) 5 h) r (some (.int (b2i (H_rOnline g d (nI 1) = 0)))) (ub (ub u (r 0) (H_onG g d)) 5 h) r := by
  obtain ⟨hD, hB, hm, hF, hA⟩ := hO
  by_cases c : H_rOnline g d (nI 1) = 0
  · rw [H_onG, if_pos c, b2i_t c, ← b2i_t trivial]
    obtain ⟨⟨c1, -⟩, -⟩ := rOnline0 c
    obtain ⟨e, he, he8, rfl⟩ := vI_has hD (by decide) c1
    rw [show ix (nI e) = e from ix_nI (by omega)]
    obtain ⟨a1, a2, a3, a4, -⟩ := hA e he
    exact c_X6_orderOnline_A E u r h g e hi hi5 hD c he8 a2 a4
  · rw [H_onG, if_neg c, b2i_f c, ← b2i_f id]
    exact c_X6_orderOnline_B E u r h g d (nI 1) hi hi5 hD c

theorem c_X6_orderOnline_TZ (E : EN) (u : U3) (r : R1) (h g : HB) (d : Int32) (hi : r 0 < 5) (hi5 : r 0 ≠ 5) (hO : HOk g) : CT E yX6_orderOnline wsX6_orderOnline (rmT 4 92) [.ref (eA E 5 0), .int d, .int (nI 0)] (ub (ub u (r 0) g) 5 h) r (some (.int (b2i (H_rOnline g d (nI 0) = 0)))) (ub (ub u (r 0) (H_offG g d)) 5 h) r := by
  obtain ⟨hD, hB, hm, hF, hA⟩ := hO
  by_cases c : H_rOnline g d (nI 0) = 0
  · rw [H_offG, if_pos c, b2i_t c, ← b2i_t trivial]
    obtain ⟨⟨c1, -⟩, -⟩ := rOnline0 c
    obtain ⟨e, he, he8, rfl⟩ := vI_has hD (by decide) c1
    rw [show ix (nI e) = e from ix_nI (by omega)]
    exact c_X6_orderOnline_Z E u r h g e hi hi5 hD c he8 hB
  · rw [H_offG, if_neg c, b2i_f c, ← b2i_f id]
    exact c_X6_orderOnline_B E u r h g d (nI 0) hi hi5 hD c

theorem c_X6_orderBar_T (E : EN) (u : U3) (r : R1) (h g : HB) (b : Int32) (hi : r 0 < 5) (hi5 : r 0 ≠ 5) (hO : HOk g) : CT E yX6_orderBar wsX6_orderBar (rmT 3 64) [.ref (eA E 5 0), .int b] (ub (ub u (r 0) g) 5 h) r (some (.int (b2i (H_rBar g b (nI 1) = 0)))) (ub (ub u (r 0) (H_barG g b)) 5 h) r := by
  obtain ⟨hD, hB, hm, hF, hA⟩ := hO
  by_cases c : H_rBar g b (nI 1) = 0
  · rw [H_barG, if_pos c, b2i_t c, ← b2i_t trivial]
    obtain ⟨c1, -⟩ := rBar0 c
    obtain ⟨j, hj, hj8, rfl⟩ := vI_has hB (by decide) c1
    rw [show ix (nI j) = j from ix_nI (by omega)]
    exact c_X6_orderBar_O E u r h g j hi hi5 c hj8
  · rw [H_barG, if_neg c, b2i_f c, ← b2i_f id]
    exact c_X6_orderBar_B E u r h g b hi hi5 c

def H_doR (g : HB) (w : Nat) (a b c d : Int32) : Int32 := if w = 0 then H_rBadge g a else if w = 1 then H_rDoor g a b c d else if w = 2 then H_rAsk g a b (nI 0) else if w = 3 then H_rAsk g a b (nI 1) else if w = 4 then H_rWait a else if w = 5 then H_rOnline g a (nI 0) else if w = 6 then H_rOnline g a (nI 1) else H_rBar g a (nI 1)
def H_doG (g : HB) (w : Nat) (a b c d : Int32) : HB := if w = 0 then H_badgeG g a else if w = 1 then H_doorG g a b c d else if w = 2 then H_askG g a b (nI 0) else if w = 3 then H_askG g a b (nI 1) else if w = 4 then H_waitG g a else if w = 5 then H_offG g a else if w = 6 then H_onG g a else H_barG g a

set_option maxHeartbeats 4000000 in
set_option maxRecDepth 100000 in
theorem c_X6_doOrder (E : EN) (u : U3) (r : R1) (h : HB) (g : HB) (w : Nat) (hi : r 0 < 5) (hi5 : r 0 ≠ 5) (hw : w < 8) (hO : HOk g) : CT E yX6_doOrder wsX6_doOrder (rmT 5 117) [.ref (eA E 5 0), .int (nI w), .ref (eA E 5 3)] (ub (ub u (r 0) g) 5 h) r (some (.int (b2i (H_doR g w (h 3 0) (h 3 1) (h 3 2) (h 3 3) = 0)))) (ub (ub u (r 0) (H_doG g w (h 3 0) (h 3 1) (h 3 2) (h 3 3))) 5 h) r := by
  refine CT_ofI (cc := cX6_doOrder) (nL := 3) (own := RX6) (by decide) rfl rfl (b2i_z _) (Nat.le_of_ble_eq_true rfl) (fun F C K => ?_)
  refine tt_to (lv1 := [(0, .ref (eA E 5 0)), (1, .int (nI w)), (2, .ref (eA E 5 3))]) rfl rfl rfl rfl ?_
  refine tt_iload_n C dX6_doOrder_0 rfl 1 rfl ?_
  rcases (by omega : w = 0 ∨ w = 1 ∨ w = 2 ∨ w = 3 ∨ w = 4 ∨ w = 5 ∨ w = 6 ∨ w = 7) with rfl | rfl | rfl | rfl | rfl | rfl | rfl | rfl
  · skip
    refine tt_tabIn (off := 43) (tgt := 44) C dX6_doOrder_1 (by decide) (by decide) (by decide) (by decide) ?_
    refine tt_aload_n C dX6_doOrder_44 rfl 0 rfl ?_
    refine tt_aload_n C dX6_doOrder_45 rfl 2 rfl ?_
    refine tt_iconst (v := nI 0) C dX6_doOrder_46 (by decide) ?_
    refine tt_ialdB (v := h 3 0) C aT3 0 rfl (by omega) rfl dX6_doOrder_47 ?_
    refine tt_cVI C (c_X6_orderBadge_T E u r h g (h 3 0) hi hi5 hO) gX6_doOrder_X6_orderBadge rfl ⟨rfl, rfl⟩ 1 (by decide +kernel) ⟨Nat.le_of_ble_eq_true rfl, Nat.le_of_ble_eq_true rfl⟩ rfl oT0 rfl (Nat.le_of_ble_eq_true rfl) dX6_doOrder_48 rfl ?_
    generalize e_2 : H_badgeG g (h 3 0) = g_1
    exact tt_iret K dX6_doOrder_51 (by subst e_2; rfl) (by subst e_2; rfl) rfl
  · skip
    refine tt_tabIn (off := 51) (tgt := 52) C dX6_doOrder_1 (by decide) (by decide) (by decide) (by decide) ?_
    refine tt_aload_n C dX6_doOrder_52 rfl 0 rfl ?_
    refine tt_aload_n C dX6_doOrder_53 rfl 2 rfl ?_
    refine tt_iconst (v := nI 0) C dX6_doOrder_54 (by decide) ?_
    refine tt_ialdB (v := h 3 0) C aT3 0 rfl (by omega) rfl dX6_doOrder_55 ?_
    refine tt_aload_n C dX6_doOrder_56 rfl 2 rfl ?_
    refine tt_iconst (v := nI 1) C dX6_doOrder_57 (by decide) ?_
    refine tt_ialdB (v := h 3 1) C aT3 1 rfl (by omega) rfl dX6_doOrder_58 ?_
    refine tt_aload_n C dX6_doOrder_59 rfl 2 rfl ?_
    refine tt_iconst (v := nI 2) C dX6_doOrder_60 (by decide) ?_
    refine tt_ialdB (v := h 3 2) C aT3 2 rfl (by omega) rfl dX6_doOrder_61 ?_
    refine tt_aload_n C dX6_doOrder_62 rfl 2 rfl ?_
    refine tt_iconst (v := nI 3) C dX6_doOrder_63 (by decide) ?_
    refine tt_ialdB (v := h 3 3) C aT3 3 rfl (by omega) rfl dX6_doOrder_64 ?_
    refine tt_cVI C (c_X6_orderDoor_T E u r h g (h 3 0) (h 3 1) (h 3 2) (h 3 3) hi hi5 hO) gX6_doOrder_X6_orderDoor rfl ⟨rfl, rfl⟩ 4 (by decide +kernel) ⟨Nat.le_of_ble_eq_true rfl, Nat.le_of_ble_eq_true rfl⟩ rfl oT0 rfl (Nat.le_of_ble_eq_true rfl) dX6_doOrder_65 rfl ?_
    generalize e_4 : H_doorG g (h 3 0) (h 3 1) (h 3 2) (h 3 3) = g_3
    exact tt_iret K dX6_doOrder_68 (by subst e_4; rfl) (by subst e_4; rfl) rfl
  · skip
    refine tt_tabIn (off := 68) (tgt := 69) C dX6_doOrder_1 (by decide) (by decide) (by decide) (by decide) ?_
    refine tt_aload_n C dX6_doOrder_69 rfl 0 rfl ?_
    refine tt_aload_n C dX6_doOrder_70 rfl 2 rfl ?_
    refine tt_iconst (v := nI 0) C dX6_doOrder_71 (by decide) ?_
    refine tt_ialdB (v := h 3 0) C aT3 0 rfl (by omega) rfl dX6_doOrder_72 ?_
    refine tt_aload_n C dX6_doOrder_73 rfl 2 rfl ?_
    refine tt_iconst (v := nI 1) C dX6_doOrder_74 (by decide) ?_
    refine tt_ialdB (v := h 3 1) C aT3 1 rfl (by omega) rfl dX6_doOrder_75 ?_
    refine tt_iconst (v := nI 0) C dX6_doOrder_76 (by decide) ?_
    refine tt_cVI C (c_X6_orderAsk_T E u r h g (h 3 0) (h 3 1) (nI 0) hi hi5 hO) gX6_doOrder_X6_orderAsk rfl ⟨rfl, rfl⟩ 3 (by decide +kernel) ⟨Nat.le_of_ble_eq_true rfl, Nat.le_of_ble_eq_true rfl⟩ rfl oT0 rfl (Nat.le_of_ble_eq_true rfl) dX6_doOrder_77 rfl ?_
    generalize e_6 : H_askG g (h 3 0) (h 3 1) (nI 0) = g_5
    exact tt_iret K dX6_doOrder_80 (by subst e_6; rfl) (by subst e_6; rfl) rfl
  · skip
    refine tt_tabIn (off := 80) (tgt := 81) C dX6_doOrder_1 (by decide) (by decide) (by decide) (by decide) ?_
    refine tt_aload_n C dX6_doOrder_81 rfl 0 rfl ?_
    refine tt_aload_n C dX6_doOrder_82 rfl 2 rfl ?_
    refine tt_iconst (v := nI 0) C dX6_doOrder_83 (by decide) ?_
    refine tt_ialdB (v := h 3 0) C aT3 0 rfl (by omega) rfl dX6_doOrder_84 ?_
    refine tt_aload_n C dX6_doOrder_85 rfl 2 rfl ?_
    refine tt_iconst (v := nI 1) C dX6_doOrder_86 (by decide) ?_
    refine tt_ialdB (v := h 3 1) C aT3 1 rfl (by omega) rfl dX6_doOrder_87 ?_
    refine tt_iconst (v := nI 1) C dX6_doOrder_88 (by decide) ?_
    refine tt_cVI C (c_X6_orderAsk_T E u r h g (h 3 0) (h 3 1) (nI 1) hi hi5 hO) gX6_doOrder_X6_orderAsk rfl ⟨rfl, rfl⟩ 3 (by decide +kernel) ⟨Nat.le_of_ble_eq_true rfl, Nat.le_of_ble_eq_true rfl⟩ rfl oT0 rfl (Nat.le_of_ble_eq_true rfl) dX6_doOrder_89 rfl ?_
    generalize e_8 : H_askG g (h 3 0) (h 3 1) (nI 1) = g_7
    exact tt_iret K dX6_doOrder_92 (by subst e_8; rfl) (by subst e_8; rfl) rfl
  · skip
    refine tt_tabIn (off := 92) (tgt := 93) C dX6_doOrder_1 (by decide) (by decide) (by decide) (by decide) ?_
    refine tt_aload_n C dX6_doOrder_93 rfl 0 rfl ?_
    refine tt_aload_n C dX6_doOrder_94 rfl 2 rfl ?_
    refine tt_iconst (v := nI 0) C dX6_doOrder_95 (by decide) ?_
    refine tt_ialdB (v := h 3 0) C aT3 0 rfl (by omega) rfl dX6_doOrder_96 ?_
    refine tt_cVI C (c_X6_orderWait_T E u r h g (h 3 0) hi hi5 hO) gX6_doOrder_X6_orderWait rfl ⟨rfl, rfl⟩ 1 (by decide +kernel) ⟨Nat.le_of_ble_eq_true rfl, Nat.le_of_ble_eq_true rfl⟩ rfl oT0 rfl (Nat.le_of_ble_eq_true rfl) dX6_doOrder_97 rfl ?_
    generalize e_10 : H_waitG g (h 3 0) = g_9
    exact tt_iret K dX6_doOrder_100 (by subst e_10; rfl) (by subst e_10; rfl) rfl
  · skip
    refine tt_tabIn (off := 100) (tgt := 101) C dX6_doOrder_1 (by decide) (by decide) (by decide) (by decide) ?_
    refine tt_aload_n C dX6_doOrder_101 rfl 0 rfl ?_
    refine tt_aload_n C dX6_doOrder_102 rfl 2 rfl ?_
    refine tt_iconst (v := nI 0) C dX6_doOrder_103 (by decide) ?_
    refine tt_ialdB (v := h 3 0) C aT3 0 rfl (by omega) rfl dX6_doOrder_104 ?_
    refine tt_iconst (v := nI 0) C dX6_doOrder_105 (by decide) ?_
    refine tt_cVI C (c_X6_orderOnline_TZ E u r h g (h 3 0) hi hi5 hO) gX6_doOrder_X6_orderOnline rfl ⟨rfl, rfl⟩ 2 (by decide +kernel) ⟨Nat.le_of_ble_eq_true rfl, Nat.le_of_ble_eq_true rfl⟩ rfl oT0 rfl (Nat.le_of_ble_eq_true rfl) dX6_doOrder_106 rfl ?_
    generalize e_12 : H_offG g (h 3 0) = g_11
    exact tt_iret K dX6_doOrder_109 (by subst e_12; rfl) (by subst e_12; rfl) rfl
  · skip
    refine tt_tabIn (off := 109) (tgt := 110) C dX6_doOrder_1 (by decide) (by decide) (by decide) (by decide) ?_
    refine tt_aload_n C dX6_doOrder_110 rfl 0 rfl ?_
    refine tt_aload_n C dX6_doOrder_111 rfl 2 rfl ?_
    refine tt_iconst (v := nI 0) C dX6_doOrder_112 (by decide) ?_
    refine tt_ialdB (v := h 3 0) C aT3 0 rfl (by omega) rfl dX6_doOrder_113 ?_
    refine tt_iconst (v := nI 1) C dX6_doOrder_114 (by decide) ?_
    refine tt_cVI C (c_X6_orderOnline_TA E u r h g (h 3 0) hi hi5 hO) gX6_doOrder_X6_orderOnline rfl ⟨rfl, rfl⟩ 2 (by decide +kernel) ⟨Nat.le_of_ble_eq_true rfl, Nat.le_of_ble_eq_true rfl⟩ rfl oT0 rfl (Nat.le_of_ble_eq_true rfl) dX6_doOrder_115 rfl ?_
    generalize e_14 : H_onG g (h 3 0) = g_13
    exact tt_iret K dX6_doOrder_118 (by subst e_14; rfl) (by subst e_14; rfl) rfl
  · skip
    refine tt_tabOut (tgt := 119) C dX6_doOrder_1 (by decide) (by decide) ?_
    refine tt_aload_n C dX6_doOrder_119 rfl 0 rfl ?_
    refine tt_aload_n C dX6_doOrder_120 rfl 2 rfl ?_
    refine tt_iconst (v := nI 0) C dX6_doOrder_121 (by decide) ?_
    refine tt_ialdB (v := h 3 0) C aT3 0 rfl (by omega) rfl dX6_doOrder_122 ?_
    refine tt_cVI C (c_X6_orderBar_T E u r h g (h 3 0) hi hi5 hO) gX6_doOrder_X6_orderBar rfl ⟨rfl, rfl⟩ 1 (by decide +kernel) ⟨Nat.le_of_ble_eq_true rfl, Nat.le_of_ble_eq_true rfl⟩ rfl oT0 rfl (Nat.le_of_ble_eq_true rfl) dX6_doOrder_123 rfl ?_
    generalize e_16 : H_barG g (h 3 0) = g_15
    exact tt_iret K dX6_doOrder_126 (by subst e_16; rfl) (by subst e_16; rfl) rfl
