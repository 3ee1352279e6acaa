/-! reading ORDERS: the place behind j of them, block 5, the house, how many were done -/
def cP (f : Nat → Int32) (L : Nat) : Nat → Nat
  | 0 => 0
  | j + 1 => ordA f L (skp f L (cP f L j))
abbrev cQ (f : Nat → Int32) (L j : Nat) : Nat := skp f L (cP f L j)
abbrev cW (f : Nat → Int32) (L j : Nat) : Nat := wW f L (cQ f L j)
def cH (f : Nat → Int32) (L : Nat) (h : HB) : Nat → HB
  | 0 => h
  | j + 1 => ordH (up2 (cH f L h j) 2 2 (nI (cQ f L j))) f L (cQ f L j)
def cG (f : Nat → Int32) (L : Nat) (h g : HB) : Nat → HB
  | 0 => g
  | j + 1 => H_doG (cG f L h g j) (cW f L j) (cH f L h (j + 1) 3 0) (cH f L h (j + 1) 3 1) (cH f L h (j + 1) 3 2) (cH f L h (j + 1) 3 3)
abbrev cR (f : Nat → Int32) (L : Nat) (h g : HB) (j : Nat) : Int32 := H_doR (cG f L h g j) (cW f L j) (cH f L h (j + 1) 3 0) (cH f L h (j + 1) 3 1) (cH f L h (j + 1) 3 2) (cH f L h (j + 1) 3 3)
def cN (f : Nat → Int32) (L : Nat) (h g : HB) : Nat → Nat
  | 0 => 0
  | j + 1 => cN f L h g j + (if cR f L h g j = 0 then 1 else 0)
def CdOk (f : Nat → Int32) (L : Nat) (h g : HB) (Q : Nat) : Prop := Q < 150 ∧ (∀ j, j < Q → cQ f L j < L ∧ ordR f L (cQ f L j) ∧ HOk (cG f L h g j)) ∧ ¬ cQ f L Q < L
theorem cP_le (f : Nat → Int32) (L : Nat) : ∀ j, cP f L j ≤ L
  | 0 => Nat.zero_le _
  | j + 1 => ordA_le f L _ (skp_le f L _ (cP_le f L j))
theorem cH_n (f : Nat → Int32) (L : Nat) (h : HB) {k i : Nat} (hk : ¬ (k = 2 ∧ i = 2) ∧ ¬ (k = 2 ∧ i = 1) ∧ k ≠ 3) : ∀ j, cH f L h j k i = h k i
  | 0 => rfl
  | j + 1 => by
    show ordH _ f L _ k i = h k i
    rw [ordH_n hk, up2_n hk.1]
    exact cH_n f L h hk j
theorem cH_row (f : Nat → Int32) (L : Nat) (h : HB) {k : Nat} (hk : k ≠ 2 ∧ k ≠ 3) (j : Nat) : cH f L h j k = h k := by
  funext i
  exact cH_n f L h ⟨fun z => hk.1 z.1, fun z => hk.1 z.1, hk.2⟩ j
theorem cH_at (f : Nat → Int32) (L : Nat) (h : HB) (h0 : h 2 2 = nI 0) : ∀ j, cH f L h j 2 2 = nI (cP f L j)
  | 0 => h0
  | j + 1 => ordH_at
theorem ordH_w {h : HB} {f : Nat → Int32} {L a : Nat} (hw : wW f L a < 8) : ordH h f L a 2 1 = nI (wW f L a) := by
  unfold ordH
  rw [if_neg (fun z => z hw), endNH_n (by decide), wordH_w hw]

set_option maxHeartbeats 4000000 in
set_option maxRecDepth 100000 in
theorem l_cr (E : EN) (u : U3) (r : R1) (h g : HB) (f : Nat → Int32) (L Q : Nat) (hi : r 0 < 5) (hi5 : r 0 ≠ 5) (fb : h 4 = f) (fl : h 2 0 = nI L) (fa : h 2 2 = nI 0) (hL : L ≤ 150) (hQ : CdOk f L h g Q) (F : FX) (C : Cx E F cX6_reads 4 RX6 wsX6_reads (rmT 8 175)) (K : RtI E F cX6_reads (nI (cN f L h g Q)) (ub (ub u (r 0) (cG f L h g Q)) 5 (up2 (cH f L h Q) 2 2 (nI (cQ f L Q)))) r) : ∀ n j, j + n = Q → T E F 4 (ub (ub u (r 0) (cG f L h g j)) 5 (cH f L h j)) r 33 [(0, .ref (eA E 5 0)), (1, .int (-1)), (2, .int (nI (cN f L h g j))), (3, .int (nI j))] [] := by
  have hin6 : ∀ w ∈ u_ws RX6 TX6 8, w ∈ wsX6_reads := by decide +kernel
  have hin4 : ∀ w ∈ u_ws RX4 TX4 5, w ∈ wsX6_reads := by decide +kernel
  have head : ∀ j, j ≤ Q → T E F 4 (ub (ub u (r 0) (cG f L h g j)) 5 (up2 (cH f L h j) 2 2 (nI (cQ f L j)))) r 47 [(0, .ref (eA E 5 0)), (1, .int (-1)), (2, .int (nI (cN f L h g j))), (3, .int (nI j))] [.int (b2i (cQ f L j < L))] → T E F 4 (ub (ub u (r 0) (cG f L h g j)) 5 (cH f L h j)) r 33 [(0, .ref (eA E 5 0)), (1, .int (-1)), (2, .int (nI (cN f L h g j))), (3, .int (nI j))] [] := by
    intro j hj k
    have hQ1 := hQ.1
    refine tt_iload_n C dX6_reads_33 rfl 3 rfl ?_
    refine tt_sipush (v := nI 150) C dX6_reads_34 (by decide) ?_
    refine tt_icmp_ge C (tgt := 90) dX6_reads_37 (by decide) (nI_leI (by omega) (by omega)) (fun z => absurd z (by omega)) (fun _ => ?_)
    refine tt_aload_n C dX6_reads_40 rfl 0 rfl ?_
    refine tt_get (v := .ref (eA E 5 2)) C oT0 rfl hin6 3 (by decide) (List.mem_of_getElem? (i := 1) (by decide +kernel)) rfl dX6_reads_41 ?_
    refine tt_cVI C (c_X4_hasMore E (ub u (r 0) (cG f L h g j)) r (cH f L h j) f L (cP f L j) (by rw [cH_row f L h (by decide)]; exact fb) (by rw [cH_n f L h (by decide)]; exact fl) (cH_at f L h fa j) hL (cP_le f L j)) gX6_reads_X4_hasMore rfl ⟨rfl, rfl⟩ 0 (by decide +kernel) ⟨Nat.le_of_ble_eq_true rfl, Nat.le_of_ble_eq_true rfl⟩ rfl oT2 rfl (Nat.le_of_ble_eq_true rfl) dX6_reads_44 rfl ?_
    exact k
  intro n
  induction n with
  | zero =>
    intro j h1
    have hj : j = Q := by omega
    subst hj
    refine head j (Nat.le_refl _) ?_
    refine tt_if_eqB C (tgt := 90) dX6_reads_47 (by decide) (fun _ => ?_) (fun c => absurd c hQ.2.2)
    refine tt_iload_n C dX6_reads_90 rfl 2 rfl ?_
    exact tt_iret K dX6_reads_91 rfl rfl rfl
  | succ n ih =>
    intro j h1
    obtain ⟨q1, q2, q3⟩ := hQ.2.1 j (by omega)
    refine head j (by omega) ?_
    refine tt_if_eqB C (tgt := 90) dX6_reads_47 (by decide) (fun c => absurd q1 c) (fun _ => ?_)
    refine tt_aload_n C dX6_reads_50 rfl 0 rfl ?_
    refine tt_get (v := .ref (eA E 5 2)) C oT0 rfl hin6 3 (by decide) (List.mem_of_getElem? (i := 1) (by decide +kernel)) rfl dX6_reads_51 ?_
    refine tt_cVI C (c_X4_takeOrder E (ub u (r 0) (cG f L h g j)) r (up2 (cH f L h j) 2 2 (nI (cQ f L j))) f L (cQ f L j) (by rw [up2_row (by decide), cH_row f L h (by decide)]; exact fb) (by rw [up2_n (by decide), cH_n f L h (by decide)]; exact fl) (up2_s _ _ _ _) hL (skp_le f L _ (cP_le f L j))) gX6_reads_X4_takeOrder rfl ⟨rfl, rfl⟩ 0 (by decide +kernel) ⟨Nat.le_of_ble_eq_true rfl, Nat.le_of_ble_eq_true rfl⟩ rfl oT2 rfl (Nat.le_of_ble_eq_true rfl) dX6_reads_54 rfl ?_
    refine tt_if_eqB C (tgt := 90) dX6_reads_57 (by decide) (fun c => absurd q2 c) (fun _ => ?_)
    refine tt_aload_n C dX6_reads_60 rfl 0 rfl ?_
    refine tt_aload_n C dX6_reads_61 rfl 0 rfl ?_
    refine tt_get (v := .ref (eA E 5 2)) C oT0 rfl hin6 3 (by decide) (List.mem_of_getElem? (i := 1) (by decide +kernel)) rfl dX6_reads_62 ?_
    refine tt_getI (v := nI (cW f L j)) C oT2 rfl hin4 1 (by decide) (List.mem_of_getElem? (i := 2) (by decide +kernel)) rfl (ub_v.trans (ordH_w q2.1)) dX6_reads_65 ?_
    refine tt_aload_n C dX6_reads_68 rfl 0 rfl ?_
    refine tt_get (v := .ref (eA E 5 2)) C oT0 rfl hin6 3 (by decide) (List.mem_of_getElem? (i := 1) (by decide +kernel)) rfl dX6_reads_69 ?_
    refine tt_get (v := .ref (eA E 5 3)) C oT2 rfl hin4 2 (by decide) (List.mem_of_getElem? (i := 3) (by decide +kernel)) rfl dX6_reads_72 ?_
    refine tt_cVI C (c_X6_doOrder E u r (cH f L h (j + 1)) (cG f L h g j) (cW f L j) hi hi5 q2.1 q3) gX6_reads_X6_doOrder rfl ⟨rfl, rfl⟩ 2 (by decide +kernel) ⟨Nat.le_of_ble_eq_true rfl, Nat.le_of_ble_eq_true rfl⟩ rfl oT0 rfl (Nat.le_of_ble_eq_true rfl) dX6_reads_75 rfl ?_
    have next : ∀ v : Nat, v = cN f L h g (j + 1) → T E F 4 (ub (ub u (r 0) (cG f L h g (j + 1))) 5 (cH f L h (j + 1))) r 84 [(0, .ref (eA E 5 0)), (1, .int (-1)), (2, .int (nI v)), (3, .int (nI j))] [] := by
      intro v hv
      subst hv
      refine tt_iinc (p := 3) (v := nI (j + 1)) (lv' := [(0, .ref (eA E 5 0)), (1, .int (-1)), (2, .int (nI (cN f L h g (j + 1)))), (3, .int (nI (j + 1)))]) C dX6_reads_84 rfl (by rw [show Int32.ofInt 1 = nI 1 from by decide]; exact nI_add _ _) (by decide) [1, 2, 3, 0] rfl ?_
      refine tt_goto (tgt := 33) C dX6_reads_87 (by decide) ?_
      exact ih (j + 1) (by omega)
    refine tt_if_eqB C (tgt := 84) dX6_reads_78 (by decide) (fun c => ?_) (fun c => ?_)
    · exact next (cN f L h g j) (by show _ = cN f L h g j + (if cR f L h g j = 0 then 1 else 0); rw [if_neg c, Nat.add_zero])
    · refine tt_iinc (p := 2) (v := nI (cN f L h g j + 1)) (lv' := [(0, .ref (eA E 5 0)), (1, .int (-1)), (2, .int (nI (cN f L h g j + 1))), (3, .int (nI j))]) C dX6_reads_81 rfl (by rw [show Int32.ofInt 1 = nI 1 from by decide]; exact nI_add _ _) (by decide) [1, 2, 0, 3] rfl ?_
      exact next (cN f L h g j + 1) (by show _ = cN f L h g j + (if cR f L h g j = 0 then 1 else 0); rw [if_pos c])

set_option maxHeartbeats 4000000 in
set_option maxRecDepth 100000 in
theorem c_X6_reads_F (E : EN) (u : U3) (r : R1) (h g : HB) (f : Nat → Int32) (L : Nat) (hi : r 0 < 5) (hi5 : r 0 ≠ 5) (fb : h 4 = f) (fl : h 2 0 = nI L) (hL : L ≤ 150) (hf : ¬ ffR f L = -1) : CT E yX6_reads wsX6_reads (rmT 8 175) [.ref (eA E 5 0)] (ub (ub u (r 0) g) 5 h) r (some (.int (-10 - ffR f L))) (ub (ub u (r 0) g) 5 (ffS h f L)) r := by
  refine CT_ofI (cc := cX6_reads) (nL := 4) (own := RX6) (by decide) rfl rfl rfl (Nat.le_of_ble_eq_true rfl) (fun F C K => ?_)
  have hin6 : ∀ w ∈ u_ws RX6 TX6 8, w ∈ wsX6_reads := by decide +kernel
  have hin4 : ∀ w ∈ u_ws RX4 TX4 5, w ∈ wsX6_reads := by decide +kernel
  refine tt_to (lv1 := [(0, .ref (eA E 5 0))]) rfl rfl rfl rfl ?_
  refine tt_aload_n C dX6_reads_0 rfl 0 rfl ?_
  refine tt_get (v := .ref (eA E 5 2)) C oT0 rfl hin6 3 (by decide) (List.mem_of_getElem? (i := 1) (by decide +kernel)) rfl dX6_reads_1 ?_
  refine tt_cVI C (c_X4_findFault E (ub u (r 0) g) r h f L fb fl hL) gX6_reads_X4_findFault rfl ⟨rfl, rfl⟩ 0 (by decide +kernel) ⟨Nat.le_of_ble_eq_true rfl, Nat.le_of_ble_eq_true rfl⟩ rfl oT2 rfl (Nat.le_of_ble_eq_true rfl) dX6_reads_4 rfl ?_
  refine tt_istore_n (lv' := [(0, .ref (eA E 5 0)), (1, .int (ffR f L))]) C dX6_reads_7 rfl (by decide) [1, 0] rfl ?_
  refine tt_iload_n C dX6_reads_8 rfl 1 rfl ?_
  refine tt_iconst (v := (-1 : Int32)) C dX6_reads_9 (by decide) ?_
  refine tt_icmp_eq C (tgt := 18) dX6_reads_10 (by decide) Iff.rfl (fun c => absurd c hf) (fun _ => ?_)
  refine tt_bipush (v := (-10 : Int32)) C dX6_reads_13 (by decide) ?_
  refine tt_iload_n C dX6_reads_15 rfl 1 rfl ?_
  refine tt_isub C dX6_reads_16 rfl ?_
  exact tt_iret K dX6_reads_17 rfl rfl rfl

def rdK (h : HB) (f : Nat → Int32) (L s : Nat) : HB := up2 (up2 (ffS h f L) 0 0 (nI (s + 1))) 2 2 (nI 0)
def rdL (h : HB) (f : Nat → Int32) (L : Nat) : HB := up2 (up2 (up2 (ffS h f L) 0 0 (nI 3)) 0 0 (nI 4)) 2 2 (nI 0)
theorem ffS_row {h : HB} {f : Nat → Int32} {L k : Nat} (hk : k ≠ 2 ∧ k ≠ 3) : ffS h f L k = h k := by
  funext i
  exact ffS_n ⟨fun z => hk.1 z.1, fun z => hk.1 z.1, hk.2⟩

set_option maxHeartbeats 4000000 in
set_option maxRecDepth 100000 in
theorem c_X6_reads_K (E : EN) (u : U3) (r : R1) (h g : HB) (f : Nat → Int32) (L : Nat) (hi : r 0 < 5) (hi5 : r 0 ≠ 5) (fb : h 4 = f) (fl : h 2 0 = nI L) (hL : L ≤ 150) (hr : ∀ j, j < 5 → r j < 5) (hrn : ∀ j, j < 4 → r 0 ≠ r (j + 1)) (hD : vI (g 1 0) 9) (hB : vI (g 18 0) 9) (hm : vI (g 25 0) 65) (s : Nat) (f0 : h 0 0 = nI s) (hs : s < 4) (hf : ffR f L = -1) (Q : Nat) (hQ : CdOk f L (rdK h f L s) g Q) : CT E yX6_reads wsX6_reads (rmT 8 175) [.ref (eA E 5 0)] (ub (ub u (r 0) g) 5 h) r (some (.int (nI (cN f L (rdK h f L s) g Q)))) (ub (ub (kA u (r (s + 1)) g) (r 0) (cG f L (rdK h f L s) g Q)) 5 (up2 (cH f L (rdK h f L s) Q) 2 2 (nI (cQ f L Q)))) r := by
  refine CT_ofI (cc := cX6_reads) (nL := 4) (own := RX6) (by decide) rfl rfl rfl (Nat.le_of_ble_eq_true rfl) (fun F C K => ?_)
  have hin6 : ∀ w ∈ u_ws RX6 TX6 8, w ∈ wsX6_reads := by decide +kernel
  have hin4 : ∀ w ∈ u_ws RX4 TX4 5, w ∈ wsX6_reads := by decide +kernel
  refine tt_to (lv1 := [(0, .ref (eA E 5 0))]) rfl rfl rfl rfl ?_
  refine tt_aload_n C dX6_reads_0 rfl 0 rfl ?_
  refine tt_get (v := .ref (eA E 5 2)) C oT0 rfl hin6 3 (by decide) (List.mem_of_getElem? (i := 1) (by decide +kernel)) rfl dX6_reads_1 ?_
  refine tt_cVI C (c_X4_findFault E (ub u (r 0) g) r h f L fb fl hL) gX6_reads_X4_findFault rfl ⟨rfl, rfl⟩ 0 (by decide +kernel) ⟨Nat.le_of_ble_eq_true rfl, Nat.le_of_ble_eq_true rfl⟩ rfl oT2 rfl (Nat.le_of_ble_eq_true rfl) dX6_reads_4 rfl ?_
  refine tt_istore_n (lv' := [(0, .ref (eA E 5 0)), (1, .int (ffR f L))]) C dX6_reads_7 rfl (by decide) [1, 0] rfl ?_
  refine tt_iload_n C dX6_reads_8 rfl 1 rfl ?_
  refine tt_iconst (v := (-1 : Int32)) C dX6_reads_9 (by decide) ?_
  refine tt_icmp_eq C (tgt := 18) dX6_reads_10 (by decide) Iff.rfl (fun _ => ?_) (fun c => absurd hf c)
  refine tt_aload_n C dX6_reads_18 rfl 0 rfl ?_
  refine tt_cVV C (c_X6_keepState_K E u r (ffS h f L) g s hr hrn hD hB hm (by rw [ffS_n (by decide)]; exact f0) hs) gX6_reads_X6_keepState rfl ⟨rfl, rfl⟩ 0 (by decide +kernel) ⟨Nat.le_of_ble_eq_true rfl, Nat.le_of_ble_eq_true rfl⟩ rfl oT0 rfl (Nat.le_of_ble_eq_true rfl) dX6_reads_19 rfl ?_
  refine tt_iconst (v := nI 0) C dX6_reads_22 (by decide) ?_
  refine tt_istore_n (lv' := [(0, .ref (eA E 5 0)), (1, .int (ffR f L)), (2, .int (nI 0))]) C dX6_reads_23 rfl (by decide) [1, 2, 0] rfl ?_
  refine tt_aload_n C dX6_reads_24 rfl 0 rfl ?_
  refine tt_get (v := .ref (eA E 5 2)) C oT0 rfl hin6 3 (by decide) (List.mem_of_getElem? (i := 1) (by decide +kernel)) rfl dX6_reads_25 ?_
  refine tt_cVV C (c_X4_restart E (ub (kA u (r (s + 1)) g) (r 0) g) r (up2 (ffS h f L) 0 0 (nI (s + 1)))) gX6_reads_X4_restart rfl ⟨rfl, rfl⟩ 0 (by decide +kernel) ⟨Nat.le_of_ble_eq_true rfl, Nat.le_of_ble_eq_true rfl⟩ rfl oT2 rfl (Nat.le_of_ble_eq_true rfl) dX6_reads_28 rfl ?_
  refine tt_iconst (v := nI 0) C dX6_reads_31 (by decide) ?_
  refine tt_istore_n (lv' := [(0, .ref (eA E 5 0)), (1, .int (ffR f L)), (2, .int (nI 0)), (3, .int (nI 0))]) C dX6_reads_32 rfl (by decide) [1, 2, 3, 0] rfl ?_
  rw [hf]
  exact l_cr E (kA u (r (s + 1)) g) r (rdK h f L s) g f L Q hi hi5 (by unfold rdK; rw [up2_row (by decide), up2_row (by decide), ffS_row (by decide)]; exact fb) (by unfold rdK; rw [up2_n (by decide), up2_n (by decide), ffS_n (by decide)]; exact fl) (by unfold rdK; exact up2_s _ _ _ _) hL hQ F C K Q 0 (by omega)

set_option maxHeartbeats 4000000 in
set_option maxRecDepth 100000 in
theorem c_X6_reads_L (E : EN) (u : U3) (r : R1) (h g : HB) (f : Nat → Int32) (L : Nat) (hi : r 0 < 5) (hi5 : r 0 ≠ 5) (fb : h 4 = f) (fl : h 2 0 = nI L) (hL : L ≤ 150) (hr : ∀ j, j < 5 → r j < 5) (hrn : ∀ j, j < 4 → r 0 ≠ r (j + 1)) (hD : vI (g 1 0) 9) (hB : vI (g 18 0) 9) (hm : vI (g 25 0) 65) (f0 : h 0 0 = nI 4) (hf : ffR f L = -1) (Q : Nat) (hQ : CdOk f L (rdL h f L) g Q) : CT E yX6_reads wsX6_reads (rmT 8 175) [.ref (eA E 5 0)] (ub (ub u (r 0) g) 5 h) r (some (.int (nI (cN f L (rdL h f L) g Q)))) (ub (ub (kA u (r 1) g) (r 0) (cG f L (rdL h f L) g Q)) 5 (up2 (cH f L (rdL h f L) Q) 2 2 (nI (cQ f L Q)))) (kR r) := by
  refine CT_ofI (cc := cX6_reads) (nL := 4) (own := RX6) (by decide) rfl rfl rfl (Nat.le_of_ble_eq_true rfl) (fun F C K => ?_)
  have hin6 : ∀ w ∈ u_ws RX6 TX6 8, w ∈ wsX6_reads := by decide +kernel
  have hin4 : ∀ w ∈ u_ws RX4 TX4 5, w ∈ wsX6_reads := by decide +kernel
  refine tt_to (lv1 := [(0, .ref (eA E 5 0))]) rfl rfl rfl rfl ?_
  refine tt_aload_n C dX6_reads_0 rfl 0 rfl ?_
  refine tt_get (v := .ref (eA E 5 2)) C oT0 rfl hin6 3 (by decide) (List.mem_of_getElem? (i := 1) (by decide +kernel)) rfl dX6_reads_1 ?_
  refine tt_cVI C (c_X4_findFault E (ub u (r 0) g) r h f L fb fl hL) gX6_reads_X4_findFault rfl ⟨rfl, rfl⟩ 0 (by decide +kernel) ⟨Nat.le_of_ble_eq_true rfl, Nat.le_of_ble_eq_true rfl⟩ rfl oT2 rfl (Nat.le_of_ble_eq_true rfl) dX6_reads_4 rfl ?_
  refine tt_istore_n (lv' := [(0, .ref (eA E 5 0)), (1, .int (ffR f L))]) C dX6_reads_7 rfl (by decide) [1, 0] rfl ?_
  refine tt_iload_n C dX6_reads_8 rfl 1 rfl ?_
  refine tt_iconst (v := (-1 : Int32)) C dX6_reads_9 (by decide) ?_
  refine tt_icmp_eq C (tgt := 18) dX6_reads_10 (by decide) Iff.rfl (fun _ => ?_) (fun c => absurd hf c)
  refine tt_aload_n C dX6_reads_18 rfl 0 rfl ?_
  refine tt_cVV C (c_X6_keepState_L E u r (ffS h f L) g hr hrn hD hB hm (by rw [ffS_n (by decide)]; exact f0)) gX6_reads_X6_keepState rfl ⟨rfl, rfl⟩ 0 (by decide +kernel) ⟨Nat.le_of_ble_eq_true rfl, Nat.le_of_ble_eq_true rfl⟩ rfl oT0 rfl (Nat.le_of_ble_eq_true rfl) dX6_reads_19 rfl ?_
  refine tt_iconst (v := nI 0) C dX6_reads_22 (by decide) ?_
  refine tt_istore_n (lv' := [(0, .ref (eA E 5 0)), (1, .int (ffR f L)), (2, .int (nI 0))]) C dX6_reads_23 rfl (by decide) [1, 2, 0] rfl ?_
  refine tt_aload_n C dX6_reads_24 rfl 0 rfl ?_
  refine tt_get (v := .ref (eA E 5 2)) C oT0 rfl hin6 3 (by decide) (List.mem_of_getElem? (i := 1) (by decide +kernel)) rfl dX6_reads_25 ?_
  refine tt_cVV C (c_X4_restart E (ub (kA u (r 1) g) (r 0) g) (kR r) (up2 (up2 (ffS h f L) 0 0 (nI 3)) 0 0 (nI 4))) gX6_reads_X4_restart rfl ⟨rfl, rfl⟩ 0 (by decide +kernel) ⟨Nat.le_of_ble_eq_true rfl, Nat.le_of_ble_eq_true rfl⟩ rfl oT2 rfl (Nat.le_of_ble_eq_true rfl) dX6_reads_28 rfl ?_
  refine tt_iconst (v := nI 0) C dX6_reads_31 (by decide) ?_
  refine tt_istore_n (lv' := [(0, .ref (eA E 5 0)), (1, .int (ffR f L)), (2, .int (nI 0)), (3, .int (nI 0))]) C dX6_reads_32 rfl (by decide) [1, 2, 3, 0] rfl ?_
  rw [hf]
  exact l_cr E (kA u (r 1) g) (kR r) (rdL h f L) g f L Q hi hi5 (by unfold rdL; rw [up2_row (by decide), up2_row (by decide), up2_row (by decide), ffS_row (by decide)]; exact fb) (by unfold rdL; rw [up2_n (by decide), up2_n (by decide), up2_n (by decide), ffS_n (by decide)]; exact fl) (by unfold rdL; exact up2_s _ _ _ _) hL hQ F C K Q 0 (by omega)
