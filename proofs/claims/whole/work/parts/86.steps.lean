/-! A CALL OF BOTH: one answer, and what holds holds on -/
def StI (E : EN) (N : Nat) (u : U3) (r : R1) (y6 : MethodName) (w6 : List Cond) (r6 : Room) (y7 : MethodName) (w7 : List Cond) (r7 : Room) (as : List Value) : Prop := ∃ (x : Int32) (u1 : U3) (r1 : R1) (u2 : U3), CT E y6 w6 r6 (.ref (eA E 5 0) :: as) u r (some (.int x)) u1 r1 ∧ CT E y7 w7 r7 (.ref (eA E 6 0) :: as) u1 r1 (some (.int x)) u2 r1 ∧ IV (N + 15000) u2 r1
def StL (E : EN) (N : Nat) (u : U3) (r : R1) (y6 : MethodName) (w6 : List Cond) (r6 : Room) (y7 : MethodName) (w7 : List Cond) (r7 : Room) (as : List Value) : Prop := ∃ (x : Int64) (u1 : U3) (r1 : R1) (u2 : U3), CT E y6 w6 r6 (.ref (eA E 5 0) :: as) u r (some (.long x)) u1 r1 ∧ CT E y7 w7 r7 (.ref (eA E 6 0) :: as) u1 r1 (some (.long x)) u2 r1 ∧ IV (N + 15000) u2 r1
theorem ub_is {v : U3} {i : Nat} {m : HB} (e : v i = m) : ub v i m = v := by rw [← e, ub_self]
section ST
variable {E : EN} {y y6 y7 : MethodName} {ws w6 w7 : List Cond} {rm r6 r7 : Room} {as : List Value} {u u1 : U3} {r r1 : R1} {oc : Option Value}
theorem mI {m m' : HB} {r' : R1} (e : u1 6 = m) (h : CT E y ws rm as (ub u1 6 m) r oc (ub u1 6 m') r') : CT E y ws rm as u1 r oc (ub u1 6 m') r' := by
  rw [ub_is e] at h
  exact h
theorem mQ {m : HB} (e : u1 6 = m) (h : CT E y ws rm as (ub u1 6 m) r oc (ub u1 6 m) r) : CT E y ws rm as u1 r oc u1 r := by
  rw [ub_is e] at h
  exact h
theorem cIi {U' : U3} {r' : R1} (h : CT E y ws rm as (ub (ub u (r 0) (u (r 0))) 5 (u 5)) r oc U' r') : CT E y ws rm as u r oc U' r' := by
  rw [ub_self, ub_self] at h
  exact h
theorem cRr {X : HB} {r' : R1} (h : CT E y ws rm as (ub (ub u (r 0) (u (r 0))) 5 (u 5)) r oc (ub (ub u (r 0) (u (r 0))) 5 X) r') : CT E y ws rm as u r oc (ub u 5 X) r' := by
  rw [ub_self, ub_self] at h
  exact h
theorem cQ0 (h : CT E y ws rm as (ub (ub u (r 0) (u (r 0))) 5 (u 5)) r oc (ub (ub u (r 0) (u (r 0))) 5 (u 5)) r) : CT E y ws rm as u r oc u r := by
  rw [ub_self, ub_self] at h
  exact h
/-- refused by both -/
theorem st_ref {N : Nat} {v : Int32} (H : IV N u r) (hv : v = -2 ∨ v = -3 ∨ v = -4) (m0 : HB) (hm : m0 = u 6 ∨ m0 = M_bring (u 6) 1 0 2 0)
    (c6 : CT E y6 w6 r6 (.ref (eA E 5 0) :: as) (ub (ub u (r 0) (u (r 0))) 5 (u 5)) r (some (.int v)) (ub (ub u (r 0) (u (r 0))) 5 (H_ref (u 5) v)) r)
    (c7 : ∀ v1 : U3, CT E y7 w7 r7 (.ref (eA E 6 0) :: as) (ub v1 6 (u 6)) r (some (.int v)) (ub v1 6 (M_ref m0 v)) r) : StI E N u r y6 w6 r6 y7 w7 r7 as :=
  ⟨v, _, r, _, cRr c6, mI ub56 (c7 _), IV_mono (IV_ref H hv hm) (by omega)⟩
/-- a question that is answered -/
theorem st_q {N : Nat} {x : Int32} (H : IV N u r) (c6 : CT E y6 w6 r6 (.ref (eA E 5 0) :: as) (ub (ub u (r 0) (u (r 0))) 5 (u 5)) r (some (.int x)) (ub (ub u (r 0) (u (r 0))) 5 (u 5)) r)
    (c7 : CT E y7 w7 r7 (.ref (eA E 6 0) :: as) (ub u 6 (u 6)) r (some (.int x)) (ub u 6 (u 6)) r) : StI E N u r y6 w6 r6 y7 w7 r7 as :=
  ⟨x, u, r, u, cQ0 c6, mQ rfl c7, IV_mono H (by omega)⟩
/-- a call that keeps a state -/
theorem st_keep {N N' : Nat} {x : Int32} {g' m1 : HB} (H : IV N u r) (h1 : N ≤ N') (h2 : N' ≤ N + 15000)
    (cK : ∀ s, s < 4 → u 5 0 0 = nI s → CT E y6 w6 r6 (.ref (eA E 5 0) :: as) (ub (ub u (r 0) (u (r 0))) 5 (u 5)) r (some (.int x)) (ub (ub (kA u (r (s + 1)) (u (r 0))) (r 0) g') 5 (up2 (u 5) 0 0 (nI (s + 1)))) r)
    (cL : u 5 0 0 = nI 4 → CT E y6 w6 r6 (.ref (eA E 5 0) :: as) (ub (ub u (r 0) (u (r 0))) 5 (u 5)) r (some (.int x)) (ub (ub (kA u (r 1) (u (r 0))) (r 0) g') 5 (up2 (up2 (u 5) 0 0 (nI 3)) 0 0 (nI 4))) (kR r))
    (c7 : ∀ (v1 : U3) (r1 : R1), CT E y7 w7 r7 (.ref (eA E 6 0) :: as) (ub v1 6 (u 6)) r1 (some (.int x)) (ub v1 6 (M_push m1)) r1)
    (hm : ∀ k j, k ≠ 1 → m1 k j = M_bring (u 6) 1 0 2 0 k j) (hg : RH N' g' (m1 1)) : StI E N u r y6 w6 r6 y7 w7 r7 as := by
  obtain ⟨hr, s, HS⟩ := H
  have hmo : mOk u m1 := ⟨fun p hp => by rw [hm 2 p (by decide)]; exact sv_2 hp, fun k j z => by rw [hm k j (by omega)]; exact sv_n (by omega)⟩
  have r0 := hr.1 0 (by omega)
  have r1' := hr.1 1 (by omega)
  by_cases c : s < 4
  · have rs := hr.1 (s + 1) (by omega)
    refine ⟨x, _, r, _, cIi (cK s c HS.2.1), mI ?_ (c7 _ r), IV_mono (IV_K hr HS c h1 hg hmo ⟨up2_s _ _ _ _, fun k j z => up2_n (by omega)⟩) h2⟩
    rw [ub56, ub_ne (by omega)]
    unfold kA
    rw [ub_ne (by omega)]
  · have hs4 : s = 4 := by have := HS.1; omega
    subst hs4
    refine ⟨x, _, kR r, _, cIi (cL HS.2.1), mI ?_ (c7 _ (kR r)), IV_mono (IV_L hr HS h1 hg hmo ⟨up2_s _ _ _ _, fun k j z => by rw [up2_n (by omega), up2_n (by omega)]⟩) h2⟩
    rw [ub56, ub_ne (by omega)]
    unfold kA
    rw [ub_ne (by omega)]
end ST
theorem pN_iff {w : Int32} {n : Nat} (hn : n < 2 ^ 31) : (¬ w < 0 ∧ ¬ nI n ≤ w) ↔ vI w n := by
  constructor
  · rintro ⟨h1, h2⟩; exact vI_of hn h1 h2
  · rintro ⟨j, hj, rfl⟩; exact ⟨nI_pos (by omega), nI_ge hj hn⟩
theorem RP_0 {r : R1} (h : RP r) : r 0 < 5 ∧ r 0 ≠ 5 ∧ (∀ j, j < 4 → r 0 ≠ r (j + 1)) := ⟨h.1 0 (by omega), by have := h.1 0 (by omega); omega, fun j hj z => absurd (h.2 0 (j + 1) (by omega) (by omega) z) (by omega)⟩

theorem st_of {E : EN} {N : Nat} {u : U3} {r : R1} (H : IV N u r) (hN : N + 15200 < 2 ^ 30) (d w : Int32) : StI E N u r yX6_of wsX6_of (rmT 2 43) yX7_of wsX7_of (rmT 3 65) [.int d, .int w] := by
  obtain ⟨hr, s, HS⟩ := id H
  have hR := HS.2.2.2.1
  obtain ⟨hi, hi5, hrn⟩ := RP_0 hr
  have b1 := ix_lt hR.1.1.1 (by decide)
  have b2 := ix_lt hR.1.1.2 (by decide)
  have cc : ((¬ d < 0 ∧ ¬ u (r 0) 1 0 ≤ d) ∧ (¬ w < 0 ∧ ¬ nI 11 ≤ w)) ↔ ((¬ d < nI 0 ∧ ¬ u 6 1 529 - nI 1 < d) ∧ (¬ w < nI 0 ∧ ¬ nI 10 < w)) := by
    rw [show (¬ d < 0 ∧ ¬ u (r 0) 1 0 ≤ d) ↔ (¬ d < nI 0 ∧ ¬ u 6 1 529 - nI 1 < d) from pD_mp hR.1, pN_iff (by decide), show (¬ w < nI 0 ∧ ¬ nI 10 < w) ↔ vI w 11 from mpI_iff (by decide)]
  by_cases c : (¬ d < 0 ∧ ¬ u (r 0) 1 0 ≤ d) ∧ (¬ w < 0 ∧ ¬ nI 11 ≤ w)
  · obtain ⟨j, hj, rfl⟩ := (pX_iff (N := 8) hR.1.1.1 (by decide)).mp c.1
    obtain ⟨k, hk, rfl⟩ := (pN_iff (by decide)).mp c.2
    have c7 := c_X7_of_O E u r (u 6) j k (by rw [hR.1.2.2.2.1.2.2.2.1]; exact hR.1.1.1) (by rw [hR.1.2.2.2.1.2.2.2.1]; exact hj) hk
    rw [abD_eq hR hj hk] at c7
    exact st_q H (c_X6_of_O E u r (u 5) (u (r 0)) j k hi hi5 hR.1.1.1 hj hk) c7
  · exact st_ref H (Or.inl rfl) (u 6) (Or.inl rfl) (c_X6_of_B E u r (u 5) (u (r 0)) d w hi hi5 c) (fun v1 => c_X7_of_B E v1 r (u 6) d w (fun z => c (cc.mpr z)))

theorem st_about {E : EN} {N : Nat} {u : U3} {r : R1} (H : IV N u r) (hN : N + 15200 < 2 ^ 30) (b w : Int32) : StI E N u r yX6_about wsX6_about (rmT 2 42) yX7_about wsX7_about (rmT 2 43) [.int b, .int w] := by
  obtain ⟨hr, s, HS⟩ := id H
  have hR := HS.2.2.2.1
  obtain ⟨hi, hi5, hrn⟩ := RP_0 hr
  have b1 := ix_lt hR.1.1.1 (by decide)
  have b2 := ix_lt hR.1.1.2 (by decide)
  have cc : ((¬ b < 0 ∧ ¬ u (r 0) 18 0 ≤ b) ∧ (¬ w < 0 ∧ ¬ nI 6 ≤ w)) ↔ ((¬ b < nI 0 ∧ ¬ u 6 1 530 - nI 1 < b) ∧ (¬ w < nI 0 ∧ ¬ nI 5 < w)) := by
    rw [show (¬ b < 0 ∧ ¬ u (r 0) 18 0 ≤ b) ↔ (¬ b < nI 0 ∧ ¬ u 6 1 530 - nI 1 < b) from pB_mp hR.1, pN_iff (by decide), show (¬ w < nI 0 ∧ ¬ nI 5 < w) ↔ vI w 6 from mpI_iff (by decide)]
  by_cases c : (¬ b < 0 ∧ ¬ u (r 0) 18 0 ≤ b) ∧ (¬ w < 0 ∧ ¬ nI 6 ≤ w)
  · obtain ⟨j, hj, rfl⟩ := (pX_iff (N := 8) hR.1.1.2 (by decide)).mp c.1
    obtain ⟨k, hk, rfl⟩ := (pN_iff (by decide)).mp c.2
    have c7 := c_X7_about_O E u r (u 6) j k (by rw [hR.1.2.2.2.1.2.2.2.2]; exact hR.1.1.2) (by rw [hR.1.2.2.2.1.2.2.2.2]; exact hj) hk
    rw [bw_eq hR hj hk] at c7
    exact st_q H (c_X6_about_O E u r (u 5) (u (r 0)) j k hi hi5 hR.1.1.2 hj hk) c7
  · exact st_ref H (Or.inl rfl) (u 6) (Or.inl rfl) (c_X6_about_B E u r (u 5) (u (r 0)) b w hi hi5 c) (fun v1 => c_X7_about_B E v1 r (u 6) b w (fun z => c (cc.mpr z)))

theorem st_note {E : EN} {N : Nat} {u : U3} {r : R1} (H : IV N u r) (hN : N + 15200 < 2 ^ 30) (d i w : Int32) : StI E N u r yX6_note wsX6_note (rmT 2 42) yX7_note wsX7_note (rmT 2 43) [.int d, .int i, .int w] := by
  obtain ⟨hr, s, HS⟩ := id H
  have hR := HS.2.2.2.1
  obtain ⟨hi, hi5, hrn⟩ := RP_0 hr
  have b1 := ix_lt hR.1.1.1 (by decide)
  have b2 := ix_lt hR.1.1.2 (by decide)
  have cc : ((¬ d < 0 ∧ ¬ u (r 0) 1 0 ≤ d) ∧ ¬ i < 0 ∧ (w = 0 ∨ w = nI 1)) ↔ ((¬ d < nI 0 ∧ ¬ u 6 1 529 - nI 1 < d) ∧ ¬ i < 0 ∧ (¬ w < nI 0 ∧ ¬ nI 1 < w)) := by
    rw [show (¬ d < 0 ∧ ¬ u (r 0) 1 0 ≤ d) ↔ (¬ d < nI 0 ∧ ¬ u 6 1 529 - nI 1 < d) from pD_mp hR.1, show (w = 0 ∨ w = nI 1) ↔ vI w 2 from pF_iff, show (¬ w < nI 0 ∧ ¬ nI 1 < w) ↔ vI w 2 from mpI_iff (by decide)]
  by_cases c : (¬ d < 0 ∧ ¬ u (r 0) 1 0 ≤ d) ∧ ¬ i < 0 ∧ (w = 0 ∨ w = nI 1)
  · obtain ⟨j, hj, rfl⟩ := (pX_iff (N := 8) hR.1.1.1 (by decide)).mp c.1
    obtain ⟨p, hp, rfl⟩ := nI_of c.2.1
    have cw := c.2.2
    obtain ⟨k, hk, rfl⟩ := pF_iff.mp cw
    obtain ⟨n1, n2, -⟩ := hR.2.2.2.1 j hj
    have c7 := c_X7_note_O E u r (u 6) j p k (by rw [hR.1.2.2.2.1.2.2.2.1]; exact hR.1.1.1) (by rw [hR.1.2.2.2.1.2.2.2.1]; exact hj) hp hk (by rw [n1]; exact n2)
    rw [note_eq hR hj hk] at c7
    exact st_q H (c_X6_note_O E u r (u 5) (u (r 0)) j p (nI k) hi hi5 hR.1.1.1 hj n2 hp cw) c7
  · exact st_ref H (Or.inl rfl) (u 6) (Or.inl rfl) (c_X6_note_B E u r (u 5) (u (r 0)) d i w hi hi5 c) (fun v1 => c_X7_note_B E v1 r (u 6) d i w (fun z => c (cc.mpr z)))

theorem st_inside {E : EN} {N : Nat} {u : U3} {r : R1} (H : IV N u r) (hN : N + 15200 < 2 ^ 30) (a w : Int32) : StI E N u r yX6_inside wsX6_inside (rmT 2 41) yX7_inside wsX7_inside (rmT 2 45) [.int a, .int w] := by
  obtain ⟨hr, s, HS⟩ := id H
  have hR := HS.2.2.2.1
  obtain ⟨hi, hi5, hrn⟩ := RP_0 hr
  have b1 := ix_lt hR.1.1.1 (by decide)
  have b2 := ix_lt hR.1.1.2 (by decide)
  have ca : (¬ a < 0 ∧ ¬ nI 6 ≤ a) ↔ (¬ a < nI 0 ∧ ¬ nI 5 < a) := by
    rw [pN_iff (by decide), show (¬ a < nI 0 ∧ ¬ nI 5 < a) ↔ vI a 6 from mpI_iff (by decide)]
  have cc : ((¬ a < 0 ∧ ¬ nI 6 ≤ a) ∧ (w = 0 ∨ w = nI 1)) ↔ ((¬ a < nI 0 ∧ ¬ nI 5 < a) ∧ (¬ w < nI 0 ∧ ¬ nI 1 < w)) := by
    rw [ca, show (w = 0 ∨ w = nI 1) ↔ vI w 2 from pF_iff, show (¬ w < nI 0 ∧ ¬ nI 1 < w) ↔ vI w 2 from mpI_iff (by decide)]
  have hB : vI (u 6 1 530) 9 := by rw [hR.1.2.2.2.1.2.2.2.2]; exact hR.1.1.2
  by_cases c : (¬ a < 0 ∧ ¬ nI 6 ≤ a) ∧ (w = 0 ∨ w = nI 1)
  · rcases c.2 with z | z
    · have c7 := c_X7_inside_C E u r (u 6) a hB (ca.mp c.1)
      rw [insC_eq hR.1] at c7
      rw [show w = nI 0 from z]
      exact st_q H (c_X6_inside_C E u r (u 5) (u (r 0)) a hi hi5 hR.1.1.2 c.1) c7
    · have c7 := c_X7_inside_S E u r (u 6) a hB (ca.mp c.1)
      rw [ins_eq hR.1] at c7
      rw [z]
      exact st_q H (c_X6_inside_S E u r (u 5) (u (r 0)) a hi hi5 hR.1.1.2 c.1) c7
  · exact st_ref H (Or.inl rfl) (u 6) (Or.inl rfl) (c_X6_inside_B E u r (u 5) (u (r 0)) a w hi hi5 c) (fun v1 => c_X7_inside_B E v1 r (u 6) a w (fun z => c (cc.mpr z)))

theorem st_muster {E : EN} {N : Nat} {u : U3} {r : R1} (H : IV N u r) (hN : N + 15200 < 2 ^ 30) (a : Int32) : StI E N u r yX6_muster wsX6_muster (rmT 2 41) yX7_muster wsX7_muster (rmT 2 45) [.int a] := by
  obtain ⟨hr, s, HS⟩ := id H
  have hR := HS.2.2.2.1
  obtain ⟨hi, hi5, hrn⟩ := RP_0 hr
  have b1 := ix_lt hR.1.1.1 (by decide)
  have b2 := ix_lt hR.1.1.2 (by decide)
  have ca : (¬ a < 0 ∧ ¬ nI 6 ≤ a) ↔ (¬ a < nI 0 ∧ ¬ nI 5 < a) := by
    rw [pN_iff (by decide), show (¬ a < nI 0 ∧ ¬ nI 5 < a) ↔ vI a 6 from mpI_iff (by decide)]
  have hB : vI (u 6 1 530) 9 := by rw [hR.1.2.2.2.1.2.2.2.2]; exact hR.1.1.2
  by_cases c : ¬ a < 0 ∧ ¬ nI 6 ≤ a
  · have c7 := c_X7_muster_O E u r (u 6) a hB (ca.mp c)
    rw [mus_eq hR.1 hR.2.2.2.2.2.2.2.2.1] at c7
    exact st_q H (c_X6_muster_O E u r (u 5) (u (r 0)) a hi hi5 hR.1.1.2 c) c7
  · exact st_ref H (Or.inl rfl) (u 6) (Or.inl rfl) (c_X6_muster_B E u r (u 5) (u (r 0)) a hi hi5 c) (fun v1 => c_X7_muster_B E v1 r (u 6) a (fun z => c (ca.mpr z)))

theorem st_passed {E : EN} {N : Nat} {u : U3} {r : R1} (H : IV N u r) (hN : N + 15200 < 2 ^ 30) (i w : Int32) : StI E N u r yX6_passed wsX6_passed (rmT 1 23) yX7_passed wsX7_passed (rmT 1 22) [.int i, .int w] := by
  obtain ⟨hr, s, HS⟩ := id H
  have hR := HS.2.2.2.1
  obtain ⟨hi, hi5, hrn⟩ := RP_0 hr
  have b1 := ix_lt hR.1.1.1 (by decide)
  have b2 := ix_lt hR.1.1.2 (by decide)
  have cc : (¬ i < 0 ∧ (¬ w < 0 ∧ ¬ nI 3 ≤ w)) ↔ (¬ i < 0 ∧ (¬ w < nI 0 ∧ ¬ nI 2 < w)) := by
    rw [pN_iff (by decide), show (¬ w < nI 0 ∧ ¬ nI 2 < w) ↔ vI w 3 from mpI_iff (by decide)]
  have hT := hR.2.2.2.2.2.1
  by_cases c : ¬ i < 0 ∧ (¬ w < 0 ∧ ¬ nI 3 ≤ w)
  · obtain ⟨p, hp, rfl⟩ := nI_of c.1
    obtain ⟨k, hk, rfl⟩ := (pN_iff (by decide)).mp c.2
    have c7 := c_X7_passed_O E u r (u 6) p k (by rw [hT.2.1]; exact hT.1) hp hk
    rw [psd_eq hR hk] at c7
    exact st_q H (c_X6_passed_O E u r (u 5) (u (r 0)) p k hi hi5 hT.1 (fun a ha => (hT.2.2.1 a ha).1) hp hk) c7
  · exact st_ref H (Or.inl rfl) (u 6) (Or.inl rfl) (c_X6_passed_B E u r (u 5) (u (r 0)) i w hi hi5 c) (fun v1 => c_X7_passed_B E v1 r (u 6) i w (fun z => c (cc.mpr z)))

theorem st_count {E : EN} {N : Nat} {u : U3} {r : R1} (H : IV N u r) (hN : N + 15200 < 2 ^ 30) (w : Int32) : StI E N u r yX6_count wsX6_count (rmT 3 63) yX7_count wsX7_count (rmT 1 22) [.int w] := by
  obtain ⟨hr, s, HS⟩ := id H
  have hR := HS.2.2.2.1
  obtain ⟨hi, hi5, hrn⟩ := RP_0 hr
  have b1 := ix_lt hR.1.1.1 (by decide)
  have b2 := ix_lt hR.1.1.2 (by decide)
  have cc : (¬ w < 0 ∧ ¬ nI 12 ≤ w) ↔ (¬ w < nI 0 ∧ ¬ nI 11 < w) := by
    rw [pN_iff (by decide), show (¬ w < nI 0 ∧ ¬ nI 11 < w) ↔ vI w 12 from mpI_iff (by decide)]
  by_cases c : ¬ w < 0 ∧ ¬ nI 12 ≤ w
  · obtain ⟨k, hk, rfl⟩ := (pN_iff (by decide)).mp c
    have c7 := c_X7_count_O E u r (u 6) k hk
    rw [cnt_eq hR hk] at c7
    exact st_q H (c_X6_count_O E u r (u 5) (u (r 0)) k hi hi5 hk) c7
  · exact st_ref H (Or.inl rfl) (u 6) (Or.inl rfl) (c_X6_count_B E u r (u 5) (u (r 0)) w hi hi5 c) (fun v1 => c_X7_count_B E v1 r (u 6) w (fun z => c (cc.mpr z)))

theorem told_eq {N s : Nat} {u : U3} {r : R1} (HS : IVs N s u r) {w : Nat} (hw : w < 7) : M_told (u 6) w = H_told (u 5) (u (r 0)) w := by
  obtain ⟨h1, h2, h3, h4, h5, ⟨e1, e2, e3⟩, L, l1, l2, l3, l4⟩ := HS
  unfold M_told H_told
  rcases (by omega : w = 0 ∨ w = 1 ∨ w = 2 ∨ w = 3 ∨ w = 4 ∨ w = 5 ∨ w = 6) with rfl | rfl | rfl | rfl | rfl | rfl | rfl
  · exact e1.symm
  · exact e2.symm
  · exact e3.symm
  · show u 6 0 1 = u 5 2 0; rw [l2, l3]
  · exact h4.1.2.2.2.1.2.2.2.1
  · exact h4.1.2.2.2.1.2.2.2.2
  · show u 6 0 0 = u 5 0 0; rw [h2, h3]

theorem st_told {E : EN} {N : Nat} {u : U3} {r : R1} (H : IV N u r) (hN : N + 15200 < 2 ^ 30) (w : Int32) : StI E N u r yX6_told wsX6_told (rmT 1 21) yX7_told wsX7_told (rmT 1 22) [.int w] := by
  obtain ⟨hr, s, HS⟩ := id H
  have hR := HS.2.2.2.1
  obtain ⟨hi, hi5, hrn⟩ := RP_0 hr
  have b1 := ix_lt hR.1.1.1 (by decide)
  have b2 := ix_lt hR.1.1.2 (by decide)
  have cc : (¬ w < 0 ∧ ¬ nI 7 ≤ w) ↔ (¬ w < nI 0 ∧ ¬ nI 6 < w) := by
    rw [pN_iff (by decide), show (¬ w < nI 0 ∧ ¬ nI 6 < w) ↔ vI w 7 from mpI_iff (by decide)]
  by_cases c : ¬ w < 0 ∧ ¬ nI 7 ≤ w
  · obtain ⟨k, hk, rfl⟩ := (pN_iff (by decide)).mp c
    have c7 := c_X7_told_O E u r (u 6) k hk
    rw [told_eq HS hk] at c7
    exact st_q H (c_X6_told_O E u r (u 5) (u (r 0)) k hi hi5 hk) c7
  · exact st_ref H (Or.inl rfl) (u 6) (Or.inl rfl) (c_X6_told_B E u r (u 5) (u (r 0)) w hi hi5 c) (fun v1 => c_X7_told_B E v1 r (u 6) w (fun z => c (cc.mpr z)))

theorem st_digest {E : EN} {N : Nat} {u : U3} {r : R1} (H : IV N u r) (hN : N + 15200 < 2 ^ 30) : StL E N u r yX6_digest wsX6_digest (rmT 3 69) yX7_digest wsX7_digest (rmT 3 65) [] := by
  obtain ⟨hr, s, HS⟩ := id H
  have hR := HS.2.2.2.1
  obtain ⟨hi, hi5, hrn⟩ := RP_0 hr
  have b1 := ix_lt hR.1.1.1 (by decide)
  have b2 := ix_lt hR.1.1.2 (by decide)
  have hT := hR.2.2.2.2.2.1
  have c7 := c_X7_digest E u r (u 6) (by rw [hR.1.2.2.2.1.2.2.2.1]; exact hR.1.1.1) (by rw [hR.1.2.2.2.1.2.2.2.2]; exact hR.1.1.2) (by rw [hT.2.1]; exact hT.1)
  rw [dig_eq hR (fun w hw => told_eq HS hw)] at c7
  exact ⟨_, u, r, u, cQ0 (c_X6_digest E u r (u 5) (u (r 0)) hi hi5 hR.1.1.1 hR.1.1.2 hT.1 (fun a ha => (hT.2.2.1 a ha).1)), mQ rfl c7, IV_mono H (by omega)⟩

theorem R_meas_n {g x : HB} {b c k j : Nat} (hk : k ≠ 6) : R_meas g b c x k j = x k j := by
  unfold R_meas
  rw [show iter (R_step g b) 5 (up2 (R_clr x) 6 c (nI 0)) k j = (up2 (R_clr x) 6 c (nI 0)) k j from iter_keep (fun z : HB => z k j) (fun n z => ?_) 5 _, up2_n (fun z => hk z.1)]
  · exact iter_keep (fun z : HB => z k j) (fun n z => up2_n (fun w => hk w.1)) 6 x
  · exact iter_keep (fun z : HB => z k j) (fun n z => by
      show R_ms g b _ n z k j = z k j
      unfold R_ms
      split
      · exact up2_n (fun w => hk w.1)
      · rfl) _ z
theorem M_way_n {m : HB} {b c k j : Nat} {l : List Nat} (h1 : k ≠ 9) (h2 : k ≠ 10) (h3 : ¬ (k = 0 ∧ j = 3)) : M_way m b c l k j = m k j := by
  unfold M_way
  rw [wkH_n _ _ _ h2 h3, up2_n h3, M_far_row h1]

theorem st_way {E : EN} {N : Nat} {u : U3} {r : R1} (H : IV N u r) (hN : N + 15200 < 2 ^ 30) (b a c i : Int32) : StI E N u r yX6_way wsX6_way (rmT 5 117) yX7_way wsX7_way (rmT 5 112) [.int b, .int a, .int c, .int i] := by
  obtain ⟨hr, s, HS⟩ := id H
  have hR := HS.2.2.2.1
  obtain ⟨hi, hi5, hrn⟩ := RP_0 hr
  have b1 := ix_lt hR.1.1.1 (by decide)
  have b2 := ix_lt hR.1.1.2 (by decide)
  have cc : ((¬ b < 0 ∧ ¬ u (r 0) 18 0 ≤ b) ∧ (¬ a < 0 ∧ ¬ nI 6 ≤ a) ∧ (¬ c < 0 ∧ ¬ nI 6 ≤ c) ∧ ¬ a = c ∧ (-1 : Int32) ≤ i) ↔ ((¬ b < nI 0 ∧ ¬ u 6 1 530 - nI 1 < b) ∧ (¬ a < nI 0 ∧ ¬ nI 5 < a) ∧ (¬ c < nI 0 ∧ ¬ nI 5 < c) ∧ ¬ a = c ∧ (-1 : Int32) ≤ i) := by
    rw [show (¬ b < 0 ∧ ¬ u (r 0) 18 0 ≤ b) ↔ (¬ b < nI 0 ∧ ¬ u 6 1 530 - nI 1 < b) from pB_mp hR.1, pN_iff (by decide), pN_iff (by decide), show (¬ a < nI 0 ∧ ¬ nI 5 < a) ↔ vI a 6 from mpI_iff (by decide), show (¬ c < nI 0 ∧ ¬ nI 5 < c) ↔ vI c 6 from mpI_iff (by decide)]
  by_cases q : (¬ b < 0 ∧ ¬ u (r 0) 18 0 ≤ b) ∧ (¬ a < 0 ∧ ¬ nI 6 ≤ a) ∧ (¬ c < 0 ∧ ¬ nI 6 ≤ c) ∧ ¬ a = c ∧ (-1 : Int32) ≤ i
  · obtain ⟨q1, q2, q3, q4, q5⟩ := q
    obtain ⟨x, hx, rfl⟩ := (pX_iff (N := 8) hR.1.1.2 (by decide)).mp q1
    obtain ⟨y, hy, rfl⟩ := (pN_iff (by decide)).mp q2
    obtain ⟨z, hz, rfl⟩ := (pN_iff (by decide)).mp q3
    have hne : y ≠ z := fun w => q4 (by rw [w])
    have hA : ∀ d, d < ix (u (r 0) 1 0) → vI (u (r 0) 2 d) 6 ∧ vI (u (r 0) 3 d) 6 := fun d hd => ⟨(hR.2.2.2.2.2.2.2.1 d hd).1, (hR.2.2.2.2.2.2.2.1 d hd).2.1⟩
    obtain ⟨l, l1, l2, l3, l4⟩ := way_eq (h := u 5) hR hx hy hz hne
    have hB : vI (u 6 1 530) 9 := by rw [hR.1.2.2.2.1.2.2.2.2]; exact hR.1.1.2
    have hbm : x < ix (u 6 1 530) := by rw [hR.1.2.2.2.1.2.2.2.2]; exact hx
    have hD : vI (u 6 1 529) 9 := by rw [hR.1.2.2.2.1.2.2.2.1]; exact hR.1.1.1
    have fin : IV (N + 15000) (ub (ub u 5 (R_meas (u (r 0)) x z (u 5))) 6 (M_way (u 6) x z l)) r := IV_mono (IV_same H (fun k j w => R_meas_n (by omega)) (fun k j w => M_way_n (by omega) (by omega) (by omega))) (by omega)
    by_cases e : i = -1
    · subst e
      have c7 := c_X7_way_N E (ub u 5 (R_meas (u (r 0)) x z (u 5))) r (u 6) x y z l hB hbm hy hz hne hD (DOk_of hR) l1 l2
      rw [l3] at c7
      exact ⟨_, _, r, _, cRr (c_X6_way_N E u r (u 5) (u (r 0)) x y z hi hi5 hR.1.1.2 hx hy hz hne hR.1.1.1 hA), mI ub56 c7, fin⟩
    · have i0 : ¬ i < 0 := by
        intro w
        have h1 := Int32.lt_iff_toInt_lt.mp w
        have h2 := Int32.le_iff_toInt_le.mp q5
        have h3 : (-1 : Int32).toInt = -1 := by decide
        have h4 : (0 : Int32).toInt = 0 := by decide
        exact e (Int32.toInt_inj.mp (by omega))
      obtain ⟨p, hp, rfl⟩ := nI_of i0
      have c7 := c_X7_way_I E (ub u 5 (R_meas (u (r 0)) x z (u 5))) r (u 6) x y z l p hB hbm hy hz hne hD (DOk_of hR) l1 l2 hp
      rw [l4 p hp] at c7
      exact ⟨_, _, r, _, cRr (c_X6_way_I E u r (u 5) (u (r 0)) x y z p hi hi5 hR.1.1.2 hx hy hz hne hR.1.1.1 hA hp), mI ub56 c7, fin⟩
  · exact st_ref H (Or.inl rfl) (u 6) (Or.inl rfl) (c_X6_way_B E u r (u 5) (u (r 0)) b a c i hi hi5 q) (fun v1 => c_X7_way_B E v1 r (u 6) b a c i (fun z => q (cc.mpr z)))
