/-! the text's calls, back, reads -/
theorem cTy {E : EN} {y : MethodName} {ws : List Cond} {rm : Room} {as : List Value} {u : U3} {r r' : R1} {oc : Option Value} {X : HB} (h : CT E y ws rm as (ub u 5 (u 5)) r oc (ub u 5 X) r') : CT E y ws rm as u r oc (ub u 5 X) r' := by
  rw [ub_self] at h
  exact h

theorem st_clear {E : EN} {N : Nat} {u : U3} {r : R1} (H : IV N u r) (hN : N + 15200 < 2 ^ 30) : StI E N u r yX6_clear wsX6_clear (rmT 1 21) yX7_clear wsX7_clear (rmT 0 0) [] := by
  obtain ⟨hr, s, HS⟩ := id H
  have hR := HS.2.2.2.1
  obtain ⟨hi, hi5, hrn⟩ := RP_0 hr
  have b1 := ix_lt hR.1.1.1 (by decide)
  have b2 := ix_lt hR.1.1.2 (by decide)
  obtain ⟨h1, h2, h3, h4, h5, h6, L, l1, l2, l3, l4⟩ := HS
  have c6 := c_X6_clear E u r (u 5)
  have c7 := c_X7_clear E (ub u 5 (up2 (u 5) 2 0 (nI 0))) r (u 6)
  rw [l2] at c6
  rw [l3] at c7
  refine ⟨nI L, _, r, _, cTy c6, mI ub56 c7, ?_⟩
  have x5 : ub (ub u 5 (up2 (u 5) 2 0 (nI 0))) 6 (up2 (u 6) 0 1 (nI 0)) 5 = up2 (u 5) 2 0 (nI 0) := by rw [ub65, ub5]
  have xb : ∀ i, i < 5 → ub (ub u 5 (up2 (u 5) 2 0 (nI 0))) 6 (up2 (u 6) 0 1 (nI 0)) i = u i := fun i hi => by rw [ub_ne (by omega), ub_ne (by omega)]
  refine IV_mono ⟨hr, s, h1, ?_, ?_, ?_, fun j hj => ?_, ?_, 0, by omega, ?_, ?_, ?_⟩ (show N ≤ N + 15000 by omega)
  · rw [x5, up2_n (by omega)]; exact h2
  · rw [ub6, up2_n (by omega)]; exact h3
  · rw [xb _ hi, ub6]
    exact RH_row h4 (fun p _ => up2_n (by omega))
  · rw [xb _ (hr.1 _ (by omega)), ub6]
    exact RH_row (h5 j hj) (fun p _ => by show up2 _ _ _ _ 3 _ = _; rw [up2_n (by omega)])
  · rw [x5, ub6, up2_n (by omega), up2_n (by omega), up2_n (by omega), up2_n (by omega), up2_n (by omega), up2_n (by omega)]; exact h6
  · rw [x5, up2_s]
  · rw [ub6, up2_s]
  · rw [x5, ub6]
    funext j
    rw [up2_n (by omega), up2_n (by omega), l4]

theorem st_type {E : EN} {N : Nat} {u : U3} {r : R1} (H : IV N u r) (hN : N + 15200 < 2 ^ 30) (c : Int32) : StI E N u r yX6_type wsX6_type (rmT 1 21) yX7_type wsX7_type (rmT 1 22) [.int c] := by
  obtain ⟨hr, s, HS⟩ := id H
  have hR := HS.2.2.2.1
  obtain ⟨hi, hi5, hrn⟩ := RP_0 hr
  have b1 := ix_lt hR.1.1.1 (by decide)
  have b2 := ix_lt hR.1.1.2 (by decide)
  obtain ⟨h1, h2, h3, h4, h5, h6, L, l1, l2, l3, l4⟩ := id HS
  have cc : (¬ c < 0 ∧ c ≤ nI 127) ↔ (¬ c < nI 0 ∧ ¬ nI 127 < c) := by
    rw [nI_0]
    exact ⟨fun z => ⟨z.1, Int32.not_lt.mpr z.2⟩, fun z => ⟨z.1, Int32.not_lt.mp z.2⟩⟩
  by_cases q : ¬ c < 0 ∧ c ≤ nI 127
  · by_cases e : L = 150
    · subst e
      have c6 := c_X6_type_F E (ub u (r 0) (u (r 0))) r (u 5) c q l2
      exact st_ref H (Or.inr (Or.inr rfl)) (u 6) (Or.inl rfl) c6 (fun v1 => c_X7_type_F E v1 r (u 6) c (cc.mp q) l3)
    · have c6 := c_X6_type_O E u r (u 5) c L q l2 (by omega)
      have c7 := c_X7_type_O E (ub u 5 (up2 (up2 (u 5) 4 L c) 2 0 (nI (L + 1)))) r (u 6) c (cc.mp q) (by rw [l3]; exact ⟨L, by omega, rfl⟩)
      rw [l3, ix_nI (by omega)] at c7
      refine ⟨nI (L + 1), _, r, _, cTy c6, mI ub56 c7, ?_⟩
      have x5 : ub (ub u 5 (up2 (up2 (u 5) 4 L c) 2 0 (nI (L + 1)))) 6 (up2 (up2 (u 6) 5 L c) 0 1 (nI (L + 1))) 5 = up2 (up2 (u 5) 4 L c) 2 0 (nI (L + 1)) := by rw [ub65, ub5]
      have xb : ∀ i, i < 5 → ub (ub u 5 (up2 (up2 (u 5) 4 L c) 2 0 (nI (L + 1)))) 6 (up2 (up2 (u 6) 5 L c) 0 1 (nI (L + 1))) i = u i := fun i hi => by rw [ub_ne (by omega), ub_ne (by omega)]
      refine IV_mono ⟨hr, s, h1, ?_, ?_, ?_, fun j hj => ?_, ?_, L + 1, by omega, ?_, ?_, ?_⟩ (show N ≤ N + 15000 by omega)
      · rw [x5, up2_n (by omega), up2_n (by omega)]; exact h2
      · rw [ub6, up2_n (by omega), up2_n (by omega)]; exact h3
      · rw [xb _ hi, ub6]
        exact RH_row h4 (fun p _ => by rw [up2_n (by omega), up2_n (by omega)])
      · rw [xb _ (hr.1 _ (by omega)), ub6]
        exact RH_row (h5 j hj) (fun p _ => by show up2 _ _ _ _ 3 _ = _; rw [up2_n (by omega), up2_n (by omega)])
      · rw [x5, ub6, up2_n (by omega), up2_n (by omega), up2_n (by omega), up2_n (by omega), up2_n (by omega), up2_n (by omega), up2_n (by omega), up2_n (by omega), up2_n (by omega), up2_n (by omega), up2_n (by omega), up2_n (by omega)]; exact h6
      · rw [x5, up2_s]
      · rw [ub6, up2_s]
      · rw [x5, ub6]
        funext j
        rw [up2_n (by omega), up2_n (k := 0) (by omega)]
        by_cases w : j = L
        · subst w; rw [up2_s, up2_s]
        · rw [up2_n (by omega), up2_n (by omega), l4]
  · have c6 := c_X6_type_B E (ub u (r 0) (u (r 0))) r (u 5) c q
    exact st_ref H (Or.inl rfl) (u 6) (Or.inl rfl) c6 (fun v1 => c_X7_type_B E v1 r (u 6) c (fun z => q (cc.mpr z)))

theorem st_back {E : EN} {N : Nat} {u : U3} {r : R1} (H : IV N u r) (hN : N + 15200 < 2 ^ 30) : StI E N u r yX6_back wsX6_back (rmT 1 21) yX7_back wsX7_back (rmT 1 24) [] := by
  obtain ⟨hr, s, HS⟩ := id H
  have hR := HS.2.2.2.1
  obtain ⟨hi, hi5, hrn⟩ := RP_0 hr
  have b1 := ix_lt hR.1.1.1 (by decide)
  have b2 := ix_lt hR.1.1.2 (by decide)
  have h2 := HS.2.1
  have h3 := HS.2.2.1
  have s4 := HS.1
  by_cases c : s = 0
  · subst c
    have c6 := c_X6_back_B E (ub u (r 0) (u (r 0))) r (u 5) h2
    exact st_ref H (Or.inr (Or.inl rfl)) (u 6) (Or.inl rfl) c6 (fun v1 => c_X7_back_B E v1 r (u 6) h3)
  · have c6 := c_X6_back_O E u r (u 5) s hi h2 (by omega) s4
    have c7 := c_X7_back_O E (ub u 5 (up2 (u 5) 0 0 (nI (s - 1)))) (upr (upr r (s - 1 + 1) (r 0)) 0 (r (s - 1 + 1))) (u 6) (by rw [h3, ix_nI (by omega)]; exact c) (by rw [h3]; exact ⟨s, by omega, rfl⟩)
    rw [h3, ix_nI (by omega)] at c7
    exact ⟨nI (s - 1), _, _, _, cTy c6, mI ub56 c7, IV_mono (IV_back hr HS (by omega)) (by omega)⟩

theorem st_reads {E : EN} {N : Nat} {u : U3} {r : R1} (H : IV N u r) (hN : N + 15200 < 2 ^ 30) : StI E N u r yX6_reads wsX6_reads (rmT 8 175) yX7_reads wsX7_reads (rmT 6 138) [] := by
  obtain ⟨hr, s, HS⟩ := id H
  have hR := HS.2.2.2.1
  obtain ⟨hi, hi5, hrn⟩ := RP_0 hr
  have b1 := ix_lt hR.1.1.1 (by decide)
  have b2 := ix_lt hR.1.1.2 (by decide)
  have hT := hR.2.2.2.2.2.1
  obtain ⟨h1, h2, h3, h4, h5, h6, L, l1, l2, l3, l4⟩ := id HS
  obtain ⟨Q, q1, q2, q3, q4, q5, q6, q7⟩ := rtF_v (f := u 5 4) (L := L) l1 (u 6)
  by_cases c : stR (u 5 4) L Q = -1
  · obtain ⟨n1, n2⟩ := q6 c
    generalize hm2 : M_bring (M_rtF (u 6) (u 5 4) L).2 1 0 2 0 = m2
    have m2n : ∀ k j, k ≠ 2 → m2 k j = (M_rtF (u 6) (u 5 4) L).2 k j := fun k j z => by rw [← hm2]; exact sv_n z
    have m21 : m2 1 = u 6 1 := by funext j; rw [m2n _ _ (by decide), q7 _ _ (by omega) (by omega) (by omega) (by omega)]
    have hS : RH N (u (r 0)) (m2 1) := by rw [m21]; exact hR
    have rd : RdS (u 5 4) L m2 Q := ⟨by rw [m2n _ _ (by decide)]; exact n2.1, fun j hj => by rw [m2n _ _ (by decide)]; exact n2.2.1 j hj, fun j hj => by rw [m2n _ _ (by decide)]; exact n2.2.2.1 j hj, fun j i hj hi => by rw [m2n _ _ (by decide)]; exact n2.2.2.2 j i hj hi⟩
    have v0 : vI (m2 0 0) 5 := by rw [m2n _ _ (by decide), q7 _ _ (by omega) (by omega) (by omega) (by omega), h3]; exact ⟨s, by omega, rfl⟩
    have ro := RdOk_of l1 hS rd q1 (by omega) (by omega) v0
    have mo : mOk u (M_rd m2 Q).2 := ⟨fun p hp => by rw [M_rd_k m2 (by decide), ← hm2, sv_2 hp, q7 _ _ (by omega) (by omega) (by omega) (by omega)], fun k j z => by rw [M_rd_k m2 (by omega), m2n _ _ (by omega), q7 _ _ (by omega) (by omega) (by omega) (by omega)]⟩
    have c7 : ∀ (v1 : U3) (r1 : R1), CT E yX7_reads wsX7_reads (rmT 6 138) [.ref (eA E 6 0)] (ub v1 6 (u 6)) r1 (some (.int (nI (M_rd m2 Q).1))) (ub v1 6 (M_push (M_rd m2 Q).2)) r1 := fun v1 r1 => by
      have := c_X7_reads_O E v1 r1 (u 6) (u 5 4) L Q l4.symm l3 l1 (by rw [q5]; exact c) (by rw [hm2]; exact ro)
      rw [hm2] at this
      exact this
    have r0 := hr.1 0 (by omega)
    have r1' := hr.1 1 (by omega)
    by_cases hs : s < 4
    · obtain ⟨k1, k2⟩ := rd_sim (h' := rdK (u 5) (u 5 4) L s) l1 hS rd q1 (by omega) Q (Nat.le_refl _)
      have c6 := c_X6_reads_K E u r (u 5) (u (r 0)) (u 5 4) L hi hi5 rfl l2 l1 hr.1 hrn hR.1.1.1 hR.1.1.2 hT.1 s h2 hs (by rw [q4]; exact c) Q (CdOk_of l1 hS rd q1 (by omega) (by omega) n1)
      rw [k2] at c6
      have rs := hr.1 (s + 1) (by omega)
      refine ⟨_, _, r, _, cIi c6, mI ?_ (c7 _ r), IV_mono (IV_K hr HS hs (show N ≤ N + 100 * Q by omega) k1 mo ⟨?_, fun k j z => ?_⟩) (by omega)⟩
      · rw [ub56, ub_ne (by omega)]
        unfold kA
        rw [ub_ne (by omega)]
      · rw [up2_n (by omega), cH_n _ _ _ (by omega)]
        unfold rdK
        rw [up2_n (by omega), up2_s]
      · rw [up2_n (by omega), cH_n _ _ _ (by omega)]
        unfold rdK
        rw [up2_n (by omega), up2_n (by omega), ffS_n (by omega)]
    · have hs4 : s = 4 := by omega
      subst hs4
      obtain ⟨k1, k2⟩ := rd_sim (h' := rdL (u 5) (u 5 4) L) l1 hS rd q1 (by omega) Q (Nat.le_refl _)
      have c6 := c_X6_reads_L E u r (u 5) (u (r 0)) (u 5 4) L hi hi5 rfl l2 l1 hr.1 hrn hR.1.1.1 hR.1.1.2 hT.1 h2 (by rw [q4]; exact c) Q (CdOk_of l1 hS rd q1 (by omega) (by omega) n1)
      rw [k2] at c6
      refine ⟨_, _, kR r, _, cIi c6, mI ?_ (c7 _ (kR r)), IV_mono (IV_L hr HS (show N ≤ N + 100 * Q by omega) k1 mo ⟨?_, fun k j z => ?_⟩) (by omega)⟩
      · rw [ub56, ub_ne (by omega)]
        unfold kA
        rw [ub_ne (by omega)]
      · rw [up2_n (by omega), cH_n _ _ _ (by omega)]
        unfold rdL
        rw [up2_n (by omega), up2_s]
      · rw [up2_n (by omega), cH_n _ _ _ (by omega)]
        unfold rdL
        rw [up2_n (by omega), up2_n (by omega), up2_n (by omega), ffS_n (by omega)]
  · have c6 := c_X6_reads_F E u r (u 5) (u (r 0)) (u 5 4) L hi hi5 rfl l2 l1 (by rw [q4]; exact c)
    have c7 := c_X7_reads_F E (ub u 5 (ffS (u 5) (u 5 4) L)) r (u 6) (u 5 4) L l4.symm l3 l1 (by rw [q5]; exact c)
    rw [q4] at c6
    rw [q5] at c7
    exact ⟨_, _, r, _, cRr c6, mI ub56 c7, IV_mono (IV_same H (fun k j z => ffS_n (by omega)) (fun k j z => q7 k j (by omega) (by omega) (by omega) (by omega))) (by omega)⟩
