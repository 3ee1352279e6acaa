/-! WHAT IS THERE AT THE START -/
set_option maxHeartbeats 4000000 in
set_option maxRecDepth 100000 in
theorem start_N {s : State} {args : Array Value} (hts : ∀ w ∈ lw_tbl, w.before args s = true) : XN s := ⟨va_Nw.of rfl (hts _ (List.mem_of_getElem? (i := 377) (by decide +kernel))), va_Nw.of rfl (hts _ (List.mem_of_getElem? (i := 367) (by decide +kernel))), va_Nw.of rfl (hts _ (List.mem_of_getElem? (i := 383) (by decide +kernel))), va_Nw.of rfl (hts _ (List.mem_of_getElem? (i := 396) (by decide +kernel))), va_Nw.of rfl (hts _ (List.mem_of_getElem? (i := 338) (by decide +kernel))), va_Nw.of rfl (hts _ (List.mem_of_getElem? (i := 344) (by decide +kernel))), va_Nw.of rfl (hts _ (List.mem_of_getElem? (i := 453) (by decide +kernel))), va_Nw.of rfl (hts _ (List.mem_of_getElem? (i := 382) (by decide +kernel))), va_Nw.of rfl (hts _ (List.mem_of_getElem? (i := 780) (by decide +kernel)))⟩
set_option maxHeartbeats 4000000 in
set_option maxRecDepth 100000 in
theorem start_O {s : State} {args : Array Value} (hts : ∀ w ∈ lw_tbl, w.before args s = true) : va_AO "BadgeDoors$House" s := va_AO.of (hts _ (List.mem_of_getElem? (i := 269) (by decide +kernel)))
set_option maxHeartbeats 4000000 in
set_option maxRecDepth 100000 in
theorem start_K {s : State} {args : Array Value} (hts : ∀ w ∈ lw_tbl, w.before args s = true) : ∃ (D : va_G) (cI : ClassId), va_K D vwCl [(cI, .int)] s := by
  obtain ⟨k0, i0, h0⟩ := u_known (C := RX0) (T := TX0) (N := 7) (n := 7) hts lwi_x0 (hts (.instantiable RX0 7) (List.mem_of_getElem? (i := 184) (by decide +kernel)))
  obtain ⟨k1, i1, h1⟩ := u_known (C := RX1) (T := TX1) (N := 17) (n := 17) hts lwi_x1 (hts (.instantiable RX1 17) (List.mem_of_getElem? (i := 107) (by decide +kernel)))
  obtain ⟨k2, i2, h2⟩ := u_known (C := RX2) (T := TX2) (N := 8) (n := 8) hts lwi_x2 (hts (.instantiable RX2 8) (List.mem_of_getElem? (i := 101) (by decide +kernel)))
  obtain ⟨k3, i3, h3⟩ := u_known (C := RX3) (T := TX3) (N := 1) (n := 1) hts lwi_x3 (hts (.instantiable RX3 1) (List.mem_of_getElem? (i := 296) (by decide +kernel)))
  obtain ⟨k4, i4, h4⟩ := u_known (C := RX4) (T := TX4) (N := 5) (n := 5) hts lwi_x4 (hts (.instantiable RX4 5) (List.mem_of_getElem? (i := 271) (by decide +kernel)))
  obtain ⟨k5, i5, h5⟩ := u_known (C := RX5) (T := TX5) (N := 3) (n := 3) hts lwi_x5 (hts (.instantiable RX5 3) (List.mem_of_getElem? (i := 223) (by decide +kernel)))
  obtain ⟨k6, i6, h6⟩ := u_known (C := RX6) (T := TX6) (N := 8) (n := 8) hts lwi_x6 (hts (.instantiable RX6 8) (List.mem_of_getElem? (i := 93) (by decide +kernel)))
  obtain ⟨k7, i7, h7⟩ := u_known (C := RX7) (T := TX7) (N := 15) (n := 15) hts lwi_x7 (hts (.instantiable RX7 15) (List.mem_of_getElem? (i := 868) (by decide +kernel)))
  obtain ⟨cI, kA, comp, f1, f2, f3⟩ := Cond.arrayClass_spec (hts (.arrayClass .int) (List.mem_of_getElem? (i := 182) (by decide +kernel)))
  refine ⟨(fun k => if k = 0 then k0 else if k = 1 then k1 else if k = 2 then k2 else if k = 3 then k3 else if k = 4 then k4 else if k = 5 then k5 else if k = 6 then k6 else k7, fun k => if k = 0 then i0 else if k = 1 then i1 else if k = 2 then i2 else if k = 3 then i3 else if k = 4 then i4 else if k = 5 then i5 else if k = 6 then i6 else i7), cI, fun c q hq => ?_, fun k q hq => ?_⟩
  · match c, hq with
    | 0, hq => cases hq; exact h0
    | 1, hq => cases hq; exact h1
    | 2, hq => cases hq; exact h2
    | 3, hq => cases hq; exact h3
    | 4, hq => cases hq; exact h4
    | 5, hq => cases hq; exact h5
    | 6, hq => cases hq; exact h6
    | 7, hq => cases hq; exact h7
    | c + 8, hq => simp [vwCl] at hq
  · have hz : k < 1 := (List.getElem?_eq_some_iff.mp hq).1
    obtain rfl : k = 0 := by omega
    cases hq
    exact ⟨fun n z => ⟨fun k h => (by cases h), kA, f2, comp, f3⟩, f1⟩

set_option maxHeartbeats 4000000 in
set_option maxRecDepth 100000 in
theorem start_S {s : State} {args : Array Value} (hts : ∀ w ∈ lw_tbl, w.before args s = true) (hgv : (Jvm.Cond.and given_1 narrow_1).before args s = true) {A : Nat → Prop} (hA : ∀ a : Nat, a < s.heap.size → ¬ A a) : ∃ (t : Nat) (adK adV : Nat → Nat), (∀ i, i < 8 → vk_R "BadgeDoors$Text" (71 + 2 * i) (sxT i) (adK i) s) ∧ vk_S 8 sxL sxB adK adV A s s.heap ∧ va_Z "BadgeDoors" "NUMBERS_BEHIND" "[I" (.ref t) A s s.heap ∧ va_T .int t 8 (fun j => .int (sxN j)) A s s.heap ∧ va_Z "java/lang/String" "COMPACT_STRINGS" "Z" (.int 1) A s s.heap ∧ va_Zq "jdk/internal/util/Preconditions" "SIOOBE_FORMATTER" "Ljava/util/function/BiFunction;" A s s.heap := by
  have hs := flat_of_before _ hgv
  have hex : ∀ i : Nat, i < 8 → (Cond.exactly (.string "BadgeDoors$Text" (71 + 2 * i)) "java/lang/String").before args s = true := by
    intro i hi
    rcases (by omega : i = 0 ∨ i = 1 ∨ i = 2 ∨ i = 3 ∨ i = 4 ∨ i = 5 ∨ i = 6 ∨ i = 7) with rfl | rfl | rfl | rfl | rfl | rfl | rfl | rfl
    · exact (hs _ (List.mem_of_getElem? (i := 20) (by decide +kernel)))
    · exact (hs _ (List.mem_of_getElem? (i := 29) (by decide +kernel)))
    · exact (hs _ (List.mem_of_getElem? (i := 38) (by decide +kernel)))
    · exact (hs _ (List.mem_of_getElem? (i := 47) (by decide +kernel)))
    · exact (hs _ (List.mem_of_getElem? (i := 60) (by decide +kernel)))
    · exact (hs _ (List.mem_of_getElem? (i := 72) (by decide +kernel)))
    · exact (hs _ (List.mem_of_getElem? (i := 84) (by decide +kernel)))
    · exact (hs _ (List.mem_of_getElem? (i := 96) (by decide +kernel)))
  have hco : ∀ i : Nat, i < 8 → (Cond.eq (.field (.string "BadgeDoors$Text" (71 + 2 * i)) "java/lang/String" "coder" "B") (.int 0)).before args s = true := by
    intro i hi
    rcases (by omega : i = 0 ∨ i = 1 ∨ i = 2 ∨ i = 3 ∨ i = 4 ∨ i = 5 ∨ i = 6 ∨ i = 7) with rfl | rfl | rfl | rfl | rfl | rfl | rfl | rfl
    · exact (hs _ (List.mem_of_getElem? (i := 21) (by decide +kernel)))
    · exact (hs _ (List.mem_of_getElem? (i := 30) (by decide +kernel)))
    · exact (hs _ (List.mem_of_getElem? (i := 39) (by decide +kernel)))
    · exact (hs _ (List.mem_of_getElem? (i := 48) (by decide +kernel)))
    · exact (hs _ (List.mem_of_getElem? (i := 61) (by decide +kernel)))
    · exact (hs _ (List.mem_of_getElem? (i := 73) (by decide +kernel)))
    · exact (hs _ (List.mem_of_getElem? (i := 85) (by decide +kernel)))
    · exact (hs _ (List.mem_of_getElem? (i := 97) (by decide +kernel)))
  have har : ∀ i : Nat, i < 8 → (Cond.arrayOf (.field (.string "BadgeDoors$Text" (71 + 2 * i)) "java/lang/String" "value" "[B") .byte).before args s = true := by
    intro i hi
    rcases (by omega : i = 0 ∨ i = 1 ∨ i = 2 ∨ i = 3 ∨ i = 4 ∨ i = 5 ∨ i = 6 ∨ i = 7) with rfl | rfl | rfl | rfl | rfl | rfl | rfl | rfl
    · exact (hs _ (List.mem_of_getElem? (i := 22) (by decide +kernel)))
    · exact (hs _ (List.mem_of_getElem? (i := 31) (by decide +kernel)))
    · exact (hs _ (List.mem_of_getElem? (i := 40) (by decide +kernel)))
    · exact (hs _ (List.mem_of_getElem? (i := 49) (by decide +kernel)))
    · exact (hs _ (List.mem_of_getElem? (i := 62) (by decide +kernel)))
    · exact (hs _ (List.mem_of_getElem? (i := 74) (by decide +kernel)))
    · exact (hs _ (List.mem_of_getElem? (i := 86) (by decide +kernel)))
    · exact (hs _ (List.mem_of_getElem? (i := 98) (by decide +kernel)))
  have hle : ∀ i : Nat, i < 8 → (Cond.eq (.length (.field (.string "BadgeDoors$Text" (71 + 2 * i)) "java/lang/String" "value" "[B")) (.int (Int32.ofNat (sxL.getD i 0)))).before args s = true := by
    intro i hi
    rcases (by omega : i = 0 ∨ i = 1 ∨ i = 2 ∨ i = 3 ∨ i = 4 ∨ i = 5 ∨ i = 6 ∨ i = 7) with rfl | rfl | rfl | rfl | rfl | rfl | rfl | rfl
    · exact (hs _ (List.mem_of_getElem? (i := 23) (by decide +kernel)))
    · exact (hs _ (List.mem_of_getElem? (i := 32) (by decide +kernel)))
    · exact (hs _ (List.mem_of_getElem? (i := 41) (by decide +kernel)))
    · exact (hs _ (List.mem_of_getElem? (i := 50) (by decide +kernel)))
    · exact (hs _ (List.mem_of_getElem? (i := 63) (by decide +kernel)))
    · exact (hs _ (List.mem_of_getElem? (i := 75) (by decide +kernel)))
    · exact (hs _ (List.mem_of_getElem? (i := 87) (by decide +kernel)))
    · exact (hs _ (List.mem_of_getElem? (i := 99) (by decide +kernel)))
  have hel : ∀ i : Nat, i < 8 → ∀ j : Nat, j < sxL.getD i 0 → (Cond.eq (.elem (.field (.string "BadgeDoors$Text" (71 + 2 * i)) "java/lang/String" "value" "[B") (.int (Int32.ofNat j))) (.int ((sxB.getD i []).getD j 0))).before args s = true := by
    intro i hi j hj
    rcases (by omega : i = 0 ∨ i = 1 ∨ i = 2 ∨ i = 3 ∨ i = 4 ∨ i = 5 ∨ i = 6 ∨ i = 7) with rfl | rfl | rfl | rfl | rfl | rfl | rfl | rfl
    · have hj : j < 5 := hj
      rcases (by omega : j = 0 ∨ j = 1 ∨ j = 2 ∨ j = 3 ∨ j = 4) with rfl | rfl | rfl | rfl | rfl
      · exact (hs _ (List.mem_of_getElem? (i := 24) (by decide +kernel)))
      · exact (hs _ (List.mem_of_getElem? (i := 25) (by decide +kernel)))
      · exact (hs _ (List.mem_of_getElem? (i := 26) (by decide +kernel)))
      · exact (hs _ (List.mem_of_getElem? (i := 27) (by decide +kernel)))
      · exact (hs _ (List.mem_of_getElem? (i := 28) (by decide +kernel)))
    · have hj : j < 4 := hj
      rcases (by omega : j = 0 ∨ j = 1 ∨ j = 2 ∨ j = 3) with rfl | rfl | rfl | rfl
      · exact (hs _ (List.mem_of_getElem? (i := 33) (by decide +kernel)))
      · exact (hs _ (List.mem_of_getElem? (i := 34) (by decide +kernel)))
      · exact (hs _ (List.mem_of_getElem? (i := 35) (by decide +kernel)))
      · exact (hs _ (List.mem_of_getElem? (i := 36) (by decide +kernel)))
    · have hj : j < 3 := hj
      rcases (by omega : j = 0 ∨ j = 1 ∨ j = 2) with rfl | rfl | rfl
      · exact (hs _ (List.mem_of_getElem? (i := 42) (by decide +kernel)))
      · exact (hs _ (List.mem_of_getElem? (i := 43) (by decide +kernel)))
      · exact (hs _ (List.mem_of_getElem? (i := 44) (by decide +kernel)))
    · have hj : j < 6 := hj
      rcases (by omega : j = 0 ∨ j = 1 ∨ j = 2 ∨ j = 3 ∨ j = 4 ∨ j = 5) with rfl | rfl | rfl | rfl | rfl | rfl
      · exact (hs _ (List.mem_of_getElem? (i := 51) (by decide +kernel)))
      · exact (hs _ (List.mem_of_getElem? (i := 52) (by decide +kernel)))
      · exact (hs _ (List.mem_of_getElem? (i := 53) (by decide +kernel)))
      · exact (hs _ (List.mem_of_getElem? (i := 54) (by decide +kernel)))
      · exact (hs _ (List.mem_of_getElem? (i := 55) (by decide +kernel)))
      · exact (hs _ (List.mem_of_getElem? (i := 56) (by decide +kernel)))
    · have hj : j < 4 := hj
      rcases (by omega : j = 0 ∨ j = 1 ∨ j = 2 ∨ j = 3) with rfl | rfl | rfl | rfl
      · exact (hs _ (List.mem_of_getElem? (i := 64) (by decide +kernel)))
      · exact (hs _ (List.mem_of_getElem? (i := 65) (by decide +kernel)))
      · exact (hs _ (List.mem_of_getElem? (i := 66) (by decide +kernel)))
      · exact (hs _ (List.mem_of_getElem? (i := 67) (by decide +kernel)))
    · have hj : j < 3 := hj
      rcases (by omega : j = 0 ∨ j = 1 ∨ j = 2) with rfl | rfl | rfl
      · exact (hs _ (List.mem_of_getElem? (i := 76) (by decide +kernel)))
      · exact (hs _ (List.mem_of_getElem? (i := 77) (by decide +kernel)))
      · exact (hs _ (List.mem_of_getElem? (i := 78) (by decide +kernel)))
    · have hj : j < 2 := hj
      rcases (by omega : j = 0 ∨ j = 1) with rfl | rfl
      · exact (hs _ (List.mem_of_getElem? (i := 88) (by decide +kernel)))
      · exact (hs _ (List.mem_of_getElem? (i := 89) (by decide +kernel)))
    · have hj : j < 3 := hj
      rcases (by omega : j = 0 ∨ j = 1 ∨ j = 2) with rfl | rfl | rfl
      · exact (hs _ (List.mem_of_getElem? (i := 100) (by decide +kernel)))
      · exact (hs _ (List.mem_of_getElem? (i := 101) (by decide +kernel)))
      · exact (hs _ (List.mem_of_getElem? (i := 102) (by decide +kernel)))
  have hne : ∀ i j : Nat, i < 8 → j < 8 → i < j → (Cond.not (Cond.eq (.string "BadgeDoors$Text" (71 + 2 * i)) (.string "BadgeDoors$Text" (71 + 2 * j)))).before args s = true := by
    intro i j hi hj hij
    rcases (by omega : i = 0 ∨ i = 1 ∨ i = 2 ∨ i = 3 ∨ i = 4 ∨ i = 5 ∨ i = 6 ∨ i = 7) with rfl | rfl | rfl | rfl | rfl | rfl | rfl | rfl
    · rcases (by omega : j = 1 ∨ j = 2 ∨ j = 3 ∨ j = 4 ∨ j = 5 ∨ j = 6 ∨ j = 7) with rfl | rfl | rfl | rfl | rfl | rfl | rfl
      · exact (hs _ (List.mem_of_getElem? (i := 37) (by decide +kernel)))
      · exact (hs _ (List.mem_of_getElem? (i := 45) (by decide +kernel)))
      · exact (hs _ (List.mem_of_getElem? (i := 57) (by decide +kernel)))
      · exact (hs _ (List.mem_of_getElem? (i := 68) (by decide +kernel)))
      · exact (hs _ (List.mem_of_getElem? (i := 79) (by decide +kernel)))
      · exact (hs _ (List.mem_of_getElem? (i := 90) (by decide +kernel)))
      · exact (hs _ (List.mem_of_getElem? (i := 103) (by decide +kernel)))
    · rcases (by omega : j = 2 ∨ j = 3 ∨ j = 4 ∨ j = 5 ∨ j = 6 ∨ j = 7) with rfl | rfl | rfl | rfl | rfl | rfl
      · exact (hs _ (List.mem_of_getElem? (i := 46) (by decide +kernel)))
      · exact (hs _ (List.mem_of_getElem? (i := 58) (by decide +kernel)))
      · exact (hs _ (List.mem_of_getElem? (i := 69) (by decide +kernel)))
      · exact (hs _ (List.mem_of_getElem? (i := 80) (by decide +kernel)))
      · exact (hs _ (List.mem_of_getElem? (i := 91) (by decide +kernel)))
      · exact (hs _ (List.mem_of_getElem? (i := 104) (by decide +kernel)))
    · rcases (by omega : j = 3 ∨ j = 4 ∨ j = 5 ∨ j = 6 ∨ j = 7) with rfl | rfl | rfl | rfl | rfl
      · exact (hs _ (List.mem_of_getElem? (i := 59) (by decide +kernel)))
      · exact (hs _ (List.mem_of_getElem? (i := 70) (by decide +kernel)))
      · exact (hs _ (List.mem_of_getElem? (i := 81) (by decide +kernel)))
      · exact (hs _ (List.mem_of_getElem? (i := 92) (by decide +kernel)))
      · exact (hs _ (List.mem_of_getElem? (i := 105) (by decide +kernel)))
    · rcases (by omega : j = 4 ∨ j = 5 ∨ j = 6 ∨ j = 7) with rfl | rfl | rfl | rfl
      · exact (hs _ (List.mem_of_getElem? (i := 71) (by decide +kernel)))
      · exact (hs _ (List.mem_of_getElem? (i := 82) (by decide +kernel)))
      · exact (hs _ (List.mem_of_getElem? (i := 93) (by decide +kernel)))
      · exact (hs _ (List.mem_of_getElem? (i := 106) (by decide +kernel)))
    · rcases (by omega : j = 5 ∨ j = 6 ∨ j = 7) with rfl | rfl | rfl
      · exact (hs _ (List.mem_of_getElem? (i := 83) (by decide +kernel)))
      · exact (hs _ (List.mem_of_getElem? (i := 94) (by decide +kernel)))
      · exact (hs _ (List.mem_of_getElem? (i := 107) (by decide +kernel)))
    · rcases (by omega : j = 6 ∨ j = 7) with rfl | rfl
      · exact (hs _ (List.mem_of_getElem? (i := 95) (by decide +kernel)))
      · exact (hs _ (List.mem_of_getElem? (i := 108) (by decide +kernel)))
    · rcases (by omega : j = 7) with rfl
      · exact (hs _ (List.mem_of_getElem? (i := 109) (by decide +kernel)))
    · omega
  obtain ⟨adK, adV, hS, hK⟩ := vk_Sof (tm := fun i => .string "BadgeDoors$Text" (71 + 2 * i)) (len := sxL) (byt := sxB) (A := A) (by decide) hex hco har hle hel (fun i j hi hj h => by
    rcases Nat.lt_or_ge i j with q | q
    · exact Or.inl (hne i j hi hj q)
    · exact Or.inr (hne j i hj hi (by omega))) hA
  have hnl : (Term.length (.static "BadgeDoors" "NUMBERS_BEHIND" "[I")).eval args s none [] s = some (.int (Int32.ofNat 8)) := va_eqt (hs _ (List.mem_of_getElem? (i := 11) (by decide +kernel)))
  have hne2 : ∀ j : Nat, j < 8 → (Term.elem (.static "BadgeDoors" "NUMBERS_BEHIND" "[I") (.int (Int32.ofNat j))).eval args s none [] s = some (.int (sxN j)) := by
    intro j hj
    rcases (by omega : j = 0 ∨ j = 1 ∨ j = 2 ∨ j = 3 ∨ j = 4 ∨ j = 5 ∨ j = 6 ∨ j = 7) with rfl | rfl | rfl | rfl | rfl | rfl | rfl | rfl
    · exact va_eqt (hs _ (List.mem_of_getElem? (i := 12) (by decide +kernel)))
    · exact va_eqt (hs _ (List.mem_of_getElem? (i := 13) (by decide +kernel)))
    · exact va_eqt (hs _ (List.mem_of_getElem? (i := 14) (by decide +kernel)))
    · exact va_eqt (hs _ (List.mem_of_getElem? (i := 15) (by decide +kernel)))
    · exact va_eqt (hs _ (List.mem_of_getElem? (i := 16) (by decide +kernel)))
    · exact va_eqt (hs _ (List.mem_of_getElem? (i := 17) (by decide +kernel)))
    · exact va_eqt (hs _ (List.mem_of_getElem? (i := 18) (by decide +kernel)))
    · exact va_eqt (hs _ (List.mem_of_getElem? (i := 19) (by decide +kernel)))
  obtain ⟨t, ht, hT⟩ := va_Tof (ty := .int) (N := 8) (f := fun j => .int (sxN j)) (A := A) (by decide) (hs _ (List.mem_of_getElem? (i := 10) (by decide +kernel))) hnl hne2 hA
  refine ⟨t, adK, adV, fun i hi => vk_R.of ?_ (hK i hi), hS, va_Zof (hts _ (List.mem_of_getElem? (i := 781) (by decide +kernel))) (hts _ (List.mem_of_getElem? (i := 77) (by decide +kernel))) ht hA, hT, va_Zof (hts _ (List.mem_of_getElem? (i := 741) (by decide +kernel))) (hts _ (List.mem_of_getElem? (i := 88) (by decide +kernel))) (va_eqt (hs _ (List.mem_of_getElem? (i := 4) (by decide +kernel)))) hA, va_Zqof (hts _ (List.mem_of_getElem? (i := 757) (by decide +kernel))) (hts _ (List.mem_of_getElem? (i := 90) (by decide +kernel))) (hs _ (List.mem_of_getElem? (i := 5) (by decide +kernel))) hA⟩
  rcases (by omega : i = 0 ∨ i = 1 ∨ i = 2 ∨ i = 3 ∨ i = 4 ∨ i = 5 ∨ i = 6 ∨ i = 7) with rfl | rfl | rfl | rfl | rfl | rfl | rfl | rfl
  · exact hts _ (List.mem_of_getElem? (i := 720) (by decide +kernel))
  · exact hts _ (List.mem_of_getElem? (i := 721) (by decide +kernel))
  · exact hts _ (List.mem_of_getElem? (i := 722) (by decide +kernel))
  · exact hts _ (List.mem_of_getElem? (i := 723) (by decide +kernel))
  · exact hts _ (List.mem_of_getElem? (i := 724) (by decide +kernel))
  · exact hts _ (List.mem_of_getElem? (i := 725) (by decide +kernel))
  · exact hts _ (List.mem_of_getElem? (i := 726) (by decide +kernel))
  · exact hts _ (List.mem_of_getElem? (i := 727) (by decide +kernel))
