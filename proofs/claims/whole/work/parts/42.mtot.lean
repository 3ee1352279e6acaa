/-! TOTALS of the reference's puts -/
theorem flag2 {s : Int32} (h : ¬ s < nI 0 ∧ ¬ nI 1 < s) : s = nI 0 ∨ s = nI 1 := by
  have h1 : ¬ s < 0 := h.1
  obtain ⟨j, hj, rfl⟩ := nI_of h1
  have := mt (nI_lt (a := 1) (b := j) · hj) h.2
  rcases (by omega : j = 0 ∨ j = 1) with rfl | rfl
  · exact Or.inl rfl
  · exact Or.inr rfl
theorem vI_less {x : Int32} {n : Nat} (h : vI x (n + 1)) (hx : ¬ x = nI n) : vI x n := by
  obtain ⟨j, hj, rfl⟩ := h
  exact ⟨j, by rcases Nat.lt_or_ge j n with q | q; exact q; exact absurd (by rw [show j = n from by omega]) hx, rfl⟩
abbrev mpB (h : HB) (b : Int32) : Prop := ¬ b < nI 0 ∧ ¬ h 1 530 - nI 1 < b
abbrev mpD (h : HB) (d : Int32) : Prop := ¬ d < nI 0 ∧ ¬ h 1 529 - nI 1 < d
abbrev mpI (x : Int32) (n : Nat) : Prop := ¬ x < nI 0 ∧ ¬ nI n < x
def AskOk (h : HB) : Prop := ∀ b d : Nat, b < 8 → d < ix (h 1 529) → (h 1 (60 * d + 6) = -1 ∨ vI (h 1 (60 * d + 6)) 8) ∧ PQ (M_move h b d (h 1 528)) b d ∧ (h 1 (60 * d + 9) = -1 ∨ vI (h 1 (60 * d + 9)) 8) ∧ PQ (M_move (M_let h b d) (ix (h 1 (60 * d + 9))) d ((M_let h b d) 1 528)) (ix (h 1 (60 * d + 9))) d ∧ vI (h 1 (60 * d + 19)) 21 ∧ PQ (M_note h b d) b d ∧ (∀ i, i < ix (h 1 (60 * d + 19)) → vI (h 1 (60 * d + (20 + 2 * i + 1))) 8)
def MOk (h : HB) : Prop := vI (h 1 529) 9 ∧ vI (h 1 530) 9 ∧ vI (h 1 540) 65 ∧ AskOk h
def M_badgeT (h : HB) (v : Int32) : Int32 × HB := if mpI v 3 then (if h 1 530 = nI 8 then (-4, h) else (nI (ix (h 1 530)), M_badge h v)) else (-2, h)
def M_doorT (h : HB) (f t a b : Int32) : Int32 × HB := if mpI f 5 ∧ mpI t 5 ∧ ¬ f = t ∧ mpI a 3 ∧ mpI b 3 then (if h 1 529 = nI 8 then (-4, h) else (nI (ix (h 1 529)), M_door h f t a b)) else (-2, h)
def M_askT (h : HB) (b d s : Int32) : Int32 × HB := if mpB h b ∧ mpD h d ∧ mpI s 1 then (nI (M_askR h (ix b) (ix d)), M_askH h (ix b) (ix d) s) else (-2, h)
def M_barT (h : HB) (b s : Int32) : Int32 × HB := if mpB h b ∧ mpI s 1 then (h 1 (480 + 6 * ix b + 1), up2 h 1 (480 + 6 * ix b + 1) s) else (-2, h)
def M_waitT (h : HB) (n : Int32) : Int32 × HB := if ¬ n < nI 1 ∧ ¬ nI 99 < n then (rem24 (h 1 528 + n), M_wait h n) else (-2, h)
def M_onT (h : HB) (d s : Int32) : Int32 × HB := if mpD h d ∧ mpI s 1 then (if h 1 (60 * ix d + 7) = s then (-3, h) else if s = nI 0 then (nI 0, M_copy (up2 h 1 (60 * ix d + 7) (nI 0)) (ix d)) else (nI (ix (h 1 (60 * ix d + 19))), M_merge (up2 h 1 (60 * ix d + 7) (nI 1)) (ix d))) else (-2, h)
def M_lockT (h : HB) (d e : Int32) : Int32 × HB := if mpD h d ∧ (e = -1 ∨ mpD h e) ∧ ¬ d = e then (h 1 (60 * ix d + 6), if e = -1 then M_lockN h (ix d) else M_lockE h (ix d) (ix e)) else (-2, h)

theorem c_X7_putBadge_T (E : EN) (u : U3) (r : R1) (h : HB) (v : Int32) (hM : MOk h) : CT E yX7_putBadge wsX7_putBadge (rmT 2 42) [.ref (eA E 6 0), .int v] (ub u 6 h) r (some (.int (M_badgeT h v).1)) (ub u 6 (M_badgeT h v).2) r := by
  obtain ⟨hD, hB, hm, hA⟩ := hM
  by_cases c : mpI v 3
  · by_cases e : h 1 530 = nI 8
    · rw [M_badgeT, if_pos c, if_pos e]; exact c_X7_putBadge_F E u r h v c e
    · rw [M_badgeT, if_pos c, if_neg e]; exact c_X7_putBadge_O E u r h v c (vI_less hB e)
  · rw [M_badgeT, if_neg c]; exact c_X7_putBadge_B E u r h v c

theorem c_X7_putDoor_T (E : EN) (u : U3) (r : R1) (h : HB) (f t a b : Int32) (hM : MOk h) : CT E yX7_putDoor wsX7_putDoor (rmT 2 42) [.ref (eA E 6 0), .int f, .int t, .int a, .int b] (ub u 6 h) r (some (.int (M_doorT h f t a b).1)) (ub u 6 (M_doorT h f t a b).2) r := by
  obtain ⟨hD, hB, hm, hA⟩ := hM
  by_cases c : mpI f 5 ∧ mpI t 5 ∧ ¬ f = t ∧ mpI a 3 ∧ mpI b 3
  · by_cases e : h 1 529 = nI 8
    · rw [M_doorT, if_pos c, if_pos e]; exact c_X7_putDoor_F E u r h f t a b c e
    · rw [M_doorT, if_pos c, if_neg e]; exact c_X7_putDoor_O E u r h f t a b c (vI_less hD e)
  · rw [M_doorT, if_neg c]; exact c_X7_putDoor_B E u r h f t a b c

theorem c_X7_ask_T (E : EN) (u : U3) (r : R1) (h : HB) (b d s : Int32) (hM : MOk h) : CT E yX7_ask wsX7_ask (rmT 4 91) [.ref (eA E 6 0), .int b, .int d, .int s] (ub u 6 h) r (some (.int (M_askT h b d s).1)) (ub u 6 (M_askT h b d s).2) r := by
  obtain ⟨hD, hB, hm, hA⟩ := hM
  by_cases c : mpB h b ∧ mpD h d ∧ mpI s 1
  · obtain ⟨⟨b, hb, rfl⟩, hb2⟩ := vI_in hB (by decide) c.1
    obtain ⟨⟨d, hd, rfl⟩, hd2⟩ := vI_in hD (by decide) c.2.1
    rw [M_askT, if_pos c]
    rw [show ix (nI b) = b from ix_nI (by omega)] at hb2 ⊢
    rw [show ix (nI d) = d from ix_nI (by omega)] at hd2 ⊢
    obtain ⟨h1, h2, h3, h4, h5, h6, h7⟩ := hA b d hb hd2
    exact c_X7_ask_O E u r h b d s hB hD hb2 hd2 c.2.2 h1 hm h2 h3 h4 h5 h6
  · rw [M_askT, if_neg c]; exact c_X7_ask_B E u r h b d s c

theorem c_X7_putBarred_T (E : EN) (u : U3) (r : R1) (h : HB) (b s : Int32) (hM : MOk h) : CT E yX7_putBarred wsX7_putBarred (rmT 2 43) [.ref (eA E 6 0), .int b, .int s] (ub u 6 h) r (some (.int (M_barT h b s).1)) (ub u 6 (M_barT h b s).2) r := by
  obtain ⟨hD, hB, hm, hA⟩ := hM
  by_cases c : mpB h b ∧ mpI s 1
  · obtain ⟨⟨b, hb, rfl⟩, hb2⟩ := vI_in hB (by decide) c.1
    rw [M_barT, if_pos c]
    rw [show ix (nI b) = b from ix_nI (by omega)] at hb2 ⊢
    exact c_X7_putBarred_O E u r h b s hB hb2 c.2
  · rw [M_barT, if_neg c]; exact c_X7_putBarred_B E u r h b s c

theorem c_X7_wait_T (E : EN) (u : U3) (r : R1) (h : HB) (n : Int32) (hM : MOk h) : CT E yX7_wait wsX7_wait (rmT 1 22) [.ref (eA E 6 0), .int n] (ub u 6 h) r (some (.int (M_waitT h n).1)) (ub u 6 (M_waitT h n).2) r := by
  obtain ⟨hD, hB, hm, hA⟩ := hM
  by_cases c : ¬ n < nI 1 ∧ ¬ nI 99 < n
  · rw [M_waitT, if_pos c]; exact c_X7_wait_O E u r h n c hD
  · rw [M_waitT, if_neg c]; exact c_X7_wait_B E u r h n c

theorem c_X7_putOnline_T (E : EN) (u : U3) (r : R1) (h : HB) (d s : Int32) (hM : MOk h) : CT E yX7_putOnline wsX7_putOnline (rmT 3 70) [.ref (eA E 6 0), .int d, .int s] (ub u 6 h) r (some (.int (M_onT h d s).1)) (ub u 6 (M_onT h d s).2) r := by
  obtain ⟨hD, hB, hm, hA⟩ := hM
  by_cases c : mpD h d ∧ mpI s 1
  · obtain ⟨⟨d, hd, rfl⟩, hd2⟩ := vI_in hD (by decide) c.1
    rw [M_onT, if_pos c]
    rw [show ix (nI d) = d from ix_nI (by omega)] at hd2 ⊢
    obtain ⟨h1, h2, h3, h4, h5, h6, h7⟩ := hA d d hd hd2
    by_cases e : h 1 (60 * d + 7) = s
    · rw [if_pos e]; exact c_X7_putOnline_N E u r h d s hD hd2 c.2 e
    · rw [if_neg e]
      rcases flag2 c.2 with rfl | rfl
      · rw [if_pos rfl]; exact c_X7_putOnline_Z E u r h d hD hd2 e
      · rw [if_neg (by decide)]; exact c_X7_putOnline_A E u r h d hD hd2 e h5 h7
  · rw [M_onT, if_neg c]; exact c_X7_putOnline_B E u r h d s c

theorem c_X7_putLock_T (E : EN) (u : U3) (r : R1) (h : HB) (d e : Int32) (hM : MOk h) : CT E yX7_putLock wsX7_putLock (rmT 2 43) [.ref (eA E 6 0), .int d, .int e] (ub u 6 h) r (some (.int (M_lockT h d e).1)) (ub u 6 (M_lockT h d e).2) r := by
  obtain ⟨hD, hB, hm, hA⟩ := hM
  by_cases c : mpD h d ∧ (e = -1 ∨ mpD h e) ∧ ¬ d = e
  · obtain ⟨⟨d, hd, rfl⟩, hd2⟩ := vI_in hD (by decide) c.1
    rw [M_lockT, if_pos c]
    rw [show ix (nI d) = d from ix_nI (by omega)] at hd2 ⊢
    obtain ⟨h1, h2, h3, h4, h5, h6, h7⟩ := hA d d hd hd2
    by_cases q : e = -1
    · subst q
      rw [if_pos rfl]; exact c_X7_putLock_N E u r h d hD hd2 h1
    · rw [if_neg q]
      obtain ⟨⟨e, he, rfl⟩, he2⟩ := vI_in hD (by decide) (c.2.1.resolve_left q)
      rw [show ix (nI e) = e from ix_nI (by omega)] at he2 ⊢
      exact c_X7_putLock_E E u r h d e hD hd2 he2 (fun z => c.2.2 (by rw [z])) h1 (hA e e he he2).1
  · rw [M_lockT, if_neg c]; exact c_X7_putLock_B E u r h d e c
