/-! sets as bits -/
def mask (c : Nat → Bool) : Nat → Nat
  | 0 => 0
  | n + 1 => 2 ^ n * (c n).toNat + mask c n
theorem mask_lt (c : Nat → Bool) : ∀ n, mask c n < 2 ^ n
  | 0 => Nat.one_pos
  | n + 1 => by
    have := mask_lt c n
    have e : 2 ^ (n + 1) = 2 ^ n + 2 ^ n := by rw [Nat.pow_succ]; omega
    show 2 ^ n * (c n).toNat + mask c n < 2 ^ (n + 1)
    cases c n <;> simp <;> omega
theorem mask_tb (c : Nat → Bool) : ∀ n b, (mask c n).testBit b = (decide (b < n) && c b)
  | 0, b => by simp [mask]
  | n + 1, b => by
    have h1 := mask_lt c n
    have h2 := mask_tb c n b
    show (2 ^ n * (c n).toNat + mask c n).testBit b = _
    cases hc : c n with
    | false =>
      simp only [Bool.toNat_false, Nat.mul_zero, Nat.zero_add, h2]
      by_cases q : b < n
      · simp [q, Nat.lt_succ_of_lt q]
      · by_cases q2 : b = n
        · subst q2; simp [hc]
        · simp [q, show ¬ b < n + 1 from by omega]
    | true =>
      simp only [Bool.toNat_true, Nat.mul_one]
      by_cases q : b < n
      · rw [Nat.testBit_two_pow_add_gt q, h2]
        simp [q, Nat.lt_succ_of_lt q]
      · by_cases q2 : b = n
        · subst q2
          rw [Nat.testBit_two_pow_add_eq, Nat.testBit_lt_two_pow h1]
          simp [hc]
        · have h3 : 2 ^ n + mask c n < 2 ^ b := by
            have e : 2 ^ (n + 1) = 2 ^ n + 2 ^ n := by rw [Nat.pow_succ]; omega
            have : 2 ^ (n + 1) ≤ 2 ^ b := Nat.pow_le_pow_right (by decide) (by omega)
            omega
          rw [Nat.testBit_lt_two_pow h3]
          simp [show ¬ b < n + 1 from by omega]
theorem mask_cong {c c' : Nat → Bool} : ∀ n, (∀ b, b < n → c b = c' b) → mask c n = mask c' n
  | 0, _ => rfl
  | n + 1, h => by
    show 2 ^ n * (c n).toNat + mask c n = 2 ^ n * (c' n).toNat + mask c' n
    rw [h n (by omega), mask_cong n (fun b hb => h b (by omega))]
theorem mask_or (c c' : Nat → Bool) (n : Nat) : mask c n ||| mask c' n = mask (fun b => c b || c' b) n := by
  apply Nat.eq_of_testBit_eq
  intro b
  rw [Nat.testBit_or, mask_tb, mask_tb, mask_tb]
  cases decide (b < n) <;> simp
theorem mask_zero {c : Nat → Bool} : ∀ n, (∀ b, b < n → c b = false) → mask c n = 0
  | 0, _ => rfl
  | n + 1, h => by
    show 2 ^ n * (c n).toNat + mask c n = 0
    rw [h n (by omega), mask_zero n (fun b hb => h b (by omega))]
    rfl
theorem bit_or : ∀ n, n < 8 → ∀ m, m < 256 → m < 2 ^ n → nI m ||| (nI 1 <<< (nI n &&& 31)) = nI (2 ^ n * true.toNat + m) := by decide +kernel
theorem bit_at : ∀ m, m < 256 → ∀ b, b < 8 → (((nI m >>> (nI b &&& 31)) &&& nI 1 = nI 1) ↔ m.testBit b = true) := by decide +kernel
theorem bit_cnt : ∀ m, m < 256 → bcF (nI m) = M_ones (nI m) 8 := by decide +kernel
theorem or_0 (x : Int32) : x ||| nI 0 = x := by
  rw [nI_0]
  exact Int32.or_zero
theorem nI_or {a b : Nat} (ha : a < 256) (hb : b < 256) : nI a ||| nI b = nI (a ||| b) := by
  apply Int32.toBitVec_inj.mp
  rw [Int32.toBitVec_or]
  show BitVec.ofNat 32 a ||| BitVec.ofNat 32 b = BitVec.ofNat 32 (a ||| b)
  exact (BitVec.ofNat_or ..).symm
theorem pow_le8 {n : Nat} (h : n ≤ 8) : 2 ^ n ≤ 256 := Nat.pow_le_pow_right (by decide) h
theorem or_step {c : Nat → Bool} {n : Nat} {x : Int32} {P : Prop} [Decidable P] (hx : x = nI (mask c n)) (hn : n < 8) (hc : c n = decide P) : (x ||| (if P then nI 1 <<< (nI n &&& 31) else nI 0)) = nI (mask c (n + 1)) := by
  have h1 := mask_lt c n
  have h2 := pow_le8 (n := n) (by omega)
  show _ = nI (2 ^ n * (c n).toNat + mask c n)
  by_cases p : P
  · rw [if_pos p, hc, decide_eq_true p, hx]
    exact bit_or n hn _ (by omega) h1
  · rw [if_neg p, hc, decide_eq_false p, hx, or_0]
    simp
theorem or_step2 {c : Nat → Bool} {n : Nat} {x : Int32} {P : Prop} [Decidable P] (hx : x = nI (mask c n)) (hn : n < 8) (hc : c n = decide P) : (if P then x ||| nI 1 <<< (nI n &&& 31) else x) = nI (mask c (n + 1)) := by
  rw [← or_step hx hn hc]
  by_cases p : P
  · rw [if_pos p, if_pos p]
  · rw [if_neg p, if_neg p, or_0]
theorem H_bits_m (g : HB) (a : Int32) : ∀ n, n ≤ 8 → H_bits g a n = nI (mask (fun b => decide (g 21 b = a)) n)
  | 0, _ => rfl
  | n + 1, h => or_step2 (x := H_bits g a n) (c := fun b => decide (g 21 b = a)) (H_bits_m g a n (by omega)) (by omega) rfl
theorem H_bitsB_m (g : HB) (a : Int32) : ∀ n, n ≤ 8 → H_bitsB g a n = nI (mask (fun b => decide (¬ g 21 b = 0 ∧ ¬ g 21 b = a)) n)
  | 0, _ => rfl
  | n + 1, h => or_step2 (x := H_bitsB g a n) (c := fun b => decide (¬ g 21 b = 0 ∧ ¬ g 21 b = a)) (H_bitsB_m g a n (by omega)) (by omega) rfl
theorem M_insA_m (h : HB) (a : Int32) : ∀ n, n ≤ 8 → M_insA h a n = nI (mask (fun b => decide (h 1 (480 + 6 * b + 2) = a)) n)
  | 0, _ => rfl
  | n + 1, q => or_step (x := M_insA h a n) (c := fun b => decide (h 1 (480 + 6 * b + 2) = a)) (M_insA_m h a n (by omega)) (by omega) rfl
theorem M_tcA_m (h : HB) : ∀ n, n ≤ 8 → M_tcA h n = nI (mask (fun j => decide (¬ M_is h j ∨ h 1 (480 + 6 * j + 1) = nI 1)) n)
  | 0, _ => rfl
  | n + 1, q => or_step (x := M_tcA h n) (c := fun j => decide (¬ M_is h j ∨ h 1 (480 + 6 * j + 1) = nI 1)) (M_tcA_m h n (by omega)) (by omega) rfl
/-- who is IN: both alike -/
theorem ins_eq {g m : HB} (H : RS0 g (m 1)) (a : Int32) : M_ins m a = H_bits g a (ix (g 18 0)) := by
  have b2 := ix_lt H.1.2 (by decide)
  have e : ix (m 1 530) = ix (g 18 0) := by rw [H.2.2.2.1.2.2.2.2]
  unfold M_ins
  rw [e, M_insA_m m a _ (by omega), H_bits_m g a _ (by omega)]
  congr 1
  refine mask_cong _ (fun b hb => ?_)
  rw [H.2.2.1 b 2 hb (by decide) (by decide)]
theorem insC_eq {g m : HB} (H : RS0 g (m 1)) (a : Int32) : M_ones (M_ins m a) 8 = bcF (H_bits g a (ix (g 18 0))) := by
  have b2 := ix_lt H.1.2 (by decide)
  rw [ins_eq H a, H_bits_m g a _ (by omega)]
  have h1 := mask_lt (fun b => decide (g 21 b = a)) (ix (g 18 0))
  have h2 := pow_le8 (n := ix (g 18 0)) (by omega)
  exact (bit_cnt _ (by omega)).symm
theorem mus_step {g m : HB} (H : RS0 g (m 1)) (a : Int32) : ∀ j, j ≤ 5 → M_musA m a j = nI (mask (fun b => decide (∃ i, i < j ∧ g 21 b = nI (i + 1) ∧ ¬ nI (i + 1) = a)) (ix (g 18 0))) := by
  have b2 := ix_lt H.1.2 (by decide)
  intro j
  induction j with
  | zero =>
    intro _
    rw [mask_zero _ (fun b _ => by simp)]
    rfl
  | succ j ih =>
    intro hj
    have h2 := pow_le8 (n := ix (g 18 0)) (by omega)
    show M_musA m a j ||| (if nI (j + 1) = a then nI 0 else M_ins m (nI (j + 1))) = _
    rw [ih (by omega)]
    by_cases c : nI (j + 1) = a
    · rw [if_pos c, or_0]
      congr 1
      refine mask_cong _ (fun b _ => ?_)
      apply decide_eq_decide.mpr
      constructor
      · rintro ⟨i, hi, x, y⟩; exact ⟨i, by omega, x, y⟩
      · rintro ⟨i, hi, x, y⟩
        refine ⟨i, ?_, x, y⟩
        rcases Nat.lt_or_ge i j with q | q
        · exact q
        · have : i = j := by omega
          subst this; exact absurd c y
    · rw [if_neg c, ins_eq H, H_bits_m g _ _ (by omega)]
      have l1 := mask_lt (fun b => decide (∃ i, i < j ∧ g 21 b = nI (i + 1) ∧ ¬ nI (i + 1) = a)) (ix (g 18 0))
      have l2 := mask_lt (fun b => decide (g 21 b = nI (j + 1))) (ix (g 18 0))
      rw [nI_or (by omega) (by omega), mask_or]
      congr 1
      refine mask_cong _ (fun b _ => ?_)
      rw [← Bool.decide_or]
      apply decide_eq_decide.mpr
      constructor
      · rintro (⟨i, hi, x, y⟩ | x)
        · exact ⟨i, by omega, x, y⟩
        · exact ⟨j, by omega, x, c⟩
      · rintro ⟨i, hi, x, y⟩
        rcases Nat.lt_or_ge i j with q | q
        · exact Or.inl ⟨i, q, x, y⟩
        · have : i = j := by omega
          subst this; exact Or.inr x
theorem mus_eq {g m : HB} (H : RS0 g (m 1)) (hV : RVb g) (a : Int32) : M_musA m a 5 = H_bitsB g a (ix (g 18 0)) := by
  have b2 := ix_lt H.1.2 (by decide)
  rw [mus_step H a 5 (by omega), H_bitsB_m g a _ (by omega)]
  congr 1
  refine mask_cong _ (fun b hb => ?_)
  apply decide_eq_decide.mpr
  obtain ⟨v, hv, e⟩ := (hV b hb).2.2
  constructor
  · rintro ⟨i, hi, x, y⟩
    exact ⟨by rw [x]; exact nI_ne0 (by omega) (by omega), by rw [x]; exact y⟩
  · rintro ⟨x, y⟩
    rw [e] at x y
    have : v ≠ 0 := fun z => x (by rw [z]; rfl)
    exact ⟨v - 1, by omega, by rw [e, show v - 1 + 1 = v from by omega], by rw [show v - 1 + 1 = v from by omega]; exact y⟩
/-- the COPY -/
theorem M_is_iff {g m : HB} (H : RS0 g (m 1)) {b : Nat} (hb : b < 8) : M_is m b ↔ b < ix (g 18 0) := by
  have e : m 1 530 = g 18 0 := H.2.2.2.1.2.2.2.2
  constructor
  · intro z
    have := (vI_in (N := 8) (by rw [e]; exact H.1.2) (by decide) z).2
    rw [ix_nI (by omega), e] at this
    exact this
  · intro z
    exact in_ok (N := 8) (by rw [e]; exact H.1.2) (by decide) (by rw [e]; exact z)
theorem tc16 (d : Nat) {b : Nat} (hb : b < 8) : ∀ n (x : HB), n ≤ 8 → iter (H_tcB d) n x 16 (d * 8 + b) = (if b < n then x 20 b else x 16 (d * 8 + b)) ∧ iter (H_tcB d) n x 17 (d * 8 + b) = (if b < n then x 19 b else x 17 (d * 8 + b))
  | 0, x, _ => by simp [iter]
  | n + 1, x, hn => by
    obtain ⟨i1, i2⟩ := tc16 d hb n x (by omega)
    have k1 : iter (H_tcB d) n x 20 n = x 20 n := H_tcopy_k x d n 20 n (by decide)
    have k2 : iter (H_tcB d) n x 19 n = x 19 n := H_tcopy_k x d n 19 n (by decide)
    show H_tcB d n (iter (H_tcB d) n x) 16 (d * 8 + b) = _ ∧ H_tcB d n (iter (H_tcB d) n x) 17 (d * 8 + b) = _
    generalize iter (H_tcB d) n x = y at *
    unfold H_tcB
    by_cases c : b = n
    · subst c
      rw [up2_n (by omega), up2_s, up2_s, k1, k2, if_pos (by omega), if_pos (by omega)]
      exact ⟨rfl, rfl⟩
    · rw [up2_n (by omega), up2_n (by omega), up2_n (by omega), up2_n (by omega)]
      have e : (b < n + 1) = (b < n) := propext ⟨fun z => by omega, fun z => by omega⟩
      exact ⟨by rw [i1]; simp only [e], by rw [i2]; simp only [e]⟩
theorem H_tcB_o (d : Nat) : ∀ n (x : HB) (k j : Nat), n ≤ 8 → (k = 16 ∨ k = 17 → j < d * 8 ∨ d * 8 + 8 ≤ j) → iter (H_tcB d) n x k j = x k j
  | 0, _, _, _, _, _ => rfl
  | n + 1, x, k, j, hn, hj => by
    have ih := H_tcB_o d n x k j (by omega) hj
    show H_tcB d n (iter (H_tcB d) n x) k j = _
    generalize iter (H_tcB d) n x = y at *
    unfold H_tcB
    rw [up2_n (by omega), up2_n (by omega)]
    exact ih
theorem M_tcB_v (h m : HB) (d : Nat) {b : Nat} : ∀ n, b < n → iter (M_tcB h d) n m 1 (60 * d + 10 + 1 + b) = if M_is h b then h 1 (480 + 6 * b + 0) else nI 0
  | 0, hb => absurd hb (by omega)
  | n + 1, hb => by
    have ih : b ≠ n → iter (M_tcB h d) n m 1 (60 * d + 10 + 1 + b) = _ := fun c => M_tcB_v h m d n (by omega)
    show M_tcB h d n (iter (M_tcB h d) n m) 1 (60 * d + 10 + 1 + b) = _
    generalize iter (M_tcB h d) n m = y at *
    unfold M_tcB
    by_cases c : b = n
    · subst c; rw [up2_s]
    · rw [up2_n (by omega)]
      exact ih c
