def M_w7 (l : Int64) (x : Int32) : Int32 := if lg_cmp l (M_wd (nI 2) (nI 1) (nI 18) (nI 0) (nI 0) (nI 0)) = 0 then nI 7 else x
def M_w6 (l : Int64) (x : Int32) : Int32 := M_w7 l (if lg_cmp l (M_wd (nI 15) (nI 14) (nI 0) (nI 0) (nI 0) (nI 0)) = 0 then nI 6 else x)
def M_w5 (l : Int64) (x : Int32) : Int32 := M_w6 l (if lg_cmp l (M_wd (nI 15) (nI 6) (nI 6) (nI 0) (nI 0) (nI 0)) = 0 then nI 5 else x)
def M_w4 (l : Int64) (x : Int32) : Int32 := M_w5 l (if lg_cmp l (M_wd (nI 23) (nI 1) (nI 9) (nI 20) (nI 0) (nI 0)) = 0 then nI 4 else x)
def M_w3 (l : Int64) (x : Int32) : Int32 := M_w4 l (if lg_cmp l (M_wd (nI 4) (nI 21) (nI 18) (nI 5) (nI 19) (nI 19)) = 0 then nI 3 else x)
def M_w2 (l : Int64) (x : Int32) : Int32 := M_w3 l (if lg_cmp l (M_wd (nI 1) (nI 19) (nI 11) (nI 0) (nI 0) (nI 0)) = 0 then nI 2 else x)
def M_w1 (l : Int64) (x : Int32) : Int32 := M_w2 l (if lg_cmp l (M_wd (nI 4) (nI 15) (nI 15) (nI 18) (nI 0) (nI 0)) = 0 then nI 1 else x)
def M_w0 (l : Int64) (x : Int32) : Int32 := M_w1 l (if lg_cmp l (M_wd (nI 2) (nI 1) (nI 4) (nI 7) (nI 5) (nI 0)) = 0 then nI 0 else x)

set_option maxHeartbeats 4000000 in
set_option maxRecDepth 100000 in
theorem wo_7 (E : EN) (u : U3) (r : R1) (s e : Int32) (l : Int64) (x : Int32) (F : FX) (C : Cx E F cX7_wordOf 6 RX7 wsX7_wordOf (rmT 1 25)) (K : RtI E F cX7_wordOf (M_w7 l x) u r) : T E F 6 u r 183 [(0, .ref (eA E 6 0)), (1, .int s), (2, .int e), (3, .long l), (5, .int x)] [] := by
  refine tt_lload_n C dX7_wordOf_183 rfl 3 rfl ?_
  refine tt_iconst (v := nI 2) C dX7_wordOf_184 (by decide) ?_
  refine tt_iconst (v := nI 1) C dX7_wordOf_185 (by decide) ?_
  refine tt_bipush (v := nI 18) C dX7_wordOf_186 (by decide) ?_
  refine tt_iconst (v := nI 0) C dX7_wordOf_188 (by decide) ?_
  refine tt_iconst (v := nI 0) C dX7_wordOf_189 (by decide) ?_
  refine tt_iconst (v := nI 0) C dX7_wordOf_190 (by decide) ?_
  refine tt_cSL C (c_X7_word E u r (nI 2) (nI 1) (nI 18) (nI 0) (nI 0) (nI 0)) gX7_wordOf_X7_word rfl ⟨rfl, rfl⟩ 6 (by decide +kernel) ⟨Nat.le_of_ble_eq_true rfl, Nat.le_of_ble_eq_true rfl⟩ rfl (Nat.le_of_ble_eq_true rfl) dX7_wordOf_191 rfl ?_
  refine tt_lcmp C dX7_wordOf_194 rfl ?_
  refine tt_if_ne C (tgt := 203) dX7_wordOf_195 (by decide) Iff.rfl (fun c_401 => ?_) (fun c_401 => ?_)
  · skip
    refine tt_iload C dX7_wordOf_203 4 rfl ?_
    exact tt_iret K dX7_wordOf_205 (by unfold M_w7; first | rw [if_pos (by assumption)] | rw [if_neg (by assumption)]) (by rfl) rfl
  · skip
    refine tt_bipush (v := nI 7) C dX7_wordOf_198 (by decide) ?_
    refine tt_goto (tgt := 205) C dX7_wordOf_200 (by decide) ?_
    exact tt_iret K dX7_wordOf_205 (by unfold M_w7; first | rw [if_pos (by assumption)] | rw [if_neg (by assumption)]) (by rfl) rfl

set_option maxHeartbeats 4000000 in
set_option maxRecDepth 100000 in
theorem wo_6 (E : EN) (u : U3) (r : R1) (s e : Int32) (l : Int64) (x : Int32) (F : FX) (C : Cx E F cX7_wordOf 6 RX7 wsX7_wordOf (rmT 1 25)) (K : RtI E F cX7_wordOf (M_w6 l x) u r) : T E F 6 u r 158 [(0, .ref (eA E 6 0)), (1, .int s), (2, .int e), (3, .long l), (5, .int x)] [] := by
  refine tt_lload_n C dX7_wordOf_158 rfl 3 rfl ?_
  refine tt_bipush (v := nI 15) C dX7_wordOf_159 (by decide) ?_
  refine tt_bipush (v := nI 14) C dX7_wordOf_161 (by decide) ?_
  refine tt_iconst (v := nI 0) C dX7_wordOf_163 (by decide) ?_
  refine tt_iconst (v := nI 0) C dX7_wordOf_164 (by decide) ?_
  refine tt_iconst (v := nI 0) C dX7_wordOf_165 (by decide) ?_
  refine tt_iconst (v := nI 0) C dX7_wordOf_166 (by decide) ?_
  refine tt_cSL C (c_X7_word E u r (nI 15) (nI 14) (nI 0) (nI 0) (nI 0) (nI 0)) gX7_wordOf_X7_word rfl ⟨rfl, rfl⟩ 6 (by decide +kernel) ⟨Nat.le_of_ble_eq_true rfl, Nat.le_of_ble_eq_true rfl⟩ rfl (Nat.le_of_ble_eq_true rfl) dX7_wordOf_167 rfl ?_
  refine tt_lcmp C dX7_wordOf_170 rfl ?_
  refine tt_if_ne C (tgt := 179) dX7_wordOf_171 (by decide) Iff.rfl (fun c_401 => ?_) (fun c_401 => ?_)
  · skip
    refine tt_iload C dX7_wordOf_179 4 rfl ?_
    refine tt_istore (lv' := [(0, .ref (eA E 6 0)), (1, .int s), (2, .int e), (3, .long l), (5, .int x)]) C dX7_wordOf_181 (by decide) [1, 2, 3, 4, 0] rfl ?_
    have e9 : M_w6 l x = M_w7 l (x) := by unfold M_w6; rw [if_neg c_401]
    rw [e9] at K
    exact wo_7 E u r s e l _ F C K
  · skip
    refine tt_bipush (v := nI 6) C dX7_wordOf_174 (by decide) ?_
    refine tt_goto (tgt := 181) C dX7_wordOf_176 (by decide) ?_
    refine tt_istore (lv' := [(0, .ref (eA E 6 0)), (1, .int s), (2, .int e), (3, .long l), (5, .int (nI 6))]) C dX7_wordOf_181 (by decide) [1, 2, 3, 4, 0] rfl ?_
    have e9 : M_w6 l x = M_w7 l (nI 6) := by unfold M_w6; rw [if_pos c_401]
    rw [e9] at K
    exact wo_7 E u r s e l _ F C K

set_option maxHeartbeats 4000000 in
set_option maxRecDepth 100000 in
theorem wo_5 (E : EN) (u : U3) (r : R1) (s e : Int32) (l : Int64) (x : Int32) (F : FX) (C : Cx E F cX7_wordOf 6 RX7 wsX7_wordOf (rmT 1 25)) (K : RtI E F cX7_wordOf (M_w5 l x) u r) : T E F 6 u r 133 [(0, .ref (eA E 6 0)), (1, .int s), (2, .int e), (3, .long l), (5, .int x)] [] := by
  refine tt_lload_n C dX7_wordOf_133 rfl 3 rfl ?_
  refine tt_bipush (v := nI 15) C dX7_wordOf_134 (by decide) ?_
  refine tt_bipush (v := nI 6) C dX7_wordOf_136 (by decide) ?_
  refine tt_bipush (v := nI 6) C dX7_wordOf_138 (by decide) ?_
  refine tt_iconst (v := nI 0) C dX7_wordOf_140 (by decide) ?_
  refine tt_iconst (v := nI 0) C dX7_wordOf_141 (by decide) ?_
  refine tt_iconst (v := nI 0) C dX7_wordOf_142 (by decide) ?_
  refine tt_cSL C (c_X7_word E u r (nI 15) (nI 6) (nI 6) (nI 0) (nI 0) (nI 0)) gX7_wordOf_X7_word rfl ⟨rfl, rfl⟩ 6 (by decide +kernel) ⟨Nat.le_of_ble_eq_true rfl, Nat.le_of_ble_eq_true rfl⟩ rfl (Nat.le_of_ble_eq_true rfl) dX7_wordOf_143 rfl ?_
  refine tt_lcmp C dX7_wordOf_146 rfl ?_
  refine tt_if_ne C (tgt := 154) dX7_wordOf_147 (by decide) Iff.rfl (fun c_401 => ?_) (fun c_401 => ?_)
  · skip
    refine tt_iload C dX7_wordOf_154 4 rfl ?_
    refine tt_istore (lv' := [(0, .ref (eA E 6 0)), (1, .int s), (2, .int e), (3, .long l), (5, .int x)]) C dX7_wordOf_156 (by decide) [1, 2, 3, 4, 0] rfl ?_
    have e9 : M_w5 l x = M_w6 l (x) := by unfold M_w5; rw [if_neg c_401]
    rw [e9] at K
    exact wo_6 E u r s e l _ F C K
  · skip
    refine tt_iconst (v := nI 5) C dX7_wordOf_150 (by decide) ?_
    refine tt_goto (tgt := 156) C dX7_wordOf_151 (by decide) ?_
    refine tt_istore (lv' := [(0, .ref (eA E 6 0)), (1, .int s), (2, .int e), (3, .long l), (5, .int (nI 5))]) C dX7_wordOf_156 (by decide) [1, 2, 3, 4, 0] rfl ?_
    have e9 : M_w5 l x = M_w6 l (nI 5) := by unfold M_w5; rw [if_pos c_401]
    rw [e9] at K
    exact wo_6 E u r s e l _ F C K

set_option maxHeartbeats 4000000 in
set_option maxRecDepth 100000 in
theorem wo_4 (E : EN) (u : U3) (r : R1) (s e : Int32) (l : Int64) (x : Int32) (F : FX) (C : Cx E F cX7_wordOf 6 RX7 wsX7_wordOf (rmT 1 25)) (K : RtI E F cX7_wordOf (M_w4 l x) u r) : T E F 6 u r 108 [(0, .ref (eA E 6 0)), (1, .int s), (2, .int e), (3, .long l), (5, .int x)] [] := by
  refine tt_lload_n C dX7_wordOf_108 rfl 3 rfl ?_
  refine tt_bipush (v := nI 23) C dX7_wordOf_109 (by decide) ?_
  refine tt_iconst (v := nI 1) C dX7_wordOf_111 (by decide) ?_
  refine tt_bipush (v := nI 9) C dX7_wordOf_112 (by decide) ?_
  refine tt_bipush (v := nI 20) C dX7_wordOf_114 (by decide) ?_
  refine tt_iconst (v := nI 0) C dX7_wordOf_116 (by decide) ?_
  refine tt_iconst (v := nI 0) C dX7_wordOf_117 (by decide) ?_
  refine tt_cSL C (c_X7_word E u r (nI 23) (nI 1) (nI 9) (nI 20) (nI 0) (nI 0)) gX7_wordOf_X7_word rfl ⟨rfl, rfl⟩ 6 (by decide +kernel) ⟨Nat.le_of_ble_eq_true rfl, Nat.le_of_ble_eq_true rfl⟩ rfl (Nat.le_of_ble_eq_true rfl) dX7_wordOf_118 rfl ?_
  refine tt_lcmp C dX7_wordOf_121 rfl ?_
  refine tt_if_ne C (tgt := 129) dX7_wordOf_122 (by decide) Iff.rfl (fun c_401 => ?_) (fun c_401 => ?_)
  · skip
    refine tt_iload C dX7_wordOf_129 4 rfl ?_
    refine tt_istore (lv' := [(0, .ref (eA E 6 0)), (1, .int s), (2, .int e), (3, .long l), (5, .int x)]) C dX7_wordOf_131 (by decide) [1, 2, 3, 4, 0] rfl ?_
    have e9 : M_w4 l x = M_w5 l (x) := by unfold M_w4; rw [if_neg c_401]
    rw [e9] at K
    exact wo_5 E u r s e l _ F C K
  · skip
    refine tt_iconst (v := nI 4) C dX7_wordOf_125 (by decide) ?_
    refine tt_goto (tgt := 131) C dX7_wordOf_126 (by decide) ?_
    refine tt_istore (lv' := [(0, .ref (eA E 6 0)), (1, .int s), (2, .int e), (3, .long l), (5, .int (nI 4))]) C dX7_wordOf_131 (by decide) [1, 2, 3, 4, 0] rfl ?_
    have e9 : M_w4 l x = M_w5 l (nI 4) := by unfold M_w4; rw [if_pos c_401]
    rw [e9] at K
    exact wo_5 E u r s e l _ F C K

set_option maxHeartbeats 4000000 in
set_option maxRecDepth 100000 in
theorem wo_3 (E : EN) (u : U3) (r : R1) (s e : Int32) (l : Int64) (x : Int32) (F : FX) (C : Cx E F cX7_wordOf 6 RX7 wsX7_wordOf (rmT 1 25)) (K : RtI E F cX7_wordOf (M_w3 l x) u r) : T E F 6 u r 82 [(0, .ref (eA E 6 0)), (1, .int s), (2, .int e), (3, .long l), (5, .int x)] [] := by
  refine tt_lload_n C dX7_wordOf_82 rfl 3 rfl ?_
  refine tt_iconst (v := nI 4) C dX7_wordOf_83 (by decide) ?_
  refine tt_bipush (v := nI 21) C dX7_wordOf_84 (by decide) ?_
  refine tt_bipush (v := nI 18) C dX7_wordOf_86 (by decide) ?_
  refine tt_iconst (v := nI 5) C dX7_wordOf_88 (by decide) ?_
  refine tt_bipush (v := nI 19) C dX7_wordOf_89 (by decide) ?_
  refine tt_bipush (v := nI 19) C dX7_wordOf_91 (by decide) ?_
  refine tt_cSL C (c_X7_word E u r (nI 4) (nI 21) (nI 18) (nI 5) (nI 19) (nI 19)) gX7_wordOf_X7_word rfl ⟨rfl, rfl⟩ 6 (by decide +kernel) ⟨Nat.le_of_ble_eq_true rfl, Nat.le_of_ble_eq_true rfl⟩ rfl (Nat.le_of_ble_eq_true rfl) dX7_wordOf_93 rfl ?_
  refine tt_lcmp C dX7_wordOf_96 rfl ?_
  refine tt_if_ne C (tgt := 104) dX7_wordOf_97 (by decide) Iff.rfl (fun c_401 => ?_) (fun c_401 => ?_)
  · skip
    refine tt_iload C dX7_wordOf_104 4 rfl ?_
    refine tt_istore (lv' := [(0, .ref (eA E 6 0)), (1, .int s), (2, .int e), (3, .long l), (5, .int x)]) C dX7_wordOf_106 (by decide) [1, 2, 3, 4, 0] rfl ?_
    have e9 : M_w3 l x = M_w4 l (x) := by unfold M_w3; rw [if_neg c_401]
    rw [e9] at K
    exact wo_4 E u r s e l _ F C K
  · skip
    refine tt_iconst (v := nI 3) C dX7_wordOf_100 (by decide) ?_
    refine tt_goto (tgt := 106) C dX7_wordOf_101 (by decide) ?_
    refine tt_istore (lv' := [(0, .ref (eA E 6 0)), (1, .int s), (2, .int e), (3, .long l), (5, .int (nI 3))]) C dX7_wordOf_106 (by decide) [1, 2, 3, 4, 0] rfl ?_
    have e9 : M_w3 l x = M_w4 l (nI 3) := by unfold M_w3; rw [if_pos c_401]
    rw [e9] at K
    exact wo_4 E u r s e l _ F C K

set_option maxHeartbeats 4000000 in
set_option maxRecDepth 100000 in
theorem wo_2 (E : EN) (u : U3) (r : R1) (s e : Int32) (l : Int64) (x : Int32) (F : FX) (C : Cx E F cX7_wordOf 6 RX7 wsX7_wordOf (rmT 1 25)) (K : RtI E F cX7_wordOf (M_w2 l x) u r) : T E F 6 u r 58 [(0, .ref (eA E 6 0)), (1, .int s), (2, .int e), (3, .long l), (5, .int x)] [] := by
  refine tt_lload_n C dX7_wordOf_58 rfl 3 rfl ?_
  refine tt_iconst (v := nI 1) C dX7_wordOf_59 (by decide) ?_
  refine tt_bipush (v := nI 19) C dX7_wordOf_60 (by decide) ?_
  refine tt_bipush (v := nI 11) C dX7_wordOf_62 (by decide) ?_
  refine tt_iconst (v := nI 0) C dX7_wordOf_64 (by decide) ?_
  refine tt_iconst (v := nI 0) C dX7_wordOf_65 (by decide) ?_
  refine tt_iconst (v := nI 0) C dX7_wordOf_66 (by decide) ?_
  refine tt_cSL C (c_X7_word E u r (nI 1) (nI 19) (nI 11) (nI 0) (nI 0) (nI 0)) gX7_wordOf_X7_word rfl ⟨rfl, rfl⟩ 6 (by decide +kernel) ⟨Nat.le_of_ble_eq_true rfl, Nat.le_of_ble_eq_true rfl⟩ rfl (Nat.le_of_ble_eq_true rfl) dX7_wordOf_67 rfl ?_
  refine tt_lcmp C dX7_wordOf_70 rfl ?_
  refine tt_if_ne C (tgt := 78) dX7_wordOf_71 (by decide) Iff.rfl (fun c_401 => ?_) (fun c_401 => ?_)
  · skip
    refine tt_iload C dX7_wordOf_78 4 rfl ?_
    refine tt_istore (lv' := [(0, .ref (eA E 6 0)), (1, .int s), (2, .int e), (3, .long l), (5, .int x)]) C dX7_wordOf_80 (by decide) [1, 2, 3, 4, 0] rfl ?_
    have e9 : M_w2 l x = M_w3 l (x) := by unfold M_w2; rw [if_neg c_401]
    rw [e9] at K
    exact wo_3 E u r s e l _ F C K
  · skip
    refine tt_iconst (v := nI 2) C dX7_wordOf_74 (by decide) ?_
    refine tt_goto (tgt := 80) C dX7_wordOf_75 (by decide) ?_
    refine tt_istore (lv' := [(0, .ref (eA E 6 0)), (1, .int s), (2, .int e), (3, .long l), (5, .int (nI 2))]) C dX7_wordOf_80 (by decide) [1, 2, 3, 4, 0] rfl ?_
    have e9 : M_w2 l x = M_w3 l (nI 2) := by unfold M_w2; rw [if_pos c_401]
    rw [e9] at K
    exact wo_3 E u r s e l _ F C K

set_option maxHeartbeats 4000000 in
set_option maxRecDepth 100000 in
theorem wo_1 (E : EN) (u : U3) (r : R1) (s e : Int32) (l : Int64) (x : Int32) (F : FX) (C : Cx E F cX7_wordOf 6 RX7 wsX7_wordOf (rmT 1 25)) (K : RtI E F cX7_wordOf (M_w1 l x) u r) : T E F 6 u r 33 [(0, .ref (eA E 6 0)), (1, .int s), (2, .int e), (3, .long l), (5, .int x)] [] := by
  refine tt_lload_n C dX7_wordOf_33 rfl 3 rfl ?_
  refine tt_iconst (v := nI 4) C dX7_wordOf_34 (by decide) ?_
  refine tt_bipush (v := nI 15) C dX7_wordOf_35 (by decide) ?_
  refine tt_bipush (v := nI 15) C dX7_wordOf_37 (by decide) ?_
  refine tt_bipush (v := nI 18) C dX7_wordOf_39 (by decide) ?_
  refine tt_iconst (v := nI 0) C dX7_wordOf_41 (by decide) ?_
  refine tt_iconst (v := nI 0) C dX7_wordOf_42 (by decide) ?_
  refine tt_cSL C (c_X7_word E u r (nI 4) (nI 15) (nI 15) (nI 18) (nI 0) (nI 0)) gX7_wordOf_X7_word rfl ⟨rfl, rfl⟩ 6 (by decide +kernel) ⟨Nat.le_of_ble_eq_true rfl, Nat.le_of_ble_eq_true rfl⟩ rfl (Nat.le_of_ble_eq_true rfl) dX7_wordOf_43 rfl ?_
  refine tt_lcmp C dX7_wordOf_46 rfl ?_
  refine tt_if_ne C (tgt := 54) dX7_wordOf_47 (by decide) Iff.rfl (fun c_401 => ?_) (fun c_401 => ?_)
  · skip
    refine tt_iload C dX7_wordOf_54 4 rfl ?_
    refine tt_istore (lv' := [(0, .ref (eA E 6 0)), (1, .int s), (2, .int e), (3, .long l), (5, .int x)]) C dX7_wordOf_56 (by decide) [1, 2, 3, 4, 0] rfl ?_
    have e9 : M_w1 l x = M_w2 l (x) := by unfold M_w1; rw [if_neg c_401]
    rw [e9] at K
    exact wo_2 E u r s e l _ F C K
  · skip
    refine tt_iconst (v := nI 1) C dX7_wordOf_50 (by decide) ?_
    refine tt_goto (tgt := 56) C dX7_wordOf_51 (by decide) ?_
    refine tt_istore (lv' := [(0, .ref (eA E 6 0)), (1, .int s), (2, .int e), (3, .long l), (5, .int (nI 1))]) C dX7_wordOf_56 (by decide) [1, 2, 3, 4, 0] rfl ?_
    have e9 : M_w1 l x = M_w2 l (nI 1) := by unfold M_w1; rw [if_pos c_401]
    rw [e9] at K
    exact wo_2 E u r s e l _ F C K

set_option maxHeartbeats 4000000 in
set_option maxRecDepth 100000 in
theorem wo_0 (E : EN) (u : U3) (r : R1) (s e : Int32) (l : Int64) (x : Int32) (F : FX) (C : Cx E F cX7_wordOf 6 RX7 wsX7_wordOf (rmT 1 25)) (K : RtI E F cX7_wordOf (M_w0 l x) u r) : T E F 6 u r 10 [(0, .ref (eA E 6 0)), (1, .int s), (2, .int e), (3, .long l), (5, .int x)] [] := by
  refine tt_lload_n C dX7_wordOf_10 rfl 3 rfl ?_
  refine tt_iconst (v := nI 2) C dX7_wordOf_11 (by decide) ?_
  refine tt_iconst (v := nI 1) C dX7_wordOf_12 (by decide) ?_
  refine tt_iconst (v := nI 4) C dX7_wordOf_13 (by decide) ?_
  refine tt_bipush (v := nI 7) C dX7_wordOf_14 (by decide) ?_
  refine tt_iconst (v := nI 5) C dX7_wordOf_16 (by decide) ?_
  refine tt_iconst (v := nI 0) C dX7_wordOf_17 (by decide) ?_
  refine tt_cSL C (c_X7_word E u r (nI 2) (nI 1) (nI 4) (nI 7) (nI 5) (nI 0)) gX7_wordOf_X7_word rfl ⟨rfl, rfl⟩ 6 (by decide +kernel) ⟨Nat.le_of_ble_eq_true rfl, Nat.le_of_ble_eq_true rfl⟩ rfl (Nat.le_of_ble_eq_true rfl) dX7_wordOf_18 rfl ?_
  refine tt_lcmp C dX7_wordOf_21 rfl ?_
  refine tt_if_ne C (tgt := 29) dX7_wordOf_22 (by decide) Iff.rfl (fun c_401 => ?_) (fun c_401 => ?_)
  · skip
    refine tt_iload C dX7_wordOf_29 4 rfl ?_
    refine tt_istore (lv' := [(0, .ref (eA E 6 0)), (1, .int s), (2, .int e), (3, .long l), (5, .int x)]) C dX7_wordOf_31 (by decide) [1, 2, 3, 4, 0] rfl ?_
    have e9 : M_w0 l x = M_w1 l (x) := by unfold M_w0; rw [if_neg c_401]
    rw [e9] at K
    exact wo_1 E u r s e l _ F C K
  · skip
    refine tt_iconst (v := nI 0) C dX7_wordOf_25 (by decide) ?_
    refine tt_goto (tgt := 31) C dX7_wordOf_26 (by decide) ?_
    refine tt_istore (lv' := [(0, .ref (eA E 6 0)), (1, .int s), (2, .int e), (3, .long l), (5, .int (nI 0))]) C dX7_wordOf_31 (by decide) [1, 2, 3, 4, 0] rfl ?_
    have e9 : M_w0 l x = M_w1 l (nI 0) := by unfold M_w0; rw [if_pos c_401]
    rw [e9] at K
    exact wo_1 E u r s e l _ F C K

def M_wo (f : Nat → Int32) (s e : Nat) : Int32 := M_w0 (M_lt f s e) (-1)

set_option maxHeartbeats 4000000 in
set_option maxRecDepth 100000 in
theorem c_X7_wordOf (E : EN) (u : U3) (r : R1) (h : HB) (f : Nat → Int32) (s : Nat) (e : Nat) (fb : h 5 = f) (he : e ≤ 150) (hse : s ≤ e) : CT E yX7_wordOf wsX7_wordOf (rmT 1 25) [.ref (eA E 6 0), .int (nI s), .int (nI e)] (ub u 6 h) r (some (.int (M_wo f s e))) (ub u 6 h) r := by
  refine CT_ofI (cc := cX7_wordOf) (nL := 6) (own := RX7) (by decide) rfl rfl rfl (Nat.le_of_ble_eq_true rfl) (fun F C K => ?_)
  refine tt_to (lv1 := [(0, .ref (eA E 6 0)), (1, .int (nI s)), (2, .int (nI e))]) rfl rfl rfl rfl ?_
  by_cases h10 : e - s < 10
  · skip
    refine tt_aload_n C dX7_wordOf_0 rfl 0 rfl ?_
    refine tt_iload_n C dX7_wordOf_1 rfl 1 rfl ?_
    refine tt_iload_n C dX7_wordOf_2 rfl 2 rfl ?_
    refine tt_cVL C (c_X7_lettersFrom_S E u r h f s e fb he hse (by first | assumption | omega)) gX7_wordOf_X7_lettersFrom rfl ⟨rfl, rfl⟩ 2 (by decide +kernel) ⟨Nat.le_of_ble_eq_true rfl, Nat.le_of_ble_eq_true rfl⟩ rfl oM0 rfl (Nat.le_of_ble_eq_true rfl) dX7_wordOf_3 rfl ?_
    refine tt_lstore_n (lv' := [(0, .ref (eA E 6 0)), (1, .int (nI s)), (2, .int (nI e)), (3, .long (M_ltA f e (e - s)))]) C dX7_wordOf_6 rfl (by decide) [1, 2, 3, 0] rfl ?_
    refine tt_iconst (v := (-1 : Int32)) C dX7_wordOf_7 (by decide) ?_
    refine tt_istore (lv' := [(0, .ref (eA E 6 0)), (1, .int (nI s)), (2, .int (nI e)), (3, .long (M_ltA f e (e - s))), (5, .int (-1 : Int32))]) C dX7_wordOf_8 (by decide) [1, 2, 3, 4, 0] rfl ?_
    have e9 : M_wo f s e = M_w0 (M_ltA f e (e - s)) (-1) := by unfold M_wo M_lt; first | rw [if_pos h10] | rw [if_neg h10]
    rw [e9] at K
    exact wo_0 E _ r _ _ _ _ F C K
  · skip
    refine tt_aload_n C dX7_wordOf_0 rfl 0 rfl ?_
    refine tt_iload_n C dX7_wordOf_1 rfl 1 rfl ?_
    refine tt_iload_n C dX7_wordOf_2 rfl 2 rfl ?_
    refine tt_cVL C (c_X7_lettersFrom_L E u r h f s e fb he hse (by first | assumption | omega)) gX7_wordOf_X7_lettersFrom rfl ⟨rfl, rfl⟩ 2 (by decide +kernel) ⟨Nat.le_of_ble_eq_true rfl, Nat.le_of_ble_eq_true rfl⟩ rfl oM0 rfl (Nat.le_of_ble_eq_true rfl) dX7_wordOf_3 rfl ?_
    refine tt_lstore_n (lv' := [(0, .ref (eA E 6 0)), (1, .int (nI s)), (2, .int (nI e)), (3, .long 0)]) C dX7_wordOf_6 rfl (by decide) [1, 2, 3, 0] rfl ?_
    refine tt_iconst (v := (-1 : Int32)) C dX7_wordOf_7 (by decide) ?_
    refine tt_istore (lv' := [(0, .ref (eA E 6 0)), (1, .int (nI s)), (2, .int (nI e)), (3, .long 0), (5, .int (-1 : Int32))]) C dX7_wordOf_8 (by decide) [1, 2, 3, 4, 0] rfl ?_
    have e9 : M_wo f s e = M_w0 (0) (-1) := by unfold M_wo M_lt; first | rw [if_pos h10] | rw [if_neg h10]
    rw [e9] at K
    exact wo_0 E _ r _ _ _ _ F C K

def M_due (w : Nat) : Nat := if w = 1 then 4 else if w = 2 ∨ w = 3 then 2 else 1
set_option maxHeartbeats 4000000 in
set_option maxRecDepth 100000 in
theorem c_X7_wantsOf (E : EN) (u : U3) (r : R1) (w : Nat) (hw : w < 8) : CT E yX7_wantsOf wsX7_wantsOf (rmT 0 0) [.int (nI w)] (u) r (some (.int (nI (M_due w)))) (u) r := by
  refine CT_ofI (cc := cX7_wantsOf) (nL := 1) (own := RX7) (by decide) rfl rfl rfl (Nat.le_of_ble_eq_true rfl) (fun F C K => ?_)
  refine tt_to (lv1 := [(0, .int (nI w))]) rfl rfl rfl rfl ?_
  refine tt_iload_n C dX7_wantsOf_0 rfl 0 rfl ?_
  refine tt_iconst (v := nI 1) C dX7_wantsOf_1 (by decide) ?_
  refine tt_icmp_ne C (tgt := 9) dX7_wantsOf_2 (by decide) (nI_eq (by omega) (by omega)) (fun c_1 => ?_) (fun c_1 => ?_)
  · skip
    refine tt_iload_n C dX7_wantsOf_9 rfl 0 rfl ?_
    refine tt_iconst (v := nI 2) C dX7_wantsOf_10 (by decide) ?_
    refine tt_icmp_eq C (tgt := 19) dX7_wantsOf_11 (by decide) (nI_eq (by omega) (by omega)) (fun c_2 => ?_) (fun c_2 => ?_)
    · skip
      refine tt_iconst (v := nI 2) C dX7_wantsOf_19 (by decide) ?_
      refine tt_goto (tgt := 24) C dX7_wantsOf_20 (by decide) ?_
      exact tt_iret K dX7_wantsOf_24 (by simp only [M_due, eq_true c_1, c_1, eq_true c_2, c_2, not_false_eq_true, not_true_eq_false, and_true, true_and, and_false, false_and, and_self, or_true, true_or, or_false, false_or, or_self, if_true, if_false] <;> first | rfl | (simp; done)) rfl rfl
    · skip
      refine tt_iload_n C dX7_wantsOf_14 rfl 0 rfl ?_
      refine tt_iconst (v := nI 3) C dX7_wantsOf_15 (by decide) ?_
      refine tt_icmp_ne C (tgt := 23) dX7_wantsOf_16 (by decide) (nI_eq (by omega) (by omega)) (fun c_3 => ?_) (fun c_3 => ?_)
      · skip
        refine tt_iconst (v := nI 1) C dX7_wantsOf_23 (by decide) ?_
        exact tt_iret K dX7_wantsOf_24 (by simp only [M_due, eq_true c_1, c_1, eq_true c_2, c_2, eq_true c_3, c_3, not_false_eq_true, not_true_eq_false, and_true, true_and, and_false, false_and, and_self, or_true, true_or, or_false, false_or, or_self, if_true, if_false] <;> first | rfl | (simp; done)) rfl rfl
      · skip
        refine tt_iconst (v := nI 2) C dX7_wantsOf_19 (by decide) ?_
        refine tt_goto (tgt := 24) C dX7_wantsOf_20 (by decide) ?_
        exact tt_iret K dX7_wantsOf_24 (by simp only [M_due, eq_true c_1, c_1, eq_true c_2, c_2, eq_true c_3, c_3, not_false_eq_true, not_true_eq_false, and_true, true_and, and_false, false_and, and_self, or_true, true_or, or_false, false_or, or_self, if_true, if_false] <;> first | rfl | (simp; done)) rfl rfl
  · skip
    refine tt_iconst (v := nI 4) C dX7_wantsOf_5 (by decide) ?_
    refine tt_goto (tgt := 24) C dX7_wantsOf_6 (by decide) ?_
    exact tt_iret K dX7_wantsOf_24 (by simp only [M_due, eq_true c_1, c_1, not_false_eq_true, not_true_eq_false, and_true, true_and, and_false, false_and, and_self, or_true, true_or, or_false, false_or, or_self, if_true, if_false] <;> first | rfl | (simp; done)) rfl rfl
