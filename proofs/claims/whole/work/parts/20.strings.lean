/-! statics and String constants: rows for T; a method that returns a reference -/
theorem up2_row {h : HB} {k j : Nat} {v : Int32} {k' : Nat} (hk : k' ≠ k) : up2 h k j v k' = h k' := by
  funext j'
  exact up2_n (fun z => hk z.1)
def RtR (E : EN) (F : FX) (cc : ByteArray) (x : Nat) (u' : U3) (r' : R1) : Prop := ∀ (ls : Array Slot) (H : Heap) (locs : List Loc) (pc : Nat), decode cc pc = .ok (.areturn, 1) → va_P (eD E) vwCl (wg E u' r') H → va_S (fB F) (fS F).heap H locs → WF E F H locs pc ls [.ref x]
theorem CT_ofR {E : EN} {y : MethodName} {ws ws' : List Cond} {rm : Room} {as : List Value} {u u' : U3} {r r' : R1} {cc : ByteArray} {nL : Nat} {rt : FieldType} {x : Nat} {own : String} (hy : plainName y.cls = true) (hown0 : y.cls = own) (hw : ws = Cond.code y cc nL (some rt) :: ws') (hrt : (∃ n, rt = .object n) ∨ ∃ t, rt = .array t) (hlen : (lg_sl as).length ≤ nL)
    (body : ∀ F : FX, Cx E F cc nL own ws rm → RtR E F cc x u' r' → T E F nL u r 0 (lv_args 0 as) []) : CT E y ws rm as u r (some (.ref x)) u' r' := by
  intro sz
  refine Met.ofW (cc := cc) (maxL := nL) (ret := (some rt)) hy hw ?_
  intro p e s m args below meth c s₁ B hml hv
  obtain ⟨rfl, hsz, hP, hK, hAD, hX⟩ := hv
  subst hsz
  have hts := atoms_spec (ws := ws) B.pre
  have hown : s.vm.findClass own = some m.cls := by rw [← hown0]; exact findClass_of_methodNamed B.named
  have hl := lv_entry as (n := nL) hlen
  rw [lg_entry_eq]
  refine body (p, e, (headSpec ws rm).room, s, m, as.toArray, below, meth, c, MQ below (fun _ st o t => (o = .returned (some (.ref x)) ∧ va_P (eD E) vwCl (wg E u' r') t.heap ∧ va_K (eD E) vwCl (tysE E) t) ∧ va_F (XB E s.heap.size) st t) as.toArray s 0 0 (XB E s.heap.size), 0, 0, XB E s.heap.size) ⟨B.exec, B.bytes, hml, hown, hts, hK, hAD, fun q hq => Or.inl ⟨q, hq, rfl⟩, fun q h => Or.inr h, ?_, hX.1, hX.2, rfl, Nat.zero_le _, Nat.zero_le _⟩ ?_ _ s.heap [] hl hP va_S.rf
  · intro U H locs hS hU hW
    exact XF_stab hX hW (by rw [hU]; exact hS.1) (fun q h1 h2 => by rw [hU]; exact hS.2.1 q h1 h2)
  · intro ls H locs pc hd hP hS
    have hS : va_S (XB E s.heap.size) s.heap H locs := hS
    show W p (eL E) e (headSpec ws rm).room s m as.toArray below meth c H locs 0 0 (MQ below (fun _ st o t => (o = .returned (some (.ref x)) ∧ va_P (eD E) vwCl (wg E u' r') t.heap ∧ va_K (eD E) vwCl (tysE E) t) ∧ va_F (XB E s.heap.size) st t) as.toArray s 0 0 (XB E s.heap.size)) (F0 m pc ls [.ref x])
    exact W.aret B.exec B.bytes B.returns hrt (Or.inr ⟨x, rfl⟩) (fun t ht hW => ⟨⟨rfl, by rw [ht]; exact hP, va_K.moved hW.alike hK⟩, hS.F ht⟩) hS.2.2 hd B.notSynchronized
section TS
variable {E : EN} {F : FX} {cc : ByteArray} {nL : Nat} {own : String} {Ts : List Cond} {rm0 : Room} {u u' : U3} {r r' : R1} {pc : Nat} {lv : List (Nat × Value)} {st rest : List Value} {h : HB}
theorem tt_aret {x v : Nat} (h : RtR E F cc x u' r') (hd : decode cc pc = .ok (.areturn, 1)) (hv : v = x) (hu : u = u') (hr : r = r') : T E F nL u r pc lv [.ref v] := by
  subst hv; subst hu; subst hr
  exact fun ls H locs _ hP hS => h ls H locs pc hd hP hS
theorem tt_gets (C : Cx E F cc nL own Ts rm0) {Cn n d : String} {v : Value} {idx : Nat} (hZ : va_Z Cn n d v (fB F) (fS F) (fS F).heap) (hl0 : Cond.fieldLink own idx Cn n d ∈ Ts) (hd : decode cc pc = .ok (.getstatic idx, 3)) (k : T E F nL u r (pc + 3) lv (v :: st)) : T E F nL u r pc lv st := fun ls H locs hl hP hS => va_gets C.1 C.2.1 hZ hS C.2.2.2.1 (C.2.2.2.2.1 _ hl0) (fun _ h9 => h9) hd (k ls H locs hl hP hS)
theorem tt_getsN (C : Cx E F cc nL own Ts rm0) {Cn n d host : String} {v : Value} {idx : Nat} (hZ : va_Z Cn n d v (fB F) (fS F) (fS F).heap) (hN : va_Nw (.fieldLinkNest own idx Cn n d host) (fS F)) (hd : decode cc pc = .ok (.getstatic idx, 3)) (k : T E F nL u r (pc + 3) lv (v :: st)) : T E F nL u r pc lv st := fun ls H locs hl hP hS => va_getsN C.1 C.2.1 hZ hS C.2.2.2.1 (va_Nw.use rfl hN) (fun _ h9 => h9) hd (k ls H locs hl hP hS)
theorem tt_getO (C : Cx E F cc nL own Ts rm0) {o n d : String} {v : Value} {idx q : Nat} (hE : va_OF o n d v q (fB F) (fS F) (fS F).heap) (hl0 : Cond.fieldLink own idx o n d ∈ Ts) (hd : decode cc pc = .ok (.getfield idx, 3)) (k : T E F nL u r (pc + 3) lv (v :: st)) : T E F nL u r pc lv (.ref q :: st) := fun ls H locs hl hP hS => vk_getf C.1 C.2.1 hE hS C.2.2.2.1 (C.2.2.2.2.1 _ hl0) (fun _ h9 => h9) hd (k ls H locs hl hP hS)
theorem tt_alenT (C : Cx E F cc nL own Ts rm0) {ty : FieldType} {t N : Nat} {f : Nat → Value} {v : Int32} (hT : va_T ty t N f (fB F) (fS F) (fS F).heap) (hv : Int32.ofNat N = v) (hd : decode cc pc = .ok (.arraylength, 1)) (k : T E F nL u r (pc + 1) lv (.int v :: st)) : T E F nL u r pc lv (.ref t :: st) := fun ls H locs hl hP hS => va_tlen C.1 C.2.1 hT hS hv hd (k ls H locs hl hP hS)
theorem tt_baldT (C : Cx E F cc nL own Ts rm0) {t N : Nat} {f : Nat → Value} {x v : Int32} (hT : va_T .byte t N f (fB F) (fS F) (fS F).heap) (j : Nat) (hx : x = nI j) (hj : j < N) (hN : N < 2 ^ 31) (hv : f j = .int v) (hd : decode cc pc = .ok (.baload, 1)) (k : T E F nL u r (pc + 1) lv (.int v :: st)) : T E F nL u r pc lv (.int x :: .ref t :: st) := fun ls H locs hl hP hS => va_tb C.1 C.2.1 hT hS (by rw [hx]; exact vp_in_nI hj hN) (v := .int v) (by rw [hx, nI_clamp (by omega)]; exact hv) hd (k ls H locs hl hP hS)
theorem tt_ialdT (C : Cx E F cc nL own Ts rm0) {t N : Nat} {f : Nat → Value} {x v : Int32} (hT : va_T .int t N f (fB F) (fS F) (fS F).heap) (j : Nat) (hx : x = nI j) (hj : j < N) (hN : N < 2 ^ 31) (hv : f j = .int v) (hd : decode cc pc = .ok (.iaload, 1)) (k : T E F nL u r (pc + 1) lv (.int v :: st)) : T E F nL u r pc lv (.int x :: .ref t :: st) := fun ls H locs hl hP hS => va_ti C.1 C.2.1 hT hS (by rw [hx]; exact vp_in_nI hj hN) (v := .int v) (by rw [hx, nI_clamp (by omega)]; exact hv) hd (k ls H locs hl hP hS)
theorem tt_ldcS (C : Cx E F cc nL own Ts rm0) {tx : String} {idx q : Nat} (hZ : vk_R own idx tx q (fS F)) (hd : decode cc pc = .ok (.ldc idx, 2)) (k : T E F nL u r (pc + 2) lv (.ref q :: st)) : T E F nL u r pc lv st := fun ls H locs hl hP hS => va_ldcS C.1 C.2.1 C.2.2.2.1 hZ hd (k ls H locs hl hP hS)
theorem tt_cTI (C : Cx E F cc nL own Ts rm0) {y : MethodName} {ws ws' : List Cond} {rm : Room} {As : List Value} {idx maxL : Nat} {bytes : ByteArray} {ret : Option FieldType} {x : Int32} {i : Nat} (hi : i < 8) (hM : CT E y ws rm (.ref (eK E i) :: As) u r (some (.int x)) u' r') (hG : GoodIn Ts (wsV own idx "java/lang/String" y ws)) (hw : ws = Cond.code y bytes maxL ret :: ws') (h0 : rm.cells = 0 ∧ rm.slots = 0) (n : Nat) (hd0 : y.cls = "java/lang/String" ∧ y.cls ≠ "java/lang/invoke/MethodHandle" ∧ y.cls ≠ "java/lang/invoke/VarHandle" ∧ (parseMethodDescriptor y.desc).map (fun d => d.parameters.length) = some n) (hR : rm.frames + 1 ≤ rm0.frames ∧ 8 + (maxL + 11) + rm.locals ≤ rm0.locals) (hn : As.length = n) (hrm : (rest.map fun v => v.category).sum ≤ 8) (hd : decode cc pc = .ok (.invokevirtual idx, 3)) {st0 : List Value} (hs : st0 = As.reverse ++ .ref (eK E i) :: rest) (kk : T E F nL u' r' (pc + 3) lv (.int x :: rest)) : T E F nL u r pc lv st0 := by
  refine tt_run (y := y) (rm := rm) (ws := ws) (as := []) (oc := (some (.int x))) (rest := rest) C.2.2.2.2.2.2.2.1 C.2.2.2.2.2.2.2.2.1 (fun ls H locs hl hP hS => ?_) kk
  exact va_runV (As := As) (rest := rest) ⟨C.1, C.2.1, C.2.2.1, C.2.2.2.1, C.2.2.2.2.1⟩ (hM H.size) (cwV n C.2.2.2.2.1 hG hw h0.1 h0.2 hd0 (by rw [C.2.2.2.2.2.2.2.2.2.2.2.2.1]; exact hR)) ⟨CT_blind, vk_recv C.2.2.2.2.2.2.2.2.2.2.2.1.2.1 hi hS, CT_pre C hP hS⟩ rfl hn hl.1 hs (lv_room hrm) hd ⟨by rw [C.2.2.2.2.2.2.2.2.2.2.2.2.1]; exact C.2.2.2.2.2.2.2.2.2.2.2.2.2.1, by rw [C.2.2.2.2.2.2.2.2.2.2.2.2.1]; exact C.2.2.2.2.2.2.2.2.2.2.2.2.2.2⟩
theorem tt_cSR (C : Cx E F cc nL own Ts rm0) {y : MethodName} {ws ws' : List Cond} {rm : Room} {As : List Value} {idx maxL : Nat} {bytes : ByteArray} {ret : Option FieldType} {x : Nat} (hM : CT E y ws rm As u r (some (.ref x)) u' r') (hG : GoodIn Ts (va_wsS own idx y ws)) (hw : ws = Cond.code y bytes maxL ret :: ws') (h0 : rm.cells = 0 ∧ rm.slots = 0) (n : Nat) (hd0 : y.cls ≠ "java/lang/invoke/MethodHandle" ∧ y.cls ≠ "java/lang/invoke/VarHandle" ∧ (parseMethodDescriptor y.desc).map (fun d => d.parameters.length) = some n) (hR : rm.frames + 1 ≤ rm0.frames ∧ 8 + (maxL + 11) + rm.locals ≤ rm0.locals) (hn : As.length = n) (hrm : (rest.map fun v => v.category).sum ≤ 8) (hd : decode cc pc = .ok (.invokestatic idx, 3)) {st0 : List Value} (hs : st0 = As.reverse ++ rest) (kk : T E F nL u' r' (pc + 3) lv (.ref x :: rest)) : T E F nL u r pc lv st0 := by
  refine tt_run (y := y) (rm := rm) (ws := ws) (as := []) (oc := (some (.ref x))) (rest := rest) C.2.2.2.2.2.2.2.1 C.2.2.2.2.2.2.2.2.1 (fun ls H locs hl hP hS => ?_) kk
  exact va_runS (As := As) (rest := rest) ⟨C.1, C.2.1, C.2.2.1, C.2.2.2.1, C.2.2.2.2.1⟩ (hM H.size) (va_cwS n C.2.2.2.2.1 hG hw h0.1 h0.2 hd0 (by rw [C.2.2.2.2.2.2.2.2.2.2.2.2.1]; exact hR)) ⟨CT_blind, CT_pre C hP hS⟩ rfl hn hl.1 hs (lv_room hrm) hd ⟨by rw [C.2.2.2.2.2.2.2.2.2.2.2.2.1]; exact C.2.2.2.2.2.2.2.2.2.2.2.2.2.1, by rw [C.2.2.2.2.2.2.2.2.2.2.2.2.1]; exact C.2.2.2.2.2.2.2.2.2.2.2.2.2.2⟩
end TS
/-- the j-th letter of the i-th word -/
def sxC (i j : Nat) : Int32 := (sxB.getD i []).getD j 0
abbrev sxN_ (i : Nat) : Nat := sxL.getD i 0
theorem sxN_lt : ∀ i, i < 8 → sxN_ i < 7 := by decide
theorem sx_bytes : ∀ i, i < 8 → ∀ j, j < 7 → ((sxC i j &&& nI 255).toUInt32 % 65536).toInt32 = sxC i j ∧ narrow .char (.int (sxC i j)) = .int (sxC i j) := by decide +kernel
set_option maxHeartbeats 4000000 in
set_option maxRecDepth 100000 in
theorem c_J0_coder_7d493 (E : EN) (u : U3) (r : R1) (i : Nat) (hi : i < 8) : CT E yJ0_coder_7d493 wsJ0_coder_7d493 (rmT 0 0) [.ref (eK E i)] u r (some (.int (nI 0))) u r := by
  refine CT_ofI (cc := cJ0_coder_7d493) (nL := 1) (own := RJ0) (by decide) rfl rfl (by decide) (Nat.le_of_ble_eq_true rfl) (fun F C K => ?_)
  refine tt_to (lv1 := [(0, .ref (eK E i))]) rfl rfl rfl rfl ?_
  refine tt_gets C C.2.2.2.2.2.2.2.2.2.2.2.1.2.2.2.2.1 (List.mem_of_getElem? (i := 1) (by decide +kernel)) dJ0_coder_7d493_0 ?_
  refine tt_if_eq C (tgt := 13) dJ0_coder_7d493_3 (by decide) (show (1 : Int32) = 0 ↔ False by decide) (fun z => z.elim) (fun _ => ?_)
  refine tt_aload_n C dJ0_coder_7d493_6 rfl 0 rfl ?_
  refine tt_getO C (C.2.2.2.2.2.2.2.2.2.2.2.1.2.1.1 i hi).2.1 (List.mem_of_getElem? (i := 2) (by decide +kernel)) dJ0_coder_7d493_7 ?_
  refine tt_goto (tgt := 14) C dJ0_coder_7d493_10 (by decide) ?_
  exact tt_iret K dJ0_coder_7d493_14 rfl rfl rfl
set_option maxHeartbeats 4000000 in
set_option maxRecDepth 100000 in
theorem c_J0_isLatin1_aae02 (E : EN) (u : U3) (r : R1) (i : Nat) (hi : i < 8) : CT E yJ0_isLatin1_aae02 wsJ0_isLatin1_aae02 (rmT 0 0) [.ref (eK E i)] u r (some (.int (nI 1))) u r := by
  refine CT_ofI (cc := cJ0_isLatin1_aae02) (nL := 1) (own := RJ0) (by decide) rfl rfl (by decide) (Nat.le_of_ble_eq_true rfl) (fun F C K => ?_)
  refine tt_to (lv1 := [(0, .ref (eK E i))]) rfl rfl rfl rfl ?_
  refine tt_gets C C.2.2.2.2.2.2.2.2.2.2.2.1.2.2.2.2.1 (List.mem_of_getElem? (i := 1) (by decide +kernel)) dJ0_isLatin1_aae02_0 ?_
  refine tt_if_eq C (tgt := 17) dJ0_isLatin1_aae02_3 (by decide) (show (1 : Int32) = 0 ↔ False by decide) (fun z => z.elim) (fun _ => ?_)
  refine tt_aload_n C dJ0_isLatin1_aae02_6 rfl 0 rfl ?_
  refine tt_getO C (C.2.2.2.2.2.2.2.2.2.2.2.1.2.1.1 i hi).2.1 (List.mem_of_getElem? (i := 2) (by decide +kernel)) dJ0_isLatin1_aae02_7 ?_
  refine tt_if_ne C (tgt := 17) dJ0_isLatin1_aae02_10 (by decide) (show (0 : Int32) = 0 ↔ True by decide) (fun z => absurd trivial z) (fun _ => ?_)
  refine tt_iconst (v := nI 1) C dJ0_isLatin1_aae02_13 (by decide) ?_
  refine tt_goto (tgt := 18) C dJ0_isLatin1_aae02_14 (by decide) ?_
  exact tt_iret K dJ0_isLatin1_aae02_18 rfl rfl rfl
set_option maxHeartbeats 4000000 in
set_option maxRecDepth 100000 in
theorem c_J0_length_8abf5 (E : EN) (u : U3) (r : R1) (i : Nat) (hi : i < 8) : CT E yJ0_length_8abf5 wsJ0_length_8abf5 (rmT 1 20) [.ref (eK E i)] u r (some (.int (nI (sxN_ i)))) u r := by
  have hlt := sxN_lt i hi
  refine CT_ofI (cc := cJ0_length_8abf5) (nL := 1) (own := RJ0) (by decide) rfl rfl rfl (Nat.le_of_ble_eq_true rfl) (fun F C K => ?_)
  refine tt_to (lv1 := [(0, .ref (eK E i))]) rfl rfl rfl rfl ?_
  refine tt_aload_n C dJ0_length_8abf5_0 rfl 0 rfl ?_
  refine tt_getO C (C.2.2.2.2.2.2.2.2.2.2.2.1.2.1.1 i hi).2.2.1 (List.mem_of_getElem? (i := 1) (by decide +kernel)) dJ0_length_8abf5_1 ?_
  refine tt_alenT C (C.2.2.2.2.2.2.2.2.2.2.2.1.2.1.1 i hi).2.2.2 rfl dJ0_length_8abf5_4 ?_
  refine tt_aload_n C dJ0_length_8abf5_5 rfl 0 rfl ?_
  refine tt_cTI C hi (c_J0_coder_7d493 E u r i hi) gJ0_length_8abf5_J0_coder_7d493 rfl ⟨rfl, rfl⟩ 0 (by decide +kernel) ⟨Nat.le_of_ble_eq_true rfl, Nat.le_of_ble_eq_true rfl⟩ rfl (Nat.le_of_ble_eq_true rfl) dJ0_length_8abf5_6 rfl ?_
  refine tt_ishr (v := nI (sxN_ i)) C dJ0_length_8abf5_9 (sb_shr0 _) ?_
  exact tt_iret K dJ0_length_8abf5_10 rfl rfl rfl
set_option maxHeartbeats 4000000 in
set_option maxRecDepth 100000 in
theorem c_J3_checkIndex_8e157_N (E : EN) (u : U3) (r : R1) (t j n : Nat) (hj : j < n) (hn : n < 2 ^ 31) : CT E yJ3_checkIndex_8e157 wsJ3_checkIndex_8e157 (rmT 0 0) [.int (nI j), .int (nI n), .null] u r (some (.int (nI j))) u r := by
  refine CT_ofI (cc := cJ3_checkIndex_8e157) (nL := 3) (own := RJ3) (by decide) rfl rfl rfl (Nat.le_of_ble_eq_true rfl) (fun F C K => ?_)
  refine tt_to (lv1 := [(0, .int (nI j)), (1, .int (nI n)), (2, .null)]) rfl rfl rfl rfl ?_
  refine tt_iload_n C dJ3_checkIndex_8e157_0 rfl 0 rfl ?_
  refine tt_if_lt C (tgt := 9) dJ3_checkIndex_8e157_1 (by decide) (nI_lt0 (by omega)) (fun z => z.elim) (fun _ => ?_)
  refine tt_iload_n C dJ3_checkIndex_8e157_4 rfl 0 rfl ?_
  refine tt_iload_n C dJ3_checkIndex_8e157_5 rfl 1 rfl ?_
  refine tt_icmp_lt C (tgt := 16) dJ3_checkIndex_8e157_6 (by decide) (nI_ltI (by omega) (by omega)) (fun _ => ?_) (fun z => absurd hj z)
  refine tt_iload_n C dJ3_checkIndex_8e157_16 rfl 0 rfl ?_
  exact tt_iret K dJ3_checkIndex_8e157_17 rfl rfl rfl
set_option maxHeartbeats 4000000 in
set_option maxRecDepth 100000 in
theorem c_J3_checkIndex_8e157_R (E : EN) (u : U3) (r : R1) (t j n : Nat) (hj : j < n) (hn : n < 2 ^ 31) : CT E yJ3_checkIndex_8e157 wsJ3_checkIndex_8e157 (rmT 0 0) [.int (nI j), .int (nI n), .ref t] u r (some (.int (nI j))) u r := by
  refine CT_ofI (cc := cJ3_checkIndex_8e157) (nL := 3) (own := RJ3) (by decide) rfl rfl rfl (Nat.le_of_ble_eq_true rfl) (fun F C K => ?_)
  refine tt_to (lv1 := [(0, .int (nI j)), (1, .int (nI n)), (2, .ref t)]) rfl rfl rfl rfl ?_
  refine tt_iload_n C dJ3_checkIndex_8e157_0 rfl 0 rfl ?_
  refine tt_if_lt C (tgt := 9) dJ3_checkIndex_8e157_1 (by decide) (nI_lt0 (by omega)) (fun z => z.elim) (fun _ => ?_)
  refine tt_iload_n C dJ3_checkIndex_8e157_4 rfl 0 rfl ?_
  refine tt_iload_n C dJ3_checkIndex_8e157_5 rfl 1 rfl ?_
  refine tt_icmp_lt C (tgt := 16) dJ3_checkIndex_8e157_6 (by decide) (nI_ltI (by omega) (by omega)) (fun _ => ?_) (fun z => absurd hj z)
  refine tt_iload_n C dJ3_checkIndex_8e157_16 rfl 0 rfl ?_
  exact tt_iret K dJ3_checkIndex_8e157_17 rfl rfl rfl
set_option maxHeartbeats 4000000 in
set_option maxRecDepth 100000 in
theorem c_J0_checkIndex_df160 (E : EN) (u : U3) (r : R1) (j n : Nat) (hj : j < n) (hn : n < 2 ^ 31) : CT E yJ0_checkIndex_df160 wsJ0_checkIndex_df160 (rmT 1 22) [.int (nI j), .int (nI n)] u r none u r := by
  refine CT_ofV (cc := cJ0_checkIndex_df160) (nL := 2) (own := RJ0) (by decide) rfl rfl (Nat.le_of_ble_eq_true rfl) (fun F C K => ?_)
  refine tt_to (lv1 := [(0, .int (nI j)), (1, .int (nI n))]) rfl rfl rfl rfl ?_
  rcases C.2.2.2.2.2.2.2.2.2.2.2.1.2.2.2.2.2 with hz | ⟨t, hz⟩
  · refine tt_iload_n C dJ0_checkIndex_df160_0 rfl 0 rfl ?_
    refine tt_iload_n C dJ0_checkIndex_df160_1 rfl 1 rfl ?_
    refine tt_gets C hz (List.mem_of_getElem? (i := 1) (by decide +kernel)) dJ0_checkIndex_df160_2 ?_
    refine tt_cSI C (c_J3_checkIndex_8e157_N E u r 0 j n hj hn) gJ0_checkIndex_df160_J3_checkIndex_8e157 rfl ⟨rfl, rfl⟩ 3 (by decide +kernel) ⟨Nat.le_of_ble_eq_true rfl, Nat.le_of_ble_eq_true rfl⟩ rfl (Nat.le_of_ble_eq_true rfl) dJ0_checkIndex_df160_5 rfl ?_
    refine tt_pop C dJ0_checkIndex_df160_8 rfl ?_
    exact tt_vret K dJ0_checkIndex_df160_9 rfl rfl
  · refine tt_iload_n C dJ0_checkIndex_df160_0 rfl 0 rfl ?_
    refine tt_iload_n C dJ0_checkIndex_df160_1 rfl 1 rfl ?_
    refine tt_gets C hz (List.mem_of_getElem? (i := 1) (by decide +kernel)) dJ0_checkIndex_df160_2 ?_
    refine tt_cSI C (c_J3_checkIndex_8e157_R E u r t j n hj hn) gJ0_checkIndex_df160_J3_checkIndex_8e157 rfl ⟨rfl, rfl⟩ 3 (by decide +kernel) ⟨Nat.le_of_ble_eq_true rfl, Nat.le_of_ble_eq_true rfl⟩ rfl (Nat.le_of_ble_eq_true rfl) dJ0_checkIndex_df160_5 rfl ?_
    refine tt_pop C dJ0_checkIndex_df160_8 rfl ?_
    exact tt_vret K dJ0_checkIndex_df160_9 rfl rfl
set_option maxHeartbeats 4000000 in
set_option maxRecDepth 100000 in
theorem c_J1_charAt_3b067 (E : EN) (u : U3) (r : R1) (i j : Nat) (hi : i < 8) (hj : j < sxN_ i) : CT E yJ1_charAt_3b067 wsJ1_charAt_3b067 (rmT 2 43) [.ref (eV E i), .int (nI j)] u r (some (.int (sxC i j))) u r := by
  have hlt := sxN_lt i hi
  obtain ⟨e1, e2⟩ := sx_bytes i hi j (by omega)
  refine CT_ofI (cc := cJ1_charAt_3b067) (nL := 2) (own := RJ1) (by decide) rfl rfl e2 (Nat.le_of_ble_eq_true rfl) (fun F C K => ?_)
  refine tt_to (lv1 := [(0, .ref (eV E i)), (1, .int (nI j))]) rfl rfl rfl rfl ?_
  refine tt_iload_n C dJ1_charAt_3b067_0 rfl 1 rfl ?_
  refine tt_aload_n C dJ1_charAt_3b067_1 rfl 0 rfl ?_
  refine tt_alenT C (v := nI (sxN_ i)) (C.2.2.2.2.2.2.2.2.2.2.2.1.2.1.1 i hi).2.2.2 rfl dJ1_charAt_3b067_2 ?_
  refine tt_cSV C (c_J0_checkIndex_df160 E u r j (sxN_ i) hj (by omega)) gJ1_charAt_3b067_J0_checkIndex_df160 rfl ⟨rfl, rfl⟩ 2 (by decide +kernel) ⟨Nat.le_of_ble_eq_true rfl, Nat.le_of_ble_eq_true rfl⟩ rfl (Nat.le_of_ble_eq_true rfl) dJ1_charAt_3b067_3 rfl ?_
  refine tt_aload_n C dJ1_charAt_3b067_6 rfl 0 rfl ?_
  refine tt_iload_n C dJ1_charAt_3b067_7 rfl 1 rfl ?_
  refine tt_baldT (v := sxC i j) C (C.2.2.2.2.2.2.2.2.2.2.2.1.2.1.1 i hi).2.2.2 j rfl hj (Nat.lt_trans hlt (by decide)) rfl dJ1_charAt_3b067_8 ?_
  refine tt_sipush (v := nI 255) C dJ1_charAt_3b067_9 (by decide) ?_
  refine tt_iand C dJ1_charAt_3b067_12 rfl ?_
  refine tt_i2c C dJ1_charAt_3b067_13 e1 ?_
  exact tt_iret K dJ1_charAt_3b067_14 rfl rfl rfl
set_option maxHeartbeats 4000000 in
set_option maxRecDepth 100000 in
theorem c_J0_charAt_5068e (E : EN) (u : U3) (r : R1) (i j : Nat) (hi : i < 8) (hj : j < sxN_ i) : CT E yJ0_charAt_5068e wsJ0_charAt_5068e (rmT 3 64) [.ref (eK E i), .int (nI j)] u r (some (.int (sxC i j))) u r := by
  have hlt := sxN_lt i hi
  obtain ⟨e1, e2⟩ := sx_bytes i hi j (by omega)
  refine CT_ofI (cc := cJ0_charAt_5068e) (nL := 2) (own := RJ0) (by decide) rfl rfl e2 (Nat.le_of_ble_eq_true rfl) (fun F C K => ?_)
  refine tt_to (lv1 := [(0, .ref (eK E i)), (1, .int (nI j))]) rfl rfl rfl rfl ?_
  refine tt_aload_n C dJ0_charAt_5068e_0 rfl 0 rfl ?_
  refine tt_cTI C hi (c_J0_isLatin1_aae02 E u r i hi) gJ0_charAt_5068e_J0_isLatin1_aae02 rfl ⟨rfl, rfl⟩ 0 (by decide +kernel) ⟨Nat.le_of_ble_eq_true rfl, Nat.le_of_ble_eq_true rfl⟩ rfl (Nat.le_of_ble_eq_true rfl) dJ0_charAt_5068e_1 rfl ?_
  refine tt_if_eq C (tgt := 16) dJ0_charAt_5068e_4 (by decide) (nI_eq0 (by decide)) (fun z => absurd z (by decide)) (fun _ => ?_)
  refine tt_aload_n C dJ0_charAt_5068e_7 rfl 0 rfl ?_
  refine tt_getO C (C.2.2.2.2.2.2.2.2.2.2.2.1.2.1.1 i hi).2.2.1 (List.mem_of_getElem? (i := 1) (by decide +kernel)) dJ0_charAt_5068e_8 ?_
  refine tt_iload_n C dJ0_charAt_5068e_11 rfl 1 rfl ?_
  refine tt_cSI C (c_J1_charAt_3b067 E u r i j hi hj) gJ0_charAt_5068e_J1_charAt_3b067 rfl ⟨rfl, rfl⟩ 2 (by decide +kernel) ⟨Nat.le_of_ble_eq_true rfl, Nat.le_of_ble_eq_true rfl⟩ rfl (Nat.le_of_ble_eq_true rfl) dJ0_charAt_5068e_12 rfl ?_
  exact tt_iret K dJ0_charAt_5068e_15 rfl rfl rfl
