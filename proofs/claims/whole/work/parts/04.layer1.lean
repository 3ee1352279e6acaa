/-! what the words of THE TEXT are, as the Statement gives them -/
def sxT (i : Nat) : String := match i with
  | 0 => "badge"
  | 1 => "door"
  | 2 => "ask"
  | 3 => "duress"
  | 4 => "wait"
  | 5 => "off"
  | 6 => "on"
  | _ => "bar"
def sxL : List Nat := [5, 4, 3, 6, 4, 3, 2, 3]
def sxB : List (List Int32) := [[98, 97, 100, 103, 101], [100, 111, 111, 114], [97, 115, 107], [100, 117, 114, 101, 115, 115], [119, 97, 105, 116], [111, 102, 102], [111, 110], [98, 97, 114]]
def sxN (j : Nat) : Int32 := ([1, 4, 2, 2, 1, 1, 1, 1] : List Int32).getD j 0
def XN (U : State) : Prop := va_Nw (.methodLinkNest "BadgeDoors$Badges" 34 yX6_copyRow "BadgeDoors") U ∧ va_Nw (.methodLinkNest "BadgeDoors$Doors" 64 yX6_copyRow "BadgeDoors") U ∧ va_Nw (.methodLinkNest "BadgeDoors$House" 46 yX6_copyRow "BadgeDoors") U ∧ va_Nw (.methodLinkNest "BadgeDoors$House" 66 yX6_isBelow "BadgeDoors") U ∧ va_Nw (.methodLinkNest "BadgeDoors$House" 71 yX6_isArea "BadgeDoors") U ∧ va_Nw (.methodLinkNest "BadgeDoors$House" 75 yX6_isLevel "BadgeDoors") U ∧ va_Nw (.methodLinkNest "BadgeDoors$House" 81 yX6_isFlag "BadgeDoors") U ∧ va_Nw (.methodLinkNest "BadgeDoors$Twos" 22 yX6_copyRow "BadgeDoors") U ∧ va_Nw (.fieldLinkNest "BadgeDoors$Text" 41 "BadgeDoors" "NUMBERS_BEHIND" "[I" "BadgeDoors") U
def XS (E : EN) (B : Nat → Prop) (U : State) : Prop := (∀ i, i < 8 → vk_R "BadgeDoors$Text" (71 + 2 * i) (sxT i) (eK E i) U) ∧ vk_S 8 sxL sxB (eK E) (eV E) B U U.heap ∧ va_Z "BadgeDoors" "NUMBERS_BEHIND" "[I" (.ref (eT E)) B U U.heap ∧ va_T .int (eT E) 8 (fun j => .int (sxN j)) B U U.heap ∧ va_Z "java/lang/String" "COMPACT_STRINGS" "Z" (.int 1) B U U.heap ∧ va_Zq "jdk/internal/util/Preconditions" "SIOOBE_FORMATTER" "Ljava/util/function/BiFunction;" B U U.heap
def XF (E : EN) (U : State) : Prop := XN U ∧ XS E (XB E U.heap.size) U
theorem XN_same {u U : State} (h : u.vm = U.vm) (hX : XN u) : XN U := by
  obtain ⟨h1, h2, h3, h4, h5, h6, h7, h8, h9⟩ := hX
  exact ⟨h1.same rfl h, h2.same rfl h, h3.same rfl h, h4.same rfl h, h5.same rfl h, h6.same rfl h, h7.same rfl h, h8.same rfl h, h9.same rfl h⟩
theorem XN_warm {s U : State} (h : s.WarmedH U.vm) (hX : XN s) : XN U := by
  obtain ⟨h1, h2, h3, h4, h5, h6, h7, h8, h9⟩ := hX
  exact ⟨h1.warmM h, h2.warmM h, h3.warmM h, h4.warmM h, h5.warmM h, h6.warmM h, h7.warmM h, h8.warmM h, h9.warmF h⟩
theorem XS_kept {E : EN} {A B : Nat → Prop} {s U : State} (hX : XS E A s) (hR : ∀ (own tx : String) (k a : Nat), vk_R own k tx a s → vk_R own k tx a U) (hv : s.vm.Alike U.vm) (hk : ∀ q : Nat, q < s.heap.size → ¬ A q → U.heap[q]? = s.heap[q]?) (hAB : ∀ q, B q → A q) : XS E B U := by
  obtain ⟨h1, h2, h3, h4, h5, h6⟩ := hX
  exact ⟨fun i hi => hR _ _ _ _ (h1 i hi), ((h2.moved hv).kept hk).narrow hAB, ((h3.moved hv).kept hk).narrow hAB, ((h4.moved hv).kept hk).narrow hAB, ((h5.moved hv).kept hk).narrow hAB, ((h6.moved hv).kept hk).narrow hAB⟩
theorem XF_same {E : EN} {u U : State} (h : u.vm = U.vm) (hh : U.heap = u.heap) (hX : XF E u) : XF E U := ⟨XN_same h hX.1, XS_kept hX.2 (fun _ _ _ _ z => z.same h.symm) (by rw [h]; exact Vm.Alike.refl _) (fun q _ _ => by rw [hh]) (fun q z => by rw [hh] at z; exact z)⟩
theorem XF_stab {E : EN} {s U : State} (hX : XF E s) (hW : s.WarmedH U.vm) (hz : s.heap.size ≤ U.heap.size) (hk : ∀ q : Nat, q < s.heap.size → ¬ XB E s.heap.size q → U.heap[q]? = s.heap[q]?) : XF E U :=
  ⟨XN_warm hW hX.1, XS_kept hX.2 (fun _ _ _ _ z => z.warm hW) hW.alike hk (fun q z => z.elim Or.inl (fun z => Or.inr (Nat.le_trans hz z)))⟩
/-! a frame's fixed things -/
abbrev FX : Type := Program × Env × Room × State × MethodId × Array Value × List Frame × Method × Code × (State → Prop) × Nat × Nat × (Nat → Prop)
abbrev fP (F : FX) : Program := F.1
abbrev fE (F : FX) : Env := F.2.1
abbrev fR (F : FX) : Room := F.2.2.1
abbrev fS (F : FX) : State := F.2.2.2.1
abbrev fM (F : FX) : MethodId := F.2.2.2.2.1
abbrev fG (F : FX) : Array Value := F.2.2.2.2.2.1
abbrev fW (F : FX) : List Frame := F.2.2.2.2.2.2.1
abbrev fH (F : FX) : Method := F.2.2.2.2.2.2.2.1
abbrev fC (F : FX) : Code := F.2.2.2.2.2.2.2.2.1
abbrev fQ (F : FX) : State → Prop := F.2.2.2.2.2.2.2.2.2.1
abbrev fN (F : FX) : Nat := F.2.2.2.2.2.2.2.2.2.2.1
abbrev fL (F : FX) : Nat := F.2.2.2.2.2.2.2.2.2.2.2.1
abbrev fB (F : FX) : Nat → Prop := F.2.2.2.2.2.2.2.2.2.2.2.2
abbrev WF (E : EN) (F : FX) (H : Heap) (locs : List Loc) (pc : Nat) (ls : Array Slot) (st : List Value) : Prop := W (fP F) (eL E) (fE F) (fR F) (fS F) (fM F) (fG F) (fW F) (fH F) (fC F) H locs (fN F) (fL F) (fQ F) (F0 (fM F) pc ls st)
/-- from any heap that holds the picture (u, r), with these locals and this stack, the frame at pc comes to its goal -/
def T (E : EN) (F : FX) (nL : Nat) (u : U3) (r : R1) (pc : Nat) (lv : List (Nat × Value)) (st : List Value) : Prop := ∀ (ls : Array Slot) (H : Heap) (locs : List Loc), lv_has ls nL lv → va_P (eD E) vwCl (wg E u r) H → va_S (fB F) (fS F).heap H locs → WF E F H locs pc ls st
def Cx (E : EN) (F : FX) (cc : ByteArray) (nL : Nat) (own : String) (Ts : List Cond) (rm : Room) : Prop :=
  (fP F).tables.exec = Jvm.exec ∧ (fC F).code = cc ∧ (fC F).maxLocals = nL ∧ (fS F).vm.findClass own = some (fM F).cls ∧ (∀ w ∈ Ts, w.before (fG F) (fS F) = true) ∧ va_K (eD E) vwCl (tysE E) (fS F) ∧ AD E ∧ (∀ q ∈ LB, fB F (eA E q.1 q.2)) ∧ (∀ q : Nat, (fS F).heap.size ≤ q → fB F q) ∧ (∀ (U : State) (H : Heap) (locs : List Loc), va_S (fB F) (fS F).heap H locs → U.heap = H → (fS F).WarmedH U.vm → XF E U) ∧ XN (fS F) ∧ XS E (fB F) (fS F) ∧ fR F = rm ∧ fN F ≤ rm.cells ∧ fL F ≤ rm.slots
/-- the contract: from the picture (u, r), with these arguments, it returns oc and leaves the picture (u', r'), and nothing else changes -/
def CT (E : EN) (y : MethodName) (ws : List Cond) (rm : Room) (as : List Value) (u : U3) (r : R1) (oc : Option Value) (u' : U3) (r' : R1) : Prop :=
  ∀ sz : Nat, Met (eL E) y ws rm (va_Pc as (fun U => U.heap.size = sz ∧ va_P (eD E) vwCl (wg E u r) U.heap ∧ va_K (eD E) vwCl (tysE E) U ∧ AD E ∧ XF E U))
    (fun _ st o t => (o = .returned oc ∧ va_P (eD E) vwCl (wg E u' r') t.heap ∧ va_K (eD E) vwCl (tysE E) t) ∧ va_F (XB E sz) st t) 0 0 (XB E sz)
abbrev rmT (f lo : Nat) : Room := { frames := f, cells := 0, slots := 0, locals := lo }
def RtI (E : EN) (F : FX) (cc : ByteArray) (x : Int32) (u' : U3) (r' : R1) : Prop := ∀ (ls : Array Slot) (H : Heap) (locs : List Loc) (pc : Nat), decode cc pc = .ok (.ireturn, 1) → va_P (eD E) vwCl (wg E u' r') H → va_S (fB F) (fS F).heap H locs → WF E F H locs pc ls [.int x]
def RtV (E : EN) (F : FX) (cc : ByteArray) (u' : U3) (r' : R1) : Prop := ∀ (ls : Array Slot) (H : Heap) (locs : List Loc) (pc : Nat), decode cc pc = .ok (.return_, 1) → va_P (eD E) vwCl (wg E u' r') H → va_S (fB F) (fS F).heap H locs → WF E F H locs pc ls []
def RtL (E : EN) (F : FX) (cc : ByteArray) (x : Int64) (u' : U3) (r' : R1) : Prop := ∀ (ls : Array Slot) (H : Heap) (locs : List Loc) (pc : Nat), decode cc pc = .ok (.lreturn, 1) → va_P (eD E) vwCl (wg E u' r') H → va_S (fB F) (fS F).heap H locs → WF E F H locs pc ls [.long x]
theorem XB_B {E : EN} {F : FX} {H : Heap} {locs : List Loc} (h1 : ∀ q ∈ LB, fB F (eA E q.1 q.2)) (h2 : ∀ q : Nat, (fS F).heap.size ≤ q → fB F q) (hS : va_S (fB F) (fS F).heap H locs) : ∀ q : Nat, XB E H.size q → fB F q := by
  intro q h
  rcases h with ⟨l, hl, rfl⟩ | h
  · exact h1 l hl
  · exact h2 q (Nat.le_trans hS.1 h)
theorem CT_ofI {E : EN} {y : MethodName} {ws ws' : List Cond} {rm : Room} {as : List Value} {u u' : U3} {r r' : R1} {cc : ByteArray} {nL : Nat} {ty : FieldType} {x : Int32} (hy : plainName y.cls = true) (hw : ws = Cond.code y cc nL (some ty) :: ws') (hnar : narrow ty (.int x) = .int x) (hlen : (lg_sl as).length ≤ nL)
    (body : ∀ F : FX, Cx E F cc nL y.cls ws rm → RtI E F cc x u' r' → T E F nL u r 0 (lv_args 0 as) []) : CT E y ws rm as u r (some (.int x)) u' r' := by
  intro sz
  refine Met.ofW (cc := cc) (maxL := nL) (ret := (some ty)) hy hw ?_
  intro p e s m args below meth c s₁ B hml hv
  obtain ⟨rfl, hsz, hP, hK, hAD, hX⟩ := hv
  subst hsz
  have hts := atoms_spec (ws := ws) B.pre
  have hown : s.vm.findClass y.cls = some m.cls := findClass_of_methodNamed B.named
  have hl := lv_entry as (n := nL) hlen
  rw [lg_entry_eq]
  refine body (p, e, (headSpec ws rm).room, s, m, as.toArray, below, meth, c, MQ below _ as.toArray s 0 0 (XB E s.heap.size), 0, 0, XB E s.heap.size) ⟨B.exec, B.bytes, hml, hown, hts, hK, hAD, fun q hq => Or.inl ⟨q, hq, rfl⟩, fun q h => Or.inr h, ?_, hX.1, hX.2, rfl, Nat.zero_le _, Nat.zero_le _⟩ ?_ _ s.heap [] hl hP va_S.rf
  · intro U H locs hS hU hW
    exact XF_stab hX hW (by rw [hU]; exact hS.1) (fun q h1 h2 => by rw [hU]; exact hS.2.1 q h1 h2)
  · intro ls H locs pc hd hP hS
    exact W.zret (ty := ty) B.exec B.bytes B.returns hnar (fun t ht hW => ⟨⟨rfl, by rw [ht]; exact hP, va_K.moved hW.alike hK⟩, hS.F ht⟩) hS.2.2 hd B.notSynchronized
theorem CT_ofV {E : EN} {y : MethodName} {ws ws' : List Cond} {rm : Room} {as : List Value} {u u' : U3} {r r' : R1} {cc : ByteArray} {nL : Nat}  (hy : plainName y.cls = true) (hw : ws = Cond.code y cc nL none :: ws')  (hlen : (lg_sl as).length ≤ nL)
    (body : ∀ F : FX, Cx E F cc nL y.cls ws rm → RtV E F cc u' r' → T E F nL u r 0 (lv_args 0 as) []) : CT E y ws rm as u r none u' r' := by
  intro sz
  refine Met.ofW (cc := cc) (maxL := nL) (ret := none) hy hw ?_
  intro p e s m args below meth c s₁ B hml hv
  obtain ⟨rfl, hsz, hP, hK, hAD, hX⟩ := hv
  subst hsz
  have hts := atoms_spec (ws := ws) B.pre
  have hown : s.vm.findClass y.cls = some m.cls := findClass_of_methodNamed B.named
  have hl := lv_entry as (n := nL) hlen
  rw [lg_entry_eq]
  refine body (p, e, (headSpec ws rm).room, s, m, as.toArray, below, meth, c, MQ below _ as.toArray s 0 0 (XB E s.heap.size), 0, 0, XB E s.heap.size) ⟨B.exec, B.bytes, hml, hown, hts, hK, hAD, fun q hq => Or.inl ⟨q, hq, rfl⟩, fun q h => Or.inr h, ?_, hX.1, hX.2, rfl, Nat.zero_le _, Nat.zero_le _⟩ ?_ _ s.heap [] hl hP va_S.rf
  · intro U H locs hS hU hW
    exact XF_stab hX hW (by rw [hU]; exact hS.1) (fun q h1 h2 => by rw [hU]; exact hS.2.1 q h1 h2)
  · intro ls H locs pc hd hP hS
    exact W.vret B.exec B.bytes B.returns (fun t ht hW => ⟨⟨rfl, by rw [ht]; exact hP, va_K.moved hW.alike hK⟩, hS.F ht⟩) hS.2.2 hd B.notSynchronized
theorem CT_ofL {E : EN} {y : MethodName} {ws ws' : List Cond} {rm : Room} {as : List Value} {u u' : U3} {r r' : R1} {cc : ByteArray} {nL : Nat} {x : Int64} (hy : plainName y.cls = true) (hw : ws = Cond.code y cc nL (some .long) :: ws')  (hlen : (lg_sl as).length ≤ nL)
    (body : ∀ F : FX, Cx E F cc nL y.cls ws rm → RtL E F cc x u' r' → T E F nL u r 0 (lv_args 0 as) []) : CT E y ws rm as u r (some (.long x)) u' r' := by
  intro sz
  refine Met.ofW (cc := cc) (maxL := nL) (ret := (some .long)) hy hw ?_
  intro p e s m args below meth c s₁ B hml hv
  obtain ⟨rfl, hsz, hP, hK, hAD, hX⟩ := hv
  subst hsz
  have hts := atoms_spec (ws := ws) B.pre
  have hown : s.vm.findClass y.cls = some m.cls := findClass_of_methodNamed B.named
  have hl := lv_entry as (n := nL) hlen
  rw [lg_entry_eq]
  refine body (p, e, (headSpec ws rm).room, s, m, as.toArray, below, meth, c, MQ below _ as.toArray s 0 0 (XB E s.heap.size), 0, 0, XB E s.heap.size) ⟨B.exec, B.bytes, hml, hown, hts, hK, hAD, fun q hq => Or.inl ⟨q, hq, rfl⟩, fun q h => Or.inr h, ?_, hX.1, hX.2, rfl, Nat.zero_le _, Nat.zero_le _⟩ ?_ _ s.heap [] hl hP va_S.rf
  · intro U H locs hS hU hW
    exact XF_stab hX hW (by rw [hU]; exact hS.1) (fun q h1 h2 => by rw [hU]; exact hS.2.1 q h1 h2)
  · intro ls H locs pc hd hP hS
    exact W.lret B.exec B.bytes B.returns (fun t ht hW => ⟨⟨rfl, by rw [ht]; exact hP, va_K.moved hW.alike hK⟩, hS.F ht⟩) hS.2.2 hd B.notSynchronized
section TT
variable {E : EN} {F : FX} {cc : ByteArray} {nL : Nat} {own : String} {Ts : List Cond} {rm0 : Room} {u u' : U3} {r r' : R1} {pc : Nat} {lv : List (Nat × Value)} {st rest : List Value}
theorem t_iret {x v : Int32} (h : RtI E F cc x u' r') (hd : decode cc pc = .ok (.ireturn, 1)) (hv : v = x) (hu : u = u') (hr : r = r') : T E F nL u r pc lv [.int v] := by
  subst hv; subst hu; subst hr
  exact fun ls H locs _ hP hS => h ls H locs pc hd hP hS
theorem t_lret {x v : Int64} (h : RtL E F cc x u' r') (hd : decode cc pc = .ok (.lreturn, 1)) (hv : v = x) (hu : u = u') (hr : r = r') : T E F nL u r pc lv [.long v] := by
  subst hv; subst hu; subst hr
  exact fun ls H locs _ hP hS => h ls H locs pc hd hP hS
theorem t_vret (h : RtV E F cc u' r') (hd : decode cc pc = .ok (.return_, 1)) (hu : u = u') (hr : r = r') : T E F nL u r pc lv [] := by
  subst hu; subst hr
  exact fun ls H locs _ hP hS => h ls H locs pc hd hP hS
theorem t_to {u1 : U3} {r1 : R1} {lv1 : List (Nat × Value)} {st1 : List Value} (hu : u = u1) (hr : r = r1) (hl : lv = lv1) (hs : st = st1) (k : T E F nL u1 r1 pc lv1 st1) : T E F nL u r pc lv st := by
  subst hu; subst hr; subst hl; subst hs
  exact k
theorem t_lsub {lv1 : List (Nat × Value)} (ks : List Nat) (hl : lv_pick lv ks = lv1) (k : T E F nL u r pc lv1 st) : T E F nL u r pc lv st := fun ls H locs h hP hS => k ls H locs (lv_sub h ks hl) hP hS
theorem t_iconst (C : Cx E F cc nL own Ts rm0) {n : Int} {v : Int32} (hd : decode cc pc = .ok (.iconst n, 1)) (hv : Int32.ofInt n = v) (k : T E F nL u r (pc + 1) lv (.int v :: st)) : T E F nL u r pc lv st := fun ls H locs hl hP hS => lv_iconst C.1 C.2.1 hd hv (k ls H locs hl hP hS)
theorem t_bipush (C : Cx E F cc nL own Ts rm0) {n : Int} {v : Int32} (hd : decode cc pc = .ok (.bipush n, 2)) (hv : (Int8.ofInt n).toInt32 = v) (k : T E F nL u r (pc + 2) lv (.int v :: st)) : T E F nL u r pc lv st := fun ls H locs hl hP hS => lv_bipush C.1 C.2.1 hd hv (k ls H locs hl hP hS)
theorem t_sipush (C : Cx E F cc nL own Ts rm0) {n : Int} {v : Int32} (hd : decode cc pc = .ok (.sipush n, 3)) (hv : (Int16.ofInt n).toInt32 = v) (k : T E F nL u r (pc + 3) lv (.int v :: st)) : T E F nL u r pc lv st := fun ls H locs hl hP hS => lv_sipush C.1 C.2.1 hd hv (k ls H locs hl hP hS)
theorem t_lconst (C : Cx E F cc nL own Ts rm0) {n : Fin 2} {v : Int64} (hd : decode cc pc = .ok (.lconst n, 1)) (hv : Int64.ofNat (n : Nat) = v) (k : T E F nL u r (pc + 1) lv (.long v :: st)) : T E F nL u r pc lv st := fun ls H locs hl hP hS => lv_lconst C.1 C.2.1 hd hv (k ls H locs hl hP hS)
theorem t_ldc2 (C : Cx E F cc nL own Ts rm0) {idx : Nat} {v : Int64} (hc : Cond.constantLong own idx v ∈ Ts) (hd : decode cc pc = .ok (.ldc2_w idx, 3)) (k : T E F nL u r (pc + 3) lv (.long v :: st)) : T E F nL u r pc lv st := fun ls H locs hl hP hS => lv_ldc2 C.1 C.2.1 C.2.2.2.1 (C.2.2.2.2.1 _ hc) hd (k ls H locs hl hP hS)
theorem t_ldcw (C : Cx E F cc nL own Ts rm0) {idx : Nat} {v : Int32} (hc : Cond.constant own idx v ∈ Ts) (hd : decode cc pc = .ok (.ldc_w idx, 3)) (k : T E F nL u r (pc + 3) lv (.int v :: st)) : T E F nL u r pc lv st := fun ls H locs hl hP hS => lv_ldcw C.1 C.2.1 C.2.2.2.1 (C.2.2.2.2.1 _ hc) hd (k ls H locs hl hP hS)
theorem t_iload_n (C : Cx E F cc nL own Ts rm0) {k : Fin 4} {i : Nat} {x : Int32} (hd : decode cc pc = .ok (.iload_n k, 1)) (hi : (k : Nat) = i) (p : Nat) (hp : lv[p]? = some (i, .int x)) (k : T E F nL u r (pc + 1) lv (.int x :: st)) : T E F nL u r pc lv st := fun ls H locs hl hP hS => lv_iload_n C.1 C.2.1 hd hi (lv_at hl p hp) (k ls H locs hl hP hS)
theorem t_iload (C : Cx E F cc nL own Ts rm0) {i : Nat} {x : Int32} (hd : decode cc pc = .ok (.iload i, 2)) (p : Nat) (hp : lv[p]? = some (i, .int x)) (k : T E F nL u r (pc + 2) lv (.int x :: st)) : T E F nL u r pc lv st := fun ls H locs hl hP hS => lv_iload C.1 C.2.1 hd (lv_at hl p hp) (k ls H locs hl hP hS)
theorem t_aload_n (C : Cx E F cc nL own Ts rm0) {k : Fin 4} {i : Nat} {x : Nat} (hd : decode cc pc = .ok (.aload_n k, 1)) (hi : (k : Nat) = i) (p : Nat) (hp : lv[p]? = some (i, .ref x)) (k : T E F nL u r (pc + 1) lv (.ref x :: st)) : T E F nL u r pc lv st := fun ls H locs hl hP hS => lv_aload_n C.1 C.2.1 hd hi (lv_at hl p hp) (k ls H locs hl hP hS)
theorem t_aload (C : Cx E F cc nL own Ts rm0) {i : Nat} {x : Nat} (hd : decode cc pc = .ok (.aload i, 2)) (p : Nat) (hp : lv[p]? = some (i, .ref x)) (k : T E F nL u r (pc + 2) lv (.ref x :: st)) : T E F nL u r pc lv st := fun ls H locs hl hP hS => lv_aload C.1 C.2.1 hd (lv_at hl p hp) (k ls H locs hl hP hS)
theorem t_lload_n (C : Cx E F cc nL own Ts rm0) {k : Fin 4} {i : Nat} {x : Int64} (hd : decode cc pc = .ok (.lload_n k, 1)) (hi : (k : Nat) = i) (p : Nat) (hp : lv[p]? = some (i, .long x)) (k : T E F nL u r (pc + 1) lv (.long x :: st)) : T E F nL u r pc lv st := fun ls H locs hl hP hS => lv_lload_n C.1 C.2.1 hd hi (lv_at hl p hp) (k ls H locs hl hP hS)
theorem t_lload (C : Cx E F cc nL own Ts rm0) {i : Nat} {x : Int64} (hd : decode cc pc = .ok (.lload i, 2)) (p : Nat) (hp : lv[p]? = some (i, .long x)) (k : T E F nL u r (pc + 2) lv (.long x :: st)) : T E F nL u r pc lv st := fun ls H locs hl hP hS => lv_lload C.1 C.2.1 hd (lv_at hl p hp) (k ls H locs hl hP hS)
theorem t_istore_n (C : Cx E F cc nL own Ts rm0) {k : Fin 4} {i : Nat} {x : Int32} {lv' : List (Nat × Value)} (hd : decode cc pc = .ok (.istore_n k, 1)) (hi : (k : Nat) = i) (hn : i < nL) (ks : List Nat) (hl0 : lv_pick ((i, Value.int x) :: lv.filter (fun q => !(q.1 == i) && !(q.1 + 1 == i && q.2.category == 2))) ks = lv') (k : T E F nL u r (pc + 1) lv' st) : T E F nL u r pc lv (.int x :: st) := fun ls H locs hl hP hS => lv_istore_n C.1 C.2.1 hd hi hl hn rfl (fun ls' hl' => k ls' H locs (lv_sub hl' ks hl0) hP hS)
theorem t_istore (C : Cx E F cc nL own Ts rm0) {i : Nat} {x : Int32} {lv' : List (Nat × Value)} (hd : decode cc pc = .ok (.istore i, 2)) (hn : i < nL) (ks : List Nat) (hl0 : lv_pick ((i, Value.int x) :: lv.filter (fun q => !(q.1 == i) && !(q.1 + 1 == i && q.2.category == 2))) ks = lv') (k : T E F nL u r (pc + 2) lv' st) : T E F nL u r pc lv (.int x :: st) := fun ls H locs hl hP hS => lv_istore C.1 C.2.1 hd hl hn rfl (fun ls' hl' => k ls' H locs (lv_sub hl' ks hl0) hP hS)
theorem t_astore_n (C : Cx E F cc nL own Ts rm0) {k : Fin 4} {i : Nat} {x : Nat} {lv' : List (Nat × Value)} (hd : decode cc pc = .ok (.astore_n k, 1)) (hi : (k : Nat) = i) (hn : i < nL) (ks : List Nat) (hl0 : lv_pick ((i, Value.ref x) :: lv.filter (fun q => !(q.1 == i) && !(q.1 + 1 == i && q.2.category == 2))) ks = lv') (k : T E F nL u r (pc + 1) lv' st) : T E F nL u r pc lv (.ref x :: st) := fun ls H locs hl hP hS => lv_astore_n C.1 C.2.1 hd hi hl hn rfl (fun ls' hl' => k ls' H locs (lv_sub hl' ks hl0) hP hS)
theorem t_astore (C : Cx E F cc nL own Ts rm0) {i : Nat} {x : Nat} {lv' : List (Nat × Value)} (hd : decode cc pc = .ok (.astore i, 2)) (hn : i < nL) (ks : List Nat) (hl0 : lv_pick ((i, Value.ref x) :: lv.filter (fun q => !(q.1 == i) && !(q.1 + 1 == i && q.2.category == 2))) ks = lv') (k : T E F nL u r (pc + 2) lv' st) : T E F nL u r pc lv (.ref x :: st) := fun ls H locs hl hP hS => lv_astore C.1 C.2.1 hd hl hn rfl (fun ls' hl' => k ls' H locs (lv_sub hl' ks hl0) hP hS)
theorem t_lstore_n (C : Cx E F cc nL own Ts rm0) {k : Fin 4} {i : Nat} {x : Int64} {lv' : List (Nat × Value)} (hd : decode cc pc = .ok (.lstore_n k, 1)) (hi : (k : Nat) = i) (hn : i + 1 < nL) (ks : List Nat) (hl0 : lv_pick ((i, Value.long x) :: lv.filter (fun q => !(q.1 == i) && (!(q.1 == i + 1) && !(q.1 + 1 == i && q.2.category == 2)))) ks = lv') (k : T E F nL u r (pc + 1) lv' st) : T E F nL u r pc lv (.long x :: st) := fun ls H locs hl hP hS => lv_lstore_n C.1 C.2.1 hd hi hl hn rfl (fun ls' hl' => k ls' H locs (lv_sub hl' ks hl0) hP hS)
theorem t_lstore (C : Cx E F cc nL own Ts rm0) {i : Nat} {x : Int64} {lv' : List (Nat × Value)} (hd : decode cc pc = .ok (.lstore i, 2)) (hn : i + 1 < nL) (ks : List Nat) (hl0 : lv_pick ((i, Value.long x) :: lv.filter (fun q => !(q.1 == i) && (!(q.1 == i + 1) && !(q.1 + 1 == i && q.2.category == 2)))) ks = lv') (k : T E F nL u r (pc + 2) lv' st) : T E F nL u r pc lv (.long x :: st) := fun ls H locs hl hP hS => lv_lstore C.1 C.2.1 hd hl hn rfl (fun ls' hl' => k ls' H locs (lv_sub hl' ks hl0) hP hS)
theorem t_iinc (C : Cx E F cc nL own Ts rm0) {i p : Nat} {n : Int} {x v : Int32} {lv' : List (Nat × Value)} (hd : decode cc pc = .ok (.iinc i n, 3)) (hp : lv[p]? = some (i, .int x)) (hv : x + Int32.ofInt n = v) (hn : i < nL) (ks : List Nat) (hl0 : lv_pick ((i, Value.int v) :: lv.filter (fun q => !(q.1 == i) && !(q.1 + 1 == i && q.2.category == 2))) ks = lv') (k : T E F nL u r (pc + 3) lv' st) : T E F nL u r pc lv st := fun ls H locs hl hP hS => lv_iinc C.1 C.2.1 hd hl hp hv hn rfl (fun ls' hl' => k ls' H locs (lv_sub hl' ks hl0) hP hS)
theorem t_iadd (C : Cx E F cc nL own Ts rm0) {x y v : Int32} (hd : decode cc pc = .ok (.iadd, 1)) (hv : x + y = v) (k : T E F nL u r (pc + 1) lv (.int v :: st)) : T E F nL u r pc lv (.int y :: .int x :: st) := fun ls H locs hl hP hS => lv_iadd C.1 C.2.1 hd (by rw [hv]; exact k ls H locs hl hP hS)
theorem t_isub (C : Cx E F cc nL own Ts rm0) {x y v : Int32} (hd : decode cc pc = .ok (.isub, 1)) (hv : x - y = v) (k : T E F nL u r (pc + 1) lv (.int v :: st)) : T E F nL u r pc lv (.int y :: .int x :: st) := fun ls H locs hl hP hS => lv_isub C.1 C.2.1 hd (by rw [hv]; exact k ls H locs hl hP hS)
theorem t_imul (C : Cx E F cc nL own Ts rm0) {x y v : Int32} (hd : decode cc pc = .ok (.imul, 1)) (hv : x * y = v) (k : T E F nL u r (pc + 1) lv (.int v :: st)) : T E F nL u r pc lv (.int y :: .int x :: st) := fun ls H locs hl hP hS => lv_imul C.1 C.2.1 hd (by rw [hv]; exact k ls H locs hl hP hS)
theorem t_iand (C : Cx E F cc nL own Ts rm0) {x y v : Int32} (hd : decode cc pc = .ok (.iand, 1)) (hv : x &&& y = v) (k : T E F nL u r (pc + 1) lv (.int v :: st)) : T E F nL u r pc lv (.int y :: .int x :: st) := fun ls H locs hl hP hS => lv_iand C.1 C.2.1 hd (by rw [hv]; exact k ls H locs hl hP hS)
theorem t_ior (C : Cx E F cc nL own Ts rm0) {x y v : Int32} (hd : decode cc pc = .ok (.ior, 1)) (hv : x ||| y = v) (k : T E F nL u r (pc + 1) lv (.int v :: st)) : T E F nL u r pc lv (.int y :: .int x :: st) := fun ls H locs hl hP hS => lv_ior C.1 C.2.1 hd (by rw [hv]; exact k ls H locs hl hP hS)
theorem t_ishl (C : Cx E F cc nL own Ts rm0) {x y v : Int32} (hd : decode cc pc = .ok (.ishl, 1)) (hv : x <<< (y &&& 31) = v) (k : T E F nL u r (pc + 1) lv (.int v :: st)) : T E F nL u r pc lv (.int y :: .int x :: st) := fun ls H locs hl hP hS => lv_ishl C.1 C.2.1 hd (by rw [hv]; exact k ls H locs hl hP hS)
theorem t_ishr (C : Cx E F cc nL own Ts rm0) {x y v : Int32} (hd : decode cc pc = .ok (.ishr, 1)) (hv : x >>> (y &&& 31) = v) (k : T E F nL u r (pc + 1) lv (.int v :: st)) : T E F nL u r pc lv (.int y :: .int x :: st) := fun ls H locs hl hP hS => lv_ishr C.1 C.2.1 hd (by rw [hv]; exact k ls H locs hl hP hS)
theorem t_iushr (C : Cx E F cc nL own Ts rm0) {x y v : Int32} (hd : decode cc pc = .ok (.iushr, 1)) (hv : (x.toUInt32 >>> (y.toUInt32 &&& Int32.toUInt32 31)).toInt32 = v) (k : T E F nL u r (pc + 1) lv (.int v :: st)) : T E F nL u r pc lv (.int y :: .int x :: st) := fun ls H locs hl hP hS => lv_iushr C.1 C.2.1 hd hv (k ls H locs hl hP hS)
theorem t_idiv (C : Cx E F cc nL own Ts rm0) {x y v : Int32} (hd : decode cc pc = .ok (.idiv, 1)) (h0 : ¬ y = 0) (hv : x / y = v) (k : T E F nL u r (pc + 1) lv (.int v :: st)) : T E F nL u r pc lv (.int y :: .int x :: st) := fun ls H locs hl hP hS => lv_idiv C.1 C.2.1 hd h0 (by rw [hv]; exact k ls H locs hl hP hS)
theorem t_irem (C : Cx E F cc nL own Ts rm0) {x y v : Int32} (hd : decode cc pc = .ok (.irem, 1)) (h0 : ¬ y = 0) (hv : x - x / y * y = v) (k : T E F nL u r (pc + 1) lv (.int v :: st)) : T E F nL u r pc lv (.int y :: .int x :: st) := fun ls H locs hl hP hS => lv_irem C.1 C.2.1 hd h0 (by rw [hv]; exact k ls H locs hl hP hS)
theorem t_ladd (C : Cx E F cc nL own Ts rm0) {x y v : Int64} (hd : decode cc pc = .ok (.ladd, 1)) (hv : x + y = v) (k : T E F nL u r (pc + 1) lv (.long v :: st)) : T E F nL u r pc lv (.long y :: .long x :: st) := fun ls H locs hl hP hS => lv_ladd C.1 C.2.1 hd (by rw [hv]; exact k ls H locs hl hP hS)
theorem t_lsub (C : Cx E F cc nL own Ts rm0) {x y v : Int64} (hd : decode cc pc = .ok (.lsub, 1)) (hv : x - y = v) (k : T E F nL u r (pc + 1) lv (.long v :: st)) : T E F nL u r pc lv (.long y :: .long x :: st) := fun ls H locs hl hP hS => lv_lsub C.1 C.2.1 hd (by rw [hv]; exact k ls H locs hl hP hS)
theorem t_lmul (C : Cx E F cc nL own Ts rm0) {x y v : Int64} (hd : decode cc pc = .ok (.lmul, 1)) (hv : x * y = v) (k : T E F nL u r (pc + 1) lv (.long v :: st)) : T E F nL u r pc lv (.long y :: .long x :: st) := fun ls H locs hl hP hS => lv_lmul C.1 C.2.1 hd (by rw [hv]; exact k ls H locs hl hP hS)
theorem t_lcmp (C : Cx E F cc nL own Ts rm0) {x y : Int64} {v : Int32} (hd : decode cc pc = .ok (.lcmp, 1)) (hv : lg_cmp x y = v) (k : T E F nL u r (pc + 1) lv (.int v :: st)) : T E F nL u r pc lv (.long y :: .long x :: st) := fun ls H locs hl hP hS => W.lcmp C.1 C.2.1 hd (by rw [hv]; exact k ls H locs hl hP hS)
theorem t_i2l (C : Cx E F cc nL own Ts rm0) {x : Int32} {v : Int64} (hd : decode cc pc = .ok (.i2l, 1)) (hv : x.toInt64 = v) (k : T E F nL u r (pc + 1) lv (.long v :: st)) : T E F nL u r pc lv (.int x :: st) := fun ls H locs hl hP hS => lv_i2l C.1 C.2.1 hd hv (k ls H locs hl hP hS)
theorem t_i2c (C : Cx E F cc nL own Ts rm0) {x v : Int32} (hd : decode cc pc = .ok (.i2c, 1)) (hv : (x.toUInt32 % 65536).toInt32 = v) (k : T E F nL u r (pc + 1) lv (.int v :: st)) : T E F nL u r pc lv (.int x :: st) := fun ls H locs hl hP hS => lv_i2c C.1 C.2.1 hd hv (k ls H locs hl hP hS)
theorem t_dup (C : Cx E F cc nL own Ts rm0) {va : Value} (hd : decode cc pc = .ok (.dup, 1)) (hc : va.category = 1) (k : T E F nL u r (pc + 1) lv (va :: va :: st)) : T E F nL u r pc lv (va :: st) := fun ls H locs hl hP hS => lv_dup C.1 C.2.1 hd hc (k ls H locs hl hP hS)
theorem t_dup2 (C : Cx E F cc nL own Ts rm0) {va vb : Value} (hd : decode cc pc = .ok (.dup2, 1)) (hc : va.category = 1) (hc2 : vb.category = 1) (k : T E F nL u r (pc + 1) lv (va :: vb :: va :: vb :: st)) : T E F nL u r pc lv (va :: vb :: st) := fun ls H locs hl hP hS => lv_dup2_11 C.1 C.2.1 hd hc hc2 (k ls H locs hl hP hS)
theorem t_pop (C : Cx E F cc nL own Ts rm0) {va : Value} (hd : decode cc pc = .ok (.pop, 1)) (hc : va.category = 1) (k : T E F nL u r (pc + 1) lv st) : T E F nL u r pc lv (va :: st) := fun ls H locs hl hP hS => lv_pop C.1 C.2.1 hd hc (k ls H locs hl hP hS)
theorem t_goto (C : Cx E F cc nL own Ts rm0) {off : Int} {tgt : Nat} (hd : decode cc pc = .ok (.goto off, 3)) (ht : (pc : Int) + off = (tgt : Int)) (k : T E F nL u r tgt lv st) : T E F nL u r pc lv st := fun ls H locs hl hP hS => lv_goto C.1 C.2.1 hd ht (k ls H locs hl hP hS)
theorem t_icmp_eq (C : Cx E F cc nL own Ts rm0) {x y : Int32} {off : Int} {tgt : Nat} {P : Prop} (hd : decode cc pc = .ok (.if_icmp .eq off, 3)) (ht : (pc : Int) + off = (tgt : Int)) (hP9 : x = y ↔ P) (kt : P → T E F nL u r tgt lv st) (kf : ¬ P → T E F nL u r (pc + 3) lv st) : T E F nL u r pc lv (.int y :: .int x :: st) := fun ls H locs hl hP hS => lv_icmp_eq C.1 C.2.1 hd ht (fun z => kt (hP9.mp z) ls H locs hl hP hS) (fun z => kf (fun w => z (hP9.mpr w)) ls H locs hl hP hS)
theorem t_if_eq (C : Cx E F cc nL own Ts rm0) {x : Int32} {off : Int} {tgt : Nat} {P : Prop} (hd : decode cc pc = .ok (.ifCond .eq off, 3)) (ht : (pc : Int) + off = (tgt : Int)) (hP9 : x = 0 ↔ P) (kt : P → T E F nL u r tgt lv st) (kf : ¬ P → T E F nL u r (pc + 3) lv st) : T E F nL u r pc lv (.int x :: st) := fun ls H locs hl hP hS => lv_if_eq C.1 C.2.1 hd ht (fun z => kt (hP9.mp z) ls H locs hl hP hS) (fun z => kf (fun w => z (hP9.mpr w)) ls H locs hl hP hS)
theorem t_icmp_ne (C : Cx E F cc nL own Ts rm0) {x y : Int32} {off : Int} {tgt : Nat} {P : Prop} (hd : decode cc pc = .ok (.if_icmp .ne off, 3)) (ht : (pc : Int) + off = (tgt : Int)) (hP9 : x = y ↔ P) (kt : ¬ P → T E F nL u r tgt lv st) (kf : P → T E F nL u r (pc + 3) lv st) : T E F nL u r pc lv (.int y :: .int x :: st) := fun ls H locs hl hP hS => lv_icmp_ne C.1 C.2.1 hd ht (fun z => kt (fun w => z (hP9.mpr w)) ls H locs hl hP hS) (fun z => kf (hP9.mp z) ls H locs hl hP hS)
theorem t_if_ne (C : Cx E F cc nL own Ts rm0) {x : Int32} {off : Int} {tgt : Nat} {P : Prop} (hd : decode cc pc = .ok (.ifCond .ne off, 3)) (ht : (pc : Int) + off = (tgt : Int)) (hP9 : x = 0 ↔ P) (kt : ¬ P → T E F nL u r tgt lv st) (kf : P → T E F nL u r (pc + 3) lv st) : T E F nL u r pc lv (.int x :: st) := fun ls H locs hl hP hS => lv_if_ne C.1 C.2.1 hd ht (fun z => kt (fun w => z (hP9.mpr w)) ls H locs hl hP hS) (fun z => kf (hP9.mp z) ls H locs hl hP hS)
theorem t_icmp_lt (C : Cx E F cc nL own Ts rm0) {x y : Int32} {off : Int} {tgt : Nat} {P : Prop} (hd : decode cc pc = .ok (.if_icmp .lt off, 3)) (ht : (pc : Int) + off = (tgt : Int)) (hP9 : x < y ↔ P) (kt : P → T E F nL u r tgt lv st) (kf : ¬ P → T E F nL u r (pc + 3) lv st) : T E F nL u r pc lv (.int y :: .int x :: st) := fun ls H locs hl hP hS => lv_icmp_lt C.1 C.2.1 hd ht (fun z => kt (hP9.mp z) ls H locs hl hP hS) (fun z => kf (fun w => z (hP9.mpr w)) ls H locs hl hP hS)
theorem t_if_lt (C : Cx E F cc nL own Ts rm0) {x : Int32} {off : Int} {tgt : Nat} {P : Prop} (hd : decode cc pc = .ok (.ifCond .lt off, 3)) (ht : (pc : Int) + off = (tgt : Int)) (hP9 : x < 0 ↔ P) (kt : P → T E F nL u r tgt lv st) (kf : ¬ P → T E F nL u r (pc + 3) lv st) : T E F nL u r pc lv (.int x :: st) := fun ls H locs hl hP hS => lv_if_lt C.1 C.2.1 hd ht (fun z => kt (hP9.mp z) ls H locs hl hP hS) (fun z => kf (fun w => z (hP9.mpr w)) ls H locs hl hP hS)
theorem t_icmp_ge (C : Cx E F cc nL own Ts rm0) {x y : Int32} {off : Int} {tgt : Nat} {P : Prop} (hd : decode cc pc = .ok (.if_icmp .ge off, 3)) (ht : (pc : Int) + off = (tgt : Int)) (hP9 : y ≤ x ↔ P) (kt : P → T E F nL u r tgt lv st) (kf : ¬ P → T E F nL u r (pc + 3) lv st) : T E F nL u r pc lv (.int y :: .int x :: st) := fun ls H locs hl hP hS => lv_icmp_ge C.1 C.2.1 hd ht (fun z => kt (hP9.mp z) ls H locs hl hP hS) (fun z => kf (fun w => z (hP9.mpr w)) ls H locs hl hP hS)
theorem t_if_ge (C : Cx E F cc nL own Ts rm0) {x : Int32} {off : Int} {tgt : Nat} {P : Prop} (hd : decode cc pc = .ok (.ifCond .ge off, 3)) (ht : (pc : Int) + off = (tgt : Int)) (hP9 : 0 ≤ x ↔ P) (kt : P → T E F nL u r tgt lv st) (kf : ¬ P → T E F nL u r (pc + 3) lv st) : T E F nL u r pc lv (.int x :: st) := fun ls H locs hl hP hS => lv_if_ge C.1 C.2.1 hd ht (fun z => kt (hP9.mp z) ls H locs hl hP hS) (fun z => kf (fun w => z (hP9.mpr w)) ls H locs hl hP hS)
theorem t_icmp_gt (C : Cx E F cc nL own Ts rm0) {x y : Int32} {off : Int} {tgt : Nat} {P : Prop} (hd : decode cc pc = .ok (.if_icmp .gt off, 3)) (ht : (pc : Int) + off = (tgt : Int)) (hP9 : y < x ↔ P) (kt : P → T E F nL u r tgt lv st) (kf : ¬ P → T E F nL u r (pc + 3) lv st) : T E F nL u r pc lv (.int y :: .int x :: st) := fun ls H locs hl hP hS => lv_icmp_gt C.1 C.2.1 hd ht (fun z => kt (hP9.mp z) ls H locs hl hP hS) (fun z => kf (fun w => z (hP9.mpr w)) ls H locs hl hP hS)
theorem t_if_gt (C : Cx E F cc nL own Ts rm0) {x : Int32} {off : Int} {tgt : Nat} {P : Prop} (hd : decode cc pc = .ok (.ifCond .gt off, 3)) (ht : (pc : Int) + off = (tgt : Int)) (hP9 : 0 < x ↔ P) (kt : P → T E F nL u r tgt lv st) (kf : ¬ P → T E F nL u r (pc + 3) lv st) : T E F nL u r pc lv (.int x :: st) := fun ls H locs hl hP hS => lv_if_gt C.1 C.2.1 hd ht (fun z => kt (hP9.mp z) ls H locs hl hP hS) (fun z => kf (fun w => z (hP9.mpr w)) ls H locs hl hP hS)
theorem t_icmp_le (C : Cx E F cc nL own Ts rm0) {x y : Int32} {off : Int} {tgt : Nat} {P : Prop} (hd : decode cc pc = .ok (.if_icmp .le off, 3)) (ht : (pc : Int) + off = (tgt : Int)) (hP9 : x ≤ y ↔ P) (kt : P → T E F nL u r tgt lv st) (kf : ¬ P → T E F nL u r (pc + 3) lv st) : T E F nL u r pc lv (.int y :: .int x :: st) := fun ls H locs hl hP hS => lv_icmp_le C.1 C.2.1 hd ht (fun z => kt (hP9.mp z) ls H locs hl hP hS) (fun z => kf (fun w => z (hP9.mpr w)) ls H locs hl hP hS)
theorem t_if_le (C : Cx E F cc nL own Ts rm0) {x : Int32} {off : Int} {tgt : Nat} {P : Prop} (hd : decode cc pc = .ok (.ifCond .le off, 3)) (ht : (pc : Int) + off = (tgt : Int)) (hP9 : x ≤ 0 ↔ P) (kt : P → T E F nL u r tgt lv st) (kf : ¬ P → T E F nL u r (pc + 3) lv st) : T E F nL u r pc lv (.int x :: st) := fun ls H locs hl hP hS => lv_if_le C.1 C.2.1 hd ht (fun z => kt (hP9.mp z) ls H locs hl hP hS) (fun z => kf (fun w => z (hP9.mpr w)) ls H locs hl hP hS)
theorem t_get (C : Cx E F cc nL own Ts rm0) {i k ci N idx : Nat} {fs : List Value} {Cn : String} {Tt : u_T} {v : Value} (ho : Obj E u r i k ci fs) (hc : vwCl[ci]? = some (Cn, Tt, N)) (hin : ∀ w ∈ u_ws Cn Tt N, w ∈ Ts) (n : Nat) (hn : n < N) (hl0 : Cond.fieldLink own idx (Tt n).1 (Tt n).2.1 (Tt n).2.2.1 ∈ Ts) (hv : fs[n]? = some v) (hd : decode cc pc = .ok (.getfield idx, 3)) (kk : T E F nL u r (pc + 3) lv (v :: st)) : T E F nL u r pc lv (.ref (eA E i k) :: st) := by
  intro ls H locs hl hP hS
  obtain ⟨p, -, hp⟩ := wg_place (E := E) (u := u) (r := r) ho.1
  rw [ho.2] at hp
  exact va_get C.1 C.2.1 C.2.2.2.2.1 hin C.2.2.2.1 C.2.2.2.2.2.1 hP p hp hc n hn (C.2.2.2.2.1 _ hl0) (fun _ h9 => h9) hv hd (kk ls H locs hl hP hS)
theorem t_getI (C : Cx E F cc nL own Ts rm0) {i k ci N idx : Nat} {fs : List Value} {Cn : String} {Tt : u_T} {x v : Int32} (ho : Obj E u r i k ci fs) (hc : vwCl[ci]? = some (Cn, Tt, N)) (hin : ∀ w ∈ u_ws Cn Tt N, w ∈ Ts) (n : Nat) (hn : n < N) (hl0 : Cond.fieldLink own idx (Tt n).1 (Tt n).2.1 (Tt n).2.2.1 ∈ Ts) (hv : fs[n]? = some (.int x)) (hx : x = v) (hd : decode cc pc = .ok (.getfield idx, 3)) (kk : T E F nL u r (pc + 3) lv (.int v :: st)) : T E F nL u r pc lv (.ref (eA E i k) :: st) := t_get C ho hc hin n hn hl0 (by rw [hv, hx]) hd kk
theorem t_putI (C : Cx E F cc nL own Ts rm0) {i k ci j N idx n : Nat} {Cn : String} {Tt : u_T} {v : Int32} (hf : Fld i k ci n j) (hc : vwCl[ci]? = some (Cn, Tt, N)) (hin : ∀ w ∈ u_ws Cn Tt N, w ∈ Ts) (ty0 : Nat → FieldType) (hty : ∀ k, k < N → parseFieldDescriptor (Tt k).2.2.1 = some (ty0 k)) (hnm : ∀ a, a < N → ∀ b, b < N → a ≠ b → (Tt a).2.1 ≠ (Tt b).2.1) (hn : n < N) (hl0 : Cond.fieldLink own idx (Tt n).1 (Tt n).2.1 (Tt n).2.2.1 ∈ Ts) (hfin : (Tt n).2.2.2 = false) (hd9 : parseFieldDescriptor (Tt n).2.2.1 = some .int) (hd : decode cc pc = .ok (.putfield idx, 3)) (kk : T E F nL (up3 u i k j v) r (pc + 3) lv st) : T E F nL u r pc lv (.int v :: .ref (eA E i k) :: st) := by
  intro ls H locs hl hP hS
  obtain ⟨hm, fs, h1, h2, h3, h4⟩ := hf E u r
  obtain ⟨p, hp0, hp⟩ := wg_place (E := E) (u := u) (r := r) hm
  rw [h1] at hp
  refine va_put (A := fB F) C.1 C.2.1 C.2.2.2.2.1 hin ty0 hty hnm C.2.2.2.1 C.2.2.2.2.2.1 hP (wg_D C.2.2.2.2.2.2.1 C.2.2.2.2.2.2.2.1) hS p hp hc n hn (C.2.2.2.2.1 _ hl0) (fun _ h9 => h9) hfin hd9 rfl rfl h3 hd (fun H1 locs1 hP1 _ hS1 => ?_)
  rw [h4 v, wg_set hp0 gcell_up] at hP1
  exact kk ls H1 locs1 hl hP1 hS1
theorem t_iald (C : Cx E F cc nL own Ts rm0) {i k n : Nat} {x v : Int32} (hA : Arr i k n) (j : Nat) (hx : x = nI j) (hj : j < n) (hv : u i k j = v) (hd : decode cc pc = .ok (.iaload, 1)) (kk : T E F nL u r (pc + 1) lv (.int v :: st)) : T E F nL u r pc lv (.int x :: .ref (eA E i k) :: st) := by
  intro ls H locs hl hP hS
  obtain ⟨p, -, hp⟩ := wg_place (E := E) (u := u) (r := r) hA.1.1
  rw [hA.2 E u r] at hp
  have hn : n < 3000 := hA.1.2
  subst hx
  refine va_iald C.1 C.2.1 C.2.2.2.2.2.1 hP p 0 hp rfl (vp_in_nI hj (by omega)) hd ?_
  rw [nI_clamp (by omega), hv]
  exact kk ls H locs hl hP hS
theorem t_iast (C : Cx E F cc nL own Ts rm0) {i k n : Nat} {x v : Int32} (hA : Arr i k n) (j : Nat) (hx : x = nI j) (hj : j < n) (hd : decode cc pc = .ok (.iastore, 1)) (kk : T E F nL (up3 u i k j v) r (pc + 1) lv st) : T E F nL u r pc lv (.int v :: .int x :: .ref (eA E i k) :: st) := by
  intro ls H locs hl hP hS
  obtain ⟨p, hp0, hp⟩ := wg_place (E := E) (u := u) (r := r) hA.1.1
  rw [hA.2 E u r] at hp
  have hn : n < 3000 := hA.1.2
  subst hx
  refine va_iast (A := fB F) C.1 C.2.1 C.2.2.2.2.2.1 hP (wg_D C.2.2.2.2.2.2.1 C.2.2.2.2.2.2.2.1) hS p 0 hp rfl (vp_in_nI hj (by omega)) hd (fun H1 locs1 hP1 _ hS1 => ?_)
  rw [nI_clamp (by omega), ← up3_row, ← hA.2 E (up3 u i k j v) r, wg_set hp0 gcell_up] at hP1
  exact kk ls H1 locs1 hl hP1 hS1
theorem t_run {y : MethodName} {rm : Room} {ws : List Cond} {as : List Value} {oc : Option Value} {st0 : List Value} (h1 : ∀ q ∈ LB, fB F (eA E q.1 q.2)) (h2 : ∀ q : Nat, (fS F).heap.size ≤ q → fB F q)
    (hr : ∀ (ls : Array Slot) (H : Heap) (locs : List Loc), lv_has ls nL lv → va_P (eD E) vwCl (wg E u r) H → va_S (fB F) (fS F).heap H locs → va_Run (fP F) (eL E) (fE F) (fR F) (fS F) (fM F) (fG F) (fW F) (fH F) (fC F) H locs (fN F) (fL F) 0 0 (F0 (fM F) pc ls st0) rest (fun st o t => (o = .returned oc ∧ va_P (eD E) vwCl (wg E u' r') t.heap ∧ va_K (eD E) vwCl (tysE E) t) ∧ va_F (XB E H.size) st t) (XB E H.size))
    (kk : T E F nL u' r' (pc + 3) lv (oc.toList ++ rest)) : T E F nL u r pc lv st0 := by
  intro ls H locs hl hP hS
  intro T hT X
  obtain ⟨v, st₀, t, T', L, h0, X', hL, e1, e2, ⟨⟨hv, hP1, hK1⟩, hz, hk⟩, st⟩ := hr ls H locs hl hP hS T hT X
  cases hv
  rw [h0] at hz hk
  have hb := XB_B (E := E) h1 h2 hS
  obtain ⟨t2, a1, b1⟩ := kk ls T'.heap (locs ++ L) hl (by rw [e1]; exact hP1)
    ⟨Nat.le_trans hS.1 (by rw [e1]; exact hz), fun q g1 g2 => by rw [e1, hk q (Nat.lt_of_lt_of_le g1 hS.1) (fun z => g2 (hb q z))]; exact hS.2.1 q g1 g2, fun q hq => by
      rcases List.mem_append.mp hq with h | h
      · exact hS.2.2 q h
      · exact hb _ (hL q h)⟩ T' rfl X'
  exact ⟨t2, st t2 a1, b1⟩
theorem CT_blind {as : List Value} {sz : Nat} : FrameBlind (va_Pc as (fun U => U.heap.size = sz ∧ va_P (eD E) vwCl (wg E u r) U.heap ∧ va_K (eD E) vwCl (tysE E) U ∧ AD E ∧ XF E U)) := by
  intro a U g mk q
  obtain ⟨q0, q1, qP, qK, qA, qX⟩ := q
  exact ⟨q0, q1, qP, va_K.moved (u := U) (U := U.calling g mk a) (Vm.Alike.refl U.vm) qK, qA, XF_same (u := U) (U := U.calling g mk a) rfl rfl qX⟩
theorem CT_pre (C : Cx E F cc nL own Ts rm0) {as : List Value} {H : Heap} {locs : List Loc} (hP : va_P (eD E) vwCl (wg E u r) H) (hS : va_S (fB F) (fS F).heap H locs) : ∀ U : State, U.heap = H → (fS F).WarmedH U.vm → va_Pc as (fun U => U.heap.size = H.size ∧ va_P (eD E) vwCl (wg E u r) U.heap ∧ va_K (eD E) vwCl (tysE E) U ∧ AD E ∧ XF E U) as.toArray U := fun U hU hW => ⟨rfl, by rw [hU], by rw [hU]; exact hP, va_K.moved hW.alike C.2.2.2.2.2.1, C.2.2.2.2.2.2.1, C.2.2.2.2.2.2.2.2.2.1 U H locs hS hU hW⟩
theorem t_cVI (C : Cx E F cc nL own Ts rm0) {y : MethodName} {ws ws' : List Cond} {rm : Room} {As : List Value} {idx maxL : Nat} {bytes : ByteArray} {ret : Option FieldType} {x : Int32} {i k ci N : Nat} {fs : List Value} {Cn : String} {Tt : u_T} (hM : CT E y ws rm (.ref (eA E i k) :: As) u r (some (.int x)) u' r') (hG : GoodIn Ts (wsV own idx Cn y ws)) (hw : ws = Cond.code y bytes maxL ret :: ws') (h0 : rm.cells = 0 ∧ rm.slots = 0) (n : Nat) (hd0 : y.cls = Cn ∧ y.cls ≠ "java/lang/invoke/MethodHandle" ∧ y.cls ≠ "java/lang/invoke/VarHandle" ∧ (parseMethodDescriptor y.desc).map (fun d => d.parameters.length) = some n) (hR : rm.frames + 1 ≤ rm0.frames ∧ 8 + (maxL + 11) + rm.locals ≤ rm0.locals) (hn : As.length = n) (ho : Obj E u r i k ci fs) (hc : vwCl[ci]? = some (Cn, Tt, N)) (hrm : (rest.map fun v => v.category).sum ≤ 8) (hd : decode cc pc = .ok (.invokevirtual idx, 3)) {st0 : List Value} (hs : st0 = As.reverse ++ .ref (eA E i k) :: rest) (kk : T E F nL u' r' (pc + 3) lv (.int x :: rest)) : T E F nL u r pc lv st0 := by
  refine t_run (y := y) (rm := rm) (ws := ws) (as := []) (oc := (some (.int x))) (rest := rest) C.2.2.2.2.2.2.2.1 C.2.2.2.2.2.2.2.2.1 (fun ls H locs hl hP hS => ?_) kk
  obtain ⟨p, -, hp⟩ := wg_place (E := E) (u := u) (r := r) ho.1
  rw [ho.2] at hp
  exact va_runV (As := As) (rest := rest) ⟨C.1, C.2.1, C.2.2.1, C.2.2.2.1, C.2.2.2.2.1⟩ (hM H.size) (cwV n C.2.2.2.2.1 hG hw h0.1 h0.2 hd0 (by rw [C.2.2.2.2.2.2.2.2.2.2.2.2.1]; exact hR)) ⟨CT_blind, va_recv C.2.2.2.2.2.1 hP hc hp, CT_pre C hP hS⟩ rfl hn hl.1 hs (lv_room hrm) hd ⟨by rw [C.2.2.2.2.2.2.2.2.2.2.2.2.1]; exact C.2.2.2.2.2.2.2.2.2.2.2.2.2.1, by rw [C.2.2.2.2.2.2.2.2.2.2.2.2.1]; exact C.2.2.2.2.2.2.2.2.2.2.2.2.2.2⟩
theorem t_cVV (C : Cx E F cc nL own Ts rm0) {y : MethodName} {ws ws' : List Cond} {rm : Room} {As : List Value} {idx maxL : Nat} {bytes : ByteArray} {ret : Option FieldType}  {i k ci N : Nat} {fs : List Value} {Cn : String} {Tt : u_T} (hM : CT E y ws rm (.ref (eA E i k) :: As) u r none u' r') (hG : GoodIn Ts (wsV own idx Cn y ws)) (hw : ws = Cond.code y bytes maxL ret :: ws') (h0 : rm.cells = 0 ∧ rm.slots = 0) (n : Nat) (hd0 : y.cls = Cn ∧ y.cls ≠ "java/lang/invoke/MethodHandle" ∧ y.cls ≠ "java/lang/invoke/VarHandle" ∧ (parseMethodDescriptor y.desc).map (fun d => d.parameters.length) = some n) (hR : rm.frames + 1 ≤ rm0.frames ∧ 8 + (maxL + 11) + rm.locals ≤ rm0.locals) (hn : As.length = n) (ho : Obj E u r i k ci fs) (hc : vwCl[ci]? = some (Cn, Tt, N)) (hrm : (rest.map fun v => v.category).sum ≤ 8) (hd : decode cc pc = .ok (.invokevirtual idx, 3)) {st0 : List Value} (hs : st0 = As.reverse ++ .ref (eA E i k) :: rest) (kk : T E F nL u' r' (pc + 3) lv rest) : T E F nL u r pc lv st0 := by
  refine t_run (y := y) (rm := rm) (ws := ws) (as := []) (oc := none) (rest := rest) C.2.2.2.2.2.2.2.1 C.2.2.2.2.2.2.2.2.1 (fun ls H locs hl hP hS => ?_) kk
  obtain ⟨p, -, hp⟩ := wg_place (E := E) (u := u) (r := r) ho.1
  rw [ho.2] at hp
  exact va_runV (As := As) (rest := rest) ⟨C.1, C.2.1, C.2.2.1, C.2.2.2.1, C.2.2.2.2.1⟩ (hM H.size) (cwV n C.2.2.2.2.1 hG hw h0.1 h0.2 hd0 (by rw [C.2.2.2.2.2.2.2.2.2.2.2.2.1]; exact hR)) ⟨CT_blind, va_recv C.2.2.2.2.2.1 hP hc hp, CT_pre C hP hS⟩ rfl hn hl.1 hs (lv_room hrm) hd ⟨by rw [C.2.2.2.2.2.2.2.2.2.2.2.2.1]; exact C.2.2.2.2.2.2.2.2.2.2.2.2.2.1, by rw [C.2.2.2.2.2.2.2.2.2.2.2.2.1]; exact C.2.2.2.2.2.2.2.2.2.2.2.2.2.2⟩
theorem t_cVL (C : Cx E F cc nL own Ts rm0) {y : MethodName} {ws ws' : List Cond} {rm : Room} {As : List Value} {idx maxL : Nat} {bytes : ByteArray} {ret : Option FieldType} {x : Int64} {i k ci N : Nat} {fs : List Value} {Cn : String} {Tt : u_T} (hM : CT E y ws rm (.ref (eA E i k) :: As) u r (some (.long x)) u' r') (hG : GoodIn Ts (wsV own idx Cn y ws)) (hw : ws = Cond.code y bytes maxL ret :: ws') (h0 : rm.cells = 0 ∧ rm.slots = 0) (n : Nat) (hd0 : y.cls = Cn ∧ y.cls ≠ "java/lang/invoke/MethodHandle" ∧ y.cls ≠ "java/lang/invoke/VarHandle" ∧ (parseMethodDescriptor y.desc).map (fun d => d.parameters.length) = some n) (hR : rm.frames + 1 ≤ rm0.frames ∧ 8 + (maxL + 11) + rm.locals ≤ rm0.locals) (hn : As.length = n) (ho : Obj E u r i k ci fs) (hc : vwCl[ci]? = some (Cn, Tt, N)) (hrm : (rest.map fun v => v.category).sum ≤ 8) (hd : decode cc pc = .ok (.invokevirtual idx, 3)) {st0 : List Value} (hs : st0 = As.reverse ++ .ref (eA E i k) :: rest) (kk : T E F nL u' r' (pc + 3) lv (.long x :: rest)) : T E F nL u r pc lv st0 := by
  refine t_run (y := y) (rm := rm) (ws := ws) (as := []) (oc := (some (.long x))) (rest := rest) C.2.2.2.2.2.2.2.1 C.2.2.2.2.2.2.2.2.1 (fun ls H locs hl hP hS => ?_) kk
  obtain ⟨p, -, hp⟩ := wg_place (E := E) (u := u) (r := r) ho.1
  rw [ho.2] at hp
  exact va_runV (As := As) (rest := rest) ⟨C.1, C.2.1, C.2.2.1, C.2.2.2.1, C.2.2.2.2.1⟩ (hM H.size) (cwV n C.2.2.2.2.1 hG hw h0.1 h0.2 hd0 (by rw [C.2.2.2.2.2.2.2.2.2.2.2.2.1]; exact hR)) ⟨CT_blind, va_recv C.2.2.2.2.2.1 hP hc hp, CT_pre C hP hS⟩ rfl hn hl.1 hs (lv_room hrm) hd ⟨by rw [C.2.2.2.2.2.2.2.2.2.2.2.2.1]; exact C.2.2.2.2.2.2.2.2.2.2.2.2.2.1, by rw [C.2.2.2.2.2.2.2.2.2.2.2.2.1]; exact C.2.2.2.2.2.2.2.2.2.2.2.2.2.2⟩
theorem t_cSI (C : Cx E F cc nL own Ts rm0) {y : MethodName} {ws ws' : List Cond} {rm : Room} {As : List Value} {idx maxL : Nat} {bytes : ByteArray} {ret : Option FieldType} {x : Int32} (hM : CT E y ws rm As u r (some (.int x)) u' r') (hG : GoodIn Ts (va_wsS own idx y ws)) (hw : ws = Cond.code y bytes maxL ret :: ws') (h0 : rm.cells = 0 ∧ rm.slots = 0) (n : Nat) (hd0 : y.cls ≠ "java/lang/invoke/MethodHandle" ∧ y.cls ≠ "java/lang/invoke/VarHandle" ∧ (parseMethodDescriptor y.desc).map (fun d => d.parameters.length) = some n) (hR : rm.frames + 1 ≤ rm0.frames ∧ 8 + (maxL + 11) + rm.locals ≤ rm0.locals) (hn : As.length = n) (hrm : (rest.map fun v => v.category).sum ≤ 8) (hd : decode cc pc = .ok (.invokestatic idx, 3)) {st0 : List Value} (hs : st0 = As.reverse ++ rest) (kk : T E F nL u' r' (pc + 3) lv (.int x :: rest)) : T E F nL u r pc lv st0 := by
  refine t_run (y := y) (rm := rm) (ws := ws) (as := []) (oc := (some (.int x))) (rest := rest) C.2.2.2.2.2.2.2.1 C.2.2.2.2.2.2.2.2.1 (fun ls H locs hl hP hS => ?_) kk
  exact va_runS (As := As) (rest := rest) ⟨C.1, C.2.1, C.2.2.1, C.2.2.2.1, C.2.2.2.2.1⟩ (hM H.size) (va_cwS n C.2.2.2.2.1 hG hw h0.1 h0.2 hd0 (by rw [C.2.2.2.2.2.2.2.2.2.2.2.2.1]; exact hR)) ⟨CT_blind, CT_pre C hP hS⟩ rfl hn hl.1 hs (lv_room hrm) hd ⟨by rw [C.2.2.2.2.2.2.2.2.2.2.2.2.1]; exact C.2.2.2.2.2.2.2.2.2.2.2.2.2.1, by rw [C.2.2.2.2.2.2.2.2.2.2.2.2.1]; exact C.2.2.2.2.2.2.2.2.2.2.2.2.2.2⟩
theorem t_cSV (C : Cx E F cc nL own Ts rm0) {y : MethodName} {ws ws' : List Cond} {rm : Room} {As : List Value} {idx maxL : Nat} {bytes : ByteArray} {ret : Option FieldType}  (hM : CT E y ws rm As u r none u' r') (hG : GoodIn Ts (va_wsS own idx y ws)) (hw : ws = Cond.code y bytes maxL ret :: ws') (h0 : rm.cells = 0 ∧ rm.slots = 0) (n : Nat) (hd0 : y.cls ≠ "java/lang/invoke/MethodHandle" ∧ y.cls ≠ "java/lang/invoke/VarHandle" ∧ (parseMethodDescriptor y.desc).map (fun d => d.parameters.length) = some n) (hR : rm.frames + 1 ≤ rm0.frames ∧ 8 + (maxL + 11) + rm.locals ≤ rm0.locals) (hn : As.length = n) (hrm : (rest.map fun v => v.category).sum ≤ 8) (hd : decode cc pc = .ok (.invokestatic idx, 3)) {st0 : List Value} (hs : st0 = As.reverse ++ rest) (kk : T E F nL u' r' (pc + 3) lv rest) : T E F nL u r pc lv st0 := by
  refine t_run (y := y) (rm := rm) (ws := ws) (as := []) (oc := none) (rest := rest) C.2.2.2.2.2.2.2.1 C.2.2.2.2.2.2.2.2.1 (fun ls H locs hl hP hS => ?_) kk
  exact va_runS (As := As) (rest := rest) ⟨C.1, C.2.1, C.2.2.1, C.2.2.2.1, C.2.2.2.2.1⟩ (hM H.size) (va_cwS n C.2.2.2.2.1 hG hw h0.1 h0.2 hd0 (by rw [C.2.2.2.2.2.2.2.2.2.2.2.2.1]; exact hR)) ⟨CT_blind, CT_pre C hP hS⟩ rfl hn hl.1 hs (lv_room hrm) hd ⟨by rw [C.2.2.2.2.2.2.2.2.2.2.2.2.1]; exact C.2.2.2.2.2.2.2.2.2.2.2.2.2.1, by rw [C.2.2.2.2.2.2.2.2.2.2.2.2.1]; exact C.2.2.2.2.2.2.2.2.2.2.2.2.2.2⟩
theorem t_cSL (C : Cx E F cc nL own Ts rm0) {y : MethodName} {ws ws' : List Cond} {rm : Room} {As : List Value} {idx maxL : Nat} {bytes : ByteArray} {ret : Option FieldType} {x : Int64} (hM : CT E y ws rm As u r (some (.long x)) u' r') (hG : GoodIn Ts (va_wsS own idx y ws)) (hw : ws = Cond.code y bytes maxL ret :: ws') (h0 : rm.cells = 0 ∧ rm.slots = 0) (n : Nat) (hd0 : y.cls ≠ "java/lang/invoke/MethodHandle" ∧ y.cls ≠ "java/lang/invoke/VarHandle" ∧ (parseMethodDescriptor y.desc).map (fun d => d.parameters.length) = some n) (hR : rm.frames + 1 ≤ rm0.frames ∧ 8 + (maxL + 11) + rm.locals ≤ rm0.locals) (hn : As.length = n) (hrm : (rest.map fun v => v.category).sum ≤ 8) (hd : decode cc pc = .ok (.invokestatic idx, 3)) {st0 : List Value} (hs : st0 = As.reverse ++ rest) (kk : T E F nL u' r' (pc + 3) lv (.long x :: rest)) : T E F nL u r pc lv st0 := by
  refine t_run (y := y) (rm := rm) (ws := ws) (as := []) (oc := (some (.long x))) (rest := rest) C.2.2.2.2.2.2.2.1 C.2.2.2.2.2.2.2.2.1 (fun ls H locs hl hP hS => ?_) kk
  exact va_runS (As := As) (rest := rest) ⟨C.1, C.2.1, C.2.2.1, C.2.2.2.1, C.2.2.2.2.1⟩ (hM H.size) (va_cwS n C.2.2.2.2.1 hG hw h0.1 h0.2 hd0 (by rw [C.2.2.2.2.2.2.2.2.2.2.2.2.1]; exact hR)) ⟨CT_blind, CT_pre C hP hS⟩ rfl hn hl.1 hs (lv_room hrm) hd ⟨by rw [C.2.2.2.2.2.2.2.2.2.2.2.2.1]; exact C.2.2.2.2.2.2.2.2.2.2.2.2.2.1, by rw [C.2.2.2.2.2.2.2.2.2.2.2.2.1]; exact C.2.2.2.2.2.2.2.2.2.2.2.2.2.2⟩
theorem t_cNI (C : Cx E F cc nL own Ts rm0) {y : MethodName} {ws ws' : List Cond} {rm : Room} {As : List Value} {idx maxL : Nat} {bytes : ByteArray} {ret : Option FieldType} {x : Int32} {host : String} (hM : CT E y ws rm As u r (some (.int x)) u' r') (hG : GoodIn Ts ws) (hw : ws = Cond.code y bytes maxL ret :: ws') (h0 : rm.cells = 0 ∧ rm.slots = 0) (n : Nat) (hN : va_Nw (.methodLinkNest own idx y host) (fS F)) (hst : Cond.static y ∈ Ts) (hin : Cond.initialized y.cls ∈ Ts) (hd0 : y.cls ≠ "java/lang/invoke/MethodHandle" ∧ y.cls ≠ "java/lang/invoke/VarHandle" ∧ (parseMethodDescriptor y.desc).map (fun d => d.parameters.length) = some n) (hR : rm.frames + 1 ≤ rm0.frames ∧ 8 + (maxL + 11) + rm.locals ≤ rm0.locals) (hn : As.length = n) (hrm : (rest.map fun v => v.category).sum ≤ 8) (hd : decode cc pc = .ok (.invokestatic idx, 3)) {st0 : List Value} (hs : st0 = As.reverse ++ rest) (kk : T E F nL u' r' (pc + 3) lv (.int x :: rest)) : T E F nL u r pc lv st0 := by
  refine t_run (y := y) (rm := rm) (ws := ws) (as := []) (oc := (some (.int x))) (rest := rest) C.2.2.2.2.2.2.2.1 C.2.2.2.2.2.2.2.2.1 (fun ls H locs hl hP hS => ?_) kk
  exact va_runSN (As := As) (rest := rest) ⟨C.1, C.2.1, C.2.2.1, C.2.2.2.1, C.2.2.2.2.1⟩ (hM H.size) ⟨va_cnB n C.2.2.2.2.1 hG hw h0.1 h0.2 hN (C.2.2.2.2.1 _ hin) hd0 (by rw [C.2.2.2.2.2.2.2.2.2.2.2.2.1]; exact hR), C.2.2.2.2.1 _ hst, trivial⟩ ⟨CT_blind, CT_pre C hP hS⟩ rfl hn hl.1 hs (lv_room hrm) hd ⟨by rw [C.2.2.2.2.2.2.2.2.2.2.2.2.1]; exact C.2.2.2.2.2.2.2.2.2.2.2.2.2.1, by rw [C.2.2.2.2.2.2.2.2.2.2.2.2.1]; exact C.2.2.2.2.2.2.2.2.2.2.2.2.2.2⟩
theorem t_cNV (C : Cx E F cc nL own Ts rm0) {y : MethodName} {ws ws' : List Cond} {rm : Room} {As : List Value} {idx maxL : Nat} {bytes : ByteArray} {ret : Option FieldType}  {host : String} (hM : CT E y ws rm As u r none u' r') (hG : GoodIn Ts ws) (hw : ws = Cond.code y bytes maxL ret :: ws') (h0 : rm.cells = 0 ∧ rm.slots = 0) (n : Nat) (hN : va_Nw (.methodLinkNest own idx y host) (fS F)) (hst : Cond.static y ∈ Ts) (hin : Cond.initialized y.cls ∈ Ts) (hd0 : y.cls ≠ "java/lang/invoke/MethodHandle" ∧ y.cls ≠ "java/lang/invoke/VarHandle" ∧ (parseMethodDescriptor y.desc).map (fun d => d.parameters.length) = some n) (hR : rm.frames + 1 ≤ rm0.frames ∧ 8 + (maxL + 11) + rm.locals ≤ rm0.locals) (hn : As.length = n) (hrm : (rest.map fun v => v.category).sum ≤ 8) (hd : decode cc pc = .ok (.invokestatic idx, 3)) {st0 : List Value} (hs : st0 = As.reverse ++ rest) (kk : T E F nL u' r' (pc + 3) lv rest) : T E F nL u r pc lv st0 := by
  refine t_run (y := y) (rm := rm) (ws := ws) (as := []) (oc := none) (rest := rest) C.2.2.2.2.2.2.2.1 C.2.2.2.2.2.2.2.2.1 (fun ls H locs hl hP hS => ?_) kk
  exact va_runSN (As := As) (rest := rest) ⟨C.1, C.2.1, C.2.2.1, C.2.2.2.1, C.2.2.2.2.1⟩ (hM H.size) ⟨va_cnB n C.2.2.2.2.1 hG hw h0.1 h0.2 hN (C.2.2.2.2.1 _ hin) hd0 (by rw [C.2.2.2.2.2.2.2.2.2.2.2.2.1]; exact hR), C.2.2.2.2.1 _ hst, trivial⟩ ⟨CT_blind, CT_pre C hP hS⟩ rfl hn hl.1 hs (lv_room hrm) hd ⟨by rw [C.2.2.2.2.2.2.2.2.2.2.2.2.1]; exact C.2.2.2.2.2.2.2.2.2.2.2.2.2.1, by rw [C.2.2.2.2.2.2.2.2.2.2.2.2.1]; exact C.2.2.2.2.2.2.2.2.2.2.2.2.2.2⟩
end TT
