/-! CONSTRUCTORS: worlds that grow -/
def TG (l : Launch) (D : va_G) (F : FX) (nL : Nat) (ws : va_W) (cs sl : Nat) (pc : Nat) (lv : List (Nat × Value)) (st : List Value) : Prop := ∀ (ls : Array Slot) (H : Heap) (locs : List Loc), lv_has ls nL lv → va_P D vwCl ws H → va_D (fB F) ws → va_S (fB F) (fS F).heap H locs → W (fP F) l (fE F) (fR F) (fS F) (fM F) (fG F) (fW F) (fH F) (fC F) H locs cs sl (fQ F) (F0 (fM F) pc ls st)
def GxC (D : va_G) (tys : List (ClassId × FieldType)) (F : FX) (cc : ByteArray) (nL : Nat) (own : String) (Ts : List Cond) (rm : Room) : Prop := (fP F).tables.exec = Jvm.exec ∧ (fC F).code = cc ∧ (fC F).maxLocals = nL ∧ (fS F).vm.findClass own = some (fM F).cls ∧ (∀ w ∈ Ts, w.before (fG F) (fS F) = true) ∧ va_K D vwCl tys (fS F) ∧ (∀ q : Nat, (fS F).heap.size ≤ q → fB F q) ∧ fR F = rm ∧ va_AO "BadgeDoors$House" (fS F)
/-- a constructor: from one new object its cells, new but for the object's own -/
def CG (l : Launch) (D : va_G) (tys : List (ClassId × FieldType)) (y : MethodName) (ws : List Cond) (rm : Room) (ci : Nat) (fs : List Value) (mc ms : Nat) (Wn : (Nat → Nat) → va_W) : Prop := ∀ h0 sz : Nat, Met l y ws rm (va_Pc [.ref h0] (fun U => U.heap.size = sz ∧ va_P D vwCl [(h0, .inr (ci, fs))] U.heap ∧ va_K D vwCl tys U ∧ va_AO "BadgeDoors$House" U)) (va_Qv (fun a : Nat → Nat => a 0 = h0) (fun a t => va_P D vwCl (Wn a) t.heap ∧ va_K D vwCl tys t ∧ va_D (va_A [(h0, .inr (ci, fs))] sz) (Wn a)) (va_A [(h0, .inr (ci, fs))] sz)) mc ms (va_A [(h0, .inr (ci, fs))] sz)
theorem va_D_one {A : Nat → Prop} {a : Nat} {e : va_E} (h : A a) : va_D A [(a, e)] := by
  refine ⟨fun i j p q hi hj _ => ?_, fun k q hk => ?_⟩
  · have h1 := (List.getElem?_eq_some_iff.mp hi).1
    have h2 := (List.getElem?_eq_some_iff.mp hj).1
    simp at h1 h2
    omega
  · have h1 := (List.getElem?_eq_some_iff.mp hk).1
    simp at h1
    subst h1
    cases hk
    exact h
theorem CG_of {l : Launch} {D : va_G} {tys : List (ClassId × FieldType)} {y : MethodName} {ws ws' : List Cond} {rm : Room} {ci : Nat} {fs : List Value} {mc ms : Nat} {Wn : (Nat → Nat) → va_W} {cc : ByteArray} {nL : Nat} {own : String} (hy : plainName y.cls = true) (hown0 : y.cls = own) (hyn : y.name = "<init>") (hw : ws = Cond.code y cc nL none :: ws') (hlen : (lg_sl [Value.ref 0]).length ≤ nL)
    (body : ∀ (h0 : Nat) (F : FX), GxC D tys F cc nL own ws rm → (fH F).name = "<init>" → (∀ (a : Nat → Nat) (ls : Array Slot) (H : Heap) (locs : List Loc) (pc : Nat), a 0 = h0 → decode cc pc = .ok (.return_, 1) → va_P D vwCl (Wn a) H → va_D (fB F) (Wn a) → va_S (fB F) (fS F).heap H locs → W (fP F) l (fE F) (fR F) (fS F) (fM F) (fG F) (fW F) (fH F) (fC F) H locs mc ms (fQ F) (F0 (fM F) pc ls [])) → TG l D F nL [(h0, .inr (ci, fs))] 0 0 0 [(0, .ref h0)] []) : CG l D tys y ws rm ci fs mc ms Wn := by
  intro h0 sz
  refine Met.ofW (cc := cc) (maxL := nL) (ret := none) hy hw ?_
  intro p e s m args below meth c s₁ B hml hv
  obtain ⟨rfl, hsz, hP, hK, hAO⟩ := hv
  subst hsz
  have hts := atoms_spec (ws := ws) B.pre
  have hown : s.vm.findClass own = some m.cls := by rw [← hown0]; exact findClass_of_methodNamed B.named
  have hnm : meth.name = "<init>" := by rw [← hyn]; exact (name_of_methodNamed B.named B.method).1
  have hl := lv_entry [Value.ref h0] (n := nL) hlen
  rw [lg_entry_eq]
  refine body h0 (p, e, (headSpec ws rm).room, s, m, [Value.ref h0].toArray, below, meth, c, MQ below (va_Qv (fun a : Nat → Nat => a 0 = h0) (fun a t => va_P D vwCl (Wn a) t.heap ∧ va_K D vwCl tys t ∧ va_D (va_A [(h0, .inr (ci, fs))] s.heap.size) (Wn a)) (va_A [(h0, .inr (ci, fs))] s.heap.size)) [Value.ref h0].toArray s mc ms (va_A [(h0, .inr (ci, fs))] s.heap.size), 0, 0, va_A [(h0, .inr (ci, fs))] s.heap.size) ⟨B.exec, B.bytes, hml, hown, hts, hK, fun q h => Or.inr h, rfl, hAO⟩ hnm ?_ _ s.heap [] hl hP (va_D_one (Or.inl ⟨0, _, rfl⟩)) va_S.rf
  intro a ls H locs pc ha hd hP1 hD1 hS1
  have hS : va_S (va_A [(h0, .inr (ci, fs))] s.heap.size) s.heap H locs := hS1
  show W p l e (headSpec ws rm).room s m [Value.ref h0].toArray below meth c H locs mc ms (MQ below (va_Qv (fun a : Nat → Nat => a 0 = h0) (fun a t => va_P D vwCl (Wn a) t.heap ∧ va_K D vwCl tys t ∧ va_D (va_A [(h0, .inr (ci, fs))] s.heap.size) (Wn a)) (va_A [(h0, .inr (ci, fs))] s.heap.size)) [Value.ref h0].toArray s mc ms (va_A [(h0, .inr (ci, fs))] s.heap.size)) (F0 m pc ls [])
  exact W.vret B.exec B.bytes B.returns (fun t ht hW => ⟨⟨a, rfl, ha, by rw [ht]; exact hP1, va_K.moved hW.alike hK, hD1⟩, hS.F ht⟩) hS.2.2 hd B.notSynchronized
section TGS
variable {l : Launch} {D : va_G} {tys : List (ClassId × FieldType)} {F : FX} {cc : ByteArray} {nL : Nat} {own : String} {Ts : List Cond} {rm0 : Room} {ws : va_W} {cs sl pc : Nat} {lv : List (Nat × Value)} {st rest : List Value}
theorem tg_to {ws1 : va_W} {cs1 sl1 : Nat} {st1 : List Value} (h1 : ws = ws1) (h2 : cs = cs1) (h3 : sl = sl1) (h4 : st = st1) (k : TG l D F nL ws1 cs1 sl1 pc lv st1) : TG l D F nL ws cs sl pc lv st := by
  subst h1; subst h2; subst h3; subst h4
  exact k
theorem tg_aload_n (C : GxC D tys F cc nL own Ts rm0) {k : Fin 4} {i : Nat} {x : Nat} (hd : decode cc pc = .ok (.aload_n k, 1)) (hi : (k : Nat) = i) (p : Nat) (hp : lv[p]? = some (i, .ref x)) (k : TG l D F nL ws cs sl (pc + 1) lv (.ref x :: st)) : TG l D F nL ws cs sl pc lv st := fun ls H locs hl hP hD hS => lv_aload_n C.1 C.2.1 hd hi (lv_at hl p hp) (k ls H locs hl hP hD hS)
theorem tg_iload_n (C : GxC D tys F cc nL own Ts rm0) {k : Fin 4} {i : Nat} {x : Int32} (hd : decode cc pc = .ok (.iload_n k, 1)) (hi : (k : Nat) = i) (p : Nat) (hp : lv[p]? = some (i, .int x)) (k : TG l D F nL ws cs sl (pc + 1) lv (.int x :: st)) : TG l D F nL ws cs sl pc lv st := fun ls H locs hl hP hD hS => lv_iload_n C.1 C.2.1 hd hi (lv_at hl p hp) (k ls H locs hl hP hD hS)
theorem tg_istore_n (C : GxC D tys F cc nL own Ts rm0) {k : Fin 4} {i : Nat} {x : Int32} {lv' : List (Nat × Value)} (hd : decode cc pc = .ok (.istore_n k, 1)) (hi : (k : Nat) = i) (hn : i < nL) (ks : List Nat) (hl0 : lv_pick ((i, Value.int x) :: lv.filter (fun q => !(q.1 == i) && !(q.1 + 1 == i && q.2.category == 2))) ks = lv') (k : TG l D F nL ws cs sl (pc + 1) lv' st) : TG l D F nL ws cs sl pc lv (.int x :: st) := fun ls H locs hl hP hD hS => lv_istore_n C.1 C.2.1 hd hi hl hn rfl (fun ls' hl' => k ls' H locs (lv_sub hl' ks hl0) hP hD hS)
theorem tg_astore_n (C : GxC D tys F cc nL own Ts rm0) {k : Fin 4} {i : Nat} {x : Nat} {lv' : List (Nat × Value)} (hd : decode cc pc = .ok (.astore_n k, 1)) (hi : (k : Nat) = i) (hn : i < nL) (ks : List Nat) (hl0 : lv_pick ((i, Value.ref x) :: lv.filter (fun q => !(q.1 == i) && !(q.1 + 1 == i && q.2.category == 2))) ks = lv') (k : TG l D F nL ws cs sl (pc + 1) lv' st) : TG l D F nL ws cs sl pc lv (.ref x :: st) := fun ls H locs hl hP hD hS => lv_astore_n C.1 C.2.1 hd hi hl hn rfl (fun ls' hl' => k ls' H locs (lv_sub hl' ks hl0) hP hD hS)
theorem tg_iinc (C : GxC D tys F cc nL own Ts rm0) {i : Nat} {d : Int} {x v : Int32} {lv' : List (Nat × Value)} {p : Nat} (hd : decode cc pc = .ok (.iinc i d, 3)) (hp : lv[p]? = some (i, .int x)) (hv : x + Int32.ofInt d = v) (hn : i < nL) (ks : List Nat) (hl0 : lv_pick ((i, Value.int v) :: lv.filter (fun q => !(q.1 == i) && !(q.1 + 1 == i && q.2.category == 2))) ks = lv') (k : TG l D F nL ws cs sl (pc + 3) lv' st) : TG l D F nL ws cs sl pc lv st := fun ls H locs hl hP hD hS => lv_iinc C.1 C.2.1 hd hl hp hv hn rfl (fun ls' hl' => k ls' H locs (lv_sub hl' ks hl0) hP hD hS)
theorem tg_iconst (C : GxC D tys F cc nL own Ts rm0) {n : Int} {v : Int32} (hd : decode cc pc = .ok (.iconst n, 1)) (hv : Int32.ofInt n = v) (k : TG l D F nL ws cs sl (pc + 1) lv (.int v :: st)) : TG l D F nL ws cs sl pc lv st := fun ls H locs hl hP hD hS => lv_iconst C.1 C.2.1 hd hv (k ls H locs hl hP hD hS)
theorem tg_bipush (C : GxC D tys F cc nL own Ts rm0) {n : Int} {v : Int32} (hd : decode cc pc = .ok (.bipush n, 2)) (hv : (Int8.ofInt n).toInt32 = v) (k : TG l D F nL ws cs sl (pc + 2) lv (.int v :: st)) : TG l D F nL ws cs sl pc lv st := fun ls H locs hl hP hD hS => lv_bipush C.1 C.2.1 hd hv (k ls H locs hl hP hD hS)
theorem tg_sipush (C : GxC D tys F cc nL own Ts rm0) {n : Int} {v : Int32} (hd : decode cc pc = .ok (.sipush n, 3)) (hv : (Int16.ofInt n).toInt32 = v) (k : TG l D F nL ws cs sl (pc + 3) lv (.int v :: st)) : TG l D F nL ws cs sl pc lv st := fun ls H locs hl hP hD hS => lv_sipush C.1 C.2.1 hd hv (k ls H locs hl hP hD hS)
theorem tg_dup (C : GxC D tys F cc nL own Ts rm0) {v : Value} (hd : decode cc pc = .ok (.dup, 1)) (hc : v.category = 1) (k : TG l D F nL ws cs sl (pc + 1) lv (v :: v :: st)) : TG l D F nL ws cs sl pc lv (v :: st) := fun ls H locs hl hP hD hS => lv_dup C.1 C.2.1 hd hc (k ls H locs hl hP hD hS)
theorem tg_goto (C : GxC D tys F cc nL own Ts rm0) {off : Int} {tgt : Nat} (hd : decode cc pc = .ok (.goto off, 3)) (ht : (pc : Int) + off = (tgt : Int)) (k : TG l D F nL ws cs sl tgt lv st) : TG l D F nL ws cs sl pc lv st := fun ls H locs hl hP hD hS => lv_goto C.1 C.2.1 hd ht (k ls H locs hl hP hD hS)
theorem tg_icmp_ge (C : GxC D tys F cc nL own Ts rm0) {x y : Int32} {off : Int} {tgt : Nat} (hd : decode cc pc = .ok (.if_icmp .ge off, 3)) (ht : (pc : Int) + off = (tgt : Int)) (kt : y ≤ x → TG l D F nL ws cs sl tgt lv st) (kf : ¬ y ≤ x → TG l D F nL ws cs sl (pc + 3) lv st) : TG l D F nL ws cs sl pc lv (.int y :: .int x :: st) := fun ls H locs hl hP hD hS => lv_icmp_ge C.1 C.2.1 hd ht (fun z => kt z ls H locs hl hP hD hS) (fun z => kf z ls H locs hl hP hD hS)
theorem tg_obj (C : GxC D tys F cc nL own Ts rm0) {idx x : Nat} (h1 : Cond.methodLink own idx objectInit ∈ Ts) (h2 : Cond.instanceMethod objectInit ∈ Ts) (h3 : Cond.code objectInit ⟨#[0xb1]⟩ 1 none ∈ Ts) (hf : 1 ≤ rm0.frames) (hl0 : 2 * 0 + (st.map fun v => v.category).sum + 12 ≤ rm0.locals) (hd : decode cc pc = .ok (.invokespecial idx, 3)) (k : TG l D F nL ws cs sl (pc + 3) lv st) : TG l D F nL ws cs sl pc lv (.ref x :: st) := by
  intro ls H locs hl hP hD hS
  exact W.objInit C.1 C.2.1 C.2.2.2.1 (C.2.2.2.2.1 _ h1) (C.2.2.2.2.1 _ h2) (C.2.2.2.2.1 _ h3) rfl (by rw [C.2.2.1]; exact hl.1) rfl hd (by rw [C.2.2.2.2.2.2.2.1]; exact hf) (by rw [C.2.2.2.2.2.2.2.1]; exact hl0) (k ls H locs hl hP hD hS)
theorem cI_uniq {cA cI : ClassId} {s : State} {ty : FieldType} (hty : ty = .int) (h1 : va_RA s cA ty) (h2 : va_RA s cI ty) : cA = cI := by
  subst hty
  have e1 : s.vm.findClass ("[" ++ (FieldType.int).toString) = some cA := h1
  have e2 : s.vm.findClass ("[" ++ (FieldType.int).toString) = some cI := h2
  rw [e1] at e2
  exact Option.some.inj e2
theorem tg_newa (C : GxC D tys F cc nL own Ts rm0) {cI : ClassId} {N : Nat} (t0 : Nat) (ht : tys[t0]? = some (cI, .int)) (h1 : Cond.arrayClass .int ∈ Ts) (hN : N < 2 ^ 31) (hb : N * componentBytes .int ≤ 536870912) (hc : cs + 1 ≤ rm0.cells) (hs : sl + N ≤ rm0.slots) (hd : decode cc pc = .ok (.newarray .int, 2)) (k : ∀ q : Nat, TG l D F nL (ws ++ [(q, .inl (cI, N, .inl (fun _ => 0)))]) (cs + 1) (sl + N) (pc + 2) lv (.ref q :: st)) : TG l D F nL ws cs sl pc lv (.int (nI N) :: st) := by
  intro ls H locs hl hP hD hS
  refine va_newa (atype := .int) (ty := .int) (A := fB F) C.1 C.2.1 (C.2.2.2.2.1 _ h1) rfl C.2.2.2.2.2.1 hP hD hS C.2.2.2.2.2.2.1 (a0 := (N, .inl (fun _ => 0))) (fun _ => rfl) (nI_pos hN) (ix_nI hN) hb (by rw [C.2.2.2.2.2.2.2.1]; exact hc) (by rw [C.2.2.2.2.2.2.2.1]; exact hs) hd (fun q cA H1 hK1 hP1 hD1 hS1 => ?_)
  have e : cA = cI := cI_uniq (s := fS F) (ty := .int) rfl (hK1.2 tys.length (cA, .int) (by simp)).2 (C.2.2.2.2.2.1.2 t0 (cI, .int) ht).2
  subst e
  exact k q ls H1 locs hl hP1 hD1 hS1
theorem tg_new (C : GxC D tys F cc nL own Ts rm0) {Cn : String} {T : u_T} {N ci idx : Nat} {fs : List Value} (hin : ∀ w ∈ u_ws Cn T N, w ∈ Ts) (ty : Nat → FieldType) (hty : ∀ k, k < N → parseFieldDescriptor (T k).2.2.1 = some (ty k)) (h1 : Cond.classLink own idx Cn ∈ Ts) (h2 : Cond.instantiable Cn N ∈ Ts) (h3 : Cond.initialized Cn ∈ Ts) (hc : vwCl[ci]? = some (Cn, T, N)) (hfs : ∀ j, j < N → defaultValue (ty j) = vp_V fs j) (hcs : cs + 1 ≤ rm0.cells) (hsl : sl + N ≤ rm0.slots) (hd : decode cc pc = .ok (.new idx, 3)) (k : ∀ q : Nat, TG l D F nL (ws ++ [(q, .inr (ci, fs))]) (cs + 1) (sl + N) (pc + 3) lv (.ref q :: st)) : TG l D F nL ws cs sl pc lv st := by
  intro ls H locs hl hP hD hS
  exact va_new (A := fB F) C.1 C.2.1 C.2.2.2.2.1 hin ty hty C.2.2.2.1 (C.2.2.2.2.1 _ h1) (C.2.2.2.2.1 _ h2) (C.2.2.2.2.1 _ h3) C.2.2.2.2.2.1 hP hD hS C.2.2.2.2.2.2.1 hc hfs (by rw [C.2.2.2.2.2.2.2.1]; exact hcs) (by rw [C.2.2.2.2.2.2.2.1]; exact hsl) hd (fun q H1 hP1 hD1 hS1 => k q ls H1 locs hl hP1 hD1 hS1)
theorem tg_putF (C : GxC D tys F cc nL own Ts rm0) {Cn : String} {T : u_T} {N ci idx a x : Nat} {fs : List Value} (q0 : Nat) (he : ws[q0]? = some (a, .inr (ci, fs))) (hc : vwCl[ci]? = some (Cn, T, N)) (hin : ∀ w ∈ u_ws Cn T N, w ∈ Ts) (ty0 : Nat → FieldType) (hty : ∀ k, k < N → parseFieldDescriptor (T k).2.2.1 = some (ty0 k)) (hnm : ∀ a, a < N → ∀ b, b < N → a ≠ b → (T a).2.1 ≠ (T b).2.1) (n : Nat) (hn : n < N) (hl0 : Cond.fieldLink own idx (T n).1 (T n).2.1 (T n).2.2.1 ∈ Ts) (hfin : (T n).2.2.2 = true) (hname : (fH F).name = "<init>") (hdecl : (T n).1 = own) {ty : FieldType} (hd9 : parseFieldDescriptor (T n).2.2.1 = some ty) (hnar : narrow ty (.ref x) = .ref x) (hfit : fits ty (.ref x) = true) (hlen : n < fs.length) (hd : decode cc pc = .ok (.putfield idx, 3)) (k : TG l D F nL (ws.set q0 (a, .inr (ci, fs.set n (.ref x)))) cs sl (pc + 3) lv st) : TG l D F nL ws cs sl pc lv (.ref x :: .ref a :: st) := by
  intro ls H locs hl hP hD hS
  exact va_putF (A := fB F) C.1 C.2.1 C.2.2.2.2.1 hin ty0 hty hnm C.2.2.2.1 C.2.2.2.2.2.1 hP hD hS q0 he hc n hn (C.2.2.2.2.1 _ hl0) (fun _ h9 => h9) hfin hname hdecl hd9 hnar hfit hlen hd (fun H1 locs1 hP1 hD1 hS1 => k ls H1 locs1 hl hP1 hD1 hS1)
theorem tg_put (C : GxC D tys F cc nL own Ts rm0) {Cn : String} {T : u_T} {N ci idx a x : Nat} {fs : List Value} (q0 : Nat) (he : ws[q0]? = some (a, .inr (ci, fs))) (hc : vwCl[ci]? = some (Cn, T, N)) (hin : ∀ w ∈ u_ws Cn T N, w ∈ Ts) (ty0 : Nat → FieldType) (hty : ∀ k, k < N → parseFieldDescriptor (T k).2.2.1 = some (ty0 k)) (hnm : ∀ a, a < N → ∀ b, b < N → a ≠ b → (T a).2.1 ≠ (T b).2.1) (n : Nat) (hn : n < N) (hl0 : Cond.fieldLink own idx (T n).1 (T n).2.1 (T n).2.2.1 ∈ Ts) (hfin : (T n).2.2.2 = false) {ty : FieldType} (hd9 : parseFieldDescriptor (T n).2.2.1 = some ty) (hnar : narrow ty (.ref x) = .ref x) (hfit : fits ty (.ref x) = true) (hlen : n < fs.length) (hd : decode cc pc = .ok (.putfield idx, 3)) (k : TG l D F nL (ws.set q0 (a, .inr (ci, fs.set n (.ref x)))) cs sl (pc + 3) lv st) : TG l D F nL ws cs sl pc lv (.ref x :: .ref a :: st) := by
  intro ls H locs hl hP hD hS
  exact va_put (A := fB F) C.1 C.2.1 C.2.2.2.2.1 hin ty0 hty hnm C.2.2.2.1 C.2.2.2.2.2.1 hP hD hS q0 he hc n hn (C.2.2.2.2.1 _ hl0) (fun _ h9 => h9) hfin hd9 hnar hfit hlen hd (fun H1 locs1 hP1 hD1 hS1 => k ls H1 locs1 hl hP1 hD1 hS1)
theorem tg_get (C : GxC D tys F cc nL own Ts rm0) {Cn : String} {T : u_T} {N ci idx a : Nat} {fs : List Value} {v : Value} (q0 : Nat) (he : ws[q0]? = some (a, .inr (ci, fs))) (hc : vwCl[ci]? = some (Cn, T, N)) (hin : ∀ w ∈ u_ws Cn T N, w ∈ Ts) (n : Nat) (hn : n < N) (hl0 : Cond.fieldLink own idx (T n).1 (T n).2.1 (T n).2.2.1 ∈ Ts) (hv : fs[n]? = some v) (hd : decode cc pc = .ok (.getfield idx, 3)) (k : TG l D F nL ws cs sl (pc + 3) lv (v :: st)) : TG l D F nL ws cs sl pc lv (.ref a :: st) := by
  intro ls H locs hl hP hD hS
  exact va_get C.1 C.2.1 C.2.2.2.2.1 hin C.2.2.2.1 C.2.2.2.2.2.1 hP q0 he hc n hn (C.2.2.2.2.1 _ hl0) (fun _ h9 => h9) hv hd (k ls H locs hl hP hD hS)
theorem tg_newq (C : GxC D tys F cc nL own Ts rm0) {N idx : Nat} (h1 : Cond.classLink own idx "BadgeDoors$House" ∈ Ts) (hN : N < 2 ^ 31) (hb : N * 4 ≤ 536870912) (hc : cs + 1 ≤ rm0.cells) (hs : sl + N ≤ rm0.slots) (hd : decode cc pc = .ok (.anewarray idx, 3)) (k : ∀ (q : Nat) (cO : ClassId), va_K D vwCl (tys ++ [(cO, .object "BadgeDoors$House")]) (fS F) → TG l D F nL (ws ++ [(q, .inl (cO, N, .inr (.inr (.inr (.inr (fun _ => none))))))]) (cs + 1) (sl + N) (pc + 3) lv (.ref q :: st)) : TG l D F nL ws cs sl pc lv (.int (nI N) :: st) := by
  intro ls H locs hl hP hD hS
  exact va_newq (A := fB F) C.1 C.2.1 C.2.2.2.1 (C.2.2.2.2.1 _ h1) C.2.2.2.2.2.2.2.2 C.2.2.2.2.2.1 hP hD hS C.2.2.2.2.2.2.1 (nI_pos hN) (ix_nI hN) hb (by rw [C.2.2.2.2.2.2.2.1]; exact hc) (by rw [C.2.2.2.2.2.2.2.1]; exact hs) hd (fun q cO H1 hK1 hP1 hD1 hS1 => k q cO hK1 ls H1 locs hl hP1 hD1 hS1)
theorem tg_astq (C : GxC D tys F cc nL own Ts rm0) (q0 t0 qk : Nat) {cA : ClassId} {a n v j ci : Nat} {r : vw_C} {vs : List Value} {f : Nat → Option Nat} (ha : ws[q0]? = some (a, .inl (cA, n, .inr (.inr (.inr (.inr f)))))) (ht : tys[t0]? = some (cA, .object r.1)) (hv : ws[qk]? = some (v, .inr (ci, vs))) (hc : vwCl[ci]? = some r) (hj : j < n) (hn : n < 2 ^ 31) (hd : decode cc pc = .ok (.aastore, 1)) (k : TG l D F nL (ws.set q0 (a, .inl (cA, n, .inr (.inr (.inr (.inr (va_up f j (some v)))))))) cs sl (pc + 1) lv st) : TG l D F nL ws cs sl pc lv (.ref v :: .int (nI j) :: .ref a :: st) := by
  intro ls H locs hl hP hD hS
  refine va_astq (A := fB F) C.1 C.2.1 C.2.2.2.2.2.1 hP hD hS q0 t0 qk ci ha ht hv hc (vp_in_nI hj hn) hd (fun H1 locs1 hP1 hD1 hS1 => ?_)
  rw [nI_clamp (by omega)] at hP1 hD1
  exact k ls H1 locs1 hl hP1 hD1 hS1
theorem join9 {A0 : Nat → Prop} {x : Nat × va_E} {w1 : va_W} {H H1 : Heap} (hP : va_P D vwCl (ws ++ [x]) H) (hD : va_D A0 (ws ++ [x])) (hk : ∀ q : Nat, q < H.size → ¬ va_A [x] H.size q → H1[q]? = H[q]?) (hF : ∀ q, va_A [x] H.size q → A0 q) (hP1 : va_P D vwCl w1 H1) (hD1 : va_D (va_A [x] H.size) w1) : va_P D vwCl (ws ++ w1) H1 ∧ va_D A0 (ws ++ w1) := by
  have up : ∀ (k : Nat) (q : Nat × va_E), ws[k]? = some q → (ws ++ [x])[k]? = some q := fun k q hq => by
    rw [List.getElem?_append_left (List.getElem?_eq_some_iff.mp hq).1]; exact hq
  have lx : (ws ++ [x])[ws.length]? = some x := by simp
  have apart : ∀ (k : Nat) (q : Nat × va_E), ws[k]? = some q → q.1 < H.size ∧ ¬ va_A [x] H.size q.1 := by
    intro k q hq
    have hl := (hP k q (up k q hq)).lt
    refine ⟨hl, fun h => ?_⟩
    rcases h with ⟨k2, e, h⟩ | h
    · have h1 := (List.getElem?_eq_some_iff.mp h).1
      simp at h1
      subst h1
      have hx : x = (q.1, e) := by simpa using h
      have hij := hD.1 k ws.length q (q.1, e) (up k q hq) (by rw [lx, hx]) rfl
      have := (List.getElem?_eq_some_iff.mp hq).1
      omega
    · omega
  have hDw : va_D A0 ws := ⟨fun i j p q hi hj e => hD.1 i j p q (up i p hi) (up j q hj) e, fun k q hq => hD.2 k q (up k q hq)⟩
  refine ⟨va_P.app (fun k q hq => ?_) hP1, va_D.app hDw (hD1.weaken (fun k q _ h => hF q.1 h)) (fun i j p q hi hj e => ?_)⟩
  · obtain ⟨g1, g2⟩ := apart k q hq
    exact (hP k q (up k q hq)).kept (hk q.1 g1 g2)
  · exact (apart i p hi).2 (by rw [e]; exact hD1.2 j q hj)
theorem tg_init (C : GxC D tys F cc nL own Ts rm0) {q ci : Nat} {fs : List Value} {y : MethodName} {wy wy' : List Cond} {rm : Room} {mc ms : Nat} {Wn : (Nat → Nat) → va_W} {idx maxL : Nat} {bytes : ByteArray} (hM : CG l D tys y wy rm ci fs mc ms Wn) (hG : GoodIn Ts wy) (hw : wy = Cond.code y bytes maxL none :: wy') (h0 : rm.cells = mc ∧ rm.slots = ms) (hini : Cond.initialized y.cls ∈ Ts) (hlk : Cond.methodLink own idx y ∈ Ts) (hin : Cond.instanceMethod y ∈ Ts) (hy1 : y.name = "<init>") (hd0 : y.cls ≠ "java/lang/invoke/MethodHandle" ∧ y.cls ≠ "java/lang/invoke/VarHandle" ∧ (parseMethodDescriptor y.desc).map (fun d => d.parameters.length) = some 0) (hR : rm.frames + 1 ≤ rm0.frames ∧ 8 + (maxL + 11) + rm.locals ≤ rm0.locals) (hf : cs + mc ≤ rm0.cells ∧ sl + ms ≤ rm0.slots) (hrm : (rest.map fun v => v.category).sum ≤ 8) (hd : decode cc pc = .ok (.invokespecial idx, 3)) (k : ∀ a : Nat → Nat, a 0 = q → TG l D F nL (ws ++ Wn a) (cs + mc) (sl + ms) (pc + 3) lv rest) : TG l D F nL (ws ++ [(q, .inr (ci, fs))]) cs sl pc lv (.ref q :: rest) := by
  intro ls H locs hl hP hD hS
  have hPc : va_P D vwCl [(q, .inr (ci, fs))] H := hP.sub [ws.length] (by simp)
  have hFc : ∀ x, va_A [(q, .inr (ci, fs))] H.size x → fB F x := va_free hD hS C.2.2.2.2.2.2.1 [ws.length] (by simp)
  refine va_callv (A1 := va_A [(q, .inr (ci, fs))] H.size) (va_runI (As := []) (rest := rest) ⟨C.1, C.2.1, C.2.2.1, C.2.2.2.1, C.2.2.2.2.1⟩ (hM q H.size) (cwI 0 C.2.2.2.2.1 hG hw h0.1 h0.2 (C.2.2.2.2.1 _ hini) (C.2.2.2.2.1 _ hlk) (C.2.2.2.2.1 _ hin) hy1 hd0 (by rw [C.2.2.2.2.2.2.2.1]; exact hR)) ⟨fun a U g mk z => ?_, fun U hU hW => ⟨rfl, by rw [hU], by rw [hU]; exact hPc, va_K.moved hW.alike C.2.2.2.2.2.1, va_AO.moved hW.alike C.2.2.2.2.2.2.2.2⟩⟩ rfl rfl hl.1 rfl (lv_room hrm) hd (by rw [C.2.2.2.2.2.2.2.1]; exact hf)) hS (fun x _ h => hFc x h) hFc (fun a t H1 locs1 ht hvm hw1 hB hz1 hk1 hS1 => ?_)
  · obtain ⟨z0, z1, zP, zK, zA⟩ := z
    exact ⟨z0, z1, zP, va_K.moved (u := U) (U := U.calling g mk a) (Vm.Alike.refl U.vm) zK, va_AO.moved (u := U) (U := U.calling g mk a) (Vm.Alike.refl U.vm) zA⟩
  · obtain ⟨hP1, hK1, hD1⟩ := hB
    rw [ht] at hP1
    obtain ⟨hP2, hD2⟩ := join9 hP hD hk1 hFc hP1 hD1
    exact k a hw1 ls H1 locs1 hl hP2 hD2 hS1
end TGS
