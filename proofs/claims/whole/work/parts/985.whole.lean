/-! THE WALK -/
abbrev fs7 : List Value := [.null, .null, .null, .int 0, .null, .null, .int 0, .null, .null, .null, .int 0, .null, .null, .int 0, .int 0]
/-- what is given at the entry, of the frame's fixed things -/
def G0 (F : FX) : Prop := (∀ q : Nat, fB F q ↔ (fS F).heap.size ≤ q) ∧ (∀ w ∈ lw_tbl, w.before (fG F) (fS F) = true) ∧ (Jvm.Cond.and given_1 narrow_1).before (fG F) (fS F) = true ∧ fN F ≤ room_1.cells ∧ fL F ≤ room_1.slots ∧ (fP F).tables.exec = Jvm.exec ∧ (fC F).code = cL_law ∧ (fC F).maxLocals = 4 ∧ (fS F).vm.findClass RL = some (fM F).cls ∧ fR F = room_1
theorem G0_A {F : FX} (h : G0 F) : ∀ a : Nat, a < (fS F).heap.size → ¬ fB F a := fun a h1 z => Nat.not_le.mpr h1 ((h.1 a).mp z)
theorem G0_C {F : FX} (h : G0 F) {D : va_G} {cI : ClassId} (hK : va_K D vwCl [(cI, .int)] (fS F)) : GxC D [(cI, .int)] F cL_law 4 RL wsL_law room_1 := ⟨h.2.2.2.2.2.1, h.2.2.2.2.2.2.1, h.2.2.2.2.2.2.2.1, h.2.2.2.2.2.2.2.2.1, fun w hw => h.2.1 w (wsL_law_in w hw), hK, fun q z => (h.1 q).mpr z, h.2.2.2.2.2.2.2.2.2, start_O h.2.1⟩
theorem G0_Cx {F : FX} (h : G0 F) {l : Launch} {cI cO : ClassId} {D : va_G} {A : Nat → Nat → Nat} {mm : Nat → Nat} {t : Nat} {adK adV : Nat → Nat} (hK2 : va_K D vwCl [(cI, .int), (cO, .object "BadgeDoors$House")] (fS F)) (hD : va_D (fB F) (cW6 cI cO A ++ cW7 cI mm)) (hXS : XS (ES l cI cO D A mm t adK adV) (fB F) (fS F)) : CxL (ES l cI cO D A mm t adK adV) F := by
  have hBs := start_B l cI cO D t adK adV hD
  have hN := start_N h.2.1
  refine ⟨h.2.2.2.2.2.1, h.2.2.2.2.2.2.1, h.2.2.2.2.2.2.2.1, h.2.2.2.2.2.2.2.2.1, fun w hw => h.2.1 w (wsL_law_in w hw), hK2, start_AD l cI cO D t adK adV hD, hBs, fun q z => (h.1 q).mpr z, fun U H1 locs1 hS1 hU hW => ⟨XN_warm hW hN, XS_kept hXS (fun _ _ _ _ y => y.warm hW) hW.alike (fun q h1 h2 => by rw [hU]; exact hS1.2.1 q h1 h2) (fun q y => ?_)⟩, hN, hXS, h.2.2.2.2.2.2.2.2.2, h.2.2.2.1, h.2.2.2.2.1⟩
  rcases y with ⟨w, hw, rfl⟩ | y
  · exact hBs w hw
  · exact (h.1 q).mpr (Nat.le_trans (by have := hS1.1; rw [← hU] at this; exact this) y)
theorem walk_18 {F : FX} (h : G0 F) {l : Launch} {cI cO : ClassId} {D : va_G} {A : Nat → Nat → Nat} {mm : Nat → Nat} {b L cs sl : Nat} {xs : Nat → Int32} (hK2 : va_K D vwCl [(cI, .int), (cO, .object "BadgeDoors$House")] (fS F)) (hLX : LX F b L xs) (hcs : cs ≤ fN F) (hsl : sl ≤ fL F) (fin : ∀ (E : EN) (u : U3) (r : R1) (lv : List (Nat × Value)), eL E = l → T E F 4 u r 837 lv [.int 1]) : TG l D F 4 (cW6 cI cO A ++ cW7 cI mm) cs sl 18 [(0, .ref b), (1, .ref (A 5 0)), (2, .ref (mm 0)), (3, .int (nI (5 * 0)))] [] := by
  intro ls H locs hl1 hP hD hS
  obtain ⟨t, adK, adV, hXS⟩ := start_S h.2.1 h.2.2.1 (A := fB F) (G0_A h)
  have hXS2 : XS (ES l cI cO D A mm t adK adV) (fB F) (fS F) := hXS
  have CL := G0_Cx h hK2 hD hXS2
  have K := law_loop CL hLX (fun u r lv => fin _ u r lv rfl) 514 0 u00 r00 rfl IV_0 ls H locs hl1 (start_P l cI cO D t adK adV hP) hS
  exact W.widen hcs hsl K
set_option maxHeartbeats 4000000 in
set_option maxRecDepth 100000 in
theorem walk_0 {F : FX} {l : Launch} {cI : ClassId} {D : va_G} {b : Nat} (C : GxC D [(cI, .int)] F cL_law 4 RL wsL_law room_1) (k : ∀ (cO : ClassId) (A : Nat → Nat → Nat) (mm : Nat → Nat), va_K D vwCl [(cI, .int), (cO, .object "BadgeDoors$House")] (fS F) → TG l D F 4 (cW6 cI cO A ++ cW7 cI mm) 163 9014 18 [(0, .ref b), (1, .ref (A 5 0)), (2, .ref (mm 0)), (3, .int (nI (5 * 0)))] []) : TG l D F 4 [] 0 0 0 [(0, .ref b)] [] := by
  refine tg_new (ci := 6) (fs := fs6) (Cn := RX6) (T := TX6) (N := 8) C inlX6 tyX6 tyX6_ok (List.mem_of_getElem? (i := 0) (by decide +kernel)) (List.mem_of_getElem? (i := 1) (by decide +kernel)) (List.mem_of_getElem? (i := 2) (by decide +kernel)) rfl (fun j hj => by rcases (by omega : j = 0 ∨ j = 1 ∨ j = 2 ∨ j = 3 ∨ j = 4 ∨ j = 5 ∨ j = 6 ∨ j = 7) with rfl | rfl | rfl | rfl | rfl | rfl | rfl | rfl <;> rfl) (Nat.le_of_ble_eq_true rfl) (Nat.le_of_ble_eq_true rfl) dL_law_0 (fun q => ?_)
  refine tg_dup C dL_law_3 rfl ?_
  refine tg_init6 C (cg_X6 l D cI) gL_law_X6_init (List.mem_of_getElem? (i := 2) (by decide +kernel)) (List.mem_of_getElem? (i := 6) (by decide +kernel)) (List.mem_of_getElem? (i := 7) (by decide +kernel)) ⟨Nat.le_of_ble_eq_true rfl, Nat.le_of_ble_eq_true rfl⟩ ⟨Nat.le_of_ble_eq_true rfl, Nat.le_of_ble_eq_true rfl⟩ (Nat.le_of_ble_eq_true rfl) dL_law_4 (fun z hz hK2 => ?_)
  subst hz
  refine tg_to (ws1 := cW6 cI z.2 z.1) (cs1 := 152) (sl1 := 3983) (List.nil_append _) rfl rfl rfl ?_
  refine tg_astore_n (lv' := [(0, .ref b), (1, .ref (z.1 5 0))]) C dL_law_7 rfl (by decide) [1, 0] rfl ?_
  refine tg_new (ci := 7) (fs := fs7) (Cn := RX7) (T := TX7) (N := 15) C inlX7 tyX7 tyX7_ok (List.mem_of_getElem? (i := 3) (by decide +kernel)) (List.mem_of_getElem? (i := 4) (by decide +kernel)) (List.mem_of_getElem? (i := 5) (by decide +kernel)) rfl (fun j hj => by rcases (by omega : j = 0 ∨ j = 1 ∨ j = 2 ∨ j = 3 ∨ j = 4 ∨ j = 5 ∨ j = 6 ∨ j = 7 ∨ j = 8 ∨ j = 9 ∨ j = 10 ∨ j = 11 ∨ j = 12 ∨ j = 13 ∨ j = 14) with rfl | rfl | rfl | rfl | rfl | rfl | rfl | rfl | rfl | rfl | rfl | rfl | rfl | rfl | rfl <;> rfl) (Nat.le_of_ble_eq_true rfl) (Nat.le_of_ble_eq_true rfl) dL_law_8 (fun q => ?_)
  refine tg_dup C dL_law_11 rfl ?_
  refine tg_init C (cg_X7 l D cI) gL_law_X7_init rfl ⟨rfl, rfl⟩ (List.mem_of_getElem? (i := 5) (by decide +kernel)) (List.mem_of_getElem? (i := 90) (by decide +kernel)) (List.mem_of_getElem? (i := 91) (by decide +kernel)) rfl (by decide +kernel) ⟨Nat.le_of_ble_eq_true rfl, Nat.le_of_ble_eq_true rfl⟩ ⟨Nat.le_of_ble_eq_true rfl, Nat.le_of_ble_eq_true rfl⟩ (Nat.le_of_ble_eq_true rfl) dL_law_12 (fun mm hm => ?_)
  subst hm
  refine tg_to (ws1 := cW6 cI z.2 z.1 ++ cW7 cI mm) (cs1 := 163) (sl1 := 9014) rfl rfl rfl rfl ?_
  refine tg_astore_n (lv' := [(0, .ref b), (1, .ref (z.1 5 0)), (2, .ref (mm 0))]) C dL_law_15 rfl (by decide) [1, 2, 0] rfl ?_
  refine tg_iconst (v := nI (5 * 0)) C dL_law_16 rfl ?_
  refine tg_istore_n (lv' := [(0, .ref b), (1, .ref (z.1 5 0)), (2, .ref (mm 0)), (3, .int (nI (5 * 0)))]) C dL_law_17 rfl (by decide) [1, 2, 3, 0] rfl ?_
  exact k z.2 z.1 mm hK2
theorem walk_all (F : FX) (h : G0 F) (l : Launch) {b L : Nat} {xs : Nat → Int32} (hLX : LX F b L xs) (hcs : 163 ≤ fN F) (hsl : 9014 ≤ fL F) (fin : ∀ (E : EN) (u : U3) (r : R1) (lv : List (Nat × Value)), eL E = l → T E F 4 u r 837 lv [.int 1]) : ∃ D, TG l D F 4 [] 0 0 0 [(0, .ref b)] [] := by
  obtain ⟨D, cI, hK⟩ := start_K h.2.1
  exact ⟨D, walk_0 (G0_C h hK) (fun cO A mm hK2 => walk_18 h hK2 hLX hcs hsl fin)⟩
theorem whole_start {p : Program} {e : Env} {s : State} {m : MethodId} {below : List Frame} {meth : Method} {c : Code} (l : Launch) (hflags : l.flags = flags0) {b L : Nat} {xs : Nat → Int32} (hL : L ≤ 2560) (C0 : lw_At p s m meth c b L xs) : W p l e room_1 s m #[Value.ref b] below meth c s.heap [] 0 0 (lw_Z below #[Value.ref b] s) (entryFrame m ([Value.ref b] : List Value).toArray 4) := by
  obtain ⟨hx, hb, hr, hml, hown, hts, hX, hbl, hlocks, hgv⟩ := C0
  have hl := lv_entry [Value.ref b] (n := 4) (Nat.le_of_ble_eq_true rfl)
  rw [lg_entry_eq]
  obtain ⟨D, K⟩ := walk_all (p, e, room_1, s, m, #[Value.ref b], below, meth, c, lw_Z below #[Value.ref b] s, 600000, 7302250, fun q => s.heap.size ≤ q) ⟨fun q => Iff.rfl, hts, hgv, Nat.le_refl _, Nat.le_refl _, hx, hb, hml, hown, rfl⟩ l (b := b) (L := L) (xs := xs) ⟨hX, hbl, fun z => Nat.not_le.mpr hbl z, hL⟩ (Nat.le_of_ble_eq_true rfl) (Nat.le_of_ble_eq_true rfl) (fun E u r lv hE ls1 H1 locs1 _ _ hS1 => by
    subst hE
    exact va_forget (fun q hq => hS1.2.2 q hq) (lw_ret hx hb hr hlocks dL_law_837))
  exact K _ s.heap [] hl (fun k q hk => (by cases hk)) ⟨fun i j x y hi => (by cases hi), fun k q hk => (by cases hk)⟩ va_S.rf
