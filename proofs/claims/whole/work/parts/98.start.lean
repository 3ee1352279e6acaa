/-! FROM THE ENTRY TO THE LOOP -/
abbrev fs6 : List Value := [.null, .null, .int 0, .null, .null, .int 0, .int 0, .int 0]
section TG6
variable {l : Launch} {D : va_G} {F : FX} {cc : ByteArray} {nL : Nat} {own : String} {Ts : List Cond} {rm0 : Room} {ws : va_W} {cs sl pc : Nat} {lv : List (Nat × Value)} {st rest : List Value}
theorem tg_init6 {cI : ClassId} (C : GxC D [(cI, .int)] F cc nL own Ts rm0) {q idx : Nat} (hM : CG6 l D cI) (hG : GoodIn Ts wsX6_init) (hini : Cond.initialized RX6 ∈ Ts) (hlk : Cond.methodLink own idx yX6_init ∈ Ts) (hin : Cond.instanceMethod yX6_init ∈ Ts) (hR : 4 ≤ rm0.frames ∧ 8 + (2 + 11) + 52 ≤ rm0.locals) (hf : cs + 151 ≤ rm0.cells ∧ sl + 3975 ≤ rm0.slots) (hrm : (rest.map fun v => v.category).sum ≤ 8) (hd : decode cc pc = .ok (.invokespecial idx, 3)) (k : ∀ z : S6, z.1 5 0 = q → va_K D vwCl [(cI, .int), (z.2, .object "BadgeDoors$House")] (fS F) → TG l D F nL (ws ++ cW6 cI z.2 z.1) (cs + 151) (sl + 3975) (pc + 3) lv rest) : TG l D F nL (ws ++ [(q, .inr (6, fs6))]) cs sl pc lv (.ref q :: rest) := by
  intro ls H locs hl hP hD hS
  have hPc : va_P D vwCl [(q, .inr (6, fs6))] H := hP.sub [ws.length] (by simp)
  have hFc : ∀ x, va_A [(q, .inr (6, fs6))] H.size x → fB F x := va_free hD hS C.2.2.2.2.2.2.1 [ws.length] (by simp)
  refine va_callv (A1 := va_A [(q, .inr (6, fs6))] H.size) (va_runI (As := []) (rest := rest) ⟨C.1, C.2.1, C.2.2.1, C.2.2.2.1, C.2.2.2.2.1⟩ (hM q H.size) (cwI 0 C.2.2.2.2.1 hG rfl rfl rfl (C.2.2.2.2.1 _ hini) (C.2.2.2.2.1 _ hlk) (C.2.2.2.2.1 _ hin) rfl (by decide +kernel) (by rw [C.2.2.2.2.2.2.2.1]; exact hR)) ⟨fun a U g mk z => ?_, fun U hU hW => ⟨rfl, by rw [hU], by rw [hU]; exact hPc, va_K.moved hW.alike C.2.2.2.2.2.1, va_AO.moved hW.alike C.2.2.2.2.2.2.2.2⟩⟩ rfl rfl hl.1 rfl (lv_room hrm) hd (by rw [C.2.2.2.2.2.2.2.1]; exact hf)) hS (fun x _ h => hFc x h) hFc (fun z t H1 locs1 ht hvm hw1 hB hz1 hk1 hS1 => ?_)
  · obtain ⟨z0, z1, zP, zK, zA⟩ := z
    exact ⟨z0, z1, zP, va_K.moved (u := U) (U := U.calling g mk a) (Vm.Alike.refl U.vm) zK, va_AO.moved (u := U) (U := U.calling g mk a) (Vm.Alike.refl U.vm) zA⟩
  · obtain ⟨hP1, hK1, hD1⟩ := hB
    rw [ht] at hP1
    obtain ⟨hP2, hD2⟩ := join9 hP hD hk1 hFc hP1 hD1
    exact k z hw1 (va_K.moved hvm.symm hK1) ls H1 locs1 hl hP2 hD2 hS1
end TG6
