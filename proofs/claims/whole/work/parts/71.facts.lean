/-! The words of a throw, from one state to a later one: the tables warmer, the statics' cells as they were. -/
def xkept (w : Cond) : Bool := goodWord w || (match w with | .declares _ => true | .castable _ _ => true | _ => false)
theorem xkept_warm {w : Cond} (hw : xkept w = true) (ho : w.onTables = true) {s U : State} (hW : s.WarmedH U.vm) (h : w.before #[] s = true) : w.before #[] U = true := by
  simp only [xkept, Bool.or_eq_true] at hw
  rcases hw with hw | hw
  · exact word_at hW (good_of_word hw) h
  · cases w with
    | declares x => exact va_Nw.warmD hW h
    | castable C T => exact va_Nw.warmC hW h
    | _ => simp at hw
theorem xW_kept : ∀ w ∈ xW, w ∉ xH → xkept w = true := by decide +kernel
def stk (s : State) (U : State) : Prop := ∀ (a : Nat) (cell : Cell), s.heap[a]? = some cell → cell.vm.isStatics = true → U.heap[a]? = some cell
theorem xZ {C n d : String} {v : Value} {U : State} {A : Nat → Prop} (h : va_Z C n d v A U U.heap) (hv : v.isRef = true) : (Cond.isRef (.static C n d)).before #[] U = true := by
  obtain ⟨cf, kf, fi, f, a, cell, h1, h2, h3, h4, h5, h6, h7, -⟩ := h
  have he : (Term.static C n d).eval #[] U none [] U = some v := by
    simp [Term.eval, State.fieldNamed?, h1, h2, h4, h5, h6, h7]
  simp only [Cond.before, Cond.holds, Cond.value, he]
  cases v <;> simp_all [Value.isRef]
theorem xZ_moved {C n d : String} {v : Value} {s U : State} {A : Nat → Prop} (hW : s.WarmedH U.vm) (hk : stk s U) (h : va_Z C n d v A s s.heap) : va_Z C n d v A U U.heap := by
  obtain ⟨cf, kf, fi, f, a, cell, h1, h2, h3, h4, h5, h6, h7, h8⟩ := va_Z.moved hW.alike h
  exact ⟨cf, kf, fi, f, a, cell, h1, h2, h3, h4, hk a cell h5 h6, h6, h7, h8⟩
theorem xR_moved {C n d : String} {s U : State} (hW : s.WarmedH U.vm) (hk : stk s U) (hl : (Cond.laysStatic C n d).before #[] s = true) (hi : (Cond.initialized C).before #[] s = true) (h : (Cond.isRef (.static C n d)).before #[] s = true) : (Cond.isRef (.static C n d)).before #[] U = true := by
  rcases va_Zqof (A := fun _ => False) hl hi h (fun _ _ z => z) with h9 | ⟨t, h9⟩
  · exact xZ (xZ_moved hW hk h9) rfl
  · exact xZ (xZ_moved hW hk h9) rfl
theorem xL_moved {C n d : String} {s U : State} (hW : s.WarmedH U.vm) (hk : stk s U) (hl : (Cond.laysStatic C n d).before #[] s = true) : (Cond.laysStatic C n d).before #[] U = true := by
  obtain ⟨c, k, i, f, a, cell, h1, h2, h3, h4, h5, h6, h7, h8, h9⟩ := Cond.laysStatic_spec hl
  obtain ⟨k', hi', he⟩ := State.fieldFound?_setVm hW.alike h2
  show (Cond.laysStatic C n d).holds #[] U none U [] = true
  exact Cond.laysStatic_of (by rw [hW.alike.findClass]; exact h1) hi' h3 (by rw [he]; exact h4) (hk a cell h5 h6) h6 h7 h8 (by rw [he]; exact h9)
theorem xW_H : ∀ w ∈ xH, w ∈ xW := by decide +kernel
theorem xW_i : Cond.initialized Bundle.tN ∈ xW := by decide +kernel
theorem XF.moved {s U : State} (hW : s.WarmedH U.vm) (hk : stk s U) (h : XF s) : XF U := by
  refine ⟨fun w hw => ?_, fun q hq => ?_⟩
  · by_cases hh : w ∈ xH
    · have hi := h.1 _ xW_i
      have hb := h.1 w hw
      have g : ∀ w' ∈ xH, w'.before #[] s = true := fun w' h' => h.1 w' (xW_H w' h')
      simp only [xH, List.mem_cons, List.not_mem_nil, or_false] at hh
      rcases hh with rfl | rfl | rfl | rfl
      · exact xR_moved hW hk (g _ (by decide +kernel)) hi hb
      · exact xR_moved hW hk (g _ (by decide +kernel)) hi hb
      · exact xL_moved hW hk hb
      · exact xL_moved hW hk hb
    · exact xkept_warm (xW_kept w hw hh) ((xW_kind w hw).elim id (fun z => absurd z hh)) hW (h.1 w hw)
  · obtain ⟨a, ha⟩ := h.2 q hq
    exact ⟨a, vk_R.warm hW ha⟩
section XL
variable {p : Program} {l : Launch} {e : Env} {R : Room} {s : State} {m : MethodId} {args : Array Value} {below : List Frame} {meth : Method} {c : Code} {locs : List Loc} {cells slots : Nat} {Q : State → Prop} {U : State} {q : Addr} {ce : Cell} {En own : String} {pc : Nat} {ls : Array Slot} {rest : List Value}
theorem hit_of (Z : Stand p l e R s m args below meth c U locs cells slots) (hown : s.vm.findClass own = some m.cls) (hcl : s.vm.findClass En = some ce.cls) {x : ExceptionTableEntry} (hx : covers x pc = true) (h0 : x.catchType ≠ 0) (hlink : (Cond.classLink own x.catchType En).before args s = true) (hcast : (Cond.castable En En).before args s = true) : Hit e.platform s m.cls pc ce.cls x true := by
  have hpl : e.platform.magicAccessors = ({} : Platform).magicAccessors := by rw [Z.admits.platform]
  obtain ⟨c3, c4, hc3, hc4, hasg⟩ := Cond.castable_spec hcast
  obtain ⟨c5, hc5, hcl5⟩ := Cond.classLink_spec hown hlink e.platform hpl
  cases Option.some.inj (hc4.symm.trans hc5)
  cases Option.some.inj (hc3.symm.trans hcl)
  exact ⟨hx, h0, c4, hcl5, hasg⟩
theorem miss_of (Z : Stand p l e R s m args below meth c U locs cells slots) (hown : s.vm.findClass own = some m.cls) (hcl : s.vm.findClass En = some ce.cls) {x : ExceptionTableEntry} {F : String} (hx : covers x pc = true) (h0 : x.catchType ≠ 0) (hlink : (Cond.classLink own x.catchType F).before args s = true) (hn : va_Nc En F s) : Hit e.platform s m.cls pc ce.cls x false := by
  have hpl : e.platform.magicAccessors = ({} : Platform).magicAccessors := by rw [Z.admits.platform]
  obtain ⟨a, b, h1, h2, h3⟩ := hn
  obtain ⟨c5, hc5, hcl5⟩ := Cond.classLink_spec hown hlink e.platform hpl
  cases Option.some.inj (h2.symm.trans hc5)
  cases Option.some.inj (h1.symm.trans hcl)
  exact ⟨hx, h0, b, hcl5, h3⟩
theorem ne_st {cell : Cell} (h : cell.vm = .none) : ∀ k, cell.vm ≠ .statics k := fun k z => by rw [h] at z; cases z
theorem land0 (Z : Stand p l e R s m args below meth c U locs cells slots) (hcell : U.heap[q]? = some ce) (hv : ce.vm = .none) (hcl : s.vm.findClass En = some ce.cls) {x : ExceptionTableEntry} {tl : List ExceptionTableEntry} (ht : c.exceptionTable.toList = x :: tl) (hx : Hit e.platform s m.cls pc ce.cls x true) (kk : W p l e R s m args below meth c U.heap locs cells slots Q (F0 m x.handlerPc ls [.ref q])) : ∃ z, Steps p.tables e below ((U.setTop (F0 m pc ls rest)).pushFrame (.throwing q)) z ∧ Q z := by
  obtain ⟨k0, hk0, -⟩ := Vm.findClass_spec hcl
  obtain ⟨vm', hW', hf⟩ := ft0 (e := e) (s0 := s) (S := (U.setTop (F0 m pc ls rest)).pushFrame (.throwing q)) (f := F0 m pc ls rest) (a := q) Z.method' Z.code Z.warmed hcell (ne_st hv) ⟨k0, hk0⟩ ht hx
  obtain ⟨z, a1, b1⟩ := kk (U.setVm vm') rfl (Z.noted hW')
  exact ⟨z, goTo (g := F0 m pc ls rest) Z.here hf a1, b1⟩
theorem land1 (Z : Stand p l e R s m args below meth c U locs cells slots) (hcell : U.heap[q]? = some ce) (hv : ce.vm = .none) (hcl : s.vm.findClass En = some ce.cls) {y x : ExceptionTableEntry} {tl : List ExceptionTableEntry} (ht : c.exceptionTable.toList = y :: x :: tl) (hy : Hit e.platform s m.cls pc ce.cls y false) (hx : Hit e.platform s m.cls pc ce.cls x true) (kk : W p l e R s m args below meth c U.heap locs cells slots Q (F0 m x.handlerPc ls [.ref q])) : ∃ z, Steps p.tables e below ((U.setTop (F0 m pc ls rest)).pushFrame (.throwing q)) z ∧ Q z := by
  obtain ⟨k0, hk0, -⟩ := Vm.findClass_spec hcl
  obtain ⟨vm', hW', hf⟩ := ft1 (e := e) (s0 := s) (S := (U.setTop (F0 m pc ls rest)).pushFrame (.throwing q)) (f := F0 m pc ls rest) (a := q) Z.method' Z.code Z.warmed hcell (ne_st hv) ⟨k0, hk0⟩ ht hy hx
  obtain ⟨z, a1, b1⟩ := kk (U.setVm vm') rfl (Z.noted hW')
  exact ⟨z, goTo (g := F0 m pc ls rest) Z.here hf a1, b1⟩
end XL
