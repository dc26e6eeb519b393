/-! A caller of a method that may throw, and its handlers (whose classes may be unresolved yet). -/
section CT
variable {Qh : Handler → Pre} {E : CtlPost} {e : Env} {dd : Bool} {acts : List Action} {s : State} {f : JFrame} {a : Addr}
theorem go_on {x : ExceptionTableEntry} {t : List ExceptionTableEntry} {c : ClassId} {cell : Cell} (hx : covers x f.pc = true) (h0 : x.catchType ≠ 0) (hl : s.vm.ClassLinks e.platform f.method.cls x.catchType c) (hcell : s.heap[a]? = some cell) (hobj : ∀ k, cell.vm ≠ .statics k) (hk : ∃ k, s.vm.classes[cell.cls]? = some k) (hc : ∃ k, s.vm.classes[c]? = some k) :
    Sem.wp (findHandler.go f a (x :: t)) Qh E e dd acts s ↔ if s.vm.assignable cell.cls c = true then Qh (.found x.handlerPc) dd acts (s.setVm (s.vm.noted f.method.cls x.catchType (.cls c))) else Sem.wp (findHandler.go f a t) Qh E e dd acts (s.setVm (s.vm.noted f.method.cls x.catchType (.cls c))) := by
  simp only [covers] at hx
  obtain ⟨ha, ht⟩ := (resolveClass_links e.toSetting hl).op (op := VmOp.resolveClass f.method.cls x.catchType) rfl
  have hal : s.vm.Alike (s.vm.noted f.method.cls x.catchType (.cls c)) := (Vm.Alike.refl s.vm).noted _ _ _
  obtain ⟨k1, hk1⟩ := hk
  obtain ⟨k2, hk2⟩ := hc
  obtain ⟨k1', hk1', -⟩ := hal.2.2 _ _ hk1
  obtain ⟨k2', hk2', -⟩ := hal.2.2 _ _ hk2
  have hy : (s.vm.noted f.method.cls x.catchType (.cls c)).assignable cell.cls c = s.vm.assignable cell.cls c := hal.assignable _ _
  cases hfit : s.vm.assignable cell.cls c <;> rw [hfit] at hy <;> simp [findHandler.go, hx, h0, ha, ht, hcell, hobj, hk1', hk2', hy, VmOp.dirties, VmOp.acts]
end CT
/-- the search ends at pc, with the tables vm' -/
def FT (e : Env) (s : State) (f : JFrame) (a : Addr) (pc : Nat) (vm' : Vm) : Prop := ∀ (Qh : Handler → Pre) (E : CtlPost) (d : Bool) (acts : List Action), Sem.wp (findHandler f a) Qh E e d acts s ↔ Qh (.found pc) d acts (s.setVm vm')
/-- an entry whose class takes the object, one whose class doesn't -/
def Hit (pl : Platform) (s : State) (d : ClassId) (pc : Nat) (cls : ClassId) (x : ExceptionTableEntry) (b : Bool) : Prop := covers x pc = true ∧ x.catchType ≠ 0 ∧ ∃ c, s.vm.ClassLinks pl d x.catchType c ∧ s.vm.assignable cls c = b
theorem ft0 {e : Env} {s0 S : State} {f : JFrame} {a : Addr} {meth : Method} {code : Code} {cell : Cell} (hm : S.vm.method? f.method = some meth) (hc : meth.code = some code) (hW : s0.WarmedH S.vm) (hcell : S.heap[a]? = some cell) (hobj : ∀ k, cell.vm ≠ .statics k) (hk0 : ∃ k, s0.vm.classes[cell.cls]? = some k) {x : ExceptionTableEntry} {rest : List ExceptionTableEntry} (ht : code.exceptionTable.toList = x :: rest) (hx : Hit e.platform s0 f.method.cls f.pc cell.cls x true) : ∃ vm', s0.WarmedH vm' ∧ FT e S f a x.handlerPc vm' := by
  obtain ⟨h1, h2, c, hl, hy⟩ := hx
  obtain ⟨k0, hk0⟩ := hk0
  obtain ⟨k0', hk0', -⟩ := hW.alike.2.2 _ _ hk0
  obtain ⟨dk, _, _, kt, hd, _, _, _, _, hkt, _, hopen⟩ := hl.here
  obtain ⟨kt', hkt', -⟩ := hW.alike.2.2 _ _ hkt
  refine ⟨_, hW.noted hd hopen (State.rightAt_cls hl), fun Qh E d acts => ?_⟩
  rw [W.findHandler_eq hm hc, ht, go_on h1 h2 (hW.classLinks hl) hcell hobj ⟨k0', hk0'⟩ ⟨kt', hkt'⟩, if_pos (by rw [hW.alike.assignable]; exact hy)]
theorem ft1 {e : Env} {s0 S : State} {f : JFrame} {a : Addr} {meth : Method} {code : Code} {cell : Cell} (hm : S.vm.method? f.method = some meth) (hc : meth.code = some code) (hW : s0.WarmedH S.vm) (hcell : S.heap[a]? = some cell) (hobj : ∀ k, cell.vm ≠ .statics k) (hk0 : ∃ k, s0.vm.classes[cell.cls]? = some k) {y x : ExceptionTableEntry} {rest : List ExceptionTableEntry} (ht : code.exceptionTable.toList = y :: x :: rest) (hy : Hit e.platform s0 f.method.cls f.pc cell.cls y false) (hx : Hit e.platform s0 f.method.cls f.pc cell.cls x true) : ∃ vm', s0.WarmedH vm' ∧ FT e S f a x.handlerPc vm' := by
  obtain ⟨h1, h2, c, hl, hn⟩ := hy
  obtain ⟨h3, h4, c2, hl2, hn2⟩ := hx
  obtain ⟨k0, hk0⟩ := hk0
  obtain ⟨k0', hk0', -⟩ := hW.alike.2.2 _ _ hk0
  obtain ⟨dk, _, _, kt, hd, _, _, _, _, hkt, _, hopen⟩ := hl.here
  obtain ⟨kt', hkt', -⟩ := hW.alike.2.2 _ _ hkt
  obtain ⟨dk2, _, _, kt2, hd2, _, _, _, _, hkt2, _, hopen2⟩ := hl2.here
  have hW1 : s0.WarmedH (S.vm.noted f.method.cls y.catchType (.cls c)) := hW.noted hd hopen (State.rightAt_cls hl)
  obtain ⟨k0'', hk0'', -⟩ := hW1.alike.2.2 _ _ hk0
  obtain ⟨kt2', hkt2', -⟩ := hW1.alike.2.2 _ _ hkt2
  refine ⟨_, hW1.noted hd2 hopen2 (State.rightAt_cls hl2), fun Qh E d acts => ?_⟩
  rw [W.findHandler_eq hm hc, ht, go_on h1 h2 (hW.classLinks hl) hcell hobj ⟨k0', hk0'⟩ ⟨kt', hkt'⟩, if_neg (by rw [hW.alike.assignable, hn]; decide)]
  rw [go_on (s := S.setVm (S.vm.noted f.method.cls y.catchType (.cls c))) h3 h4 (hW1.classLinks hl2) hcell hobj ⟨k0'', hk0''⟩ ⟨kt2', hkt2'⟩, if_pos (by show (S.vm.noted f.method.cls y.catchType (.cls c)).assignable _ _ = true; rw [hW1.alike.assignable]; exact hn2)]
  rfl
theorem stepTo {e : Env} {s : State} {a : Addr} {f : JFrame} {r : List Frame} {pc : Nat} {vm' : Vm} (hf : FT e s f a pc vm') : (stepThrowing e s a (.java f :: r)).Is ((s.setVm vm').setFrames (.java { f with pc := pc, stack := [.ref a] } :: r)) [] := by
  simp only [stepThrowing, searchFrame, vmDo]
  generalize hr : Sem.go _ e false [] s = res
  obtain ⟨as, rfl, ha⟩ := Sem.eq_ok_of hr (a := Handler.found pc) (s' := s.setVm vm') (acts' := []) (by simp [hf _ _ _ _])
  exact ⟨rfl, ha⟩
theorem goTo {tb : Tables} {e : Env} {s target : State} {g : JFrame} {c : Code} {below : List Frame} {a : Addr} {pc : Nat} {vm' : Vm} (h : At s g.method c below) (hf : FT e ((s.setTop g).pushFrame (.throwing a)) g a pc vm') (hrest : Steps tb e below ((s.setVm vm').setTop { g with pc := pc, stack := [.ref a] }) target) : Steps tb e below ((s.setTop g).pushFrame (.throwing a)) target := by
  obtain ⟨hgo, hw⟩ := h.throwing a
  refine Steps.head hgo hw ?_
  rw [stepThread_throwing (frames_entered h.top _), (stepTo (s := (s.setTop g).pushFrame (.throwing a)) hf).1]
  obtain ⟨g₀, hg⟩ := Option.isSome_iff_exists.mp h.top
  obtain ⟨r, hr⟩ := State.topJava?_eq_some.mp hg
  have hr' : (s.setVm vm').frames = .java g₀ :: r := hr
  rw [State.setTop_of_frames _ hr'] at hrest
  rw [State.pushFrame, State.setTop_of_frames _ hr, State.setFrames_setFrames, hr]
  have e9 : ∀ F G : List Frame, ((s.setFrames F).setVm vm').setFrames G = (s.setVm vm').setFrames G := fun F G => by
    show ((s.setVm vm').setFrames F).setFrames G = _
    rw [State.setFrames_setFrames]
  rw [e9]
  exact hrest
theorem same_old {st U : State} {k n : Nat} (h : st.sameButNew U [] k n) : st.heap.size ≤ U.heap.size ∧ ∀ q : Nat, q < st.heap.size → U.heap[q]? = st.heap[q]? := by
  obtain ⟨-, h2, -, -, -, h6⟩ := h
  refine ⟨h2, fun q hq => ?_⟩
  obtain ⟨c9, e1, e2, -, e4⟩ := h6 q _ (Array.getElem?_eq_getElem hq)
  have hs : c9.slots = (st.heap[q]).slots := Array.ext_getElem? fun i => e4 i List.not_mem_nil
  rw [hs] at e2
  rw [e1, Array.getElem?_eq_getElem hq]
  exact congrArg some e2
section CX
variable {p : Program} {l : Launch} {e : Env} {R : Room} {s : State} {m : MethodId} {args : Array Value} {below : List Frame} {meth : Method} {c : Code} {H : Heap} {locs : List Loc} {cells slots : Nat} {Q : State → Prop}
variable {cc : ByteArray} {pc nL : Nat} {ls : Array Slot} {rest st0 : List Value} {D : va_G} {cl : List vw_C} {A : Nat → Prop} {tys : List (ClassId × FieldType)} {NW : List (String × Nat × MethodName × String)} {H0 : Heap} {X : va_W} {ad : N3 → Nat} {T : List N3} {cf : Cf} {S : St} {G : List Cond} {own : String}
variable {y : MethodName} {b : ByteArray} {n np index fr lo : Nat} {ret : FieldType} {As : List Value}
/-- a call of a method that may throw: it comes back, or the throw stands over this frame -/
theorem x_call {res : Nat × Int32 × St} (hF : CallFix p m c cc nL s args G own) (hK : zK D cl tys NW s) (hW : Wd D cl A H0 (zw X ad T cf S) H locs) (hA : ∀ q, H0.size ≤ q → A q) (hX : ∀ U : State, U.heap = H → s.WarmedH U.vm → XF U) {t : N3} (hM : cX l G D cl tys NW X ad T cf y b n ret fr lo (.ref (ad t) :: As) S res) (cd : cdV G y b n (some ret) np) (hlink : Cond.methodLink own index y ∈ G) (ht : t ∈ T) {T1 : u_T} {N ci : Nat} {fs : List Value} (he : zs cf S t = .inr (ci, fs)) (hc : cl[ci]? = some (y.cls, T1, N))
    (hR : fr + 1 ≤ R.frames ∧ 8 + (n + 11) + lo ≤ R.locals) (hcs : cells + 1 ≤ R.cells ∧ slots + 6 ≤ R.slots) (hst : st0 = As.reverse ++ .ref (ad t) :: rest) (hnp : As.length = np) (hsz : ls.size = nL) (hroom : (rest.map fun v => v.category).sum ≤ 8) (hdg : decode cc pc = .ok (.invokevirtual index, 3))
    (kn : res.1 = 0 → ∀ (H1 : Heap) (locs1 : List Loc), Wd D cl A H0 (zw X ad T cf res.2.2) H1 locs1 → W p l e R s m args below meth c H1 locs1 cells slots Q (F0 m (pc + 3) ls (.int res.2.1 :: rest)))
    (kx : 0 < res.1 → ∀ (U : State) (q : Addr) (ce : Cell), Stand p l e R s m args below meth c U locs (cells + 1) (slots + 6) → U.heap[q]? = some ce → ce.vm = .none → s.vm.findClass (exn res.1) = some ce.cls → Wd D cl A H0 (zw X ad T cf S) U.heap locs → ∃ z, Steps p.tables e below ((U.setTop (F0 m pc ls rest)).pushFrame (.throwing q)) z ∧ Q z) : W p l e R s m args below meth c H locs cells slots Q (F0 m pc ls st0) := by
  intro T0 hT Z
  subst hT
  obtain ⟨k9, hk9⟩ := zw_get (X := X) (ad := ad) (cf := cf) (S := S) ht
  rw [he] at hk9
  obtain ⟨cellB, hcB, hoB, hclB⟩ := va_recv hK.1 hW.1 hc hk9
  obtain ⟨hcode, hinst, hsel, hini, hd, hgood⟩ := cd
  have hw : ∀ w ∈ G, ∀ (a' : Array Value) (U : State), s.WarmedH U.vm → w.before a' U = true := fun w hw a' U hU => word_at hU (good_of_word (hgood w hw)) (hF.2.2.2.2 w hw)
  obtain ⟨mk, methM, hnamed, hmethM, hstM, habM⟩ := Cond.instanceMethod_spec (hF.2.2.2.2 _ hinst)
  obtain ⟨methM', cM, hmethM', -, -, -, -, -, -, hsigM⟩ := Cond.code_spec hnamed (hF.2.2.2.2 _ hcode)
  cases hmethM.symm.trans hmethM'
  obtain ⟨c2, r2, m2, q1, q2, q3, q4, kP, hkP, hkPi⟩ := Cond.selects_spec (hF.2.2.2.2 _ hsel)
  cases hclB.symm.trans q1
  cases (State.methodFound?_of_named hnamed ⟨hd.1, hd.2.1⟩).symm.trans q2
  cases hnamed.symm.trans q3
  have hselP : selectMethod e.platform s.vm cellB.cls mk = .method mk := by rw [Launch.admits_selectMethod Z.admits]; exact q4
  have hlen : As.length = methM.sig.parameters.length := by
    have h2 := hd.2.2
    rw [hsigM] at h2
    exact hnp.trans (Option.some.inj h2).symm
  obtain ⟨vm₁, X₁, hstep₁⟩ := Z.invokevirtual hF.1 hF.2.2.2.1 (hF.2.2.2.2 _ hlink) hnamed hmethM hstM hkP hkPi ⟨hd.1, hd.2.1⟩ (a := ad t) (cell := cellB) hcB (fun z h => by rw [h] at hoB; cases hoB) hselP hmethM habM hkP hkPi (g := F0 m pc ls st0) rfl (argsL := As) (rest := rest) hlen hst (by rw [hF.2.1]; exact hdg)
  have hn := X₁.named hnamed
  obtain ⟨methY, cY, hmY, hcY, -, hlY, -, -, -, -⟩ := Cond.code_spec hn (hw _ hcode #[] _ X₁.warmed)
  obtain ⟨kY, hkY, -⟩ := className_of_methodNamed hn
  have hinitY := Cond.initialized_spec (findClass_of_methodNamed hn) hkY (hw _ hini #[] _ X₁.warmed)
  have hpreW : ∀ a : Array Value, (headSpec (Cond.code y b n (some ret) :: G) { frames := fr, cells := 1, slots := 6, locals := lo }).pre.before a (T0.setVm vm₁) = true := fun a => atoms_intro (fun w hw' => (List.mem_cons.mp hw').elim (fun e9 => by rw [e9]; exact hw _ hcode _ _ X₁.warmed) (fun h => hw w h _ _ X₁.warmed))
  have happ : (headSpec (Cond.code y b n (some ret) :: G) { frames := fr, cells := 1, slots := 6, locals := lo }).appliesLoose y e.platform ((T0.setVm vm₁).calling (F0 m pc ls rest) mk (Value.ref (ad t) :: As).toArray) = true :=
    Spec.appliesLoose_calling (g := F0 m pc ls rest) X₁.here (by rw [hF.2.1]; exact hdg) hn hkY hinitY (X₁.room_calling (g := F0 m pc ls rest) (R' := { frames := fr, cells := 1, slots := 6, locals := lo }) (hsz.trans hF.2.2.1.symm) hmY hcY hR.1 (by rw [hlY]; show 2 * 0 + (rest.map fun v => v.category).sum + (n + 11) + lo ≤ R.locals; omega) hcs.1 hcs.2) (hpreW _)
  obtain ⟨mid, hmid⟩ := X₁.here.above
  have hfr : ((T0.setVm vm₁).setTop (F0 m pc ls rest)).frames = (.java (F0 m pc ls rest) :: mid) ++ below := by rw [State.frames_setTop' _ X₁.here.top, hmid]; rfl
  obtain ⟨o, s₂, hsteps, -, hend, hq⟩ := Steps.callFree (hM T0.heap.size) p Z.admits Z.cas Z.clock (acts := []) hfr happ (xPre.blind _ (T0.setVm vm₁) _ _ ⟨zPre.at hW.1 hW.2.1 hK _ rfl X₁.warmed, hX _ rfl X₁.warmed⟩) trivial
  rw [State.frames_setTop' _ X₁.here.top, X₁.tail] at hend
  have hf := hW.free hA
  rcases hq with ⟨h0, hQ, L, hFE, hL⟩ | ⟨h0, q, ce, rfl, hce, hcv, hcl, hWm, hsame⟩
  · obtain ⟨⟨v, rfl⟩, hW₂, hsame⟩ := hFE
    obtain ⟨T', X', -, -, rfl⟩ := X₁.outOf (g := F0 m pc ls rest) rfl (by rw [hF.2.1]; exact hdg) hend hW₂ hsame
    obtain ⟨⟨r, u, hv, ⟨hr1, hr2⟩, hz⟩, hFr⟩ := hQ
    cases hv
    subst hr1
    subst hr2
    obtain ⟨hF1, hF2⟩ := hFr
    have hF1 : T0.heap.size ≤ T'.heap.size := hF1
    have hF2 : ∀ q : Nat, q < T0.heap.size → ¬ va_A (zw X ad T cf S) T0.heap.size q → T'.heap[q]? = T0.heap[q]? := hF2
    have hWd : Wd D cl A H0 (zw X ad T cf res.2.2) T'.heap (locs ++ L) := ⟨hz.1, hz.2.weaken (fun _ _ _ z => hf _ z), Nat.le_trans hW.2.2.1 hF1, fun q h1 h2 => (hF2 q (Nat.lt_of_lt_of_le h1 hW.2.2.1) (fun z => h2 (hf q z))).trans (hW.2.2.2.1 q h1 h2), fun q hq => (List.mem_append.mp hq).elim (hW.2.2.2.2 q) (fun h => hf _ (hL q h))⟩
    obtain ⟨z, a1, b1⟩ := kn h0 T'.heap (locs ++ L) hWd T' rfl X'
    exact ⟨z, hstep₁ _ fun acts => by rw [doInvoke_state]; exact hsteps.trans a1, b1⟩
  · obtain ⟨T', X', -, -, rfl⟩ := X₁.outOfThrown (g := F0 m pc ls rest) rfl hend hWm hsame
    rw [List.append_nil] at X'
    obtain ⟨o1, o2⟩ := same_old hsame
    have o1 : T0.heap.size ≤ T'.heap.size := o1
    have o2' : ∀ q : Nat, q < T0.heap.size → T'.heap[q]? = T0.heap[q]? := o2
    have hcl' : s.vm.findClass (exn res.1) = some ce.cls := by
      have h9 : (T0.setVm vm₁).vm.findClass (exn res.1) = some ce.cls := hcl
      rw [X₁.warmed.alike.findClass] at h9
      exact h9
    have hWd : Wd D cl A H0 (zw X ad T cf S) T'.heap locs := ⟨hW.1.kept (fun k q hk => o2' q.1 ((hW.1 k q hk).lt)), hW.2.1, Nat.le_trans hW.2.2.1 o1, fun q h1 h2 => (o2' q (Nat.lt_of_lt_of_le h1 hW.2.2.1)).trans (hW.2.2.2.1 q h1 h2), hW.2.2.2.2⟩
    obtain ⟨z, a1, b1⟩ := kx h0 T' q ce X' hce hcv hcl' hWd
    exact ⟨z, hstep₁ _ fun acts => by rw [doInvoke_state]; exact hsteps.trans a1, b1⟩
end CX
