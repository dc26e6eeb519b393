/-! Methods that may throw, before they have written anything. -/
def xIA : String := "java/lang/IllegalArgumentException"
def xIS : String := "java/lang/IllegalStateException"
def exn (k : Nat) : String := if k = 1 then xIA else xIS
def xnm : List String := ["java/lang/RuntimeException", "java/lang/Exception"]
/-- the words that a throw needs: the library's -/
def xW : List Cond := Bundle.ownAtoms "QuorumChain" 50 xIA xnm ++ Bundle.ownAtoms "QuorumChain" 63 xIS xnm
def xH : List Cond := [.isRef (.static Bundle.tN "UNASSIGNED_STACK" Bundle.steD), .isRef (.static Bundle.tN "SUPPRESSED_SENTINEL" Bundle.listD), .laysStatic Bundle.tN "UNASSIGNED_STACK" Bundle.steD, .laysStatic Bundle.tN "SUPPRESSED_SENTINEL" Bundle.listD]
def xStr : List (Nat × String) := [(48, "no such account"), (53, "amount or nonce out of range"), (61, "no room for a transaction"), (74, "no such node or transaction"), (80, "the node is down"), (91, "node 0 can not begin"), (97, "no such node"), (106, "no message"), (150, "no such node or way to disturb"), (152, "no message, or no room for its copy"), (159, "no such node or long of a signature"), (164, "no signed message"), (171, "no such node, block or transaction"), (177, "not a view of the lying node"), (198, "the lying node is down, has no key or not the parent"), (207, "not a parent for that view, or no room for a block"), (220, "no such node or block"), (222, "the lying node can not vote"), (233, "the node is up")]
def XF (U : State) : Prop := (∀ w ∈ xW, w.before #[] U = true) ∧ ∀ q ∈ xStr, ∃ a, vk_R "QuorumChain" q.1 q.2 a U
theorem xW_kind : ∀ w ∈ xW, w.onTables = true ∨ w ∈ xH := by decide +kernel
theorem xH_any {w : Cond} (h : w ∈ xH) {B : Array Value} {U : State} (hb : w.before #[] U = true) : w.before B U = true := by
  simp only [xH, List.mem_cons, List.not_mem_nil, or_false] at h
  rcases h with rfl | rfl | rfl | rfl <;> exact hb
theorem xH_call {w : Cond} (h : w ∈ xH) {U : State} {g : JFrame} {mk : MethodId} {a : Array Value} (hb : w.before #[] U = true) : w.before #[] (U.calling g mk a) = true := by
  simp only [xH, List.mem_cons, List.not_mem_nil, or_false] at h
  rcases h with rfl | rfl | rfl | rfl <;> exact hb
theorem XF.any {U : State} (h : XF U) {B : Array Value} : ∀ w ∈ xW, w.before B U = true := fun w hw => (xW_kind w hw).elim (fun ho => va_tabs ho rfl (h.1 w hw)) (fun hh => xH_any hh (h.1 w hw))
theorem XF.calling {U : State} {g : JFrame} {mk : MethodId} {a : Array Value} (h : XF U) : XF (U.calling g mk a) := ⟨fun w hw => (xW_kind w hw).elim (fun ho => va_tabs ho (show U.vm = (U.calling g mk a).vm from rfl) (h.1 w hw)) (fun hh => xH_call hh (h.1 w hw)), fun q hq => by
  obtain ⟨b, hb⟩ := h.2 q hq
  exact ⟨b, vk_R.same (u := U) rfl hb⟩⟩
/-- a throw: nothing old is written, one cell is made -/
def thr (st : State) (E : String) (o : Outcome) (t : State) : Prop := ∃ (q : Addr) (ce : Cell), o = .threw q ∧ t.heap[q]? = some ce ∧ ce.vm = .none ∧ st.vm.findClass E = some ce.cls ∧ st.WarmedH t.vm ∧ st.sameButNew ({ t with vm := st.vm } : State) [] 1 6
def xEnd (Qn : Array Value → State → Outcome → State → Prop) (free : Addr → Prop) (k : Nat) : Array Value → State → Outcome → State → Prop := fun a st o t =>
  (k = 0 ∧ Qn a st o t ∧ ∃ L, FrameEnd st o t L 0 0 ∧ ∀ q ∈ L, free q.base) ∨ (0 < k ∧ thr st (exn k) o t)
def MetX (l : Launch) (y : MethodName) (ws : List Cond) (rm : Room) (Pc : Array Value → State → Prop) (Qn : Array Value → State → Outcome → State → Prop) (free : Addr → Prop) (k : Nat) : Prop :=
  MetFree l y (headSpec ws rm) Pc (fun _ _ _ _ _ => True) (xEnd Qn free k)
def XQ (below : List Frame) (Qn : Array Value → State → Outcome → State → Prop) (free : Addr → Prop) (k : Nat) (a : Array Value) (s : State) : State → Prop := fun t => ∃ o, t.status = .running ∧ Ended t below o ∧ xEnd Qn free k a s o t
def xPre (D : va_G) (cl : List vw_C) (tys : List (ClassId × FieldType)) (NW : List (String × Nat × MethodName × String)) (ws : va_W) (sz : Nat) (av : List Value) : Array Value → State → Prop := fun a U => zPre D cl tys NW ws sz av a U ∧ XF U
theorem xPre.blind {D : va_G} {cl : List vw_C} {tys : List (ClassId × FieldType)} {NW : List (String × Nat × MethodName × String)} {ws : va_W} {sz : Nat} {av : List Value} : FrameBlind (xPre D cl tys NW ws sz av) := fun a U g mk q => ⟨zPre.blind a U g mk q.1, q.2.calling⟩
/-- the contract of an int (or boolean) method that may throw: res.1 says which way -/
def cX (l : Launch) (G : List Cond) (D : va_G) (cl : List vw_C) (tys : List (ClassId × FieldType)) (NW : List (String × Nat × MethodName × String)) (X : va_W) (ad : N3 → Nat) (T : List N3) (cf : Cf) (y : MethodName) (b : ByteArray) (n : Nat) (ret : FieldType) (fr lo : Nat) (av : List Value) (S : St) (res : Nat × Int32 × St) : Prop :=
  ∀ sz : Nat, MetX l y (Cond.code y b n (some ret) :: G) { frames := fr, cells := 1, slots := 6, locals := lo } (xPre D cl tys NW (zw X ad T cf S) sz av) (eI D cl X ad T cf (va_A (zw X ad T cf S) sz) res.2) (va_A (zw X ad T cf S) sz) res.1
section ZX
variable {p : Program} {l : Launch} {e : Env} {R : Room} {s : State} {m : MethodId} {args : Array Value} {below : List Frame} {meth : Method} {c : Code} {H : Heap} {locs : List Loc} {cells slots : Nat} {Q : State → Prop}
variable {cc : ByteArray} {pc nL : Nat} {ls : Array Slot} {rest st0 : List Value} {D : va_G} {cl : List vw_C} {A : Nat → Prop} {tys : List (ClassId × FieldType)} {NW : List (String × Nat × MethodName × String)} {H0 : Heap} {X : va_W} {ad : N3 → Nat} {T : List N3} {cf : Cf} {S : St} {G : List Cond} {own : String}
variable {y : MethodName} {b : ByteArray} {n np index fr lo : Nat} {ret : FieldType} {ro : Option FieldType} {As : List Value}
theorem xI_of {av : List Value} {res : Nat × Int32 × St} (hy : plainName y.cls = true) (hlen : (lg_sl av).length ≤ n)
    (body : ∀ (p : Program) (e : Env) (s : State) (m : MethodId) (below : List Frame) (meth : Method) (c : Code) (A : Nat → Prop) (ls : Array Slot), Hy p s m av.toArray meth c b n (some ret) y.cls G D cl tys NW → XF s → (∀ x ∈ c.exceptionTable.toList, False) → Wd D cl A s.heap (zw X ad T cf S) s.heap [] → (∀ q, s.heap.size ≤ q → A q) → lv_has ls n (lv_args 0 av) →
      W p l e { frames := fr, cells := 1, slots := 6, locals := lo } s m av.toArray below meth c s.heap [] 0 0 (XQ below (eI D cl X ad T cf A res.2) A res.1 av.toArray s) (F0 m 0 ls [])) : cX l G D cl tys NW X ad T cf y b n ret fr lo av S res := by
  intro sz
  refine MetFree.of_bodyS (code := b) (maxLocals := n) (ret := some ret) hy ?_ ?_
  · intro args s m h hn
    obtain ⟨meth, c, h1, h2, h3, h4, h5, h6, -, -⟩ := Cond.code_spec hn (atoms_spec (ws := Cond.code y b n (some ret) :: G) h _ List.mem_cons_self)
    exact ⟨meth, c, h1, h2, h3, h4, h5, h6⟩
  · intro p e s m args below meth c s₁ B hml hP _
    obtain ⟨⟨rfl, hsz, hPw, hK, hD0⟩, hX⟩ := hP
    have hts := atoms_spec (ws := Cond.code y b n (some ret) :: G) B.pre
    have hno : ∀ x ∈ c.exceptionTable.toList, False := by
      have h9 := BodyLoose.noHandlers B (hts _ List.mem_cons_self)
      intro x hx
      rw [Array.isEmpty_iff.mp h9] at hx
      cases hx
    subst hsz
    have hl := lv_entry av (n := n) hlen
    have hh0 : s₁.heap = s.heap := by rw [B.state]; rfl
    have K := body p e s m below meth c (va_A (zw X ad T cf S) s.heap.size) _ ⟨⟨B.exec, B.bytes, hml, findClass_of_methodNamed B.named, fun w h => hts w (List.mem_cons_of_mem _ h)⟩, B.returns, B.notSynchronized, hK⟩ hX hno ⟨hPw, hD0.self, va_S.rf⟩ (fun q h => Or.inr h) hl
    rw [← lg_entry_eq] at K
    obtain ⟨t, a1, o, b1, b2, b3⟩ := K s₁ hh0 (Stand.of_body B)
    exact ⟨t, o, a1, b1, b2, b3⟩
/-- the ways out: an answer -/
theorem x_ret {g : JFrame} {Qn : Array Value → State → Outcome → State → Prop} {free : Addr → Prop} {k : Nat} (hk : k = 0) (h : W p l e R s m args below meth c H locs 0 0 (MQ below Qn args s 0 0 free) g) : W p l e R s m args below meth c H locs 0 0 (XQ below Qn free k args s) g := by
  intro T hT X
  obtain ⟨t, a1, o, b1, b2, b3⟩ := h T hT X
  exact ⟨t, a1, o, b1, b2, Or.inl ⟨hk, b3⟩⟩
theorem x_iret (hy : Hy p s m args meth c cc nL (some .int) own G D cl tys NW) (hW : Wd D cl A s.heap (zw X ad T cf S) H locs) {v : Int32} {res : Nat × Int32 × St} (e1 : res = (0, v, S)) (hdg : decode cc pc = .ok (.ireturn, 1)) : W p l e R s m args below meth c H locs 0 0 (XQ below (eI D cl X ad T cf A res.2) A res.1 args s) (F0 m pc ls [.int v]) := by
  subst e1
  exact x_ret rfl (z_iret hy hW rfl hdg)
theorem x_zret (hy : Hy p s m args meth c cc nL (some .boolean) own G D cl tys NW) (hW : Wd D cl A s.heap (zw X ad T cf S) H locs) {v : Int32} {res : Nat × Int32 × St} (hn : narrow .boolean (.int v) = .int v) (e1 : res = (0, v, S)) (hdg : decode cc pc = .ok (.ireturn, 1)) : W p l e R s m args below meth c H locs 0 0 (XQ below (eI D cl X ad T cf A res.2) A res.1 args s) (F0 m pc ls [.int v]) := by
  subst e1
  exact x_ret rfl (z_zret hy hW hn rfl hdg)
/-- the ways out: 'throw new E("text")' -/
theorem x_throw {Qn : Array Value → State → Outcome → State → Prop} {free : Addr → Prop} {k kk : Nat} (htr : l.stackTraces = false) (hF : CallFix p m c cc nL s args G "QuorumChain") (hlk : meth.locks = false) (hX : XF s) (hno : ∀ x ∈ c.exceptionTable.toList, False) (hsz : ls.size = nL) {ik is ic : Nat} {text cls : String} (hk : kk = k) (h0 : 0 < k) (hcls : exn k = cls) (hfit : Bundle.fit cls = true) (hat : ∀ w ∈ Bundle.ownAtoms "QuorumChain" ic cls xnm, w ∈ xW) (hstr : (is, text) ∈ xStr)
    (hnew : Cond.classLink "QuorumChain" ik cls ∈ G) (hins : Cond.instantiable cls 6 ∈ G) (hini : Cond.initialized cls ∈ G) (hfr : 6 ≤ R.frames) (hlo : 100 ≤ R.locals) (hce : R.cells = 1 ∧ R.slots = 6)
    (d0 : decode cc pc = .ok (.new ik, 3)) (d3 : decode cc (pc + 3) = .ok (.dup, 1)) (d4 : decode cc (pc + 4) = .ok (.ldc is, 2)) (d6 : decode cc (pc + 6) = .ok (.invokespecial ic, 3)) (d9 : decode cc (pc + 9) = .ok (.athrow, 1)) : W p l e R s m args below meth c s.heap [] 0 0 (XQ below Qn free kk args s) (F0 m pc ls []) := by
  subst hk
  obtain ⟨sa, hsa⟩ := hX.2 _ hstr
  refine W.newc hF.1 hF.2.1 hF.2.2.2.1 (hF.2.2.2.2 _ hnew) (hF.2.2.2.2 _ hins) (hF.2.2.2.2 _ hini) rfl d0 (by rw [hce.1]; exact Nat.le_refl 1) (by rw [hce.2]; exact Nat.le_refl 6) (fun cC kC h1 h2 _ _ => ?_)
  refine lv_dup (pc := pc + 3) hF.1 hF.2.1 d3 rfl ?_
  refine va_ldcS (pc := pc + 4) hF.1 hF.2.1 hF.2.2.2.1 hsa d4 ?_
  intro T hT Z
  have htr' : e.platform.stackTraces = false := (show e.platform.stackTraces = l.stackTraces by rw [Z.admits.platform]).trans htr
  obtain ⟨U, hsteps, hrun, hend, hWm, hsame, ce, hcell, hO⟩ := Z.ctorThrowS hF.1 htr' (own := "QuorumChain") (cls := cls) (names := xnm) (ic := ic) hF.2.2.2.1 hfit (by decide +kernel) (fun w hw => hX.any w (hat w hw)) (fun x hx => nomatch hx) h1 h2 (a := s.heap.size) (by rw [hT]; exact Array.getElem?_push_size) (Nat.le_refl _) (msg := .ref sa) rfl
    (g := F0 m (pc + 6) ls [.ref sa, .ref s.heap.size, .ref s.heap.size]) rfl (by rw [hF.2.2.1]; exact hsz) rfl rfl (rest := []) rfl (by rw [hF.2.1]; exact d6) (by rw [hF.2.1]; exact d9) (fun x hx => (hno x hx).elim) (by show 5 < R.frames; omega) (by show 2 * 0 + 1 + (13 * 3 + 42) ≤ R.locals; omega) hlk
  exact ⟨U, hsteps, .threw _, hrun, hend, Or.inr ⟨h0, _, ce, rfl, hcell, hO.vm, by rw [hcls]; exact hO.cls, hWm, hsame⟩⟩
end ZX
theorem xatA : ∀ w ∈ Bundle.ownAtoms "QuorumChain" 50 xIA xnm, w ∈ xW := fun _ h => List.mem_append_left _ h
theorem xatS : ∀ w ∈ Bundle.ownAtoms "QuorumChain" 63 xIS xnm, w ∈ xW := fun _ h => List.mem_append_right _ h
theorem xfA : Bundle.fit xIA = true := by decide +kernel
theorem xfS : Bundle.fit xIS = true := by decide +kernel
