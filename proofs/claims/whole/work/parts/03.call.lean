/-! Contracts over a world of named cells, and their use. -/
def zK (D : va_G) (cl : List vw_C) (tys : List (ClassId × FieldType)) (NW : List (String × Nat × MethodName × String)) (U : State) : Prop := va_K D cl tys U ∧ ∀ q ∈ NW, va_Nw (.methodLinkNest q.1 q.2.1 q.2.2.1 q.2.2.2) U
theorem zK.moved {D : va_G} {cl : List vw_C} {tys : List (ClassId × FieldType)} {NW : List (String × Nat × MethodName × String)} {s U : State} (hW : s.WarmedH U.vm) (h : zK D cl tys NW s) : zK D cl tys NW U := ⟨va_K.moved hW.alike h.1, fun q hq => va_Nw.warmM hW (h.2 q hq)⟩
theorem zK.calling {D : va_G} {cl : List vw_C} {tys : List (ClassId × FieldType)} {NW : List (String × Nat × MethodName × String)} {U : State} {g : JFrame} {mk : MethodId} {a : Array Value} (h : zK D cl tys NW U) : zK D cl tys NW (U.calling g mk a) := ⟨va_K.moved (u := U) (U := U.calling g mk a) (Vm.Alike.refl U.vm) h.1, fun q hq => va_Nw.same rfl (show U.vm = (U.calling g mk a).vm from rfl) (h.2 q hq)⟩
/-- a method's start: its arguments, its world, the tables -/
def zPre (D : va_G) (cl : List vw_C) (tys : List (ClassId × FieldType)) (NW : List (String × Nat × MethodName × String)) (ws : va_W) (sz : Nat) (av : List Value) : Array Value → State → Prop := va_Pc av (fun U => U.heap.size = sz ∧ va_P D cl ws U.heap ∧ zK D cl tys NW U ∧ va_D (fun _ => True) ws)
def zAt (D : va_G) (cl : List vw_C) (X : va_W) (ad : N3 → Nat) (T : List N3) (cf : Cf) (A : Nat → Prop) (S : St) (t : State) : Prop := va_P D cl (zw X ad T cf S) t.heap ∧ va_D A (zw X ad T cf S)
theorem zPre.blind {D : va_G} {cl : List vw_C} {tys : List (ClassId × FieldType)} {NW : List (String × Nat × MethodName × String)} {ws : va_W} {sz : Nat} {av : List Value} : FrameBlind (zPre D cl tys NW ws sz av) := fun a U g mk q => by
  obtain ⟨q0, q1, qP, qK, qD⟩ := q
  exact ⟨q0, q1, qP, qK.calling, qD⟩
theorem zPre.at {D : va_G} {cl : List vw_C} {tys : List (ClassId × FieldType)} {NW : List (String × Nat × MethodName × String)} {ws : va_W} {av : List Value} {A : Nat → Prop} {H : Heap} {s : State} (hP : va_P D cl ws H) (hD : va_D A ws) (hK : zK D cl tys NW s) : ∀ U : State, U.heap = H → s.WarmedH U.vm → zPre D cl tys NW ws H.size av av.toArray U := fun U hU hWm => ⟨rfl, by rw [hU], by rw [hU]; exact hP, hK.moved hWm, hD.weaken (fun _ _ _ _ => trivial)⟩
/-- the end of an int method, of a long, void or reference one: its answer and the state behind it -/
def eI (D : va_G) (cl : List vw_C) (X : va_W) (ad : N3 → Nat) (T : List N3) (cf : Cf) (A : Nat → Prop) (res : Int32 × St) : Array Value → State → Outcome → State → Prop := va_Qi (fun r u => r = res.1 ∧ u = res.2) (zAt D cl X ad T cf A) A
def eL (D : va_G) (cl : List vw_C) (X : va_W) (ad : N3 → Nat) (T : List N3) (cf : Cf) (A : Nat → Prop) (res : Int64 × St) : Array Value → State → Outcome → State → Prop := va_Ql (fun r u => r = res.1 ∧ u = res.2) (zAt D cl X ad T cf A) A
def eV (D : va_G) (cl : List vw_C) (X : va_W) (ad : N3 → Nat) (T : List N3) (cf : Cf) (A : Nat → Prop) (res : St) : Array Value → State → Outcome → State → Prop := va_Qv (fun u => u = res) (zAt D cl X ad T cf A) A
def eR (D : va_G) (cl : List vw_C) (X : va_W) (ad : N3 → Nat) (T : List N3) (cf : Cf) (A : Nat → Prop) (res : N3 × St) : Array Value → State → Outcome → State → Prop := va_Qr (fun u => u = res.2) (fun u a t => a = ad res.1 ∧ zAt D cl X ad T cf A u t) A
/-- contracts: from the world of S the method y comes back with res -/
def cI (l : Launch) (G : List Cond) (D : va_G) (cl : List vw_C) (tys : List (ClassId × FieldType)) (NW : List (String × Nat × MethodName × String)) (X : va_W) (ad : N3 → Nat) (T : List N3) (cf : Cf) (y : MethodName) (b : ByteArray) (n : Nat) (ret : FieldType) (fr lo : Nat) (av : List Value) (S : St) (res : Int32 × St) : Prop :=
  ∀ sz : Nat, Met l y (Cond.code y b n (some ret) :: G) { frames := fr, cells := 0, slots := 0, locals := lo } (zPre D cl tys NW (zw X ad T cf S) sz av) (eI D cl X ad T cf (va_A (zw X ad T cf S) sz) res) 0 0 (va_A (zw X ad T cf S) sz)
def cL (l : Launch) (G : List Cond) (D : va_G) (cl : List vw_C) (tys : List (ClassId × FieldType)) (NW : List (String × Nat × MethodName × String)) (X : va_W) (ad : N3 → Nat) (T : List N3) (cf : Cf) (y : MethodName) (b : ByteArray) (n : Nat) (ret : FieldType) (fr lo : Nat) (av : List Value) (S : St) (res : Int64 × St) : Prop :=
  ∀ sz : Nat, Met l y (Cond.code y b n (some ret) :: G) { frames := fr, cells := 0, slots := 0, locals := lo } (zPre D cl tys NW (zw X ad T cf S) sz av) (eL D cl X ad T cf (va_A (zw X ad T cf S) sz) res) 0 0 (va_A (zw X ad T cf S) sz)
def cV (l : Launch) (G : List Cond) (D : va_G) (cl : List vw_C) (tys : List (ClassId × FieldType)) (NW : List (String × Nat × MethodName × String)) (X : va_W) (ad : N3 → Nat) (T : List N3) (cf : Cf) (y : MethodName) (b : ByteArray) (n : Nat) (fr lo : Nat) (av : List Value) (S : St) (res : St) : Prop :=
  ∀ sz : Nat, Met l y (Cond.code y b n none :: G) { frames := fr, cells := 0, slots := 0, locals := lo } (zPre D cl tys NW (zw X ad T cf S) sz av) (eV D cl X ad T cf (va_A (zw X ad T cf S) sz) res) 0 0 (va_A (zw X ad T cf S) sz)
def cR (l : Launch) (G : List Cond) (D : va_G) (cl : List vw_C) (tys : List (ClassId × FieldType)) (NW : List (String × Nat × MethodName × String)) (X : va_W) (ad : N3 → Nat) (T : List N3) (cf : Cf) (y : MethodName) (b : ByteArray) (n : Nat) (ret : FieldType) (fr lo : Nat) (av : List Value) (S : St) (res : N3 × St) : Prop :=
  ∀ sz : Nat, Met l y (Cond.code y b n (some ret) :: G) { frames := fr, cells := 0, slots := 0, locals := lo } (zPre D cl tys NW (zw X ad T cf S) sz av) (eR D cl X ad T cf (va_A (zw X ad T cf S) sz) res) 0 0 (va_A (zw X ad T cf S) sz)
/-- what is fixed in a method's walk -/
def Hy (p : Program) (s : State) (m : MethodId) (args : Array Value) (meth : Method) (c : Code) (b : ByteArray) (n : Nat) (ret : Option FieldType) (own : String) (G : List Cond) (D : va_G) (cl : List vw_C) (tys : List (ClassId × FieldType)) (NW : List (String × Nat × MethodName × String)) : Prop :=
  CallFix p m c b n s args G own ∧ meth.sig.returnType = ret ∧ meth.locks = false ∧ zK D cl tys NW s
/-- what a method that is called gives, once for all: its code, its tables' words -/
def cdV (G : List Cond) (y : MethodName) (b : ByteArray) (n : Nat) (ret : Option FieldType) (np : Nat) : Prop :=
  Cond.code y b n ret ∈ G ∧ Cond.instanceMethod y ∈ G ∧ Cond.selects y.cls y y ∈ G ∧ Cond.initialized y.cls ∈ G ∧ (y.cls ≠ "java/lang/invoke/MethodHandle" ∧ y.cls ≠ "java/lang/invoke/VarHandle" ∧ (parseMethodDescriptor y.desc).map (fun d => d.parameters.length) = some np) ∧ ∀ w ∈ G, goodWord w = true
def cdS (G : List Cond) (y : MethodName) (b : ByteArray) (n : Nat) (ret : Option FieldType) (np : Nat) : Prop :=
  Cond.code y b n ret ∈ G ∧ Cond.static y ∈ G ∧ Cond.initialized y.cls ∈ G ∧ (y.cls ≠ "java/lang/invoke/MethodHandle" ∧ y.cls ≠ "java/lang/invoke/VarHandle" ∧ (parseMethodDescriptor y.desc).map (fun d => d.parameters.length) = some np) ∧ ∀ w ∈ G, goodWord w = true
theorem cdV.good {G : List Cond} {y : MethodName} {b : ByteArray} {n : Nat} {ret : Option FieldType} {np : Nat} (h : cdV G y b n ret np) {own : String} {index : Nat} (hl : Cond.methodLink own index y ∈ G) : GoodIn G (wsV own index y.cls y (Cond.code y b n ret :: G)) := by
  obtain ⟨h1, h2, h3, h4, -, hg⟩ := h
  have key : ∀ w ∈ wsV own index y.cls y (Cond.code y b n ret :: G), w ∈ G := by
    intro w hw
    unfold wsV at hw
    rcases List.mem_append.mp hw with hw | hw
    · simp only [List.mem_cons, List.not_mem_nil, or_false] at hw
      rcases hw with rfl | rfl | rfl | rfl
      · exact hl
      · exact h2
      · exact h3
      · exact h4
    · rcases List.mem_cons.mp hw with rfl | hw
      · exact h1
      · exact hw
  exact fun w hw => ⟨key w hw, good_of_word (hg w (key w hw))⟩
theorem cdS.good {G : List Cond} {y : MethodName} {b : ByteArray} {n : Nat} {ret : Option FieldType} {np : Nat} (h : cdS G y b n ret np) {own : String} {index : Nat} (hl : Cond.methodLink own index y ∈ G) : GoodIn G (va_wsS own index y (Cond.code y b n ret :: G)) := by
  obtain ⟨h1, h2, h3, -, hg⟩ := h
  have key : ∀ w ∈ va_wsS own index y (Cond.code y b n ret :: G), w ∈ G := by
    intro w hw
    unfold va_wsS at hw
    rcases List.mem_append.mp hw with hw | hw
    · simp only [List.mem_cons, List.not_mem_nil, or_false] at hw
      rcases hw with rfl | rfl | rfl
      · exact hl
      · exact h2
      · exact h3
    · rcases List.mem_cons.mp hw with rfl | hw
      · exact h1
      · exact hw
  exact fun w hw => ⟨key w hw, good_of_word (hg w (key w hw))⟩
theorem cdS.goodN {G : List Cond} {y : MethodName} {b : ByteArray} {n : Nat} {ret : Option FieldType} {np : Nat} (h : cdS G y b n ret np) : GoodIn G (Cond.code y b n ret :: G) := by
  obtain ⟨h1, -, -, -, hg⟩ := h
  have key : ∀ w ∈ (Cond.code y b n ret :: G), w ∈ G := fun w hw => (List.mem_cons.mp hw).elim (fun e => by rw [e]; exact h1) id
  exact fun w hw => ⟨key w hw, good_of_word (hg w (key w hw))⟩
theorem Wd.free {D : va_G} {cl : List vw_C} {A : Nat → Prop} {H0 H : Heap} {ws : va_W} {locs : List Loc} (hW : Wd D cl A H0 ws H locs) (hA : ∀ q, H0.size ≤ q → A q) : ∀ q, va_A ws H.size q → A q := by
  intro q h
  rcases h with ⟨k, e, h⟩ | h
  · exact hW.2.1.2 k _ h
  · exact hA q (Nat.le_trans hW.2.2.1 h)
theorem zAt.wd {D : va_G} {cl : List vw_C} {A B : Nat → Prop} {X : va_W} {ad : N3 → Nat} {T : List N3} {cf : Cf} {S : St} {t : State} {H0 H1 : Heap} {locs : List Loc} (h : zAt D cl X ad T cf B S t) (ht : t.heap = H1) (hBA : ∀ q, B q → A q) (hS : va_S A H0 H1 locs) : Wd D cl A H0 (zw X ad T cf S) H1 locs := ⟨by rw [← ht]; exact h.1, h.2.weaken (fun _ _ _ z => hBA _ z), hS⟩
section ZC
variable {p : Program} {l : Launch} {e : Env} {R : Room} {s : State} {m : MethodId} {args : Array Value} {below : List Frame} {meth : Method} {c : Code} {H : Heap} {locs : List Loc} {cells slots : Nat} {Q : State → Prop}
variable {cc : ByteArray} {pc nL : Nat} {ls : Array Slot} {rest st0 : List Value} {D : va_G} {cl : List vw_C} {A : Nat → Prop} {tys : List (ClassId × FieldType)} {NW : List (String × Nat × MethodName × String)} {H0 : Heap} {X : va_W} {ad : N3 → Nat} {T : List N3} {cf : Cf} {S : St} {G : List Cond} {own : String}
variable {y : MethodName} {b : ByteArray} {n np index fr lo : Nat} {ret : FieldType} {ro : Option FieldType} {As : List Value}
theorem zI_of {av : List Value} {res : Int32 × St} (hy : plainName y.cls = true) (hlen : (lg_sl av).length ≤ n)
    (body : ∀ (p : Program) (e : Env) (s : State) (m : MethodId) (below : List Frame) (meth : Method) (c : Code) (A : Nat → Prop) (ls : Array Slot), Hy p s m av.toArray meth c b n (some ret) y.cls G D cl tys NW → Wd D cl A s.heap (zw X ad T cf S) s.heap [] → (∀ q, s.heap.size ≤ q → A q) → lv_has ls n (lv_args 0 av) →
      W p l e { frames := fr, cells := 0, slots := 0, locals := lo } s m av.toArray below meth c s.heap [] 0 0 (MQ below (eI D cl X ad T cf A res) av.toArray s 0 0 A) (F0 m 0 ls [])) : cI l G D cl tys NW X ad T cf y b n ret fr lo av S res := by
  intro sz
  refine Met.ofW (cc := b) (maxL := n) (ret := some ret) hy rfl ?_
  intro p e s m args below meth c s₁ B hml hv
  obtain ⟨rfl, hsz, hP, hK, hD0⟩ := hv
  have hts := atoms_spec (ws := Cond.code y b n (some ret) :: G) B.pre
  subst hsz
  have hl := lv_entry av (n := n) hlen
  rw [lg_entry_eq]
  exact body p e s m below meth c _ _ ⟨⟨B.exec, B.bytes, hml, findClass_of_methodNamed B.named, fun w h => hts w (List.mem_cons_of_mem _ h)⟩, B.returns, B.notSynchronized, hK⟩ ⟨hP, hD0.self, va_S.rf⟩ (fun q h => Or.inr h) hl
theorem zL_of {av : List Value} {res : Int64 × St} (hy : plainName y.cls = true) (hlen : (lg_sl av).length ≤ n)
    (body : ∀ (p : Program) (e : Env) (s : State) (m : MethodId) (below : List Frame) (meth : Method) (c : Code) (A : Nat → Prop) (ls : Array Slot), Hy p s m av.toArray meth c b n (some ret) y.cls G D cl tys NW → Wd D cl A s.heap (zw X ad T cf S) s.heap [] → (∀ q, s.heap.size ≤ q → A q) → lv_has ls n (lv_args 0 av) →
      W p l e { frames := fr, cells := 0, slots := 0, locals := lo } s m av.toArray below meth c s.heap [] 0 0 (MQ below (eL D cl X ad T cf A res) av.toArray s 0 0 A) (F0 m 0 ls [])) : cL l G D cl tys NW X ad T cf y b n ret fr lo av S res := by
  intro sz
  refine Met.ofW (cc := b) (maxL := n) (ret := some ret) hy rfl ?_
  intro p e s m args below meth c s₁ B hml hv
  obtain ⟨rfl, hsz, hP, hK, hD0⟩ := hv
  have hts := atoms_spec (ws := Cond.code y b n (some ret) :: G) B.pre
  subst hsz
  have hl := lv_entry av (n := n) hlen
  rw [lg_entry_eq]
  exact body p e s m below meth c _ _ ⟨⟨B.exec, B.bytes, hml, findClass_of_methodNamed B.named, fun w h => hts w (List.mem_cons_of_mem _ h)⟩, B.returns, B.notSynchronized, hK⟩ ⟨hP, hD0.self, va_S.rf⟩ (fun q h => Or.inr h) hl
theorem zV_of {av : List Value} {res : St} (hy : plainName y.cls = true) (hlen : (lg_sl av).length ≤ n)
    (body : ∀ (p : Program) (e : Env) (s : State) (m : MethodId) (below : List Frame) (meth : Method) (c : Code) (A : Nat → Prop) (ls : Array Slot), Hy p s m av.toArray meth c b n none y.cls G D cl tys NW → Wd D cl A s.heap (zw X ad T cf S) s.heap [] → (∀ q, s.heap.size ≤ q → A q) → lv_has ls n (lv_args 0 av) →
      W p l e { frames := fr, cells := 0, slots := 0, locals := lo } s m av.toArray below meth c s.heap [] 0 0 (MQ below (eV D cl X ad T cf A res) av.toArray s 0 0 A) (F0 m 0 ls [])) : cV l G D cl tys NW X ad T cf y b n fr lo av S res := by
  intro sz
  refine Met.ofW (cc := b) (maxL := n) (ret := none) hy rfl ?_
  intro p e s m args below meth c s₁ B hml hv
  obtain ⟨rfl, hsz, hP, hK, hD0⟩ := hv
  have hts := atoms_spec (ws := Cond.code y b n none :: G) B.pre
  subst hsz
  have hl := lv_entry av (n := n) hlen
  rw [lg_entry_eq]
  exact body p e s m below meth c _ _ ⟨⟨B.exec, B.bytes, hml, findClass_of_methodNamed B.named, fun w h => hts w (List.mem_cons_of_mem _ h)⟩, B.returns, B.notSynchronized, hK⟩ ⟨hP, hD0.self, va_S.rf⟩ (fun q h => Or.inr h) hl
theorem zR_of {av : List Value} {res : N3 × St} (hy : plainName y.cls = true) (hlen : (lg_sl av).length ≤ n)
    (body : ∀ (p : Program) (e : Env) (s : State) (m : MethodId) (below : List Frame) (meth : Method) (c : Code) (A : Nat → Prop) (ls : Array Slot), Hy p s m av.toArray meth c b n (some ret) y.cls G D cl tys NW → Wd D cl A s.heap (zw X ad T cf S) s.heap [] → (∀ q, s.heap.size ≤ q → A q) → lv_has ls n (lv_args 0 av) →
      W p l e { frames := fr, cells := 0, slots := 0, locals := lo } s m av.toArray below meth c s.heap [] 0 0 (MQ below (eR D cl X ad T cf A res) av.toArray s 0 0 A) (F0 m 0 ls [])) : cR l G D cl tys NW X ad T cf y b n ret fr lo av S res := by
  intro sz
  refine Met.ofW (cc := b) (maxL := n) (ret := some ret) hy rfl ?_
  intro p e s m args below meth c s₁ B hml hv
  obtain ⟨rfl, hsz, hP, hK, hD0⟩ := hv
  have hts := atoms_spec (ws := Cond.code y b n (some ret) :: G) B.pre
  subst hsz
  have hl := lv_entry av (n := n) hlen
  rw [lg_entry_eq]
  exact body p e s m below meth c _ _ ⟨⟨B.exec, B.bytes, hml, findClass_of_methodNamed B.named, fun w h => hts w (List.mem_cons_of_mem _ h)⟩, B.returns, B.notSynchronized, hK⟩ ⟨hP, hD0.self, va_S.rf⟩ (fun q h => Or.inr h) hl
/-- returns -/
theorem z_iret (hy : Hy p s m args meth c cc nL (some .int) own G D cl tys NW) (hW : Wd D cl A s.heap (zw X ad T cf S) H locs) {v : Int32} {res : Int32 × St} (e1 : res = (v, S)) (hdg : decode cc pc = .ok (.ireturn, 1)) : W p l e R s m args below meth c H locs 0 0 (MQ below (eI D cl X ad T cf A res) args s 0 0 A) (F0 m pc ls [.int v]) := by
  subst e1
  exact W.iret hy.1.1 hy.1.2.1 hy.2.1 (fun t ht _ => ⟨⟨v, S, rfl, ⟨rfl, rfl⟩, by rw [ht]; exact hW.1, hW.2.1⟩, hW.2.2.F ht⟩) hW.2.2.2.2 hdg hy.2.2.1
theorem z_zret (hy : Hy p s m args meth c cc nL (some .boolean) own G D cl tys NW) (hW : Wd D cl A s.heap (zw X ad T cf S) H locs) {v : Int32} {res : Int32 × St} (hn : narrow .boolean (.int v) = .int v) (e1 : res = (v, S)) (hdg : decode cc pc = .ok (.ireturn, 1)) : W p l e R s m args below meth c H locs 0 0 (MQ below (eI D cl X ad T cf A res) args s 0 0 A) (F0 m pc ls [.int v]) := by
  subst e1
  exact W.zret hy.1.1 hy.1.2.1 hy.2.1 hn (fun t ht _ => ⟨⟨v, S, rfl, ⟨rfl, rfl⟩, by rw [ht]; exact hW.1, hW.2.1⟩, hW.2.2.F ht⟩) hW.2.2.2.2 hdg hy.2.2.1
theorem z_lret (hy : Hy p s m args meth c cc nL (some .long) own G D cl tys NW) (hW : Wd D cl A s.heap (zw X ad T cf S) H locs) {v : Int64} {res : Int64 × St} (e1 : res = (v, S)) (hdg : decode cc pc = .ok (.lreturn, 1)) : W p l e R s m args below meth c H locs 0 0 (MQ below (eL D cl X ad T cf A res) args s 0 0 A) (F0 m pc ls [.long v]) := by
  subst e1
  exact W.lret hy.1.1 hy.1.2.1 hy.2.1 (fun t ht _ => ⟨⟨v, S, rfl, ⟨rfl, rfl⟩, by rw [ht]; exact hW.1, hW.2.1⟩, hW.2.2.F ht⟩) hW.2.2.2.2 hdg hy.2.2.1
theorem z_vret (hy : Hy p s m args meth c cc nL none own G D cl tys NW) (hW : Wd D cl A s.heap (zw X ad T cf S) H locs) {res : St} (e1 : res = S) (hdg : decode cc pc = .ok (.return_, 1)) : W p l e R s m args below meth c H locs 0 0 (MQ below (eV D cl X ad T cf A res) args s 0 0 A) (F0 m pc ls []) := by
  subst e1
  exact W.vret hy.1.1 hy.1.2.1 hy.2.1 (fun t ht _ => ⟨⟨_, rfl, rfl, by rw [ht]; exact hW.1, hW.2.1⟩, hW.2.2.F ht⟩) hW.2.2.2.2 hdg hy.2.2.1
theorem z_aret {C : String} (hy : Hy p s m args meth c cc nL (some (.object C)) own G D cl tys NW) (hW : Wd D cl A s.heap (zw X ad T cf S) H locs) {t : N3} {res : N3 × St} (e1 : res = (t, S)) (hdg : decode cc pc = .ok (.areturn, 1)) : W p l e R s m args below meth c H locs 0 0 (MQ below (eR D cl X ad T cf A res) args s 0 0 A) (F0 m pc ls [.ref (ad t)]) := by
  subst e1
  exact W.aret hy.1.1 hy.1.2.1 hy.2.1 (Or.inl ⟨C, rfl⟩) (Or.inr ⟨_, rfl⟩) (fun u hu _ => ⟨⟨S, ad t, rfl, rfl, rfl, by rw [hu]; exact hW.1, hW.2.1⟩, hW.2.2.F hu⟩) hW.2.2.2.2 hdg hy.2.2.1
/-- calls of an instance's method -/
theorem z_runV {Qc : Array Value → State → Outcome → State → Prop} (hF : CallFix p m c cc nL s args G own) (hK : zK D cl tys NW s) (hW : Wd D cl A H0 (zw X ad T cf S) H locs) {t : N3} (hM : Met l y (Cond.code y b n ro :: G) { frames := fr, cells := 0, slots := 0, locals := lo } (zPre D cl tys NW (zw X ad T cf S) H.size (.ref (ad t) :: As)) Qc 0 0 (va_A (zw X ad T cf S) H.size)) (cd : cdV G y b n ro np) (hlink : Cond.methodLink own index y ∈ G) (ht : t ∈ T) {T1 : u_T} {N ci : Nat} {fs : List Value} (he : zs cf S t = .inr (ci, fs)) (hc : cl[ci]? = some (y.cls, T1, N))
    (hR : fr + 1 ≤ R.frames ∧ 8 + (n + 11) + lo ≤ R.locals) (hcs : cells ≤ R.cells ∧ slots ≤ R.slots) (hst : st0 = As.reverse ++ .ref (ad t) :: rest) (hnp : As.length = np) (hsz : ls.size = nL) (hroom : (rest.map fun v => v.category).sum ≤ 8) (hdg : decode cc pc = .ok (.invokevirtual index, 3)) :
    va_Run p l e R s m args below meth c H locs cells slots 0 0 (F0 m pc ls st0) rest (Qc (Value.ref (ad t) :: As).toArray) (va_A (zw X ad T cf S) H.size) := by
  obtain ⟨k, hk⟩ := zw_get (X := X) (ad := ad) (cf := cf) (S := S) ht
  rw [he] at hk
  exact va_runV (As := As) (rest := rest) hF hM (cwV np hF.2.2.2.2 (cd.good hlink) rfl rfl rfl ⟨rfl, cd.2.2.2.2.1⟩ hR) ⟨zPre.blind, va_recv hK.1 hW.1 hc hk, zPre.at hW.1 hW.2.1 hK⟩ rfl hnp hsz hst (lv_room hroom) hdg hcs
theorem z_runS {Qc : Array Value → State → Outcome → State → Prop} (hF : CallFix p m c cc nL s args G own) (hK : zK D cl tys NW s) (hW : Wd D cl A H0 (zw X ad T cf S) H locs) (hM : Met l y (Cond.code y b n ro :: G) { frames := fr, cells := 0, slots := 0, locals := lo } (zPre D cl tys NW (zw X ad T cf S) H.size As) Qc 0 0 (va_A (zw X ad T cf S) H.size)) (cd : cdS G y b n ro np) (hlink : Cond.methodLink own index y ∈ G)
    (hR : fr + 1 ≤ R.frames ∧ 8 + (n + 11) + lo ≤ R.locals) (hcs : cells ≤ R.cells ∧ slots ≤ R.slots) (hst : st0 = As.reverse ++ rest) (hnp : As.length = np) (hsz : ls.size = nL) (hroom : (rest.map fun v => v.category).sum ≤ 8) (hdg : decode cc pc = .ok (.invokestatic index, 3)) :
    va_Run p l e R s m args below meth c H locs cells slots 0 0 (F0 m pc ls st0) rest (Qc As.toArray) (va_A (zw X ad T cf S) H.size) :=
  va_runS (As := As) (rest := rest) hF hM (va_cwS np hF.2.2.2.2 (cd.good hlink) rfl rfl rfl cd.2.2.2.1 hR) ⟨zPre.blind, zPre.at hW.1 hW.2.1 hK⟩ rfl hnp hsz hst (lv_room hroom) hdg hcs
theorem z_runSN {host : String} {Qc : Array Value → State → Outcome → State → Prop} (hF : CallFix p m c cc nL s args G own) (hK : zK D cl tys NW s) (hW : Wd D cl A H0 (zw X ad T cf S) H locs) (hM : Met l y (Cond.code y b n ro :: G) { frames := fr, cells := 0, slots := 0, locals := lo } (zPre D cl tys NW (zw X ad T cf S) H.size As) Qc 0 0 (va_A (zw X ad T cf S) H.size)) (cd : cdS G y b n ro np) (hlink : (own, index, y, host) ∈ NW)
    (hR : fr + 1 ≤ R.frames ∧ 8 + (n + 11) + lo ≤ R.locals) (hcs : cells ≤ R.cells ∧ slots ≤ R.slots) (hst : st0 = As.reverse ++ rest) (hnp : As.length = np) (hsz : ls.size = nL) (hroom : (rest.map fun v => v.category).sum ≤ 8) (hdg : decode cc pc = .ok (.invokestatic index, 3)) :
    va_Run p l e R s m args below meth c H locs cells slots 0 0 (F0 m pc ls st0) rest (Qc As.toArray) (va_A (zw X ad T cf S) H.size) :=
  va_runSN (As := As) (rest := rest) hF hM ⟨va_cnB np hF.2.2.2.2 cd.goodN rfl rfl rfl (hK.2 _ hlink) (hF.2.2.2.2 _ cd.2.2.1) cd.2.2.2.1 hR, hF.2.2.2.2 _ cd.2.1, trivial⟩ ⟨zPre.blind, zPre.at hW.1 hW.2.1 hK⟩ rfl hnp hsz hst (lv_room hroom) hdg hcs
/-- behind a call -/
theorem z_thenI {a : Array Value} {res : Int32 × St} (hW : Wd D cl A H0 (zw X ad T cf S) H locs) (hA : ∀ q, H0.size ≤ q → A q) (hr : va_Run p l e R s m args below meth c H locs cells slots 0 0 (F0 m pc ls st0) rest (eI D cl X ad T cf (va_A (zw X ad T cf S) H.size) res a) (va_A (zw X ad T cf S) H.size))
    (kk : ∀ (H1 : Heap) (locs1 : List Loc), Wd D cl A H0 (zw X ad T cf res.2) H1 locs1 → W p l e R s m args below meth c H1 locs1 cells slots Q (F0 m (pc + 3) ls (.int res.1 :: rest))) : W p l e R s m args below meth c H locs cells slots Q (F0 m pc ls st0) := by
  have hf := hW.free hA
  refine va_calli hr hW.2.2 (fun q _ h => hf q h) hf (fun r u t H1 locs1 ht _ hp hB _ _ hS => ?_)
  obtain ⟨rfl, rfl⟩ := hp
  exact kk H1 locs1 (hB.wd ht hf hS)
theorem z_thenL {a : Array Value} {res : Int64 × St} (hW : Wd D cl A H0 (zw X ad T cf S) H locs) (hA : ∀ q, H0.size ≤ q → A q) (hr : va_Run p l e R s m args below meth c H locs cells slots 0 0 (F0 m pc ls st0) rest (eL D cl X ad T cf (va_A (zw X ad T cf S) H.size) res a) (va_A (zw X ad T cf S) H.size))
    (kk : ∀ (H1 : Heap) (locs1 : List Loc), Wd D cl A H0 (zw X ad T cf res.2) H1 locs1 → W p l e R s m args below meth c H1 locs1 cells slots Q (F0 m (pc + 3) ls (.long res.1 :: rest))) : W p l e R s m args below meth c H locs cells slots Q (F0 m pc ls st0) := by
  have hf := hW.free hA
  refine va_calll hr hW.2.2 (fun q _ h => hf q h) hf (fun r u t H1 locs1 ht _ hp hB _ _ hS => ?_)
  obtain ⟨rfl, rfl⟩ := hp
  exact kk H1 locs1 (hB.wd ht hf hS)
theorem z_thenV {a : Array Value} {res : St} (hW : Wd D cl A H0 (zw X ad T cf S) H locs) (hA : ∀ q, H0.size ≤ q → A q) (hr : va_Run p l e R s m args below meth c H locs cells slots 0 0 (F0 m pc ls st0) rest (eV D cl X ad T cf (va_A (zw X ad T cf S) H.size) res a) (va_A (zw X ad T cf S) H.size))
    (kk : ∀ (H1 : Heap) (locs1 : List Loc), Wd D cl A H0 (zw X ad T cf res) H1 locs1 → W p l e R s m args below meth c H1 locs1 cells slots Q (F0 m (pc + 3) ls rest)) : W p l e R s m args below meth c H locs cells slots Q (F0 m pc ls st0) := by
  have hf := hW.free hA
  refine va_callv hr hW.2.2 (fun q _ h => hf q h) hf (fun u t H1 locs1 ht _ hp hB _ _ hS => ?_)
  subst hp
  exact kk H1 locs1 (hB.wd ht hf hS)
theorem z_thenR {a : Array Value} {res : N3 × St} (hW : Wd D cl A H0 (zw X ad T cf S) H locs) (hA : ∀ q, H0.size ≤ q → A q) (hr : va_Run p l e R s m args below meth c H locs cells slots 0 0 (F0 m pc ls st0) rest (eR D cl X ad T cf (va_A (zw X ad T cf S) H.size) res a) (va_A (zw X ad T cf S) H.size))
    (kk : ∀ (H1 : Heap) (locs1 : List Loc), Wd D cl A H0 (zw X ad T cf res.2) H1 locs1 → W p l e R s m args below meth c H1 locs1 cells slots Q (F0 m (pc + 3) ls (.ref (ad res.1) :: rest))) : W p l e R s m args below meth c H locs cells slots Q (F0 m pc ls st0) := by
  have hf := hW.free hA
  refine va_callr hr hW.2.2 (fun q _ h => hf q h) hf (fun u ra t H1 locs1 ht _ hp hB _ _ hS => ?_)
  subst hp
  obtain ⟨rfl, hB⟩ := hB
  exact kk H1 locs1 (hB.wd ht hf hS)
end ZC
