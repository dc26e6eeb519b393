/-! The law's wrappers: methods with handlers round one call. -/
def wPre (D : va_G) (cl : List vw_C) (tys : List (ClassId × FieldType)) (NW : List (String × Nat × MethodName × String)) (ws : va_W) (sz : Nat) (av : List Value) : Array Value → State → Prop := fun a U => zPre D cl tys NW ws sz av a U ∧ XF U ∧ va_Nc xIS xIA U
theorem wPre.blind {D : va_G} {cl : List vw_C} {tys : List (ClassId × FieldType)} {NW : List (String × Nat × MethodName × String)} {ws : va_W} {sz : Nat} {av : List Value} : FrameBlind (wPre D cl tys NW ws sz av) := fun a U g mk q => ⟨zPre.blind a U g mk q.1, q.2.1.calling, va_Nc.moved (Vm.Alike.refl U.vm) q.2.2⟩
def cWr (l : Launch) (G : List Cond) (D : va_G) (cl : List vw_C) (tys : List (ClassId × FieldType)) (NW : List (String × Nat × MethodName × String)) (X : va_W) (ad : N3 → Nat) (T : List N3) (cf : Cf) (y : MethodName) (b : ByteArray) (n : Nat) (hh : List (Nat × Nat × Nat × Nat)) (fr lo : Nat) (av : List Value) (S : St) (res : Int32 × St) : Prop :=
  ∀ sz : Nat, Met l y (Cond.codeWith y b n (some .int) hh :: G) { frames := fr, cells := 1, slots := 6, locals := lo } (wPre D cl tys NW (zw X ad T cf S) sz av) (eI D cl X ad T cf (va_A (zw X ad T cf S) sz) res) 1 6 (va_A (zw X ad T cf S) sz)
section ZWR
variable {p : Program} {l : Launch} {e : Env} {R : Room} {s : State} {m : MethodId} {args : Array Value} {below : List Frame} {meth : Method} {c : Code} {H : Heap} {locs : List Loc} {cells slots : Nat} {Q : State → Prop}
variable {cc : ByteArray} {pc nL : Nat} {ls : Array Slot} {D : va_G} {cl : List vw_C} {A : Nat → Prop} {tys : List (ClassId × FieldType)} {NW : List (String × Nat × MethodName × String)} {X : va_W} {ad : N3 → Nat} {T : List N3} {cf : Cf} {S : St} {G : List Cond} {own : String}
variable {y : MethodName} {b : ByteArray} {n fr lo : Nat} {hh : List (Nat × Nat × Nat × Nat)}
theorem wr_of {av : List Value} {res : Int32 × St} (hy : plainName y.cls = true) (hlen : (lg_sl av).length ≤ n)
    (body : ∀ (p : Program) (e : Env) (s : State) (m : MethodId) (below : List Frame) (meth : Method) (c : Code) (A : Nat → Prop) (ls : Array Slot), Hy p s m av.toArray meth c b n (some .int) y.cls G D cl tys NW → XF s → va_Nc xIS xIA s → c.exceptionTable.toList = Jvm.tableOf hh → Wd D cl A s.heap (zw X ad T cf S) s.heap [] → (∀ q, s.heap.size ≤ q → A q) → lv_has ls n (lv_args 0 av) →
      W p l e { frames := fr, cells := 1, slots := 6, locals := lo } s m av.toArray below meth c s.heap [] 0 0 (MQ below (eI D cl X ad T cf A res) av.toArray s 1 6 A) (F0 m 0 ls [])) : cWr l G D cl tys NW X ad T cf y b n hh fr lo av S res := by
  intro sz
  refine va_MetW (cc := b) (maxL := n) (ret := some .int) (hh := hh) hy rfl ?_
  intro p e s m args below meth c s₁ B hml hv
  obtain ⟨⟨rfl, hsz, hP, hK, hD0⟩, hX, hN⟩ := hv
  have hts := atoms_spec (ws := Cond.codeWith y b n (some .int) hh :: G) B.pre
  have htab : c.exceptionTable.toList = Jvm.tableOf hh := by
    obtain ⟨m9, meth9, c9, hn9, h1, h2, -, -, h6, -⟩ := Cond.codeWith_spec (hts _ List.mem_cons_self)
    cases Option.some.inj (hn9.symm.trans B.named)
    cases Option.some.inj (h1.symm.trans B.method)
    cases Option.some.inj (h2.symm.trans (Stand.of_body B).code)
    rw [← h6, Jvm.table_eq]
  subst hsz
  have hl := lv_entry av (n := n) hlen
  rw [lg_entry_eq]
  exact body p e s m below meth c _ _ ⟨⟨B.exec, B.bytes, hml, findClass_of_methodNamed B.named, fun w h => hts w (List.mem_cons_of_mem _ h)⟩, B.returns, B.notSynchronized, hK⟩ hX hN htab ⟨hP, hD0.self, va_S.rf⟩ (fun q h => Or.inr h) hl
theorem w_iret (hy : Hy p s m args meth c cc nL (some .int) own G D cl tys NW) (hW : Wd D cl A s.heap (zw X ad T cf S) H locs) (h1 : cells ≤ 1) (h2 : slots ≤ 6) {v : Int32} {res : Int32 × St} (e1 : res = (v, S)) (hdg : decode cc pc = .ok (.ireturn, 1)) : W p l e R s m args below meth c H locs cells slots (MQ below (eI D cl X ad T cf A res) args s 1 6 A) (F0 m pc ls [.int v]) := by
  subst e1
  refine W.widen (k := 1) (n := 6) h1 h2 ?_
  exact W.iret hy.1.1 hy.1.2.1 hy.2.1 (fun t ht _ => ⟨⟨v, S, rfl, ⟨rfl, rfl⟩, by rw [ht]; exact hW.1, hW.2.1⟩, hW.2.2.F ht⟩) hW.2.2.2.2 hdg hy.2.2.1
theorem xfn {k : Nat} {o : Option ClassId} (hk : k = 1) (h : s.vm.findClass (exn k) = o) : s.vm.findClass xIA = o := by
  subst hk
  exact h
theorem xfs {k : Nat} {o : Option ClassId} (hk : ¬ k = 1) (h : s.vm.findClass (exn k) = o) : s.vm.findClass xIS = o := by
  have e9 : exn k = xIS := if_neg hk
  rw [← e9]
  exact h
theorem xcA : Cond.castable xIA xIA ∈ xW := by decide +kernel
theorem xcS : Cond.castable xIS xIS ∈ xW := by decide +kernel
theorem XF.here {s : State} (h : XF s) : ∀ U : State, U.heap = s.heap → s.WarmedH U.vm → XF U := fun U hU hWm => XF.moved hWm (fun a cell h9 _ => by rw [hU]; exact h9) h
end ZWR
