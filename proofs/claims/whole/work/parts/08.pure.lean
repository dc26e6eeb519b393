/-! Methods that write nothing: the heap behind them is the heap before. -/
def eP (v : Value) : Array Value → State → Outcome → State → Prop := fun _ st o t => o = .returned (some v) ∧ t.heap = st.heap
def nof : Addr → Prop := fun _ => False
def cP (l : Launch) (G : List Cond) (D : va_G) (cl : List vw_C) (tys : List (ClassId × FieldType)) (NW : List (String × Nat × MethodName × String)) (ws : va_W) (y : MethodName) (b : ByteArray) (n : Nat) (ret : FieldType) (fr lo : Nat) (av : List Value) (v : Value) : Prop :=
  ∀ sz : Nat, Met l y (Cond.code y b n (some ret) :: G) { frames := fr, cells := 0, slots := 0, locals := lo } (zPre D cl tys NW ws sz av) (eP v) 0 0 nof
section ZP
variable {p : Program} {l : Launch} {e : Env} {R : Room} {s : State} {m : MethodId} {args : Array Value} {below : List Frame} {meth : Method} {c : Code} {H : Heap} {locs : List Loc} {cells slots : Nat} {Q : State → Prop}
variable {cc : ByteArray} {pc nL : Nat} {ls : Array Slot} {rest st0 : List Value} {D : va_G} {cl : List vw_C} {A : Nat → Prop} {tys : List (ClassId × FieldType)} {NW : List (String × Nat × MethodName × String)} {H0 : Heap} {X : va_W} {ad : N3 → Nat} {T : List N3} {cf : Cf} {S : St} {G : List Cond} {own : String} {ws : va_W}
variable {y : MethodName} {b : ByteArray} {n np index fr lo : Nat} {ret : FieldType} {ro : Option FieldType} {As : List Value}
theorem zP_of {av : List Value} {v : Value} (hy : plainName y.cls = true) (hlen : (lg_sl av).length ≤ n)
    (body : ∀ (p : Program) (e : Env) (s : State) (m : MethodId) (below : List Frame) (meth : Method) (c : Code) (ls : Array Slot), Hy p s m av.toArray meth c b n (some ret) y.cls G D cl tys NW → Wd D cl (fun _ => True) s.heap ws s.heap [] → lv_has ls n (lv_args 0 av) →
      W p l e { frames := fr, cells := 0, slots := 0, locals := lo } s m av.toArray below meth c s.heap [] 0 0 (MQ below (eP v) av.toArray s 0 0 nof) (F0 m 0 ls [])) : cP l G D cl tys NW ws y b n ret fr lo av v := by
  intro sz
  refine Met.ofW (cc := b) (maxL := n) (ret := some ret) hy rfl ?_
  intro p e s m args below meth c s₁ B hml hv
  obtain ⟨rfl, hsz, hP, hK, hD0⟩ := hv
  have hts := atoms_spec (ws := Cond.code y b n (some ret) :: G) B.pre
  subst hsz
  have hl := lv_entry av (n := n) hlen
  rw [lg_entry_eq]
  exact body p e s m below meth c _ ⟨⟨B.exec, B.bytes, hml, findClass_of_methodNamed B.named, fun w h => hts w (List.mem_cons_of_mem _ h)⟩, B.returns, B.notSynchronized, hK⟩ ⟨hP, hD0, va_S.rf⟩ hl
theorem nof_nil : ∀ q ∈ ([] : List Loc), nof q.base := fun _ h => nomatch h
theorem p_iret (hy : Hy p s m args meth c cc nL (some .int) own G D cl tys NW) {v res : Int32} (e1 : v = res) (hdg : decode cc pc = .ok (.ireturn, 1)) : W p l e R s m args below meth c s.heap [] 0 0 (MQ below (eP (.int res)) args s 0 0 nof) (F0 m pc ls [.int v]) := by
  subst e1
  exact W.iret hy.1.1 hy.1.2.1 hy.2.1 (fun t ht _ => ⟨rfl, ht⟩) nof_nil hdg hy.2.2.1
theorem p_zret (hy : Hy p s m args meth c cc nL (some .boolean) own G D cl tys NW) {v res : Int32} (hn : narrow .boolean (.int v) = .int v) (e1 : v = res) (hdg : decode cc pc = .ok (.ireturn, 1)) : W p l e R s m args below meth c s.heap [] 0 0 (MQ below (eP (.int res)) args s 0 0 nof) (F0 m pc ls [.int v]) := by
  subst e1
  exact W.zret hy.1.1 hy.1.2.1 hy.2.1 hn (fun t ht _ => ⟨rfl, ht⟩) nof_nil hdg hy.2.2.1
theorem p_lret (hy : Hy p s m args meth c cc nL (some .long) own G D cl tys NW) {v res : Int64} (e1 : v = res) (hdg : decode cc pc = .ok (.lreturn, 1)) : W p l e R s m args below meth c s.heap [] 0 0 (MQ below (eP (.long res)) args s 0 0 nof) (F0 m pc ls [.long v]) := by
  subst e1
  exact W.lret hy.1.1 hy.1.2.1 hy.2.1 (fun t ht _ => ⟨rfl, ht⟩) nof_nil hdg hy.2.2.1
theorem p_aret {C : String} (hy : Hy p s m args meth c cc nL (some (.object C)) own G D cl tys NW) {q : Nat} {res : Value} (e1 : .ref q = res) (hdg : decode cc pc = .ok (.areturn, 1)) : W p l e R s m args below meth c s.heap [] 0 0 (MQ below (eP res) args s 0 0 nof) (F0 m pc ls [.ref q]) := by
  subst e1
  exact W.aret hy.1.1 hy.1.2.1 hy.2.1 (Or.inl ⟨C, rfl⟩) (Or.inr ⟨_, rfl⟩) (fun u hu _ => ⟨rfl, hu⟩) nof_nil hdg hy.2.2.1
theorem p_runV {v : Value} (hF : CallFix p m c cc nL s args G own) (hK : zK D cl tys NW s) (hW : Wd D cl A H0 (zw X ad T cf S) H locs) {t : N3} (hM : Met l y (Cond.code y b n ro :: G) { frames := fr, cells := 0, slots := 0, locals := lo } (zPre D cl tys NW (zw X ad T cf S) H.size (.ref (ad t) :: As)) (eP v) 0 0 nof) (cd : cdV G y b n ro np) (hlink : Cond.methodLink own index y ∈ G) (ht : t ∈ T) {T1 : u_T} {N ci : Nat} {fs : List Value} (he : zs cf S t = .inr (ci, fs)) (hc : cl[ci]? = some (y.cls, T1, N))
    (hR : fr + 1 ≤ R.frames ∧ 8 + (n + 11) + lo ≤ R.locals) (hcs : cells ≤ R.cells ∧ slots ≤ R.slots) (hst : st0 = As.reverse ++ .ref (ad t) :: rest) (hnp : As.length = np) (hsz : ls.size = nL) (hroom : (rest.map fun v => v.category).sum ≤ 8) (hdg : decode cc pc = .ok (.invokevirtual index, 3)) :
    va_Run p l e R s m args below meth c H locs cells slots 0 0 (F0 m pc ls st0) rest (eP v (Value.ref (ad t) :: As).toArray) nof := by
  obtain ⟨k, hk⟩ := zw_get (X := X) (ad := ad) (cf := cf) (S := S) ht
  rw [he] at hk
  exact va_runV (As := As) (rest := rest) hF hM (cwV np hF.2.2.2.2 (cd.good hlink) rfl rfl rfl ⟨rfl, cd.2.2.2.2.1⟩ hR) ⟨zPre.blind, va_recv hK.1 hW.1 hc hk, zPre.at hW.1 hW.2.1 hK⟩ rfl hnp hsz hst (lv_room hroom) hdg hcs
theorem p_runS {v : Value} (hF : CallFix p m c cc nL s args G own) (hK : zK D cl tys NW s) (hW : Wd D cl A H0 (zw X ad T cf S) H locs) (hM : Met l y (Cond.code y b n ro :: G) { frames := fr, cells := 0, slots := 0, locals := lo } (zPre D cl tys NW (zw X ad T cf S) H.size As) (eP v) 0 0 nof) (cd : cdS G y b n ro np) (hlink : Cond.methodLink own index y ∈ G)
    (hR : fr + 1 ≤ R.frames ∧ 8 + (n + 11) + lo ≤ R.locals) (hcs : cells ≤ R.cells ∧ slots ≤ R.slots) (hst : st0 = As.reverse ++ rest) (hnp : As.length = np) (hsz : ls.size = nL) (hroom : (rest.map fun v => v.category).sum ≤ 8) (hdg : decode cc pc = .ok (.invokestatic index, 3)) :
    va_Run p l e R s m args below meth c H locs cells slots 0 0 (F0 m pc ls st0) rest (eP v As.toArray) nof :=
  va_runS (As := As) (rest := rest) hF hM (va_cwS np hF.2.2.2.2 (cd.good hlink) rfl rfl rfl cd.2.2.2.1 hR) ⟨zPre.blind, zPre.at hW.1 hW.2.1 hK⟩ rfl hnp hsz hst (lv_room hroom) hdg hcs
theorem p_runSN {host : String} {v : Value} (hF : CallFix p m c cc nL s args G own) (hK : zK D cl tys NW s) (hW : Wd D cl A H0 (zw X ad T cf S) H locs) (hM : Met l y (Cond.code y b n ro :: G) { frames := fr, cells := 0, slots := 0, locals := lo } (zPre D cl tys NW (zw X ad T cf S) H.size As) (eP v) 0 0 nof) (cd : cdS G y b n ro np) (hlink : (own, index, y, host) ∈ NW)
    (hR : fr + 1 ≤ R.frames ∧ 8 + (n + 11) + lo ≤ R.locals) (hcs : cells ≤ R.cells ∧ slots ≤ R.slots) (hst : st0 = As.reverse ++ rest) (hnp : As.length = np) (hsz : ls.size = nL) (hroom : (rest.map fun v => v.category).sum ≤ 8) (hdg : decode cc pc = .ok (.invokestatic index, 3)) :
    va_Run p l e R s m args below meth c H locs cells slots 0 0 (F0 m pc ls st0) rest (eP v As.toArray) nof :=
  va_runSN (As := As) (rest := rest) hF hM ⟨va_cnB np hF.2.2.2.2 cd.goodN rfl rfl rfl (hK.2 _ hlink) (hF.2.2.2.2 _ cd.2.2.1) cd.2.2.2.1 hR, hF.2.2.2.2 _ cd.2.1, trivial⟩ ⟨zPre.blind, zPre.at hW.1 hW.2.1 hK⟩ rfl hnp hsz hst (lv_room hroom) hdg hcs
/-- behind a call that writes nothing: the same heap -/
theorem p_go {a : Array Value} {v v0 : Value} (ev : v = v0) (hr : va_Run p l e R s m args below meth c H locs cells slots 0 0 (F0 m pc ls st0) rest (eP v0 a) nof)
    (kk : W p l e R s m args below meth c H locs cells slots Q (F0 m (pc + 3) ls (v :: rest))) : W p l e R s m args below meth c H locs cells slots Q (F0 m pc ls st0) := by
  subst ev
  intro T hT X
  obtain ⟨v', st₀, t, T', L, h0, X', hL, e1, e2, ⟨ho, hh⟩, st⟩ := hr T hT X
  cases ho
  have hLn : L = [] := by
    cases L with
    | nil => rfl
    | cons q l => exact (hL q List.mem_cons_self).elim
  subst hLn
  rw [List.append_nil] at X'
  obtain ⟨t2, a1, b1⟩ := kk T' (by rw [e1, hh, h0]) X'
  exact ⟨t2, st t2 a1, b1⟩
end ZP
