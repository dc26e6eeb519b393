/-! The law: the class's world and the reference's, side by side. -/
theorem zw_adr {ad : N3 → Nat} {T : List N3} {cf : Cf} {S : St} {x : Nat × va_E} (h : x ∈ zw [] ad T cf S) : ∃ t ∈ T, x.1 = ad t := by
  obtain ⟨t, ht, rfl⟩ := List.mem_map.mp (show x ∈ T.map (fun t => (ad t, zs cf S t)) from h)
  exact ⟨t, ht, rfl⟩
theorem Wd.beside {D D' : va_G} {cl cl' : List vw_C} {A : Nat → Prop} {H0 H H1 : Heap} {ws ws' w2 : va_W} {locs locs1 : List Loc} (h' : Wd D' cl' A H0 ws' H locs) (h1 : Wd D cl A H0 w2 H1 locs1) (hk : ∀ q : Nat, q < H.size → ¬ va_A ws H.size q → H1[q]? = H[q]?) (hap : ∀ x ∈ ws', ∀ y ∈ ws, x.1 ≠ y.1) : Wd D' cl' A H0 ws' H1 locs1 := by
  refine ⟨h'.1.kept (fun k q hq => ?_), h'.2.1, h1.2.2⟩
  have hlt := (h'.1 k q hq).lt
  refine hk q.1 hlt (fun z => ?_)
  rcases z with ⟨j, e, hj⟩ | z
  · exact hap q (List.mem_of_getElem? hq) (q.1, e) (List.mem_of_getElem? hj) rfl
  · omega
section LWA
variable {p : Program} {l : Launch} {e : Env} {R : Room} {s : State} {m : MethodId} {args : Array Value} {below : List Frame} {meth : Method} {c : Code} {H : Heap} {locs : List Loc} {cells slots : Nat} {Q : State → Prop}
variable {cc : ByteArray} {pc nL : Nat} {ls : Array Slot} {rest st0 : List Value} {D : va_G} {cl : List vw_C} {A : Nat → Prop} {tys : List (ClassId × FieldType)} {NW : List (String × Nat × MethodName × String)} {H0 : Heap} {X : va_W} {ad : N3 → Nat} {T : List N3} {cf : Cf} {S : St} {G : List Cond} {own : String}
variable {y : MethodName} {b : ByteArray} {n np index fr lo mc ms : Nat} {hh : List (Nat × Nat × Nat × Nat)} {As : List Value}
theorem k_goI {a : Array Value} {res : Int32 × St} {v : Int32} {z : St} (hW : Wd D cl A H0 (zw X ad T cf S) H locs) (hA : ∀ q, H0.size ≤ q → A q) (ez : res = (v, z)) (hr : va_Run p l e R s m args below meth c H locs cells slots mc ms (F0 m pc ls st0) rest (eI D cl X ad T cf (va_A (zw X ad T cf S) H.size) res a) (va_A (zw X ad T cf S) H.size))
    (kk : ∀ (H1 : Heap) (locs1 : List Loc), Wd D cl A H0 (zw X ad T cf z) H1 locs1 → (∀ q : Nat, q < H.size → ¬ va_A (zw X ad T cf S) H.size q → H1[q]? = H[q]?) → W p l e R s m args below meth c H1 locs1 (cells + mc) (slots + ms) Q (F0 m (pc + 3) ls (.int v :: rest))) : W p l e R s m args below meth c H locs cells slots Q (F0 m pc ls st0) := by
  subst ez
  have hf := hW.free hA
  refine va_calli hr hW.2.2 (fun q _ h => hf q h) hf (fun r u t H1 locs1 ht _ hp hB _ hk hS => ?_)
  obtain ⟨rfl, rfl⟩ := hp
  exact kk H1 locs1 (hB.wd ht hf hS) hk
theorem k_goL {a : Array Value} {res : Int64 × St} {v : Int64} {z : St} (hW : Wd D cl A H0 (zw X ad T cf S) H locs) (hA : ∀ q, H0.size ≤ q → A q) (ez : res = (v, z)) (hr : va_Run p l e R s m args below meth c H locs cells slots mc ms (F0 m pc ls st0) rest (eL D cl X ad T cf (va_A (zw X ad T cf S) H.size) res a) (va_A (zw X ad T cf S) H.size))
    (kk : ∀ (H1 : Heap) (locs1 : List Loc), Wd D cl A H0 (zw X ad T cf z) H1 locs1 → (∀ q : Nat, q < H.size → ¬ va_A (zw X ad T cf S) H.size q → H1[q]? = H[q]?) → W p l e R s m args below meth c H1 locs1 (cells + mc) (slots + ms) Q (F0 m (pc + 3) ls (.long v :: rest))) : W p l e R s m args below meth c H locs cells slots Q (F0 m pc ls st0) := by
  subst ez
  have hf := hW.free hA
  refine va_calll hr hW.2.2 (fun q _ h => hf q h) hf (fun r u t H1 locs1 ht _ hp hB _ hk hS => ?_)
  obtain ⟨rfl, rfl⟩ := hp
  exact kk H1 locs1 (hB.wd ht hf hS) hk
theorem k_new {a : Array Value} {q : Nat × va_E} {ws : va_W} {Tn : List N3} (hW : Wd D cl A H0 (q :: ws) H locs) (hA : ∀ q, H0.size ≤ q → A q) (hr : va_Run p l e R s m args below meth c H locs cells slots mc ms (F0 m pc ls st0) rest (eN D cl (zw ws ad Tn cf S) (va_A (q :: ws) H.size) a) (va_A (q :: ws) H.size))
    (kk : ∀ (H1 : Heap) (locs1 : List Loc), Wd D cl A H0 (zw ws ad Tn cf S) H1 locs1 → (∀ q9 : Nat, q9 < H.size → ¬ va_A (q :: ws) H.size q9 → H1[q9]? = H[q9]?) → W p l e R s m args below meth c H1 locs1 (cells + mc) (slots + ms) Q (F0 m (pc + 3) ls rest)) : W p l e R s m args below meth c H locs cells slots Q (F0 m pc ls st0) := by
  have hf := hW.free hA
  refine va_callv hr hW.2.2 (fun q _ h => hf q h) hf (fun u t H1 locs1 ht _ _ hB _ hk hS => ?_)
  exact kk H1 locs1 ⟨by rw [← ht]; exact hB.1, hB.2.weaken (fun _ _ _ z => hf _ z), hS⟩ hk
theorem k_init {a : Nat} {e0 : va_E} {ws : va_W} {Tn : List N3} {sz : Nat} {AO : List String} (hF : CallFix p m c cc nL s args G own) (hK : zK D cl tys NW s) (hO : ∀ C ∈ AO, va_AO C s) (hW : Wd D cl A H0 ((a, e0) :: ws) H locs) (hA : ∀ q, H0.size ≤ q → A q) (hM : cN l G D cl tys NW AO ad cf S y b n fr lo mc ms (a, e0) sz (.ref a :: As) Tn) (hh : H.size = sz) (cd : cdI G y b n np) (hlink : Cond.methodLink own index y ∈ G)
    (hR : fr + 1 ≤ R.frames ∧ 8 + (n + 11) + lo ≤ R.locals) (hcs : cells + mc ≤ R.cells ∧ slots + ms ≤ R.slots) (hst : st0 = As.reverse ++ .ref a :: rest) (hnp : As.length = np) (hsz : ls.size = nL) (hroom : (rest.map fun v => v.category).sum ≤ 8) (hdg : decode cc pc = .ok (.invokespecial index, 3))
    (kk : ∀ (H1 : Heap) (locs1 : List Loc), Wd D cl A H0 (zw ws ad Tn cf S) H1 locs1 → (∀ q9 : Nat, q9 < H.size → ¬ va_A ((a, e0) :: ws) H.size q9 → H1[q9]? = H[q9]?) → W p l e R s m args below meth c H1 locs1 (cells + mc) (slots + ms) Q (F0 m (pc + 3) ls rest)) : W p l e R s m args below meth c H locs cells slots Q (F0 m pc ls st0) := by
  subst hh
  refine k_new (mc := mc) (ms := ms) hW hA (va_runI (As := As) (rest := rest) hF (hM ws) (cwI np hF.2.2.2.2 cd.good rfl rfl rfl (hF.2.2.2.2 _ cd.2.2.1) (hF.2.2.2.2 _ hlink) (hF.2.2.2.2 _ cd.2.1) cd.2.2.2.2.1 cd.2.2.2.1 hR) ⟨nPre.blind, fun U hU hWm => ⟨zPre.at hW.1 hW.2.1 hK U hU hWm, fun C hC => va_AO.moved hWm.alike (hO C hC)⟩⟩ rfl hnp hsz hst (lv_room hroom) hdg hcs) kk
theorem w_run {res : Int32 × St} (hF : CallFix p m c cc nL s args G own) (hK : zK D cl tys NW s) (hW : Wd D cl A H0 (zw X ad T cf S) H locs) (hX : ∀ U : State, U.heap = H → s.WarmedH U.vm → XF U) (hN : va_Nc xIS xIA s) (hM : cWr l G D cl tys NW X ad T cf y b n hh fr lo As S res) (cd : cdW G y b n hh np) (hlink : Cond.methodLink own index y ∈ G)
    (hR : fr + 1 ≤ R.frames ∧ 8 + (n + 11) + lo ≤ R.locals) (hcs : cells + 1 ≤ R.cells ∧ slots + 6 ≤ R.slots) (hst : st0 = As.reverse ++ rest) (hnp : As.length = np) (hsz : ls.size = nL) (hroom : (rest.map fun v => v.category).sum ≤ 8) (hdg : decode cc pc = .ok (.invokestatic index, 3)) :
    va_Run p l e R s m args below meth c H locs cells slots 1 6 (F0 m pc ls st0) rest (eI D cl X ad T cf (va_A (zw X ad T cf S) H.size) res As.toArray) (va_A (zw X ad T cf S) H.size) := by
  obtain ⟨hcode, hstat, hini, hd, hgood⟩ := cd
  have hw : ∀ w ∈ G, ∀ (a' : Array Value) (U : State), s.WarmedH U.vm → w.before a' U = true := fun w hw a' U hU => word_at hU (good_of_word (hgood w hw)) (hF.2.2.2.2 w hw)
  have hB : Back l R p e below s args y 3 8 (PreOf R 1 6 (wPre D cl tys NW (zw X ad T cf S) H.size As)) (PostOf (eI D cl X ad T cf (va_A (zw X ad T cf S) H.size) res) 1 6 (va_A (zw X ad T cf S) H.size)) :=
    va_backW (bytes := b) (maxL := n) (ret := some .int) (hh := hh) (hM H.size) wPre.blind rfl rfl hR.1 hR.2 (fun w h => (List.mem_cons.mp h).elim (fun e9 => by rw [e9]; exact hw _ hcode) (hw w)) List.mem_cons_self (fun a' U hU => hw _ hini a' U hU)
  obtain ⟨mk, methM, cM, hnamed, hmethM, -, -, -, -, -, -, hsigM⟩ := Cond.codeWith_spec (hF.2.2.2.2 _ hcode)
  have hstatic : methM.isStatic = true := Cond.static_spec hnamed hmethM (hF.2.2.2.2 _ hstat)
  obtain ⟨kP, hkP, -⟩ := className_of_methodNamed hnamed
  have hinitP : kP.init = .initialized := Cond.initialized_spec (findClass_of_methodNamed hnamed) hkP (hF.2.2.2.2 _ hini)
  have hlen : As.length = methM.sig.parameters.length := by
    have h2 := hd.2.2
    rw [hsigM] at h2
    exact hnp.trans (Option.some.inj h2).symm
  intro T0 hT Z
  obtain ⟨vm₁, X₁, hstep₁⟩ := Z.invokestatic hF.1 hF.2.2.2.1 (hF.2.2.2.2 _ hlink) hnamed hmethM hstatic hkP hinitP ⟨hd.1, hd.2.1⟩ (g := F0 m pc ls st0) rfl (argsL := As) (rest := rest) hlen hst (by rw [hF.2.1]; exact hdg)
  obtain ⟨v, ⟨U', l2, c2, s2⟩, X', ⟨g', mk', t, L, e1, e2, hq, h1, hL, h2, h3⟩, hsteps⟩ := hB m meth c ⟨T0.setVm vm₁, locs, cells, slots⟩ (F0 m pc ls rest) (.invokestatic index) mk As.toArray X₁ rfl (hsz.trans hF.2.2.1.symm) (by rw [hF.2.1]; exact hdg) (lv_room hroom) (X₁.named hnamed) ⟨hcs.1, hcs.2, zPre.at hW.1 hW.2.1 hK _ hT X₁.warmed, hX _ hT X₁.warmed, va_Nc.moved X₁.warmed.alike hN⟩
  dsimp only [Pt.U, Pt.locs, Pt.cells, Pt.slots] at X' e1 e2 h1 h2 h3 hsteps
  subst h1
  subst h2
  subst h3
  exact ⟨v, (T0.setVm vm₁).calling g' mk' As.toArray, t, U', L, hT, X', hL, e1, e2, hq, fun target h => hstep₁ _ fun acts => by rw [doInvoke_state]; exact hsteps.trans h⟩
end LWA
theorem offq : ∀ t ∈ TQ, offQ t.1 t.2.1 t.2.2 < 208 ∨ offQ t.1 t.2.1 t.2.2 = 244 := by decide +kernel
theorem offm : ∀ t ∈ TM, t.1 - 1 < 36 := by decide +kernel
theorem apart {b0 : Nat} {t t' : N3} (h : t ∈ TQ) (h' : t' ∈ TM) : adQ b0 t ≠ adM (b0 + 208) t' := by
  have h1 := offq t h
  have h2 := offm t' h'
  show b0 + offQ t.1 t.2.1 t.2.2 ≠ b0 + 208 + (t'.1 - 1)
  omega
abbrev wQ (b0 : Nat) (ca : Nat → ClassId) (S : St) : va_W := zw [] (adQ b0) TQ (cfQ (adQ b0) ca) S
abbrev wM (b0 : Nat) (ca : Nat → ClassId) (U : St) : va_W := zw [] (adM (b0 + 208)) TM (cfM (adM (b0 + 208)) ca) U
/-- both worlds -/
def WW (D D2 : va_G) (ca ca2 : Nat → ClassId) (b0 : Nat) (A : Nat → Prop) (H0 : Heap) (S U : St) (H : Heap) (locs : List Loc) : Prop := Wd D clQ A H0 (wQ b0 ca S) H locs ∧ Wd D2 clM A H0 (wM b0 ca2 U) H locs
section LWB
variable {p : Program} {l : Launch} {e : Env} {R : Room} {s : State} {m : MethodId} {args : Array Value} {below : List Frame} {meth : Method} {c : Code} {H : Heap} {locs : List Loc} {cells slots : Nat} {Q : State → Prop}
variable {pc : Nat} {ls : Array Slot} {rest st0 : List Value} {D D2 : va_G} {A : Nat → Prop} {H0 : Heap} {S U : St} {ca ca2 : Nat → ClassId} {b0 mc ms : Nat} {a : Array Value}
theorem x_goI {res : Int32 × St} {v : Int32} {z : St} (hW : WW D D2 ca ca2 b0 A H0 S U H locs) (hA : ∀ q, H0.size ≤ q → A q) (ez : res = (v, z)) (hr : va_Run p l e R s m args below meth c H locs cells slots mc ms (F0 m pc ls st0) rest (eI D clQ [] (adQ b0) TQ (cfQ (adQ b0) ca) (va_A (wQ b0 ca S) H.size) res a) (va_A (wQ b0 ca S) H.size))
    (kk : ∀ (H1 : Heap) (locs1 : List Loc), WW D D2 ca ca2 b0 A H0 z U H1 locs1 → W p l e R s m args below meth c H1 locs1 (cells + mc) (slots + ms) Q (F0 m (pc + 3) ls (.int v :: rest))) : W p l e R s m args below meth c H locs cells slots Q (F0 m pc ls st0) :=
  k_goI hW.1 hA ez hr fun H1 locs1 h1 hk => kk H1 locs1 ⟨h1, hW.2.beside h1 hk fun x hx y hy => by
    obtain ⟨t, ht, e1⟩ := zw_adr hx
    obtain ⟨t', ht', e2⟩ := zw_adr hy
    rw [e1, e2]
    exact (apart ht' ht).symm⟩
theorem m_goI {res : Int32 × St} {v : Int32} {z : St} (hW : WW D D2 ca ca2 b0 A H0 S U H locs) (hA : ∀ q, H0.size ≤ q → A q) (ez : res = (v, z)) (hr : va_Run p l e R s m args below meth c H locs cells slots mc ms (F0 m pc ls st0) rest (eI D2 clM [] (adM (b0 + 208)) TM (cfM (adM (b0 + 208)) ca2) (va_A (wM b0 ca2 U) H.size) res a) (va_A (wM b0 ca2 U) H.size))
    (kk : ∀ (H1 : Heap) (locs1 : List Loc), WW D D2 ca ca2 b0 A H0 S z H1 locs1 → W p l e R s m args below meth c H1 locs1 (cells + mc) (slots + ms) Q (F0 m (pc + 3) ls (.int v :: rest))) : W p l e R s m args below meth c H locs cells slots Q (F0 m pc ls st0) :=
  k_goI hW.2 hA ez hr fun H1 locs1 h1 hk => kk H1 locs1 ⟨hW.1.beside h1 hk fun x hx y hy => by
    obtain ⟨t, ht, e1⟩ := zw_adr hx
    obtain ⟨t', ht', e2⟩ := zw_adr hy
    rw [e1, e2]
    exact apart ht ht', h1⟩
theorem m_goL {res : Int64 × St} {v : Int64} {z : St} (hW : WW D D2 ca ca2 b0 A H0 S U H locs) (hA : ∀ q, H0.size ≤ q → A q) (ez : res = (v, z)) (hr : va_Run p l e R s m args below meth c H locs cells slots mc ms (F0 m pc ls st0) rest (eL D2 clM [] (adM (b0 + 208)) TM (cfM (adM (b0 + 208)) ca2) (va_A (wM b0 ca2 U) H.size) res a) (va_A (wM b0 ca2 U) H.size))
    (kk : ∀ (H1 : Heap) (locs1 : List Loc), WW D D2 ca ca2 b0 A H0 S z H1 locs1 → W p l e R s m args below meth c H1 locs1 (cells + mc) (slots + ms) Q (F0 m (pc + 3) ls (.long v :: rest))) : W p l e R s m args below meth c H locs cells slots Q (F0 m pc ls st0) :=
  k_goL hW.2 hA ez hr fun H1 locs1 h1 hk => kk H1 locs1 ⟨hW.1.beside h1 hk fun x hx y hy => by
    obtain ⟨t, ht, e1⟩ := zw_adr hx
    obtain ⟨t', ht', e2⟩ := zw_adr hy
    rw [e1, e2]
    exact apart ht ht', h1⟩
end LWB
