/-! The law's start: what the tables say; the two objects. -/
section LWE
variable {p : Program} {l : Launch} {e : Env} {R : Room} {s : State} {m : MethodId} {args : Array Value} {below : List Frame} {meth : Method} {c : Code} {H : Heap} {locs : List Loc} {cells slots : Nat} {Q : State → Prop}
variable {cc : ByteArray} {pc nL h : Nat} {ls : Array Slot} {rest st0 : List Value} {D : va_G} {cl : List vw_C} {A : Nat → Prop} {tys : List (ClassId × FieldType)} {H0 : Heap} {ws : va_W} {G : List Cond} {own : String}
theorem k_newo (hF : CallFix p m c cc nL s args G own) (hK : va_K D cl tys s) (hW : Wd D cl A H0 ws H locs) (hA : ∀ q, H0.size ≤ q → A q) (hh : H.size = h) {C : String} {T1 : u_T} {N ci index : Nat} (hin : ∀ w ∈ u_ws C T1 N, w ∈ G) (ty : Nat → FieldType) (hty : ∀ k, k < N → parseFieldDescriptor (T1 k).2.2.1 = some (ty k)) (hcl : Cond.classLink own index C ∈ G) (hinst : Cond.instantiable C N ∈ G) (hini : Cond.initialized C ∈ G) (hc : cl[ci]? = some (C, T1, N)) {fs : List Value} (hfs : ∀ j, j < N → defaultValue (ty j) = vp_V fs j) (hcells : cells + 1 ≤ R.cells) (hslots : slots + N ≤ R.slots) (hdg : decode cc pc = .ok (.new index, 3))
    (kk : ∀ H1 : Heap, H1.size = h + 1 → (∀ q : Nat, q < H.size → H1[q]? = H[q]?) → Wd D cl A H0 ((h, .inr (ci, fs)) :: ws) H1 locs → W p l e R s m args below meth c H1 locs (cells + 1) (slots + N) Q (F0 m (pc + 3) ls (.ref h :: rest))) : W p l e R s m args below meth c H locs cells slots Q (F0 m pc ls rest) := by
  subst hh
  have hKn := hK.1 ci _ hc
  refine W.newcK hF.1 hF.2.1 hF.2.2.2.1 (hF.2.2.2.2 _ hcl) (hF.2.2.2.2 _ hinst) (hF.2.2.2.2 _ hini) rfl hdg hcells hslots hKn.2.1 rfl fun H1 kC hkC e1 z1 o1 => ?_
  exact kk H1 z1 o1 (nWd hW hA z1 o1 ⟨_, hc, (u_born ty hF.2.2.2.2 hin hKn hkC e1 hty).to hfs⟩)
theorem k_newa (hF : CallFix p m c cc nL s args G own) (hK : va_K D cl tys s) (hW : Wd D cl A H0 ws H locs) (hA : ∀ q, H0.size ≤ q → A q) (hh : H.size = h) {atype : ArrayType} {ty : FieldType} (hty : newarray.typeOf atype = ty) (harr : Cond.arrayClass ty ∈ G) (t0 : Nat) {cA : ClassId} (ht : tys[t0]? = some (cA, ty)) (hr : ∀ C, ty ≠ .object C) {n : Int32} {N : Nat} {a0 : vp_A} (ha : vp_cell cA a0 = arrV cA N (fun _ => defaultValue ty)) (hn : ¬ n < 0) (hN : n.toNatClampNeg = N) (hbytes : N * componentBytes ty ≤ 536870912) (hcells : cells + 1 ≤ R.cells) (hslots : slots + N ≤ R.slots) (hdg : decode cc pc = .ok (.newarray atype, 2))
    (kk : ∀ H1 : Heap, H1.size = h + 1 → (∀ q : Nat, q < H.size → H1[q]? = H[q]?) → Wd D cl A H0 ((h, .inl (cA, a0)) :: ws) H1 locs → W p l e R s m args below meth c H1 locs (cells + 1) (slots + N) Q (F0 m (pc + 2) ls (.ref h :: rest))) : W p l e R s m args below meth c H locs cells slots Q (F0 m pc ls (.int n :: rest)) := by
  subst hh
  subst hty
  refine va_newaK hF.1 hF.2.1 (hF.2.2.2.2 _ harr) rfl hdg rfl hn hN hbytes hcells hslots rfl fun H1 cB e1 z1 o1 _ hNm => ?_
  have hcA : cA = cB := by
    have h9 := (hK.2 t0 _ ht).2
    cases hq : newarray.typeOf atype with
    | object C => exact absurd hq (hr C)
    | _ =>
      rw [hq] at h9 hNm
      exact Option.some.inj (Eq.trans (Eq.symm h9) hNm)
  subst hcA
  exact kk H1 z1 o1 (nWd hW hA z1 o1 (by show H1[H.size]? = some (vp_cell _ _); rw [ha]; exact e1))
theorem Wd.stay {D' : va_G} {cl' : List vw_C} {ws' w2 : va_W} {H1 : Heap} {locs1 : List Loc} (h' : Wd D' cl' A H0 ws' H locs) (hk : ∀ q : Nat, q < H.size → H1[q]? = H[q]?) (h1 : Wd D cl A H0 w2 H1 locs1) : Wd D' cl' A H0 ws' H1 locs1 :=
  ⟨h'.1.kept (fun k q hq => hk q.1 (h'.1 k q hq).lt), h'.2.1, h1.2.2⟩
theorem Wd.under (hW : Wd D cl A H0 ws H locs) {x : Nat × va_E} (hx : x ∈ ws) : x.1 < H.size := by
  obtain ⟨k, hk⟩ := List.getElem?_of_mem hx
  exact (hW.1 k x hk).lt
theorem Wd.none (hS : va_S A H0 H locs) : Wd D cl A H0 [] H locs := ⟨fun k q hk => (nomatch hk), ⟨fun i j x y hi _ _ => (nomatch hi), fun k q hk => (nomatch hk)⟩, hS⟩
/-- the classes' numbers and places -/
theorem known (hts : ∀ w ∈ GG, w.before args s = true) (cl : List vw_C) (hc : ∀ q ∈ cl, (∀ w ∈ u_ws q.1 q.2.1 q.2.2, w ∈ GG) ∧ ∃ n, Cond.instantiable q.1 n ∈ GG) : ∃ D : va_G, ∀ (k : Nat) (q : vw_C), cl[k]? = some q → u_Kn s q.1 q.2.1 q.2.2 (D.1 k) (D.2 k) := by
  have hex : ∀ k : Nat, ∃ z : ClassId × (Nat → Nat), ∀ q : vw_C, cl[k]? = some q → u_Kn s q.1 q.2.1 q.2.2 z.1 z.2 := by
    intro k
    cases hk : cl[k]? with
    | none => exact ⟨(0, fun _ => 0), fun q h => (nomatch h)⟩
    | some q =>
      obtain ⟨h1, n, h2⟩ := hc q (List.mem_of_getElem? hk)
      obtain ⟨cC, iS, h3⟩ := u_known hts h1 (hts _ h2)
      exact ⟨(cC, iS), fun q' h => by cases h; exact h3⟩
  exact ⟨(fun k => (Classical.choose (hex k)).1, fun k => (Classical.choose (hex k)).2), fun k q hk => Classical.choose_spec (hex k) q hk⟩
theorem arr_of {ty : FieldType} (h : (Cond.arrayClass ty).before args s = true) (hr : ∀ C, ty ≠ .object C) : ∃ cA : ClassId, ArrOfT s cA ty ∧ va_RA s cA ty := by
  obtain ⟨cA, kA, comp, h1, h2, h3⟩ := Cond.arrayClass_spec h
  refine ⟨cA, fun n z => ⟨fun k h => (by cases h), kA, h2, comp, h3⟩, ?_⟩
  cases ty with
  | object C => exact absurd rfl (hr C)
  | _ => exact h1
theorem arr_obj {C : String} (h : (Cond.arrayOver (.object C)).before args s = true) : ∃ cA : ClassId, ArrOfT s cA (.object C) ∧ va_RA s cA (.object C) := by
  obtain ⟨comp, cA, kA, h1, -, h2, h3, h4⟩ := Cond.arrayOver_spec h
  exact ⟨cA, fun n z => ⟨fun k h => (by cases h), kA, h2, comp, h3⟩, kA, comp, h2, h3, h1, h4⟩
end LWE
theorem clQ_in : ∀ q ∈ clQ, (∀ w ∈ u_ws q.1 q.2.1 q.2.2, w ∈ GG) ∧ ∃ n, Cond.instantiable q.1 n ∈ GG := by
  intro q hq
  simp only [clQ, List.mem_cons, List.not_mem_nil, or_false] at hq
  rcases hq with rfl | rfl | rfl | rfl | rfl | rfl | rfl | rfl | rfl | rfl
  · exact ⟨in_QC, 7, gw_73⟩
  · exact ⟨in_Node, 12, gw_164⟩
  · exact ⟨in_Store, 8, gw_199⟩
  · exact ⟨in_Accounts, 2, gw_205⟩
  · exact ⟨in_KeyTree, 4, gw_220⟩
  · exact ⟨in_Inbox, 2, gw_170⟩
  · exact ⟨in_Message, 6, gw_131⟩
  · exact ⟨in_Tally, 1, gw_189⟩
  · exact ⟨in_Blocks, 5, gw_83⟩
  · exact ⟨in_Transactions, 5, gw_108⟩
theorem clM_in : ∀ q ∈ clM, (∀ w ∈ u_ws q.1 q.2.1 q.2.2, w ∈ GG) ∧ ∃ n, Cond.instantiable q.1 n ∈ GG := by
  intro q hq
  simp only [clM, List.mem_cons, List.not_mem_nil, or_false] at hq
  subst hq
  exact ⟨in_M, 43, gw_847⟩
theorem tb_nest : (∀ q ∈ nwQ, Cond.methodLinkNest q.1 q.2.1 q.2.2.1 q.2.2.2 ∈ lw_tbl) ∧ ∀ q ∈ nwN, Cond.methodLinkNest q.1 q.2.1 q.2.2.1 q.2.2.2 ∈ lw_tbl := by decide +kernel
theorem tb_over : ∀ C ∈ aoN, Cond.arrayOver (.object C) ∈ lw_tbl := by decide +kernel
theorem tb_str : ∀ q ∈ xStr, Cond.stringRef "QuorumChain" q.1 q.2 ∈ lw_tbl := by decide +kernel
theorem nr_str : ∀ q ∈ xStr, Cond.exactly (.string "QuorumChain" q.1) "java/lang/String" ∈ flatC (Jvm.Cond.and given_1 narrow_1) := by decide +kernel
theorem tb_x : ∀ w ∈ xW, w ∈ lw_tbl ∨ w ∈ flatC (Jvm.Cond.and given_1 narrow_1) := by decide +kernel
theorem nr_cast : Cond.not (.castable xIS xIA) ∈ flatC (Jvm.Cond.and given_1 narrow_1) := by decide +kernel
theorem xH_off {w : Cond} (h : w ∈ xH) {B : Array Value} {U : State} (hb : w.before B U = true) : w.before #[] U = true := by
  simp only [xH, List.mem_cons, List.not_mem_nil, or_false] at h
  rcases h with rfl | rfl | rfl | rfl <;> exact hb
/-- the words of a throw hold at the law's start -/
theorem xf_start {s : State} {B : Array Value} (hts : ∀ w ∈ lw_tbl, w.before B s = true) (hgv : (Jvm.Cond.and given_1 narrow_1).before B s = true) : XF s := by
  have hs := flat_of_before _ hgv
  refine ⟨fun w hw => ?_, fun q hq => ?_⟩
  · have hb : w.before B s = true := (tb_x w hw).elim (hts w) (hs w)
    exact (xW_kind w hw).elim (fun ho => va_tabs ho rfl hb) (fun hh => xH_off hh hb)
  · obtain ⟨a, c, cell, k, h1, -⟩ := Cond.exactly_spec (hs _ (nr_str q hq))
    exact ⟨a, vk_R.of (hts _ (tb_str q hq)) h1⟩
