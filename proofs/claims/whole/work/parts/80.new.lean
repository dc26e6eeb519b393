/-! Constructors: new cells stand at the head of the world, at the address that the heap's size says. -/
theorem nP_cons {D : va_G} {cl : List vw_C} {ws : va_W} {H : Heap} {q : Nat × va_E} (h : va_P D cl ws H) (hx : va_at D cl q H) : va_P D cl (q :: ws) H := by
  intro k x hk
  cases k with
  | zero => cases hk; exact hx
  | succ k => exact h k x hk
theorem nD_cons {A : Nat → Prop} {ws : va_W} {q : Nat × va_E} (hD : va_D A ws) (hn : ∀ (k : Nat) (x : Nat × va_E), ws[k]? = some x → x.1 ≠ q.1) (hA : A q.1) : va_D A (q :: ws) := by
  refine ⟨fun i j x z hi hj e => ?_, fun k x hk => ?_⟩
  · cases i with
    | zero =>
      cases j with
      | zero => rfl
      | succ j =>
        cases hi
        exact absurd e.symm (hn j z hj)
    | succ i =>
      cases j with
      | zero =>
        cases hj
        exact absurd e (hn i x hi)
      | succ j => exact congrArg (· + 1) (hD.1 i j x z hi hj e)
  · cases k with
    | zero => cases hk; exact hA
    | succ k => exact hD.2 k x hk
theorem nWd {D : va_G} {cl : List vw_C} {A : Nat → Prop} {H0 H H1 : Heap} {ws : va_W} {locs : List Loc} {x : va_E} (hW : Wd D cl A H0 ws H locs) (hA : ∀ q, H0.size ≤ q → A q) (z : H1.size = H.size + 1) (o : ∀ q : Nat, q < H.size → H1[q]? = H[q]?) (hx : va_at D cl (H.size, x) H1) : Wd D cl A H0 ((H.size, x) :: ws) H1 locs :=
  ⟨nP_cons (hW.1.kept (fun k q hk => o q.1 ((hW.1 k q hk).lt))) hx, nD_cons hW.2.1 (fun k q hk => Nat.ne_of_lt ((hW.1 k q hk).lt)) (hA _ hW.2.2.1), Nat.le_trans hW.2.2.1 (by omega), fun q h1 h2 => (o q (Nat.lt_of_lt_of_le h1 hW.2.2.1)).trans (hW.2.2.2.1 q h1 h2), hW.2.2.2.2⟩
section ZN
variable {p : Program} {l : Launch} {e : Env} {R : Room} {s : State} {m : MethodId} {args : Array Value} {below : List Frame} {meth : Method} {c : Code} {H : Heap} {locs : List Loc} {cells slots : Nat} {Q : State → Prop}
variable {cc : ByteArray} {pc nL h : Nat} {ls : Array Slot} {rest st0 : List Value} {D : va_G} {cl : List vw_C} {A : Nat → Prop} {tys : List (ClassId × FieldType)} {NW : List (String × Nat × MethodName × String)} {H0 : Heap} {ws : va_W} {G : List Cond} {own : String}
theorem n_new (hF : CallFix p m c cc nL s args G own) (hK : va_K D cl tys s) (hW : Wd D cl A H0 ws H locs) (hA : ∀ q, H0.size ≤ q → A q) (hh : H.size = h) {C : String} {T1 : u_T} {N ci index : Nat} (hin : ∀ w ∈ u_ws C T1 N, w ∈ G) (ty : Nat → FieldType) (hty : ∀ k, k < N → parseFieldDescriptor (T1 k).2.2.1 = some (ty k)) (hcl : Cond.classLink own index C ∈ G) (hinst : Cond.instantiable C N ∈ G) (hini : Cond.initialized C ∈ G) (hc : cl[ci]? = some (C, T1, N)) {fs : List Value} (hfs : ∀ j, j < N → defaultValue (ty j) = vp_V fs j) (hcells : cells + 1 ≤ R.cells) (hslots : slots + N ≤ R.slots) (hdg : decode cc pc = .ok (.new index, 3))
    (kk : ∀ H1 : Heap, H1.size = h + 1 → Wd D cl A H0 ((h, .inr (ci, fs)) :: ws) H1 locs → W p l e R s m args below meth c H1 locs (cells + 1) (slots + N) Q (F0 m (pc + 3) ls (.ref h :: rest))) : W p l e R s m args below meth c H locs cells slots Q (F0 m pc ls rest) := by
  subst hh
  have hKn := hK.1 ci _ hc
  refine W.newcK hF.1 hF.2.1 hF.2.2.2.1 (hF.2.2.2.2 _ hcl) (hF.2.2.2.2 _ hinst) (hF.2.2.2.2 _ hini) rfl hdg hcells hslots hKn.2.1 rfl fun H1 kC hkC e1 z1 o1 => ?_
  exact kk H1 z1 (nWd hW hA z1 o1 ⟨_, hc, (u_born ty hF.2.2.2.2 hin hKn hkC e1 hty).to hfs⟩)
theorem n_newa (hF : CallFix p m c cc nL s args G own) (hK : va_K D cl tys s) (hW : Wd D cl A H0 ws H locs) (hA : ∀ q, H0.size ≤ q → A q) (hh : H.size = h) {atype : ArrayType} {ty : FieldType} (hty : newarray.typeOf atype = ty) (harr : Cond.arrayClass ty ∈ G) (t0 : Nat) {cA : ClassId} (ht : tys[t0]? = some (cA, ty)) (hr : ∀ C, ty ≠ .object C) {n : Int32} {N : Nat} {a0 : vp_A} (ha : vp_cell cA a0 = arrV cA N (fun _ => defaultValue ty)) (hn : ¬ n < 0) (hN : n.toNatClampNeg = N) (hbytes : N * componentBytes ty ≤ 536870912) (hcells : cells + 1 ≤ R.cells) (hslots : slots + N ≤ R.slots) (hdg : decode cc pc = .ok (.newarray atype, 2))
    (kk : ∀ H1 : Heap, H1.size = h + 1 → Wd D cl A H0 ((h, .inl (cA, a0)) :: ws) H1 locs → W p l e R s m args below meth c H1 locs (cells + 1) (slots + N) Q (F0 m (pc + 2) ls (.ref h :: rest))) : W p l e R s m args below meth c H locs cells slots Q (F0 m pc ls (.int n :: rest)) := by
  subst hh
  subst hty
  refine va_newaK hF.1 hF.2.1 (hF.2.2.2.2 _ harr) rfl hdg rfl hn hN hbytes hcells hslots rfl fun H1 cB e1 z1 o1 _ hNm => ?_
  have hcA : cA = cB := by
    have h9 := (hK.2 t0 _ ht).2
    cases hq : newarray.typeOf atype with
    | object C => exact absurd hq (hr C)
    | _ =>
      rw [hq] at h9 hNm
      exact Option.some.inj (Eq.trans (Eq.symm h9) hNm)
  subst hcA
  exact kk H1 z1 (nWd hW hA z1 o1 (by show H1[H.size]? = some (vp_cell _ _); rw [ha]; exact e1))
end ZN
