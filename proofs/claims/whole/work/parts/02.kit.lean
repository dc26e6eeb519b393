/-! My own kit: a world of named cells. A cell's name is a triple (kind, i, j); its contents are three slices (ints, longs, places) of one state. -/
abbrev N3 : Type := Nat × Nat × Nat
abbrev IM : Type := Nat → Nat → Nat → Nat → Int32
abbrev LM : Type := Nat → Nat → Nat → Nat → Int64
abbrev PM : Type := Nat → Nat → Nat → Nat → Nat
abbrev St : Type := IM × LM × PM
abbrev Cf : Type := N3 → (Nat → Int32) → (Nat → Int64) → (Nat → Nat) → va_E
def zs (cf : Cf) (S : St) (t : N3) : va_E := cf t (S.1 t.1 t.2.1 t.2.2) (S.2.1 t.1 t.2.1 t.2.2) (S.2.2 t.1 t.2.1 t.2.2)
def zw (X : va_W) (ad : N3 → Nat) (T : List N3) (cf : Cf) (S : St) : va_W := X ++ T.map (fun t => (ad t, zs cf S t))
/-- writing: a slice, an element -/
def wi (S : St) (k i j : Nat) (f : Nat → Int32) : St := (fun a b d => if a = k ∧ b = i ∧ d = j then f else S.1 a b d, S.2)
def wl (S : St) (k i j : Nat) (f : Nat → Int64) : St := (S.1, fun a b d => if a = k ∧ b = i ∧ d = j then f else S.2.1 a b d, S.2.2)
def wp (S : St) (k i j : Nat) (f : Nat → Nat) : St := (S.1, S.2.1, fun a b d => if a = k ∧ b = i ∧ d = j then f else S.2.2 a b d)
def si (S : St) (k i j x : Nat) (v : Int32) : St := wi S k i j (upd (S.1 k i j) x v)
def sl (S : St) (k i j x : Nat) (v : Int64) : St := wl S k i j (vp_updL (S.2.1 k i j) x v)
def sp (S : St) (k i j x : Nat) (v : Nat) : St := wp S k i j (va_up (S.2.2 k i j) x v)
theorem zs_wi_self {cf : Cf} {S : St} {k i j : Nat} {f : Nat → Int32} : zs cf (wi S k i j f) (k, i, j) = cf (k, i, j) f (S.2.1 k i j) (S.2.2 k i j) := by
  simp [zs, wi]
theorem zs_wl_self {cf : Cf} {S : St} {k i j : Nat} {f : Nat → Int64} : zs cf (wl S k i j f) (k, i, j) = cf (k, i, j) (S.1 k i j) f (S.2.2 k i j) := by
  simp [zs, wl]
theorem zs_wp_self {cf : Cf} {S : St} {k i j : Nat} {f : Nat → Nat} : zs cf (wp S k i j f) (k, i, j) = cf (k, i, j) (S.1 k i j) (S.2.1 k i j) f := by
  simp [zs, wp]
theorem zs_ne {k i j : Nat} {t : N3} (h : t ≠ (k, i, j)) : ¬ (t.1 = k ∧ t.2.1 = i ∧ t.2.2 = j) := fun q => h (by
  obtain ⟨a, b, d⟩ := t
  obtain ⟨rfl, rfl, rfl⟩ := q
  rfl)
theorem zs_wi_ne {cf : Cf} {S : St} {k i j : Nat} {f : Nat → Int32} (t : N3) (h : t ≠ (k, i, j)) : zs cf (wi S k i j f) t = zs cf S t := by
  simp only [zs, wi, if_neg (zs_ne h)]
theorem zs_wl_ne {cf : Cf} {S : St} {k i j : Nat} {f : Nat → Int64} (t : N3) (h : t ≠ (k, i, j)) : zs cf (wl S k i j f) t = zs cf S t := by
  simp only [zs, wl, if_neg (zs_ne h)]
theorem zs_wp_ne {cf : Cf} {S : St} {k i j : Nat} {f : Nat → Nat} (t : N3) (h : t ≠ (k, i, j)) : zs cf (wp S k i j f) t = zs cf S t := by
  simp only [zs, wp, if_neg (zs_ne h)]
theorem zw_get {X : va_W} {ad : N3 → Nat} {T : List N3} {cf : Cf} {S : St} {t : N3} (h : t ∈ T) : ∃ n : Nat, (zw X ad T cf S)[n]? = some (ad t, zs cf S t) := by
  apply List.getElem?_of_mem
  exact List.mem_append_right _ (List.mem_map.mpr ⟨t, h, rfl⟩)
theorem zw_set {A : Nat → Prop} {X : va_W} {ad : N3 → Nat} {T : List N3} {cf : Cf} {S S' : St} {t : N3} {n : Nat} {e : va_E} (hD : va_D A (zw X ad T cf S)) (ht : t ∈ T) (hn : (zw X ad T cf S)[n]? = some (ad t, zs cf S t)) (h1 : zs cf S' t = e) (h2 : ∀ t', t' ≠ t → zs cf S' t' = zs cf S t') : (zw X ad T cf S).set n (ad t, e) = zw X ad T cf S' := by
  obtain ⟨i, hi⟩ := List.getElem?_of_mem ht
  have hti : (zw X ad T cf S)[X.length + i]? = some (ad t, zs cf S t) := by
    unfold zw
    rw [List.getElem?_append_right (by omega), Nat.add_sub_cancel_left, List.getElem?_map, hi]
    rfl
  have hne := hD.1 n (X.length + i) _ _ hn hti rfl
  subst hne
  have hl := (List.getElem?_eq_some_iff.mp hti).1
  apply List.ext_getElem?
  intro j
  by_cases hj : j = X.length + i
  · subst hj
    rw [List.getElem?_set_self hl]
    unfold zw
    rw [List.getElem?_append_right (by omega), Nat.add_sub_cancel_left, List.getElem?_map, hi]
    simp [h1]
  · rw [List.getElem?_set_ne (Ne.symm hj)]
    unfold zw
    by_cases hjx : j < X.length
    · rw [List.getElem?_append_left hjx, List.getElem?_append_left hjx]
    · rw [List.getElem?_append_right (by omega), List.getElem?_append_right (by omega)]
      simp only [List.getElem?_map]
      cases hb : T[j - X.length]? with
      | none => rfl
      | some b =>
        have hba : b ≠ t := by
          intro hab
          subst hab
          have h3 : (zw X ad T cf S)[j]? = some (ad b, zs cf S b) := by
            unfold zw
            rw [List.getElem?_append_right (by omega), List.getElem?_map, hb]
            rfl
          exact hj (hD.1 j (X.length + i) _ _ h3 hti rfl)
        simp [h2 b hba]
theorem zw_addr {X : va_W} {ad : N3 → Nat} {T : List N3} {cf : Cf} {S S' : St} {n : Nat} {q : Nat} {e : va_E} (h : (zw X ad T cf S)[n]? = some (q, e)) : ∃ e', (zw X ad T cf S')[n]? = some (q, e') := by
  unfold zw at h ⊢
  by_cases hx : n < X.length
  · rw [List.getElem?_append_left hx] at h ⊢
    exact ⟨e, h⟩
  · rw [List.getElem?_append_right (by omega), List.getElem?_map] at h ⊢
    cases hb : T[n - X.length]? with
    | none => rw [hb] at h; cases h
    | some b =>
      rw [hb] at h
      simp only [Option.map_some, Option.some.injEq, Prod.mk.injEq] at h ⊢
      exact ⟨_, h.1, rfl⟩
/-- which cells a method may change doesn't hang on what they hold -/
theorem zw_A {X : va_W} {ad : N3 → Nat} {T : List N3} {cf : Cf} {S : St} (S' : St) {sz q : Nat} (h : va_A (zw X ad T cf S) sz q) : va_A (zw X ad T cf S') sz q := by
  rcases h with ⟨k, e, h⟩ | h
  · obtain ⟨e', h'⟩ := zw_addr (S' := S') h
    exact Or.inl ⟨k, e', h'⟩
  · exact Or.inr h
/-- a walk's world -/
def Wd (D : va_G) (cl : List vw_C) (A : Nat → Prop) (H0 : Heap) (ws : va_W) (H : Heap) (locs : List Loc) : Prop := va_P D cl ws H ∧ va_D A ws ∧ va_S A H0 H locs
section ZK
variable {p : Program} {l : Launch} {e : Env} {R : Room} {s : State} {m : MethodId} {args : Array Value} {below : List Frame} {meth : Method} {c : Code} {H : Heap} {locs : List Loc} {cells slots : Nat} {Q : State → Prop}
variable {cc : ByteArray} {pc nL : Nat} {ls : Array Slot} {rest : List Value} {D : va_G} {cl : List vw_C} {A : Nat → Prop} {tys : List (ClassId × FieldType)} {H0 : Heap} {X : va_W} {ad : N3 → Nat} {T : List N3} {cf : Cf} {S : St} {Ts : List Cond} {own : String}
theorem z_get (hF : CallFix p m c cc nL s args Ts own) (hK : va_K D cl tys s) (hW : Wd D cl A H0 (zw X ad T cf S) H locs) {t : N3} (ht : t ∈ T) {ref C : String} {T1 : u_T} {N ci index : Nat} {fs : List Value} (he : zs cf S t = .inr (ci, fs)) (hc : cl[ci]? = some (C, T1, N)) (hin : ∀ w ∈ u_ws C T1 N, w ∈ Ts) (k : Nat) (hk : k < N) (hlink : Cond.fieldLink own index ref (T1 k).2.1 (T1 k).2.2.1 ∈ Ts) (hsame : (T1 k).1 = ref) {v : Value} (hv : fs[k]? = some v) (hdg : decode cc pc = .ok (.getfield index, 3))
    (kk : W p l e R s m args below meth c H locs cells slots Q (F0 m (pc + 3) ls (v :: rest))) : W p l e R s m args below meth c H locs cells slots Q (F0 m pc ls (.ref (ad t) :: rest)) := by
  obtain ⟨n, hn⟩ := zw_get (X := X) (ad := ad) (cf := cf) (S := S) ht
  rw [he] at hn
  exact va_get hF.1 hF.2.1 hF.2.2.2.2 hin hF.2.2.2.1 hK hW.1 n hn hc k hk (hF.2.2.2.2 _ hlink) (fun x h => by rw [← hsame]; exact h) hv hdg kk
/-- a field's store, into a state S' that differs in this cell alone -/
theorem z_put (hF : CallFix p m c cc nL s args Ts own) (hK : va_K D cl tys s) (hW : Wd D cl A H0 (zw X ad T cf S) H locs) {t : N3} (ht : t ∈ T) {ref C : String} {T1 : u_T} {N ci index : Nat} {fs : List Value} (he : zs cf S t = .inr (ci, fs)) (hc : cl[ci]? = some (C, T1, N)) (hin : ∀ w ∈ u_ws C T1 N, w ∈ Ts) (ty0 : Nat → FieldType) (hty : ∀ k, k < N → parseFieldDescriptor (T1 k).2.2.1 = some (ty0 k)) (hnm : ∀ a, a < N → ∀ b, b < N → a ≠ b → (T1 a).2.1 ≠ (T1 b).2.1) (k : Nat) (hk : k < N) (hlink : Cond.fieldLink own index ref (T1 k).2.1 (T1 k).2.2.1 ∈ Ts) (hsame : (T1 k).1 = ref) (hfin : (T1 k).2.2.2 = false) {ty : FieldType} {v : Value} (hd : ty0 k = ty) (hn : narrow ty v = v) (hfit : fits ty v = true) (hl : k < fs.length) {S' : St} (h1 : zs cf S' t = .inr (ci, fs.set k v)) (h2 : ∀ t', t' ≠ t → zs cf S' t' = zs cf S t') (hdg : decode cc pc = .ok (.putfield index, 3))
    (kk : ∀ (H1 : Heap) (locs1 : List Loc), Wd D cl A H0 (zw X ad T cf S') H1 locs1 → W p l e R s m args below meth c H1 locs1 cells slots Q (F0 m (pc + 3) ls rest)) : W p l e R s m args below meth c H locs cells slots Q (F0 m pc ls (v :: .ref (ad t) :: rest)) := by
  obtain ⟨n, hn0⟩ := zw_get (X := X) (ad := ad) (cf := cf) (S := S) ht
  have hn1 := hn0
  rw [he] at hn1
  have hst := zw_set hW.2.1 ht hn0 h1 h2
  refine va_put hF.1 hF.2.1 hF.2.2.2.2 hin ty0 hty hnm hF.2.2.2.1 hK hW.1 hW.2.1 hW.2.2 n hn1 hc k hk (hF.2.2.2.2 _ hlink) (fun x h => by rw [← hsame]; exact h) hfin (by rw [hty k hk, hd]) hn hfit hl hdg (fun H1 locs1 a1 a2 a3 => ?_)
  rw [hst] at a1 a2
  exact kk H1 locs1 ⟨a1, a2, a3⟩
theorem z_iald (hF : CallFix p m c cc nL s args Ts own) (hK : va_K D cl tys s) (hW : Wd D cl A H0 (zw X ad T cf S) H locs) {t : N3} (ht : t ∈ T) (t0 : Nat) {cA : ClassId} {n : Nat} {f : Nat → Int32} (he : zs cf S t = .inl (cA, n, .inl f)) (hty : tys[t0]? = some (cA, .int)) {i : Int32} (hin : vp_in i n) {v : Int32} (hv : f i.toNatClampNeg = v) (hdg : decode cc pc = .ok (.iaload, 1))
    (kk : W p l e R s m args below meth c H locs cells slots Q (F0 m (pc + 1) ls (.int v :: rest))) : W p l e R s m args below meth c H locs cells slots Q (F0 m pc ls (.int i :: .ref (ad t) :: rest)) := by
  obtain ⟨n9, hn⟩ := zw_get (X := X) (ad := ad) (cf := cf) (S := S) ht
  rw [he] at hn
  subst hv
  exact va_iald hF.1 hF.2.1 hK hW.1 n9 t0 hn hty hin hdg kk
theorem z_zald (hF : CallFix p m c cc nL s args Ts own) (hK : va_K D cl tys s) (hW : Wd D cl A H0 (zw X ad T cf S) H locs) {t : N3} (ht : t ∈ T) (t0 : Nat) {cA : ClassId} {n : Nat} {f : Nat → Int32} (he : zs cf S t = .inl (cA, n, .inl f)) (hty : tys[t0]? = some (cA, .boolean)) {i : Int32} (hin : vp_in i n) {v : Int32} (hv : f i.toNatClampNeg = v) (hdg : decode cc pc = .ok (.baload, 1))
    (kk : W p l e R s m args below meth c H locs cells slots Q (F0 m (pc + 1) ls (.int v :: rest))) : W p l e R s m args below meth c H locs cells slots Q (F0 m pc ls (.int i :: .ref (ad t) :: rest)) := by
  obtain ⟨n9, hn⟩ := zw_get (X := X) (ad := ad) (cf := cf) (S := S) ht
  rw [he] at hn
  subst hv
  exact va_zald hF.1 hF.2.1 hK hW.1 n9 t0 hn hty hin hdg kk
theorem z_lald (hF : CallFix p m c cc nL s args Ts own) (hK : va_K D cl tys s) (hW : Wd D cl A H0 (zw X ad T cf S) H locs) {t : N3} (ht : t ∈ T) (t0 : Nat) {cA : ClassId} {n : Nat} {f : Nat → Int64} (he : zs cf S t = .inl (cA, n, .inr (.inl f))) (hty : tys[t0]? = some (cA, .long)) {i : Int32} (hin : vp_in i n) {v : Int64} (hv : f i.toNatClampNeg = v) (hdg : decode cc pc = .ok (.laload, 1))
    (kk : W p l e R s m args below meth c H locs cells slots Q (F0 m (pc + 1) ls (.long v :: rest))) : W p l e R s m args below meth c H locs cells slots Q (F0 m pc ls (.int i :: .ref (ad t) :: rest)) := by
  obtain ⟨n9, hn⟩ := zw_get (X := X) (ad := ad) (cf := cf) (S := S) ht
  rw [he] at hn
  subst hv
  exact va_lald hF.1 hF.2.1 hK hW.1 n9 t0 hn hty hin hdg kk
theorem z_aald (hF : CallFix p m c cc nL s args Ts own) (hK : va_K D cl tys s) (hW : Wd D cl A H0 (zw X ad T cf S) H locs) {t : N3} (ht : t ∈ T) (t0 : Nat) {cA : ClassId} {C : String} {n : Nat} {f : Nat → Option Nat} (he : zs cf S t = .inl (cA, n, .inr (.inr (.inr (.inr f))))) (hty : tys[t0]? = some (cA, .object C)) {i : Int32} (hin : vp_in i n) {q : Nat} (hv : f i.toNatClampNeg = some q) (hdg : decode cc pc = .ok (.aaload, 1))
    (kk : W p l e R s m args below meth c H locs cells slots Q (F0 m (pc + 1) ls (.ref q :: rest))) : W p l e R s m args below meth c H locs cells slots Q (F0 m pc ls (.int i :: .ref (ad t) :: rest)) := by
  obtain ⟨n9, hn⟩ := zw_get (X := X) (ad := ad) (cf := cf) (S := S) ht
  rw [he] at hn
  refine va_aldq hF.1 hF.2.1 hK hW.1 n9 t0 hn hty hin hdg ?_
  rw [hv]
  exact kk
theorem z_iast (hF : CallFix p m c cc nL s args Ts own) (hK : va_K D cl tys s) (hW : Wd D cl A H0 (zw X ad T cf S) H locs) {t : N3} (ht : t ∈ T) (t0 : Nat) {cA : ClassId} {n : Nat} {f : Nat → Int32} (he : zs cf S t = .inl (cA, n, .inl f)) (hty : tys[t0]? = some (cA, .int)) {i x : Int32} (hin : vp_in i n) {S' : St} (h1 : zs cf S' t = .inl (cA, n, .inl (upd f i.toNatClampNeg x))) (h2 : ∀ t', t' ≠ t → zs cf S' t' = zs cf S t') (hdg : decode cc pc = .ok (.iastore, 1))
    (kk : ∀ (H1 : Heap) (locs1 : List Loc), Wd D cl A H0 (zw X ad T cf S') H1 locs1 → W p l e R s m args below meth c H1 locs1 cells slots Q (F0 m (pc + 1) ls rest)) : W p l e R s m args below meth c H locs cells slots Q (F0 m pc ls (.int x :: .int i :: .ref (ad t) :: rest)) := by
  obtain ⟨n9, hn0⟩ := zw_get (X := X) (ad := ad) (cf := cf) (S := S) ht
  have hn1 := hn0
  rw [he] at hn1
  have hst := zw_set hW.2.1 ht hn0 h1 h2
  refine va_iast hF.1 hF.2.1 hK hW.1 hW.2.1 hW.2.2 n9 t0 hn1 hty hin hdg (fun H1 locs1 a1 a2 a3 => ?_)
  rw [hst] at a1 a2
  exact kk H1 locs1 ⟨a1, a2, a3⟩
theorem z_zast (hF : CallFix p m c cc nL s args Ts own) (hK : va_K D cl tys s) (hW : Wd D cl A H0 (zw X ad T cf S) H locs) {t : N3} (ht : t ∈ T) (t0 : Nat) {cA : ClassId} {n : Nat} {f : Nat → Int32} (he : zs cf S t = .inl (cA, n, .inl f)) (hty : tys[t0]? = some (cA, .boolean)) {i x : Int32} (hin : vp_in i n) {S' : St} (h1 : zs cf S' t = .inl (cA, n, .inl (upd f i.toNatClampNeg (vp_nar .boolean x)))) (h2 : ∀ t', t' ≠ t → zs cf S' t' = zs cf S t') (hdg : decode cc pc = .ok (.bastore, 1))
    (kk : ∀ (H1 : Heap) (locs1 : List Loc), Wd D cl A H0 (zw X ad T cf S') H1 locs1 → W p l e R s m args below meth c H1 locs1 cells slots Q (F0 m (pc + 1) ls rest)) : W p l e R s m args below meth c H locs cells slots Q (F0 m pc ls (.int x :: .int i :: .ref (ad t) :: rest)) := by
  obtain ⟨n9, hn0⟩ := zw_get (X := X) (ad := ad) (cf := cf) (S := S) ht
  have hn1 := hn0
  rw [he] at hn1
  have hst := zw_set hW.2.1 ht hn0 h1 h2
  refine va_zast hF.1 hF.2.1 hK hW.1 hW.2.1 hW.2.2 n9 t0 hn1 hty hin hdg (fun H1 locs1 a1 a2 a3 => ?_)
  rw [hst] at a1 a2
  exact kk H1 locs1 ⟨a1, a2, a3⟩
theorem z_last (hF : CallFix p m c cc nL s args Ts own) (hK : va_K D cl tys s) (hW : Wd D cl A H0 (zw X ad T cf S) H locs) {t : N3} (ht : t ∈ T) (t0 : Nat) {cA : ClassId} {n : Nat} {f : Nat → Int64} (he : zs cf S t = .inl (cA, n, .inr (.inl f))) (hty : tys[t0]? = some (cA, .long)) {i : Int32} {x : Int64} (hin : vp_in i n) {S' : St} (h1 : zs cf S' t = .inl (cA, n, .inr (.inl (vp_updL f i.toNatClampNeg x)))) (h2 : ∀ t', t' ≠ t → zs cf S' t' = zs cf S t') (hdg : decode cc pc = .ok (.lastore, 1))
    (kk : ∀ (H1 : Heap) (locs1 : List Loc), Wd D cl A H0 (zw X ad T cf S') H1 locs1 → W p l e R s m args below meth c H1 locs1 cells slots Q (F0 m (pc + 1) ls rest)) : W p l e R s m args below meth c H locs cells slots Q (F0 m pc ls (.long x :: .int i :: .ref (ad t) :: rest)) := by
  obtain ⟨n9, hn0⟩ := zw_get (X := X) (ad := ad) (cf := cf) (S := S) ht
  have hn1 := hn0
  rw [he] at hn1
  have hst := zw_set hW.2.1 ht hn0 h1 h2
  refine va_last hF.1 hF.2.1 hK hW.1 hW.2.1 hW.2.2 n9 t0 hn1 hty hin hdg (fun H1 locs1 a1 a2 a3 => ?_)
  rw [hst] at a1 a2
  exact kk H1 locs1 ⟨a1, a2, a3⟩
theorem z_aast (hF : CallFix p m c cc nL s args Ts own) (hK : va_K D cl tys s) (hW : Wd D cl A H0 (zw X ad T cf S) H locs) {t t2 : N3} (ht : t ∈ T) (ht2 : t2 ∈ T) (t0 ci : Nat) {cA : ClassId} {r : vw_C} {n : Nat} {vs : List Value} {f : Nat → Option Nat} (he : zs cf S t = .inl (cA, n, .inr (.inr (.inr (.inr f))))) (hty : tys[t0]? = some (cA, .object r.1)) (he2 : zs cf S t2 = .inr (ci, vs)) (hc : cl[ci]? = some r) {i : Int32} (hin : vp_in i n) {S' : St} (h1 : zs cf S' t = .inl (cA, n, .inr (.inr (.inr (.inr (va_up f i.toNatClampNeg (some (ad t2)))))))) (h2 : ∀ t', t' ≠ t → zs cf S' t' = zs cf S t') (hdg : decode cc pc = .ok (.aastore, 1))
    (kk : ∀ (H1 : Heap) (locs1 : List Loc), Wd D cl A H0 (zw X ad T cf S') H1 locs1 → W p l e R s m args below meth c H1 locs1 cells slots Q (F0 m (pc + 1) ls rest)) : W p l e R s m args below meth c H locs cells slots Q (F0 m pc ls (.ref (ad t2) :: .int i :: .ref (ad t) :: rest)) := by
  obtain ⟨n9, hn0⟩ := zw_get (X := X) (ad := ad) (cf := cf) (S := S) ht
  have hn1 := hn0
  rw [he] at hn1
  obtain ⟨n8, hn2⟩ := zw_get (X := X) (ad := ad) (cf := cf) (S := S) ht2
  rw [he2] at hn2
  have hst := zw_set hW.2.1 ht hn0 h1 h2
  refine va_astq hF.1 hF.2.1 hK hW.1 hW.2.1 hW.2.2 n9 t0 n8 ci hn1 hty hn2 hc hin hdg (fun H1 locs1 a1 a2 a3 => ?_)
  rw [hst] at a1 a2
  exact kk H1 locs1 ⟨a1, a2, a3⟩
theorem z_alen (hF : CallFix p m c cc nL s args Ts own) (hK : va_K D cl tys s) (hW : Wd D cl A H0 (zw X ad T cf S) H locs) {t : N3} (ht : t ∈ T) (t0 : Nat) {cA : ClassId} {x : vp_A} (he : zs cf S t = .inl (cA, x)) {ty : FieldType} (hty : tys[t0]? = some (cA, ty)) {v : Int32} (hv : Int32.ofNat x.1 = v) (hdg : decode cc pc = .ok (.arraylength, 1))
    (kk : W p l e R s m args below meth c H locs cells slots Q (F0 m (pc + 1) ls (.int v :: rest))) : W p l e R s m args below meth c H locs cells slots Q (F0 m pc ls (.ref (ad t) :: rest)) := by
  obtain ⟨n9, hn⟩ := zw_get (X := X) (ad := ad) (cf := cf) (S := S) ht
  rw [he] at hn
  exact va_alen hF.1 hF.2.1 hK hW.1 n9 t0 hn hty hv hdg kk
theorem z_copyl (hF : CallFix p m c cc nL s args Ts own) (hK : va_K D cl tys s) (hW : Wd D cl A H0 (zw X ad T cf S) H locs) (hsz : ls.size = nL) {t t2 : N3} (ht : t ∈ T) (ht2 : t2 ∈ T) (t0 : Nat) {index : Nat} (hlink : Cond.methodLink own index arraycopyName ∈ Ts) (hnat : Cond.native arraycopyName ∈ Ts) (hstat : Cond.static arraycopyName ∈ Ts) (hini : Cond.initialized "java/lang/System" ∈ Ts) {c0 c1 : ClassId} {n0 n1 : Nat} {f g : Nat → Int64} (he : zs cf S t = .inl (c0, n0, .inr (.inl f))) (he2 : zs cf S t2 = .inl (c1, n1, .inr (.inl g))) (hty : tys[t0]? = some (c0, .long)) (hty2 : tys[t0]? = some (c1, .long))
    {sp dp n : Int32} (h1 : ¬ sp < 0) (h2 : ¬ dp < 0) (h3 : ¬ n < 0) (h4 : sp.toNatClampNeg + n.toNatClampNeg ≤ n0) (h5 : dp.toNatClampNeg + n.toNatClampNeg ≤ n1) (hframes : 1 ≤ R.frames) (hlocals : (rest.map fun v => v.category).sum + (nativeFrameWords "java/lang/System" "arraycopy" 5 + 11) ≤ R.locals) {S' : St} (k1 : zs cf S' t2 = .inl (c1, n1, .inr (.inl (va_cpy f g sp.toNatClampNeg dp.toNatClampNeg n.toNatClampNeg)))) (k2 : ∀ t', t' ≠ t2 → zs cf S' t' = zs cf S t') (hdg : decode cc pc = .ok (.invokestatic index, 3))
    (kk : ∀ (H1 : Heap) (locs1 : List Loc), Wd D cl A H0 (zw X ad T cf S') H1 locs1 → W p l e R s m args below meth c H1 locs1 cells slots Q (F0 m (pc + 3) ls rest)) : W p l e R s m args below meth c H locs cells slots Q (F0 m pc ls (.int n :: .int dp :: .ref (ad t2) :: .int sp :: .ref (ad t) :: rest)) := by
  obtain ⟨n9, hn1⟩ := zw_get (X := X) (ad := ad) (cf := cf) (S := S) ht
  rw [he] at hn1
  obtain ⟨n8, hn0⟩ := zw_get (X := X) (ad := ad) (cf := cf) (S := S) ht2
  have hn2 := hn0
  rw [he2] at hn2
  have hst := zw_set hW.2.1 ht2 hn0 k1 k2
  refine va_copyl hF.1 hF.2.1 (by rw [hF.2.2.1, hsz]) hF.2.2.2.1 (hF.2.2.2.2 _ hlink) (hF.2.2.2.2 _ hnat) (hF.2.2.2.2 _ hstat) (hF.2.2.2.2 _ hini) hK hW.1 hW.2.1 hW.2.2 n9 n8 t0 t0 hn1 hn2 hty hty2 rfl h1 h2 h3 h4 h5 (fun i _ => rfl) hframes hlocals hdg (fun H1 locs1 a1 a2 a3 => ?_)
  rw [hst] at a1 a2
  exact kk H1 locs1 ⟨a1, a2, a3⟩
end ZK
