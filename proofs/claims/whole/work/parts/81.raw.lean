/-! Constructors: rows over any list of cells, and constructors' contracts. -/
theorem arrV_same {cA : ClassId} {N : Nat} {f g : Nat → Value} (h : ∀ x, x < N → f x = g x) : arrV cA N f = arrV cA N g := by
  unfold arrV
  congr 1
  congr 1
  funext j
  exact h j.val j.isLt
theorem cellI_same {cA : ClassId} {N : Nat} {f g : Nat → Int32} (h : ∀ x, x < N → f x = g x) : vp_cell cA (N, .inl f) = vp_cell cA (N, .inl g) := by
  rw [vp_cell_i, vp_cell_i]
  exact arrV_same fun x hx => by rw [h x hx]
theorem cellL_same {cA : ClassId} {N : Nat} {f g : Nat → Int64} (h : ∀ x, x < N → f x = g x) : vp_cell cA (N, .inr (.inl f)) = vp_cell cA (N, .inr (.inl g)) := by
  rw [vp_cell_l, vp_cell_l]
  exact arrV_same fun x hx => by rw [h x hx]
theorem cellQ_same {cA : ClassId} {N : Nat} {f g : Nat → Option Nat} (h : ∀ x, x < N → f x = g x) : vp_cell cA (N, .inr (.inr (.inr (.inr f)))) = vp_cell cA (N, .inr (.inr (.inr (.inr g)))) := by
  rw [vp_cell_q, vp_cell_q]
  exact arrV_same fun x hx => by rw [h x hx]
theorem va_P.perm {D : va_G} {cl : List vw_C} {ws ws' : va_W} {H : Heap} (h : va_P D cl ws H) (hs : ∀ x ∈ ws', x ∈ ws) : va_P D cl ws' H := by
  intro k q hk
  obtain ⟨j, hj⟩ := List.getElem?_of_mem (hs q (List.mem_of_getElem? hk))
  exact h j q hj
theorem va_D_iff {A : Nat → Prop} {ws : va_W} : va_D A ws ↔ (ws.map Prod.fst).Nodup ∧ ∀ x ∈ ws, A x.1 := by
  constructor
  · intro h
    refine ⟨?_, fun x hx => ?_⟩
    · rw [List.nodup_iff_pairwise_ne, List.pairwise_iff_getElem]
      intro i j hi hj hij he
      rw [List.length_map] at hi hj
      rw [List.getElem_map, List.getElem_map] at he
      exact Nat.ne_of_lt hij (h.1 i j _ _ (List.getElem?_eq_getElem hi) (List.getElem?_eq_getElem hj) he)
    · obtain ⟨k, hk⟩ := List.getElem?_of_mem hx
      exact h.2 k x hk
  · intro h
    refine ⟨fun i j x z hi hj he => ?_, fun k x hk => h.2 x (List.mem_of_getElem? hk)⟩
    have h1 := h.1
    rw [List.nodup_iff_pairwise_ne, List.pairwise_iff_getElem] at h1
    obtain ⟨hi', ei⟩ := List.getElem?_eq_some_iff.mp hi
    obtain ⟨hj', ej⟩ := List.getElem?_eq_some_iff.mp hj
    rcases Nat.lt_trichotomy i j with hlt | heq | hgt
    · exact absurd (by rw [List.getElem_map, List.getElem_map, ei, ej]; exact he) (h1 i j (by rw [List.length_map]; exact hi') (by rw [List.length_map]; exact hj') hlt)
    · exact heq
    · exact absurd (by rw [List.getElem_map, List.getElem_map, ei, ej]; exact he.symm) (h1 j i (by rw [List.length_map]; exact hj') (by rw [List.length_map]; exact hi') hgt)
theorem va_D.perm {A : Nat → Prop} {ws ws' : va_W} (h : va_D A ws) (hs : ws.Perm ws') : va_D A ws' := by
  rw [va_D_iff] at h ⊢
  exact ⟨(hs.map Prod.fst).nodup_iff.mp h.1, fun x hx => h.2 x (hs.mem_iff.mpr hx)⟩
theorem Wd.perm {D : va_G} {cl : List vw_C} {A : Nat → Prop} {H0 H : Heap} {ws ws' : va_W} {locs : List Loc} (h : Wd D cl A H0 ws H locs) (hs : ws.Perm ws') : Wd D cl A H0 ws' H locs :=
  ⟨h.1.perm fun x hx => hs.mem_iff.mpr hx, h.2.1.perm hs, h.2.2⟩
/-- the cell at the head is done: it goes among the named ones -/
theorem n_fin {D : va_G} {cl : List vw_C} {A : Nat → Prop} {H0 H : Heap} {R2 B : va_W} {locs : List Loc} {ad : N3 → Nat} {T : List N3} {cf : Cf} {S : St} {t : N3} {e : va_E} (hW : Wd D cl A H0 ((ad t, e) :: (R2 ++ zw B ad T cf S)) H locs) (he : va_at D cl (ad t, e) H → va_at D cl (ad t, zs cf S t) H) : Wd D cl A H0 (R2 ++ zw B ad (T ++ [t]) cf S) H locs := by
  have h1 : Wd D cl A H0 ((ad t, zs cf S t) :: (R2 ++ zw B ad T cf S)) H locs := by
    refine ⟨fun k x hk => ?_, ?_, hW.2.2⟩
    · cases k with
      | zero => cases hk; exact he (hW.1 0 _ rfl)
      | succ k => exact hW.1 (k + 1) x hk
    · have h2 := hW.2.1
      rw [va_D_iff] at h2 ⊢
      refine ⟨h2.1, fun x hx => ?_⟩
      rcases List.mem_cons.mp hx with rfl | hx
      · exact h2.2 (ad t, e) List.mem_cons_self
      · exact h2.2 x (List.mem_cons_of_mem _ hx)
  refine h1.perm ?_
  have e2 : R2 ++ zw B ad (T ++ [t]) cf S = (R2 ++ zw B ad T cf S) ++ [(ad t, zs cf S t)] := by
    unfold zw
    rw [List.map_append, List.append_assoc, List.append_assoc]
    rfl
  rw [e2]
  exact (List.perm_append_singleton _ _).symm
theorem zw_join {R2 B : va_W} {ad : N3 → Nat} {T Tn : List N3} {cf : Cf} {S : St} : zw (R2 ++ zw B ad T cf S) ad Tn cf S = R2 ++ zw B ad (T ++ Tn) cf S := by
  unfold zw
  rw [List.map_append, List.append_assoc, List.append_assoc]
theorem zw_nil {X : va_W} {ad : N3 → Nat} {cf : Cf} {S : St} : zw X ad [] cf S = X := List.append_nil X
theorem zw_mem {X : va_W} {ad : N3 → Nat} {T : List N3} {cf : Cf} {S : St} {t : N3} (h : t ∈ T) : (ad t, zs cf S t) ∈ zw X ad T cf S := List.mem_append_right _ (List.mem_map.mpr ⟨t, h, rfl⟩)
theorem n_join {D : va_G} {cl : List vw_C} {A : Nat → Prop} {H0 H : Heap} {R2 B : va_W} {locs : List Loc} {ad : N3 → Nat} {T Tn : List N3} {cf : Cf} {S : St} (hW : Wd D cl A H0 (zw (R2 ++ zw B ad T cf S) ad Tn cf S) H locs) : Wd D cl A H0 (R2 ++ zw B ad (T ++ Tn) cf S) H locs := by
  rw [← zw_join]
  exact hW
section ZR
variable {p : Program} {l : Launch} {e : Env} {R : Room} {s : State} {m : MethodId} {args : Array Value} {below : List Frame} {meth : Method} {c : Code} {H : Heap} {locs : List Loc} {cells slots : Nat} {Q : State → Prop}
variable {cc : ByteArray} {pc nL h a : Nat} {ls : Array Slot} {rest st0 : List Value} {D : va_G} {cl : List vw_C} {A : Nat → Prop} {tys : List (ClassId × FieldType)} {NW : List (String × Nat × MethodName × String)} {H0 : Heap} {ws : va_W} {G : List Cond} {own : String}
theorem n_sz {g : JFrame} (kk : H.size ≤ s.heap.size + cells → W p l e R s m args below meth c H locs cells slots Q g) : W p l e R s m args below meth c H locs cells slots Q g := fun T hT X => kk (by
  have h := X.same.2.2.1
  have h2 : (T.setVm s.vm).heap = T.heap := rfl
  rw [h2, hT] at h
  exact h) T hT X
/-- the heap's size is known where the last new cell stands in the world -/
theorem n_here {g : JFrame} (hW : Wd D cl A s.heap ws H locs) (hh : s.heap.size + cells = h) (hlow : h ≤ s.heap.size ∨ ∃ x ∈ ws, h ≤ x.1 + 1) (kk : H.size = h → W p l e R s m args below meth c H locs cells slots Q g) : W p l e R s m args below meth c H locs cells slots Q g := by
  refine n_sz fun hup => kk ?_
  rcases hlow with h1 | ⟨x, hx, h1⟩
  · have h2 := hW.2.2.1
    omega
  · obtain ⟨k, hk⟩ := List.getElem?_of_mem hx
    have h2 := (hW.1 k x hk).lt
    omega
theorem n_get (hF : CallFix p m c cc nL s args G own) (hK : va_K D cl tys s) (hW : Wd D cl A H0 ws H locs) (q0 : Nat) {ref C : String} {T1 : u_T} {N ci index : Nat} {fs : List Value} (he : ws[q0]? = some (a, .inr (ci, fs))) (hc : cl[ci]? = some (C, T1, N)) (hin : ∀ w ∈ u_ws C T1 N, w ∈ G) (k : Nat) (hk : k < N) (hlink : Cond.fieldLink own index ref (T1 k).2.1 (T1 k).2.2.1 ∈ G) (hsame : (T1 k).1 = ref) {v : Value} (hv : fs[k]? = some v) (hdg : decode cc pc = .ok (.getfield index, 3))
    (kk : W p l e R s m args below meth c H locs cells slots Q (F0 m (pc + 3) ls (v :: rest))) : W p l e R s m args below meth c H locs cells slots Q (F0 m pc ls (.ref a :: rest)) :=
  va_get hF.1 hF.2.1 hF.2.2.2.2 hin hF.2.2.2.1 hK hW.1 q0 he hc k hk (hF.2.2.2.2 _ hlink) (fun x h => by rw [← hsame]; exact h) hv hdg kk
theorem n_put (hF : CallFix p m c cc nL s args G own) (hK : va_K D cl tys s) (hW : Wd D cl A H0 ws H locs) (q0 : Nat) {ref C : String} {T1 : u_T} {N ci index : Nat} {fs : List Value} (he : ws[q0]? = some (a, .inr (ci, fs))) (hc : cl[ci]? = some (C, T1, N)) (hin : ∀ w ∈ u_ws C T1 N, w ∈ G) (ty0 : Nat → FieldType) (hty : ∀ k, k < N → parseFieldDescriptor (T1 k).2.2.1 = some (ty0 k)) (hnm : ∀ a, a < N → ∀ b, b < N → a ≠ b → (T1 a).2.1 ≠ (T1 b).2.1) (k : Nat) (hk : k < N) (hlink : Cond.fieldLink own index ref (T1 k).2.1 (T1 k).2.2.1 ∈ G) (hsame : (T1 k).1 = ref) (hfin : (T1 k).2.2.2 = false) {ty : FieldType} {v : Value} (hd : ty0 k = ty) (hn : narrow ty v = v) (hfit : fits ty v = true) (hl : k < fs.length) (hdg : decode cc pc = .ok (.putfield index, 3))
    (kk : ∀ (H1 : Heap) (locs1 : List Loc), Wd D cl A H0 (ws.set q0 (a, .inr (ci, fs.set k v))) H1 locs1 → W p l e R s m args below meth c H1 locs1 cells slots Q (F0 m (pc + 3) ls rest)) : W p l e R s m args below meth c H locs cells slots Q (F0 m pc ls (v :: .ref a :: rest)) :=
  va_put hF.1 hF.2.1 hF.2.2.2.2 hin ty0 hty hnm hF.2.2.2.1 hK hW.1 hW.2.1 hW.2.2 q0 he hc k hk (hF.2.2.2.2 _ hlink) (fun x h => by rw [← hsame]; exact h) hfin (by rw [hty k hk, hd]) hn hfit hl hdg (fun H1 locs1 a1 a2 a3 => kk H1 locs1 ⟨a1, a2, a3⟩)
theorem n_putF (hF : CallFix p m c cc nL s args G own) (hni : meth.name = "<init>") (hK : va_K D cl tys s) (hW : Wd D cl A H0 ws H locs) (q0 : Nat) {ref C : String} {T1 : u_T} {N ci index : Nat} {fs : List Value} (he : ws[q0]? = some (a, .inr (ci, fs))) (hc : cl[ci]? = some (C, T1, N)) (hin : ∀ w ∈ u_ws C T1 N, w ∈ G) (ty0 : Nat → FieldType) (hty : ∀ k, k < N → parseFieldDescriptor (T1 k).2.2.1 = some (ty0 k)) (hnm : ∀ a, a < N → ∀ b, b < N → a ≠ b → (T1 a).2.1 ≠ (T1 b).2.1) (k : Nat) (hk : k < N) (hlink : Cond.fieldLink own index ref (T1 k).2.1 (T1 k).2.2.1 ∈ G) (hsame : (T1 k).1 = ref) (hfin : (T1 k).2.2.2 = true) (hdecl : (T1 k).1 = own) {ty : FieldType} {v : Value} (hd : ty0 k = ty) (hn : narrow ty v = v) (hfit : fits ty v = true) (hl : k < fs.length) (hdg : decode cc pc = .ok (.putfield index, 3))
    (kk : ∀ (H1 : Heap) (locs1 : List Loc), Wd D cl A H0 (ws.set q0 (a, .inr (ci, fs.set k v))) H1 locs1 → W p l e R s m args below meth c H1 locs1 cells slots Q (F0 m (pc + 3) ls rest)) : W p l e R s m args below meth c H locs cells slots Q (F0 m pc ls (v :: .ref a :: rest)) :=
  va_putF hF.1 hF.2.1 hF.2.2.2.2 hin ty0 hty hnm hF.2.2.2.1 hK hW.1 hW.2.1 hW.2.2 q0 he hc k hk (hF.2.2.2.2 _ hlink) (fun x h => by rw [← hsame]; exact h) hfin hni hdecl (by rw [hty k hk, hd]) hn hfit hl hdg (fun H1 locs1 a1 a2 a3 => kk H1 locs1 ⟨a1, a2, a3⟩)
theorem n_iast (hF : CallFix p m c cc nL s args G own) (hK : va_K D cl tys s) (hW : Wd D cl A H0 ws H locs) (q0 t0 : Nat) {cA : ClassId} {n : Nat} {f : Nat → Int32} (ha : ws[q0]? = some (a, .inl (cA, n, .inl f))) (ht : tys[t0]? = some (cA, .int)) {i x : Int32} (hin : vp_in i n) (hdg : decode cc pc = .ok (.iastore, 1))
    (kk : ∀ (H1 : Heap) (locs1 : List Loc), Wd D cl A H0 (ws.set q0 (a, .inl (cA, n, .inl (upd f i.toNatClampNeg x)))) H1 locs1 → W p l e R s m args below meth c H1 locs1 cells slots Q (F0 m (pc + 1) ls rest)) : W p l e R s m args below meth c H locs cells slots Q (F0 m pc ls (.int x :: .int i :: .ref a :: rest)) :=
  va_iast hF.1 hF.2.1 hK hW.1 hW.2.1 hW.2.2 q0 t0 ha ht hin hdg (fun H1 locs1 a1 a2 a3 => kk H1 locs1 ⟨a1, a2, a3⟩)
theorem n_zast (hF : CallFix p m c cc nL s args G own) (hK : va_K D cl tys s) (hW : Wd D cl A H0 ws H locs) (q0 t0 : Nat) {cA : ClassId} {n : Nat} {f : Nat → Int32} (ha : ws[q0]? = some (a, .inl (cA, n, .inl f))) (ht : tys[t0]? = some (cA, .boolean)) {i x : Int32} (hin : vp_in i n) (hdg : decode cc pc = .ok (.bastore, 1))
    (kk : ∀ (H1 : Heap) (locs1 : List Loc), Wd D cl A H0 (ws.set q0 (a, .inl (cA, n, .inl (upd f i.toNatClampNeg (vp_nar .boolean x))))) H1 locs1 → W p l e R s m args below meth c H1 locs1 cells slots Q (F0 m (pc + 1) ls rest)) : W p l e R s m args below meth c H locs cells slots Q (F0 m pc ls (.int x :: .int i :: .ref a :: rest)) :=
  va_zast hF.1 hF.2.1 hK hW.1 hW.2.1 hW.2.2 q0 t0 ha ht hin hdg (fun H1 locs1 a1 a2 a3 => kk H1 locs1 ⟨a1, a2, a3⟩)
theorem n_last (hF : CallFix p m c cc nL s args G own) (hK : va_K D cl tys s) (hW : Wd D cl A H0 ws H locs) (q0 t0 : Nat) {cA : ClassId} {n : Nat} {f : Nat → Int64} (ha : ws[q0]? = some (a, .inl (cA, n, .inr (.inl f)))) (ht : tys[t0]? = some (cA, .long)) {i : Int32} {x : Int64} (hin : vp_in i n) (hdg : decode cc pc = .ok (.lastore, 1))
    (kk : ∀ (H1 : Heap) (locs1 : List Loc), Wd D cl A H0 (ws.set q0 (a, .inl (cA, n, .inr (.inl (vp_updL f i.toNatClampNeg x))))) H1 locs1 → W p l e R s m args below meth c H1 locs1 cells slots Q (F0 m (pc + 1) ls rest)) : W p l e R s m args below meth c H locs cells slots Q (F0 m pc ls (.long x :: .int i :: .ref a :: rest)) :=
  va_last hF.1 hF.2.1 hK hW.1 hW.2.1 hW.2.2 q0 t0 ha ht hin hdg (fun H1 locs1 a1 a2 a3 => kk H1 locs1 ⟨a1, a2, a3⟩)
theorem n_lald (hF : CallFix p m c cc nL s args G own) (hK : va_K D cl tys s) (hW : Wd D cl A H0 ws H locs) (q0 t0 : Nat) {cA : ClassId} {n : Nat} {f : Nat → Int64} (ha : ws[q0]? = some (a, .inl (cA, n, .inr (.inl f)))) (ht : tys[t0]? = some (cA, .long)) {i : Int32} (hin : vp_in i n) {v : Int64} (hv : f i.toNatClampNeg = v) (hdg : decode cc pc = .ok (.laload, 1))
    (kk : W p l e R s m args below meth c H locs cells slots Q (F0 m (pc + 1) ls (.long v :: rest))) : W p l e R s m args below meth c H locs cells slots Q (F0 m pc ls (.int i :: .ref a :: rest)) := by
  subst hv
  exact va_lald hF.1 hF.2.1 hK hW.1 q0 t0 ha ht hin hdg kk
theorem n_aast (hF : CallFix p m c cc nL s args G own) (hK : va_K D cl tys s) (hW : Wd D cl A H0 ws H locs) (q0 t0 ci : Nat) {cA : ClassId} {r : vw_C} {n v : Nat} {vs : List Value} {f : Nat → Option Nat} (ha : ws[q0]? = some (a, .inl (cA, n, .inr (.inr (.inr (.inr f)))))) (ht : tys[t0]? = some (cA, .object r.1)) (hv : (v, (.inr (ci, vs) : va_E)) ∈ ws) (hc : cl[ci]? = some r) {i : Int32} (hin : vp_in i n) (hdg : decode cc pc = .ok (.aastore, 1))
    (kk : ∀ (H1 : Heap) (locs1 : List Loc), Wd D cl A H0 (ws.set q0 (a, .inl (cA, n, .inr (.inr (.inr (.inr (va_up f i.toNatClampNeg (some v)))))))) H1 locs1 → W p l e R s m args below meth c H1 locs1 cells slots Q (F0 m (pc + 1) ls rest)) : W p l e R s m args below meth c H locs cells slots Q (F0 m pc ls (.ref v :: .int i :: .ref a :: rest)) := by
  obtain ⟨qk, hqk⟩ := List.getElem?_of_mem hv
  exact va_astq hF.1 hF.2.1 hK hW.1 hW.2.1 hW.2.2 q0 t0 qk ci ha ht hqk hc hin hdg (fun H1 locs1 a1 a2 a3 => kk H1 locs1 ⟨a1, a2, a3⟩)
theorem n_newq (hF : CallFix p m c cc nL s args G own) (hK : va_K D cl tys s) (hW : Wd D cl A H0 ws H locs) (hA : ∀ q, H0.size ≤ q → A q) (hh : H.size = h) {C : String} {index : Nat} (hcl : Cond.classLink own index C ∈ G) (hov : va_AO C s) (t0 : Nat) {cA : ClassId} (ht : tys[t0]? = some (cA, .object C)) {n : Int32} {N : Nat} (hn : ¬ n < 0) (hN : n.toNatClampNeg = N) (hbytes : N * 4 ≤ 536870912) (hcells : cells + 1 ≤ R.cells) (hslots : slots + N ≤ R.slots) (hdg : decode cc pc = .ok (.anewarray index, 3))
    (kk : ∀ H1 : Heap, H1.size = h + 1 → Wd D cl A H0 ((h, .inl (cA, N, .inr (.inr (.inr (.inr (fun _ => none)))))) :: ws) H1 locs → W p l e R s m args below meth c H1 locs (cells + 1) (slots + N) Q (F0 m (pc + 3) ls (.ref h :: rest))) : W p l e R s m args below meth c H locs cells slots Q (F0 m pc ls (.int n :: rest)) := by
  subst hN
  subst hh
  refine W.anew hF.1 hF.2.1 hF.2.2.2.1 (hF.2.2.2.2 _ hcl) (va_AO.use hov) rfl hdg rfl hn hbytes hcells hslots fun cB kA comp f1 f2 f3 f4 => ?_
  have hcA : cA = cB := by
    obtain ⟨-, kA', comp', g1, g2, g3, g4⟩ := hK.2 t0 _ ht
    exact Option.some.inj (g4.symm.trans f1)
  subst hcA
  generalize hH1 : H.push ({ cls := cA, slots := Array.replicate n.toNatClampNeg .null, vm := .none } : Cell) = H1
  have z1 : H1.size = H.size + 1 := by rw [← hH1, Array.size_push]
  have e1 : H1[H.size]? = some (arrV cA n.toNatClampNeg (fun _ => .null)) := by rw [← hH1, Array.getElem?_push_size, ← arrV_new]
  have o1 : ∀ q : Nat, q < H.size → H1[q]? = H[q]? := fun q hq => by rw [← hH1, Array.getElem?_push, if_neg (Nat.ne_of_lt hq)]
  exact kk H1 z1 (nWd hW hA z1 o1 (by show H1[H.size]? = some (vp_cell _ _); exact e1))
theorem n_objInit (hF : CallFix p m c cc nL s args G own) {idx : Nat} (hlink : Cond.methodLink own idx Lib.objectInit ∈ G) (hinst : Cond.instanceMethod Lib.objectInit ∈ G) (hcode : Cond.code Lib.objectInit ⟨#[0xb1]⟩ 1 none ∈ G) (hsz : ls.size = nL) (hframes : 1 ≤ R.frames) (hlocals : (rest.map fun v => v.category).sum + 12 ≤ R.locals) (hdg : decode cc pc = .ok (.invokespecial idx, 3))
    (kk : W p l e R s m args below meth c H locs cells slots Q (F0 m (pc + 3) ls rest)) : W p l e R s m args below meth c H locs cells slots Q (F0 m pc ls (.ref a :: rest)) :=
  W.objInit hF.1 hF.2.1 hF.2.2.2.1 (hF.2.2.2.2 _ hlink) (hF.2.2.2.2 _ hinst) (hF.2.2.2.2 _ hcode) rfl (by show ls.size = _; rw [hsz, hF.2.2.1]) rfl hdg hframes (by show 2 * 0 + _ + 12 ≤ _; omega) kk
/-- a constructor's end: its new cells are named ones -/
def eN (D : va_G) (cl : List vw_C) (ws : va_W) (A : Nat → Prop) : Array Value → State → Outcome → State → Prop := va_Qv (fun _ : Unit => True) (fun _ t => va_P D cl ws t.heap ∧ va_D A ws) A
def nPre (D : va_G) (cl : List vw_C) (tys : List (ClassId × FieldType)) (NW : List (String × Nat × MethodName × String)) (AO : List String) (ws : va_W) (sz : Nat) (av : List Value) : Array Value → State → Prop := fun a U => zPre D cl tys NW ws sz av a U ∧ ∀ C ∈ AO, va_AO C U
theorem nPre.blind {AO : List String} {sz : Nat} {av : List Value} : FrameBlind (nPre D cl tys NW AO ws sz av) := fun a U g mk q => ⟨zPre.blind a U g mk q.1, fun C hC => va_AO.moved (Vm.Alike.refl U.vm) (q.2 C hC)⟩
def cN (l : Launch) (G : List Cond) (D : va_G) (cl : List vw_C) (tys : List (ClassId × FieldType)) (NW : List (String × Nat × MethodName × String)) (AO : List String) (ad : N3 → Nat) (cf : Cf) (S : St) (y : MethodName) (b : ByteArray) (n : Nat) (fr lo mc ms : Nat) (q : Nat × va_E) (sz : Nat) (av : List Value) (Tn : List N3) : Prop :=
  ∀ B : va_W, Met l y (Cond.code y b n none :: G) { frames := fr, cells := mc, slots := ms, locals := lo } (nPre D cl tys NW AO (q :: B) sz av) (eN D cl (zw B ad Tn cf S) (va_A (q :: B) sz)) mc ms (va_A (q :: B) sz)
variable {y : MethodName} {b : ByteArray} {n np index fr lo mc ms sz : Nat} {As : List Value} {ad : N3 → Nat} {Tn : List N3} {cf : Cf} {S : St} {q : Nat × va_E} {AO : List String}
theorem n_of {av : List Value} (hy : plainName y.cls = true) (hn : y.name = "<init>") (hlen : (lg_sl av).length ≤ n)
    (body : ∀ (B : va_W) (p : Program) (e : Env) (s : State) (m : MethodId) (below : List Frame) (meth : Method) (c : Code) (A : Nat → Prop) (ls : Array Slot), Hy p s m av.toArray meth c b n none y.cls G D cl tys NW → (∀ C ∈ AO, va_AO C s) → meth.name = "<init>" → s.heap.size = sz → Wd D cl A s.heap (q :: B) s.heap [] → (∀ q, s.heap.size ≤ q → A q) → lv_has ls n (lv_args 0 av) →
      W p l e { frames := fr, cells := mc, slots := ms, locals := lo } s m av.toArray below meth c s.heap [] 0 0 (MQ below (eN D cl (zw B ad Tn cf S) A) av.toArray s mc ms A) (F0 m 0 ls [])) : cN l G D cl tys NW AO ad cf S y b n fr lo mc ms q sz av Tn := by
  intro B
  refine Met.ofW (cc := b) (maxL := n) (ret := none) hy rfl ?_
  intro p e s m args below meth c s₁ Bd hml hv
  obtain ⟨⟨rfl, hsz, hP, hK, hD0⟩, hO⟩ := hv
  have hts := atoms_spec (ws := Cond.code y b n none :: G) Bd.pre
  have hl := lv_entry av (n := n) hlen
  rw [lg_entry_eq]
  exact body B p e s m below meth c _ _ ⟨⟨Bd.exec, Bd.bytes, hml, findClass_of_methodNamed Bd.named, fun w h => hts w (List.mem_cons_of_mem _ h)⟩, Bd.returns, Bd.notSynchronized, hK⟩ hO ((name_of_methodNamed Bd.named Bd.method).1.trans hn) hsz ⟨hP, hD0.self, va_S.rf⟩ (fun q h => Or.inr (by rw [← hsz]; exact h)) hl
theorem n_vret (hy : Hy p s m args meth c cc nL none own G D cl tys NW) (hW : Wd D cl A s.heap ws H locs) (h1 : cells ≤ mc) (h2 : slots ≤ ms) (hdg : decode cc pc = .ok (.return_, 1)) : W p l e R s m args below meth c H locs cells slots (MQ below (eN D cl ws A) args s mc ms A) (F0 m pc ls []) := by
  refine W.widen (k := mc) (n := ms) h1 h2 ?_
  exact W.vret hy.1.1 hy.1.2.1 hy.2.1 (fun t ht _ => ⟨⟨(), rfl, trivial, by rw [ht]; exact hW.1, hW.2.1⟩, hW.2.2.F ht⟩) hW.2.2.2.2 hdg hy.2.2.1
def cdI (G : List Cond) (y : MethodName) (b : ByteArray) (n : Nat) (np : Nat) : Prop :=
  Cond.code y b n none ∈ G ∧ Cond.instanceMethod y ∈ G ∧ Cond.initialized y.cls ∈ G ∧ (y.cls ≠ "java/lang/invoke/MethodHandle" ∧ y.cls ≠ "java/lang/invoke/VarHandle" ∧ (parseMethodDescriptor y.desc).map (fun d => d.parameters.length) = some np) ∧ y.name = "<init>" ∧ ∀ w ∈ G, goodWord w = true
theorem cdI.good (h : cdI G y b n np) : GoodIn G (Cond.code y b n none :: G) := by
  obtain ⟨h1, -, -, -, -, hg⟩ := h
  have key : ∀ w ∈ (Cond.code y b n none :: G), w ∈ G := fun w hw => (List.mem_cons.mp hw).elim (fun e => by rw [e]; exact h1) id
  exact fun w hw => ⟨key w hw, good_of_word (hg w (key w hw))⟩
theorem n_then {a : Array Value} (hW : Wd D cl A H0 (q :: ws) H locs) (hA : ∀ q, H0.size ≤ q → A q) (hr : va_Run p l e R s m args below meth c H locs cells slots mc ms (F0 m pc ls st0) rest (eN D cl (zw ws ad Tn cf S) (va_A (q :: ws) H.size) a) (va_A (q :: ws) H.size))
    (kk : ∀ (H1 : Heap) (locs1 : List Loc), Wd D cl A H0 (zw ws ad Tn cf S) H1 locs1 → W p l e R s m args below meth c H1 locs1 (cells + mc) (slots + ms) Q (F0 m (pc + 3) ls rest)) : W p l e R s m args below meth c H locs cells slots Q (F0 m pc ls st0) := by
  have hf := hW.free hA
  refine va_callv hr hW.2.2 (fun q _ h => hf q h) hf (fun u t H1 locs1 ht _ _ hB _ _ hS => ?_)
  exact kk H1 locs1 ⟨by rw [← ht]; exact hB.1, hB.2.weaken (fun _ _ _ z => hf _ z), hS⟩
theorem n_call {e0 : va_E} (hF : CallFix p m c cc nL s args G own) (hK : zK D cl tys NW s) (hO : ∀ C ∈ AO, va_AO C s) (hW : Wd D cl A H0 ((a, e0) :: ws) H locs) (hA : ∀ q, H0.size ≤ q → A q) (hM : cN l G D cl tys NW AO ad cf S y b n fr lo mc ms (a, e0) sz (.ref a :: As) Tn) (hh : H.size = sz) (cd : cdI G y b n np) (hlink : Cond.methodLink own index y ∈ G)
    (hR : fr + 1 ≤ R.frames ∧ 8 + (n + 11) + lo ≤ R.locals) (hcs : cells + mc ≤ R.cells ∧ slots + ms ≤ R.slots) (hst : st0 = As.reverse ++ .ref a :: rest) (hnp : As.length = np) (hsz : ls.size = nL) (hroom : (rest.map fun v => v.category).sum ≤ 8) (hdg : decode cc pc = .ok (.invokespecial index, 3))
    (kk : ∀ (H1 : Heap) (locs1 : List Loc), Wd D cl A H0 (zw ws ad Tn cf S) H1 locs1 → W p l e R s m args below meth c H1 locs1 (cells + mc) (slots + ms) Q (F0 m (pc + 3) ls rest)) : W p l e R s m args below meth c H locs cells slots Q (F0 m pc ls st0) := by
  subst hh
  refine n_then (mc := mc) (ms := ms) hW hA (va_runI (As := As) (rest := rest) hF (hM ws) (cwI np hF.2.2.2.2 cd.good rfl rfl rfl (hF.2.2.2.2 _ cd.2.2.1) (hF.2.2.2.2 _ hlink) (hF.2.2.2.2 _ cd.2.1) cd.2.2.2.2.1 cd.2.2.2.1 hR) ⟨nPre.blind, fun U hU hWm => ⟨zPre.at hW.1 hW.2.1 hK U hU hWm, fun C hC => va_AO.moved hWm.alike (hO C hC)⟩⟩ rfl hnp hsz hst (lv_room hroom) hdg hcs) kk
theorem n_callN {e0 : va_E} {host : String} (hF : CallFix p m c cc nL s args G own) (hK : zK D cl tys NW s) (hO : ∀ C ∈ AO, va_AO C s) (hW : Wd D cl A H0 ((a, e0) :: ws) H locs) (hA : ∀ q, H0.size ≤ q → A q) (hM : cN l G D cl tys NW AO ad cf S y b n fr lo mc ms (a, e0) sz (.ref a :: As) Tn) (hh : H.size = sz) (cd : cdI G y b n np) (hlink : (own, index, y, host) ∈ NW)
    (hR : fr + 1 ≤ R.frames ∧ 8 + (n + 11) + lo ≤ R.locals) (hcs : cells + mc ≤ R.cells ∧ slots + ms ≤ R.slots) (hst : st0 = As.reverse ++ .ref a :: rest) (hnp : As.length = np) (hsz : ls.size = nL) (hroom : (rest.map fun v => v.category).sum ≤ 8) (hdg : decode cc pc = .ok (.invokespecial index, 3))
    (kk : ∀ (H1 : Heap) (locs1 : List Loc), Wd D cl A H0 (zw ws ad Tn cf S) H1 locs1 → W p l e R s m args below meth c H1 locs1 (cells + mc) (slots + ms) Q (F0 m (pc + 3) ls rest)) : W p l e R s m args below meth c H locs cells slots Q (F0 m pc ls st0) := by
  subst hh
  refine n_then (mc := mc) (ms := ms) hW hA (va_runIN (As := As) (rest := rest) hF (hM ws) ⟨va_cnB np hF.2.2.2.2 cd.good rfl rfl rfl (hK.2 _ hlink) (hF.2.2.2.2 _ cd.2.2.1) cd.2.2.2.1 hR, cd.2.2.2.2.1, hF.2.2.2.2 _ cd.2.1⟩ ⟨nPre.blind, fun U hU hWm => ⟨zPre.at hW.1 hW.2.1 hK U hU hWm, fun C hC => va_AO.moved hWm.alike (hO C hC)⟩⟩ rfl hnp hsz hst (lv_room hroom) hdg hcs) kk
end ZR
