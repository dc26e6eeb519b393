/-! Named results: a step's value gets a name that nothing looks through. -/
def lt {α : Type} {β : Sort _} (v : α) (k : α → β) : β := k v
theorem lt_p {α : Type} {v z : α} {k : α → Prop} (e : z = v) (h : lt v k) : k z := by
  subst e
  exact h
theorem lt_e {α β : Type} {v z : α} {k : α → β} {res : β} (e : z = v) (h : lt v k = res) : k z = res := by
  subst e
  exact h
theorem zs_si {cf : Cf} {S S' : St} {k i j : Nat} {f : Nat → Int32} {e : va_E} (h : S' = wi S k i j f) (h1 : cf (k, i, j) f (S.2.1 k i j) (S.2.2 k i j) = e) : zs cf S' (k, i, j) = e := by
  subst h
  exact zs_wi_self.trans h1
theorem zs_sio {cf : Cf} {S S' : St} {k i j : Nat} {f : Nat → Int32} (h : S' = wi S k i j f) : ∀ t : N3, t ≠ (k, i, j) → zs cf S' t = zs cf S t := by
  subst h
  exact zs_wi_ne
theorem zs_sl {cf : Cf} {S S' : St} {k i j : Nat} {f : Nat → Int64} {e : va_E} (h : S' = wl S k i j f) (h1 : cf (k, i, j) (S.1 k i j) f (S.2.2 k i j) = e) : zs cf S' (k, i, j) = e := by
  subst h
  exact zs_wl_self.trans h1
theorem zs_slo {cf : Cf} {S S' : St} {k i j : Nat} {f : Nat → Int64} (h : S' = wl S k i j f) : ∀ t : N3, t ≠ (k, i, j) → zs cf S' t = zs cf S t := by
  subst h
  exact zs_wl_ne
theorem zs_sp {cf : Cf} {S S' : St} {k i j : Nat} {f : Nat → Nat} {e : va_E} (h : S' = wp S k i j f) (h1 : cf (k, i, j) (S.1 k i j) (S.2.1 k i j) f = e) : zs cf S' (k, i, j) = e := by
  subst h
  exact zs_wp_self.trans h1
theorem zs_spo {cf : Cf} {S S' : St} {k i j : Nat} {f : Nat → Nat} (h : S' = wp S k i j f) : ∀ t : N3, t ≠ (k, i, j) → zs cf S' t = zs cf S t := by
  subst h
  exact zs_wp_ne
section ZG
variable {p : Program} {l : Launch} {e : Env} {R : Room} {s : State} {m : MethodId} {args : Array Value} {below : List Frame} {meth : Method} {c : Code} {H : Heap} {locs : List Loc} {cells slots : Nat} {Q : State → Prop}
variable {pc : Nat} {ls : Array Slot} {rest st0 : List Value} {D : va_G} {cl : List vw_C} {A : Nat → Prop} {H0 : Heap} {X : va_W} {ad : N3 → Nat} {T : List N3} {cf : Cf} {S : St}
theorem z_goI {a : Array Value} {res : Int32 × St} {v : Int32} {z : St} (hW : Wd D cl A H0 (zw X ad T cf S) H locs) (hA : ∀ q, H0.size ≤ q → A q) (ez : (v, z) = res) (hr : va_Run p l e R s m args below meth c H locs cells slots 0 0 (F0 m pc ls st0) rest (eI D cl X ad T cf (va_A (zw X ad T cf S) H.size) res a) (va_A (zw X ad T cf S) H.size))
    (kk : ∀ (H1 : Heap) (locs1 : List Loc), Wd D cl A H0 (zw X ad T cf z) H1 locs1 → W p l e R s m args below meth c H1 locs1 cells slots Q (F0 m (pc + 3) ls (.int v :: rest))) : W p l e R s m args below meth c H locs cells slots Q (F0 m pc ls st0) := by
  subst ez
  exact z_thenI hW hA hr kk
theorem z_goL {a : Array Value} {res : Int64 × St} {v : Int64} {z : St} (hW : Wd D cl A H0 (zw X ad T cf S) H locs) (hA : ∀ q, H0.size ≤ q → A q) (ez : (v, z) = res) (hr : va_Run p l e R s m args below meth c H locs cells slots 0 0 (F0 m pc ls st0) rest (eL D cl X ad T cf (va_A (zw X ad T cf S) H.size) res a) (va_A (zw X ad T cf S) H.size))
    (kk : ∀ (H1 : Heap) (locs1 : List Loc), Wd D cl A H0 (zw X ad T cf z) H1 locs1 → W p l e R s m args below meth c H1 locs1 cells slots Q (F0 m (pc + 3) ls (.long v :: rest))) : W p l e R s m args below meth c H locs cells slots Q (F0 m pc ls st0) := by
  subst ez
  exact z_thenL hW hA hr kk
theorem z_goV {a : Array Value} {res z : St} (hW : Wd D cl A H0 (zw X ad T cf S) H locs) (hA : ∀ q, H0.size ≤ q → A q) (ez : z = res) (hr : va_Run p l e R s m args below meth c H locs cells slots 0 0 (F0 m pc ls st0) rest (eV D cl X ad T cf (va_A (zw X ad T cf S) H.size) res a) (va_A (zw X ad T cf S) H.size))
    (kk : ∀ (H1 : Heap) (locs1 : List Loc), Wd D cl A H0 (zw X ad T cf z) H1 locs1 → W p l e R s m args below meth c H1 locs1 cells slots Q (F0 m (pc + 3) ls rest)) : W p l e R s m args below meth c H locs cells slots Q (F0 m pc ls st0) := by
  subst ez
  exact z_thenV hW hA hr kk
theorem z_goR {a : Array Value} {res : N3 × St} {t : N3} {z : St} (hW : Wd D cl A H0 (zw X ad T cf S) H locs) (hA : ∀ q, H0.size ≤ q → A q) (ez : (t, z) = res) (hr : va_Run p l e R s m args below meth c H locs cells slots 0 0 (F0 m pc ls st0) rest (eR D cl X ad T cf (va_A (zw X ad T cf S) H.size) res a) (va_A (zw X ad T cf S) H.size))
    (kk : ∀ (H1 : Heap) (locs1 : List Loc), Wd D cl A H0 (zw X ad T cf z) H1 locs1 → W p l e R s m args below meth c H1 locs1 cells slots Q (F0 m (pc + 3) ls (.ref (ad t) :: rest))) : W p l e R s m args below meth c H locs cells slots Q (F0 m pc ls st0) := by
  subst ez
  exact z_thenR hW hA hr kk
end ZG
