/-! The law: what is fixed in its walk; its script; its method cell. -/
def lA (s : State) : Nat → Prop := fun q => s.heap.size ≤ q
abbrev lvs (b b0 : Nat) (i : Int32) : List (Nat × Value) := [(4, .int i), (3, .ref (adQ b0 (29, 0, 0))), (2, .ref (adM (b0 + 208) (1, 0, 0))), (1, .ref (adQ b0 (1, 0, 0))), (0, .ref b)]
def LX (p : Program) (l : Launch) (s : State) (m : MethodId) (args : Array Value) (c : Code) (b L : Nat) (xs : Nat → Int32) (D D2 : va_G) (ca ca2 : Nat → ClassId) : Prop :=
  CallFix p m c code 7 s args GG R_L ∧ zK D clQ (tysQ ca) nwQ s ∧ zK D2 clM (tysM ca2) nwM s ∧ XF s ∧ va_Nc xIS xIA s ∧ va_X b L xs s s.heap ∧ b < s.heap.size ∧ l.stackTraces = false
theorem cmp_self (x : Int64) : lg_cmp x x = 0 := by simp [lg_cmp]
theorem cmp_eq {r : Int32} {v : Int64} (h : b2l r = v) : lg_cmp (b2l r) v = 0 := by
  rw [h]
  exact cmp_self v
def sd0 (L : Nat) (xs : Nat → Int32) : Int32 := if L = 0 then 0 else xs 0
section LWC
variable {p : Program} {l : Launch} {e : Env} {R : Room} {s : State} {m : MethodId} {args : Array Value} {below : List Frame} {meth : Method} {c : Code} {H : Heap} {locs : List Loc} {cells slots : Nat} {Q : State → Prop}
variable {pc : Nat} {ls : Array Slot} {rest st0 : List Value} {D D2 : va_G} {S U : St} {ca ca2 : Nat → ClassId} {b0 b L : Nat} {xs : Nat → Int32}
theorem LX.xfS (hC : LX p l s m args c b L xs D D2 ca ca2) (hS : va_S (lA s) s.heap H locs) : ∀ V : State, V.heap = H → s.WarmedH V.vm → XF V := fun V hV hWm => XF.moved hWm (fun a cell h9 _ => by
  have hlt : a < s.heap.size := (Array.getElem?_eq_some_iff.mp h9).1
  rw [hV, hS.2.1 a hlt (Nat.not_le.mpr hlt)]
  exact h9) hC.2.2.2.1
theorem LX.xf (hC : LX p l s m args c b L xs D D2 ca ca2) (hW : WW D D2 ca ca2 b0 (lA s) s.heap S U H locs) : ∀ V : State, V.heap = H → s.WarmedH V.vm → XF V := hC.xfS hW.1.2.2
theorem s_ld (hC : LX p l s m args c b L xs D D2 ca ca2) (hW : WW D D2 ca ca2 b0 (lA s) s.heap S U H locs) {i v : Int32} (hin : vp_in i L) (hv : xs i.toNatClampNeg = v) (hdg : decode code pc = .ok (.iaload, 1))
    (kk : W p l e R s m args below meth c H locs cells slots Q (F0 m (pc + 1) ls (.int v :: rest))) : W p l e R s m args below meth c H locs cells slots Q (F0 m pc ls (.int i :: .ref b :: rest)) := by
  subst hv
  exact va_sld hC.1.1 hC.1.2.1 hC.2.2.2.2.2.1 hC.2.2.2.2.2.2.1 (Nat.not_le.mpr hC.2.2.2.2.2.2.1) hW.1.2.2 hin hdg kk
theorem s_len (hC : LX p l s m args c b L xs D D2 ca ca2) (hW : WW D D2 ca ca2 b0 (lA s) s.heap S U H locs) (hdg : decode code pc = .ok (.arraylength, 1))
    (kk : W p l e R s m args below meth c H locs cells slots Q (F0 m (pc + 1) ls (.int (Int32.ofNat L) :: rest))) : W p l e R s m args below meth c H locs cells slots Q (F0 m pc ls (.ref b :: rest)) :=
  va_slen hC.1.1 hC.1.2.1 hC.2.2.2.2.2.1 hC.2.2.2.2.2.2.1 (Nat.not_le.mpr hC.2.2.2.2.2.2.1) hW.1.2.2 hdg kk
def sPre (b L : Nat) (xs : Nat → Int32) : Array Value → State → Prop := fun a V => a = [Value.ref b, Value.int 0].toArray ∧ va_X b L xs V V.heap
theorem sPre.blind : FrameBlind (sPre b L xs) := fun a V g mk q => ⟨q.1, va_X.moved (Vm.Alike.refl V.vm) q.2⟩
theorem c_L_cell (l : Launch) (hL : L ≤ 2561) : Met l y_L_cell (Cond.code y_L_cell b_L_cell 2 (some .int) :: GG) { frames := 0, cells := 0, slots := 0, locals := 0 } (sPre b L xs) (eP (.int (sd0 L xs))) 0 0 nof := by
  refine Met.ofW (cc := b_L_cell) (maxL := 2) (ret := some .int) (by decide +kernel) rfl ?_
  intro p e s m args below meth c s₁ B hml hv
  obtain ⟨rfl, hX⟩ := hv
  have hts := atoms_spec (ws := Cond.code y_L_cell b_L_cell 2 (some .int) :: GG) B.pre
  have hl := lv_entry [Value.ref b, Value.int 0] (n := 2) (Nat.le_of_ble_eq_true rfl)
  rw [lg_entry_eq]
  generalize (lg_sl [Value.ref b, Value.int 0] ++ List.replicate (2 - (lg_sl [Value.ref b, Value.int 0]).length) Slot.unset).toArray = ls at hl ⊢
  have hl : lv_has ls 2 [(0, .ref b), (1, .int 0)] := hl
  have hx := B.exec
  have hb := B.bytes
  have hbl : b < s.heap.size := by
    obtain ⟨scr, h1, -⟩ := hX
    exact (Array.getElem?_eq_some_iff.mp h1).1
  have hS : va_S (fun _ => False) s.heap s.heap [] := va_S.rf
  have iret : ∀ {v : Int32}, v = sd0 L xs → W p l e { frames := 0, cells := 0, slots := 0, locals := 0 } s m [Value.ref b, Value.int 0].toArray below meth c s.heap [] 0 0 (MQ below (eP (.int (sd0 L xs))) [Value.ref b, Value.int 0].toArray s 0 0 nof) (F0 m 13 ls [.int v]) := by
    intro v hv
    subst hv
    exact W.iret hx hb B.returns (fun t ht _ => ⟨rfl, ht⟩) nof_nil d_L_cell_13 B.notSynchronized
  refine lv_iload_n (pc := 0) hx hb d_L_cell_0 rfl (lv_at hl 1 rfl) ?_
  refine lv_aload_n (pc := 1) hx hb d_L_cell_1 rfl (lv_at hl 0 rfl) ?_
  refine va_slen (pc := 2) hx hb hX hbl (fun z => z) hS d_L_cell_2 ?_
  refine lv_icmp_ge (pc := 3) (tgt := 12) hx hb d_L_cell_3 (by decide) (fun c9 => ?_) (fun c9 => ?_)
  · refine lv_iconst (pc := 12) (v := 0) hx hb d_L_cell_12 (by decide) ?_
    refine iret ?_
    have h0 : L = 0 := by
      have h2 : Int32.ofNat L ≤ Int32.ofNat 0 := c9
      have h3 := (Int32.ofNat_le_ofNat (show L < 2 ^ 31 by omega) (by decide)).mp h2
      omega
    unfold sd0
    rw [if_pos h0]
  · refine lv_aload_n (pc := 6) hx hb d_L_cell_6 rfl (lv_at hl 0 rfl) ?_
    refine lv_iload_n (pc := 7) hx hb d_L_cell_7 rfl (lv_at hl 1 rfl) ?_
    have h0 : ¬ L = 0 := fun z => by
      subst z
      exact c9 (Int32.le_refl _)
    refine va_sld (pc := 8) hx hb hX hbl (fun z => z) hS (by
      unfold vp_in
      intro z
      rcases z with z | z
      · exact absurd z (by decide)
      · have : (0 : Int32).toNatClampNeg = 0 := rfl
        omega) d_L_cell_8 ?_
    refine lv_goto (pc := 9) (tgt := 13) hx hb d_L_cell_9 (by decide) ?_
    refine iret ?_
    unfold sd0
    rw [if_neg h0]
    rfl
/-- a call of cell -/
theorem s_cell (hF : CallFix p m c code 7 s args GG R_L) (hX : va_X b L xs s s.heap) (hbl : b < s.heap.size) (hL : L ≤ 2561) (hS : va_S (lA s) s.heap H locs) {index : Nat} (hlink : Cond.methodLink R_L index y_L_cell ∈ GG) (hR : 1 ≤ R.frames ∧ 21 ≤ R.locals) (hcs : cells ≤ R.cells ∧ slots ≤ R.slots) (hsz : ls.size = 7) (hroom : (rest.map fun v => v.category).sum ≤ 8) (hdg : decode code pc = .ok (.invokestatic index, 3))
    (kk : W p l e R s m args below meth c H locs cells slots Q (F0 m (pc + 3) ls (.int (sd0 L xs) :: rest))) : W p l e R s m args below meth c H locs cells slots Q (F0 m pc ls (.int 0 :: .ref b :: rest)) := by
  refine p_go rfl (va_runS (As := [Value.ref b, Value.int 0]) (rest := rest) hF (c_L_cell (b := b) (xs := xs) l hL) (va_cwS 2 hF.2.2.2.2 (cd_L_cell.good hlink) rfl rfl rfl cd_L_cell.2.2.2.1 ⟨hR.1, hR.2⟩) ⟨sPre.blind, fun V hV hWm => ⟨rfl, ?_⟩⟩ rfl rfl hsz rfl (lv_room hroom) hdg hcs) kk
  refine va_X.moved hWm.alike ?_
  exact hX.kept (by rw [hV]; exact hS.2.1 b hbl (Nat.not_le.mpr hbl))
end LWC
