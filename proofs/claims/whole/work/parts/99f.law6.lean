/-! The law's loop and its start. -/
def R_law : String := "QuorumChainLaw"
def lw_P (b : Addr) (xs : List Int32) (args : Array Value) (s : State) : Prop := args = #[.ref b] ∧ s.IntsAt b xs ∧ xs.length ≤ 2561 ∧ (Jvm.Cond.and given_1 narrow_1).before args s = true
def lw_Q (_ : Array Value) (s : State) (o : Outcome) (t : State) : Prop := o = .returned (some (.int 1)) ∧ Framed s o t [] 601024 7293000
def lw_Z (below : List Frame) (a : Array Value) (s : State) : State → Prop := fun t => ∃ o, t.status = .running ∧ Ended t below o ∧ lw_Q a s o t
/-- the law's own end, with 1 on the stack, nothing written that was there before, its room as the claim has it -/
theorem lw_ret {p : Program} {l : Launch} {e : Env} {s : State} {m : MethodId} {below : List Frame} {meth : Method} {c : Code} {b : Nat} (hx : p.tables.exec = Jvm.exec) (hb : c.code = code) (hr : meth.sig.returnType = ret) (hlocks : meth.locks = false) {pc : Nat} {H : Heap} {ls : Array Slot} (hdg : decode code pc = .ok (.ireturn, 1)) : W p l e room_1 s m #[Value.ref b] below meth c H [] 601024 7293000 (lw_Z below #[Value.ref b] s) (F0 m pc ls [.int 1]) := by
  intro T hT X
  obtain ⟨fs, hret, hrun, hended, hW, hframe⟩ := X.leave (v := some (.int 1)) (hlocks := hlocks) (fun h => by rw [hr] at h; cases h)
  have hmeth' : T.vm.method? m = some meth := X.method'
  refine ⟨T.setFrames fs, ?_, .returned (some (.int 1)), hrun, hended, rfl, ⟨_, rfl⟩, hW, hframe⟩
  jvm_step X.here [X.here.top, hx, hb, hdg, hmeth', hr, ret, narrow_b1]
  (try refine ⟨rfl, ?_⟩); (try refine ⟨rfl, ?_⟩)
  first | (intro acts; rw [hret _ acts rfl rfl rfl]) | rw [hret _ _ rfl rfl rfl]
  exact Steps.refl _
/-- what holds at the law's entry: the machine, the code, the tables' words (any of lw_tbl by 'hts w (by decide +kernel)'), the script of L ints xs at the cell b, what the Statement gives of the start (any of its parts by flat_of_before) -/
def lw_At (p : Program) (s : State) (m : MethodId) (meth : Method) (c : Code) (b L : Nat) (xs : Nat → Int32) : Prop :=
  p.tables.exec = Jvm.exec ∧ c.code = code ∧ meth.sig.returnType = ret ∧ c.maxLocals = 7 ∧ s.vm.findClass R_law = some m.cls ∧ (∀ w ∈ lw_tbl, w.before #[Value.ref b] s = true) ∧ va_X b L xs s s.heap ∧ b < s.heap.size ∧ meth.locks = false ∧ (Jvm.Cond.and given_1 narrow_1).before #[Value.ref b] s = true
section LWF
variable {p : Program} {l : Launch} {e : Env} {s : State} {m : MethodId} {below : List Frame} {meth : Method} {c : Code} {b L b0 : Nat} {xs : Nat → Int32} {D D2 : va_G} {ca ca2 : Nat → ClassId} {sd : Int32}
theorem more_left {n : Nat} (hL : L ≤ 2561) (h : ¬ Int32.ofNat L - 5 < nI (5 * n + 1)) (hn : 5 * n + 1 < 2 ^ 30) : 5 * n + 6 ≤ L := by
  by_cases h5 : 5 ≤ L
  · have e9 : Int32.ofNat L - 5 = nI (L - 5) := nI_sub h5
    rw [e9] at h
    have := mt (nI_ltI (a := L - 5) (b := 5 * n + 1) (by omega) (by omega)).mpr h
    omega
  · exfalso
    apply h
    rw [Int32.lt_iff_toInt_lt, nI_toInt (show 5 * n + 1 < 2 ^ 31 by omega)]
    have h9 : (Int32.ofNat L - 5).toInt < 0 := by
      rcases (show L = 0 ∨ L = 1 ∨ L = 2 ∨ L = 3 ∨ L = 4 by omega) with rfl | rfl | rfl | rfl | rfl <;> decide
    omega
theorem ne_k {v : Int32} {k : Nat} (hk : k < 2 ^ 31) (h : ¬ v = nI k) : ¬ v.toInt = (k : Int) := fun z => h (Int32.toInt_inj.mp (by rw [nI_toInt hk]; exact z))
theorem q_at {n k : Nat} (hL : L ≤ 2561) (h : 5 * n + 6 ≤ L) (hk : k ≤ 4) : vp_in (nI (5 * n + 1) + nI k) L ∧ xs (nI (5 * n + 1) + nI k).toNatClampNeg = xs (5 * n + 1 + k) := by
  rw [nI_add, nI_clamp (by omega)]
  exact ⟨vp_in_nI (by omega) (by omega), rfl⟩
theorem law_loop (hC : LX p l s m #[Value.ref b] c b L xs D D2 ca ca2) (hL : L ≤ 2561) (hr : meth.sig.returnType = ret) (hlocks : meth.locks = false) : ∀ (d n : Nat) (S U : St) (H : Heap) (locs : List Loc) (cells slots : Nat) (ls : Array Slot), L < 5 * n + 6 + 5 * d → 5 * n ≤ L → cells ≤ 245 + n → slots ≤ 8188 + 6 * n → WW D D2 ca ca2 b0 (lA s) s.heap S U H locs → JB sd S U → lv_has ls 7 (lvs b b0 (nI (5 * n + 1))) →
    W p l e room_1 s m #[Value.ref b] below meth c H locs cells slots (lw_Z below #[Value.ref b] s) (F0 m 33 ls []) := by
  have hF := hC.1
  have hx := hF.1
  have hb := hF.2.1
  intro d
  induction d with
  | zero =>
    intro n S U H locs cells slots ls hd hn hc hs hW hJ hl
    refine lv_iload (pc := 33) hx hb d_law_33 (lv_at hl 0 rfl) ?_
    refine lv_aload_n (pc := 35) hx hb d_law_35 rfl (lv_at hl 4 rfl) ?_
    refine s_len (pc := 36) hC hW d_law_36 ?_
    refine lv_iconst (pc := 37) (v := 5) hx hb d_law_37 (by decide) ?_
    refine lv_isub (pc := 38) hx hb d_law_38 ?_
    refine lv_icmp_gt (pc := 39) (tgt := 1176) hx hb d_law_39 (by decide) (fun _ => ?_) (fun c9 => ?_)
    · refine lv_iconst (pc := 1176) (v := 1) hx hb d_law_1176 (by decide) ?_
      refine va_forget hW.1.2.2.2.2 ?_
      refine W.widen (k := 601024) (n := 7293000) (by omega) (by omega) ?_
      exact lw_ret (pc := 1177) hx hb hr hlocks d_law_1177
    · have := more_left hL c9 (by omega)
      omega
  | succ d ih =>
    intro n S U H locs cells slots ls hd hn hc hs hW hJ hl
    refine lv_iload (pc := 33) hx hb d_law_33 (lv_at hl 0 rfl) ?_
    refine lv_aload_n (pc := 35) hx hb d_law_35 rfl (lv_at hl 4 rfl) ?_
    refine s_len (pc := 36) hC hW d_law_36 ?_
    refine lv_iconst (pc := 37) (v := 5) hx hb d_law_37 (by decide) ?_
    refine lv_isub (pc := 38) hx hb d_law_38 ?_
    refine lv_icmp_gt (pc := 39) (tgt := 1176) hx hb d_law_39 (by decide) (fun _ => ?_) (fun c9 => ?_)
    · refine lv_iconst (pc := 1176) (v := 1) hx hb d_law_1176 (by decide) ?_
      refine va_forget hW.1.2.2.2.2 ?_
      refine W.widen (k := 601024) (n := 7293000) (by omega) (by omega) ?_
      exact lw_ret (pc := 1177) hx hb hr hlocks d_law_1177
    · have h6 := more_left hL c9 (by omega)
      have q0 := q_at (xs := xs) (k := 0) hL h6 (by omega)
      have q1 := q_at (xs := xs) (k := 1) hL h6 (by omega)
      have q2 := q_at (xs := xs) (k := 2) hL h6 (by omega)
      have q3 := q_at (xs := xs) (k := 3) hL h6 (by omega)
      have q4 := q_at (xs := xs) (k := 4) hL h6 (by omega)
      have h1 : cells + 1 ≤ 601024 := by omega
      have h2 : slots + 6 ≤ 7293000 := by omega
      have kk : ∀ (S' U' : St) (H' : Heap) (locs' : List Loc) (cells' slots' : Nat) (ls' : Array Slot), WW D D2 ca ca2 b0 (lA s) s.heap S' U' H' locs' → JB sd S' U' → lv_has ls' 7 (lvs b b0 (nI (5 * n + 1))) → cells' ≤ cells + 1 → slots' ≤ slots + 6 → W p l e room_1 s m #[Value.ref b] below meth c H' locs' cells' slots' (lw_Z below #[Value.ref b] s) (F0 m 1170 ls' []) := by
        intro S' U' H' locs' cells' slots' ls' hW hJ hl a1 a2
        refine lv_iinc (pc := 1170) (v := nI (5 * (n + 1) + 1)) (lv' := lvs b b0 (nI (5 * (n + 1) + 1))) (k := 0) hx hb d_law_1170 hl rfl ((nI_add (5 * n + 1) 5).trans (congrArg nI (by omega))) (by decide) rfl (fun ls hl => ?_)
        refine lv_goto (pc := 1173) (tgt := 33) hx hb d_law_1173 (by decide) ?_
        exact ih (n + 1) S' U' H' locs' cells' slots' ls (by omega) (by omega) (by omega) (by omega) hW hJ hl
      refine lv_aload_n (pc := 42) hx hb d_law_42 rfl (lv_at hl 4 rfl) ?_
      refine lv_iload (pc := 43) hx hb d_law_43 (lv_at hl 0 rfl) ?_
      refine s_ld (pc := 45) hC hW (i := nI (5 * n + 1)) (vp_in_nI (by omega) (by omega)) rfl d_law_45 ?_
      refine lv_bipush (pc := 46) (v := 31) hx hb d_law_46 (by decide) ?_
      refine lv_iand (pc := 48) hx hb d_law_48 ?_
      refine lv_topi (fun v _ => ?_)
      by_cases z0 : v = nI 0
      · subst z0
        exact lv_tableIn (pc := 49) (tgt := 136) hx hb d_law_49 (by decide) (by decide) rfl (by decide) (lc_0 q1 q2 q3 q4 hC hW hJ hl h1 h2 kk)
      by_cases z1 : v = nI 1
      · subst z1
        exact lv_tableIn (pc := 49) (tgt := 228) hx hb d_law_49 (by decide) (by decide) rfl (by decide) (lc_1 q1 q2 hC hW hJ hl h1 h2 kk)
      by_cases z2 : v = nI 2
      · subst z2
        exact lv_tableIn (pc := 49) (tgt := 303) hx hb d_law_49 (by decide) (by decide) rfl (by decide) (lc_2 hC hW hJ hl h1 h2 kk)
      by_cases z3 : v = nI 3
      · subst z3
        exact lv_tableIn (pc := 49) (tgt := 354) hx hb d_law_49 (by decide) (by decide) rfl (by decide) (lc_3 q1 hC hW hJ hl h1 h2 kk)
      by_cases z4 : v = nI 4
      · subst z4
        exact lv_tableIn (pc := 49) (tgt := 410) hx hb d_law_49 (by decide) (by decide) rfl (by decide) (lc_4 q1 q2 hC hW hJ hl h1 h2 kk)
      by_cases z5 : v = nI 5
      · subst z5
        exact lv_tableIn (pc := 49) (tgt := 485) hx hb d_law_49 (by decide) (by decide) rfl (by decide) (lc_5 q1 q2 q3 q4 hC hW hJ hl h1 h2 kk)
      by_cases z6 : v = nI 6
      · subst z6
        exact lv_tableIn (pc := 49) (tgt := 604) hx hb d_law_49 (by decide) (by decide) rfl (by decide) (lc_6 q1 q2 q3 q4 hC hW hJ hl h1 h2 kk)
      by_cases z7 : v = nI 7
      · subst z7
        exact lv_tableIn (pc := 49) (tgt := 696) hx hb d_law_49 (by decide) (by decide) rfl (by decide) (lc_7 q1 q2 hC hW hJ hl h1 h2 kk)
      by_cases z8 : v = nI 8
      · subst z8
        exact lv_tableIn (pc := 49) (tgt := 771) hx hb d_law_49 (by decide) (by decide) rfl (by decide) (lc_8 hC hW hJ hl h1 h2 kk)
      by_cases z9 : v = nI 9
      · subst z9
        exact lv_tableIn (pc := 49) (tgt := 784) hx hb d_law_49 (by decide) (by decide) rfl (by decide) (lc_9 q1 hC hW hJ hl h1 h2 kk)
      by_cases z10 : v = nI 10
      · subst z10
        exact lv_tableIn (pc := 49) (tgt := 847) hx hb d_law_49 (by decide) (by decide) rfl (by decide) (lc_10 q1 hC hW hJ hl h1 h2 kk)
      by_cases z11 : v = nI 11
      · subst z11
        exact lv_tableIn (pc := 49) (tgt := 910) hx hb d_law_49 (by decide) (by decide) rfl (by decide) (lc_11 q1 q2 hC hW hJ hl h1 h2 kk)
      by_cases z12 : v = nI 12
      · subst z12
        exact lv_tableIn (pc := 49) (tgt := 947) hx hb d_law_49 (by decide) (by decide) rfl (by decide) (lc_12 q1 q2 hC hW hJ hl h1 h2 kk)
      by_cases z13 : v = nI 13
      · subst z13
        exact lv_tableIn (pc := 49) (tgt := 984) hx hb d_law_49 (by decide) (by decide) rfl (by decide) (lc_13 q1 q2 q3 hC hW hJ hl h1 h2 kk)
      by_cases z14 : v = nI 14
      · subst z14
        exact lv_tableIn (pc := 49) (tgt := 1033) hx hb d_law_49 (by decide) (by decide) rfl (by decide) (lc_14 q1 q2 hC hW hJ hl h1 h2 kk)
      by_cases z15 : v = nI 15
      · subst z15
        exact lv_tableIn (pc := 49) (tgt := 1070) hx hb d_law_49 (by decide) (by decide) rfl (by decide) (lc_15 q1 q2 q3 hC hW hJ hl h1 h2 kk)
      by_cases z16 : v = nI 16
      · subst z16
        exact lv_tableIn (pc := 49) (tgt := 1119) hx hb d_law_49 (by decide) (by decide) rfl (by decide) (lc_16 q1 hC hW hJ hl h1 h2 kk)
      by_cases z17 : v = nI 17
      · subst z17
        exact lv_tableIn (pc := 49) (tgt := 1145) hx hb d_law_49 (by decide) (by decide) rfl (by decide) (lc_17 q1 hC hW hJ hl h1 h2 kk)
      have t0 := ne_k (k := 0) (by decide) z0
      have t1 := ne_k (k := 1) (by decide) z1
      have t2 := ne_k (k := 2) (by decide) z2
      have t3 := ne_k (k := 3) (by decide) z3
      have t4 := ne_k (k := 4) (by decide) z4
      have t5 := ne_k (k := 5) (by decide) z5
      have t6 := ne_k (k := 6) (by decide) z6
      have t7 := ne_k (k := 7) (by decide) z7
      have t8 := ne_k (k := 8) (by decide) z8
      have t9 := ne_k (k := 9) (by decide) z9
      have t10 := ne_k (k := 10) (by decide) z10
      have t11 := ne_k (k := 11) (by decide) z11
      have t12 := ne_k (k := 12) (by decide) z12
      have t13 := ne_k (k := 13) (by decide) z13
      have t14 := ne_k (k := 14) (by decide) z14
      have t15 := ne_k (k := 15) (by decide) z15
      have t16 := ne_k (k := 16) (by decide) z16
      have t17 := ne_k (k := 17) (by decide) z17
      exact lv_tableOut (pc := 49) (tgt := 1170) hx hb d_law_49 (by omega) (by decide) (kk S U H locs cells slots ls hW hJ hl (Nat.le_succ _) (Nat.le_add_right _ 6))
end LWF
