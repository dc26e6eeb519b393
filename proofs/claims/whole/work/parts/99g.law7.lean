/-! The law from its entry; the claim. -/
def TnQ : List N3 := [(20, 0, 0), (23, 0, 0), (22, 0, 0), (21, 0, 0), (19, 0, 0), (25, 0, 0), (26, 0, 0), (27, 0, 0), (28, 0, 0), (24, 0, 0), (15, 4, 0), (14, 4, 0), (15, 4, 1), (14, 4, 1), (15, 0, 0), (14, 0, 0), (15, 0, 1), (14, 0, 1), (15, 0, 2), (14, 0, 2), (15, 0, 3), (14, 0, 3), (15, 0, 4), (14, 0, 4), (15, 0, 5), (14, 0, 5), (15, 0, 6), (14, 0, 6), (15, 0, 7), (14, 0, 7), (15, 0, 8), (14, 0, 8), (15, 0, 9), (14, 0, 9), (15, 0, 10), (14, 0, 10), (15, 0, 11), (14, 0, 11), (15, 0, 12), (14, 0, 12), (15, 0, 13), (14, 0, 13), (15, 0, 14), (14, 0, 14), (15, 0, 15), (14, 0, 15), (13, 0, 0), (12, 0, 0), (17, 0, 0), (16, 0, 0), (17, 0, 1), (16, 0, 1), (18, 0, 0), (6, 0, 0), (9, 0, 0), (8, 0, 0), (7, 0, 0), (11, 0, 0), (10, 0, 0), (5, 0, 0), (4, 0, 0), (3, 0, 0), (15, 1, 0), (14, 1, 0), (15, 1, 1), (14, 1, 1), (15, 1, 2), (14, 1, 2), (15, 1, 3), (14, 1, 3), (15, 1, 4), (14, 1, 4), (15, 1, 5), (14, 1, 5), (15, 1, 6), (14, 1, 6), (15, 1, 7), (14, 1, 7), (15, 1, 8), (14, 1, 8), (15, 1, 9), (14, 1, 9), (15, 1, 10), (14, 1, 10), (15, 1, 11), (14, 1, 11), (15, 1, 12), (14, 1, 12), (15, 1, 13), (14, 1, 13), (15, 1, 14), (14, 1, 14), (15, 1, 15), (14, 1, 15), (13, 1, 0), (12, 1, 0), (17, 1, 0), (16, 1, 0), (17, 1, 1), (16, 1, 1), (18, 1, 0), (6, 1, 0), (9, 1, 0), (8, 1, 0), (7, 1, 0), (11, 1, 0), (10, 1, 0), (5, 1, 0), (4, 1, 0), (3, 1, 0), (15, 2, 0), (14, 2, 0), (15, 2, 1), (14, 2, 1), (15, 2, 2), (14, 2, 2), (15, 2, 3), (14, 2, 3), (15, 2, 4), (14, 2, 4), (15, 2, 5), (14, 2, 5), (15, 2, 6), (14, 2, 6), (15, 2, 7), (14, 2, 7), (15, 2, 8), (14, 2, 8), (15, 2, 9), (14, 2, 9), (15, 2, 10), (14, 2, 10), (15, 2, 11), (14, 2, 11), (15, 2, 12), (14, 2, 12), (15, 2, 13), (14, 2, 13), (15, 2, 14), (14, 2, 14), (15, 2, 15), (14, 2, 15), (13, 2, 0), (12, 2, 0), (17, 2, 0), (16, 2, 0), (17, 2, 1), (16, 2, 1), (18, 2, 0), (6, 2, 0), (9, 2, 0), (8, 2, 0), (7, 2, 0), (11, 2, 0), (10, 2, 0), (5, 2, 0), (4, 2, 0), (3, 2, 0), (15, 3, 0), (14, 3, 0), (15, 3, 1), (14, 3, 1), (15, 3, 2), (14, 3, 2), (15, 3, 3), (14, 3, 3), (15, 3, 4), (14, 3, 4), (15, 3, 5), (14, 3, 5), (15, 3, 6), (14, 3, 6), (15, 3, 7), (14, 3, 7), (15, 3, 8), (14, 3, 8), (15, 3, 9), (14, 3, 9), (15, 3, 10), (14, 3, 10), (15, 3, 11), (14, 3, 11), (15, 3, 12), (14, 3, 12), (15, 3, 13), (14, 3, 13), (15, 3, 14), (14, 3, 14), (15, 3, 15), (14, 3, 15), (13, 3, 0), (12, 3, 0), (17, 3, 0), (16, 3, 0), (17, 3, 1), (16, 3, 1), (18, 3, 0), (6, 3, 0), (9, 3, 0), (8, 3, 0), (7, 3, 0), (11, 3, 0), (10, 3, 0), (5, 3, 0), (4, 3, 0), (3, 3, 0), (2, 0, 0), (1, 0, 0)]
theorem tq_perm : (TnQ ++ [(29, 0, 0)]).Perm TQ := by decide +kernel
theorem dfs_M : ∀ j, j < 43 → defaultValue (t_M j) = vp_V (.long 0 :: .int 0 :: .int 0 :: .int 0 :: .long 0 :: .null :: .int 0 :: .null :: .null :: .null :: .null :: .int 0 :: .null :: .null :: .null :: .null :: .null :: .null :: .null :: .null :: .null :: .null :: .null :: .null :: .null :: .null :: .null :: .null :: .null :: .null :: .null :: .null :: .null :: .null :: .null :: .null :: .null :: .null :: .null :: .null :: .int 0 :: .null :: .null :: []) j := by decide +kernel
theorem tn11 : ((11, 3, 0) : N3) ∈ TnQ := by decide +kernel
theorem out0 (sd : Int32) : (S0q sd).2.1 29 0 0 0 = 0 := rfl
set_option maxHeartbeats 4000000 in
theorem whole_start {p : Program} {e : Env} {s : State} {m : MethodId} {below : List Frame} {meth : Method} {c : Code} (l : Launch) (htr : l.stackTraces = false) {b L : Nat} {xs : Nat → Int32} (hL : L ≤ 2561) (C0 : lw_At p s m meth c b L xs) : W p l e room_1 s m #[Value.ref b] below meth c s.heap [] 0 0 (lw_Z below #[Value.ref b] s) (entryFrame m ([Value.ref b] : List Value).toArray 7) := by
  obtain ⟨hx, hb, hr, hml, hown, hts, hX, hbl, hlocks, hgv⟩ := C0
  have hg : ∀ w ∈ GG, w.before #[Value.ref b] s = true := fun w hw => hts w (List.mem_filter.mp hw).1
  have hF : CallFix p m c code 7 s #[Value.ref b] GG R_L := ⟨hx, hb, hml, hown, hg⟩
  obtain ⟨D, hD⟩ := known hg clQ clQ_in
  obtain ⟨D2, hD2⟩ := known hg clM clM_in
  obtain ⟨c0, i0, j0⟩ := arr_of (hg _ gw_105) (fun C h => by cases h)
  obtain ⟨c1, i1, j1⟩ := arr_of (hg _ gw_163) (fun C h => by cases h)
  obtain ⟨c2, i2, j2⟩ := arr_of (hg _ gw_106) (fun C h => by cases h)
  obtain ⟨c3, i3, j3⟩ := arr_obj (hts _ (tb_over "QuorumChain$Node" (by decide)))
  obtain ⟨c4, i4, j4⟩ := arr_obj (hts _ (tb_over "QuorumChain$Message" (by decide)))
  obtain ⟨ca, hca⟩ : ∃ ca : Nat → ClassId, ca 0 = c0 ∧ ca 1 = c1 ∧ ca 2 = c2 ∧ ca 3 = c3 ∧ ca 4 = c4 := ⟨fun k => if k = 0 then c0 else if k = 1 then c1 else if k = 2 then c2 else if k = 3 then c3 else c4, rfl, rfl, rfl, rfl, rfl⟩
  obtain ⟨rfl, rfl, rfl, rfl, rfl⟩ := hca
  have kQ : va_K D clQ (tysQ ca) s := ⟨hD, fun k q hk => by
    have hm := List.mem_of_getElem? hk
    simp only [tysQ, List.mem_cons, List.not_mem_nil, or_false] at hm
    rcases hm with rfl | rfl | rfl | rfl | rfl
    · exact ⟨i0, j0⟩
    · exact ⟨i1, j1⟩
    · exact ⟨i2, j2⟩
    · exact ⟨i3, j3⟩
    · exact ⟨i4, j4⟩⟩
  have kM : va_K D2 clM (tysM ca) s := ⟨hD2, fun k q hk => by
    have hm := List.mem_of_getElem? hk
    simp only [tysM, List.mem_cons, List.not_mem_nil, or_false] at hm
    rcases hm with rfl | rfl | rfl
    · exact ⟨i0, j0⟩
    · exact ⟨i1, j1⟩
    · exact ⟨i2, j2⟩⟩
  have zQ : zK D clQ (tysQ ca) nwQ s := ⟨kQ, fun q hq => va_Nw.of rfl (hts _ (tb_nest.1 q hq))⟩
  have zN : zK D clQ (tysQ ca) nwN s := ⟨kQ, fun q hq => va_Nw.of rfl (hts _ (tb_nest.2 q hq))⟩
  have zM : zK D2 clM (tysM ca) nwM s := ⟨kM, fun q hq => absurd hq List.not_mem_nil⟩
  have hO : ∀ C ∈ aoN, va_AO C s := fun C hC => va_AO.of (hts _ (tb_over C hC))
  have hN : va_Nc xIS xIA s := va_Nc.of (flat_of_before _ hgv _ nr_cast)
  have hC : LX p l s m #[Value.ref b] c b L xs D D2 ca ca := ⟨hF, zQ, zM, xf_start hts hgv, hN, hX, hbl, htr⟩
  have hA : ∀ q, s.heap.size ≤ q → lA s q := fun _ h => h
  have hl := lv_entry [Value.ref b] (n := 7) (Nat.le_of_ble_eq_true rfl)
  rw [lg_entry_eq]
  generalize (lg_sl [Value.ref b] ++ List.replicate (7 - (lg_sl [Value.ref b]).length) Slot.unset).toArray = ls at hl ⊢
  have hl : lv_has ls 7 [(0, .ref b)] := hl
  generalize hb0 : s.heap.size = b0
  have w0 : Wd D clQ (lA s) s.heap [] s.heap [] := Wd.none va_S.rf
  refine k_newo (pc := 0) (h := adQ b0 (1, 0, 0)) hF kQ w0 hA hb0 (ci := 0) (fs := [.null, .null, .null, .null, .null, .int 0, .int 0]) in_QC t_QC tyo_QC gw_72 gw_73 gw_52 rfl dfs_QC (Nat.le_of_ble_eq_true rfl) (Nat.le_of_ble_eq_true rfl) d_law_0 (fun H hz _ hW => ?_)
  refine lv_dup (pc := 3) hx hb d_law_3 rfl ?_
  refine lv_aload_n (pc := 4) hx hb d_law_4 rfl (lv_at hl 0 rfl) ?_
  refine lv_iconst (pc := 5) (v := 0) hx hb d_law_5 (by decide) ?_
  refine s_cell (pc := 6) hF hX hbl hL hW.2.2 gw_497 ⟨Nat.le_of_ble_eq_true rfl, Nat.le_of_ble_eq_true rfl⟩ ⟨Nat.le_of_ble_eq_true rfl, Nat.le_of_ble_eq_true rfl⟩ hl.1 (Nat.le_of_ble_eq_true rfl) d_law_6 ?_
  obtain ⟨sd, hsd⟩ : ∃ sd, sd = sd0 L xs := ⟨_, rfl⟩
  rw [← hsd]
  refine k_init (pc := 9) (ws := []) hF zN hO hW hA (c_n_QC l D ca b0 sd) hz cd_QC_init gw_74 ⟨Nat.le_of_ble_eq_true rfl, Nat.le_of_ble_eq_true rfl⟩ ⟨Nat.le_of_ble_eq_true rfl, Nat.le_of_ble_eq_true rfl⟩ rfl rfl hl.1 (Nat.le_of_ble_eq_true rfl) d_law_9 (fun H locs hW _ => ?_)
  have hW : Wd D clQ (lA s) s.heap (zw [] (adQ b0) TnQ (cfQ (adQ b0) ca) (S0q sd)) H locs := hW
  refine lv_astore_n (pc := 12) (lv' := [(1, .ref (adQ b0 (1, 0, 0))), (0, .ref b)]) hx hb d_law_12 rfl hl (by decide) rfl (fun ls hl => ?_)
  refine n_here (h := adM (b0 + 208) (1, 0, 0)) hW (by rw [hb0]; rfl) (Or.inr ⟨_, zw_mem (t := (11, 3, 0)) tn11, Nat.le_refl _⟩) (fun hh => ?_)
  have m0 : Wd D2 clM (lA s) s.heap [] H locs := Wd.none hW.2.2
  have hlow : ∀ x ∈ zw [] (adQ b0) TnQ (cfQ (adQ b0) ca) (S0q sd), x.1 < adM (b0 + 208) (1, 0, 0) := fun x hx9 => by
    have := hW.under hx9
    omega
  refine k_newo (pc := 13) (h := adM (b0 + 208) (1, 0, 0)) hF kM m0 hA hh (ci := 0) (fs := (.long 0 :: .int 0 :: .int 0 :: .int 0 :: .long 0 :: .null :: .int 0 :: .null :: .null :: .null :: .null :: .int 0 :: .null :: .null :: .null :: .null :: .null :: .null :: .null :: .null :: .null :: .null :: .null :: .null :: .null :: .null :: .null :: .null :: .null :: .null :: .null :: .null :: .null :: .null :: .null :: .null :: .null :: .null :: .null :: .null :: .int 0 :: .null :: .null :: [])) in_M t_M tyo_M gw_846 gw_847 gw_63 rfl dfs_M (Nat.le_of_ble_eq_true rfl) (Nat.le_of_ble_eq_true rfl) d_law_13 (fun H hz hk hM => ?_)
  have hW := hW.stay hk hM
  refine lv_dup (pc := 16) hx hb d_law_16 rfl ?_
  refine lv_aload_n (pc := 17) hx hb d_law_17 rfl (lv_at hl 1 rfl) ?_
  refine lv_iconst (pc := 18) (v := 0) hx hb d_law_18 (by decide) ?_
  refine s_cell (pc := 19) hF hX hbl hL hW.2.2 gw_497 ⟨Nat.le_of_ble_eq_true rfl, Nat.le_of_ble_eq_true rfl⟩ ⟨Nat.le_of_ble_eq_true rfl, Nat.le_of_ble_eq_true rfl⟩ hl.1 (Nat.le_of_ble_eq_true rfl) d_law_19 ?_
  rw [← hsd]
  refine k_init (pc := 22) (ws := []) hF zM (AO := []) (fun C hC9 => absurd hC9 List.not_mem_nil) hM hA (c_n_M l D2 ca (b0 + 208) sd (m_i379 sd).2) hz cd_M_init gw_848 ⟨Nat.le_of_ble_eq_true rfl, Nat.le_of_ble_eq_true rfl⟩ ⟨Nat.le_of_ble_eq_true rfl, Nat.le_of_ble_eq_true rfl⟩ rfl rfl hl.1 (Nat.le_of_ble_eq_true rfl) d_law_22 (fun H locs hM hk => ?_)
  have hW := hW.beside hM hk (fun x hx9 y hy => by
    have h1 := hlow x hx9
    rw [List.mem_singleton] at hy
    rw [hy]
    exact Nat.ne_of_lt h1)
  generalize hU : f_M_init_379 sd (S1m sd) = U at hM
  have hJ : JB sd (S0q sd) U := by
    rw [← hU]
    exact b_start sd
  refine lv_astore_n (pc := 25) (lv' := [(2, .ref (adM (b0 + 208) (1, 0, 0))), (1, .ref (adQ b0 (1, 0, 0))), (0, .ref b)]) hx hb d_law_25 rfl hl (by decide) rfl (fun ls hl => ?_)
  refine lv_iconst (pc := 26) (v := 1) hx hb d_law_26 (by decide) ?_
  refine n_here (h := adQ b0 (29, 0, 0)) hM (by rw [hb0]; rfl) (Or.inr ⟨_, zw_mem (t := (36, 0, 0)) tm36, Nat.le_refl _⟩) (fun hh => ?_)
  refine k_newa (pc := 27) (h := adQ b0 (29, 0, 0)) hF kQ hW hA hh (ty := .long) rfl gw_163 1 rfl (fun C h => by cases h) (N := 1) (a0 := (1, .inr (.inl (fun _ => 0)))) (by rw [vp_cell_l]; rfl) (by decide) rfl (Nat.le_of_ble_eq_true rfl) (Nat.le_of_ble_eq_true rfl) (Nat.le_of_ble_eq_true rfl) d_law_27 (fun H hz hk hW => ?_)
  have hM := hM.stay hk hW
  have hW : Wd D clQ (lA s) s.heap ([] ++ zw [] (adQ b0) (TnQ ++ [(29, 0, 0)]) (cfQ (adQ b0) ca) (S0q sd)) H locs := n_fin (t := (29, 0, 0)) (R2 := []) hW (fun h9 => Eq.trans h9 (congrArg some (cellL_same (fun x hx9 => by
    have : x = 0 := by omega
    subst this
    exact (out0 sd).symm))))
  have hW : Wd D clQ (lA s) s.heap (wQ b0 ca (S0q sd)) H locs := hW.perm (List.Perm.map (fun t => (adQ b0 t, zs (cfQ (adQ b0) ca) (S0q sd) t)) tq_perm)
  refine lv_astore_n (pc := 29) (lv' := [(3, .ref (adQ b0 (29, 0, 0))), (2, .ref (adM (b0 + 208) (1, 0, 0))), (1, .ref (adQ b0 (1, 0, 0))), (0, .ref b)]) hx hb d_law_29 rfl hl (by decide) rfl (fun ls hl => ?_)
  refine lv_iconst (pc := 30) (v := 1) hx hb d_law_30 (by decide) ?_
  refine lv_istore (pc := 31) (lv' := lvs b b0 (nI (5 * 0 + 1))) hx hb d_law_31 hl (by decide) rfl (fun ls hl => ?_)
  exact law_loop hC hL hr hlocks 512 0 (S0q sd) U H locs _ _ ls (by omega) (Nat.zero_le _) (Nat.le_of_ble_eq_true rfl) (Nat.le_of_ble_eq_true rfl) ⟨hW, hM⟩ hJ hl
