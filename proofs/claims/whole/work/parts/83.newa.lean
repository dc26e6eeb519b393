set_option maxHeartbeats 4000000 in
set_option maxRecDepth 100000 in
theorem c_n_Message (l : Launch) (D : va_G) (ca : Nat → ClassId) (b0 : Nat) (sd : Int32) (i : Nat) (j : Nat)  : cN l GG D clQ (tysQ ca) nwN aoN (adQ b0) (cfQ (adQ b0) ca) (S0q sd) y_Message_init b_Message_init 1 1 30 1 11 ((adQ b0) (14, i, j), .inr (6, [.null, .int 0, .int 0, .int 0, .int 0, .int 0])) ((adQ b0) (14, i, j) + 1) [.ref ((adQ b0) (14, i, j))] [(15, i, j), (14, i, j)] := by
  refine n_of pn_Message rfl (Nat.le_of_ble_eq_true rfl) (fun B p e s m below meth c A ls hy hO hni hs hW hA hl => ?_)
  have hF := hy.1
  have hx := hF.1
  have hb := hF.2.1
  have hK := hy.2.2.2
  have hl : lv_has ls 1 [(0, .ref ((adQ b0) (14, i, j)))] := hl
  have hW : Wd D clQ A s.heap (((adQ b0) (14, i, j), .inr (6, [.null, .int 0, .int 0, .int 0, .int 0, .int 0])) :: zw B (adQ b0) [] (cfQ (adQ b0) ca) (S0q sd)) s.heap [] := by rw [zw_nil]; exact hW
  refine lv_aload_n (pc := 0) hx hb d_Message_init_0 rfl (lv_at hl 0 rfl) ?_
  refine n_objInit (pc := 1) hF gw_135 gw_78 gw_79 hl.1 (Nat.le_of_ble_eq_true rfl) (Nat.le_of_ble_eq_true rfl) d_Message_init_1 ?_
  refine lv_aload_n (pc := 4) hx hb d_Message_init_4 rfl (lv_at hl 0 rfl) ?_
  refine lv_bipush (pc := 5) (v := 11) hx hb d_Message_init_5 (by decide) ?_
  refine n_here (h := (adQ b0) (15, i, j)) hW (by (try simp only [hs, ad_15s]) <;> omega) (Or.inl (by (try simp only [hs, ad_15s]) <;> omega)) (fun hh => ?_)
  refine n_newa (pc := 7) hF hK.1 hW hA hh (ty := .long) rfl gw_163 1 (cA := ca 1) rfl (fun C h => nomatch h) (a0 := (11, .inr (.inl (fun _ => 0)))) rfl (by decide) (by decide) (by decide) (Nat.le_of_ble_eq_true rfl) (Nat.le_of_ble_eq_true rfl) d_Message_init_7 (fun H hz hW => ?_)
  have hW : Wd D clQ A s.heap (((adQ b0) (15, i, j), .inl (ca 1, 11, .inr (.inl (fun _ => 0)))) :: ((adQ b0) (14, i, j), .inr (6, [.null, .int 0, .int 0, .int 0, .int 0, .int 0])) :: zw B (adQ b0) [] (cfQ (adQ b0) ca) (S0q sd)) H [] := hW
  have hW : Wd D clQ A s.heap (((adQ b0) (14, i, j), .inr (6, [.null, .int 0, .int 0, .int 0, .int 0, .int 0])) :: zw B (adQ b0) [(15, i, j)] (cfQ (adQ b0) ca) (S0q sd)) H [] := n_fin (t := (15, i, j)) (R2 := [((adQ b0) (14, i, j), .inr (6, [.null, .int 0, .int 0, .int 0, .int 0, .int 0]))]) hW (fun h => h)
  refine n_putF (pc := 9) hF hni hK.1 hW 0 rfl rfl in_Message t_Message tyo_Message nmo_Message 0 (by decide) gw_136 rfl rfl rfl rfl rfl rfl (Nat.le_of_ble_eq_true rfl) d_Message_init_9 (fun H locs hW => ?_)
  have hW : Wd D clQ A s.heap (((adQ b0) (14, i, j), .inr (6, [.ref ((adQ b0) (15, i, j)), .int 0, .int 0, .int 0, .int 0, .int 0])) :: zw B (adQ b0) [(15, i, j)] (cfQ (adQ b0) ca) (S0q sd)) H locs := hW
  refine lv_aload_n (pc := 12) hx hb d_Message_init_12 rfl (lv_at hl 0 rfl) ?_
  refine lv_iconst (pc := 13) (v := -1) hx hb d_Message_init_13 (by decide) ?_
  refine n_put (pc := 14) hF hK.1 hW 0 rfl rfl in_Message t_Message tyo_Message nmo_Message 5 (by decide) gw_147 rfl rfl rfl rfl rfl (Nat.le_of_ble_eq_true rfl) d_Message_init_14 (fun H locs hW => ?_)
  have hW : Wd D clQ A s.heap (((adQ b0) (14, i, j), .inr (6, [.ref ((adQ b0) (15, i, j)), .int 0, .int 0, .int 0, .int 0, .int (-1 : Int32)])) :: zw B (adQ b0) [(15, i, j)] (cfQ (adQ b0) ca) (S0q sd)) H locs := hW
  have hW : Wd D clQ A s.heap (zw B (adQ b0) [(15, i, j), (14, i, j)] (cfQ (adQ b0) ca) (S0q sd)) H locs := n_fin (t := (14, i, j)) (R2 := []) hW (fun h => h)
  exact n_vret hy hW (Nat.le_of_ble_eq_true rfl) (Nat.le_of_ble_eq_true rfl) d_Message_init_17
set_option maxHeartbeats 4000000 in
set_option maxRecDepth 100000 in
theorem c_n_Transactions (l : Launch) (D : va_G) (ca : Nat → ClassId) (b0 : Nat) (sd : Int32)  : cN l GG D clQ (tysQ ca) nwN aoN (adQ b0) (cfQ (adQ b0) ca) (S0q sd) y_Transactions_init b_Transactions_init 1 1 30 4 160 ((adQ b0) (24, 0, 0), .inr (9, [.null, .null, .null, .null, .int 0])) ((adQ b0) (24, 0, 0) + 1) [.ref ((adQ b0) (24, 0, 0))] [(25, 0, 0), (26, 0, 0), (27, 0, 0), (28, 0, 0), (24, 0, 0)] := by
  refine n_of pn_Transactions rfl (Nat.le_of_ble_eq_true rfl) (fun B p e s m below meth c A ls hy hO hni hs hW hA hl => ?_)
  have hF := hy.1
  have hx := hF.1
  have hb := hF.2.1
  have hK := hy.2.2.2
  have hl : lv_has ls 1 [(0, .ref ((adQ b0) (24, 0, 0)))] := hl
  have hW : Wd D clQ A s.heap (((adQ b0) (24, 0, 0), .inr (9, [.null, .null, .null, .null, .int 0])) :: zw B (adQ b0) [] (cfQ (adQ b0) ca) (S0q sd)) s.heap [] := by rw [zw_nil]; exact hW
  refine lv_aload_n (pc := 0) hx hb d_Transactions_init_0 rfl (lv_at hl 0 rfl) ?_
  refine n_objInit (pc := 1) hF gw_112 gw_78 gw_79 hl.1 (Nat.le_of_ble_eq_true rfl) (Nat.le_of_ble_eq_true rfl) d_Transactions_init_1 ?_
  refine lv_aload_n (pc := 4) hx hb d_Transactions_init_4 rfl (lv_at hl 0 rfl) ?_
  refine lv_bipush (pc := 5) (v := 40) hx hb d_Transactions_init_5 (by decide) ?_
  refine n_here (h := (adQ b0) (25, 0, 0)) hW (by (try simp only [hs, ad_24, ad_25]) <;> omega) (Or.inl (by (try simp only [hs, ad_24, ad_25]) <;> omega)) (fun hh => ?_)
  refine n_newa (pc := 7) hF hK.1 hW hA hh (ty := .int) rfl gw_105 0 (cA := ca 0) rfl (fun C h => nomatch h) (a0 := (40, .inl (fun _ => 0))) rfl (by decide) (by decide) (by decide) (Nat.le_of_ble_eq_true rfl) (Nat.le_of_ble_eq_true rfl) d_Transactions_init_7 (fun H hz hW => ?_)
  have hW : Wd D clQ A s.heap (((adQ b0) (25, 0, 0), .inl (ca 0, 40, .inl (fun _ => 0))) :: ((adQ b0) (24, 0, 0), .inr (9, [.null, .null, .null, .null, .int 0])) :: zw B (adQ b0) [] (cfQ (adQ b0) ca) (S0q sd)) H [] := hW
  have hW : Wd D clQ A s.heap (((adQ b0) (24, 0, 0), .inr (9, [.null, .null, .null, .null, .int 0])) :: zw B (adQ b0) [(25, 0, 0)] (cfQ (adQ b0) ca) (S0q sd)) H [] := n_fin (t := (25, 0, 0)) (R2 := [((adQ b0) (24, 0, 0), .inr (9, [.null, .null, .null, .null, .int 0]))]) hW (fun h => h)
  refine n_putF (pc := 9) hF hni hK.1 hW 0 rfl rfl in_Transactions t_Transactions tyo_Transactions nmo_Transactions 0 (by decide) gw_113 rfl rfl rfl rfl rfl rfl (Nat.le_of_ble_eq_true rfl) d_Transactions_init_9 (fun H locs hW => ?_)
  have hW : Wd D clQ A s.heap (((adQ b0) (24, 0, 0), .inr (9, [.ref ((adQ b0) (25, 0, 0)), .null, .null, .null, .int 0])) :: zw B (adQ b0) [(25, 0, 0)] (cfQ (adQ b0) ca) (S0q sd)) H locs := hW
  refine lv_aload_n (pc := 12) hx hb d_Transactions_init_12 rfl (lv_at hl 0 rfl) ?_
  refine lv_bipush (pc := 13) (v := 40) hx hb d_Transactions_init_13 (by decide) ?_
  refine n_here (h := (adQ b0) (26, 0, 0)) hW (by (try simp only [hs, ad_24, ad_26]) <;> omega) (Or.inr ⟨(_, _), (List.mem_cons_of_mem _ (zw_mem (t := (25, 0, 0)) (List.mem_of_getElem? (i := 0) rfl))), (by (try simp only [hs, ad_24, ad_25, ad_26]) <;> omega)⟩) (fun hh => ?_)
  refine n_newa (pc := 15) hF hK.1 hW hA hh (ty := .int) rfl gw_105 0 (cA := ca 0) rfl (fun C h => nomatch h) (a0 := (40, .inl (fun _ => 0))) rfl (by decide) (by decide) (by decide) (Nat.le_of_ble_eq_true rfl) (Nat.le_of_ble_eq_true rfl) d_Transactions_init_15 (fun H hz hW => ?_)
  have hW : Wd D clQ A s.heap (((adQ b0) (26, 0, 0), .inl (ca 0, 40, .inl (fun _ => 0))) :: ((adQ b0) (24, 0, 0), .inr (9, [.ref ((adQ b0) (25, 0, 0)), .null, .null, .null, .int 0])) :: zw B (adQ b0) [(25, 0, 0)] (cfQ (adQ b0) ca) (S0q sd)) H locs := hW
  have hW : Wd D clQ A s.heap (((adQ b0) (24, 0, 0), .inr (9, [.ref ((adQ b0) (25, 0, 0)), .null, .null, .null, .int 0])) :: zw B (adQ b0) [(25, 0, 0), (26, 0, 0)] (cfQ (adQ b0) ca) (S0q sd)) H locs := n_fin (t := (26, 0, 0)) (R2 := [((adQ b0) (24, 0, 0), .inr (9, [.ref ((adQ b0) (25, 0, 0)), .null, .null, .null, .int 0]))]) hW (fun h => h)
  refine n_putF (pc := 17) hF hni hK.1 hW 0 rfl rfl in_Transactions t_Transactions tyo_Transactions nmo_Transactions 1 (by decide) gw_114 rfl rfl rfl rfl rfl rfl (Nat.le_of_ble_eq_true rfl) d_Transactions_init_17 (fun H locs hW => ?_)
  have hW : Wd D clQ A s.heap (((adQ b0) (24, 0, 0), .inr (9, [.ref ((adQ b0) (25, 0, 0)), .ref ((adQ b0) (26, 0, 0)), .null, .null, .int 0])) :: zw B (adQ b0) [(25, 0, 0), (26, 0, 0)] (cfQ (adQ b0) ca) (S0q sd)) H locs := hW
  refine lv_aload_n (pc := 20) hx hb d_Transactions_init_20 rfl (lv_at hl 0 rfl) ?_
  refine lv_bipush (pc := 21) (v := 40) hx hb d_Transactions_init_21 (by decide) ?_
  refine n_here (h := (adQ b0) (27, 0, 0)) hW (by (try simp only [hs, ad_24, ad_27]) <;> omega) (Or.inr ⟨(_, _), (List.mem_cons_of_mem _ (zw_mem (t := (26, 0, 0)) (List.mem_of_getElem? (i := 1) rfl))), (by (try simp only [hs, ad_24, ad_26, ad_27]) <;> omega)⟩) (fun hh => ?_)
  refine n_newa (pc := 23) hF hK.1 hW hA hh (ty := .int) rfl gw_105 0 (cA := ca 0) rfl (fun C h => nomatch h) (a0 := (40, .inl (fun _ => 0))) rfl (by decide) (by decide) (by decide) (Nat.le_of_ble_eq_true rfl) (Nat.le_of_ble_eq_true rfl) d_Transactions_init_23 (fun H hz hW => ?_)
  have hW : Wd D clQ A s.heap (((adQ b0) (27, 0, 0), .inl (ca 0, 40, .inl (fun _ => 0))) :: ((adQ b0) (24, 0, 0), .inr (9, [.ref ((adQ b0) (25, 0, 0)), .ref ((adQ b0) (26, 0, 0)), .null, .null, .int 0])) :: zw B (adQ b0) [(25, 0, 0), (26, 0, 0)] (cfQ (adQ b0) ca) (S0q sd)) H locs := hW
  have hW : Wd D clQ A s.heap (((adQ b0) (24, 0, 0), .inr (9, [.ref ((adQ b0) (25, 0, 0)), .ref ((adQ b0) (26, 0, 0)), .null, .null, .int 0])) :: zw B (adQ b0) [(25, 0, 0), (26, 0, 0), (27, 0, 0)] (cfQ (adQ b0) ca) (S0q sd)) H locs := n_fin (t := (27, 0, 0)) (R2 := [((adQ b0) (24, 0, 0), .inr (9, [.ref ((adQ b0) (25, 0, 0)), .ref ((adQ b0) (26, 0, 0)), .null, .null, .int 0]))]) hW (fun h => h)
  refine n_putF (pc := 25) hF hni hK.1 hW 0 rfl rfl in_Transactions t_Transactions tyo_Transactions nmo_Transactions 2 (by decide) gw_115 rfl rfl rfl rfl rfl rfl (Nat.le_of_ble_eq_true rfl) d_Transactions_init_25 (fun H locs hW => ?_)
  have hW : Wd D clQ A s.heap (((adQ b0) (24, 0, 0), .inr (9, [.ref ((adQ b0) (25, 0, 0)), .ref ((adQ b0) (26, 0, 0)), .ref ((adQ b0) (27, 0, 0)), .null, .int 0])) :: zw B (adQ b0) [(25, 0, 0), (26, 0, 0), (27, 0, 0)] (cfQ (adQ b0) ca) (S0q sd)) H locs := hW
  refine lv_aload_n (pc := 28) hx hb d_Transactions_init_28 rfl (lv_at hl 0 rfl) ?_
  refine lv_bipush (pc := 29) (v := 40) hx hb d_Transactions_init_29 (by decide) ?_
  refine n_here (h := (adQ b0) (28, 0, 0)) hW (by (try simp only [hs, ad_24, ad_28]) <;> omega) (Or.inr ⟨(_, _), (List.mem_cons_of_mem _ (zw_mem (t := (27, 0, 0)) (List.mem_of_getElem? (i := 2) rfl))), (by (try simp only [hs, ad_24, ad_27, ad_28]) <;> omega)⟩) (fun hh => ?_)
  refine n_newa (pc := 31) hF hK.1 hW hA hh (ty := .int) rfl gw_105 0 (cA := ca 0) rfl (fun C h => nomatch h) (a0 := (40, .inl (fun _ => 0))) rfl (by decide) (by decide) (by decide) (Nat.le_of_ble_eq_true rfl) (Nat.le_of_ble_eq_true rfl) d_Transactions_init_31 (fun H hz hW => ?_)
  have hW : Wd D clQ A s.heap (((adQ b0) (28, 0, 0), .inl (ca 0, 40, .inl (fun _ => 0))) :: ((adQ b0) (24, 0, 0), .inr (9, [.ref ((adQ b0) (25, 0, 0)), .ref ((adQ b0) (26, 0, 0)), .ref ((adQ b0) (27, 0, 0)), .null, .int 0])) :: zw B (adQ b0) [(25, 0, 0), (26, 0, 0), (27, 0, 0)] (cfQ (adQ b0) ca) (S0q sd)) H locs := hW
  have hW : Wd D clQ A s.heap (((adQ b0) (24, 0, 0), .inr (9, [.ref ((adQ b0) (25, 0, 0)), .ref ((adQ b0) (26, 0, 0)), .ref ((adQ b0) (27, 0, 0)), .null, .int 0])) :: zw B (adQ b0) [(25, 0, 0), (26, 0, 0), (27, 0, 0), (28, 0, 0)] (cfQ (adQ b0) ca) (S0q sd)) H locs := n_fin (t := (28, 0, 0)) (R2 := [((adQ b0) (24, 0, 0), .inr (9, [.ref ((adQ b0) (25, 0, 0)), .ref ((adQ b0) (26, 0, 0)), .ref ((adQ b0) (27, 0, 0)), .null, .int 0]))]) hW (fun h => h)
  refine n_putF (pc := 33) hF hni hK.1 hW 0 rfl rfl in_Transactions t_Transactions tyo_Transactions nmo_Transactions 3 (by decide) gw_116 rfl rfl rfl rfl rfl rfl (Nat.le_of_ble_eq_true rfl) d_Transactions_init_33 (fun H locs hW => ?_)
  have hW : Wd D clQ A s.heap (((adQ b0) (24, 0, 0), .inr (9, [.ref ((adQ b0) (25, 0, 0)), .ref ((adQ b0) (26, 0, 0)), .ref ((adQ b0) (27, 0, 0)), .ref ((adQ b0) (28, 0, 0)), .int 0])) :: zw B (adQ b0) [(25, 0, 0), (26, 0, 0), (27, 0, 0), (28, 0, 0)] (cfQ (adQ b0) ca) (S0q sd)) H locs := hW
  have hW : Wd D clQ A s.heap (zw B (adQ b0) [(25, 0, 0), (26, 0, 0), (27, 0, 0), (28, 0, 0), (24, 0, 0)] (cfQ (adQ b0) ca) (S0q sd)) H locs := n_fin (t := (24, 0, 0)) (R2 := []) hW (fun h => h)
  exact n_vret hy hW (Nat.le_of_ble_eq_true rfl) (Nat.le_of_ble_eq_true rfl) d_Transactions_init_36
set_option maxHeartbeats 4000000 in
set_option maxRecDepth 100000 in
theorem c_n_Blocks (l : Launch) (D : va_G) (ca : Nat → ClassId) (b0 : Nat) (sd : Int32)  : cN l GG D clQ (tysQ ca) nwN aoN (adQ b0) (cfQ (adQ b0) ca) (S0q sd) y_Blocks_init b_Blocks_init 1 1 30 4 400 ((adQ b0) (19, 0, 0), .inr (8, [.null, .null, .null, .null, .int 0])) ((adQ b0) (19, 0, 0) + 1) [.ref ((adQ b0) (19, 0, 0))] [(20, 0, 0), (23, 0, 0), (22, 0, 0), (21, 0, 0), (19, 0, 0)] := by
  refine n_of pn_Blocks rfl (Nat.le_of_ble_eq_true rfl) (fun B p e s m below meth c A ls hy hO hni hs hW hA hl => ?_)
  have hF := hy.1
  have hx := hF.1
  have hb := hF.2.1
  have hK := hy.2.2.2
  have hl : lv_has ls 1 [(0, .ref ((adQ b0) (19, 0, 0)))] := hl
  have hW : Wd D clQ A s.heap (((adQ b0) (19, 0, 0), .inr (8, [.null, .null, .null, .null, .int 0])) :: zw B (adQ b0) [] (cfQ (adQ b0) ca) (S0q sd)) s.heap [] := by rw [zw_nil]; exact hW
  refine lv_aload_n (pc := 0) hx hb d_Blocks_init_0 rfl (lv_at hl 0 rfl) ?_
  refine n_objInit (pc := 1) hF gw_87 gw_78 gw_79 hl.1 (Nat.le_of_ble_eq_true rfl) (Nat.le_of_ble_eq_true rfl) d_Blocks_init_1 ?_
  refine lv_aload_n (pc := 4) hx hb d_Blocks_init_4 rfl (lv_at hl 0 rfl) ?_
  refine lv_bipush (pc := 5) (v := 100) hx hb d_Blocks_init_5 (by decide) ?_
  refine n_here (h := (adQ b0) (20, 0, 0)) hW (by (try simp only [hs, ad_19, ad_20]) <;> omega) (Or.inl (by (try simp only [hs, ad_19, ad_20]) <;> omega)) (fun hh => ?_)
  refine n_newa (pc := 7) hF hK.1 hW hA hh (ty := .int) rfl gw_105 0 (cA := ca 0) rfl (fun C h => nomatch h) (a0 := (100, .inl (fun _ => 0))) rfl (by decide) (by decide) (by decide) (Nat.le_of_ble_eq_true rfl) (Nat.le_of_ble_eq_true rfl) d_Blocks_init_7 (fun H hz hW => ?_)
  have hW : Wd D clQ A s.heap (((adQ b0) (20, 0, 0), .inl (ca 0, 100, .inl (fun _ => 0))) :: ((adQ b0) (19, 0, 0), .inr (8, [.null, .null, .null, .null, .int 0])) :: zw B (adQ b0) [] (cfQ (adQ b0) ca) (S0q sd)) H [] := hW
  have hW : Wd D clQ A s.heap (((adQ b0) (19, 0, 0), .inr (8, [.null, .null, .null, .null, .int 0])) :: zw B (adQ b0) [(20, 0, 0)] (cfQ (adQ b0) ca) (S0q sd)) H [] := n_fin (t := (20, 0, 0)) (R2 := [((adQ b0) (19, 0, 0), .inr (8, [.null, .null, .null, .null, .int 0]))]) hW (fun h => h)
  refine n_putF (pc := 9) hF hni hK.1 hW 0 rfl rfl in_Blocks t_Blocks tyo_Blocks nmo_Blocks 0 (by decide) gw_88 rfl rfl rfl rfl rfl rfl (Nat.le_of_ble_eq_true rfl) d_Blocks_init_9 (fun H locs hW => ?_)
  have hW : Wd D clQ A s.heap (((adQ b0) (19, 0, 0), .inr (8, [.ref ((adQ b0) (20, 0, 0)), .null, .null, .null, .int 0])) :: zw B (adQ b0) [(20, 0, 0)] (cfQ (adQ b0) ca) (S0q sd)) H locs := hW
  refine lv_aload_n (pc := 12) hx hb d_Blocks_init_12 rfl (lv_at hl 0 rfl) ?_
  refine lv_bipush (pc := 13) (v := 100) hx hb d_Blocks_init_13 (by decide) ?_
  refine n_here (h := (adQ b0) (21, 0, 0)) hW (by (try simp only [hs, ad_19, ad_21]) <;> omega) (Or.inr ⟨(_, _), (List.mem_cons_of_mem _ (zw_mem (t := (20, 0, 0)) (List.mem_of_getElem? (i := 0) rfl))), (by (try simp only [hs, ad_19, ad_20, ad_21]) <;> omega)⟩) (fun hh => ?_)
  refine n_newa (pc := 15) hF hK.1 hW hA hh (ty := .int) rfl gw_105 0 (cA := ca 0) rfl (fun C h => nomatch h) (a0 := (100, .inl (fun _ => 0))) rfl (by decide) (by decide) (by decide) (Nat.le_of_ble_eq_true rfl) (Nat.le_of_ble_eq_true rfl) d_Blocks_init_15 (fun H hz hW => ?_)
  have hW : Wd D clQ A s.heap (((adQ b0) (21, 0, 0), .inl (ca 0, 100, .inl (fun _ => 0))) :: ((adQ b0) (19, 0, 0), .inr (8, [.ref ((adQ b0) (20, 0, 0)), .null, .null, .null, .int 0])) :: zw B (adQ b0) [(20, 0, 0)] (cfQ (adQ b0) ca) (S0q sd)) H locs := hW
  refine n_putF (pc := 17) hF hni hK.1 hW 1 rfl rfl in_Blocks t_Blocks tyo_Blocks nmo_Blocks 1 (by decide) gw_89 rfl rfl rfl rfl rfl rfl (Nat.le_of_ble_eq_true rfl) d_Blocks_init_17 (fun H locs hW => ?_)
  have hW : Wd D clQ A s.heap (((adQ b0) (21, 0, 0), .inl (ca 0, 100, .inl (fun _ => 0))) :: ((adQ b0) (19, 0, 0), .inr (8, [.ref ((adQ b0) (20, 0, 0)), .ref ((adQ b0) (21, 0, 0)), .null, .null, .int 0])) :: zw B (adQ b0) [(20, 0, 0)] (cfQ (adQ b0) ca) (S0q sd)) H locs := hW
  refine lv_aload_n (pc := 20) hx hb d_Blocks_init_20 rfl (lv_at hl 0 rfl) ?_
  refine lv_bipush (pc := 21) (v := 100) hx hb d_Blocks_init_21 (by decide) ?_
  refine n_here (h := (adQ b0) (22, 0, 0)) hW (by (try simp only [hs, ad_19, ad_22]) <;> omega) (Or.inr ⟨(_, _), (List.mem_of_getElem? (i := 0) rfl), (by (try simp only [hs, ad_19, ad_21, ad_22]) <;> omega)⟩) (fun hh => ?_)
  refine n_newa (pc := 23) hF hK.1 hW hA hh (ty := .int) rfl gw_105 0 (cA := ca 0) rfl (fun C h => nomatch h) (a0 := (100, .inl (fun _ => 0))) rfl (by decide) (by decide) (by decide) (Nat.le_of_ble_eq_true rfl) (Nat.le_of_ble_eq_true rfl) d_Blocks_init_23 (fun H hz hW => ?_)
  have hW : Wd D clQ A s.heap (((adQ b0) (22, 0, 0), .inl (ca 0, 100, .inl (fun _ => 0))) :: ((adQ b0) (21, 0, 0), .inl (ca 0, 100, .inl (fun _ => 0))) :: ((adQ b0) (19, 0, 0), .inr (8, [.ref ((adQ b0) (20, 0, 0)), .ref ((adQ b0) (21, 0, 0)), .null, .null, .int 0])) :: zw B (adQ b0) [(20, 0, 0)] (cfQ (adQ b0) ca) (S0q sd)) H locs := hW
  refine n_putF (pc := 25) hF hni hK.1 hW 2 rfl rfl in_Blocks t_Blocks tyo_Blocks nmo_Blocks 2 (by decide) gw_90 rfl rfl rfl rfl rfl rfl (Nat.le_of_ble_eq_true rfl) d_Blocks_init_25 (fun H locs hW => ?_)
  have hW : Wd D clQ A s.heap (((adQ b0) (22, 0, 0), .inl (ca 0, 100, .inl (fun _ => 0))) :: ((adQ b0) (21, 0, 0), .inl (ca 0, 100, .inl (fun _ => 0))) :: ((adQ b0) (19, 0, 0), .inr (8, [.ref ((adQ b0) (20, 0, 0)), .ref ((adQ b0) (21, 0, 0)), .ref ((adQ b0) (22, 0, 0)), .null, .int 0])) :: zw B (adQ b0) [(20, 0, 0)] (cfQ (adQ b0) ca) (S0q sd)) H locs := hW
  refine lv_aload_n (pc := 28) hx hb d_Blocks_init_28 rfl (lv_at hl 0 rfl) ?_
  refine lv_bipush (pc := 29) (v := 100) hx hb d_Blocks_init_29 (by decide) ?_
  refine n_here (h := (adQ b0) (23, 0, 0)) hW (by (try simp only [hs, ad_19, ad_23]) <;> omega) (Or.inr ⟨(_, _), (List.mem_of_getElem? (i := 0) rfl), (by (try simp only [hs, ad_19, ad_22, ad_23]) <;> omega)⟩) (fun hh => ?_)
  refine n_newa (pc := 31) hF hK.1 hW hA hh (ty := .boolean) rfl gw_106 2 (cA := ca 2) rfl (fun C h => nomatch h) (a0 := (100, .inl (fun _ => 0))) rfl (by decide) (by decide) (by decide) (Nat.le_of_ble_eq_true rfl) (Nat.le_of_ble_eq_true rfl) d_Blocks_init_31 (fun H hz hW => ?_)
  have hW : Wd D clQ A s.heap (((adQ b0) (23, 0, 0), .inl (ca 2, 100, .inl (fun _ => 0))) :: ((adQ b0) (22, 0, 0), .inl (ca 0, 100, .inl (fun _ => 0))) :: ((adQ b0) (21, 0, 0), .inl (ca 0, 100, .inl (fun _ => 0))) :: ((adQ b0) (19, 0, 0), .inr (8, [.ref ((adQ b0) (20, 0, 0)), .ref ((adQ b0) (21, 0, 0)), .ref ((adQ b0) (22, 0, 0)), .null, .int 0])) :: zw B (adQ b0) [(20, 0, 0)] (cfQ (adQ b0) ca) (S0q sd)) H locs := hW
  refine n_putF (pc := 33) hF hni hK.1 hW 3 rfl rfl in_Blocks t_Blocks tyo_Blocks nmo_Blocks 3 (by decide) gw_91 rfl rfl rfl rfl rfl rfl (Nat.le_of_ble_eq_true rfl) d_Blocks_init_33 (fun H locs hW => ?_)
  have hW : Wd D clQ A s.heap (((adQ b0) (23, 0, 0), .inl (ca 2, 100, .inl (fun _ => 0))) :: ((adQ b0) (22, 0, 0), .inl (ca 0, 100, .inl (fun _ => 0))) :: ((adQ b0) (21, 0, 0), .inl (ca 0, 100, .inl (fun _ => 0))) :: ((adQ b0) (19, 0, 0), .inr (8, [.ref ((adQ b0) (20, 0, 0)), .ref ((adQ b0) (21, 0, 0)), .ref ((adQ b0) (22, 0, 0)), .ref ((adQ b0) (23, 0, 0)), .int 0])) :: zw B (adQ b0) [(20, 0, 0)] (cfQ (adQ b0) ca) (S0q sd)) H locs := hW
  refine lv_aload_n (pc := 36) hx hb d_Blocks_init_36 rfl (lv_at hl 0 rfl) ?_
  refine n_get (pc := 37) (v := .ref ((adQ b0) (21, 0, 0))) hF hK.1 hW 3 rfl rfl in_Blocks 1 (by decide) gw_89 rfl rfl d_Blocks_init_37 ?_
  refine lv_iconst (pc := 40) (v := 0) hx hb d_Blocks_init_40 (by decide) ?_
  refine lv_iconst (pc := 41) (v := -1) hx hb d_Blocks_init_41 (by decide) ?_
  refine n_iast (pc := 42) hF hK.1 hW 2 0 rfl rfl (by unfold vp_in; decide) d_Blocks_init_42 (fun H locs hW => ?_)
  have hW : Wd D clQ A s.heap (((adQ b0) (23, 0, 0), .inl (ca 2, 100, .inl (fun _ => 0))) :: ((adQ b0) (22, 0, 0), .inl (ca 0, 100, .inl (fun _ => 0))) :: ((adQ b0) (21, 0, 0), .inl (ca 0, 100, .inl (upd (fun _ => 0) 0 (-1 : Int32)))) :: ((adQ b0) (19, 0, 0), .inr (8, [.ref ((adQ b0) (20, 0, 0)), .ref ((adQ b0) (21, 0, 0)), .ref ((adQ b0) (22, 0, 0)), .ref ((adQ b0) (23, 0, 0)), .int 0])) :: zw B (adQ b0) [(20, 0, 0)] (cfQ (adQ b0) ca) (S0q sd)) H locs := hW
  refine lv_aload_n (pc := 43) hx hb d_Blocks_init_43 rfl (lv_at hl 0 rfl) ?_
  refine n_get (pc := 44) (v := .ref ((adQ b0) (22, 0, 0))) hF hK.1 hW 3 rfl rfl in_Blocks 2 (by decide) gw_90 rfl rfl d_Blocks_init_44 ?_
  refine lv_iconst (pc := 47) (v := 0) hx hb d_Blocks_init_47 (by decide) ?_
  refine lv_iconst (pc := 48) (v := -1) hx hb d_Blocks_init_48 (by decide) ?_
  refine n_iast (pc := 49) hF hK.1 hW 1 0 rfl rfl (by unfold vp_in; decide) d_Blocks_init_49 (fun H locs hW => ?_)
  have hW : Wd D clQ A s.heap (((adQ b0) (23, 0, 0), .inl (ca 2, 100, .inl (fun _ => 0))) :: ((adQ b0) (22, 0, 0), .inl (ca 0, 100, .inl (upd (fun _ => 0) 0 (-1 : Int32)))) :: ((adQ b0) (21, 0, 0), .inl (ca 0, 100, .inl (upd (fun _ => 0) 0 (-1 : Int32)))) :: ((adQ b0) (19, 0, 0), .inr (8, [.ref ((adQ b0) (20, 0, 0)), .ref ((adQ b0) (21, 0, 0)), .ref ((adQ b0) (22, 0, 0)), .ref ((adQ b0) (23, 0, 0)), .int 0])) :: zw B (adQ b0) [(20, 0, 0)] (cfQ (adQ b0) ca) (S0q sd)) H locs := hW
  refine lv_aload_n (pc := 50) hx hb d_Blocks_init_50 rfl (lv_at hl 0 rfl) ?_
  refine n_get (pc := 51) (v := .ref ((adQ b0) (23, 0, 0))) hF hK.1 hW 3 rfl rfl in_Blocks 3 (by decide) gw_91 rfl rfl d_Blocks_init_51 ?_
  refine lv_iconst (pc := 54) (v := 0) hx hb d_Blocks_init_54 (by decide) ?_
  refine lv_iconst (pc := 55) (v := 1) hx hb d_Blocks_init_55 (by decide) ?_
  refine n_zast (pc := 56) hF hK.1 hW 0 2 rfl rfl (by unfold vp_in; decide) d_Blocks_init_56 (fun H locs hW => ?_)
  have hW : Wd D clQ A s.heap (((adQ b0) (23, 0, 0), .inl (ca 2, 100, .inl (upd (fun _ => 0) 0 (1 : Int32)))) :: ((adQ b0) (22, 0, 0), .inl (ca 0, 100, .inl (upd (fun _ => 0) 0 (-1 : Int32)))) :: ((adQ b0) (21, 0, 0), .inl (ca 0, 100, .inl (upd (fun _ => 0) 0 (-1 : Int32)))) :: ((adQ b0) (19, 0, 0), .inr (8, [.ref ((adQ b0) (20, 0, 0)), .ref ((adQ b0) (21, 0, 0)), .ref ((adQ b0) (22, 0, 0)), .ref ((adQ b0) (23, 0, 0)), .int 0])) :: zw B (adQ b0) [(20, 0, 0)] (cfQ (adQ b0) ca) (S0q sd)) H locs := hW
  refine lv_aload_n (pc := 57) hx hb d_Blocks_init_57 rfl (lv_at hl 0 rfl) ?_
  refine lv_iconst (pc := 58) (v := 1) hx hb d_Blocks_init_58 (by decide) ?_
  refine n_put (pc := 59) hF hK.1 hW 3 rfl rfl in_Blocks t_Blocks tyo_Blocks nmo_Blocks 4 (by decide) gw_92 rfl rfl rfl rfl rfl (Nat.le_of_ble_eq_true rfl) d_Blocks_init_59 (fun H locs hW => ?_)
  have hW : Wd D clQ A s.heap (((adQ b0) (23, 0, 0), .inl (ca 2, 100, .inl (upd (fun _ => 0) 0 (1 : Int32)))) :: ((adQ b0) (22, 0, 0), .inl (ca 0, 100, .inl (upd (fun _ => 0) 0 (-1 : Int32)))) :: ((adQ b0) (21, 0, 0), .inl (ca 0, 100, .inl (upd (fun _ => 0) 0 (-1 : Int32)))) :: ((adQ b0) (19, 0, 0), .inr (8, [.ref ((adQ b0) (20, 0, 0)), .ref ((adQ b0) (21, 0, 0)), .ref ((adQ b0) (22, 0, 0)), .ref ((adQ b0) (23, 0, 0)), .int (1 : Int32)])) :: zw B (adQ b0) [(20, 0, 0)] (cfQ (adQ b0) ca) (S0q sd)) H locs := hW
  have hW : Wd D clQ A s.heap (((adQ b0) (22, 0, 0), .inl (ca 0, 100, .inl (upd (fun _ => 0) 0 (-1 : Int32)))) :: ((adQ b0) (21, 0, 0), .inl (ca 0, 100, .inl (upd (fun _ => 0) 0 (-1 : Int32)))) :: ((adQ b0) (19, 0, 0), .inr (8, [.ref ((adQ b0) (20, 0, 0)), .ref ((adQ b0) (21, 0, 0)), .ref ((adQ b0) (22, 0, 0)), .ref ((adQ b0) (23, 0, 0)), .int (1 : Int32)])) :: zw B (adQ b0) [(20, 0, 0), (23, 0, 0)] (cfQ (adQ b0) ca) (S0q sd)) H locs := n_fin (t := (23, 0, 0)) (R2 := [((adQ b0) (22, 0, 0), .inl (ca 0, 100, .inl (upd (fun _ => 0) 0 (-1 : Int32)))), ((adQ b0) (21, 0, 0), .inl (ca 0, 100, .inl (upd (fun _ => 0) 0 (-1 : Int32)))), ((adQ b0) (19, 0, 0), .inr (8, [.ref ((adQ b0) (20, 0, 0)), .ref ((adQ b0) (21, 0, 0)), .ref ((adQ b0) (22, 0, 0)), .ref ((adQ b0) (23, 0, 0)), .int (1 : Int32)]))]) hW (fun h => h)
  have hW : Wd D clQ A s.heap (((adQ b0) (21, 0, 0), .inl (ca 0, 100, .inl (upd (fun _ => 0) 0 (-1 : Int32)))) :: ((adQ b0) (19, 0, 0), .inr (8, [.ref ((adQ b0) (20, 0, 0)), .ref ((adQ b0) (21, 0, 0)), .ref ((adQ b0) (22, 0, 0)), .ref ((adQ b0) (23, 0, 0)), .int (1 : Int32)])) :: zw B (adQ b0) [(20, 0, 0), (23, 0, 0), (22, 0, 0)] (cfQ (adQ b0) ca) (S0q sd)) H locs := n_fin (t := (22, 0, 0)) (R2 := [((adQ b0) (21, 0, 0), .inl (ca 0, 100, .inl (upd (fun _ => 0) 0 (-1 : Int32)))), ((adQ b0) (19, 0, 0), .inr (8, [.ref ((adQ b0) (20, 0, 0)), .ref ((adQ b0) (21, 0, 0)), .ref ((adQ b0) (22, 0, 0)), .ref ((adQ b0) (23, 0, 0)), .int (1 : Int32)]))]) hW (fun h => h)
  have hW : Wd D clQ A s.heap (((adQ b0) (19, 0, 0), .inr (8, [.ref ((adQ b0) (20, 0, 0)), .ref ((adQ b0) (21, 0, 0)), .ref ((adQ b0) (22, 0, 0)), .ref ((adQ b0) (23, 0, 0)), .int (1 : Int32)])) :: zw B (adQ b0) [(20, 0, 0), (23, 0, 0), (22, 0, 0), (21, 0, 0)] (cfQ (adQ b0) ca) (S0q sd)) H locs := n_fin (t := (21, 0, 0)) (R2 := [((adQ b0) (19, 0, 0), .inr (8, [.ref ((adQ b0) (20, 0, 0)), .ref ((adQ b0) (21, 0, 0)), .ref ((adQ b0) (22, 0, 0)), .ref ((adQ b0) (23, 0, 0)), .int (1 : Int32)]))]) hW (fun h => h)
  have hW : Wd D clQ A s.heap (zw B (adQ b0) [(20, 0, 0), (23, 0, 0), (22, 0, 0), (21, 0, 0), (19, 0, 0)] (cfQ (adQ b0) ca) (S0q sd)) H locs := n_fin (t := (19, 0, 0)) (R2 := []) hW (fun h => h)
  exact n_vret hy hW (Nat.le_of_ble_eq_true rfl) (Nat.le_of_ble_eq_true rfl) d_Blocks_init_62
set_option maxHeartbeats 4000000 in
set_option maxRecDepth 100000 in
theorem c_n_Tally0 (l : Launch) (D : va_G) (ca : Nat → ClassId) (b0 : Nat) (sd : Int32) (i : Nat) (h : i < 4) : cN l GG D clQ (tysQ ca) nwN aoN (adQ b0) (cfQ (adQ b0) ca) (S0q sd) y_Tally_init b_Tally_init 2 1 30 1 100 ((adQ b0) (16, i, 0), .inr (7, [.null])) ((adQ b0) (16, i, 0) + 1) [.ref ((adQ b0) (16, i, 0)), .int (100 : Int32)] [(17, i, 0), (16, i, 0)] := by
  refine n_of pn_Tally rfl (Nat.le_of_ble_eq_true rfl) (fun B p e s m below meth c A ls hy hO hni hs hW hA hl => ?_)
  have hF := hy.1
  have hx := hF.1
  have hb := hF.2.1
  have hK := hy.2.2.2
  have hl : lv_has ls 2 [(0, .ref ((adQ b0) (16, i, 0))), (1, .int (100 : Int32))] := hl
  have hW : Wd D clQ A s.heap (((adQ b0) (16, i, 0), .inr (7, [.null])) :: zw B (adQ b0) [] (cfQ (adQ b0) ca) (S0q sd)) s.heap [] := by rw [zw_nil]; exact hW
  refine lv_aload_n (pc := 0) hx hb d_Tally_init_0 rfl (lv_at hl 0 rfl) ?_
  refine n_objInit (pc := 1) hF gw_193 gw_78 gw_79 hl.1 (Nat.le_of_ble_eq_true rfl) (Nat.le_of_ble_eq_true rfl) d_Tally_init_1 ?_
  refine lv_aload_n (pc := 4) hx hb d_Tally_init_4 rfl (lv_at hl 0 rfl) ?_
  refine lv_iload_n (pc := 5) hx hb d_Tally_init_5 rfl (lv_at hl 1 rfl) ?_
  refine n_here (h := (adQ b0) (17, i, 0)) hW (by (try simp only [hs, ad_16, ad_17]) <;> omega) (Or.inl (by (try simp only [hs, ad_16, ad_17]) <;> omega)) (fun hh => ?_)
  refine n_newa (pc := 6) hF hK.1 hW hA hh (ty := .int) rfl gw_105 0 (cA := ca 0) rfl (fun C h => nomatch h) (a0 := (100, .inl (fun _ => 0))) rfl (by decide) (by decide) (by decide) (Nat.le_of_ble_eq_true rfl) (Nat.le_of_ble_eq_true rfl) d_Tally_init_6 (fun H hz hW => ?_)
  have hW : Wd D clQ A s.heap (((adQ b0) (17, i, 0), .inl (ca 0, 100, .inl (fun _ => 0))) :: ((adQ b0) (16, i, 0), .inr (7, [.null])) :: zw B (adQ b0) [] (cfQ (adQ b0) ca) (S0q sd)) H [] := hW
  have hW : Wd D clQ A s.heap (((adQ b0) (16, i, 0), .inr (7, [.null])) :: zw B (adQ b0) [(17, i, 0)] (cfQ (adQ b0) ca) (S0q sd)) H [] := n_fin (t := (17, i, 0)) (R2 := [((adQ b0) (16, i, 0), .inr (7, [.null]))]) hW (fun h => h)
  refine n_putF (pc := 8) hF hni hK.1 hW 0 rfl rfl in_Tally t_Tally tyo_Tally nmo_Tally 0 (by decide) gw_194 rfl rfl rfl rfl rfl rfl (Nat.le_of_ble_eq_true rfl) d_Tally_init_8 (fun H locs hW => ?_)
  have hW : Wd D clQ A s.heap (((adQ b0) (16, i, 0), .inr (7, [.ref ((adQ b0) (17, i, 0))])) :: zw B (adQ b0) [(17, i, 0)] (cfQ (adQ b0) ca) (S0q sd)) H locs := hW
  have hW : Wd D clQ A s.heap (zw B (adQ b0) [(17, i, 0), (16, i, 0)] (cfQ (adQ b0) ca) (S0q sd)) H locs := n_fin (t := (16, i, 0)) (R2 := []) hW (fun h => h)
  exact n_vret hy hW (Nat.le_of_ble_eq_true rfl) (Nat.le_of_ble_eq_true rfl) d_Tally_init_11
set_option maxHeartbeats 4000000 in
set_option maxRecDepth 100000 in
theorem c_n_Tally1 (l : Launch) (D : va_G) (ca : Nat → ClassId) (b0 : Nat) (sd : Int32) (i : Nat) (h : i < 4) : cN l GG D clQ (tysQ ca) nwN aoN (adQ b0) (cfQ (adQ b0) ca) (S0q sd) y_Tally_init b_Tally_init 2 1 30 1 128 ((adQ b0) (16, i, 1), .inr (7, [.null])) ((adQ b0) (16, i, 1) + 1) [.ref ((adQ b0) (16, i, 1)), .int (128 : Int32)] [(17, i, 1), (16, i, 1)] := by
  refine n_of pn_Tally rfl (Nat.le_of_ble_eq_true rfl) (fun B p e s m below meth c A ls hy hO hni hs hW hA hl => ?_)
  have hF := hy.1
  have hx := hF.1
  have hb := hF.2.1
  have hK := hy.2.2.2
  have hl : lv_has ls 2 [(0, .ref ((adQ b0) (16, i, 1))), (1, .int (128 : Int32))] := hl
  have hW : Wd D clQ A s.heap (((adQ b0) (16, i, 1), .inr (7, [.null])) :: zw B (adQ b0) [] (cfQ (adQ b0) ca) (S0q sd)) s.heap [] := by rw [zw_nil]; exact hW
  refine lv_aload_n (pc := 0) hx hb d_Tally_init_0 rfl (lv_at hl 0 rfl) ?_
  refine n_objInit (pc := 1) hF gw_193 gw_78 gw_79 hl.1 (Nat.le_of_ble_eq_true rfl) (Nat.le_of_ble_eq_true rfl) d_Tally_init_1 ?_
  refine lv_aload_n (pc := 4) hx hb d_Tally_init_4 rfl (lv_at hl 0 rfl) ?_
  refine lv_iload_n (pc := 5) hx hb d_Tally_init_5 rfl (lv_at hl 1 rfl) ?_
  refine n_here (h := (adQ b0) (17, i, 1)) hW (by (try simp only [hs, ad_16, ad_17]) <;> omega) (Or.inl (by (try simp only [hs, ad_16, ad_17]) <;> omega)) (fun hh => ?_)
  refine n_newa (pc := 6) hF hK.1 hW hA hh (ty := .int) rfl gw_105 0 (cA := ca 0) rfl (fun C h => nomatch h) (a0 := (128, .inl (fun _ => 0))) rfl (by decide) (by decide) (by decide) (Nat.le_of_ble_eq_true rfl) (Nat.le_of_ble_eq_true rfl) d_Tally_init_6 (fun H hz hW => ?_)
  have hW : Wd D clQ A s.heap (((adQ b0) (17, i, 1), .inl (ca 0, 128, .inl (fun _ => 0))) :: ((adQ b0) (16, i, 1), .inr (7, [.null])) :: zw B (adQ b0) [] (cfQ (adQ b0) ca) (S0q sd)) H [] := hW
  have hW : Wd D clQ A s.heap (((adQ b0) (16, i, 1), .inr (7, [.null])) :: zw B (adQ b0) [(17, i, 1)] (cfQ (adQ b0) ca) (S0q sd)) H [] := n_fin (t := (17, i, 1)) (R2 := [((adQ b0) (16, i, 1), .inr (7, [.null]))]) hW (fun h => h)
  refine n_putF (pc := 8) hF hni hK.1 hW 0 rfl rfl in_Tally t_Tally tyo_Tally nmo_Tally 0 (by decide) gw_194 rfl rfl rfl rfl rfl rfl (Nat.le_of_ble_eq_true rfl) d_Tally_init_8 (fun H locs hW => ?_)
  have hW : Wd D clQ A s.heap (((adQ b0) (16, i, 1), .inr (7, [.ref ((adQ b0) (17, i, 1))])) :: zw B (adQ b0) [(17, i, 1)] (cfQ (adQ b0) ca) (S0q sd)) H locs := hW
  have hW : Wd D clQ A s.heap (zw B (adQ b0) [(17, i, 1), (16, i, 1)] (cfQ (adQ b0) ca) (S0q sd)) H locs := n_fin (t := (16, i, 1)) (R2 := []) hW (fun h => h)
  exact n_vret hy hW (Nat.le_of_ble_eq_true rfl) (Nat.le_of_ble_eq_true rfl) d_Tally_init_11
set_option maxHeartbeats 4000000 in
set_option maxRecDepth 100000 in
theorem c_n_Accounts (l : Launch) (D : va_G) (ca : Nat → ClassId) (b0 : Nat) (sd : Int32) (i : Nat) (h : i < 4) : cN l GG D clQ (tysQ ca) nwN aoN (adQ b0) (cfQ (adQ b0) ca) (S0q sd) y_Accounts_init b_Accounts_init 2 1 30 2 8 ((adQ b0) (7, i, 0), .inr (3, [.null, .null])) ((adQ b0) (7, i, 0) + 1) [.ref ((adQ b0) (7, i, 0))] [(9, i, 0), (8, i, 0), (7, i, 0)] := by
  refine n_of pn_Accounts rfl (Nat.le_of_ble_eq_true rfl) (fun B p e s m below meth c A ls hy hO hni hs hW hA hl => ?_)
  have hF := hy.1
  have hx := hF.1
  have hb := hF.2.1
  have hK := hy.2.2.2
  have hl : lv_has ls 2 [(0, .ref ((adQ b0) (7, i, 0)))] := hl
  have hW : Wd D clQ A s.heap (((adQ b0) (7, i, 0), .inr (3, [.null, .null])) :: zw B (adQ b0) [] (cfQ (adQ b0) ca) (S0q sd)) s.heap [] := by rw [zw_nil]; exact hW
  refine lv_aload_n (pc := 0) hx hb d_Accounts_init_0 rfl (lv_at hl 0 rfl) ?_
  refine n_objInit (pc := 1) hF gw_209 gw_78 gw_79 hl.1 (Nat.le_of_ble_eq_true rfl) (Nat.le_of_ble_eq_true rfl) d_Accounts_init_1 ?_
  refine lv_aload_n (pc := 4) hx hb d_Accounts_init_4 rfl (lv_at hl 0 rfl) ?_
  refine lv_iconst (pc := 5) (v := 4) hx hb d_Accounts_init_5 (by decide) ?_
  refine n_here (h := (adQ b0) (8, i, 0)) hW (by (try simp only [hs, ad_7, ad_8]) <;> omega) (Or.inl (by (try simp only [hs, ad_7, ad_8]) <;> omega)) (fun hh => ?_)
  refine n_newa (pc := 6) hF hK.1 hW hA hh (ty := .int) rfl gw_105 0 (cA := ca 0) rfl (fun C h => nomatch h) (a0 := (4, .inl (fun _ => 0))) rfl (by decide) (by decide) (by decide) (Nat.le_of_ble_eq_true rfl) (Nat.le_of_ble_eq_true rfl) d_Accounts_init_6 (fun H hz hW => ?_)
  have hW : Wd D clQ A s.heap (((adQ b0) (8, i, 0), .inl (ca 0, 4, .inl (fun _ => 0))) :: ((adQ b0) (7, i, 0), .inr (3, [.null, .null])) :: zw B (adQ b0) [] (cfQ (adQ b0) ca) (S0q sd)) H [] := hW
  refine n_putF (pc := 8) hF hni hK.1 hW 1 rfl rfl in_Accounts t_Accounts tyo_Accounts nmo_Accounts 0 (by decide) gw_210 rfl rfl rfl rfl rfl rfl (Nat.le_of_ble_eq_true rfl) d_Accounts_init_8 (fun H locs hW => ?_)
  have hW : Wd D clQ A s.heap (((adQ b0) (8, i, 0), .inl (ca 0, 4, .inl (fun _ => 0))) :: ((adQ b0) (7, i, 0), .inr (3, [.ref ((adQ b0) (8, i, 0)), .null])) :: zw B (adQ b0) [] (cfQ (adQ b0) ca) (S0q sd)) H locs := hW
  refine lv_aload_n (pc := 11) hx hb d_Accounts_init_11 rfl (lv_at hl 0 rfl) ?_
  refine lv_iconst (pc := 12) (v := 4) hx hb d_Accounts_init_12 (by decide) ?_
  refine n_here (h := (adQ b0) (9, i, 0)) hW (by (try simp only [hs, ad_7, ad_9]) <;> omega) (Or.inr ⟨(_, _), (List.mem_of_getElem? (i := 0) rfl), (by (try simp only [hs, ad_7, ad_8, ad_9]) <;> omega)⟩) (fun hh => ?_)
  refine n_newa (pc := 13) hF hK.1 hW hA hh (ty := .int) rfl gw_105 0 (cA := ca 0) rfl (fun C h => nomatch h) (a0 := (4, .inl (fun _ => 0))) rfl (by decide) (by decide) (by decide) (Nat.le_of_ble_eq_true rfl) (Nat.le_of_ble_eq_true rfl) d_Accounts_init_13 (fun H hz hW => ?_)
  have hW : Wd D clQ A s.heap (((adQ b0) (9, i, 0), .inl (ca 0, 4, .inl (fun _ => 0))) :: ((adQ b0) (8, i, 0), .inl (ca 0, 4, .inl (fun _ => 0))) :: ((adQ b0) (7, i, 0), .inr (3, [.ref ((adQ b0) (8, i, 0)), .null])) :: zw B (adQ b0) [] (cfQ (adQ b0) ca) (S0q sd)) H locs := hW
  have hW : Wd D clQ A s.heap (((adQ b0) (8, i, 0), .inl (ca 0, 4, .inl (fun _ => 0))) :: ((adQ b0) (7, i, 0), .inr (3, [.ref ((adQ b0) (8, i, 0)), .null])) :: zw B (adQ b0) [(9, i, 0)] (cfQ (adQ b0) ca) (S0q sd)) H locs := n_fin (t := (9, i, 0)) (R2 := [((adQ b0) (8, i, 0), .inl (ca 0, 4, .inl (fun _ => 0))), ((adQ b0) (7, i, 0), .inr (3, [.ref ((adQ b0) (8, i, 0)), .null]))]) hW (fun h => h)
  refine n_putF (pc := 15) hF hni hK.1 hW 1 rfl rfl in_Accounts t_Accounts tyo_Accounts nmo_Accounts 1 (by decide) gw_212 rfl rfl rfl rfl rfl rfl (Nat.le_of_ble_eq_true rfl) d_Accounts_init_15 (fun H locs hW => ?_)
  have hW : Wd D clQ A s.heap (((adQ b0) (8, i, 0), .inl (ca 0, 4, .inl (fun _ => 0))) :: ((adQ b0) (7, i, 0), .inr (3, [.ref ((adQ b0) (8, i, 0)), .ref ((adQ b0) (9, i, 0))])) :: zw B (adQ b0) [(9, i, 0)] (cfQ (adQ b0) ca) (S0q sd)) H locs := hW
  refine lv_iconst (pc := 18) (v := 0) hx hb d_Accounts_init_18 (by decide) ?_
  refine lv_istore_n (pc := 19) (lv' := [(1, .int (0 : Int32)), (0, .ref ((adQ b0) (7, i, 0)))]) hx hb d_Accounts_init_19 rfl hl (by decide) rfl (fun ls hl => ?_)
  refine lv_iload_n (pc := 20) hx hb d_Accounts_init_20 rfl (lv_at hl 0 rfl) ?_
  refine lv_iconst (pc := 21) (v := 4) hx hb d_Accounts_init_21 (by decide) ?_
  refine lv_icmp_ge (pc := 22) (tgt := 39) hx hb d_Accounts_init_22 (by decide) (fun c9 => absurd c9 (show ¬ (4 : Int32) ≤ 0 by decide)) (fun _ => ?_)
  refine lv_aload_n (pc := 25) hx hb d_Accounts_init_25 rfl (lv_at hl 1 rfl) ?_
  refine n_get (pc := 26) (v := .ref ((adQ b0) (8, i, 0))) hF hK.1 hW 1 rfl rfl in_Accounts 0 (by decide) gw_210 rfl rfl d_Accounts_init_26 ?_
  refine lv_iload_n (pc := 29) hx hb d_Accounts_init_29 rfl (lv_at hl 0 rfl) ?_
  refine lv_bipush (pc := 30) (v := 100) hx hb d_Accounts_init_30 (by decide) ?_
  refine n_iast (pc := 32) hF hK.1 hW 0 0 rfl rfl (by unfold vp_in; decide) d_Accounts_init_32 (fun H locs hW => ?_)
  have hW : Wd D clQ A s.heap (((adQ b0) (8, i, 0), .inl (ca 0, 4, .inl (upd (fun _ => 0) 0 (100 : Int32)))) :: ((adQ b0) (7, i, 0), .inr (3, [.ref ((adQ b0) (8, i, 0)), .ref ((adQ b0) (9, i, 0))])) :: zw B (adQ b0) [(9, i, 0)] (cfQ (adQ b0) ca) (S0q sd)) H locs := hW
  refine lv_iinc (pc := 33) (v := (1 : Int32)) (lv' := [(1, .int (1 : Int32)), (0, .ref ((adQ b0) (7, i, 0)))]) (k := 0) hx hb d_Accounts_init_33 hl rfl (by decide) (by decide) rfl (fun ls hl => ?_)
  refine lv_goto (pc := 36) (tgt := 20) hx hb d_Accounts_init_36 (by decide) ?_
  refine lv_iload_n (pc := 20) hx hb d_Accounts_init_20 rfl (lv_at hl 0 rfl) ?_
  refine lv_iconst (pc := 21) (v := 4) hx hb d_Accounts_init_21 (by decide) ?_
  refine lv_icmp_ge (pc := 22) (tgt := 39) hx hb d_Accounts_init_22 (by decide) (fun c9 => absurd c9 (show ¬ (4 : Int32) ≤ 1 by decide)) (fun _ => ?_)
  refine lv_aload_n (pc := 25) hx hb d_Accounts_init_25 rfl (lv_at hl 1 rfl) ?_
  refine n_get (pc := 26) (v := .ref ((adQ b0) (8, i, 0))) hF hK.1 hW 1 rfl rfl in_Accounts 0 (by decide) gw_210 rfl rfl d_Accounts_init_26 ?_
  refine lv_iload_n (pc := 29) hx hb d_Accounts_init_29 rfl (lv_at hl 0 rfl) ?_
  refine lv_bipush (pc := 30) (v := 100) hx hb d_Accounts_init_30 (by decide) ?_
  refine n_iast (pc := 32) hF hK.1 hW 0 0 rfl rfl (by unfold vp_in; decide) d_Accounts_init_32 (fun H locs hW => ?_)
  have hW : Wd D clQ A s.heap (((adQ b0) (8, i, 0), .inl (ca 0, 4, .inl (upd (upd (fun _ => 0) 0 (100 : Int32)) 1 (100 : Int32)))) :: ((adQ b0) (7, i, 0), .inr (3, [.ref ((adQ b0) (8, i, 0)), .ref ((adQ b0) (9, i, 0))])) :: zw B (adQ b0) [(9, i, 0)] (cfQ (adQ b0) ca) (S0q sd)) H locs := hW
  refine lv_iinc (pc := 33) (v := (2 : Int32)) (lv' := [(1, .int (2 : Int32)), (0, .ref ((adQ b0) (7, i, 0)))]) (k := 0) hx hb d_Accounts_init_33 hl rfl (by decide) (by decide) rfl (fun ls hl => ?_)
  refine lv_goto (pc := 36) (tgt := 20) hx hb d_Accounts_init_36 (by decide) ?_
  refine lv_iload_n (pc := 20) hx hb d_Accounts_init_20 rfl (lv_at hl 0 rfl) ?_
  refine lv_iconst (pc := 21) (v := 4) hx hb d_Accounts_init_21 (by decide) ?_
  refine lv_icmp_ge (pc := 22) (tgt := 39) hx hb d_Accounts_init_22 (by decide) (fun c9 => absurd c9 (show ¬ (4 : Int32) ≤ 2 by decide)) (fun _ => ?_)
  refine lv_aload_n (pc := 25) hx hb d_Accounts_init_25 rfl (lv_at hl 1 rfl) ?_
  refine n_get (pc := 26) (v := .ref ((adQ b0) (8, i, 0))) hF hK.1 hW 1 rfl rfl in_Accounts 0 (by decide) gw_210 rfl rfl d_Accounts_init_26 ?_
  refine lv_iload_n (pc := 29) hx hb d_Accounts_init_29 rfl (lv_at hl 0 rfl) ?_
  refine lv_bipush (pc := 30) (v := 100) hx hb d_Accounts_init_30 (by decide) ?_
  refine n_iast (pc := 32) hF hK.1 hW 0 0 rfl rfl (by unfold vp_in; decide) d_Accounts_init_32 (fun H locs hW => ?_)
  have hW : Wd D clQ A s.heap (((adQ b0) (8, i, 0), .inl (ca 0, 4, .inl (upd (upd (upd (fun _ => 0) 0 (100 : Int32)) 1 (100 : Int32)) 2 (100 : Int32)))) :: ((adQ b0) (7, i, 0), .inr (3, [.ref ((adQ b0) (8, i, 0)), .ref ((adQ b0) (9, i, 0))])) :: zw B (adQ b0) [(9, i, 0)] (cfQ (adQ b0) ca) (S0q sd)) H locs := hW
  refine lv_iinc (pc := 33) (v := (3 : Int32)) (lv' := [(1, .int (3 : Int32)), (0, .ref ((adQ b0) (7, i, 0)))]) (k := 0) hx hb d_Accounts_init_33 hl rfl (by decide) (by decide) rfl (fun ls hl => ?_)
  refine lv_goto (pc := 36) (tgt := 20) hx hb d_Accounts_init_36 (by decide) ?_
  refine lv_iload_n (pc := 20) hx hb d_Accounts_init_20 rfl (lv_at hl 0 rfl) ?_
  refine lv_iconst (pc := 21) (v := 4) hx hb d_Accounts_init_21 (by decide) ?_
  refine lv_icmp_ge (pc := 22) (tgt := 39) hx hb d_Accounts_init_22 (by decide) (fun c9 => absurd c9 (show ¬ (4 : Int32) ≤ 3 by decide)) (fun _ => ?_)
  refine lv_aload_n (pc := 25) hx hb d_Accounts_init_25 rfl (lv_at hl 1 rfl) ?_
  refine n_get (pc := 26) (v := .ref ((adQ b0) (8, i, 0))) hF hK.1 hW 1 rfl rfl in_Accounts 0 (by decide) gw_210 rfl rfl d_Accounts_init_26 ?_
  refine lv_iload_n (pc := 29) hx hb d_Accounts_init_29 rfl (lv_at hl 0 rfl) ?_
  refine lv_bipush (pc := 30) (v := 100) hx hb d_Accounts_init_30 (by decide) ?_
  refine n_iast (pc := 32) hF hK.1 hW 0 0 rfl rfl (by unfold vp_in; decide) d_Accounts_init_32 (fun H locs hW => ?_)
  have hW : Wd D clQ A s.heap (((adQ b0) (8, i, 0), .inl (ca 0, 4, .inl (upd (upd (upd (upd (fun _ => 0) 0 (100 : Int32)) 1 (100 : Int32)) 2 (100 : Int32)) 3 (100 : Int32)))) :: ((adQ b0) (7, i, 0), .inr (3, [.ref ((adQ b0) (8, i, 0)), .ref ((adQ b0) (9, i, 0))])) :: zw B (adQ b0) [(9, i, 0)] (cfQ (adQ b0) ca) (S0q sd)) H locs := hW
  refine lv_iinc (pc := 33) (v := (4 : Int32)) (lv' := [(1, .int (4 : Int32)), (0, .ref ((adQ b0) (7, i, 0)))]) (k := 0) hx hb d_Accounts_init_33 hl rfl (by decide) (by decide) rfl (fun ls hl => ?_)
  refine lv_goto (pc := 36) (tgt := 20) hx hb d_Accounts_init_36 (by decide) ?_
  refine lv_iload_n (pc := 20) hx hb d_Accounts_init_20 rfl (lv_at hl 0 rfl) ?_
  refine lv_iconst (pc := 21) (v := 4) hx hb d_Accounts_init_21 (by decide) ?_
  refine lv_icmp_ge (pc := 22) (tgt := 39) hx hb d_Accounts_init_22 (by decide) (fun _ => ?_) (fun c9 => absurd (show (4 : Int32) ≤ 4 by decide) c9)
  have hW : Wd D clQ A s.heap (((adQ b0) (7, i, 0), .inr (3, [.ref ((adQ b0) (8, i, 0)), .ref ((adQ b0) (9, i, 0))])) :: zw B (adQ b0) [(9, i, 0), (8, i, 0)] (cfQ (adQ b0) ca) (S0q sd)) H locs := n_fin (t := (8, i, 0)) (R2 := [((adQ b0) (7, i, 0), .inr (3, [.ref ((adQ b0) (8, i, 0)), .ref ((adQ b0) (9, i, 0))]))]) hW (fun h => h)
  have hW : Wd D clQ A s.heap (zw B (adQ b0) [(9, i, 0), (8, i, 0), (7, i, 0)] (cfQ (adQ b0) ca) (S0q sd)) H locs := n_fin (t := (7, i, 0)) (R2 := []) hW (fun h => h)
  exact n_vret hy hW (Nat.le_of_ble_eq_true rfl) (Nat.le_of_ble_eq_true rfl) d_Accounts_init_39
