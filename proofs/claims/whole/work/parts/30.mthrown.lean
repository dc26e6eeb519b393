theorem d_M_thrown_0 : decode b_M_thrown 0 = .ok (.aload_n 0, 1) := by decide +kernel
theorem d_M_thrown_1 : decode b_M_thrown 1 = .ok (.getfield 141, 3) := by decide +kernel
theorem d_M_thrown_4 : decode b_M_thrown 4 = .ok (.ireturn, 1) := by decide +kernel
def f_M_thrown  (S : St) : Int32 :=
  S.1 1 0 0 1
set_option maxHeartbeats 4000000 in
set_option maxRecDepth 100000 in
theorem c_M_thrown (l : Launch) (D : va_G) (X : va_W) (ad : N3 → Nat) (ca : Nat → ClassId)   (S : St) : cP l GG D clM (tysM ca) nwM (zw X ad TM (cfM ad ca) S) y_M_thrown b_M_thrown 1 .int 0 0 [.ref (ad (1, 0, 0))] (.int (f_M_thrown S)) := by
  generalize hr : f_M_thrown S = res
  refine zP_of pn_M (Nat.le_of_ble_eq_true rfl) (fun p e s m below meth c ls hy hW hl => ?_)
  have hF := hy.1
  have hx := hF.1
  have hb := hF.2.1
  have hK := hy.2.2.2
  have hl : lv_has ls 1 [(0, .ref (ad (1, 0, 0)))] := hl
  refine lv_aload_n (pc := 0) hx hb d_M_thrown_0 rfl (lv_at hl 0 rfl) ?_
  refine z_get (pc := 1) (v := .int (S.1 1 0 0 1)) hF hK.1 hW tm1 rfl rfl in_M 1 (by decide) gw_885 rfl rfl d_M_thrown_1 ?_
  exact p_iret (v := S.1 1 0 0 1) hy hr d_M_thrown_4
theorem d_M_start_0 : decode b_M_start 0 = .ok (.aload_n 0, 1) := by decide +kernel
theorem d_M_start_1 : decode b_M_start 1 = .ok (.ldc2_w 144, 3) := by decide +kernel
theorem d_M_start_4 : decode b_M_start 4 = .ok (.putfield 146, 3) := by decide +kernel
theorem d_M_start_7 : decode b_M_start 7 = .ok (.return_, 1) := by decide +kernel
def f_M_start  (S : St) : St :=
  lt (sl S 1 0 0 4 (-7046029254386353131 : Int64)) fun (S1 : St) =>
  S1
set_option maxHeartbeats 4000000 in
set_option maxRecDepth 100000 in
theorem c_M_start (l : Launch) (D : va_G) (X : va_W) (ad : N3 → Nat) (ca : Nat → ClassId)   (S : St) : cV l GG D clM (tysM ca) nwM X ad TM (cfM ad ca) y_M_start b_M_start 1 0 0 [.ref (ad (1, 0, 0))] S (f_M_start S) := by
  generalize hr : f_M_start S = res
  refine zV_of pn_M (Nat.le_of_ble_eq_true rfl) (fun p e s m below meth c A ls hy hW hA hl => ?_)
  have hF := hy.1
  have hx := hF.1
  have hb := hF.2.1
  have hK := hy.2.2.2
  have hl : lv_has ls 1 [(0, .ref (ad (1, 0, 0)))] := hl
  refine lv_aload_n (pc := 0) hx hb d_M_start_0 rfl (lv_at hl 0 rfl) ?_
  refine lv_ldc2 (pc := 1) hx hb hF.2.2.2.1 (hF.2.2.2.2 _ gw_860) d_M_start_1 ?_
  obtain ⟨S1, eS1⟩ : ∃ z : St, z = sl S 1 0 0 4 (-7046029254386353131 : Int64) := ⟨_, rfl⟩
  have hr := lt_e eS1 hr
  refine z_put (pc := 4) (S' := S1) hF hK.1 hW tm1 rfl rfl in_M t_M tyo_M nmo_M 4 (by decide) gw_888 rfl rfl rfl rfl rfl (Nat.le_of_ble_eq_true rfl) (zs_sl eS1 rfl) (zs_slo eS1) d_M_start_4 (fun H locs (hW : Wd D clM A s.heap (zw X ad TM (cfM ad ca) S1) H locs) => ?_)
  exact z_vret hy hW hr.symm d_M_start_7
theorem d_M_add_0 : decode b_M_add 0 = .ok (.aload_n 0, 1) := by decide +kernel
theorem d_M_add_1 : decode b_M_add 1 = .ok (.aload_n 0, 1) := by decide +kernel
theorem d_M_add_2 : decode b_M_add 2 = .ok (.getfield 146, 3) := by decide +kernel
theorem d_M_add_5 : decode b_M_add 5 = .ok (.lload_n 1, 1) := by decide +kernel
theorem d_M_add_6 : decode b_M_add 6 = .ok (.lxor, 1) := by decide +kernel
theorem d_M_add_7 : decode b_M_add 7 = .ok (.ldc2_w 149, 3) := by decide +kernel
theorem d_M_add_10 : decode b_M_add 10 = .ok (.lmul, 1) := by decide +kernel
theorem d_M_add_11 : decode b_M_add 11 = .ok (.putfield 146, 3) := by decide +kernel
theorem d_M_add_14 : decode b_M_add 14 = .ok (.aload_n 0, 1) := by decide +kernel
theorem d_M_add_15 : decode b_M_add 15 = .ok (.aload_n 0, 1) := by decide +kernel
theorem d_M_add_16 : decode b_M_add 16 = .ok (.getfield 146, 3) := by decide +kernel
theorem d_M_add_19 : decode b_M_add 19 = .ok (.aload_n 0, 1) := by decide +kernel
theorem d_M_add_20 : decode b_M_add 20 = .ok (.getfield 146, 3) := by decide +kernel
theorem d_M_add_23 : decode b_M_add 23 = .ok (.bipush 29, 2) := by decide +kernel
theorem d_M_add_25 : decode b_M_add 25 = .ok (.lushr, 1) := by decide +kernel
theorem d_M_add_26 : decode b_M_add 26 = .ok (.lxor, 1) := by decide +kernel
theorem d_M_add_27 : decode b_M_add 27 = .ok (.putfield 146, 3) := by decide +kernel
theorem d_M_add_30 : decode b_M_add 30 = .ok (.return_, 1) := by decide +kernel
def f_M_add (a1 : Int64) (S : St) : St :=
  lt (sl S 1 0 0 4 (((S.2.1 1 0 0 4) ^^^ a1) * (-4417276706812531889 : Int64))) fun (S1 : St) =>
  lt (sl S1 1 0 0 4 ((S1.2.1 1 0 0 4) ^^^ (((S1.2.1 1 0 0 4).toUInt64 >>> ((29 : Int32).toInt64.toUInt64 &&& Int64.toUInt64 63)).toInt64))) fun (S2 : St) =>
  S2
set_option maxHeartbeats 4000000 in
set_option maxRecDepth 100000 in
theorem c_M_add (l : Launch) (D : va_G) (X : va_W) (ad : N3 → Nat) (ca : Nat → ClassId) (a1 : Int64)  (S : St) : cV l GG D clM (tysM ca) nwM X ad TM (cfM ad ca) y_M_add b_M_add 3 0 0 [.ref (ad (1, 0, 0)), .long a1] S (f_M_add a1 S) := by
  generalize hr : f_M_add a1 S = res
  refine zV_of pn_M (Nat.le_of_ble_eq_true rfl) (fun p e s m below meth c A ls hy hW hA hl => ?_)
  have hF := hy.1
  have hx := hF.1
  have hb := hF.2.1
  have hK := hy.2.2.2
  have hl : lv_has ls 3 [(0, .ref (ad (1, 0, 0))), (1, .long a1)] := hl
  refine lv_aload_n (pc := 0) hx hb d_M_add_0 rfl (lv_at hl 0 rfl) ?_
  refine lv_aload_n (pc := 1) hx hb d_M_add_1 rfl (lv_at hl 0 rfl) ?_
  refine z_get (pc := 2) (v := .long (S.2.1 1 0 0 4)) hF hK.1 hW tm1 rfl rfl in_M 4 (by decide) gw_888 rfl rfl d_M_add_2 ?_
  refine lv_lload_n (pc := 5) hx hb d_M_add_5 rfl (lv_at hl 1 rfl) ?_
  refine lv_lxor (pc := 6) hx hb d_M_add_6 ?_
  refine lv_ldc2 (pc := 7) hx hb hF.2.2.2.1 (hF.2.2.2.2 _ gw_865) d_M_add_7 ?_
  refine lv_lmul (pc := 10) hx hb d_M_add_10 ?_
  obtain ⟨S1, eS1⟩ : ∃ z : St, z = sl S 1 0 0 4 (((S.2.1 1 0 0 4) ^^^ a1) * (-4417276706812531889 : Int64)) := ⟨_, rfl⟩
  have hr := lt_e eS1 hr
  refine z_put (pc := 11) (S' := S1) hF hK.1 hW tm1 rfl rfl in_M t_M tyo_M nmo_M 4 (by decide) gw_888 rfl rfl rfl rfl rfl (Nat.le_of_ble_eq_true rfl) (zs_sl eS1 rfl) (zs_slo eS1) d_M_add_11 (fun H locs (hW : Wd D clM A s.heap (zw X ad TM (cfM ad ca) S1) H locs) => ?_)
  refine lv_aload_n (pc := 14) hx hb d_M_add_14 rfl (lv_at hl 0 rfl) ?_
  refine lv_aload_n (pc := 15) hx hb d_M_add_15 rfl (lv_at hl 0 rfl) ?_
  refine z_get (pc := 16) (v := .long (S1.2.1 1 0 0 4)) hF hK.1 hW tm1 rfl rfl in_M 4 (by decide) gw_888 rfl rfl d_M_add_16 ?_
  refine lv_aload_n (pc := 19) hx hb d_M_add_19 rfl (lv_at hl 0 rfl) ?_
  refine z_get (pc := 20) (v := .long (S1.2.1 1 0 0 4)) hF hK.1 hW tm1 rfl rfl in_M 4 (by decide) gw_888 rfl rfl d_M_add_20 ?_
  refine lv_bipush (pc := 23) (v := 29) hx hb d_M_add_23 (by decide) ?_
  refine lv_lushr (pc := 25) hx hb d_M_add_25 rfl ?_
  refine lv_lxor (pc := 26) hx hb d_M_add_26 ?_
  obtain ⟨S2, eS2⟩ : ∃ z : St, z = sl S1 1 0 0 4 ((S1.2.1 1 0 0 4) ^^^ (((S1.2.1 1 0 0 4).toUInt64 >>> ((29 : Int32).toInt64.toUInt64 &&& Int64.toUInt64 63)).toInt64)) := ⟨_, rfl⟩
  have hr := lt_e eS2 hr
  refine z_put (pc := 27) (S' := S2) hF hK.1 hW tm1 rfl rfl in_M t_M tyo_M nmo_M 4 (by decide) gw_888 rfl rfl rfl rfl rfl (Nat.le_of_ble_eq_true rfl) (zs_sl eS2 rfl) (zs_slo eS2) d_M_add_27 (fun H locs (hW : Wd D clM A s.heap (zw X ad TM (cfM ad ca) S2) H locs) => ?_)
  exact z_vret hy hW hr.symm d_M_add_30
theorem d_M_end_0 : decode b_M_end 0 = .ok (.aload_n 0, 1) := by decide +kernel
theorem d_M_end_1 : decode b_M_end 1 = .ok (.getfield 146, 3) := by decide +kernel
theorem d_M_end_4 : decode b_M_end 4 = .ok (.ldc2_w 151, 3) := by decide +kernel
theorem d_M_end_7 : decode b_M_end 7 = .ok (.lmul, 1) := by decide +kernel
theorem d_M_end_8 : decode b_M_end 8 = .ok (.lstore_n 1, 1) := by decide +kernel
theorem d_M_end_9 : decode b_M_end 9 = .ok (.lload_n 1, 1) := by decide +kernel
theorem d_M_end_10 : decode b_M_end 10 = .ok (.lload_n 1, 1) := by decide +kernel
theorem d_M_end_11 : decode b_M_end 11 = .ok (.bipush 32, 2) := by decide +kernel
theorem d_M_end_13 : decode b_M_end 13 = .ok (.lushr, 1) := by decide +kernel
theorem d_M_end_14 : decode b_M_end 14 = .ok (.lxor, 1) := by decide +kernel
theorem d_M_end_15 : decode b_M_end 15 = .ok (.lreturn, 1) := by decide +kernel
def f_M_end  (S : St) : Int64 :=
  ((S.2.1 1 0 0 4) * (1609587929392839161 : Int64)) ^^^ ((((S.2.1 1 0 0 4) * (1609587929392839161 : Int64)).toUInt64 >>> ((32 : Int32).toInt64.toUInt64 &&& Int64.toUInt64 63)).toInt64)
set_option maxHeartbeats 4000000 in
set_option maxRecDepth 100000 in
theorem c_M_end (l : Launch) (D : va_G) (X : va_W) (ad : N3 → Nat) (ca : Nat → ClassId)   (S : St) : cP l GG D clM (tysM ca) nwM (zw X ad TM (cfM ad ca) S) y_M_end b_M_end 3 .long 0 0 [.ref (ad (1, 0, 0))] (.long (f_M_end S)) := by
  generalize hr : f_M_end S = res
  refine zP_of pn_M (Nat.le_of_ble_eq_true rfl) (fun p e s m below meth c ls hy hW hl => ?_)
  have hF := hy.1
  have hx := hF.1
  have hb := hF.2.1
  have hK := hy.2.2.2
  have hl : lv_has ls 3 [(0, .ref (ad (1, 0, 0)))] := hl
  refine lv_aload_n (pc := 0) hx hb d_M_end_0 rfl (lv_at hl 0 rfl) ?_
  refine z_get (pc := 1) (v := .long (S.2.1 1 0 0 4)) hF hK.1 hW tm1 rfl rfl in_M 4 (by decide) gw_888 rfl rfl d_M_end_1 ?_
  refine lv_ldc2 (pc := 4) hx hb hF.2.2.2.1 (hF.2.2.2.2 _ gw_870) d_M_end_4 ?_
  refine lv_lmul (pc := 7) hx hb d_M_end_7 ?_
  refine lv_lstore_n (pc := 8) (lv' := [(1, .long ((S.2.1 1 0 0 4) * (1609587929392839161 : Int64))), (0, .ref (ad (1, 0, 0)))]) hx hb d_M_end_8 rfl hl (by decide) rfl (fun ls hl => ?_)
  refine lv_lload_n (pc := 9) hx hb d_M_end_9 rfl (lv_at hl 0 rfl) ?_
  refine lv_lload_n (pc := 10) hx hb d_M_end_10 rfl (lv_at hl 0 rfl) ?_
  refine lv_bipush (pc := 11) (v := 32) hx hb d_M_end_11 (by decide) ?_
  refine lv_lushr (pc := 13) hx hb d_M_end_13 rfl ?_
  refine lv_lxor (pc := 14) hx hb d_M_end_14 ?_
  exact p_lret (v := ((S.2.1 1 0 0 4) * (1609587929392839161 : Int64)) ^^^ ((((S.2.1 1 0 0 4) * (1609587929392839161 : Int64)).toUInt64 >>> ((32 : Int32).toInt64.toUInt64 &&& Int64.toUInt64 63)).toInt64)) hy hr d_M_end_15
theorem d_M_two_0 : decode b_M_two 0 = .ok (.aload_n 0, 1) := by decide +kernel
theorem d_M_two_1 : decode b_M_two 1 = .ok (.invokevirtual 153, 3) := by decide +kernel
theorem d_M_two_4 : decode b_M_two 4 = .ok (.aload_n 0, 1) := by decide +kernel
theorem d_M_two_5 : decode b_M_two 5 = .ok (.lload_n 1, 1) := by decide +kernel
theorem d_M_two_6 : decode b_M_two 6 = .ok (.invokevirtual 156, 3) := by decide +kernel
theorem d_M_two_9 : decode b_M_two 9 = .ok (.aload_n 0, 1) := by decide +kernel
theorem d_M_two_10 : decode b_M_two 10 = .ok (.lload_n 3, 1) := by decide +kernel
theorem d_M_two_11 : decode b_M_two 11 = .ok (.invokevirtual 156, 3) := by decide +kernel
theorem d_M_two_14 : decode b_M_two 14 = .ok (.aload_n 0, 1) := by decide +kernel
theorem d_M_two_15 : decode b_M_two 15 = .ok (.invokevirtual 160, 3) := by decide +kernel
theorem d_M_two_18 : decode b_M_two 18 = .ok (.lreturn, 1) := by decide +kernel
def f_M_two (a1 : Int64) (a3 : Int64) (S : St) : Int64 × St :=
  lt (f_M_start S) fun (S2 : St) =>
  lt (f_M_add a1 S2) fun (S4 : St) =>
  lt (f_M_add a3 S4) fun (S6 : St) =>
  lt (f_M_end S6) fun (r7 : Int64) =>
  (r7, S6)
set_option maxHeartbeats 4000000 in
set_option maxRecDepth 100000 in
theorem c_M_two (l : Launch) (D : va_G) (X : va_W) (ad : N3 → Nat) (ca : Nat → ClassId) (a1 : Int64) (a3 : Int64)  (S : St) : cL l GG D clM (tysM ca) nwM X ad TM (cfM ad ca) y_M_two b_M_two 5 .long 1 22 [.ref (ad (1, 0, 0)), .long a1, .long a3] S (f_M_two a1 a3 S) := by
  generalize hr : f_M_two a1 a3 S = res
  refine zL_of pn_M (Nat.le_of_ble_eq_true rfl) (fun p e s m below meth c A ls hy hW hA hl => ?_)
  have hF := hy.1
  have hx := hF.1
  have hb := hF.2.1
  have hK := hy.2.2.2
  have hl : lv_has ls 5 [(0, .ref (ad (1, 0, 0))), (1, .long a1), (3, .long a3)] := hl
  refine lv_aload_n (pc := 0) hx hb d_M_two_0 rfl (lv_at hl 0 rfl) ?_
  obtain ⟨S2, eS2⟩ : ∃ z : St, z = f_M_start S := ⟨_, rfl⟩
  have hr := lt_e eS2 hr
  refine z_goV (pc := 1) hW hA eS2 (z_runV hF hK hW (c_M_start l D X ad ca S _) cd_M_start gw_856 tm1 rfl rfl ⟨Nat.le_of_ble_eq_true rfl, Nat.le_of_ble_eq_true rfl⟩ ⟨Nat.zero_le _, Nat.zero_le _⟩ rfl rfl hl.1 (Nat.le_of_ble_eq_true rfl) d_M_two_1) (fun H locs (hW : Wd D clM A s.heap (zw X ad TM (cfM ad ca) S2) H locs) => ?_)
  refine lv_aload_n (pc := 4) hx hb d_M_two_4 rfl (lv_at hl 0 rfl) ?_
  refine lv_lload_n (pc := 5) hx hb d_M_two_5 rfl (lv_at hl 1 rfl) ?_
  obtain ⟨S4, eS4⟩ : ∃ z : St, z = f_M_add a1 S2 := ⟨_, rfl⟩
  have hr := lt_e eS4 hr
  refine z_goV (pc := 6) hW hA eS4 (z_runV hF hK hW (c_M_add l D X ad ca a1 S2 _) cd_M_add gw_861 tm1 rfl rfl ⟨Nat.le_of_ble_eq_true rfl, Nat.le_of_ble_eq_true rfl⟩ ⟨Nat.zero_le _, Nat.zero_le _⟩ rfl rfl hl.1 (Nat.le_of_ble_eq_true rfl) d_M_two_6) (fun H locs (hW : Wd D clM A s.heap (zw X ad TM (cfM ad ca) S4) H locs) => ?_)
  refine lv_aload_n (pc := 9) hx hb d_M_two_9 rfl (lv_at hl 0 rfl) ?_
  refine lv_lload_n (pc := 10) hx hb d_M_two_10 rfl (lv_at hl 2 rfl) ?_
  obtain ⟨S6, eS6⟩ : ∃ z : St, z = f_M_add a3 S4 := ⟨_, rfl⟩
  have hr := lt_e eS6 hr
  refine z_goV (pc := 11) hW hA eS6 (z_runV hF hK hW (c_M_add l D X ad ca a3 S4 _) cd_M_add gw_861 tm1 rfl rfl ⟨Nat.le_of_ble_eq_true rfl, Nat.le_of_ble_eq_true rfl⟩ ⟨Nat.zero_le _, Nat.zero_le _⟩ rfl rfl hl.1 (Nat.le_of_ble_eq_true rfl) d_M_two_11) (fun H locs (hW : Wd D clM A s.heap (zw X ad TM (cfM ad ca) S6) H locs) => ?_)
  refine lv_aload_n (pc := 14) hx hb d_M_two_14 rfl (lv_at hl 0 rfl) ?_
  obtain ⟨r7, er7⟩ : ∃ z : Int64, z = f_M_end S6 := ⟨_, rfl⟩
  have hr := lt_e er7 hr
  refine p_go (pc := 15) (congrArg Value.long er7) (p_runV hF hK hW (c_M_end l D X ad ca S6 _) cd_M_end gw_866 tm1 rfl rfl ⟨Nat.le_of_ble_eq_true rfl, Nat.le_of_ble_eq_true rfl⟩ ⟨Nat.zero_le _, Nat.zero_le _⟩ rfl rfl hl.1 (Nat.le_of_ble_eq_true rfl) d_M_two_15) ?_
  exact z_lret (v := r7) hy hW hr.symm d_M_two_18
theorem d_M_three_0 : decode b_M_three 0 = .ok (.aload_n 0, 1) := by decide +kernel
theorem d_M_three_1 : decode b_M_three 1 = .ok (.invokevirtual 153, 3) := by decide +kernel
theorem d_M_three_4 : decode b_M_three 4 = .ok (.aload_n 0, 1) := by decide +kernel
theorem d_M_three_5 : decode b_M_three 5 = .ok (.lload_n 1, 1) := by decide +kernel
theorem d_M_three_6 : decode b_M_three 6 = .ok (.invokevirtual 156, 3) := by decide +kernel
theorem d_M_three_9 : decode b_M_three 9 = .ok (.aload_n 0, 1) := by decide +kernel
theorem d_M_three_10 : decode b_M_three 10 = .ok (.lload_n 3, 1) := by decide +kernel
theorem d_M_three_11 : decode b_M_three 11 = .ok (.invokevirtual 156, 3) := by decide +kernel
theorem d_M_three_14 : decode b_M_three 14 = .ok (.aload_n 0, 1) := by decide +kernel
theorem d_M_three_15 : decode b_M_three 15 = .ok (.lload 5, 2) := by decide +kernel
theorem d_M_three_17 : decode b_M_three 17 = .ok (.invokevirtual 156, 3) := by decide +kernel
theorem d_M_three_20 : decode b_M_three 20 = .ok (.aload_n 0, 1) := by decide +kernel
theorem d_M_three_21 : decode b_M_three 21 = .ok (.invokevirtual 160, 3) := by decide +kernel
theorem d_M_three_24 : decode b_M_three 24 = .ok (.lreturn, 1) := by decide +kernel
def f_M_three (a1 : Int64) (a3 : Int64) (a5 : Int64) (S : St) : Int64 × St :=
  lt (f_M_start S) fun (S2 : St) =>
  lt (f_M_add a1 S2) fun (S4 : St) =>
  lt (f_M_add a3 S4) fun (S6 : St) =>
  lt (f_M_add a5 S6) fun (S8 : St) =>
  lt (f_M_end S8) fun (r9 : Int64) =>
  (r9, S8)
set_option maxHeartbeats 4000000 in
set_option maxRecDepth 100000 in
theorem c_M_three (l : Launch) (D : va_G) (X : va_W) (ad : N3 → Nat) (ca : Nat → ClassId) (a1 : Int64) (a3 : Int64) (a5 : Int64)  (S : St) : cL l GG D clM (tysM ca) nwM X ad TM (cfM ad ca) y_M_three b_M_three 7 .long 1 22 [.ref (ad (1, 0, 0)), .long a1, .long a3, .long a5] S (f_M_three a1 a3 a5 S) := by
  generalize hr : f_M_three a1 a3 a5 S = res
  refine zL_of pn_M (Nat.le_of_ble_eq_true rfl) (fun p e s m below meth c A ls hy hW hA hl => ?_)
  have hF := hy.1
  have hx := hF.1
  have hb := hF.2.1
  have hK := hy.2.2.2
  have hl : lv_has ls 7 [(0, .ref (ad (1, 0, 0))), (1, .long a1), (3, .long a3), (5, .long a5)] := hl
  refine lv_aload_n (pc := 0) hx hb d_M_three_0 rfl (lv_at hl 0 rfl) ?_
  obtain ⟨S2, eS2⟩ : ∃ z : St, z = f_M_start S := ⟨_, rfl⟩
  have hr := lt_e eS2 hr
  refine z_goV (pc := 1) hW hA eS2 (z_runV hF hK hW (c_M_start l D X ad ca S _) cd_M_start gw_856 tm1 rfl rfl ⟨Nat.le_of_ble_eq_true rfl, Nat.le_of_ble_eq_true rfl⟩ ⟨Nat.zero_le _, Nat.zero_le _⟩ rfl rfl hl.1 (Nat.le_of_ble_eq_true rfl) d_M_three_1) (fun H locs (hW : Wd D clM A s.heap (zw X ad TM (cfM ad ca) S2) H locs) => ?_)
  refine lv_aload_n (pc := 4) hx hb d_M_three_4 rfl (lv_at hl 0 rfl) ?_
  refine lv_lload_n (pc := 5) hx hb d_M_three_5 rfl (lv_at hl 1 rfl) ?_
  obtain ⟨S4, eS4⟩ : ∃ z : St, z = f_M_add a1 S2 := ⟨_, rfl⟩
  have hr := lt_e eS4 hr
  refine z_goV (pc := 6) hW hA eS4 (z_runV hF hK hW (c_M_add l D X ad ca a1 S2 _) cd_M_add gw_861 tm1 rfl rfl ⟨Nat.le_of_ble_eq_true rfl, Nat.le_of_ble_eq_true rfl⟩ ⟨Nat.zero_le _, Nat.zero_le _⟩ rfl rfl hl.1 (Nat.le_of_ble_eq_true rfl) d_M_three_6) (fun H locs (hW : Wd D clM A s.heap (zw X ad TM (cfM ad ca) S4) H locs) => ?_)
  refine lv_aload_n (pc := 9) hx hb d_M_three_9 rfl (lv_at hl 0 rfl) ?_
  refine lv_lload_n (pc := 10) hx hb d_M_three_10 rfl (lv_at hl 2 rfl) ?_
  obtain ⟨S6, eS6⟩ : ∃ z : St, z = f_M_add a3 S4 := ⟨_, rfl⟩
  have hr := lt_e eS6 hr
  refine z_goV (pc := 11) hW hA eS6 (z_runV hF hK hW (c_M_add l D X ad ca a3 S4 _) cd_M_add gw_861 tm1 rfl rfl ⟨Nat.le_of_ble_eq_true rfl, Nat.le_of_ble_eq_true rfl⟩ ⟨Nat.zero_le _, Nat.zero_le _⟩ rfl rfl hl.1 (Nat.le_of_ble_eq_true rfl) d_M_three_11) (fun H locs (hW : Wd D clM A s.heap (zw X ad TM (cfM ad ca) S6) H locs) => ?_)
  refine lv_aload_n (pc := 14) hx hb d_M_three_14 rfl (lv_at hl 0 rfl) ?_
  refine lv_lload (pc := 15) hx hb d_M_three_15 (lv_at hl 3 rfl) ?_
  obtain ⟨S8, eS8⟩ : ∃ z : St, z = f_M_add a5 S6 := ⟨_, rfl⟩
  have hr := lt_e eS8 hr
  refine z_goV (pc := 17) hW hA eS8 (z_runV hF hK hW (c_M_add l D X ad ca a5 S6 _) cd_M_add gw_861 tm1 rfl rfl ⟨Nat.le_of_ble_eq_true rfl, Nat.le_of_ble_eq_true rfl⟩ ⟨Nat.zero_le _, Nat.zero_le _⟩ rfl rfl hl.1 (Nat.le_of_ble_eq_true rfl) d_M_three_17) (fun H locs (hW : Wd D clM A s.heap (zw X ad TM (cfM ad ca) S8) H locs) => ?_)
  refine lv_aload_n (pc := 20) hx hb d_M_three_20 rfl (lv_at hl 0 rfl) ?_
  obtain ⟨r9, er9⟩ : ∃ z : Int64, z = f_M_end S8 := ⟨_, rfl⟩
  have hr := lt_e er9 hr
  refine p_go (pc := 21) (congrArg Value.long er9) (p_runV hF hK hW (c_M_end l D X ad ca S8 _) cd_M_end gw_866 tm1 rfl rfl ⟨Nat.le_of_ble_eq_true rfl, Nat.le_of_ble_eq_true rfl⟩ ⟨Nat.zero_le _, Nat.zero_le _⟩ rfl rfl hl.1 (Nat.le_of_ble_eq_true rfl) d_M_three_21) ?_
  exact z_lret (v := r9) hy hW hr.symm d_M_three_24
theorem d_M_secret_0 : decode b_M_secret 0 = .ok (.aload_n 0, 1) := by decide +kernel
theorem d_M_secret_1 : decode b_M_secret 1 = .ok (.invokevirtual 153, 3) := by decide +kernel
theorem d_M_secret_4 : decode b_M_secret 4 = .ok (.aload_n 0, 1) := by decide +kernel
theorem d_M_secret_5 : decode b_M_secret 5 = .ok (.aload_n 0, 1) := by decide +kernel
theorem d_M_secret_6 : decode b_M_secret 6 = .ok (.getfield 121, 3) := by decide +kernel
theorem d_M_secret_9 : decode b_M_secret 9 = .ok (.invokevirtual 156, 3) := by decide +kernel
theorem d_M_secret_12 : decode b_M_secret 12 = .ok (.aload_n 0, 1) := by decide +kernel
theorem d_M_secret_13 : decode b_M_secret 13 = .ok (.iload_n 1, 1) := by decide +kernel
theorem d_M_secret_14 : decode b_M_secret 14 = .ok (.i2l, 1) := by decide +kernel
theorem d_M_secret_15 : decode b_M_secret 15 = .ok (.invokevirtual 156, 3) := by decide +kernel
theorem d_M_secret_18 : decode b_M_secret 18 = .ok (.aload_n 0, 1) := by decide +kernel
theorem d_M_secret_19 : decode b_M_secret 19 = .ok (.iload_n 2, 1) := by decide +kernel
theorem d_M_secret_20 : decode b_M_secret 20 = .ok (.i2l, 1) := by decide +kernel
theorem d_M_secret_21 : decode b_M_secret 21 = .ok (.invokevirtual 156, 3) := by decide +kernel
theorem d_M_secret_24 : decode b_M_secret 24 = .ok (.aload_n 0, 1) := by decide +kernel
theorem d_M_secret_25 : decode b_M_secret 25 = .ok (.iload_n 3, 1) := by decide +kernel
theorem d_M_secret_26 : decode b_M_secret 26 = .ok (.i2l, 1) := by decide +kernel
theorem d_M_secret_27 : decode b_M_secret 27 = .ok (.invokevirtual 156, 3) := by decide +kernel
theorem d_M_secret_30 : decode b_M_secret 30 = .ok (.aload_n 0, 1) := by decide +kernel
theorem d_M_secret_31 : decode b_M_secret 31 = .ok (.invokevirtual 160, 3) := by decide +kernel
theorem d_M_secret_34 : decode b_M_secret 34 = .ok (.lreturn, 1) := by decide +kernel
def f_M_secret (a1 : Int32) (a2 : Int32) (a3 : Int32) (S : St) : Int64 × St :=
  lt (f_M_start S) fun (S2 : St) =>
  lt (f_M_add (S2.2.1 1 0 0 0) S2) fun (S4 : St) =>
  lt (f_M_add a1.toInt64 S4) fun (S6 : St) =>
  lt (f_M_add a2.toInt64 S6) fun (S8 : St) =>
  lt (f_M_add a3.toInt64 S8) fun (S10 : St) =>
  lt (f_M_end S10) fun (r11 : Int64) =>
  (r11, S10)
set_option maxHeartbeats 4000000 in
set_option maxRecDepth 100000 in
theorem c_M_secret (l : Launch) (D : va_G) (X : va_W) (ad : N3 → Nat) (ca : Nat → ClassId) (a1 : Int32) (a2 : Int32) (a3 : Int32)  (S : St) : cL l GG D clM (tysM ca) nwM X ad TM (cfM ad ca) y_M_secret b_M_secret 4 .long 1 22 [.ref (ad (1, 0, 0)), .int a1, .int a2, .int a3] S (f_M_secret a1 a2 a3 S) := by
  generalize hr : f_M_secret a1 a2 a3 S = res
  refine zL_of pn_M (Nat.le_of_ble_eq_true rfl) (fun p e s m below meth c A ls hy hW hA hl => ?_)
  have hF := hy.1
  have hx := hF.1
  have hb := hF.2.1
  have hK := hy.2.2.2
  have hl : lv_has ls 4 [(0, .ref (ad (1, 0, 0))), (1, .int a1), (2, .int a2), (3, .int a3)] := hl
  refine lv_aload_n (pc := 0) hx hb d_M_secret_0 rfl (lv_at hl 0 rfl) ?_
  obtain ⟨S2, eS2⟩ : ∃ z : St, z = f_M_start S := ⟨_, rfl⟩
  have hr := lt_e eS2 hr
  refine z_goV (pc := 1) hW hA eS2 (z_runV hF hK hW (c_M_start l D X ad ca S _) cd_M_start gw_856 tm1 rfl rfl ⟨Nat.le_of_ble_eq_true rfl, Nat.le_of_ble_eq_true rfl⟩ ⟨Nat.zero_le _, Nat.zero_le _⟩ rfl rfl hl.1 (Nat.le_of_ble_eq_true rfl) d_M_secret_1) (fun H locs (hW : Wd D clM A s.heap (zw X ad TM (cfM ad ca) S2) H locs) => ?_)
  refine lv_aload_n (pc := 4) hx hb d_M_secret_4 rfl (lv_at hl 0 rfl) ?_
  refine lv_aload_n (pc := 5) hx hb d_M_secret_5 rfl (lv_at hl 0 rfl) ?_
  refine z_get (pc := 6) (v := .long (S2.2.1 1 0 0 0)) hF hK.1 hW tm1 rfl rfl in_M 0 (by decide) gw_884 rfl rfl d_M_secret_6 ?_
  obtain ⟨S4, eS4⟩ : ∃ z : St, z = f_M_add (S2.2.1 1 0 0 0) S2 := ⟨_, rfl⟩
  have hr := lt_e eS4 hr
  refine z_goV (pc := 9) hW hA eS4 (z_runV hF hK hW (c_M_add l D X ad ca (S2.2.1 1 0 0 0) S2 _) cd_M_add gw_861 tm1 rfl rfl ⟨Nat.le_of_ble_eq_true rfl, Nat.le_of_ble_eq_true rfl⟩ ⟨Nat.zero_le _, Nat.zero_le _⟩ rfl rfl hl.1 (Nat.le_of_ble_eq_true rfl) d_M_secret_9) (fun H locs (hW : Wd D clM A s.heap (zw X ad TM (cfM ad ca) S4) H locs) => ?_)
  refine lv_aload_n (pc := 12) hx hb d_M_secret_12 rfl (lv_at hl 0 rfl) ?_
  refine lv_iload_n (pc := 13) hx hb d_M_secret_13 rfl (lv_at hl 1 rfl) ?_
  refine lv_i2l (pc := 14) hx hb d_M_secret_14 rfl ?_
  obtain ⟨S6, eS6⟩ : ∃ z : St, z = f_M_add a1.toInt64 S4 := ⟨_, rfl⟩
  have hr := lt_e eS6 hr
  refine z_goV (pc := 15) hW hA eS6 (z_runV hF hK hW (c_M_add l D X ad ca a1.toInt64 S4 _) cd_M_add gw_861 tm1 rfl rfl ⟨Nat.le_of_ble_eq_true rfl, Nat.le_of_ble_eq_true rfl⟩ ⟨Nat.zero_le _, Nat.zero_le _⟩ rfl rfl hl.1 (Nat.le_of_ble_eq_true rfl) d_M_secret_15) (fun H locs (hW : Wd D clM A s.heap (zw X ad TM (cfM ad ca) S6) H locs) => ?_)
  refine lv_aload_n (pc := 18) hx hb d_M_secret_18 rfl (lv_at hl 0 rfl) ?_
  refine lv_iload_n (pc := 19) hx hb d_M_secret_19 rfl (lv_at hl 2 rfl) ?_
  refine lv_i2l (pc := 20) hx hb d_M_secret_20 rfl ?_
  obtain ⟨S8, eS8⟩ : ∃ z : St, z = f_M_add a2.toInt64 S6 := ⟨_, rfl⟩
  have hr := lt_e eS8 hr
  refine z_goV (pc := 21) hW hA eS8 (z_runV hF hK hW (c_M_add l D X ad ca a2.toInt64 S6 _) cd_M_add gw_861 tm1 rfl rfl ⟨Nat.le_of_ble_eq_true rfl, Nat.le_of_ble_eq_true rfl⟩ ⟨Nat.zero_le _, Nat.zero_le _⟩ rfl rfl hl.1 (Nat.le_of_ble_eq_true rfl) d_M_secret_21) (fun H locs (hW : Wd D clM A s.heap (zw X ad TM (cfM ad ca) S8) H locs) => ?_)
  refine lv_aload_n (pc := 24) hx hb d_M_secret_24 rfl (lv_at hl 0 rfl) ?_
  refine lv_iload_n (pc := 25) hx hb d_M_secret_25 rfl (lv_at hl 3 rfl) ?_
  refine lv_i2l (pc := 26) hx hb d_M_secret_26 rfl ?_
  obtain ⟨S10, eS10⟩ : ∃ z : St, z = f_M_add a3.toInt64 S8 := ⟨_, rfl⟩
  have hr := lt_e eS10 hr
  refine z_goV (pc := 27) hW hA eS10 (z_runV hF hK hW (c_M_add l D X ad ca a3.toInt64 S8 _) cd_M_add gw_861 tm1 rfl rfl ⟨Nat.le_of_ble_eq_true rfl, Nat.le_of_ble_eq_true rfl⟩ ⟨Nat.zero_le _, Nat.zero_le _⟩ rfl rfl hl.1 (Nat.le_of_ble_eq_true rfl) d_M_secret_27) (fun H locs (hW : Wd D clM A s.heap (zw X ad TM (cfM ad ca) S10) H locs) => ?_)
  refine lv_aload_n (pc := 30) hx hb d_M_secret_30 rfl (lv_at hl 0 rfl) ?_
  obtain ⟨r11, er11⟩ : ∃ z : Int64, z = f_M_end S10 := ⟨_, rfl⟩
  have hr := lt_e er11 hr
  refine p_go (pc := 31) (congrArg Value.long er11) (p_runV hF hK hW (c_M_end l D X ad ca S10 _) cd_M_end gw_866 tm1 rfl rfl ⟨Nat.le_of_ble_eq_true rfl, Nat.le_of_ble_eq_true rfl⟩ ⟨Nat.zero_le _, Nat.zero_le _⟩ rfl rfl hl.1 (Nat.le_of_ble_eq_true rfl) d_M_secret_31) ?_
  exact z_lret (v := r11) hy hW hr.symm d_M_secret_34
theorem d_M_after_0 : decode b_M_after 0 = .ok (.lload_n 1, 1) := by decide +kernel
theorem d_M_after_1 : decode b_M_after 1 = .ok (.lstore 4, 2) := by decide +kernel
theorem d_M_after_3 : decode b_M_after 3 = .ok (.iconst 0, 1) := by decide +kernel
theorem d_M_after_4 : decode b_M_after 4 = .ok (.istore 6, 2) := by decide +kernel
theorem d_M_after_6 : decode b_M_after 6 = .ok (.iload 6, 2) := by decide +kernel
theorem d_M_after_8 : decode b_M_after 8 = .ok (.iload_n 3, 1) := by decide +kernel
theorem d_M_after_9 : decode b_M_after 9 = .ok (.if_icmp .ge 20, 3) := by decide +kernel
theorem d_M_after_12 : decode b_M_after 12 = .ok (.aload_n 0, 1) := by decide +kernel
theorem d_M_after_13 : decode b_M_after 13 = .ok (.lload 4, 2) := by decide +kernel
theorem d_M_after_15 : decode b_M_after 15 = .ok (.ldc2_w 163, 3) := by decide +kernel
theorem d_M_after_18 : decode b_M_after 18 = .ok (.invokevirtual 137, 3) := by decide +kernel
theorem d_M_after_21 : decode b_M_after 21 = .ok (.lstore 4, 2) := by decide +kernel
theorem d_M_after_23 : decode b_M_after 23 = .ok (.iinc 6 1, 3) := by decide +kernel
theorem d_M_after_26 : decode b_M_after 26 = .ok (.goto (-20), 3) := by decide +kernel
theorem d_M_after_29 : decode b_M_after 29 = .ok (.lload 4, 2) := by decide +kernel
theorem d_M_after_31 : decode b_M_after 31 = .ok (.lreturn, 1) := by decide +kernel
def f_M_after_6 (a1 : Int64) (a3 : Int32) : Nat → St → Int64 → Int32 → Int64 × St
  | 0, S, _, _ => (0, S)
  | n + 1, S, l4, l6 =>
    if a3 ≤ l6 then
      (l4, S)
    else
      lt (f_M_two l4 (77 : Int64) S) fun (r2 : Int64 × St) =>
      f_M_after_6 a1 a3 n r2.2 r2.1 (l6 + (1 : Int32))
def ok_M_after_6 (a1 : Int64) (a3 : Int32) : Nat → St → Int64 → Int32 → Prop
  | 0, _, _, _ => False
  | n + 1, S, l4, l6 =>
    (a3 ≤ l6 → (
      True)) ∧ (¬ (a3 ≤ l6) → (
      lt (f_M_two l4 (77 : Int64) S) fun (r2 : Int64 × St) =>
      ok_M_after_6 a1 a3 n r2.2 r2.1 (l6 + (1 : Int32))))
set_option maxHeartbeats 4000000 in
set_option maxRecDepth 100000 in
theorem w_M_after_6 {l : Launch} {D : va_G} {X : va_W} {ad : N3 → Nat} {ca : Nat → ClassId} (a1 : Int64) (a3 : Int32)  {p : Program} {e : Env} {s : State} {m : MethodId} {below : List Frame} {meth : Method} {c : Code} {A : Nat → Prop} (hy : Hy p s m ([.ref (ad (1, 0, 0)), .long a1, .int a3] : List Value).toArray meth c b_M_after 7 (some .long) R_M GG D clM (tysM ca) nwM) (hA : ∀ q, s.heap.size ≤ q → A q) {res : Int64 × St} : ∀ (n : Nat) (S : St) (l4 : Int64) (l6 : Int32) , ok_M_after_6 a1 a3 n S l4 l6 → f_M_after_6 a1 a3 n S l4 l6 = res → ∀ (H : Heap) (locs : List Loc) (ls : Array Slot), Wd D clM A s.heap (zw X ad TM (cfM ad ca) S) H locs → lv_has ls 7 [(0, .ref (ad (1, 0, 0))), (3, .int a3), (4, .long l4), (6, .int l6)] → W p l e { frames := 2, cells := 0, slots := 0, locals := 46 } s m ([.ref (ad (1, 0, 0)), .long a1, .int a3] : List Value).toArray below meth c H locs 0 0 (MQ below (eL D clM X ad TM (cfM ad ca) A res) ([.ref (ad (1, 0, 0)), .long a1, .int a3] : List Value).toArray s 0 0 A) (F0 m 6 ls []) := by
  have hF := hy.1
  have hx := hF.1
  have hb := hF.2.1
  have hK := hy.2.2.2
  intro n
  induction n with
  | zero =>
    intro S l4 l6 hk
    exact hk.elim
  | succ n ih =>
    intro S l4 l6 hk hr H locs ls hW hl
    refine lv_iload (pc := 6) hx hb d_M_after_6 (lv_at hl 3 rfl) ?_
    refine lv_iload_n (pc := 8) hx hb d_M_after_8 rfl (lv_at hl 1 rfl) ?_
    refine lv_icmp_ge (pc := 9) (tgt := 29) hx hb d_M_after_9 (by decide) (fun c1 => ?_) (fun c1 => ?_)
    · have hk := hk.1 c1
      have hr := (if_pos c1).symm.trans hr
      refine lv_lload (pc := 29) hx hb d_M_after_29 (lv_at hl 2 rfl) ?_
      exact z_lret (v := l4) hy hW hr.symm d_M_after_31
    · have hk := hk.2 c1
      have hr := (if_neg c1).symm.trans hr
      refine lv_aload_n (pc := 12) hx hb d_M_after_12 rfl (lv_at hl 0 rfl) ?_
      refine lv_lload (pc := 13) hx hb d_M_after_13 (lv_at hl 2 rfl) ?_
      refine lv_ldc2 (pc := 15) hx hb hF.2.2.2.1 (hF.2.2.2.2 _ gw_875) d_M_after_15 ?_
      obtain ⟨r2, er2⟩ : ∃ z : Int64 × St, z = f_M_two l4 (77 : Int64) S := ⟨_, rfl⟩
      have hk := lt_p er2 hk
      have hr := lt_e er2 hr
      refine z_goL (pc := 18) hW hA (show (r2.1, r2.2) = _ from er2) (z_runV hF hK hW (c_M_two l D X ad ca l4 (77 : Int64) S _) cd_M_two gw_876 tm1 rfl rfl ⟨Nat.le_of_ble_eq_true rfl, Nat.le_of_ble_eq_true rfl⟩ ⟨Nat.zero_le _, Nat.zero_le _⟩ rfl rfl hl.1 (Nat.le_of_ble_eq_true rfl) d_M_after_18) (fun H locs (hW : Wd D clM A s.heap (zw X ad TM (cfM ad ca) r2.2) H locs) => ?_)
      refine lv_lstore (pc := 21) (lv' := [(4, .long r2.1), (0, .ref (ad (1, 0, 0))), (3, .int a3), (6, .int l6)]) hx hb d_M_after_21 hl (by decide) rfl (fun ls hl => ?_)
      refine lv_iinc (pc := 23) (v := l6 + (1 : Int32)) (lv' := [(6, .int (l6 + (1 : Int32))), (4, .long r2.1), (0, .ref (ad (1, 0, 0))), (3, .int a3)]) (k := 3) hx hb d_M_after_23 hl rfl (z_inc (by decide)) (by decide) rfl (fun ls hl => ?_)
      refine lv_goto (pc := 26) (tgt := 6) hx hb d_M_after_26 (by decide) ?_
      exact ih r2.2 r2.1 (l6 + (1 : Int32)) hk hr _ _ _ hW (lv_sub hl [2, 3, 1, 0] rfl)
def f_M_after (a1 : Int64) (a3 : Int32) (S : St) : Int64 × St :=
  f_M_after_6 a1 a3 200 S a1 (0 : Int32)
def ok_M_after (a1 : Int64) (a3 : Int32) (S : St) : Prop :=
  ok_M_after_6 a1 a3 200 S a1 (0 : Int32)
set_option maxHeartbeats 4000000 in
set_option maxRecDepth 100000 in
theorem c_M_after (l : Launch) (D : va_G) (X : va_W) (ad : N3 → Nat) (ca : Nat → ClassId) (a1 : Int64) (a3 : Int32)  (S : St) (hk : ok_M_after a1 a3 S) : cL l GG D clM (tysM ca) nwM X ad TM (cfM ad ca) y_M_after b_M_after 7 .long 2 46 [.ref (ad (1, 0, 0)), .long a1, .int a3] S (f_M_after a1 a3 S) := by
  generalize hr : f_M_after a1 a3 S = res
  refine zL_of pn_M (Nat.le_of_ble_eq_true rfl) (fun p e s m below meth c A ls hy hW hA hl => ?_)
  have hF := hy.1
  have hx := hF.1
  have hb := hF.2.1
  have hK := hy.2.2.2
  have hl : lv_has ls 7 [(0, .ref (ad (1, 0, 0))), (1, .long a1), (3, .int a3)] := hl
  refine lv_lload_n (pc := 0) hx hb d_M_after_0 rfl (lv_at hl 1 rfl) ?_
  refine lv_lstore (pc := 1) (lv' := [(4, .long a1), (0, .ref (ad (1, 0, 0))), (1, .long a1), (3, .int a3)]) hx hb d_M_after_1 hl (by decide) rfl (fun ls hl => ?_)
  refine lv_iconst (pc := 3) (v := 0) hx hb d_M_after_3 (by decide) ?_
  refine lv_istore (pc := 4) (lv' := [(6, .int (0 : Int32)), (4, .long a1), (0, .ref (ad (1, 0, 0))), (1, .long a1), (3, .int a3)]) hx hb d_M_after_4 hl (by decide) rfl (fun ls hl => ?_)
  exact w_M_after_6 a1 a3 hy hA 200 S a1 (0 : Int32) hk hr _ _ _ hW (lv_sub hl [2, 4, 1, 0] rfl)
theorem d_M_leaf_0 : decode b_M_leaf 0 = .ok (.aload_n 0, 1) := by decide +kernel
theorem d_M_leaf_1 : decode b_M_leaf 1 = .ok (.invokevirtual 153, 3) := by decide +kernel
theorem d_M_leaf_4 : decode b_M_leaf 4 = .ok (.iconst 0, 1) := by decide +kernel
theorem d_M_leaf_5 : decode b_M_leaf 5 = .ok (.istore_n 1, 1) := by decide +kernel
theorem d_M_leaf_6 : decode b_M_leaf 6 = .ok (.iload_n 1, 1) := by decide +kernel
theorem d_M_leaf_7 : decode b_M_leaf 7 = .ok (.bipush 6, 2) := by decide +kernel
theorem d_M_leaf_9 : decode b_M_leaf 9 = .ok (.if_icmp .ge 19, 3) := by decide +kernel
theorem d_M_leaf_12 : decode b_M_leaf 12 = .ok (.aload_n 0, 1) := by decide +kernel
theorem d_M_leaf_13 : decode b_M_leaf 13 = .ok (.aload_n 0, 1) := by decide +kernel
theorem d_M_leaf_14 : decode b_M_leaf 14 = .ok (.getfield 115, 3) := by decide +kernel
theorem d_M_leaf_17 : decode b_M_leaf 17 = .ok (.iload_n 1, 1) := by decide +kernel
theorem d_M_leaf_18 : decode b_M_leaf 18 = .ok (.laload, 1) := by decide +kernel
theorem d_M_leaf_19 : decode b_M_leaf 19 = .ok (.invokevirtual 156, 3) := by decide +kernel
theorem d_M_leaf_22 : decode b_M_leaf 22 = .ok (.iinc 1 1, 3) := by decide +kernel
theorem d_M_leaf_25 : decode b_M_leaf 25 = .ok (.goto (-19), 3) := by decide +kernel
theorem d_M_leaf_28 : decode b_M_leaf 28 = .ok (.aload_n 0, 1) := by decide +kernel
theorem d_M_leaf_29 : decode b_M_leaf 29 = .ok (.invokevirtual 160, 3) := by decide +kernel
theorem d_M_leaf_32 : decode b_M_leaf 32 = .ok (.lreturn, 1) := by decide +kernel
def f_M_leaf_6  : Nat → St → Int32 → Int64 × St
  | 0, S, _ => (0, S)
  | n + 1, S, l1 =>
    if (6 : Int32) ≤ l1 then
      lt (f_M_end S) fun (r4 : Int64) =>
      (r4, S)
    else
      lt (f_M_add (S.2.1 35 0 0 l1.toNatClampNeg) S) fun (S7 : St) =>
      f_M_leaf_6 n S7 (l1 + (1 : Int32))
def ok_M_leaf_6  : Nat → St → Int32 → Prop
  | 0, _, _ => False
  | n + 1, S, l1 =>
    ((6 : Int32) ≤ l1 → (
      True)) ∧ (¬ ((6 : Int32) ≤ l1) → (
      (vp_in l1 11) ∧ (
        lt (f_M_add (S.2.1 35 0 0 l1.toNatClampNeg) S) fun (S7 : St) =>
        ok_M_leaf_6 n S7 (l1 + (1 : Int32)))))
set_option maxHeartbeats 4000000 in
set_option maxRecDepth 100000 in
theorem w_M_leaf_6 {l : Launch} {D : va_G} {X : va_W} {ad : N3 → Nat} {ca : Nat → ClassId}   {p : Program} {e : Env} {s : State} {m : MethodId} {below : List Frame} {meth : Method} {c : Code} {A : Nat → Prop} (hy : Hy p s m ([.ref (ad (1, 0, 0))] : List Value).toArray meth c b_M_leaf 2 (some .long) R_M GG D clM (tysM ca) nwM) (hA : ∀ q, s.heap.size ≤ q → A q) {res : Int64 × St} : ∀ (n : Nat) (S : St) (l1 : Int32) , ok_M_leaf_6 n S l1 → f_M_leaf_6 n S l1 = res → ∀ (H : Heap) (locs : List Loc) (ls : Array Slot), Wd D clM A s.heap (zw X ad TM (cfM ad ca) S) H locs → lv_has ls 2 [(0, .ref (ad (1, 0, 0))), (1, .int l1)] → W p l e { frames := 1, cells := 0, slots := 0, locals := 22 } s m ([.ref (ad (1, 0, 0))] : List Value).toArray below meth c H locs 0 0 (MQ below (eL D clM X ad TM (cfM ad ca) A res) ([.ref (ad (1, 0, 0))] : List Value).toArray s 0 0 A) (F0 m 6 ls []) := by
  have hF := hy.1
  have hx := hF.1
  have hb := hF.2.1
  have hK := hy.2.2.2
  intro n
  induction n with
  | zero =>
    intro S l1 hk
    exact hk.elim
  | succ n ih =>
    intro S l1 hk hr H locs ls hW hl
    refine lv_iload_n (pc := 6) hx hb d_M_leaf_6 rfl (lv_at hl 1 rfl) ?_
    refine lv_bipush (pc := 7) (v := 6) hx hb d_M_leaf_7 (by decide) ?_
    refine lv_icmp_ge (pc := 9) (tgt := 28) hx hb d_M_leaf_9 (by decide) (fun c3 => ?_) (fun c3 => ?_)
    · have hk := hk.1 c3
      have hr := (if_pos c3).symm.trans hr
      refine lv_aload_n (pc := 28) hx hb d_M_leaf_28 rfl (lv_at hl 0 rfl) ?_
      obtain ⟨r4, er4⟩ : ∃ z : Int64, z = f_M_end S := ⟨_, rfl⟩
      have hr := lt_e er4 hr
      refine p_go (pc := 29) (congrArg Value.long er4) (p_runV hF hK hW (c_M_end l D X ad ca S _) cd_M_end gw_866 tm1 rfl rfl ⟨Nat.le_of_ble_eq_true rfl, Nat.le_of_ble_eq_true rfl⟩ ⟨Nat.zero_le _, Nat.zero_le _⟩ rfl rfl hl.1 (Nat.le_of_ble_eq_true rfl) d_M_leaf_29) ?_
      exact z_lret (v := r4) hy hW hr.symm d_M_leaf_32
    · have hk := hk.2 c3
      have hr := (if_neg c3).symm.trans hr
      refine lv_aload_n (pc := 12) hx hb d_M_leaf_12 rfl (lv_at hl 0 rfl) ?_
      refine lv_aload_n (pc := 13) hx hb d_M_leaf_13 rfl (lv_at hl 0 rfl) ?_
      refine z_get (pc := 14) (v := .ref (ad (35, 0, 0))) hF hK.1 hW tm1 rfl rfl in_M 41 (by decide) gw_925 rfl rfl d_M_leaf_14 ?_
      refine lv_iload_n (pc := 17) hx hb d_M_leaf_17 rfl (lv_at hl 1 rfl) ?_
      have b5 := hk.1
      have hk := hk.2
      refine z_lald (pc := 18) (v := S.2.1 35 0 0 l1.toNatClampNeg) hF hK.1 hW tm35 1 rfl rfl b5 rfl d_M_leaf_18 ?_
      obtain ⟨S7, eS7⟩ : ∃ z : St, z = f_M_add (S.2.1 35 0 0 l1.toNatClampNeg) S := ⟨_, rfl⟩
      have hk := lt_p eS7 hk
      have hr := lt_e eS7 hr
      refine z_goV (pc := 19) hW hA eS7 (z_runV hF hK hW (c_M_add l D X ad ca (S.2.1 35 0 0 l1.toNatClampNeg) S _) cd_M_add gw_861 tm1 rfl rfl ⟨Nat.le_of_ble_eq_true rfl, Nat.le_of_ble_eq_true rfl⟩ ⟨Nat.zero_le _, Nat.zero_le _⟩ rfl rfl hl.1 (Nat.le_of_ble_eq_true rfl) d_M_leaf_19) (fun H locs (hW : Wd D clM A s.heap (zw X ad TM (cfM ad ca) S7) H locs) => ?_)
      refine lv_iinc (pc := 22) (v := l1 + (1 : Int32)) (lv' := [(1, .int (l1 + (1 : Int32))), (0, .ref (ad (1, 0, 0)))]) (k := 1) hx hb d_M_leaf_22 hl rfl (z_inc (by decide)) (by decide) rfl (fun ls hl => ?_)
      refine lv_goto (pc := 25) (tgt := 6) hx hb d_M_leaf_25 (by decide) ?_
      exact ih S7 (l1 + (1 : Int32)) hk hr _ _ _ hW (lv_sub hl [1, 0] rfl)
def f_M_leaf  (S : St) : Int64 × St :=
  lt (f_M_start S) fun (S2 : St) =>
  f_M_leaf_6 200 S2 (0 : Int32)
def ok_M_leaf  (S : St) : Prop :=
  lt (f_M_start S) fun (S2 : St) =>
  ok_M_leaf_6 200 S2 (0 : Int32)
set_option maxHeartbeats 4000000 in
set_option maxRecDepth 100000 in
theorem c_M_leaf (l : Launch) (D : va_G) (X : va_W) (ad : N3 → Nat) (ca : Nat → ClassId)   (S : St) (hk : ok_M_leaf S) : cL l GG D clM (tysM ca) nwM X ad TM (cfM ad ca) y_M_leaf b_M_leaf 2 .long 1 22 [.ref (ad (1, 0, 0))] S (f_M_leaf S) := by
  generalize hr : f_M_leaf S = res
  refine zL_of pn_M (Nat.le_of_ble_eq_true rfl) (fun p e s m below meth c A ls hy hW hA hl => ?_)
  have hF := hy.1
  have hx := hF.1
  have hb := hF.2.1
  have hK := hy.2.2.2
  have hl : lv_has ls 2 [(0, .ref (ad (1, 0, 0)))] := hl
  refine lv_aload_n (pc := 0) hx hb d_M_leaf_0 rfl (lv_at hl 0 rfl) ?_
  obtain ⟨S2, eS2⟩ : ∃ z : St, z = f_M_start S := ⟨_, rfl⟩
  have hk := lt_p eS2 hk
  have hr := lt_e eS2 hr
  refine z_goV (pc := 1) hW hA eS2 (z_runV hF hK hW (c_M_start l D X ad ca S _) cd_M_start gw_856 tm1 rfl rfl ⟨Nat.le_of_ble_eq_true rfl, Nat.le_of_ble_eq_true rfl⟩ ⟨Nat.zero_le _, Nat.zero_le _⟩ rfl rfl hl.1 (Nat.le_of_ble_eq_true rfl) d_M_leaf_1) (fun H locs (hW : Wd D clM A s.heap (zw X ad TM (cfM ad ca) S2) H locs) => ?_)
  refine lv_iconst (pc := 4) (v := 0) hx hb d_M_leaf_4 (by decide) ?_
  refine lv_istore_n (pc := 5) (lv' := [(1, .int (0 : Int32)), (0, .ref (ad (1, 0, 0)))]) hx hb d_M_leaf_5 rfl hl (by decide) rfl (fun ls hl => ?_)
  exact w_M_leaf_6  hy hA 200 S2 (0 : Int32) hk hr _ _ _ hW (lv_sub hl [1, 0] rfl)
theorem d_M_digitsOf_0 : decode b_M_digitsOf 0 = .ok (.aload_n 0, 1) := by decide +kernel
theorem d_M_digitsOf_1 : decode b_M_digitsOf 1 = .ok (.invokevirtual 153, 3) := by decide +kernel
theorem d_M_digitsOf_4 : decode b_M_digitsOf 4 = .ok (.aload_n 0, 1) := by decide +kernel
theorem d_M_digitsOf_5 : decode b_M_digitsOf 5 = .ok (.lload_n 1, 1) := by decide +kernel
theorem d_M_digitsOf_6 : decode b_M_digitsOf 6 = .ok (.invokevirtual 156, 3) := by decide +kernel
theorem d_M_digitsOf_9 : decode b_M_digitsOf 9 = .ok (.aload_n 0, 1) := by decide +kernel
theorem d_M_digitsOf_10 : decode b_M_digitsOf 10 = .ok (.invokevirtual 160, 3) := by decide +kernel
theorem d_M_digitsOf_13 : decode b_M_digitsOf 13 = .ok (.lstore_n 3, 1) := by decide +kernel
theorem d_M_digitsOf_14 : decode b_M_digitsOf 14 = .ok (.bipush 60, 2) := by decide +kernel
theorem d_M_digitsOf_16 : decode b_M_digitsOf 16 = .ok (.istore 5, 2) := by decide +kernel
theorem d_M_digitsOf_18 : decode b_M_digitsOf 18 = .ok (.iconst 0, 1) := by decide +kernel
theorem d_M_digitsOf_19 : decode b_M_digitsOf 19 = .ok (.istore 6, 2) := by decide +kernel
theorem d_M_digitsOf_21 : decode b_M_digitsOf 21 = .ok (.iload 6, 2) := by decide +kernel
theorem d_M_digitsOf_23 : decode b_M_digitsOf 23 = .ok (.iconst 4, 1) := by decide +kernel
theorem d_M_digitsOf_24 : decode b_M_digitsOf 24 = .ok (.if_icmp .ge 39, 3) := by decide +kernel
theorem d_M_digitsOf_27 : decode b_M_digitsOf 27 = .ok (.aload_n 0, 1) := by decide +kernel
theorem d_M_digitsOf_28 : decode b_M_digitsOf 28 = .ok (.getfield 118, 3) := by decide +kernel
theorem d_M_digitsOf_31 : decode b_M_digitsOf 31 = .ok (.iload 6, 2) := by decide +kernel
theorem d_M_digitsOf_33 : decode b_M_digitsOf 33 = .ok (.lload_n 3, 1) := by decide +kernel
theorem d_M_digitsOf_34 : decode b_M_digitsOf 34 = .ok (.iconst 4, 1) := by decide +kernel
theorem d_M_digitsOf_35 : decode b_M_digitsOf 35 = .ok (.iload 6, 2) := by decide +kernel
theorem d_M_digitsOf_37 : decode b_M_digitsOf 37 = .ok (.imul, 1) := by decide +kernel
theorem d_M_digitsOf_38 : decode b_M_digitsOf 38 = .ok (.lshr, 1) := by decide +kernel
theorem d_M_digitsOf_39 : decode b_M_digitsOf 39 = .ok (.ldc2_w 165, 3) := by decide +kernel
theorem d_M_digitsOf_42 : decode b_M_digitsOf 42 = .ok (.land, 1) := by decide +kernel
theorem d_M_digitsOf_43 : decode b_M_digitsOf 43 = .ok (.l2i, 1) := by decide +kernel
theorem d_M_digitsOf_44 : decode b_M_digitsOf 44 = .ok (.iastore, 1) := by decide +kernel
theorem d_M_digitsOf_45 : decode b_M_digitsOf 45 = .ok (.iload 5, 2) := by decide +kernel
theorem d_M_digitsOf_47 : decode b_M_digitsOf 47 = .ok (.aload_n 0, 1) := by decide +kernel
theorem d_M_digitsOf_48 : decode b_M_digitsOf 48 = .ok (.getfield 118, 3) := by decide +kernel
theorem d_M_digitsOf_51 : decode b_M_digitsOf 51 = .ok (.iload 6, 2) := by decide +kernel
theorem d_M_digitsOf_53 : decode b_M_digitsOf 53 = .ok (.iaload, 1) := by decide +kernel
theorem d_M_digitsOf_54 : decode b_M_digitsOf 54 = .ok (.isub, 1) := by decide +kernel
theorem d_M_digitsOf_55 : decode b_M_digitsOf 55 = .ok (.istore 5, 2) := by decide +kernel
theorem d_M_digitsOf_57 : decode b_M_digitsOf 57 = .ok (.iinc 6 1, 3) := by decide +kernel
theorem d_M_digitsOf_60 : decode b_M_digitsOf 60 = .ok (.goto (-39), 3) := by decide +kernel
theorem d_M_digitsOf_63 : decode b_M_digitsOf 63 = .ok (.aload_n 0, 1) := by decide +kernel
theorem d_M_digitsOf_64 : decode b_M_digitsOf 64 = .ok (.getfield 118, 3) := by decide +kernel
theorem d_M_digitsOf_67 : decode b_M_digitsOf 67 = .ok (.iconst 4, 1) := by decide +kernel
theorem d_M_digitsOf_68 : decode b_M_digitsOf 68 = .ok (.iload 5, 2) := by decide +kernel
theorem d_M_digitsOf_70 : decode b_M_digitsOf 70 = .ok (.bipush 16, 2) := by decide +kernel
theorem d_M_digitsOf_72 : decode b_M_digitsOf 72 = .ok (.irem, 1) := by decide +kernel
theorem d_M_digitsOf_73 : decode b_M_digitsOf 73 = .ok (.iastore, 1) := by decide +kernel
theorem d_M_digitsOf_74 : decode b_M_digitsOf 74 = .ok (.aload_n 0, 1) := by decide +kernel
theorem d_M_digitsOf_75 : decode b_M_digitsOf 75 = .ok (.getfield 118, 3) := by decide +kernel
theorem d_M_digitsOf_78 : decode b_M_digitsOf 78 = .ok (.iconst 5, 1) := by decide +kernel
theorem d_M_digitsOf_79 : decode b_M_digitsOf 79 = .ok (.iload 5, 2) := by decide +kernel
theorem d_M_digitsOf_81 : decode b_M_digitsOf 81 = .ok (.bipush 16, 2) := by decide +kernel
theorem d_M_digitsOf_83 : decode b_M_digitsOf 83 = .ok (.idiv, 1) := by decide +kernel
theorem d_M_digitsOf_84 : decode b_M_digitsOf 84 = .ok (.iastore, 1) := by decide +kernel
theorem d_M_digitsOf_85 : decode b_M_digitsOf 85 = .ok (.return_, 1) := by decide +kernel
def f_M_digitsOf_21 (a1 : Int64) : Nat → St → Int64 → Int32 → Int32 → St
  | 0, S, _, _, _ => S
  | n + 1, S, l3, l5, l6 =>
    if (4 : Int32) ≤ l6 then
      lt (si S 36 0 0 4 (l5 - l5 / (16 : Int32) * (16 : Int32))) fun (S8 : St) =>
      lt (si S8 36 0 0 5 (l5 / (16 : Int32))) fun (S10 : St) =>
      S10
    else
      lt (si S 36 0 0 (l6.toNatClampNeg) (((l3 >>> (((4 : Int32) * l6).toInt64 &&& 63)) &&& (15 : Int64)).toInt32)) fun (S12 : St) =>
      f_M_digitsOf_21 a1 n S12 l3 (l5 - (S12.1 36 0 0 l6.toNatClampNeg)) (l6 + (1 : Int32))
def ok_M_digitsOf_21 (a1 : Int64) : Nat → St → Int64 → Int32 → Int32 → Prop
  | 0, _, _, _, _ => False
  | n + 1, S, l3, l5, l6 =>
    ((4 : Int32) ≤ l6 → (
      True)) ∧ (¬ ((4 : Int32) ≤ l6) → (
      (vp_in l6 6) ∧ (
        lt (si S 36 0 0 (l6.toNatClampNeg) (((l3 >>> (((4 : Int32) * l6).toInt64 &&& 63)) &&& (15 : Int64)).toInt32)) fun (S12 : St) =>
        (vp_in l6 6) ∧ (
          ok_M_digitsOf_21 a1 n S12 l3 (l5 - (S12.1 36 0 0 l6.toNatClampNeg)) (l6 + (1 : Int32))))))
set_option maxHeartbeats 4000000 in
set_option maxRecDepth 100000 in
theorem w_M_digitsOf_21 {l : Launch} {D : va_G} {X : va_W} {ad : N3 → Nat} {ca : Nat → ClassId} (a1 : Int64)  {p : Program} {e : Env} {s : State} {m : MethodId} {below : List Frame} {meth : Method} {c : Code} {A : Nat → Prop} (hy : Hy p s m ([.ref (ad (1, 0, 0)), .long a1] : List Value).toArray meth c b_M_digitsOf 7 none R_M GG D clM (tysM ca) nwM) (hA : ∀ q, s.heap.size ≤ q → A q) {res : St} : ∀ (n : Nat) (S : St) (l3 : Int64) (l5 : Int32) (l6 : Int32) , ok_M_digitsOf_21 a1 n S l3 l5 l6 → f_M_digitsOf_21 a1 n S l3 l5 l6 = res → ∀ (H : Heap) (locs : List Loc) (ls : Array Slot), Wd D clM A s.heap (zw X ad TM (cfM ad ca) S) H locs → lv_has ls 7 [(0, .ref (ad (1, 0, 0))), (3, .long l3), (5, .int l5), (6, .int l6)] → W p l e { frames := 1, cells := 0, slots := 0, locals := 22 } s m ([.ref (ad (1, 0, 0)), .long a1] : List Value).toArray below meth c H locs 0 0 (MQ below (eV D clM X ad TM (cfM ad ca) A res) ([.ref (ad (1, 0, 0)), .long a1] : List Value).toArray s 0 0 A) (F0 m 21 ls []) := by
  have hF := hy.1
  have hx := hF.1
  have hb := hF.2.1
  have hK := hy.2.2.2
  intro n
  induction n with
  | zero =>
    intro S l3 l5 l6 hk
    exact hk.elim
  | succ n ih =>
    intro S l3 l5 l6 hk hr H locs ls hW hl
    refine lv_iload (pc := 21) hx hb d_M_digitsOf_21 (lv_at hl 3 rfl) ?_
    refine lv_iconst (pc := 23) (v := 4) hx hb d_M_digitsOf_23 (by decide) ?_
    refine lv_icmp_ge (pc := 24) (tgt := 63) hx hb d_M_digitsOf_24 (by decide) (fun c6 => ?_) (fun c6 => ?_)
    · have hk := hk.1 c6
      have hr := (if_pos c6).symm.trans hr
      refine lv_aload_n (pc := 63) hx hb d_M_digitsOf_63 rfl (lv_at hl 0 rfl) ?_
      refine z_get (pc := 64) (v := .ref (ad (36, 0, 0))) hF hK.1 hW tm1 rfl rfl in_M 42 (by decide) gw_926 rfl rfl d_M_digitsOf_64 ?_
      refine lv_iconst (pc := 67) (v := 4) hx hb d_M_digitsOf_67 (by decide) ?_
      refine lv_iload (pc := 68) hx hb d_M_digitsOf_68 (lv_at hl 2 rfl) ?_
      refine lv_bipush (pc := 70) (v := 16) hx hb d_M_digitsOf_70 (by decide) ?_
      refine lv_irem (pc := 72) hx hb d_M_digitsOf_72 (by decide) ?_
      have b7 : vp_in (4 : Int32) 6 := by unfold vp_in; decide
      obtain ⟨S8, eS8⟩ : ∃ z : St, z = si S 36 0 0 4 (l5 - l5 / (16 : Int32) * (16 : Int32)) := ⟨_, rfl⟩
      have hr := lt_e eS8 hr
      refine z_iast (pc := 73) (S' := S8) hF hK.1 hW tm36 0 rfl rfl b7 (zs_si eS8 rfl) (zs_sio eS8) d_M_digitsOf_73 (fun H locs (hW : Wd D clM A s.heap (zw X ad TM (cfM ad ca) S8) H locs) => ?_)
      refine lv_aload_n (pc := 74) hx hb d_M_digitsOf_74 rfl (lv_at hl 0 rfl) ?_
      refine z_get (pc := 75) (v := .ref (ad (36, 0, 0))) hF hK.1 hW tm1 rfl rfl in_M 42 (by decide) gw_926 rfl rfl d_M_digitsOf_75 ?_
      refine lv_iconst (pc := 78) (v := 5) hx hb d_M_digitsOf_78 (by decide) ?_
      refine lv_iload (pc := 79) hx hb d_M_digitsOf_79 (lv_at hl 2 rfl) ?_
      refine lv_bipush (pc := 81) (v := 16) hx hb d_M_digitsOf_81 (by decide) ?_
      refine lv_idiv (pc := 83) hx hb d_M_digitsOf_83 (by decide) ?_
      have b9 : vp_in (5 : Int32) 6 := by unfold vp_in; decide
      obtain ⟨S10, eS10⟩ : ∃ z : St, z = si S8 36 0 0 5 (l5 / (16 : Int32)) := ⟨_, rfl⟩
      have hr := lt_e eS10 hr
      refine z_iast (pc := 84) (S' := S10) hF hK.1 hW tm36 0 rfl rfl b9 (zs_si eS10 rfl) (zs_sio eS10) d_M_digitsOf_84 (fun H locs (hW : Wd D clM A s.heap (zw X ad TM (cfM ad ca) S10) H locs) => ?_)
      exact z_vret hy hW hr.symm d_M_digitsOf_85
    · have hk := hk.2 c6
      have hr := (if_neg c6).symm.trans hr
      refine lv_aload_n (pc := 27) hx hb d_M_digitsOf_27 rfl (lv_at hl 0 rfl) ?_
      refine z_get (pc := 28) (v := .ref (ad (36, 0, 0))) hF hK.1 hW tm1 rfl rfl in_M 42 (by decide) gw_926 rfl rfl d_M_digitsOf_28 ?_
      refine lv_iload (pc := 31) hx hb d_M_digitsOf_31 (lv_at hl 3 rfl) ?_
      refine lv_lload_n (pc := 33) hx hb d_M_digitsOf_33 rfl (lv_at hl 1 rfl) ?_
      refine lv_iconst (pc := 34) (v := 4) hx hb d_M_digitsOf_34 (by decide) ?_
      refine lv_iload (pc := 35) hx hb d_M_digitsOf_35 (lv_at hl 3 rfl) ?_
      refine lv_imul (pc := 37) hx hb d_M_digitsOf_37 ?_
      refine lv_lshr (pc := 38) hx hb d_M_digitsOf_38 rfl ?_
      refine lv_ldc2 (pc := 39) hx hb hF.2.2.2.1 (hF.2.2.2.2 _ gw_1058) d_M_digitsOf_39 ?_
      refine lv_land (pc := 42) hx hb d_M_digitsOf_42 ?_
      refine lv_l2i (pc := 43) hx hb d_M_digitsOf_43 rfl ?_
      have b11 := hk.1
      have hk := hk.2
      obtain ⟨S12, eS12⟩ : ∃ z : St, z = si S 36 0 0 (l6.toNatClampNeg) (((l3 >>> (((4 : Int32) * l6).toInt64 &&& 63)) &&& (15 : Int64)).toInt32) := ⟨_, rfl⟩
      have hk := lt_p eS12 hk
      have hr := lt_e eS12 hr
      refine z_iast (pc := 44) (S' := S12) hF hK.1 hW tm36 0 rfl rfl b11 (zs_si eS12 rfl) (zs_sio eS12) d_M_digitsOf_44 (fun H locs (hW : Wd D clM A s.heap (zw X ad TM (cfM ad ca) S12) H locs) => ?_)
      refine lv_iload (pc := 45) hx hb d_M_digitsOf_45 (lv_at hl 2 rfl) ?_
      refine lv_aload_n (pc := 47) hx hb d_M_digitsOf_47 rfl (lv_at hl 0 rfl) ?_
      refine z_get (pc := 48) (v := .ref (ad (36, 0, 0))) hF hK.1 hW tm1 rfl rfl in_M 42 (by decide) gw_926 rfl rfl d_M_digitsOf_48 ?_
      refine lv_iload (pc := 51) hx hb d_M_digitsOf_51 (lv_at hl 3 rfl) ?_
      have b13 := hk.1
      have hk := hk.2
      refine z_iald (pc := 53) (v := S12.1 36 0 0 l6.toNatClampNeg) hF hK.1 hW tm36 0 rfl rfl b13 rfl d_M_digitsOf_53 ?_
      refine lv_isub (pc := 54) hx hb d_M_digitsOf_54 ?_
      refine lv_istore (pc := 55) (lv' := [(5, .int (l5 - (S12.1 36 0 0 l6.toNatClampNeg))), (0, .ref (ad (1, 0, 0))), (3, .long l3), (6, .int l6)]) hx hb d_M_digitsOf_55 hl (by decide) rfl (fun ls hl => ?_)
      refine lv_iinc (pc := 57) (v := l6 + (1 : Int32)) (lv' := [(6, .int (l6 + (1 : Int32))), (5, .int (l5 - (S12.1 36 0 0 l6.toNatClampNeg))), (0, .ref (ad (1, 0, 0))), (3, .long l3)]) (k := 3) hx hb d_M_digitsOf_57 hl rfl (z_inc (by decide)) (by decide) rfl (fun ls hl => ?_)
      refine lv_goto (pc := 60) (tgt := 21) hx hb d_M_digitsOf_60 (by decide) ?_
      exact ih S12 l3 (l5 - (S12.1 36 0 0 l6.toNatClampNeg)) (l6 + (1 : Int32)) hk hr _ _ _ hW (lv_sub hl [2, 3, 1, 0] rfl)
def f_M_digitsOf (a1 : Int64) (S : St) : St :=
  lt (f_M_start S) fun (S2 : St) =>
  lt (f_M_add a1 S2) fun (S4 : St) =>
  lt (f_M_end S4) fun (r5 : Int64) =>
  f_M_digitsOf_21 a1 200 S4 r5 (60 : Int32) (0 : Int32)
def ok_M_digitsOf (a1 : Int64) (S : St) : Prop :=
  lt (f_M_start S) fun (S2 : St) =>
  lt (f_M_add a1 S2) fun (S4 : St) =>
  lt (f_M_end S4) fun (r5 : Int64) =>
  ok_M_digitsOf_21 a1 200 S4 r5 (60 : Int32) (0 : Int32)
set_option maxHeartbeats 4000000 in
set_option maxRecDepth 100000 in
theorem c_M_digitsOf (l : Launch) (D : va_G) (X : va_W) (ad : N3 → Nat) (ca : Nat → ClassId) (a1 : Int64)  (S : St) (hk : ok_M_digitsOf a1 S) : cV l GG D clM (tysM ca) nwM X ad TM (cfM ad ca) y_M_digitsOf b_M_digitsOf 7 1 22 [.ref (ad (1, 0, 0)), .long a1] S (f_M_digitsOf a1 S) := by
  generalize hr : f_M_digitsOf a1 S = res
  refine zV_of pn_M (Nat.le_of_ble_eq_true rfl) (fun p e s m below meth c A ls hy hW hA hl => ?_)
  have hF := hy.1
  have hx := hF.1
  have hb := hF.2.1
  have hK := hy.2.2.2
  have hl : lv_has ls 7 [(0, .ref (ad (1, 0, 0))), (1, .long a1)] := hl
  refine lv_aload_n (pc := 0) hx hb d_M_digitsOf_0 rfl (lv_at hl 0 rfl) ?_
  obtain ⟨S2, eS2⟩ : ∃ z : St, z = f_M_start S := ⟨_, rfl⟩
  have hk := lt_p eS2 hk
  have hr := lt_e eS2 hr
  refine z_goV (pc := 1) hW hA eS2 (z_runV hF hK hW (c_M_start l D X ad ca S _) cd_M_start gw_856 tm1 rfl rfl ⟨Nat.le_of_ble_eq_true rfl, Nat.le_of_ble_eq_true rfl⟩ ⟨Nat.zero_le _, Nat.zero_le _⟩ rfl rfl hl.1 (Nat.le_of_ble_eq_true rfl) d_M_digitsOf_1) (fun H locs (hW : Wd D clM A s.heap (zw X ad TM (cfM ad ca) S2) H locs) => ?_)
  refine lv_aload_n (pc := 4) hx hb d_M_digitsOf_4 rfl (lv_at hl 0 rfl) ?_
  refine lv_lload_n (pc := 5) hx hb d_M_digitsOf_5 rfl (lv_at hl 1 rfl) ?_
  obtain ⟨S4, eS4⟩ : ∃ z : St, z = f_M_add a1 S2 := ⟨_, rfl⟩
  have hk := lt_p eS4 hk
  have hr := lt_e eS4 hr
  refine z_goV (pc := 6) hW hA eS4 (z_runV hF hK hW (c_M_add l D X ad ca a1 S2 _) cd_M_add gw_861 tm1 rfl rfl ⟨Nat.le_of_ble_eq_true rfl, Nat.le_of_ble_eq_true rfl⟩ ⟨Nat.zero_le _, Nat.zero_le _⟩ rfl rfl hl.1 (Nat.le_of_ble_eq_true rfl) d_M_digitsOf_6) (fun H locs (hW : Wd D clM A s.heap (zw X ad TM (cfM ad ca) S4) H locs) => ?_)
  refine lv_aload_n (pc := 9) hx hb d_M_digitsOf_9 rfl (lv_at hl 0 rfl) ?_
  obtain ⟨r5, er5⟩ : ∃ z : Int64, z = f_M_end S4 := ⟨_, rfl⟩
  have hk := lt_p er5 hk
  have hr := lt_e er5 hr
  refine p_go (pc := 10) (congrArg Value.long er5) (p_runV hF hK hW (c_M_end l D X ad ca S4 _) cd_M_end gw_866 tm1 rfl rfl ⟨Nat.le_of_ble_eq_true rfl, Nat.le_of_ble_eq_true rfl⟩ ⟨Nat.zero_le _, Nat.zero_le _⟩ rfl rfl hl.1 (Nat.le_of_ble_eq_true rfl) d_M_digitsOf_10) ?_
  refine lv_lstore_n (pc := 13) (lv' := [(3, .long r5), (0, .ref (ad (1, 0, 0))), (1, .long a1)]) hx hb d_M_digitsOf_13 rfl hl (by decide) rfl (fun ls hl => ?_)
  refine lv_bipush (pc := 14) (v := 60) hx hb d_M_digitsOf_14 (by decide) ?_
  refine lv_istore (pc := 16) (lv' := [(5, .int (60 : Int32)), (3, .long r5), (0, .ref (ad (1, 0, 0))), (1, .long a1)]) hx hb d_M_digitsOf_16 hl (by decide) rfl (fun ls hl => ?_)
  refine lv_iconst (pc := 18) (v := 0) hx hb d_M_digitsOf_18 (by decide) ?_
  refine lv_istore (pc := 19) (lv' := [(6, .int (0 : Int32)), (5, .int (60 : Int32)), (3, .long r5), (0, .ref (ad (1, 0, 0))), (1, .long a1)]) hx hb d_M_digitsOf_19 hl (by decide) rfl (fun ls hl => ?_)
  exact w_M_digitsOf_21 a1 hy hA 200 S4 r5 (60 : Int32) (0 : Int32) hk hr _ _ _ hW (lv_sub hl [3, 2, 1, 0] rfl)
