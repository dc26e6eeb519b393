theorem d_QC_writeSigned_0 : decode b_QC_writeSigned 0 = .ok (.aload_n 0, 1) := by decide +kernel
theorem d_QC_writeSigned_1 : decode b_QC_writeSigned 1 = .ok (.getfield 32, 3) := by decide +kernel
theorem d_QC_writeSigned_4 : decode b_QC_writeSigned 4 = .ok (.iload_n 2, 1) := by decide +kernel
theorem d_QC_writeSigned_5 : decode b_QC_writeSigned 5 = .ok (.aload_n 1, 1) := by decide +kernel
theorem d_QC_writeSigned_6 : decode b_QC_writeSigned 6 = .ok (.getfield 339, 3) := by decide +kernel
theorem d_QC_writeSigned_9 : decode b_QC_writeSigned 9 = .ok (.iload_n 3, 1) := by decide +kernel
theorem d_QC_writeSigned_10 : decode b_QC_writeSigned 10 = .ok (.iload 4, 2) := by decide +kernel
theorem d_QC_writeSigned_12 : decode b_QC_writeSigned 12 = .ok (.invokevirtual 393, 3) := by decide +kernel
theorem d_QC_writeSigned_15 : decode b_QC_writeSigned 15 = .ok (.aload_n 1, 1) := by decide +kernel
theorem d_QC_writeSigned_16 : decode b_QC_writeSigned 16 = .ok (.getfield 179, 3) := by decide +kernel
theorem d_QC_writeSigned_19 : decode b_QC_writeSigned 19 = .ok (.getfield 183, 3) := by decide +kernel
theorem d_QC_writeSigned_22 : decode b_QC_writeSigned 22 = .ok (.aload_n 0, 1) := by decide +kernel
theorem d_QC_writeSigned_23 : decode b_QC_writeSigned 23 = .ok (.getfield 32, 3) := by decide +kernel
theorem d_QC_writeSigned_26 : decode b_QC_writeSigned 26 = .ok (.invokevirtual 397, 3) := by decide +kernel
theorem d_QC_writeSigned_29 : decode b_QC_writeSigned 29 = .ok (.ireturn, 1) := by decide +kernel
def f_QC_writeSigned (i1 : Nat) (a2 : Int32) (a3 : Int32) (a4 : Int32) (S : St) : Int32 × St :=
  lt (f_Message_write 4 0 a2 (S.1 3 i1 0 0) a3 a4 S) fun (S2 : St) =>
  lt (f_KeyTree_sign i1 4 0 S2) fun (r4 : Int32 × St) =>
  (r4.1, r4.2)
def ok_QC_writeSigned (i1 : Nat) (a2 : Int32) (a3 : Int32) (a4 : Int32) (S : St) : Prop :=
  lt (f_Message_write 4 0 a2 (S.1 3 i1 0 0) a3 a4 S) fun (S2 : St) =>
  (ok_KeyTree_sign i1 4 0 S2) ∧ (
    lt (f_KeyTree_sign i1 4 0 S2) fun (r4 : Int32 × St) =>
    (narrow .boolean (.int r4.1) = .int r4.1) ∧ (
      True))
set_option maxHeartbeats 4000000 in
set_option maxRecDepth 100000 in
theorem c_QC_writeSigned (l : Launch) (D : va_G) (X : va_W) (ad : N3 → Nat) (ca : Nat → ClassId) (i1 : Nat) (a2 : Int32) (a3 : Int32) (a4 : Int32) (h1 : i1 < 4) (S : St) (hk : ok_QC_writeSigned i1 a2 a3 a4 S) : cI l GG D clQ (tysQ ca) nwQ X ad TQ (cfQ ad ca) y_QC_writeSigned b_QC_writeSigned 5 .boolean 3 74 [.ref (ad (1, 0, 0)), .ref (ad (3, i1, 0)), .int a2, .int a3, .int a4] S (f_QC_writeSigned i1 a2 a3 a4 S) := by
  generalize hr : f_QC_writeSigned i1 a2 a3 a4 S = res
  refine zI_of pn_QC (Nat.le_of_ble_eq_true rfl) (fun p e s m below meth c A ls hy hW hA hl => ?_)
  have hF := hy.1
  have hx := hF.1
  have hb := hF.2.1
  have hK := hy.2.2.2
  have hl : lv_has ls 5 [(0, .ref (ad (1, 0, 0))), (1, .ref (ad (3, i1, 0))), (2, .int a2), (3, .int a3), (4, .int a4)] := hl
  refine lv_aload_n (pc := 0) hx hb d_QC_writeSigned_0 rfl (lv_at hl 0 rfl) ?_
  refine z_get (pc := 1) (v := .ref (ad (14, 4, 0))) hF hK.1 hW tq1 rfl rfl in_QC 3 (by decide) gw_347 rfl rfl d_QC_writeSigned_1 ?_
  refine lv_iload_n (pc := 4) hx hb d_QC_writeSigned_4 rfl (lv_at hl 2 rfl) ?_
  refine lv_aload_n (pc := 5) hx hb d_QC_writeSigned_5 rfl (lv_at hl 1 rfl) ?_
  refine z_get (pc := 6) (v := .int (S.1 3 i1 0 0)) hF hK.1 hW (tq3 h1) rfl rfl in_Node 0 (by decide) gw_296 rfl rfl d_QC_writeSigned_6 ?_
  refine lv_iload_n (pc := 9) hx hb d_QC_writeSigned_9 rfl (lv_at hl 3 rfl) ?_
  refine lv_iload (pc := 10) hx hb d_QC_writeSigned_10 (lv_at hl 4 rfl) ?_
  obtain ⟨S2, eS2⟩ : ∃ z : St, z = f_Message_write 4 0 a2 (S.1 3 i1 0 0) a3 a4 S := ⟨_, rfl⟩
  have hk := lt_p eS2 hk
  have hr := lt_e eS2 hr
  refine z_goV (pc := 12) hW hA eS2 (z_runV hF hK hW (c_Message_write l D X ad ca 4 0 a2 (S.1 3 i1 0 0) a3 a4 inM_D S _) cd_Message_write gw_381 (tq14 inM_D) rfl rfl ⟨Nat.le_of_ble_eq_true rfl, Nat.le_of_ble_eq_true rfl⟩ ⟨Nat.zero_le _, Nat.zero_le _⟩ rfl rfl hl.1 (Nat.le_of_ble_eq_true rfl) d_QC_writeSigned_12) (fun H locs (hW : Wd D clQ A s.heap (zw X ad TQ (cfQ ad ca) S2) H locs) => ?_)
  refine lv_aload_n (pc := 15) hx hb d_QC_writeSigned_15 rfl (lv_at hl 1 rfl) ?_
  refine z_get (pc := 16) (v := .ref (ad (4, i1, 0))) hF hK.1 hW (tq3 h1) rfl rfl in_Node 1 (by decide) gw_298 rfl rfl d_QC_writeSigned_16 ?_
  refine z_get (pc := 19) (v := .ref (ad (10, i1, 0))) hF hK.1 hW (tq4 h1) rfl rfl in_Store 3 (by decide) gw_270 rfl rfl d_QC_writeSigned_19 ?_
  refine lv_aload_n (pc := 22) hx hb d_QC_writeSigned_22 rfl (lv_at hl 0 rfl) ?_
  refine z_get (pc := 23) (v := .ref (ad (14, 4, 0))) hF hK.1 hW tq1 rfl rfl in_QC 3 (by decide) gw_347 rfl rfl d_QC_writeSigned_23 ?_
  have o3 := hk.1
  have hk := hk.2
  obtain ⟨r4, er4⟩ : ∃ z : Int32 × St, z = f_KeyTree_sign i1 4 0 S2 := ⟨_, rfl⟩
  have hk := lt_p er4 hk
  have hr := lt_e er4 hr
  refine z_goI (pc := 26) hW hA (show (r4.1, r4.2) = _ from er4) (z_runV hF hK hW (c_KeyTree_sign l D X ad ca i1 4 0 h1 inM_D S2 o3 _) cd_KeyTree_sign gw_385 (tq10 h1) rfl rfl ⟨Nat.le_of_ble_eq_true rfl, Nat.le_of_ble_eq_true rfl⟩ ⟨Nat.zero_le _, Nat.zero_le _⟩ rfl rfl hl.1 (Nat.le_of_ble_eq_true rfl) d_QC_writeSigned_26) (fun H locs (hW : Wd D clQ A s.heap (zw X ad TQ (cfQ ad ca) r4.2) H locs) => ?_)
  exact z_zret (v := r4.1) hy hW hk.1 hr.symm d_QC_writeSigned_29
theorem d_Message_copyFrom_0 : decode b_Message_copyFrom 0 = .ok (.aload_n 0, 1) := by decide +kernel
theorem d_Message_copyFrom_1 : decode b_Message_copyFrom 1 = .ok (.aload_n 1, 1) := by decide +kernel
theorem d_Message_copyFrom_2 : decode b_Message_copyFrom 2 = .ok (.getfield 19, 3) := by decide +kernel
theorem d_Message_copyFrom_5 : decode b_Message_copyFrom 5 = .ok (.aload_n 1, 1) := by decide +kernel
theorem d_Message_copyFrom_6 : decode b_Message_copyFrom 6 = .ok (.getfield 22, 3) := by decide +kernel
theorem d_Message_copyFrom_9 : decode b_Message_copyFrom 9 = .ok (.aload_n 1, 1) := by decide +kernel
theorem d_Message_copyFrom_10 : decode b_Message_copyFrom 10 = .ok (.getfield 25, 3) := by decide +kernel
theorem d_Message_copyFrom_13 : decode b_Message_copyFrom 13 = .ok (.aload_n 1, 1) := by decide +kernel
theorem d_Message_copyFrom_14 : decode b_Message_copyFrom 14 = .ok (.getfield 28, 3) := by decide +kernel
theorem d_Message_copyFrom_17 : decode b_Message_copyFrom 17 = .ok (.invokevirtual 31, 3) := by decide +kernel
theorem d_Message_copyFrom_20 : decode b_Message_copyFrom 20 = .ok (.aload_n 0, 1) := by decide +kernel
theorem d_Message_copyFrom_21 : decode b_Message_copyFrom 21 = .ok (.aload_n 1, 1) := by decide +kernel
theorem d_Message_copyFrom_22 : decode b_Message_copyFrom 22 = .ok (.getfield 15, 3) := by decide +kernel
theorem d_Message_copyFrom_25 : decode b_Message_copyFrom 25 = .ok (.putfield 15, 3) := by decide +kernel
theorem d_Message_copyFrom_28 : decode b_Message_copyFrom 28 = .ok (.aload_n 1, 1) := by decide +kernel
theorem d_Message_copyFrom_29 : decode b_Message_copyFrom 29 = .ok (.getfield 9, 3) := by decide +kernel
theorem d_Message_copyFrom_32 : decode b_Message_copyFrom 32 = .ok (.iconst 0, 1) := by decide +kernel
theorem d_Message_copyFrom_33 : decode b_Message_copyFrom 33 = .ok (.aload_n 0, 1) := by decide +kernel
theorem d_Message_copyFrom_34 : decode b_Message_copyFrom 34 = .ok (.getfield 9, 3) := by decide +kernel
theorem d_Message_copyFrom_37 : decode b_Message_copyFrom 37 = .ok (.iconst 0, 1) := by decide +kernel
theorem d_Message_copyFrom_38 : decode b_Message_copyFrom 38 = .ok (.bipush 11, 2) := by decide +kernel
theorem d_Message_copyFrom_40 : decode b_Message_copyFrom 40 = .ok (.invokestatic 35, 3) := by decide +kernel
theorem d_Message_copyFrom_43 : decode b_Message_copyFrom 43 = .ok (.return_, 1) := by decide +kernel
def f_Message_copyFrom (i0 : Nat) (j0 : Nat) (i1 : Nat) (j1 : Nat) (S : St) : St :=
  lt (f_Message_write i0 j0 (S.1 14 i1 j1 1) (S.1 14 i1 j1 2) (S.1 14 i1 j1 3) (S.1 14 i1 j1 4) S) fun (S2 : St) =>
  lt (si S2 14 i0 j0 5 (S2.1 14 i1 j1 5)) fun (S3 : St) =>
  lt (wl S3 15 i0 j0 (va_cpy (S3.2.1 15 i1 j1) (S3.2.1 15 i0 j0) 0 0 11)) fun (S4 : St) =>
  S4
set_option maxHeartbeats 4000000 in
set_option maxRecDepth 100000 in
theorem c_Message_copyFrom (l : Launch) (D : va_G) (X : va_W) (ad : N3 → Nat) (ca : Nat → ClassId) (i0 : Nat) (j0 : Nat) (i1 : Nat) (j1 : Nat) (h0 : inM i0 j0) (h1 : inM i1 j1) (S : St) : cV l GG D clQ (tysQ ca) nwQ X ad TQ (cfQ ad ca) y_Message_copyFrom b_Message_copyFrom 2 1 80 [.ref (ad (14, i0, j0)), .ref (ad (14, i1, j1))] S (f_Message_copyFrom i0 j0 i1 j1 S) := by
  generalize hr : f_Message_copyFrom i0 j0 i1 j1 S = res
  refine zV_of pn_Message (Nat.le_of_ble_eq_true rfl) (fun p e s m below meth c A ls hy hW hA hl => ?_)
  have hF := hy.1
  have hx := hF.1
  have hb := hF.2.1
  have hK := hy.2.2.2
  have hl : lv_has ls 2 [(0, .ref (ad (14, i0, j0))), (1, .ref (ad (14, i1, j1)))] := hl
  refine lv_aload_n (pc := 0) hx hb d_Message_copyFrom_0 rfl (lv_at hl 0 rfl) ?_
  refine lv_aload_n (pc := 1) hx hb d_Message_copyFrom_1 rfl (lv_at hl 1 rfl) ?_
  refine z_get (pc := 2) (v := .int (S.1 14 i1 j1 1)) hF hK.1 hW (tq14 h1) rfl rfl in_Message 1 (by decide) gw_139 rfl rfl d_Message_copyFrom_2 ?_
  refine lv_aload_n (pc := 5) hx hb d_Message_copyFrom_5 rfl (lv_at hl 1 rfl) ?_
  refine z_get (pc := 6) (v := .int (S.1 14 i1 j1 2)) hF hK.1 hW (tq14 h1) rfl rfl in_Message 2 (by decide) gw_141 rfl rfl d_Message_copyFrom_6 ?_
  refine lv_aload_n (pc := 9) hx hb d_Message_copyFrom_9 rfl (lv_at hl 1 rfl) ?_
  refine z_get (pc := 10) (v := .int (S.1 14 i1 j1 3)) hF hK.1 hW (tq14 h1) rfl rfl in_Message 3 (by decide) gw_143 rfl rfl d_Message_copyFrom_10 ?_
  refine lv_aload_n (pc := 13) hx hb d_Message_copyFrom_13 rfl (lv_at hl 1 rfl) ?_
  refine z_get (pc := 14) (v := .int (S.1 14 i1 j1 4)) hF hK.1 hW (tq14 h1) rfl rfl in_Message 4 (by decide) gw_145 rfl rfl d_Message_copyFrom_14 ?_
  obtain ⟨S2, eS2⟩ : ∃ z : St, z = f_Message_write i0 j0 (S.1 14 i1 j1 1) (S.1 14 i1 j1 2) (S.1 14 i1 j1 3) (S.1 14 i1 j1 4) S := ⟨_, rfl⟩
  have hr := lt_e eS2 hr
  refine z_goV (pc := 17) hW hA eS2 (z_runV hF hK hW (c_Message_write l D X ad ca i0 j0 (S.1 14 i1 j1 1) (S.1 14 i1 j1 2) (S.1 14 i1 j1 3) (S.1 14 i1 j1 4) h0 S _) cd_Message_write gw_419 (tq14 h0) rfl rfl ⟨Nat.le_of_ble_eq_true rfl, Nat.le_of_ble_eq_true rfl⟩ ⟨Nat.zero_le _, Nat.zero_le _⟩ rfl rfl hl.1 (Nat.le_of_ble_eq_true rfl) d_Message_copyFrom_17) (fun H locs (hW : Wd D clQ A s.heap (zw X ad TQ (cfQ ad ca) S2) H locs) => ?_)
  refine lv_aload_n (pc := 20) hx hb d_Message_copyFrom_20 rfl (lv_at hl 0 rfl) ?_
  refine lv_aload_n (pc := 21) hx hb d_Message_copyFrom_21 rfl (lv_at hl 1 rfl) ?_
  refine z_get (pc := 22) (v := .int (S2.1 14 i1 j1 5)) hF hK.1 hW (tq14 h1) rfl rfl in_Message 5 (by decide) gw_147 rfl rfl d_Message_copyFrom_22 ?_
  obtain ⟨S3, eS3⟩ : ∃ z : St, z = si S2 14 i0 j0 5 (S2.1 14 i1 j1 5) := ⟨_, rfl⟩
  have hr := lt_e eS3 hr
  refine z_put (pc := 25) (S' := S3) hF hK.1 hW (tq14 h0) rfl rfl in_Message t_Message tyo_Message nmo_Message 5 (by decide) gw_147 rfl rfl rfl rfl rfl (Nat.le_of_ble_eq_true rfl) (zs_si eS3 rfl) (zs_sio eS3) d_Message_copyFrom_25 (fun H locs (hW : Wd D clQ A s.heap (zw X ad TQ (cfQ ad ca) S3) H locs) => ?_)
  refine lv_aload_n (pc := 28) hx hb d_Message_copyFrom_28 rfl (lv_at hl 1 rfl) ?_
  refine z_get (pc := 29) (v := .ref (ad (15, i1, j1))) hF hK.1 hW (tq14 h1) rfl rfl in_Message 0 (by decide) gw_136 rfl rfl d_Message_copyFrom_29 ?_
  refine lv_iconst (pc := 32) (v := 0) hx hb d_Message_copyFrom_32 (by decide) ?_
  refine lv_aload_n (pc := 33) hx hb d_Message_copyFrom_33 rfl (lv_at hl 0 rfl) ?_
  refine z_get (pc := 34) (v := .ref (ad (15, i0, j0))) hF hK.1 hW (tq14 h0) rfl rfl in_Message 0 (by decide) gw_136 rfl rfl d_Message_copyFrom_34 ?_
  refine lv_iconst (pc := 37) (v := 0) hx hb d_Message_copyFrom_37 (by decide) ?_
  refine lv_bipush (pc := 38) (v := 11) hx hb d_Message_copyFrom_38 (by decide) ?_
  obtain ⟨S4, eS4⟩ : ∃ z : St, z = wl S3 15 i0 j0 (va_cpy (S3.2.1 15 i1 j1) (S3.2.1 15 i0 j0) 0 0 11) := ⟨_, rfl⟩
  have hr := lt_e eS4 hr
  refine z_copyl (pc := 40) (S' := S4) hF hK.1 hW hl.1 (tq15 h1) (tq15 h0) 1 gw_420 gw_422 gw_421 gw_69 rfl rfl rfl rfl (by decide) (by decide) (by decide) (by decide) (by decide) (Nat.le_of_ble_eq_true rfl) (Nat.le_of_ble_eq_true rfl) (zs_sl eS4 rfl) (zs_slo eS4) d_Message_copyFrom_40 (fun H locs (hW : Wd D clQ A s.heap (zw X ad TQ (cfQ ad ca) S4) H locs) => ?_)
  exact z_vret hy hW hr.symm d_Message_copyFrom_43
theorem d_Inbox_add_0 : decode b_Inbox_add 0 = .ok (.aload_n 0, 1) := by decide +kernel
theorem d_Inbox_add_1 : decode b_Inbox_add 1 = .ok (.getfield 18, 3) := by decide +kernel
theorem d_Inbox_add_4 : decode b_Inbox_add 4 = .ok (.bipush 16, 2) := by decide +kernel
theorem d_Inbox_add_6 : decode b_Inbox_add 6 = .ok (.if_icmp .ge 26, 3) := by decide +kernel
theorem d_Inbox_add_9 : decode b_Inbox_add 9 = .ok (.aload_n 0, 1) := by decide +kernel
theorem d_Inbox_add_10 : decode b_Inbox_add 10 = .ok (.getfield 11, 3) := by decide +kernel
theorem d_Inbox_add_13 : decode b_Inbox_add 13 = .ok (.aload_n 0, 1) := by decide +kernel
theorem d_Inbox_add_14 : decode b_Inbox_add 14 = .ok (.getfield 18, 3) := by decide +kernel
theorem d_Inbox_add_17 : decode b_Inbox_add 17 = .ok (.aaload, 1) := by decide +kernel
theorem d_Inbox_add_18 : decode b_Inbox_add 18 = .ok (.aload_n 1, 1) := by decide +kernel
theorem d_Inbox_add_19 : decode b_Inbox_add 19 = .ok (.invokevirtual 22, 3) := by decide +kernel
theorem d_Inbox_add_22 : decode b_Inbox_add 22 = .ok (.aload_n 0, 1) := by decide +kernel
theorem d_Inbox_add_23 : decode b_Inbox_add 23 = .ok (.dup, 1) := by decide +kernel
theorem d_Inbox_add_24 : decode b_Inbox_add 24 = .ok (.getfield 18, 3) := by decide +kernel
theorem d_Inbox_add_27 : decode b_Inbox_add 27 = .ok (.iconst 1, 1) := by decide +kernel
theorem d_Inbox_add_28 : decode b_Inbox_add 28 = .ok (.iadd, 1) := by decide +kernel
theorem d_Inbox_add_29 : decode b_Inbox_add 29 = .ok (.putfield 18, 3) := by decide +kernel
theorem d_Inbox_add_32 : decode b_Inbox_add 32 = .ok (.return_, 1) := by decide +kernel
def f_Inbox_add (i0 : Nat) (i1 : Nat) (j1 : Nat) (S : St) : St :=
  if (16 : Int32) ≤ (S.1 12 i0 0 1) then
    S
  else
    lt (f_Message_copyFrom i0 (S.2.2 13 i0 0 ((S.1 12 i0 0 1).toNatClampNeg)) i1 j1 S) fun (S5 : St) =>
    lt (si S5 12 i0 0 1 ((S5.1 12 i0 0 1) + (1 : Int32))) fun (S6 : St) =>
    S6
def ok_Inbox_add (i0 : Nat) (i1 : Nat) (j1 : Nat) (S : St) : Prop :=
  ((16 : Int32) ≤ (S.1 12 i0 0 1) → (
    True)) ∧ (¬ ((16 : Int32) ≤ (S.1 12 i0 0 1)) → (
    (vp_in (S.1 12 i0 0 1) 16) ∧ (
      ((S.2.2 13 i0 0 ((S.1 12 i0 0 1).toNatClampNeg)) < 16) ∧ (
        True))))
set_option maxHeartbeats 4000000 in
set_option maxRecDepth 100000 in
theorem c_Inbox_add (l : Launch) (D : va_G) (X : va_W) (ad : N3 → Nat) (ca : Nat → ClassId) (i0 : Nat) (i1 : Nat) (j1 : Nat) (h0 : i0 < 4) (h1 : inM i1 j1) (S : St) (hk : ok_Inbox_add i0 i1 j1 S) : cV l GG D clQ (tysQ ca) nwQ X ad TQ (cfQ ad ca) y_Inbox_add b_Inbox_add 2 2 101 [.ref (ad (12, i0, 0)), .ref (ad (14, i1, j1))] S (f_Inbox_add i0 i1 j1 S) := by
  generalize hr : f_Inbox_add i0 i1 j1 S = res
  refine zV_of pn_Inbox (Nat.le_of_ble_eq_true rfl) (fun p e s m below meth c A ls hy hW hA hl => ?_)
  have hF := hy.1
  have hx := hF.1
  have hb := hF.2.1
  have hK := hy.2.2.2
  have hl : lv_has ls 2 [(0, .ref (ad (12, i0, 0))), (1, .ref (ad (14, i1, j1)))] := hl
  refine lv_aload_n (pc := 0) hx hb d_Inbox_add_0 rfl (lv_at hl 0 rfl) ?_
  refine z_get (pc := 1) (v := .int (S.1 12 i0 0 1)) hF hK.1 hW (tq12 h0) rfl rfl in_Inbox 1 (by decide) gw_180 rfl rfl d_Inbox_add_1 ?_
  refine lv_bipush (pc := 4) (v := 16) hx hb d_Inbox_add_4 (by decide) ?_
  refine lv_icmp_ge (pc := 6) (tgt := 32) hx hb d_Inbox_add_6 (by decide) (fun c1 => ?_) (fun c1 => ?_)
  · have hk := hk.1 c1
    have hr := (if_pos c1).symm.trans hr
    exact z_vret hy hW hr.symm d_Inbox_add_32
  · have hk := hk.2 c1
    have hr := (if_neg c1).symm.trans hr
    refine lv_aload_n (pc := 9) hx hb d_Inbox_add_9 rfl (lv_at hl 0 rfl) ?_
    refine z_get (pc := 10) (v := .ref (ad (13, i0, 0))) hF hK.1 hW (tq12 h0) rfl rfl in_Inbox 0 (by decide) gw_178 rfl rfl d_Inbox_add_10 ?_
    refine lv_aload_n (pc := 13) hx hb d_Inbox_add_13 rfl (lv_at hl 0 rfl) ?_
    refine z_get (pc := 14) (v := .int (S.1 12 i0 0 1)) hF hK.1 hW (tq12 h0) rfl rfl in_Inbox 1 (by decide) gw_180 rfl rfl d_Inbox_add_14 ?_
    have b2 := hk.1
    have hk := hk.2
    have b3 := hk.1
    have hk := hk.2
    refine z_aald (pc := 17) (q := ad (14, i0, (S.2.2 13 i0 0 ((S.1 12 i0 0 1).toNatClampNeg)))) hF hK.1 hW (tq13 h0) 4 rfl rfl b2 rfl d_Inbox_add_17 ?_
    refine lv_aload_n (pc := 18) hx hb d_Inbox_add_18 rfl (lv_at hl 1 rfl) ?_
    obtain ⟨S5, eS5⟩ : ∃ z : St, z = f_Message_copyFrom i0 (S.2.2 13 i0 0 ((S.1 12 i0 0 1).toNatClampNeg)) i1 j1 S := ⟨_, rfl⟩
    have hr := lt_e eS5 hr
    refine z_goV (pc := 19) hW hA eS5 (z_runV hF hK hW (c_Message_copyFrom l D X ad ca i0 (S.2.2 13 i0 0 ((S.1 12 i0 0 1).toNatClampNeg)) i1 j1 (Or.inl ⟨h0, b3⟩) h1 S _) cd_Message_copyFrom gw_415 (tq14 (Or.inl ⟨h0, b3⟩)) rfl rfl ⟨Nat.le_of_ble_eq_true rfl, Nat.le_of_ble_eq_true rfl⟩ ⟨Nat.zero_le _, Nat.zero_le _⟩ rfl rfl hl.1 (Nat.le_of_ble_eq_true rfl) d_Inbox_add_19) (fun H locs (hW : Wd D clQ A s.heap (zw X ad TQ (cfQ ad ca) S5) H locs) => ?_)
    refine lv_aload_n (pc := 22) hx hb d_Inbox_add_22 rfl (lv_at hl 0 rfl) ?_
    refine lv_dup (pc := 23) hx hb d_Inbox_add_23 rfl ?_
    refine z_get (pc := 24) (v := .int (S5.1 12 i0 0 1)) hF hK.1 hW (tq12 h0) rfl rfl in_Inbox 1 (by decide) gw_180 rfl rfl d_Inbox_add_24 ?_
    refine lv_iconst (pc := 27) (v := 1) hx hb d_Inbox_add_27 (by decide) ?_
    refine lv_iadd (pc := 28) hx hb d_Inbox_add_28 ?_
    obtain ⟨S6, eS6⟩ : ∃ z : St, z = si S5 12 i0 0 1 ((S5.1 12 i0 0 1) + (1 : Int32)) := ⟨_, rfl⟩
    have hr := lt_e eS6 hr
    refine z_put (pc := 29) (S' := S6) hF hK.1 hW (tq12 h0) rfl rfl in_Inbox t_Inbox tyo_Inbox nmo_Inbox 1 (by decide) gw_180 rfl rfl rfl rfl rfl (Nat.le_of_ble_eq_true rfl) (zs_si eS6 rfl) (zs_sio eS6) d_Inbox_add_29 (fun H locs (hW : Wd D clQ A s.heap (zw X ad TQ (cfQ ad ca) S6) H locs) => ?_)
    exact z_vret hy hW hr.symm d_Inbox_add_32
theorem d_QC_sendDraftToAll_0 : decode b_QC_sendDraftToAll 0 = .ok (.iconst 0, 1) := by decide +kernel
theorem d_QC_sendDraftToAll_1 : decode b_QC_sendDraftToAll 1 = .ok (.istore_n 1, 1) := by decide +kernel
theorem d_QC_sendDraftToAll_2 : decode b_QC_sendDraftToAll 2 = .ok (.iload_n 1, 1) := by decide +kernel
theorem d_QC_sendDraftToAll_3 : decode b_QC_sendDraftToAll 3 = .ok (.iconst 4, 1) := by decide +kernel
theorem d_QC_sendDraftToAll_4 : decode b_QC_sendDraftToAll 4 = .ok (.if_icmp .ge 25, 3) := by decide +kernel
theorem d_QC_sendDraftToAll_7 : decode b_QC_sendDraftToAll 7 = .ok (.aload_n 0, 1) := by decide +kernel
theorem d_QC_sendDraftToAll_8 : decode b_QC_sendDraftToAll 8 = .ok (.getfield 11, 3) := by decide +kernel
theorem d_QC_sendDraftToAll_11 : decode b_QC_sendDraftToAll 11 = .ok (.iload_n 1, 1) := by decide +kernel
theorem d_QC_sendDraftToAll_12 : decode b_QC_sendDraftToAll 12 = .ok (.aaload, 1) := by decide +kernel
theorem d_QC_sendDraftToAll_13 : decode b_QC_sendDraftToAll 13 = .ok (.getfield 99, 3) := by decide +kernel
theorem d_QC_sendDraftToAll_16 : decode b_QC_sendDraftToAll 16 = .ok (.aload_n 0, 1) := by decide +kernel
theorem d_QC_sendDraftToAll_17 : decode b_QC_sendDraftToAll 17 = .ok (.getfield 32, 3) := by decide +kernel
theorem d_QC_sendDraftToAll_20 : decode b_QC_sendDraftToAll 20 = .ok (.invokevirtual 157, 3) := by decide +kernel
theorem d_QC_sendDraftToAll_23 : decode b_QC_sendDraftToAll 23 = .ok (.iinc 1 1, 3) := by decide +kernel
theorem d_QC_sendDraftToAll_26 : decode b_QC_sendDraftToAll 26 = .ok (.goto (-24), 3) := by decide +kernel
theorem d_QC_sendDraftToAll_29 : decode b_QC_sendDraftToAll 29 = .ok (.return_, 1) := by decide +kernel
def f_QC_sendDraftToAll_2  : Nat → St → Int32 → St
  | 0, S, _ => S
  | n + 1, S, l1 =>
    if (4 : Int32) ≤ l1 then
      S
    else
      lt (f_Inbox_add (l1.toNatClampNeg) 4 0 S) fun (S5 : St) =>
      f_QC_sendDraftToAll_2 n S5 (l1 + (1 : Int32))
def ok_QC_sendDraftToAll_2  : Nat → St → Int32 → Prop
  | 0, _, _ => False
  | n + 1, S, l1 =>
    ((4 : Int32) ≤ l1 → (
      True)) ∧ (¬ ((4 : Int32) ≤ l1) → (
      (vp_in l1 4) ∧ (
        (ok_Inbox_add (l1.toNatClampNeg) 4 0 S) ∧ (
          lt (f_Inbox_add (l1.toNatClampNeg) 4 0 S) fun (S5 : St) =>
          ok_QC_sendDraftToAll_2 n S5 (l1 + (1 : Int32))))))
set_option maxHeartbeats 4000000 in
set_option maxRecDepth 100000 in
theorem w_QC_sendDraftToAll_2 {l : Launch} {D : va_G} {X : va_W} {ad : N3 → Nat} {ca : Nat → ClassId}   {p : Program} {e : Env} {s : State} {m : MethodId} {below : List Frame} {meth : Method} {c : Code} {A : Nat → Prop} (hy : Hy p s m ([.ref (ad (1, 0, 0))] : List Value).toArray meth c b_QC_sendDraftToAll 2 none R_QC GG D clQ (tysQ ca) nwQ) (hA : ∀ q, s.heap.size ≤ q → A q) {res : St} : ∀ (n : Nat) (S : St) (l1 : Int32) , ok_QC_sendDraftToAll_2 n S l1 → f_QC_sendDraftToAll_2 n S l1 = res → ∀ (H : Heap) (locs : List Loc) (ls : Array Slot), Wd D clQ A s.heap (zw X ad TQ (cfQ ad ca) S) H locs → lv_has ls 2 [(0, .ref (ad (1, 0, 0))), (1, .int l1)] → W p l e { frames := 3, cells := 0, slots := 0, locals := 122 } s m ([.ref (ad (1, 0, 0))] : List Value).toArray below meth c H locs 0 0 (MQ below (eV D clQ X ad TQ (cfQ ad ca) A res) ([.ref (ad (1, 0, 0))] : List Value).toArray s 0 0 A) (F0 m 2 ls []) := by
  have hF := hy.1
  have hx := hF.1
  have hb := hF.2.1
  have hK := hy.2.2.2
  intro n
  induction n with
  | zero =>
    intro S l1 hk
    exact hk.elim
  | succ n ih =>
    intro S l1 hk hr H locs ls hW hl
    refine lv_iload_n (pc := 2) hx hb d_QC_sendDraftToAll_2 rfl (lv_at hl 1 rfl) ?_
    refine lv_iconst (pc := 3) (v := 4) hx hb d_QC_sendDraftToAll_3 (by decide) ?_
    refine lv_icmp_ge (pc := 4) (tgt := 29) hx hb d_QC_sendDraftToAll_4 (by decide) (fun c1 => ?_) (fun c1 => ?_)
    · have hk := hk.1 c1
      have hr := (if_pos c1).symm.trans hr
      exact z_vret hy hW hr.symm d_QC_sendDraftToAll_29
    · have hk := hk.2 c1
      have hr := (if_neg c1).symm.trans hr
      refine lv_aload_n (pc := 7) hx hb d_QC_sendDraftToAll_7 rfl (lv_at hl 0 rfl) ?_
      refine z_get (pc := 8) (v := .ref (ad (2, 0, 0))) hF hK.1 hW tq1 rfl rfl in_QC 0 (by decide) gw_344 rfl rfl d_QC_sendDraftToAll_8 ?_
      refine lv_iload_n (pc := 11) hx hb d_QC_sendDraftToAll_11 rfl (lv_at hl 1 rfl) ?_
      have b2 := hk.1
      have hk := hk.2
      refine z_aald (pc := 12) (q := ad (3, (l1.toNatClampNeg), 0)) hF hK.1 hW tq2 3 rfl rfl b2 rfl d_QC_sendDraftToAll_12 ?_
      refine z_get (pc := 13) (v := .ref (ad (12, (l1.toNatClampNeg), 0))) hF hK.1 hW (tq3 (vin4 b2)) rfl rfl in_Node 2 (by decide) gw_300 rfl rfl d_QC_sendDraftToAll_13 ?_
      refine lv_aload_n (pc := 16) hx hb d_QC_sendDraftToAll_16 rfl (lv_at hl 0 rfl) ?_
      refine z_get (pc := 17) (v := .ref (ad (14, 4, 0))) hF hK.1 hW tq1 rfl rfl in_QC 3 (by decide) gw_347 rfl rfl d_QC_sendDraftToAll_17 ?_
      have o3 := hk.1
      have hk := hk.2
      obtain ⟨S5, eS5⟩ : ∃ z : St, z = f_Inbox_add (l1.toNatClampNeg) 4 0 S := ⟨_, rfl⟩
      have hk := lt_p eS5 hk
      have hr := lt_e eS5 hr
      refine z_goV (pc := 20) hW hA eS5 (z_runV hF hK hW (c_Inbox_add l D X ad ca (l1.toNatClampNeg) 4 0 (vin4 b2) inM_D S o3 _) cd_Inbox_add gw_411 (tq12 (vin4 b2)) rfl rfl ⟨Nat.le_of_ble_eq_true rfl, Nat.le_of_ble_eq_true rfl⟩ ⟨Nat.zero_le _, Nat.zero_le _⟩ rfl rfl hl.1 (Nat.le_of_ble_eq_true rfl) d_QC_sendDraftToAll_20) (fun H locs (hW : Wd D clQ A s.heap (zw X ad TQ (cfQ ad ca) S5) H locs) => ?_)
      refine lv_iinc (pc := 23) (v := l1 + (1 : Int32)) (lv' := [(1, .int (l1 + (1 : Int32))), (0, .ref (ad (1, 0, 0)))]) (k := 1) hx hb d_QC_sendDraftToAll_23 hl rfl (z_inc (by decide)) (by decide) rfl (fun ls hl => ?_)
      refine lv_goto (pc := 26) (tgt := 2) hx hb d_QC_sendDraftToAll_26 (by decide) ?_
      exact ih S5 (l1 + (1 : Int32)) hk hr _ _ _ hW (lv_sub hl [1, 0] rfl)
def f_QC_sendDraftToAll  (S : St) : St :=
  f_QC_sendDraftToAll_2 200 S (0 : Int32)
def ok_QC_sendDraftToAll  (S : St) : Prop :=
  ok_QC_sendDraftToAll_2 200 S (0 : Int32)
set_option maxHeartbeats 4000000 in
set_option maxRecDepth 100000 in
theorem c_QC_sendDraftToAll (l : Launch) (D : va_G) (X : va_W) (ad : N3 → Nat) (ca : Nat → ClassId)   (S : St) (hk : ok_QC_sendDraftToAll S) : cV l GG D clQ (tysQ ca) nwQ X ad TQ (cfQ ad ca) y_QC_sendDraftToAll b_QC_sendDraftToAll 2 3 122 [.ref (ad (1, 0, 0))] S (f_QC_sendDraftToAll S) := by
  generalize hr : f_QC_sendDraftToAll S = res
  refine zV_of pn_QC (Nat.le_of_ble_eq_true rfl) (fun p e s m below meth c A ls hy hW hA hl => ?_)
  have hF := hy.1
  have hx := hF.1
  have hb := hF.2.1
  have hK := hy.2.2.2
  have hl : lv_has ls 2 [(0, .ref (ad (1, 0, 0)))] := hl
  refine lv_iconst (pc := 0) (v := 0) hx hb d_QC_sendDraftToAll_0 (by decide) ?_
  refine lv_istore_n (pc := 1) (lv' := [(1, .int (0 : Int32)), (0, .ref (ad (1, 0, 0)))]) hx hb d_QC_sendDraftToAll_1 rfl hl (by decide) rfl (fun ls hl => ?_)
  exact w_QC_sendDraftToAll_2  hy hA 200 S (0 : Int32) hk hr _ _ _ hW (lv_sub hl [1, 0] rfl)
theorem d_QC_countDown_0 : decode b_QC_countDown 0 = .ok (.aload_n 1, 1) := by decide +kernel
theorem d_QC_countDown_1 : decode b_QC_countDown 1 = .ok (.dup, 1) := by decide +kernel
theorem d_QC_countDown_2 : decode b_QC_countDown 2 = .ok (.getfield 242, 3) := by decide +kernel
theorem d_QC_countDown_5 : decode b_QC_countDown 5 = .ok (.iconst 1, 1) := by decide +kernel
theorem d_QC_countDown_6 : decode b_QC_countDown 6 = .ok (.isub, 1) := by decide +kernel
theorem d_QC_countDown_7 : decode b_QC_countDown 7 = .ok (.putfield 242, 3) := by decide +kernel
theorem d_QC_countDown_10 : decode b_QC_countDown 10 = .ok (.aload_n 1, 1) := by decide +kernel
theorem d_QC_countDown_11 : decode b_QC_countDown 11 = .ok (.getfield 242, 3) := by decide +kernel
theorem d_QC_countDown_14 : decode b_QC_countDown 14 = .ok (.ifCond .le 4, 3) := by decide +kernel
theorem d_QC_countDown_17 : decode b_QC_countDown 17 = .ok (.return_, 1) := by decide +kernel
theorem d_QC_countDown_18 : decode b_QC_countDown 18 = .ok (.aload_n 1, 1) := by decide +kernel
theorem d_QC_countDown_19 : decode b_QC_countDown 19 = .ok (.getfield 179, 3) := by decide +kernel
theorem d_QC_countDown_22 : decode b_QC_countDown 22 = .ok (.aload_n 1, 1) := by decide +kernel
theorem d_QC_countDown_23 : decode b_QC_countDown 23 = .ok (.getfield 179, 3) := by decide +kernel
theorem d_QC_countDown_26 : decode b_QC_countDown 26 = .ok (.getfield 251, 3) := by decide +kernel
theorem d_QC_countDown_29 : decode b_QC_countDown 29 = .ok (.aload_n 1, 1) := by decide +kernel
theorem d_QC_countDown_30 : decode b_QC_countDown 30 = .ok (.getfield 88, 3) := by decide +kernel
theorem d_QC_countDown_33 : decode b_QC_countDown 33 = .ok (.invokestatic 371, 3) := by decide +kernel
theorem d_QC_countDown_36 : decode b_QC_countDown 36 = .ok (.putfield 251, 3) := by decide +kernel
theorem d_QC_countDown_39 : decode b_QC_countDown 39 = .ok (.aload_n 0, 1) := by decide +kernel
theorem d_QC_countDown_40 : decode b_QC_countDown 40 = .ok (.aload_n 1, 1) := by decide +kernel
theorem d_QC_countDown_41 : decode b_QC_countDown 41 = .ok (.iconst 3, 1) := by decide +kernel
theorem d_QC_countDown_42 : decode b_QC_countDown 42 = .ok (.aload_n 1, 1) := by decide +kernel
theorem d_QC_countDown_43 : decode b_QC_countDown 43 = .ok (.getfield 248, 3) := by decide +kernel
theorem d_QC_countDown_46 : decode b_QC_countDown 46 = .ok (.aload_n 1, 1) := by decide +kernel
theorem d_QC_countDown_47 : decode b_QC_countDown 47 = .ok (.getfield 88, 3) := by decide +kernel
theorem d_QC_countDown_50 : decode b_QC_countDown 50 = .ok (.invokevirtual 216, 3) := by decide +kernel
theorem d_QC_countDown_53 : decode b_QC_countDown 53 = .ok (.ifCond .eq 7, 3) := by decide +kernel
theorem d_QC_countDown_56 : decode b_QC_countDown 56 = .ok (.aload_n 0, 1) := by decide +kernel
theorem d_QC_countDown_57 : decode b_QC_countDown 57 = .ok (.invokevirtual 362, 3) := by decide +kernel
theorem d_QC_countDown_60 : decode b_QC_countDown 60 = .ok (.aload_n 1, 1) := by decide +kernel
theorem d_QC_countDown_61 : decode b_QC_countDown 61 = .ok (.iconst 2, 1) := by decide +kernel
theorem d_QC_countDown_62 : decode b_QC_countDown 62 = .ok (.aload_n 1, 1) := by decide +kernel
theorem d_QC_countDown_63 : decode b_QC_countDown 63 = .ok (.getfield 245, 3) := by decide +kernel
theorem d_QC_countDown_66 : decode b_QC_countDown 66 = .ok (.imul, 1) := by decide +kernel
theorem d_QC_countDown_67 : decode b_QC_countDown 67 = .ok (.bipush 24, 2) := by decide +kernel
theorem d_QC_countDown_69 : decode b_QC_countDown 69 = .ok (.invokestatic 376, 3) := by decide +kernel
theorem d_QC_countDown_72 : decode b_QC_countDown 72 = .ok (.putfield 245, 3) := by decide +kernel
theorem d_QC_countDown_75 : decode b_QC_countDown 75 = .ok (.aload_n 1, 1) := by decide +kernel
theorem d_QC_countDown_76 : decode b_QC_countDown 76 = .ok (.aload_n 1, 1) := by decide +kernel
theorem d_QC_countDown_77 : decode b_QC_countDown 77 = .ok (.getfield 245, 3) := by decide +kernel
theorem d_QC_countDown_80 : decode b_QC_countDown 80 = .ok (.putfield 242, 3) := by decide +kernel
theorem d_QC_countDown_83 : decode b_QC_countDown 83 = .ok (.return_, 1) := by decide +kernel
def f_QC_countDown_60 (i1 : Nat) (S : St)  : St :=
  lt (si S 3 i1 0 10 (if (24 : Int32) < (2 : Int32) * (S.1 3 i1 0 10) then (24 : Int32) else (2 : Int32) * (S.1 3 i1 0 10))) fun (S10 : St) =>
  lt (si S10 3 i1 0 9 (S10.1 3 i1 0 10)) fun (S11 : St) =>
  S11
def ok_QC_countDown_60 (i1 : Nat) (S : St)  : Prop :=
  True
set_option maxHeartbeats 4000000 in
set_option maxRecDepth 100000 in
theorem w_QC_countDown_60 {l : Launch} {D : va_G} {X : va_W} {ad : N3 → Nat} {ca : Nat → ClassId} (i1 : Nat) (h1 : i1 < 4) {p : Program} {e : Env} {s : State} {m : MethodId} {below : List Frame} {meth : Method} {c : Code} {A : Nat → Prop} (hy : Hy p s m ([.ref (ad (1, 0, 0)), .ref (ad (3, i1, 0))] : List Value).toArray meth c b_QC_countDown 2 none R_QC GG D clQ (tysQ ca) nwQ) (hA : ∀ q, s.heap.size ≤ q → A q) {res : St} : ∀  (S : St)  , ok_QC_countDown_60 i1 S → f_QC_countDown_60 i1 S = res → ∀ (H : Heap) (locs : List Loc) (ls : Array Slot), Wd D clQ A s.heap (zw X ad TQ (cfQ ad ca) S) H locs → lv_has ls 2 [(1, .ref (ad (3, i1, 0)))] → W p l e { frames := 4, cells := 0, slots := 0, locals := 143 } s m ([.ref (ad (1, 0, 0)), .ref (ad (3, i1, 0))] : List Value).toArray below meth c H locs 0 0 (MQ below (eV D clQ X ad TQ (cfQ ad ca) A res) ([.ref (ad (1, 0, 0)), .ref (ad (3, i1, 0))] : List Value).toArray s 0 0 A) (F0 m 60 ls []) := by
  have hF := hy.1
  have hx := hF.1
  have hb := hF.2.1
  have hK := hy.2.2.2
  intro S hk hr H locs ls hW hl
  refine lv_aload_n (pc := 60) hx hb d_QC_countDown_60 rfl (lv_at hl 0 rfl) ?_
  refine lv_iconst (pc := 61) (v := 2) hx hb d_QC_countDown_61 (by decide) ?_
  refine lv_aload_n (pc := 62) hx hb d_QC_countDown_62 rfl (lv_at hl 0 rfl) ?_
  refine z_get (pc := 63) (v := .int (S.1 3 i1 0 10)) hF hK.1 hW (tq3 h1) rfl rfl in_Node 10 (by decide) gw_316 rfl rfl d_QC_countDown_63 ?_
  refine lv_imul (pc := 66) hx hb d_QC_countDown_66 ?_
  refine lv_bipush (pc := 67) (v := 24) hx hb d_QC_countDown_67 (by decide) ?_
  refine va_mmin (pc := 69) hx hb (by rw [hF.2.2.1, hl.1]) hF.2.2.2.1 (hF.2.2.2.2 _ gw_423) (hF.2.2.2.2 _ gw_424) (hF.2.2.2.2 _ gw_71) (hF.2.2.2.2 _ gw_425) (Nat.le_of_ble_eq_true rfl) (Nat.le_of_ble_eq_true rfl) (Nat.zero_le _) (Nat.zero_le _) d_QC_countDown_69 ?_
  obtain ⟨S10, eS10⟩ : ∃ z : St, z = si S 3 i1 0 10 (if (24 : Int32) < (2 : Int32) * (S.1 3 i1 0 10) then (24 : Int32) else (2 : Int32) * (S.1 3 i1 0 10)) := ⟨_, rfl⟩
  have hr := lt_e eS10 hr
  refine z_put (pc := 72) (S' := S10) hF hK.1 hW (tq3 h1) rfl rfl in_Node t_Node tyo_Node nmo_Node 10 (by decide) gw_316 rfl rfl rfl rfl rfl (Nat.le_of_ble_eq_true rfl) (zs_si eS10 rfl) (zs_sio eS10) d_QC_countDown_72 (fun H locs (hW : Wd D clQ A s.heap (zw X ad TQ (cfQ ad ca) S10) H locs) => ?_)
  refine lv_aload_n (pc := 75) hx hb d_QC_countDown_75 rfl (lv_at hl 0 rfl) ?_
  refine lv_aload_n (pc := 76) hx hb d_QC_countDown_76 rfl (lv_at hl 0 rfl) ?_
  refine z_get (pc := 77) (v := .int (S10.1 3 i1 0 10)) hF hK.1 hW (tq3 h1) rfl rfl in_Node 10 (by decide) gw_316 rfl rfl d_QC_countDown_77 ?_
  obtain ⟨S11, eS11⟩ : ∃ z : St, z = si S10 3 i1 0 9 (S10.1 3 i1 0 10) := ⟨_, rfl⟩
  have hr := lt_e eS11 hr
  refine z_put (pc := 80) (S' := S11) hF hK.1 hW (tq3 h1) rfl rfl in_Node t_Node tyo_Node nmo_Node 9 (by decide) gw_314 rfl rfl rfl rfl rfl (Nat.le_of_ble_eq_true rfl) (zs_si eS11 rfl) (zs_sio eS11) d_QC_countDown_80 (fun H locs (hW : Wd D clQ A s.heap (zw X ad TQ (cfQ ad ca) S11) H locs) => ?_)
  exact z_vret hy hW hr.symm d_QC_countDown_83
def f_QC_countDown (i1 : Nat) (S : St) : St :=
  lt (si S 3 i1 0 9 ((S.1 3 i1 0 9) - (1 : Int32))) fun (S1 : St) =>
  if (S1.1 3 i1 0 9) ≤ 0 then
    lt (si S1 4 i1 0 6 (if S1.1 4 i1 0 6 < S1.1 3 i1 0 8 then S1.1 3 i1 0 8 else S1.1 4 i1 0 6)) fun (S3 : St) =>
    lt (f_QC_writeSigned i1 (3 : Int32) (S3.1 3 i1 0 11) (S3.1 3 i1 0 8) S3) fun (r5 : Int32 × St) =>
    if r5.1 = 0 then
      f_QC_countDown_60 i1 r5.2
    else
      lt (f_QC_sendDraftToAll r5.2) fun (S9 : St) =>
      f_QC_countDown_60 i1 S9
  else
    S1
def ok_QC_countDown (i1 : Nat) (S : St) : Prop :=
  lt (si S 3 i1 0 9 ((S.1 3 i1 0 9) - (1 : Int32))) fun (S1 : St) =>
  ((S1.1 3 i1 0 9) ≤ 0 → (
    lt (si S1 4 i1 0 6 (if S1.1 4 i1 0 6 < S1.1 3 i1 0 8 then S1.1 3 i1 0 8 else S1.1 4 i1 0 6)) fun (S3 : St) =>
    (ok_QC_writeSigned i1 (3 : Int32) (S3.1 3 i1 0 11) (S3.1 3 i1 0 8) S3) ∧ (
      lt (f_QC_writeSigned i1 (3 : Int32) (S3.1 3 i1 0 11) (S3.1 3 i1 0 8) S3) fun (r5 : Int32 × St) =>
      (r5.1 = 0 → (
        ok_QC_countDown_60 i1 r5.2)) ∧ (¬ (r5.1 = 0) → (
        (ok_QC_sendDraftToAll r5.2) ∧ (
          lt (f_QC_sendDraftToAll r5.2) fun (S9 : St) =>
          ok_QC_countDown_60 i1 S9)))))) ∧ (¬ ((S1.1 3 i1 0 9) ≤ 0) → (
    True))
set_option maxHeartbeats 4000000 in
set_option maxRecDepth 100000 in
theorem c_QC_countDown (l : Launch) (D : va_G) (X : va_W) (ad : N3 → Nat) (ca : Nat → ClassId) (i1 : Nat) (h1 : i1 < 4) (S : St) (hk : ok_QC_countDown i1 S) : cV l GG D clQ (tysQ ca) nwQ X ad TQ (cfQ ad ca) y_QC_countDown b_QC_countDown 2 4 143 [.ref (ad (1, 0, 0)), .ref (ad (3, i1, 0))] S (f_QC_countDown i1 S) := by
  generalize hr : f_QC_countDown i1 S = res
  refine zV_of pn_QC (Nat.le_of_ble_eq_true rfl) (fun p e s m below meth c A ls hy hW hA hl => ?_)
  have hF := hy.1
  have hx := hF.1
  have hb := hF.2.1
  have hK := hy.2.2.2
  have hl : lv_has ls 2 [(0, .ref (ad (1, 0, 0))), (1, .ref (ad (3, i1, 0)))] := hl
  refine lv_aload_n (pc := 0) hx hb d_QC_countDown_0 rfl (lv_at hl 1 rfl) ?_
  refine lv_dup (pc := 1) hx hb d_QC_countDown_1 rfl ?_
  refine z_get (pc := 2) (v := .int (S.1 3 i1 0 9)) hF hK.1 hW (tq3 h1) rfl rfl in_Node 9 (by decide) gw_314 rfl rfl d_QC_countDown_2 ?_
  refine lv_iconst (pc := 5) (v := 1) hx hb d_QC_countDown_5 (by decide) ?_
  refine lv_isub (pc := 6) hx hb d_QC_countDown_6 ?_
  obtain ⟨S1, eS1⟩ : ∃ z : St, z = si S 3 i1 0 9 ((S.1 3 i1 0 9) - (1 : Int32)) := ⟨_, rfl⟩
  have hk := lt_p eS1 hk
  have hr := lt_e eS1 hr
  refine z_put (pc := 7) (S' := S1) hF hK.1 hW (tq3 h1) rfl rfl in_Node t_Node tyo_Node nmo_Node 9 (by decide) gw_314 rfl rfl rfl rfl rfl (Nat.le_of_ble_eq_true rfl) (zs_si eS1 rfl) (zs_sio eS1) d_QC_countDown_7 (fun H locs (hW : Wd D clQ A s.heap (zw X ad TQ (cfQ ad ca) S1) H locs) => ?_)
  refine lv_aload_n (pc := 10) hx hb d_QC_countDown_10 rfl (lv_at hl 1 rfl) ?_
  refine z_get (pc := 11) (v := .int (S1.1 3 i1 0 9)) hF hK.1 hW (tq3 h1) rfl rfl in_Node 9 (by decide) gw_314 rfl rfl d_QC_countDown_11 ?_
  refine lv_if_le (pc := 14) (tgt := 18) hx hb d_QC_countDown_14 (by decide) (fun c2 => ?_) (fun c2 => ?_)
  · have hk := hk.1 c2
    have hr := (if_pos c2).symm.trans hr
    refine lv_aload_n (pc := 18) hx hb d_QC_countDown_18 rfl (lv_at hl 1 rfl) ?_
    refine z_get (pc := 19) (v := .ref (ad (4, i1, 0))) hF hK.1 hW (tq3 h1) rfl rfl in_Node 1 (by decide) gw_298 rfl rfl d_QC_countDown_19 ?_
    refine lv_aload_n (pc := 22) hx hb d_QC_countDown_22 rfl (lv_at hl 1 rfl) ?_
    refine z_get (pc := 23) (v := .ref (ad (4, i1, 0))) hF hK.1 hW (tq3 h1) rfl rfl in_Node 1 (by decide) gw_298 rfl rfl d_QC_countDown_23 ?_
    refine z_get (pc := 26) (v := .int (S1.1 4 i1 0 6)) hF hK.1 hW (tq4 h1) rfl rfl in_Store 6 (by decide) gw_276 rfl rfl d_QC_countDown_26 ?_
    refine lv_aload_n (pc := 29) hx hb d_QC_countDown_29 rfl (lv_at hl 1 rfl) ?_
    refine z_get (pc := 30) (v := .int (S1.1 3 i1 0 8)) hF hK.1 hW (tq3 h1) rfl rfl in_Node 8 (by decide) gw_312 rfl rfl d_QC_countDown_30 ?_
    refine va_mmax (pc := 33) hx hb (by rw [hF.2.2.1, hl.1]) hF.2.2.2.1 (hF.2.2.2.2 _ gw_374) (hF.2.2.2.2 _ gw_375) (hF.2.2.2.2 _ gw_71) (hF.2.2.2.2 _ gw_376) (Nat.le_of_ble_eq_true rfl) (Nat.le_of_ble_eq_true rfl) (Nat.zero_le _) (Nat.zero_le _) d_QC_countDown_33 ?_
    obtain ⟨S3, eS3⟩ : ∃ z : St, z = si S1 4 i1 0 6 (if S1.1 4 i1 0 6 < S1.1 3 i1 0 8 then S1.1 3 i1 0 8 else S1.1 4 i1 0 6) := ⟨_, rfl⟩
    have hk := lt_p eS3 hk
    have hr := lt_e eS3 hr
    refine z_put (pc := 36) (S' := S3) hF hK.1 hW (tq4 h1) rfl rfl in_Store t_Store tyo_Store nmo_Store 6 (by decide) gw_276 rfl rfl rfl rfl rfl (Nat.le_of_ble_eq_true rfl) (zs_si eS3 rfl) (zs_sio eS3) d_QC_countDown_36 (fun H locs (hW : Wd D clQ A s.heap (zw X ad TQ (cfQ ad ca) S3) H locs) => ?_)
    refine lv_aload_n (pc := 39) hx hb d_QC_countDown_39 rfl (lv_at hl 0 rfl) ?_
    refine lv_aload_n (pc := 40) hx hb d_QC_countDown_40 rfl (lv_at hl 1 rfl) ?_
    refine lv_iconst (pc := 41) (v := 3) hx hb d_QC_countDown_41 (by decide) ?_
    refine lv_aload_n (pc := 42) hx hb d_QC_countDown_42 rfl (lv_at hl 1 rfl) ?_
    refine z_get (pc := 43) (v := .int (S3.1 3 i1 0 11)) hF hK.1 hW (tq3 h1) rfl rfl in_Node 11 (by decide) gw_318 rfl rfl d_QC_countDown_43 ?_
    refine lv_aload_n (pc := 46) hx hb d_QC_countDown_46 rfl (lv_at hl 1 rfl) ?_
    refine z_get (pc := 47) (v := .int (S3.1 3 i1 0 8)) hF hK.1 hW (tq3 h1) rfl rfl in_Node 8 (by decide) gw_312 rfl rfl d_QC_countDown_47 ?_
    have o4 := hk.1
    have hk := hk.2
    obtain ⟨r5, er5⟩ : ∃ z : Int32 × St, z = f_QC_writeSigned i1 (3 : Int32) (S3.1 3 i1 0 11) (S3.1 3 i1 0 8) S3 := ⟨_, rfl⟩
    have hk := lt_p er5 hk
    have hr := lt_e er5 hr
    refine z_goI (pc := 50) hW hA (show (r5.1, r5.2) = _ from er5) (z_runV hF hK hW (c_QC_writeSigned l D X ad ca i1 (3 : Int32) (S3.1 3 i1 0 11) (S3.1 3 i1 0 8) h1 S3 o4 _) cd_QC_writeSigned gw_377 tq1 rfl rfl ⟨Nat.le_of_ble_eq_true rfl, Nat.le_of_ble_eq_true rfl⟩ ⟨Nat.zero_le _, Nat.zero_le _⟩ rfl rfl hl.1 (Nat.le_of_ble_eq_true rfl) d_QC_countDown_50) (fun H locs (hW : Wd D clQ A s.heap (zw X ad TQ (cfQ ad ca) r5.2) H locs) => ?_)
    refine lv_if_eq (pc := 53) (tgt := 60) hx hb d_QC_countDown_53 (by decide) (fun c6 => ?_) (fun c6 => ?_)
    · have hk := hk.1 c6
      have hr := (if_pos c6).symm.trans hr
      exact w_QC_countDown_60 i1 h1 hy hA r5.2 hk hr _ _ _ hW (lv_sub hl [1] rfl)
    · have hk := hk.2 c6
      have hr := (if_neg c6).symm.trans hr
      refine lv_aload_n (pc := 56) hx hb d_QC_countDown_56 rfl (lv_at hl 0 rfl) ?_
      have o7 := hk.1
      have hk := hk.2
      obtain ⟨S9, eS9⟩ : ∃ z : St, z = f_QC_sendDraftToAll r5.2 := ⟨_, rfl⟩
      have hk := lt_p eS9 hk
      have hr := lt_e eS9 hr
      refine z_goV (pc := 57) hW hA eS9 (z_runV hF hK hW (c_QC_sendDraftToAll l D X ad ca r5.2 o7 _) cd_QC_sendDraftToAll gw_407 tq1 rfl rfl ⟨Nat.le_of_ble_eq_true rfl, Nat.le_of_ble_eq_true rfl⟩ ⟨Nat.zero_le _, Nat.zero_le _⟩ rfl rfl hl.1 (Nat.le_of_ble_eq_true rfl) d_QC_countDown_57) (fun H locs (hW : Wd D clQ A s.heap (zw X ad TQ (cfQ ad ca) S9) H locs) => ?_)
      exact w_QC_countDown_60 i1 h1 hy hA S9 hk hr _ _ _ hW (lv_sub hl [1] rfl)
  · have hk := hk.2 c2
    have hr := (if_neg c2).symm.trans hr
    exact z_vret hy hW hr.symm d_QC_countDown_17
theorem d_QC_tick_0 : decode b_QC_tick 0 = .ok (.aload_n 0, 1) := by decide +kernel
theorem d_QC_tick_1 : decode b_QC_tick 1 = .ok (.dup, 1) := by decide +kernel
theorem d_QC_tick_2 : decode b_QC_tick 2 = .ok (.getfield 224, 3) := by decide +kernel
theorem d_QC_tick_5 : decode b_QC_tick 5 = .ok (.iconst 1, 1) := by decide +kernel
theorem d_QC_tick_6 : decode b_QC_tick 6 = .ok (.iadd, 1) := by decide +kernel
theorem d_QC_tick_7 : decode b_QC_tick 7 = .ok (.putfield 224, 3) := by decide +kernel
theorem d_QC_tick_10 : decode b_QC_tick 10 = .ok (.iconst 0, 1) := by decide +kernel
theorem d_QC_tick_11 : decode b_QC_tick 11 = .ok (.istore_n 1, 1) := by decide +kernel
theorem d_QC_tick_12 : decode b_QC_tick 12 = .ok (.iload_n 1, 1) := by decide +kernel
theorem d_QC_tick_13 : decode b_QC_tick 13 = .ok (.iconst 4, 1) := by decide +kernel
theorem d_QC_tick_14 : decode b_QC_tick 14 = .ok (.if_icmp .ge 31, 3) := by decide +kernel
theorem d_QC_tick_17 : decode b_QC_tick 17 = .ok (.aload_n 0, 1) := by decide +kernel
theorem d_QC_tick_18 : decode b_QC_tick 18 = .ok (.getfield 11, 3) := by decide +kernel
theorem d_QC_tick_21 : decode b_QC_tick 21 = .ok (.iload_n 1, 1) := by decide +kernel
theorem d_QC_tick_22 : decode b_QC_tick 22 = .ok (.aaload, 1) := by decide +kernel
theorem d_QC_tick_23 : decode b_QC_tick 23 = .ok (.getfield 76, 3) := by decide +kernel
theorem d_QC_tick_26 : decode b_QC_tick 26 = .ok (.ifCond .eq 13, 3) := by decide +kernel
theorem d_QC_tick_29 : decode b_QC_tick 29 = .ok (.aload_n 0, 1) := by decide +kernel
theorem d_QC_tick_30 : decode b_QC_tick 30 = .ok (.aload_n 0, 1) := by decide +kernel
theorem d_QC_tick_31 : decode b_QC_tick 31 = .ok (.getfield 11, 3) := by decide +kernel
theorem d_QC_tick_34 : decode b_QC_tick 34 = .ok (.iload_n 1, 1) := by decide +kernel
theorem d_QC_tick_35 : decode b_QC_tick 35 = .ok (.aaload, 1) := by decide +kernel
theorem d_QC_tick_36 : decode b_QC_tick 36 = .ok (.invokevirtual 227, 3) := by decide +kernel
theorem d_QC_tick_39 : decode b_QC_tick 39 = .ok (.iinc 1 1, 3) := by decide +kernel
theorem d_QC_tick_42 : decode b_QC_tick 42 = .ok (.goto (-30), 3) := by decide +kernel
theorem d_QC_tick_45 : decode b_QC_tick 45 = .ok (.aload_n 0, 1) := by decide +kernel
theorem d_QC_tick_46 : decode b_QC_tick 46 = .ok (.getfield 224, 3) := by decide +kernel
theorem d_QC_tick_49 : decode b_QC_tick 49 = .ok (.ireturn, 1) := by decide +kernel
def f_QC_tick_12  : Nat → St → Int32 → Int32 × St
  | 0, S, _ => (0, S)
  | n + 1, S, l1 =>
    if (4 : Int32) ≤ l1 then
      (S.1 1 0 0 5, S)
    else
      if (S.1 3 (l1.toNatClampNeg) 0 7) = 0 then
        f_QC_tick_12 n S (l1 + (1 : Int32))
      else
        lt (f_QC_countDown (l1.toNatClampNeg) S) fun (S8 : St) =>
        f_QC_tick_12 n S8 (l1 + (1 : Int32))
def ok_QC_tick_12  : Nat → St → Int32 → Prop
  | 0, _, _ => False
  | n + 1, S, l1 =>
    ((4 : Int32) ≤ l1 → (
      True)) ∧ (¬ ((4 : Int32) ≤ l1) → (
      (vp_in l1 4) ∧ (
        ((S.1 3 (l1.toNatClampNeg) 0 7) = 0 → (
          ok_QC_tick_12 n S (l1 + (1 : Int32)))) ∧ (¬ ((S.1 3 (l1.toNatClampNeg) 0 7) = 0) → (
          (vp_in l1 4) ∧ (
            (ok_QC_countDown (l1.toNatClampNeg) S) ∧ (
              lt (f_QC_countDown (l1.toNatClampNeg) S) fun (S8 : St) =>
              ok_QC_tick_12 n S8 (l1 + (1 : Int32)))))))))
set_option maxHeartbeats 4000000 in
set_option maxRecDepth 100000 in
theorem w_QC_tick_12 {l : Launch} {D : va_G} {X : va_W} {ad : N3 → Nat} {ca : Nat → ClassId}   {p : Program} {e : Env} {s : State} {m : MethodId} {below : List Frame} {meth : Method} {c : Code} {A : Nat → Prop} (hy : Hy p s m ([.ref (ad (1, 0, 0))] : List Value).toArray meth c b_QC_tick 2 (some .int) R_QC GG D clQ (tysQ ca) nwQ) (hA : ∀ q, s.heap.size ≤ q → A q) {res : Int32 × St} : ∀ (n : Nat) (S : St) (l1 : Int32) , ok_QC_tick_12 n S l1 → f_QC_tick_12 n S l1 = res → ∀ (H : Heap) (locs : List Loc) (ls : Array Slot), Wd D clQ A s.heap (zw X ad TQ (cfQ ad ca) S) H locs → lv_has ls 2 [(0, .ref (ad (1, 0, 0))), (1, .int l1)] → W p l e { frames := 5, cells := 0, slots := 0, locals := 164 } s m ([.ref (ad (1, 0, 0))] : List Value).toArray below meth c H locs 0 0 (MQ below (eI D clQ X ad TQ (cfQ ad ca) A res) ([.ref (ad (1, 0, 0))] : List Value).toArray s 0 0 A) (F0 m 12 ls []) := by
  have hF := hy.1
  have hx := hF.1
  have hb := hF.2.1
  have hK := hy.2.2.2
  intro n
  induction n with
  | zero =>
    intro S l1 hk
    exact hk.elim
  | succ n ih =>
    intro S l1 hk hr H locs ls hW hl
    refine lv_iload_n (pc := 12) hx hb d_QC_tick_12 rfl (lv_at hl 1 rfl) ?_
    refine lv_iconst (pc := 13) (v := 4) hx hb d_QC_tick_13 (by decide) ?_
    refine lv_icmp_ge (pc := 14) (tgt := 45) hx hb d_QC_tick_14 (by decide) (fun c2 => ?_) (fun c2 => ?_)
    · have hk := hk.1 c2
      have hr := (if_pos c2).symm.trans hr
      refine lv_aload_n (pc := 45) hx hb d_QC_tick_45 rfl (lv_at hl 0 rfl) ?_
      refine z_get (pc := 46) (v := .int (S.1 1 0 0 5)) hF hK.1 hW tq1 rfl rfl in_QC 5 (by decide) gw_349 rfl rfl d_QC_tick_46 ?_
      exact z_iret (v := S.1 1 0 0 5) hy hW hr.symm d_QC_tick_49
    · have hk := hk.2 c2
      have hr := (if_neg c2).symm.trans hr
      refine lv_aload_n (pc := 17) hx hb d_QC_tick_17 rfl (lv_at hl 0 rfl) ?_
      refine z_get (pc := 18) (v := .ref (ad (2, 0, 0))) hF hK.1 hW tq1 rfl rfl in_QC 0 (by decide) gw_344 rfl rfl d_QC_tick_18 ?_
      refine lv_iload_n (pc := 21) hx hb d_QC_tick_21 rfl (lv_at hl 1 rfl) ?_
      have b3 := hk.1
      have hk := hk.2
      refine z_aald (pc := 22) (q := ad (3, (l1.toNatClampNeg), 0)) hF hK.1 hW tq2 3 rfl rfl b3 rfl d_QC_tick_22 ?_
      refine z_get (pc := 23) (v := .int (S.1 3 (l1.toNatClampNeg) 0 7)) hF hK.1 hW (tq3 (vin4 b3)) rfl rfl in_Node 7 (by decide) gw_310 rfl rfl d_QC_tick_23 ?_
      refine lv_if_eq (pc := 26) (tgt := 39) hx hb d_QC_tick_26 (by decide) (fun c4 => ?_) (fun c4 => ?_)
      · have hk := hk.1 c4
        have hr := (if_pos c4).symm.trans hr
        refine lv_iinc (pc := 39) (v := l1 + (1 : Int32)) (lv' := [(1, .int (l1 + (1 : Int32))), (0, .ref (ad (1, 0, 0)))]) (k := 1) hx hb d_QC_tick_39 hl rfl (z_inc (by decide)) (by decide) rfl (fun ls hl => ?_)
        refine lv_goto (pc := 42) (tgt := 12) hx hb d_QC_tick_42 (by decide) ?_
        exact ih S (l1 + (1 : Int32)) hk hr _ _ _ hW (lv_sub hl [1, 0] rfl)
      · have hk := hk.2 c4
        have hr := (if_neg c4).symm.trans hr
        refine lv_aload_n (pc := 29) hx hb d_QC_tick_29 rfl (lv_at hl 0 rfl) ?_
        refine lv_aload_n (pc := 30) hx hb d_QC_tick_30 rfl (lv_at hl 0 rfl) ?_
        refine z_get (pc := 31) (v := .ref (ad (2, 0, 0))) hF hK.1 hW tq1 rfl rfl in_QC 0 (by decide) gw_344 rfl rfl d_QC_tick_31 ?_
        refine lv_iload_n (pc := 34) hx hb d_QC_tick_34 rfl (lv_at hl 1 rfl) ?_
        have b5 := hk.1
        have hk := hk.2
        refine z_aald (pc := 35) (q := ad (3, (l1.toNatClampNeg), 0)) hF hK.1 hW tq2 3 rfl rfl b5 rfl d_QC_tick_35 ?_
        have o6 := hk.1
        have hk := hk.2
        obtain ⟨S8, eS8⟩ : ∃ z : St, z = f_QC_countDown (l1.toNatClampNeg) S := ⟨_, rfl⟩
        have hk := lt_p eS8 hk
        have hr := lt_e eS8 hr
        refine z_goV (pc := 36) hW hA eS8 (z_runV hF hK hW (c_QC_countDown l D X ad ca (l1.toNatClampNeg) (vin4 b5) S o6 _) cd_QC_countDown gw_370 tq1 rfl rfl ⟨Nat.le_of_ble_eq_true rfl, Nat.le_of_ble_eq_true rfl⟩ ⟨Nat.zero_le _, Nat.zero_le _⟩ rfl rfl hl.1 (Nat.le_of_ble_eq_true rfl) d_QC_tick_36) (fun H locs (hW : Wd D clQ A s.heap (zw X ad TQ (cfQ ad ca) S8) H locs) => ?_)
        refine lv_iinc (pc := 39) (v := l1 + (1 : Int32)) (lv' := [(1, .int (l1 + (1 : Int32))), (0, .ref (ad (1, 0, 0)))]) (k := 1) hx hb d_QC_tick_39 hl rfl (z_inc (by decide)) (by decide) rfl (fun ls hl => ?_)
        refine lv_goto (pc := 42) (tgt := 12) hx hb d_QC_tick_42 (by decide) ?_
        exact ih S8 (l1 + (1 : Int32)) hk hr _ _ _ hW (lv_sub hl [1, 0] rfl)
def f_QC_tick  (S : St) : Int32 × St :=
  lt (si S 1 0 0 5 ((S.1 1 0 0 5) + (1 : Int32))) fun (S1 : St) =>
  f_QC_tick_12 200 S1 (0 : Int32)
def ok_QC_tick  (S : St) : Prop :=
  lt (si S 1 0 0 5 ((S.1 1 0 0 5) + (1 : Int32))) fun (S1 : St) =>
  ok_QC_tick_12 200 S1 (0 : Int32)
set_option maxHeartbeats 4000000 in
set_option maxRecDepth 100000 in
theorem c_QC_tick (l : Launch) (D : va_G) (X : va_W) (ad : N3 → Nat) (ca : Nat → ClassId)   (S : St) (hk : ok_QC_tick S) : cI l GG D clQ (tysQ ca) nwQ X ad TQ (cfQ ad ca) y_QC_tick b_QC_tick 2 .int 5 164 [.ref (ad (1, 0, 0))] S (f_QC_tick S) := by
  generalize hr : f_QC_tick S = res
  refine zI_of pn_QC (Nat.le_of_ble_eq_true rfl) (fun p e s m below meth c A ls hy hW hA hl => ?_)
  have hF := hy.1
  have hx := hF.1
  have hb := hF.2.1
  have hK := hy.2.2.2
  have hl : lv_has ls 2 [(0, .ref (ad (1, 0, 0)))] := hl
  refine lv_aload_n (pc := 0) hx hb d_QC_tick_0 rfl (lv_at hl 0 rfl) ?_
  refine lv_dup (pc := 1) hx hb d_QC_tick_1 rfl ?_
  refine z_get (pc := 2) (v := .int (S.1 1 0 0 5)) hF hK.1 hW tq1 rfl rfl in_QC 5 (by decide) gw_349 rfl rfl d_QC_tick_2 ?_
  refine lv_iconst (pc := 5) (v := 1) hx hb d_QC_tick_5 (by decide) ?_
  refine lv_iadd (pc := 6) hx hb d_QC_tick_6 ?_
  obtain ⟨S1, eS1⟩ : ∃ z : St, z = si S 1 0 0 5 ((S.1 1 0 0 5) + (1 : Int32)) := ⟨_, rfl⟩
  have hk := lt_p eS1 hk
  have hr := lt_e eS1 hr
  refine z_put (pc := 7) (S' := S1) hF hK.1 hW tq1 rfl rfl in_QC t_QC tyo_QC nmo_QC 5 (by decide) gw_349 rfl rfl rfl rfl rfl (Nat.le_of_ble_eq_true rfl) (zs_si eS1 rfl) (zs_sio eS1) d_QC_tick_7 (fun H locs (hW : Wd D clQ A s.heap (zw X ad TQ (cfQ ad ca) S1) H locs) => ?_)
  refine lv_iconst (pc := 10) (v := 0) hx hb d_QC_tick_10 (by decide) ?_
  refine lv_istore_n (pc := 11) (lv' := [(1, .int (0 : Int32)), (0, .ref (ad (1, 0, 0)))]) hx hb d_QC_tick_11 rfl hl (by decide) rfl (fun ls hl => ?_)
  exact w_QC_tick_12  hy hA 200 S1 (0 : Int32) hk hr _ _ _ hW (lv_sub hl [1, 0] rfl)
theorem d_QC_isNode_0 : decode b_QC_isNode 0 = .ok (.iload_n 0, 1) := by decide +kernel
theorem d_QC_isNode_1 : decode b_QC_isNode 1 = .ok (.ifCond .lt 12, 3) := by decide +kernel
theorem d_QC_isNode_4 : decode b_QC_isNode 4 = .ok (.iload_n 0, 1) := by decide +kernel
theorem d_QC_isNode_5 : decode b_QC_isNode 5 = .ok (.iconst 4, 1) := by decide +kernel
theorem d_QC_isNode_6 : decode b_QC_isNode 6 = .ok (.if_icmp .ge 7, 3) := by decide +kernel
theorem d_QC_isNode_9 : decode b_QC_isNode 9 = .ok (.iconst 1, 1) := by decide +kernel
theorem d_QC_isNode_10 : decode b_QC_isNode 10 = .ok (.goto 4, 3) := by decide +kernel
theorem d_QC_isNode_13 : decode b_QC_isNode 13 = .ok (.iconst 0, 1) := by decide +kernel
theorem d_QC_isNode_14 : decode b_QC_isNode 14 = .ok (.ireturn, 1) := by decide +kernel
def f_QC_isNode (a0 : Int32) (S : St) : Int32 :=
  if a0 < 0 then
    (0 : Int32)
  else
    if (4 : Int32) ≤ a0 then
      (0 : Int32)
    else
      (1 : Int32)
set_option maxHeartbeats 4000000 in
set_option maxRecDepth 100000 in
theorem c_QC_isNode (l : Launch) (D : va_G) (X : va_W) (ad : N3 → Nat) (ca : Nat → ClassId) (a0 : Int32)  (S : St) : cP l GG D clQ (tysQ ca) nwQ (zw X ad TQ (cfQ ad ca) S) y_QC_isNode b_QC_isNode 1 .boolean 0 0 [.int a0] (.int (f_QC_isNode a0 S)) := by
  generalize hr : f_QC_isNode a0 S = res
  refine zP_of pn_QC (Nat.le_of_ble_eq_true rfl) (fun p e s m below meth c ls hy hW hl => ?_)
  have hF := hy.1
  have hx := hF.1
  have hb := hF.2.1
  have hK := hy.2.2.2
  have hl : lv_has ls 1 [(0, .int a0)] := hl
  refine lv_iload_n (pc := 0) hx hb d_QC_isNode_0 rfl (lv_at hl 0 rfl) ?_
  refine lv_if_lt (pc := 1) (tgt := 13) hx hb d_QC_isNode_1 (by decide) (fun c1 => ?_) (fun c1 => ?_)
  · have hr := (if_pos c1).symm.trans hr
    refine lv_iconst (pc := 13) (v := 0) hx hb d_QC_isNode_13 (by decide) ?_
    exact p_zret (v := (0 : Int32)) hy rfl hr d_QC_isNode_14
  · have hr := (if_neg c1).symm.trans hr
    refine lv_iload_n (pc := 4) hx hb d_QC_isNode_4 rfl (lv_at hl 0 rfl) ?_
    refine lv_iconst (pc := 5) (v := 4) hx hb d_QC_isNode_5 (by decide) ?_
    refine lv_icmp_ge (pc := 6) (tgt := 13) hx hb d_QC_isNode_6 (by decide) (fun c2 => ?_) (fun c2 => ?_)
    · have hr := (if_pos c2).symm.trans hr
      refine lv_iconst (pc := 13) (v := 0) hx hb d_QC_isNode_13 (by decide) ?_
      exact p_zret (v := (0 : Int32)) hy rfl hr d_QC_isNode_14
    · have hr := (if_neg c2).symm.trans hr
      refine lv_iconst (pc := 9) (v := 1) hx hb d_QC_isNode_9 (by decide) ?_
      refine lv_goto (pc := 10) (tgt := 14) hx hb d_QC_isNode_10 (by decide) ?_
      exact p_zret (v := (1 : Int32)) hy rfl hr d_QC_isNode_14
theorem d_QC_node_0 : decode b_QC_node 0 = .ok (.iload_n 1, 1) := by decide +kernel
theorem d_QC_node_1 : decode b_QC_node 1 = .ok (.invokestatic 68, 3) := by decide +kernel
theorem d_QC_node_4 : decode b_QC_node 4 = .ok (.ifCond .ne 5, 3) := by decide +kernel
theorem d_QC_node_7 : decode b_QC_node 7 = .ok (.iconst (-1), 1) := by decide +kernel
theorem d_QC_node_8 : decode b_QC_node 8 = .ok (.ireturn, 1) := by decide +kernel
theorem d_QC_node_9 : decode b_QC_node 9 = .ok (.aload_n 0, 1) := by decide +kernel
theorem d_QC_node_10 : decode b_QC_node 10 = .ok (.getfield 11, 3) := by decide +kernel
theorem d_QC_node_13 : decode b_QC_node 13 = .ok (.iload_n 1, 1) := by decide +kernel
theorem d_QC_node_14 : decode b_QC_node 14 = .ok (.aaload, 1) := by decide +kernel
theorem d_QC_node_15 : decode b_QC_node 15 = .ok (.astore_n 3, 1) := by decide +kernel
theorem d_QC_node_16 : decode b_QC_node 16 = .ok (.iload_n 2, 1) := by decide +kernel
theorem d_QC_node_17 : decode b_QC_node 17 = .ok (.tableswitch 207 0 11 #[63, 76, 92, 108, 124, 140, 148, 156, 167, 175, 183, 199], 63) := by decide +kernel
theorem d_QC_node_80 : decode b_QC_node 80 = .ok (.aload_n 3, 1) := by decide +kernel
theorem d_QC_node_81 : decode b_QC_node 81 = .ok (.getfield 76, 3) := by decide +kernel
theorem d_QC_node_84 : decode b_QC_node 84 = .ok (.ifCond .eq 7, 3) := by decide +kernel
theorem d_QC_node_87 : decode b_QC_node 87 = .ok (.iconst 1, 1) := by decide +kernel
theorem d_QC_node_88 : decode b_QC_node 88 = .ok (.goto 4, 3) := by decide +kernel
theorem d_QC_node_91 : decode b_QC_node 91 = .ok (.iconst 0, 1) := by decide +kernel
theorem d_QC_node_92 : decode b_QC_node 92 = .ok (.ireturn, 1) := by decide +kernel
theorem d_QC_node_93 : decode b_QC_node 93 = .ok (.aload_n 3, 1) := by decide +kernel
theorem d_QC_node_94 : decode b_QC_node 94 = .ok (.getfield 76, 3) := by decide +kernel
theorem d_QC_node_97 : decode b_QC_node 97 = .ok (.ifCond .eq 10, 3) := by decide +kernel
theorem d_QC_node_100 : decode b_QC_node 100 = .ok (.aload_n 3, 1) := by decide +kernel
theorem d_QC_node_101 : decode b_QC_node 101 = .ok (.getfield 88, 3) := by decide +kernel
theorem d_QC_node_104 : decode b_QC_node 104 = .ok (.goto 4, 3) := by decide +kernel
theorem d_QC_node_107 : decode b_QC_node 107 = .ok (.iconst 0, 1) := by decide +kernel
theorem d_QC_node_108 : decode b_QC_node 108 = .ok (.ireturn, 1) := by decide +kernel
theorem d_QC_node_109 : decode b_QC_node 109 = .ok (.aload_n 3, 1) := by decide +kernel
theorem d_QC_node_110 : decode b_QC_node 110 = .ok (.getfield 76, 3) := by decide +kernel
theorem d_QC_node_113 : decode b_QC_node 113 = .ok (.ifCond .eq 10, 3) := by decide +kernel
theorem d_QC_node_116 : decode b_QC_node 116 = .ok (.aload_n 3, 1) := by decide +kernel
theorem d_QC_node_117 : decode b_QC_node 117 = .ok (.getfield 242, 3) := by decide +kernel
theorem d_QC_node_120 : decode b_QC_node 120 = .ok (.goto 4, 3) := by decide +kernel
theorem d_QC_node_123 : decode b_QC_node 123 = .ok (.iconst 0, 1) := by decide +kernel
theorem d_QC_node_124 : decode b_QC_node 124 = .ok (.ireturn, 1) := by decide +kernel
theorem d_QC_node_125 : decode b_QC_node 125 = .ok (.aload_n 3, 1) := by decide +kernel
theorem d_QC_node_126 : decode b_QC_node 126 = .ok (.getfield 76, 3) := by decide +kernel
theorem d_QC_node_129 : decode b_QC_node 129 = .ok (.ifCond .eq 10, 3) := by decide +kernel
theorem d_QC_node_132 : decode b_QC_node 132 = .ok (.aload_n 3, 1) := by decide +kernel
theorem d_QC_node_133 : decode b_QC_node 133 = .ok (.getfield 245, 3) := by decide +kernel
theorem d_QC_node_136 : decode b_QC_node 136 = .ok (.goto 4, 3) := by decide +kernel
theorem d_QC_node_139 : decode b_QC_node 139 = .ok (.iconst 0, 1) := by decide +kernel
theorem d_QC_node_140 : decode b_QC_node 140 = .ok (.ireturn, 1) := by decide +kernel
theorem d_QC_node_141 : decode b_QC_node 141 = .ok (.aload_n 3, 1) := by decide +kernel
theorem d_QC_node_142 : decode b_QC_node 142 = .ok (.getfield 76, 3) := by decide +kernel
theorem d_QC_node_145 : decode b_QC_node 145 = .ok (.ifCond .eq 10, 3) := by decide +kernel
theorem d_QC_node_148 : decode b_QC_node 148 = .ok (.aload_n 3, 1) := by decide +kernel
theorem d_QC_node_149 : decode b_QC_node 149 = .ok (.getfield 248, 3) := by decide +kernel
theorem d_QC_node_152 : decode b_QC_node 152 = .ok (.goto 4, 3) := by decide +kernel
theorem d_QC_node_155 : decode b_QC_node 155 = .ok (.iconst 0, 1) := by decide +kernel
theorem d_QC_node_156 : decode b_QC_node 156 = .ok (.ireturn, 1) := by decide +kernel
theorem d_QC_node_157 : decode b_QC_node 157 = .ok (.aload_n 3, 1) := by decide +kernel
theorem d_QC_node_158 : decode b_QC_node 158 = .ok (.getfield 179, 3) := by decide +kernel
theorem d_QC_node_161 : decode b_QC_node 161 = .ok (.getfield 251, 3) := by decide +kernel
theorem d_QC_node_164 : decode b_QC_node 164 = .ok (.ireturn, 1) := by decide +kernel
theorem d_QC_node_165 : decode b_QC_node 165 = .ok (.aload_n 3, 1) := by decide +kernel
theorem d_QC_node_166 : decode b_QC_node 166 = .ok (.getfield 179, 3) := by decide +kernel
theorem d_QC_node_169 : decode b_QC_node 169 = .ok (.getfield 254, 3) := by decide +kernel
theorem d_QC_node_172 : decode b_QC_node 172 = .ok (.ireturn, 1) := by decide +kernel
theorem d_QC_node_173 : decode b_QC_node 173 = .ok (.aload_n 3, 1) := by decide +kernel
theorem d_QC_node_174 : decode b_QC_node 174 = .ok (.getfield 179, 3) := by decide +kernel
theorem d_QC_node_177 : decode b_QC_node 177 = .ok (.getfield 183, 3) := by decide +kernel
theorem d_QC_node_180 : decode b_QC_node 180 = .ok (.getfield 257, 3) := by decide +kernel
theorem d_QC_node_183 : decode b_QC_node 183 = .ok (.ireturn, 1) := by decide +kernel
theorem d_QC_node_184 : decode b_QC_node 184 = .ok (.aload_n 3, 1) := by decide +kernel
theorem d_QC_node_185 : decode b_QC_node 185 = .ok (.getfield 179, 3) := by decide +kernel
theorem d_QC_node_188 : decode b_QC_node 188 = .ok (.getfield 260, 3) := by decide +kernel
theorem d_QC_node_191 : decode b_QC_node 191 = .ok (.ireturn, 1) := by decide +kernel
theorem d_QC_node_192 : decode b_QC_node 192 = .ok (.aload_n 3, 1) := by decide +kernel
theorem d_QC_node_193 : decode b_QC_node 193 = .ok (.getfield 179, 3) := by decide +kernel
theorem d_QC_node_196 : decode b_QC_node 196 = .ok (.getfield 263, 3) := by decide +kernel
theorem d_QC_node_199 : decode b_QC_node 199 = .ok (.ireturn, 1) := by decide +kernel
theorem d_QC_node_200 : decode b_QC_node 200 = .ok (.aload_n 3, 1) := by decide +kernel
theorem d_QC_node_201 : decode b_QC_node 201 = .ok (.getfield 76, 3) := by decide +kernel
theorem d_QC_node_204 : decode b_QC_node 204 = .ok (.ifCond .eq 10, 3) := by decide +kernel
theorem d_QC_node_207 : decode b_QC_node 207 = .ok (.aload_n 3, 1) := by decide +kernel
theorem d_QC_node_208 : decode b_QC_node 208 = .ok (.getfield 266, 3) := by decide +kernel
theorem d_QC_node_211 : decode b_QC_node 211 = .ok (.goto 4, 3) := by decide +kernel
theorem d_QC_node_214 : decode b_QC_node 214 = .ok (.iconst 0, 1) := by decide +kernel
theorem d_QC_node_215 : decode b_QC_node 215 = .ok (.ireturn, 1) := by decide +kernel
theorem d_QC_node_216 : decode b_QC_node 216 = .ok (.aload_n 3, 1) := by decide +kernel
theorem d_QC_node_217 : decode b_QC_node 217 = .ok (.getfield 99, 3) := by decide +kernel
theorem d_QC_node_220 : decode b_QC_node 220 = .ok (.getfield 103, 3) := by decide +kernel
theorem d_QC_node_223 : decode b_QC_node 223 = .ok (.ireturn, 1) := by decide +kernel
theorem d_QC_node_224 : decode b_QC_node 224 = .ok (.iconst (-1), 1) := by decide +kernel
theorem d_QC_node_225 : decode b_QC_node 225 = .ok (.ireturn, 1) := by decide +kernel
def f_QC_node (a1 : Int32) (a2 : Int32) (S : St) : Int32 :=
  lt (f_QC_isNode a1 S) fun (r1 : Int32) =>
  if r1 = 0 then
    (-1 : Int32)
  else
    if a2 = (0 : Int32) then
      if (S.1 3 (a1.toNatClampNeg) 0 7) = 0 then
        (0 : Int32)
      else
        (1 : Int32)
    else
      if a2 = (1 : Int32) then
        if (S.1 3 (a1.toNatClampNeg) 0 7) = 0 then
          (0 : Int32)
        else
          S.1 3 (a1.toNatClampNeg) 0 8
      else
        if a2 = (2 : Int32) then
          if (S.1 3 (a1.toNatClampNeg) 0 7) = 0 then
            (0 : Int32)
          else
            S.1 3 (a1.toNatClampNeg) 0 9
        else
          if a2 = (3 : Int32) then
            if (S.1 3 (a1.toNatClampNeg) 0 7) = 0 then
              (0 : Int32)
            else
              S.1 3 (a1.toNatClampNeg) 0 10
          else
            if a2 = (4 : Int32) then
              if (S.1 3 (a1.toNatClampNeg) 0 7) = 0 then
                (0 : Int32)
              else
                S.1 3 (a1.toNatClampNeg) 0 11
            else
              if a2 = (5 : Int32) then
                S.1 4 (a1.toNatClampNeg) 0 6
              else
                if a2 = (6 : Int32) then
                  S.1 4 (a1.toNatClampNeg) 0 7
                else
                  if a2 = (7 : Int32) then
                    S.1 10 (a1.toNatClampNeg) 0 3
                  else
                    if a2 = (8 : Int32) then
                      S.1 4 (a1.toNatClampNeg) 0 5
                    else
                      if a2 = (9 : Int32) then
                        S.1 4 (a1.toNatClampNeg) 0 4
                      else
                        if a2 = (10 : Int32) then
                          if (S.1 3 (a1.toNatClampNeg) 0 7) = 0 then
                            (0 : Int32)
                          else
                            S.1 3 (a1.toNatClampNeg) 0 6
                        else
                          if a2 = (11 : Int32) then
                            S.1 12 (a1.toNatClampNeg) 0 1
                          else
                            (-1 : Int32)
def ok_QC_node (a1 : Int32) (a2 : Int32) (S : St) : Prop :=
  lt (f_QC_isNode a1 S) fun (r1 : Int32) =>
  (r1 = 0 → (
    True)) ∧ (¬ (r1 = 0) → (
    (vp_in a1 4) ∧ (
      True)))
set_option maxHeartbeats 4000000 in
set_option maxRecDepth 100000 in
theorem c_QC_node (l : Launch) (D : va_G) (X : va_W) (ad : N3 → Nat) (ca : Nat → ClassId) (a1 : Int32) (a2 : Int32)  (S : St) (hk : ok_QC_node a1 a2 S) : cP l GG D clQ (tysQ ca) nwQ (zw X ad TQ (cfQ ad ca) S) y_QC_node b_QC_node 4 .int 1 20 [.ref (ad (1, 0, 0)), .int a1, .int a2] (.int (f_QC_node a1 a2 S)) := by
  generalize hr : f_QC_node a1 a2 S = res
  refine zP_of pn_QC (Nat.le_of_ble_eq_true rfl) (fun p e s m below meth c ls hy hW hl => ?_)
  have hF := hy.1
  have hx := hF.1
  have hb := hF.2.1
  have hK := hy.2.2.2
  have hl : lv_has ls 4 [(0, .ref (ad (1, 0, 0))), (1, .int a1), (2, .int a2)] := hl
  refine lv_iload_n (pc := 0) hx hb d_QC_node_0 rfl (lv_at hl 1 rfl) ?_
  obtain ⟨r1, er1⟩ : ∃ z : Int32, z = f_QC_isNode a1 S := ⟨_, rfl⟩
  have hk := lt_p er1 hk
  have hr := lt_e er1 hr
  refine p_go (pc := 1) (congrArg Value.int er1) (p_runS hF hK hW (c_QC_isNode l D X ad ca a1 S _) cd_QC_isNode gw_430 ⟨Nat.le_of_ble_eq_true rfl, Nat.le_of_ble_eq_true rfl⟩ ⟨Nat.zero_le _, Nat.zero_le _⟩ rfl rfl hl.1 (Nat.le_of_ble_eq_true rfl) d_QC_node_1) ?_
  refine lv_if_ne (pc := 4) (tgt := 9) hx hb d_QC_node_4 (by decide) (fun c2 => ?_) (fun c2 => ?_)
  · have hk := hk.2 c2
    have hr := (if_neg c2).symm.trans hr
    refine lv_aload_n (pc := 9) hx hb d_QC_node_9 rfl (lv_at hl 0 rfl) ?_
    refine z_get (pc := 10) (v := .ref (ad (2, 0, 0))) hF hK.1 hW tq1 rfl rfl in_QC 0 (by decide) gw_344 rfl rfl d_QC_node_10 ?_
    refine lv_iload_n (pc := 13) hx hb d_QC_node_13 rfl (lv_at hl 1 rfl) ?_
    have b3 := hk.1
    have hk := hk.2
    refine z_aald (pc := 14) (q := ad (3, (a1.toNatClampNeg), 0)) hF hK.1 hW tq2 3 rfl rfl b3 rfl d_QC_node_14 ?_
    refine lv_astore_n (pc := 15) (lv' := [(3, .ref (ad (3, (a1.toNatClampNeg), 0))), (0, .ref (ad (1, 0, 0))), (1, .int a1), (2, .int a2)]) hx hb d_QC_node_15 rfl hl (by decide) rfl (fun ls hl => ?_)
    refine lv_iload_n (pc := 16) hx hb d_QC_node_16 rfl (lv_at hl 3 rfl) ?_
    by_cases c4 : a2 = (0 : Int32)
    · have hr := (if_pos c4).symm.trans hr
      refine lv_tableIn (pc := 17) (tgt := 80) (off := 63) hx hb d_QC_node_17 (by (rw [c4]) <;> decide) (by (rw [c4]) <;> decide) (by (rw [c4]) <;> rfl) (by decide) ?_
      refine lv_aload_n (pc := 80) hx hb d_QC_node_80 rfl (lv_at hl 0 rfl) ?_
      refine z_get (pc := 81) (v := .int (S.1 3 (a1.toNatClampNeg) 0 7)) hF hK.1 hW (tq3 (vin4 b3)) rfl rfl in_Node 7 (by decide) gw_310 rfl rfl d_QC_node_81 ?_
      refine lv_if_eq (pc := 84) (tgt := 91) hx hb d_QC_node_84 (by decide) (fun c5 => ?_) (fun c5 => ?_)
      · have hr := (if_pos c5).symm.trans hr
        refine lv_iconst (pc := 91) (v := 0) hx hb d_QC_node_91 (by decide) ?_
        exact p_iret (v := (0 : Int32)) hy hr d_QC_node_92
      · have hr := (if_neg c5).symm.trans hr
        refine lv_iconst (pc := 87) (v := 1) hx hb d_QC_node_87 (by decide) ?_
        refine lv_goto (pc := 88) (tgt := 92) hx hb d_QC_node_88 (by decide) ?_
        exact p_iret (v := (1 : Int32)) hy hr d_QC_node_92
    · have hr := (if_neg c4).symm.trans hr
      by_cases c6 : a2 = (1 : Int32)
      · have hr := (if_pos c6).symm.trans hr
        refine lv_tableIn (pc := 17) (tgt := 93) (off := 76) hx hb d_QC_node_17 (by (rw [c6]) <;> decide) (by (rw [c6]) <;> decide) (by (rw [c6]) <;> rfl) (by decide) ?_
        refine lv_aload_n (pc := 93) hx hb d_QC_node_93 rfl (lv_at hl 0 rfl) ?_
        refine z_get (pc := 94) (v := .int (S.1 3 (a1.toNatClampNeg) 0 7)) hF hK.1 hW (tq3 (vin4 b3)) rfl rfl in_Node 7 (by decide) gw_310 rfl rfl d_QC_node_94 ?_
        refine lv_if_eq (pc := 97) (tgt := 107) hx hb d_QC_node_97 (by decide) (fun c7 => ?_) (fun c7 => ?_)
        · have hr := (if_pos c7).symm.trans hr
          refine lv_iconst (pc := 107) (v := 0) hx hb d_QC_node_107 (by decide) ?_
          exact p_iret (v := (0 : Int32)) hy hr d_QC_node_108
        · have hr := (if_neg c7).symm.trans hr
          refine lv_aload_n (pc := 100) hx hb d_QC_node_100 rfl (lv_at hl 0 rfl) ?_
          refine z_get (pc := 101) (v := .int (S.1 3 (a1.toNatClampNeg) 0 8)) hF hK.1 hW (tq3 (vin4 b3)) rfl rfl in_Node 8 (by decide) gw_312 rfl rfl d_QC_node_101 ?_
          refine lv_goto (pc := 104) (tgt := 108) hx hb d_QC_node_104 (by decide) ?_
          exact p_iret (v := S.1 3 (a1.toNatClampNeg) 0 8) hy hr d_QC_node_108
      · have hr := (if_neg c6).symm.trans hr
        by_cases c8 : a2 = (2 : Int32)
        · have hr := (if_pos c8).symm.trans hr
          refine lv_tableIn (pc := 17) (tgt := 109) (off := 92) hx hb d_QC_node_17 (by (rw [c8]) <;> decide) (by (rw [c8]) <;> decide) (by (rw [c8]) <;> rfl) (by decide) ?_
          refine lv_aload_n (pc := 109) hx hb d_QC_node_109 rfl (lv_at hl 0 rfl) ?_
          refine z_get (pc := 110) (v := .int (S.1 3 (a1.toNatClampNeg) 0 7)) hF hK.1 hW (tq3 (vin4 b3)) rfl rfl in_Node 7 (by decide) gw_310 rfl rfl d_QC_node_110 ?_
          refine lv_if_eq (pc := 113) (tgt := 123) hx hb d_QC_node_113 (by decide) (fun c9 => ?_) (fun c9 => ?_)
          · have hr := (if_pos c9).symm.trans hr
            refine lv_iconst (pc := 123) (v := 0) hx hb d_QC_node_123 (by decide) ?_
            exact p_iret (v := (0 : Int32)) hy hr d_QC_node_124
          · have hr := (if_neg c9).symm.trans hr
            refine lv_aload_n (pc := 116) hx hb d_QC_node_116 rfl (lv_at hl 0 rfl) ?_
            refine z_get (pc := 117) (v := .int (S.1 3 (a1.toNatClampNeg) 0 9)) hF hK.1 hW (tq3 (vin4 b3)) rfl rfl in_Node 9 (by decide) gw_314 rfl rfl d_QC_node_117 ?_
            refine lv_goto (pc := 120) (tgt := 124) hx hb d_QC_node_120 (by decide) ?_
            exact p_iret (v := S.1 3 (a1.toNatClampNeg) 0 9) hy hr d_QC_node_124
        · have hr := (if_neg c8).symm.trans hr
          by_cases c10 : a2 = (3 : Int32)
          · have hr := (if_pos c10).symm.trans hr
            refine lv_tableIn (pc := 17) (tgt := 125) (off := 108) hx hb d_QC_node_17 (by (rw [c10]) <;> decide) (by (rw [c10]) <;> decide) (by (rw [c10]) <;> rfl) (by decide) ?_
            refine lv_aload_n (pc := 125) hx hb d_QC_node_125 rfl (lv_at hl 0 rfl) ?_
            refine z_get (pc := 126) (v := .int (S.1 3 (a1.toNatClampNeg) 0 7)) hF hK.1 hW (tq3 (vin4 b3)) rfl rfl in_Node 7 (by decide) gw_310 rfl rfl d_QC_node_126 ?_
            refine lv_if_eq (pc := 129) (tgt := 139) hx hb d_QC_node_129 (by decide) (fun c11 => ?_) (fun c11 => ?_)
            · have hr := (if_pos c11).symm.trans hr
              refine lv_iconst (pc := 139) (v := 0) hx hb d_QC_node_139 (by decide) ?_
              exact p_iret (v := (0 : Int32)) hy hr d_QC_node_140
            · have hr := (if_neg c11).symm.trans hr
              refine lv_aload_n (pc := 132) hx hb d_QC_node_132 rfl (lv_at hl 0 rfl) ?_
              refine z_get (pc := 133) (v := .int (S.1 3 (a1.toNatClampNeg) 0 10)) hF hK.1 hW (tq3 (vin4 b3)) rfl rfl in_Node 10 (by decide) gw_316 rfl rfl d_QC_node_133 ?_
              refine lv_goto (pc := 136) (tgt := 140) hx hb d_QC_node_136 (by decide) ?_
              exact p_iret (v := S.1 3 (a1.toNatClampNeg) 0 10) hy hr d_QC_node_140
          · have hr := (if_neg c10).symm.trans hr
            by_cases c12 : a2 = (4 : Int32)
            · have hr := (if_pos c12).symm.trans hr
              refine lv_tableIn (pc := 17) (tgt := 141) (off := 124) hx hb d_QC_node_17 (by (rw [c12]) <;> decide) (by (rw [c12]) <;> decide) (by (rw [c12]) <;> rfl) (by decide) ?_
              refine lv_aload_n (pc := 141) hx hb d_QC_node_141 rfl (lv_at hl 0 rfl) ?_
              refine z_get (pc := 142) (v := .int (S.1 3 (a1.toNatClampNeg) 0 7)) hF hK.1 hW (tq3 (vin4 b3)) rfl rfl in_Node 7 (by decide) gw_310 rfl rfl d_QC_node_142 ?_
              refine lv_if_eq (pc := 145) (tgt := 155) hx hb d_QC_node_145 (by decide) (fun c13 => ?_) (fun c13 => ?_)
              · have hr := (if_pos c13).symm.trans hr
                refine lv_iconst (pc := 155) (v := 0) hx hb d_QC_node_155 (by decide) ?_
                exact p_iret (v := (0 : Int32)) hy hr d_QC_node_156
              · have hr := (if_neg c13).symm.trans hr
                refine lv_aload_n (pc := 148) hx hb d_QC_node_148 rfl (lv_at hl 0 rfl) ?_
                refine z_get (pc := 149) (v := .int (S.1 3 (a1.toNatClampNeg) 0 11)) hF hK.1 hW (tq3 (vin4 b3)) rfl rfl in_Node 11 (by decide) gw_318 rfl rfl d_QC_node_149 ?_
                refine lv_goto (pc := 152) (tgt := 156) hx hb d_QC_node_152 (by decide) ?_
                exact p_iret (v := S.1 3 (a1.toNatClampNeg) 0 11) hy hr d_QC_node_156
            · have hr := (if_neg c12).symm.trans hr
              by_cases c14 : a2 = (5 : Int32)
              · have hr := (if_pos c14).symm.trans hr
                refine lv_tableIn (pc := 17) (tgt := 157) (off := 140) hx hb d_QC_node_17 (by (rw [c14]) <;> decide) (by (rw [c14]) <;> decide) (by (rw [c14]) <;> rfl) (by decide) ?_
                refine lv_aload_n (pc := 157) hx hb d_QC_node_157 rfl (lv_at hl 0 rfl) ?_
                refine z_get (pc := 158) (v := .ref (ad (4, (a1.toNatClampNeg), 0))) hF hK.1 hW (tq3 (vin4 b3)) rfl rfl in_Node 1 (by decide) gw_298 rfl rfl d_QC_node_158 ?_
                refine z_get (pc := 161) (v := .int (S.1 4 (a1.toNatClampNeg) 0 6)) hF hK.1 hW (tq4 (vin4 b3)) rfl rfl in_Store 6 (by decide) gw_276 rfl rfl d_QC_node_161 ?_
                exact p_iret (v := S.1 4 (a1.toNatClampNeg) 0 6) hy hr d_QC_node_164
              · have hr := (if_neg c14).symm.trans hr
                by_cases c15 : a2 = (6 : Int32)
                · have hr := (if_pos c15).symm.trans hr
                  refine lv_tableIn (pc := 17) (tgt := 165) (off := 148) hx hb d_QC_node_17 (by (rw [c15]) <;> decide) (by (rw [c15]) <;> decide) (by (rw [c15]) <;> rfl) (by decide) ?_
                  refine lv_aload_n (pc := 165) hx hb d_QC_node_165 rfl (lv_at hl 0 rfl) ?_
                  refine z_get (pc := 166) (v := .ref (ad (4, (a1.toNatClampNeg), 0))) hF hK.1 hW (tq3 (vin4 b3)) rfl rfl in_Node 1 (by decide) gw_298 rfl rfl d_QC_node_166 ?_
                  refine z_get (pc := 169) (v := .int (S.1 4 (a1.toNatClampNeg) 0 7)) hF hK.1 hW (tq4 (vin4 b3)) rfl rfl in_Store 7 (by decide) gw_277 rfl rfl d_QC_node_169 ?_
                  exact p_iret (v := S.1 4 (a1.toNatClampNeg) 0 7) hy hr d_QC_node_172
                · have hr := (if_neg c15).symm.trans hr
                  by_cases c16 : a2 = (7 : Int32)
                  · have hr := (if_pos c16).symm.trans hr
                    refine lv_tableIn (pc := 17) (tgt := 173) (off := 156) hx hb d_QC_node_17 (by (rw [c16]) <;> decide) (by (rw [c16]) <;> decide) (by (rw [c16]) <;> rfl) (by decide) ?_
                    refine lv_aload_n (pc := 173) hx hb d_QC_node_173 rfl (lv_at hl 0 rfl) ?_
                    refine z_get (pc := 174) (v := .ref (ad (4, (a1.toNatClampNeg), 0))) hF hK.1 hW (tq3 (vin4 b3)) rfl rfl in_Node 1 (by decide) gw_298 rfl rfl d_QC_node_174 ?_
                    refine z_get (pc := 177) (v := .ref (ad (10, (a1.toNatClampNeg), 0))) hF hK.1 hW (tq4 (vin4 b3)) rfl rfl in_Store 3 (by decide) gw_270 rfl rfl d_QC_node_177 ?_
                    refine z_get (pc := 180) (v := .int (S.1 10 (a1.toNatClampNeg) 0 3)) hF hK.1 hW (tq10 (vin4 b3)) rfl rfl in_KeyTree 3 (by decide) gw_254 rfl rfl d_QC_node_180 ?_
                    exact p_iret (v := S.1 10 (a1.toNatClampNeg) 0 3) hy hr d_QC_node_183
                  · have hr := (if_neg c16).symm.trans hr
                    by_cases c17 : a2 = (8 : Int32)
                    · have hr := (if_pos c17).symm.trans hr
                      refine lv_tableIn (pc := 17) (tgt := 184) (off := 167) hx hb d_QC_node_17 (by (rw [c17]) <;> decide) (by (rw [c17]) <;> decide) (by (rw [c17]) <;> rfl) (by decide) ?_
                      refine lv_aload_n (pc := 184) hx hb d_QC_node_184 rfl (lv_at hl 0 rfl) ?_
                      refine z_get (pc := 185) (v := .ref (ad (4, (a1.toNatClampNeg), 0))) hF hK.1 hW (tq3 (vin4 b3)) rfl rfl in_Node 1 (by decide) gw_298 rfl rfl d_QC_node_185 ?_
                      refine z_get (pc := 188) (v := .int (S.1 4 (a1.toNatClampNeg) 0 5)) hF hK.1 hW (tq4 (vin4 b3)) rfl rfl in_Store 5 (by decide) gw_274 rfl rfl d_QC_node_188 ?_
                      exact p_iret (v := S.1 4 (a1.toNatClampNeg) 0 5) hy hr d_QC_node_191
                    · have hr := (if_neg c17).symm.trans hr
                      by_cases c18 : a2 = (9 : Int32)
                      · have hr := (if_pos c18).symm.trans hr
                        refine lv_tableIn (pc := 17) (tgt := 192) (off := 175) hx hb d_QC_node_17 (by (rw [c18]) <;> decide) (by (rw [c18]) <;> decide) (by (rw [c18]) <;> rfl) (by decide) ?_
                        refine lv_aload_n (pc := 192) hx hb d_QC_node_192 rfl (lv_at hl 0 rfl) ?_
                        refine z_get (pc := 193) (v := .ref (ad (4, (a1.toNatClampNeg), 0))) hF hK.1 hW (tq3 (vin4 b3)) rfl rfl in_Node 1 (by decide) gw_298 rfl rfl d_QC_node_193 ?_
                        refine z_get (pc := 196) (v := .int (S.1 4 (a1.toNatClampNeg) 0 4)) hF hK.1 hW (tq4 (vin4 b3)) rfl rfl in_Store 4 (by decide) gw_272 rfl rfl d_QC_node_196 ?_
                        exact p_iret (v := S.1 4 (a1.toNatClampNeg) 0 4) hy hr d_QC_node_199
                      · have hr := (if_neg c18).symm.trans hr
                        by_cases c19 : a2 = (10 : Int32)
                        · have hr := (if_pos c19).symm.trans hr
                          refine lv_tableIn (pc := 17) (tgt := 200) (off := 183) hx hb d_QC_node_17 (by (rw [c19]) <;> decide) (by (rw [c19]) <;> decide) (by (rw [c19]) <;> rfl) (by decide) ?_
                          refine lv_aload_n (pc := 200) hx hb d_QC_node_200 rfl (lv_at hl 0 rfl) ?_
                          refine z_get (pc := 201) (v := .int (S.1 3 (a1.toNatClampNeg) 0 7)) hF hK.1 hW (tq3 (vin4 b3)) rfl rfl in_Node 7 (by decide) gw_310 rfl rfl d_QC_node_201 ?_
                          refine lv_if_eq (pc := 204) (tgt := 214) hx hb d_QC_node_204 (by decide) (fun c20 => ?_) (fun c20 => ?_)
                          · have hr := (if_pos c20).symm.trans hr
                            refine lv_iconst (pc := 214) (v := 0) hx hb d_QC_node_214 (by decide) ?_
                            exact p_iret (v := (0 : Int32)) hy hr d_QC_node_215
                          · have hr := (if_neg c20).symm.trans hr
                            refine lv_aload_n (pc := 207) hx hb d_QC_node_207 rfl (lv_at hl 0 rfl) ?_
                            refine z_get (pc := 208) (v := .int (S.1 3 (a1.toNatClampNeg) 0 6)) hF hK.1 hW (tq3 (vin4 b3)) rfl rfl in_Node 6 (by decide) gw_308 rfl rfl d_QC_node_208 ?_
                            refine lv_goto (pc := 211) (tgt := 215) hx hb d_QC_node_211 (by decide) ?_
                            exact p_iret (v := S.1 3 (a1.toNatClampNeg) 0 6) hy hr d_QC_node_215
                        · have hr := (if_neg c19).symm.trans hr
                          by_cases c21 : a2 = (11 : Int32)
                          · have hr := (if_pos c21).symm.trans hr
                            refine lv_tableIn (pc := 17) (tgt := 216) (off := 199) hx hb d_QC_node_17 (by (rw [c21]) <;> decide) (by (rw [c21]) <;> decide) (by (rw [c21]) <;> rfl) (by decide) ?_
                            refine lv_aload_n (pc := 216) hx hb d_QC_node_216 rfl (lv_at hl 0 rfl) ?_
                            refine z_get (pc := 217) (v := .ref (ad (12, (a1.toNatClampNeg), 0))) hF hK.1 hW (tq3 (vin4 b3)) rfl rfl in_Node 2 (by decide) gw_300 rfl rfl d_QC_node_217 ?_
                            refine z_get (pc := 220) (v := .int (S.1 12 (a1.toNatClampNeg) 0 1)) hF hK.1 hW (tq12 (vin4 b3)) rfl rfl in_Inbox 1 (by decide) gw_182 rfl rfl d_QC_node_220 ?_
                            exact p_iret (v := S.1 12 (a1.toNatClampNeg) 0 1) hy hr d_QC_node_223
                          · have hr := (if_neg c21).symm.trans hr
                            have ho : a2.toInt < (0 : Int) ∨ (11 : Int) < a2.toInt := z_swl (0) (11) (fun k h1 h2 => by
                              rcases (show k = 0 ∨ k = 1 ∨ k = 2 ∨ k = 3 ∨ k = 4 ∨ k = 5 ∨ k = 6 ∨ k = 7 ∨ k = 8 ∨ k = 9 ∨ k = 10 ∨ k = 11 by omega) with rfl | rfl | rfl | rfl | rfl | rfl | rfl | rfl | rfl | rfl | rfl | rfl
                              · exact lv_neT c4 (by decide)
                              · exact lv_neT c6 (by decide)
                              · exact lv_neT c8 (by decide)
                              · exact lv_neT c10 (by decide)
                              · exact lv_neT c12 (by decide)
                              · exact lv_neT c14 (by decide)
                              · exact lv_neT c15 (by decide)
                              · exact lv_neT c16 (by decide)
                              · exact lv_neT c17 (by decide)
                              · exact lv_neT c18 (by decide)
                              · exact lv_neT c19 (by decide)
                              · exact lv_neT c21 (by decide))
                            refine lv_tableOut (pc := 17) (tgt := 224) hx hb d_QC_node_17 ho (by decide) ?_
                            refine lv_iconst (pc := 224) (v := -1) hx hb d_QC_node_224 (by decide) ?_
                            exact p_iret (v := (-1 : Int32)) hy hr d_QC_node_225
  · have hk := hk.1 c2
    have hr := (if_pos c2).symm.trans hr
    refine lv_iconst (pc := 7) (v := -1) hx hb d_QC_node_7 (by decide) ?_
    exact p_iret (v := (-1 : Int32)) hy hr d_QC_node_8
