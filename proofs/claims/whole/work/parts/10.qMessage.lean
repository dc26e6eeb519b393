theorem d_Message_write_0 : decode b_Message_write 0 = .ok (.aload_n 0, 1) := by decide +kernel
theorem d_Message_write_1 : decode b_Message_write 1 = .ok (.iload_n 1, 1) := by decide +kernel
theorem d_Message_write_2 : decode b_Message_write 2 = .ok (.putfield 19, 3) := by decide +kernel
theorem d_Message_write_5 : decode b_Message_write 5 = .ok (.aload_n 0, 1) := by decide +kernel
theorem d_Message_write_6 : decode b_Message_write 6 = .ok (.iload_n 2, 1) := by decide +kernel
theorem d_Message_write_7 : decode b_Message_write 7 = .ok (.putfield 22, 3) := by decide +kernel
theorem d_Message_write_10 : decode b_Message_write 10 = .ok (.aload_n 0, 1) := by decide +kernel
theorem d_Message_write_11 : decode b_Message_write 11 = .ok (.iload_n 3, 1) := by decide +kernel
theorem d_Message_write_12 : decode b_Message_write 12 = .ok (.putfield 25, 3) := by decide +kernel
theorem d_Message_write_15 : decode b_Message_write 15 = .ok (.aload_n 0, 1) := by decide +kernel
theorem d_Message_write_16 : decode b_Message_write 16 = .ok (.iload 4, 2) := by decide +kernel
theorem d_Message_write_18 : decode b_Message_write 18 = .ok (.putfield 28, 3) := by decide +kernel
theorem d_Message_write_21 : decode b_Message_write 21 = .ok (.aload_n 0, 1) := by decide +kernel
theorem d_Message_write_22 : decode b_Message_write 22 = .ok (.iconst (-1), 1) := by decide +kernel
theorem d_Message_write_23 : decode b_Message_write 23 = .ok (.putfield 15, 3) := by decide +kernel
theorem d_Message_write_26 : decode b_Message_write 26 = .ok (.return_, 1) := by decide +kernel
def f_Message_write (i0 : Nat) (j0 : Nat) (a1 : Int32) (a2 : Int32) (a3 : Int32) (a4 : Int32) (S : St) : St :=
  lt (si S 14 i0 j0 1 a1) fun (S1 : St) =>
  lt (si S1 14 i0 j0 2 a2) fun (S2 : St) =>
  lt (si S2 14 i0 j0 3 a3) fun (S3 : St) =>
  lt (si S3 14 i0 j0 4 a4) fun (S4 : St) =>
  lt (si S4 14 i0 j0 5 (-1 : Int32)) fun (S5 : St) =>
  S5
set_option maxHeartbeats 4000000 in
set_option maxRecDepth 100000 in
theorem c_Message_write (l : Launch) (D : va_G) (X : va_W) (ad : N3 → Nat) (ca : Nat → ClassId) (i0 : Nat) (j0 : Nat) (a1 : Int32) (a2 : Int32) (a3 : Int32) (a4 : Int32) (h0 : inM i0 j0) (S : St) : cV l GG D clQ (tysQ ca) nwQ X ad TQ (cfQ ad ca) y_Message_write b_Message_write 5 0 0 [.ref (ad (14, i0, j0)), .int a1, .int a2, .int a3, .int a4] S (f_Message_write i0 j0 a1 a2 a3 a4 S) := by
  generalize hr : f_Message_write i0 j0 a1 a2 a3 a4 S = res
  refine zV_of pn_Message (Nat.le_of_ble_eq_true rfl) (fun p e s m below meth c A ls hy hW hA hl => ?_)
  have hF := hy.1
  have hx := hF.1
  have hb := hF.2.1
  have hK := hy.2.2.2
  have hl : lv_has ls 5 [(0, .ref (ad (14, i0, j0))), (1, .int a1), (2, .int a2), (3, .int a3), (4, .int a4)] := hl
  refine lv_aload_n (pc := 0) hx hb d_Message_write_0 rfl (lv_at hl 0 rfl) ?_
  refine lv_iload_n (pc := 1) hx hb d_Message_write_1 rfl (lv_at hl 1 rfl) ?_
  obtain ⟨S1, eS1⟩ : ∃ z : St, z = si S 14 i0 j0 1 a1 := ⟨_, rfl⟩
  have hr := lt_e eS1 hr
  refine z_put (pc := 2) (S' := S1) hF hK.1 hW (tq14 h0) rfl rfl in_Message t_Message tyo_Message nmo_Message 1 (by decide) gw_139 rfl rfl rfl rfl rfl (Nat.le_of_ble_eq_true rfl) (zs_si eS1 rfl) (zs_sio eS1) d_Message_write_2 (fun H locs (hW : Wd D clQ A s.heap (zw X ad TQ (cfQ ad ca) S1) H locs) => ?_)
  refine lv_aload_n (pc := 5) hx hb d_Message_write_5 rfl (lv_at hl 0 rfl) ?_
  refine lv_iload_n (pc := 6) hx hb d_Message_write_6 rfl (lv_at hl 2 rfl) ?_
  obtain ⟨S2, eS2⟩ : ∃ z : St, z = si S1 14 i0 j0 2 a2 := ⟨_, rfl⟩
  have hr := lt_e eS2 hr
  refine z_put (pc := 7) (S' := S2) hF hK.1 hW (tq14 h0) rfl rfl in_Message t_Message tyo_Message nmo_Message 2 (by decide) gw_141 rfl rfl rfl rfl rfl (Nat.le_of_ble_eq_true rfl) (zs_si eS2 rfl) (zs_sio eS2) d_Message_write_7 (fun H locs (hW : Wd D clQ A s.heap (zw X ad TQ (cfQ ad ca) S2) H locs) => ?_)
  refine lv_aload_n (pc := 10) hx hb d_Message_write_10 rfl (lv_at hl 0 rfl) ?_
  refine lv_iload_n (pc := 11) hx hb d_Message_write_11 rfl (lv_at hl 3 rfl) ?_
  obtain ⟨S3, eS3⟩ : ∃ z : St, z = si S2 14 i0 j0 3 a3 := ⟨_, rfl⟩
  have hr := lt_e eS3 hr
  refine z_put (pc := 12) (S' := S3) hF hK.1 hW (tq14 h0) rfl rfl in_Message t_Message tyo_Message nmo_Message 3 (by decide) gw_143 rfl rfl rfl rfl rfl (Nat.le_of_ble_eq_true rfl) (zs_si eS3 rfl) (zs_sio eS3) d_Message_write_12 (fun H locs (hW : Wd D clQ A s.heap (zw X ad TQ (cfQ ad ca) S3) H locs) => ?_)
  refine lv_aload_n (pc := 15) hx hb d_Message_write_15 rfl (lv_at hl 0 rfl) ?_
  refine lv_iload (pc := 16) hx hb d_Message_write_16 (lv_at hl 4 rfl) ?_
  obtain ⟨S4, eS4⟩ : ∃ z : St, z = si S3 14 i0 j0 4 a4 := ⟨_, rfl⟩
  have hr := lt_e eS4 hr
  refine z_put (pc := 18) (S' := S4) hF hK.1 hW (tq14 h0) rfl rfl in_Message t_Message tyo_Message nmo_Message 4 (by decide) gw_145 rfl rfl rfl rfl rfl (Nat.le_of_ble_eq_true rfl) (zs_si eS4 rfl) (zs_sio eS4) d_Message_write_18 (fun H locs (hW : Wd D clQ A s.heap (zw X ad TQ (cfQ ad ca) S4) H locs) => ?_)
  refine lv_aload_n (pc := 21) hx hb d_Message_write_21 rfl (lv_at hl 0 rfl) ?_
  refine lv_iconst (pc := 22) (v := -1) hx hb d_Message_write_22 (by decide) ?_
  obtain ⟨S5, eS5⟩ : ∃ z : St, z = si S4 14 i0 j0 5 (-1 : Int32) := ⟨_, rfl⟩
  have hr := lt_e eS5 hr
  refine z_put (pc := 23) (S' := S5) hF hK.1 hW (tq14 h0) rfl rfl in_Message t_Message tyo_Message nmo_Message 5 (by decide) gw_147 rfl rfl rfl rfl rfl (Nat.le_of_ble_eq_true rfl) (zs_si eS5 rfl) (zs_sio eS5) d_Message_write_23 (fun H locs (hW : Wd D clQ A s.heap (zw X ad TQ (cfQ ad ca) S5) H locs) => ?_)
  exact z_vret hy hW hr.symm d_Message_write_26
theorem d_KeyTree_isLeft_0 : decode b_KeyTree_isLeft 0 = .ok (.aload_n 0, 1) := by decide +kernel
theorem d_KeyTree_isLeft_1 : decode b_KeyTree_isLeft 1 = .ok (.getfield 32, 3) := by decide +kernel
theorem d_KeyTree_isLeft_4 : decode b_KeyTree_isLeft 4 = .ok (.bipush 32, 2) := by decide +kernel
theorem d_KeyTree_isLeft_6 : decode b_KeyTree_isLeft 6 = .ok (.if_icmp .ge 7, 3) := by decide +kernel
theorem d_KeyTree_isLeft_9 : decode b_KeyTree_isLeft 9 = .ok (.iconst 1, 1) := by decide +kernel
theorem d_KeyTree_isLeft_10 : decode b_KeyTree_isLeft 10 = .ok (.goto 4, 3) := by decide +kernel
theorem d_KeyTree_isLeft_13 : decode b_KeyTree_isLeft 13 = .ok (.iconst 0, 1) := by decide +kernel
theorem d_KeyTree_isLeft_14 : decode b_KeyTree_isLeft 14 = .ok (.ireturn, 1) := by decide +kernel
def f_KeyTree_isLeft (i0 : Nat) (S : St) : Int32 :=
  if (32 : Int32) ≤ (S.1 10 i0 0 3) then
    (0 : Int32)
  else
    (1 : Int32)
set_option maxHeartbeats 4000000 in
set_option maxRecDepth 100000 in
theorem c_KeyTree_isLeft (l : Launch) (D : va_G) (X : va_W) (ad : N3 → Nat) (ca : Nat → ClassId) (i0 : Nat) (h0 : i0 < 4) (S : St) : cP l GG D clQ (tysQ ca) nwQ (zw X ad TQ (cfQ ad ca) S) y_KeyTree_isLeft b_KeyTree_isLeft 1 .boolean 0 0 [.ref (ad (10, i0, 0))] (.int (f_KeyTree_isLeft i0 S)) := by
  generalize hr : f_KeyTree_isLeft i0 S = res
  refine zP_of pn_KeyTree (Nat.le_of_ble_eq_true rfl) (fun p e s m below meth c ls hy hW hl => ?_)
  have hF := hy.1
  have hx := hF.1
  have hb := hF.2.1
  have hK := hy.2.2.2
  have hl : lv_has ls 1 [(0, .ref (ad (10, i0, 0)))] := hl
  refine lv_aload_n (pc := 0) hx hb d_KeyTree_isLeft_0 rfl (lv_at hl 0 rfl) ?_
  refine z_get (pc := 1) (v := .int (S.1 10 i0 0 3)) hF hK.1 hW (tq10 h0) rfl rfl in_KeyTree 3 (by decide) gw_253 rfl rfl d_KeyTree_isLeft_1 ?_
  refine lv_bipush (pc := 4) (v := 32) hx hb d_KeyTree_isLeft_4 (by decide) ?_
  refine lv_icmp_ge (pc := 6) (tgt := 13) hx hb d_KeyTree_isLeft_6 (by decide) (fun c1 => ?_) (fun c1 => ?_)
  · have hr := (if_pos c1).symm.trans hr
    refine lv_iconst (pc := 13) (v := 0) hx hb d_KeyTree_isLeft_13 (by decide) ?_
    exact p_zret (v := (0 : Int32)) hy rfl hr d_KeyTree_isLeft_14
  · have hr := (if_neg c1).symm.trans hr
    refine lv_iconst (pc := 9) (v := 1) hx hb d_KeyTree_isLeft_9 (by decide) ?_
    refine lv_goto (pc := 10) (tgt := 14) hx hb d_KeyTree_isLeft_10 (by decide) ?_
    exact p_zret (v := (1 : Int32)) hy rfl hr d_KeyTree_isLeft_14
theorem d_Fold_absorb_0 : decode b_Fold_absorb 0 = .ok (.lload_n 0, 1) := by decide +kernel
theorem d_Fold_absorb_1 : decode b_Fold_absorb 1 = .ok (.lload_n 2, 1) := by decide +kernel
theorem d_Fold_absorb_2 : decode b_Fold_absorb 2 = .ok (.lxor, 1) := by decide +kernel
theorem d_Fold_absorb_3 : decode b_Fold_absorb 3 = .ok (.ldc2_w 9, 3) := by decide +kernel
theorem d_Fold_absorb_6 : decode b_Fold_absorb 6 = .ok (.lmul, 1) := by decide +kernel
theorem d_Fold_absorb_7 : decode b_Fold_absorb 7 = .ok (.lstore 4, 2) := by decide +kernel
theorem d_Fold_absorb_9 : decode b_Fold_absorb 9 = .ok (.lload 4, 2) := by decide +kernel
theorem d_Fold_absorb_11 : decode b_Fold_absorb 11 = .ok (.lload 4, 2) := by decide +kernel
theorem d_Fold_absorb_13 : decode b_Fold_absorb 13 = .ok (.bipush 29, 2) := by decide +kernel
theorem d_Fold_absorb_15 : decode b_Fold_absorb 15 = .ok (.lushr, 1) := by decide +kernel
theorem d_Fold_absorb_16 : decode b_Fold_absorb 16 = .ok (.lxor, 1) := by decide +kernel
theorem d_Fold_absorb_17 : decode b_Fold_absorb 17 = .ok (.lreturn, 1) := by decide +kernel
def f_Fold_absorb (a0 : Int64) (a2 : Int64) (S : St) : Int64 :=
  ((a0 ^^^ a2) * (-4417276706812531889 : Int64)) ^^^ ((((a0 ^^^ a2) * (-4417276706812531889 : Int64)).toUInt64 >>> ((29 : Int32).toInt64.toUInt64 &&& Int64.toUInt64 63)).toInt64)
set_option maxHeartbeats 4000000 in
set_option maxRecDepth 100000 in
theorem c_Fold_absorb (l : Launch) (D : va_G) (X : va_W) (ad : N3 → Nat) (ca : Nat → ClassId) (a0 : Int64) (a2 : Int64)  (S : St) : cP l GG D clQ (tysQ ca) nwQ (zw X ad TQ (cfQ ad ca) S) y_Fold_absorb b_Fold_absorb 6 .long 0 0 [.long a0, .long a2] (.long (f_Fold_absorb a0 a2 S)) := by
  generalize hr : f_Fold_absorb a0 a2 S = res
  refine zP_of pn_Fold (Nat.le_of_ble_eq_true rfl) (fun p e s m below meth c ls hy hW hl => ?_)
  have hF := hy.1
  have hx := hF.1
  have hb := hF.2.1
  have hK := hy.2.2.2
  have hl : lv_has ls 6 [(0, .long a0), (2, .long a2)] := hl
  refine lv_lload_n (pc := 0) hx hb d_Fold_absorb_0 rfl (lv_at hl 0 rfl) ?_
  refine lv_lload_n (pc := 1) hx hb d_Fold_absorb_1 rfl (lv_at hl 1 rfl) ?_
  refine lv_lxor (pc := 2) hx hb d_Fold_absorb_2 ?_
  refine lv_ldc2 (pc := 3) hx hb hF.2.2.2.1 (hF.2.2.2.2 _ gw_235) d_Fold_absorb_3 ?_
  refine lv_lmul (pc := 6) hx hb d_Fold_absorb_6 ?_
  refine lv_lstore (pc := 7) (lv' := [(4, .long ((a0 ^^^ a2) * (-4417276706812531889 : Int64))), (0, .long a0), (2, .long a2)]) hx hb d_Fold_absorb_7 hl (by decide) rfl (fun ls hl => ?_)
  refine lv_lload (pc := 9) hx hb d_Fold_absorb_9 (lv_at hl 0 rfl) ?_
  refine lv_lload (pc := 11) hx hb d_Fold_absorb_11 (lv_at hl 0 rfl) ?_
  refine lv_bipush (pc := 13) (v := 29) hx hb d_Fold_absorb_13 (by decide) ?_
  refine lv_lushr (pc := 15) hx hb d_Fold_absorb_15 rfl ?_
  refine lv_lxor (pc := 16) hx hb d_Fold_absorb_16 ?_
  exact p_lret (v := ((a0 ^^^ a2) * (-4417276706812531889 : Int64)) ^^^ ((((a0 ^^^ a2) * (-4417276706812531889 : Int64)).toUInt64 >>> ((29 : Int32).toInt64.toUInt64 &&& Int64.toUInt64 63)).toInt64)) hy hr d_Fold_absorb_17
theorem d_Fold_finish_0 : decode b_Fold_finish 0 = .ok (.lload_n 0, 1) := by decide +kernel
theorem d_Fold_finish_1 : decode b_Fold_finish 1 = .ok (.ldc2_w 11, 3) := by decide +kernel
theorem d_Fold_finish_4 : decode b_Fold_finish 4 = .ok (.lmul, 1) := by decide +kernel
theorem d_Fold_finish_5 : decode b_Fold_finish 5 = .ok (.lstore_n 2, 1) := by decide +kernel
theorem d_Fold_finish_6 : decode b_Fold_finish 6 = .ok (.lload_n 2, 1) := by decide +kernel
theorem d_Fold_finish_7 : decode b_Fold_finish 7 = .ok (.lload_n 2, 1) := by decide +kernel
theorem d_Fold_finish_8 : decode b_Fold_finish 8 = .ok (.bipush 32, 2) := by decide +kernel
theorem d_Fold_finish_10 : decode b_Fold_finish 10 = .ok (.lushr, 1) := by decide +kernel
theorem d_Fold_finish_11 : decode b_Fold_finish 11 = .ok (.lxor, 1) := by decide +kernel
theorem d_Fold_finish_12 : decode b_Fold_finish 12 = .ok (.lreturn, 1) := by decide +kernel
def f_Fold_finish (a0 : Int64) (S : St) : Int64 :=
  (a0 * (1609587929392839161 : Int64)) ^^^ (((a0 * (1609587929392839161 : Int64)).toUInt64 >>> ((32 : Int32).toInt64.toUInt64 &&& Int64.toUInt64 63)).toInt64)
set_option maxHeartbeats 4000000 in
set_option maxRecDepth 100000 in
theorem c_Fold_finish (l : Launch) (D : va_G) (X : va_W) (ad : N3 → Nat) (ca : Nat → ClassId) (a0 : Int64)  (S : St) : cP l GG D clQ (tysQ ca) nwQ (zw X ad TQ (cfQ ad ca) S) y_Fold_finish b_Fold_finish 4 .long 0 0 [.long a0] (.long (f_Fold_finish a0 S)) := by
  generalize hr : f_Fold_finish a0 S = res
  refine zP_of pn_Fold (Nat.le_of_ble_eq_true rfl) (fun p e s m below meth c ls hy hW hl => ?_)
  have hF := hy.1
  have hx := hF.1
  have hb := hF.2.1
  have hK := hy.2.2.2
  have hl : lv_has ls 4 [(0, .long a0)] := hl
  refine lv_lload_n (pc := 0) hx hb d_Fold_finish_0 rfl (lv_at hl 0 rfl) ?_
  refine lv_ldc2 (pc := 1) hx hb hF.2.2.2.1 (hF.2.2.2.2 _ gw_239) d_Fold_finish_1 ?_
  refine lv_lmul (pc := 4) hx hb d_Fold_finish_4 ?_
  refine lv_lstore_n (pc := 5) (lv' := [(2, .long (a0 * (1609587929392839161 : Int64))), (0, .long a0)]) hx hb d_Fold_finish_5 rfl hl (by decide) rfl (fun ls hl => ?_)
  refine lv_lload_n (pc := 6) hx hb d_Fold_finish_6 rfl (lv_at hl 0 rfl) ?_
  refine lv_lload_n (pc := 7) hx hb d_Fold_finish_7 rfl (lv_at hl 0 rfl) ?_
  refine lv_bipush (pc := 8) (v := 32) hx hb d_Fold_finish_8 (by decide) ?_
  refine lv_lushr (pc := 10) hx hb d_Fold_finish_10 rfl ?_
  refine lv_lxor (pc := 11) hx hb d_Fold_finish_11 ?_
  exact p_lret (v := (a0 * (1609587929392839161 : Int64)) ^^^ (((a0 * (1609587929392839161 : Int64)).toUInt64 >>> ((32 : Int32).toInt64.toUInt64 &&& Int64.toUInt64 63)).toInt64)) hy hr d_Fold_finish_12
theorem d_Message_meaning_0 : decode b_Message_meaning 0 = .ok (.ldc2_w 43, 3) := by decide +kernel
theorem d_Message_meaning_3 : decode b_Message_meaning 3 = .ok (.aload_n 0, 1) := by decide +kernel
theorem d_Message_meaning_4 : decode b_Message_meaning 4 = .ok (.getfield 19, 3) := by decide +kernel
theorem d_Message_meaning_7 : decode b_Message_meaning 7 = .ok (.i2l, 1) := by decide +kernel
theorem d_Message_meaning_8 : decode b_Message_meaning 8 = .ok (.invokestatic 45, 3) := by decide +kernel
theorem d_Message_meaning_11 : decode b_Message_meaning 11 = .ok (.lstore_n 1, 1) := by decide +kernel
theorem d_Message_meaning_12 : decode b_Message_meaning 12 = .ok (.aload_n 0, 1) := by decide +kernel
theorem d_Message_meaning_13 : decode b_Message_meaning 13 = .ok (.getfield 19, 3) := by decide +kernel
theorem d_Message_meaning_16 : decode b_Message_meaning 16 = .ok (.iconst 3, 1) := by decide +kernel
theorem d_Message_meaning_17 : decode b_Message_meaning 17 = .ok (.if_icmp .ne 13, 3) := by decide +kernel
theorem d_Message_meaning_20 : decode b_Message_meaning 20 = .ok (.lload_n 1, 1) := by decide +kernel
theorem d_Message_meaning_21 : decode b_Message_meaning 21 = .ok (.aload_n 0, 1) := by decide +kernel
theorem d_Message_meaning_22 : decode b_Message_meaning 22 = .ok (.getfield 28, 3) := by decide +kernel
theorem d_Message_meaning_25 : decode b_Message_meaning 25 = .ok (.i2l, 1) := by decide +kernel
theorem d_Message_meaning_26 : decode b_Message_meaning 26 = .ok (.invokestatic 45, 3) := by decide +kernel
theorem d_Message_meaning_29 : decode b_Message_meaning 29 = .ok (.lstore_n 1, 1) := by decide +kernel
theorem d_Message_meaning_30 : decode b_Message_meaning 30 = .ok (.lload_n 1, 1) := by decide +kernel
theorem d_Message_meaning_31 : decode b_Message_meaning 31 = .ok (.aload_n 0, 1) := by decide +kernel
theorem d_Message_meaning_32 : decode b_Message_meaning 32 = .ok (.getfield 25, 3) := by decide +kernel
theorem d_Message_meaning_35 : decode b_Message_meaning 35 = .ok (.i2l, 1) := by decide +kernel
theorem d_Message_meaning_36 : decode b_Message_meaning 36 = .ok (.invokestatic 45, 3) := by decide +kernel
theorem d_Message_meaning_39 : decode b_Message_meaning 39 = .ok (.invokestatic 49, 3) := by decide +kernel
theorem d_Message_meaning_42 : decode b_Message_meaning 42 = .ok (.lreturn, 1) := by decide +kernel
def f_Message_meaning_30 (i0 : Nat) (j0 : Nat) (S : St) (l1 : Int64) : Int64 :=
  lt (f_Fold_absorb l1 ((S.1 14 i0 j0 3).toInt64) S) fun (r4 : Int64) =>
  lt (f_Fold_finish r4 S) fun (r5 : Int64) =>
  r5
def ok_Message_meaning_30 (i0 : Nat) (j0 : Nat) (S : St) (l1 : Int64) : Prop :=
  True
set_option maxHeartbeats 4000000 in
set_option maxRecDepth 100000 in
theorem w_Message_meaning_30 {l : Launch} {D : va_G} {X : va_W} {ad : N3 → Nat} {ca : Nat → ClassId} (i0 : Nat) (j0 : Nat) (h0 : inM i0 j0) (S : St) {p : Program} {e : Env} {s : State} {m : MethodId} {below : List Frame} {meth : Method} {c : Code} (hy : Hy p s m ([.ref (ad (14, i0, j0))] : List Value).toArray meth c b_Message_meaning 3 (some .long) R_Message GG D clQ (tysQ ca) nwQ) (hW : Wd D clQ (fun _ => True) s.heap (zw X ad TQ (cfQ ad ca) S) s.heap []) {res : Int64} : ∀  (l1 : Int64) , ok_Message_meaning_30 i0 j0 S l1 → f_Message_meaning_30 i0 j0 S l1 = res → ∀ (ls : Array Slot), lv_has ls 3 [(0, .ref (ad (14, i0, j0))), (1, .long l1)] → W p l e { frames := 1, cells := 0, slots := 0, locals := 25 } s m ([.ref (ad (14, i0, j0))] : List Value).toArray below meth c s.heap [] 0 0 (MQ below (eP (.long res)) ([.ref (ad (14, i0, j0))] : List Value).toArray s 0 0 nof) (F0 m 30 ls []) := by
  have hF := hy.1
  have hx := hF.1
  have hb := hF.2.1
  have hK := hy.2.2.2
  intro l1 hk hr ls hl
  refine lv_lload_n (pc := 30) hx hb d_Message_meaning_30 rfl (lv_at hl 1 rfl) ?_
  refine lv_aload_n (pc := 31) hx hb d_Message_meaning_31 rfl (lv_at hl 0 rfl) ?_
  refine z_get (pc := 32) (v := .int (S.1 14 i0 j0 3)) hF hK.1 hW (tq14 h0) rfl rfl in_Message 3 (by decide) gw_143 rfl rfl d_Message_meaning_32 ?_
  refine lv_i2l (pc := 35) hx hb d_Message_meaning_35 rfl ?_
  obtain ⟨r4, er4⟩ : ∃ z : Int64, z = f_Fold_absorb l1 ((S.1 14 i0 j0 3).toInt64) S := ⟨_, rfl⟩
  have hr := lt_e er4 hr
  refine p_go (pc := 36) (congrArg Value.long er4) (p_runS hF hK hW (c_Fold_absorb l D X ad ca l1 ((S.1 14 i0 j0 3).toInt64) S _) cd_Fold_absorb gw_398 ⟨Nat.le_of_ble_eq_true rfl, Nat.le_of_ble_eq_true rfl⟩ ⟨Nat.zero_le _, Nat.zero_le _⟩ rfl rfl hl.1 (Nat.le_of_ble_eq_true rfl) d_Message_meaning_36) ?_
  obtain ⟨r5, er5⟩ : ∃ z : Int64, z = f_Fold_finish r4 S := ⟨_, rfl⟩
  have hr := lt_e er5 hr
  refine p_go (pc := 39) (congrArg Value.long er5) (p_runS hF hK hW (c_Fold_finish l D X ad ca r4 S _) cd_Fold_finish gw_399 ⟨Nat.le_of_ble_eq_true rfl, Nat.le_of_ble_eq_true rfl⟩ ⟨Nat.zero_le _, Nat.zero_le _⟩ rfl rfl hl.1 (Nat.le_of_ble_eq_true rfl) d_Message_meaning_39) ?_
  exact p_lret (v := r5) hy hr d_Message_meaning_42
def f_Message_meaning (i0 : Nat) (j0 : Nat) (S : St) : Int64 :=
  lt (f_Fold_absorb (-7046029254386353131 : Int64) ((S.1 14 i0 j0 1).toInt64) S) fun (r1 : Int64) =>
  if (S.1 14 i0 j0 1) = (3 : Int32) then
    lt (f_Fold_absorb r1 ((S.1 14 i0 j0 4).toInt64) S) fun (r3 : Int64) =>
    f_Message_meaning_30 i0 j0 S r3
  else
    f_Message_meaning_30 i0 j0 S r1
def ok_Message_meaning (i0 : Nat) (j0 : Nat) (S : St) : Prop :=
  lt (f_Fold_absorb (-7046029254386353131 : Int64) ((S.1 14 i0 j0 1).toInt64) S) fun (r1 : Int64) =>
  ((S.1 14 i0 j0 1) = (3 : Int32) → (
    lt (f_Fold_absorb r1 ((S.1 14 i0 j0 4).toInt64) S) fun (r3 : Int64) =>
    ok_Message_meaning_30 i0 j0 S r3)) ∧ (¬ ((S.1 14 i0 j0 1) = (3 : Int32)) → (
    ok_Message_meaning_30 i0 j0 S r1))
set_option maxHeartbeats 4000000 in
set_option maxRecDepth 100000 in
theorem c_Message_meaning (l : Launch) (D : va_G) (X : va_W) (ad : N3 → Nat) (ca : Nat → ClassId) (i0 : Nat) (j0 : Nat) (h0 : inM i0 j0) (S : St) (hk : ok_Message_meaning i0 j0 S) : cP l GG D clQ (tysQ ca) nwQ (zw X ad TQ (cfQ ad ca) S) y_Message_meaning b_Message_meaning 3 .long 1 25 [.ref (ad (14, i0, j0))] (.long (f_Message_meaning i0 j0 S)) := by
  generalize hr : f_Message_meaning i0 j0 S = res
  refine zP_of pn_Message (Nat.le_of_ble_eq_true rfl) (fun p e s m below meth c ls hy hW hl => ?_)
  have hF := hy.1
  have hx := hF.1
  have hb := hF.2.1
  have hK := hy.2.2.2
  have hl : lv_has ls 3 [(0, .ref (ad (14, i0, j0)))] := hl
  refine lv_ldc2 (pc := 0) hx hb hF.2.2.2.1 (hF.2.2.2.2 _ gw_397) d_Message_meaning_0 ?_
  refine lv_aload_n (pc := 3) hx hb d_Message_meaning_3 rfl (lv_at hl 0 rfl) ?_
  refine z_get (pc := 4) (v := .int (S.1 14 i0 j0 1)) hF hK.1 hW (tq14 h0) rfl rfl in_Message 1 (by decide) gw_139 rfl rfl d_Message_meaning_4 ?_
  refine lv_i2l (pc := 7) hx hb d_Message_meaning_7 rfl ?_
  obtain ⟨r1, er1⟩ : ∃ z : Int64, z = f_Fold_absorb (-7046029254386353131 : Int64) ((S.1 14 i0 j0 1).toInt64) S := ⟨_, rfl⟩
  have hk := lt_p er1 hk
  have hr := lt_e er1 hr
  refine p_go (pc := 8) (congrArg Value.long er1) (p_runS hF hK hW (c_Fold_absorb l D X ad ca (-7046029254386353131 : Int64) ((S.1 14 i0 j0 1).toInt64) S _) cd_Fold_absorb gw_398 ⟨Nat.le_of_ble_eq_true rfl, Nat.le_of_ble_eq_true rfl⟩ ⟨Nat.zero_le _, Nat.zero_le _⟩ rfl rfl hl.1 (Nat.le_of_ble_eq_true rfl) d_Message_meaning_8) ?_
  refine lv_lstore_n (pc := 11) (lv' := [(1, .long r1), (0, .ref (ad (14, i0, j0)))]) hx hb d_Message_meaning_11 rfl hl (by decide) rfl (fun ls hl => ?_)
  refine lv_aload_n (pc := 12) hx hb d_Message_meaning_12 rfl (lv_at hl 1 rfl) ?_
  refine z_get (pc := 13) (v := .int (S.1 14 i0 j0 1)) hF hK.1 hW (tq14 h0) rfl rfl in_Message 1 (by decide) gw_139 rfl rfl d_Message_meaning_13 ?_
  refine lv_iconst (pc := 16) (v := 3) hx hb d_Message_meaning_16 (by decide) ?_
  refine lv_icmp_ne (pc := 17) (tgt := 30) hx hb d_Message_meaning_17 (by decide) (fun c2 => ?_) (fun c2 => ?_)
  · have hk := hk.2 c2
    have hr := (if_neg c2).symm.trans hr
    exact w_Message_meaning_30 i0 j0 h0 S hy hW r1 hk hr _ (lv_sub hl [1, 0] rfl)
  · have hk := hk.1 c2
    have hr := (if_pos c2).symm.trans hr
    refine lv_lload_n (pc := 20) hx hb d_Message_meaning_20 rfl (lv_at hl 0 rfl) ?_
    refine lv_aload_n (pc := 21) hx hb d_Message_meaning_21 rfl (lv_at hl 1 rfl) ?_
    refine z_get (pc := 22) (v := .int (S.1 14 i0 j0 4)) hF hK.1 hW (tq14 h0) rfl rfl in_Message 4 (by decide) gw_145 rfl rfl d_Message_meaning_22 ?_
    refine lv_i2l (pc := 25) hx hb d_Message_meaning_25 rfl ?_
    obtain ⟨r3, er3⟩ : ∃ z : Int64, z = f_Fold_absorb r1 ((S.1 14 i0 j0 4).toInt64) S := ⟨_, rfl⟩
    have hk := lt_p er3 hk
    have hr := lt_e er3 hr
    refine p_go (pc := 26) (congrArg Value.long er3) (p_runS hF hK hW (c_Fold_absorb l D X ad ca r1 ((S.1 14 i0 j0 4).toInt64) S _) cd_Fold_absorb gw_398 ⟨Nat.le_of_ble_eq_true rfl, Nat.le_of_ble_eq_true rfl⟩ ⟨Nat.zero_le _, Nat.zero_le _⟩ rfl rfl hl.1 (Nat.le_of_ble_eq_true rfl) d_Message_meaning_26) ?_
    refine lv_lstore_n (pc := 29) (lv' := [(1, .long r3), (0, .ref (ad (14, i0, j0)))]) hx hb d_Message_meaning_29 rfl hl (by decide) rfl (fun ls hl => ?_)
    exact w_Message_meaning_30 i0 j0 h0 S hy hW r3 hk hr _ (lv_sub hl [1, 0] rfl)
theorem d_KeyTree_digit_0 : decode b_KeyTree_digit 0 = .ok (.iload_n 0, 1) := by decide +kernel
theorem d_KeyTree_digit_1 : decode b_KeyTree_digit 1 = .ok (.iconst 4, 1) := by decide +kernel
theorem d_KeyTree_digit_2 : decode b_KeyTree_digit 2 = .ok (.iload_n 1, 1) := by decide +kernel
theorem d_KeyTree_digit_3 : decode b_KeyTree_digit 3 = .ok (.imul, 1) := by decide +kernel
theorem d_KeyTree_digit_4 : decode b_KeyTree_digit 4 = .ok (.iushr, 1) := by decide +kernel
theorem d_KeyTree_digit_5 : decode b_KeyTree_digit 5 = .ok (.bipush 15, 2) := by decide +kernel
theorem d_KeyTree_digit_7 : decode b_KeyTree_digit 7 = .ok (.iand, 1) := by decide +kernel
theorem d_KeyTree_digit_8 : decode b_KeyTree_digit 8 = .ok (.ireturn, 1) := by decide +kernel
def f_KeyTree_digit (a0 : Int32) (a1 : Int32) (S : St) : Int32 :=
  ((a0.toUInt32 >>> (((4 : Int32) * a1).toUInt32 &&& Int32.toUInt32 31)).toInt32) &&& (15 : Int32)
set_option maxHeartbeats 4000000 in
set_option maxRecDepth 100000 in
theorem c_KeyTree_digit (l : Launch) (D : va_G) (X : va_W) (ad : N3 → Nat) (ca : Nat → ClassId) (a0 : Int32) (a1 : Int32)  (S : St) : cP l GG D clQ (tysQ ca) nwQ (zw X ad TQ (cfQ ad ca) S) y_KeyTree_digit b_KeyTree_digit 2 .int 0 0 [.int a0, .int a1] (.int (f_KeyTree_digit a0 a1 S)) := by
  generalize hr : f_KeyTree_digit a0 a1 S = res
  refine zP_of pn_KeyTree (Nat.le_of_ble_eq_true rfl) (fun p e s m below meth c ls hy hW hl => ?_)
  have hF := hy.1
  have hx := hF.1
  have hb := hF.2.1
  have hK := hy.2.2.2
  have hl : lv_has ls 2 [(0, .int a0), (1, .int a1)] := hl
  refine lv_iload_n (pc := 0) hx hb d_KeyTree_digit_0 rfl (lv_at hl 0 rfl) ?_
  refine lv_iconst (pc := 1) (v := 4) hx hb d_KeyTree_digit_1 (by decide) ?_
  refine lv_iload_n (pc := 2) hx hb d_KeyTree_digit_2 rfl (lv_at hl 1 rfl) ?_
  refine lv_imul (pc := 3) hx hb d_KeyTree_digit_3 ?_
  refine lv_iushr (pc := 4) hx hb d_KeyTree_digit_4 rfl ?_
  refine lv_bipush (pc := 5) (v := 15) hx hb d_KeyTree_digit_5 (by decide) ?_
  refine lv_iand (pc := 7) hx hb d_KeyTree_digit_7 ?_
  exact p_iret (v := ((a0.toUInt32 >>> (((4 : Int32) * a1).toUInt32 &&& Int32.toUInt32 31)).toInt32) &&& (15 : Int32)) hy hr d_KeyTree_digit_8
theorem d_KeyTree_digitsOf_0 : decode b_KeyTree_digitsOf 0 = .ok (.ldc2_w 67, 3) := by decide +kernel
theorem d_KeyTree_digitsOf_3 : decode b_KeyTree_digitsOf 3 = .ok (.lload_n 0, 1) := by decide +kernel
theorem d_KeyTree_digitsOf_4 : decode b_KeyTree_digitsOf 4 = .ok (.invokestatic 69, 3) := by decide +kernel
theorem d_KeyTree_digitsOf_7 : decode b_KeyTree_digitsOf 7 = .ok (.invokestatic 72, 3) := by decide +kernel
theorem d_KeyTree_digitsOf_10 : decode b_KeyTree_digitsOf 10 = .ok (.ldc2_w 79, 3) := by decide +kernel
theorem d_KeyTree_digitsOf_13 : decode b_KeyTree_digitsOf 13 = .ok (.land, 1) := by decide +kernel
theorem d_KeyTree_digitsOf_14 : decode b_KeyTree_digitsOf 14 = .ok (.l2i, 1) := by decide +kernel
theorem d_KeyTree_digitsOf_15 : decode b_KeyTree_digitsOf 15 = .ok (.istore_n 2, 1) := by decide +kernel
theorem d_KeyTree_digitsOf_16 : decode b_KeyTree_digitsOf 16 = .ok (.iconst 0, 1) := by decide +kernel
theorem d_KeyTree_digitsOf_17 : decode b_KeyTree_digitsOf 17 = .ok (.istore_n 3, 1) := by decide +kernel
theorem d_KeyTree_digitsOf_18 : decode b_KeyTree_digitsOf 18 = .ok (.iconst 0, 1) := by decide +kernel
theorem d_KeyTree_digitsOf_19 : decode b_KeyTree_digitsOf 19 = .ok (.istore 4, 2) := by decide +kernel
theorem d_KeyTree_digitsOf_21 : decode b_KeyTree_digitsOf 21 = .ok (.iload 4, 2) := by decide +kernel
theorem d_KeyTree_digitsOf_23 : decode b_KeyTree_digitsOf 23 = .ok (.iconst 4, 1) := by decide +kernel
theorem d_KeyTree_digitsOf_24 : decode b_KeyTree_digitsOf 24 = .ok (.if_icmp .ge 18, 3) := by decide +kernel
theorem d_KeyTree_digitsOf_27 : decode b_KeyTree_digitsOf 27 = .ok (.iload_n 3, 1) := by decide +kernel
theorem d_KeyTree_digitsOf_28 : decode b_KeyTree_digitsOf 28 = .ok (.iload_n 2, 1) := by decide +kernel
theorem d_KeyTree_digitsOf_29 : decode b_KeyTree_digitsOf 29 = .ok (.iload 4, 2) := by decide +kernel
theorem d_KeyTree_digitsOf_31 : decode b_KeyTree_digitsOf 31 = .ok (.invokestatic 59, 3) := by decide +kernel
theorem d_KeyTree_digitsOf_34 : decode b_KeyTree_digitsOf 34 = .ok (.iadd, 1) := by decide +kernel
theorem d_KeyTree_digitsOf_35 : decode b_KeyTree_digitsOf 35 = .ok (.istore_n 3, 1) := by decide +kernel
theorem d_KeyTree_digitsOf_36 : decode b_KeyTree_digitsOf 36 = .ok (.iinc 4 1, 3) := by decide +kernel
theorem d_KeyTree_digitsOf_39 : decode b_KeyTree_digitsOf 39 = .ok (.goto (-18), 3) := by decide +kernel
theorem d_KeyTree_digitsOf_42 : decode b_KeyTree_digitsOf 42 = .ok (.iload_n 2, 1) := by decide +kernel
theorem d_KeyTree_digitsOf_43 : decode b_KeyTree_digitsOf 43 = .ok (.bipush 60, 2) := by decide +kernel
theorem d_KeyTree_digitsOf_45 : decode b_KeyTree_digitsOf 45 = .ok (.iload_n 3, 1) := by decide +kernel
theorem d_KeyTree_digitsOf_46 : decode b_KeyTree_digitsOf 46 = .ok (.isub, 1) := by decide +kernel
theorem d_KeyTree_digitsOf_47 : decode b_KeyTree_digitsOf 47 = .ok (.bipush 16, 2) := by decide +kernel
theorem d_KeyTree_digitsOf_49 : decode b_KeyTree_digitsOf 49 = .ok (.ishl, 1) := by decide +kernel
theorem d_KeyTree_digitsOf_50 : decode b_KeyTree_digitsOf 50 = .ok (.ior, 1) := by decide +kernel
theorem d_KeyTree_digitsOf_51 : decode b_KeyTree_digitsOf 51 = .ok (.ireturn, 1) := by decide +kernel
def f_KeyTree_digitsOf_21 (a0 : Int64) : Nat → St → Int32 → Int32 → Int32 → Int32
  | 0, _, _, _, _ => 0
  | n + 1, S, l2, l3, l4 =>
    if (4 : Int32) ≤ l4 then
      l2 ||| (((60 : Int32) - l3) <<< ((16 : Int32) &&& 31))
    else
      lt (f_KeyTree_digit l2 l4 S) fun (r4 : Int32) =>
      f_KeyTree_digitsOf_21 a0 n S l2 (l3 + r4) (l4 + (1 : Int32))
def ok_KeyTree_digitsOf_21 (a0 : Int64) : Nat → St → Int32 → Int32 → Int32 → Prop
  | 0, _, _, _, _ => False
  | n + 1, S, l2, l3, l4 =>
    ((4 : Int32) ≤ l4 → (
      True)) ∧ (¬ ((4 : Int32) ≤ l4) → (
      lt (f_KeyTree_digit l2 l4 S) fun (r4 : Int32) =>
      ok_KeyTree_digitsOf_21 a0 n S l2 (l3 + r4) (l4 + (1 : Int32))))
set_option maxHeartbeats 4000000 in
set_option maxRecDepth 100000 in
theorem w_KeyTree_digitsOf_21 {l : Launch} {D : va_G} {X : va_W} {ad : N3 → Nat} {ca : Nat → ClassId} (a0 : Int64)  (S : St) {p : Program} {e : Env} {s : State} {m : MethodId} {below : List Frame} {meth : Method} {c : Code} (hy : Hy p s m ([.long a0] : List Value).toArray meth c b_KeyTree_digitsOf 5 (some .int) R_KeyTree GG D clQ (tysQ ca) nwQ) (hW : Wd D clQ (fun _ => True) s.heap (zw X ad TQ (cfQ ad ca) S) s.heap []) {res : Int32} : ∀ (n : Nat) (l2 : Int32) (l3 : Int32) (l4 : Int32) , ok_KeyTree_digitsOf_21 a0 n S l2 l3 l4 → f_KeyTree_digitsOf_21 a0 n S l2 l3 l4 = res → ∀ (ls : Array Slot), lv_has ls 5 [(2, .int l2), (3, .int l3), (4, .int l4)] → W p l e { frames := 1, cells := 0, slots := 0, locals := 25 } s m ([.long a0] : List Value).toArray below meth c s.heap [] 0 0 (MQ below (eP (.int res)) ([.long a0] : List Value).toArray s 0 0 nof) (F0 m 21 ls []) := by
  have hF := hy.1
  have hx := hF.1
  have hb := hF.2.1
  have hK := hy.2.2.2
  intro n
  induction n with
  | zero =>
    intro l2 l3 l4 hk
    exact hk.elim
  | succ n ih =>
    intro l2 l3 l4 hk hr ls hl
    refine lv_iload (pc := 21) hx hb d_KeyTree_digitsOf_21 (lv_at hl 2 rfl) ?_
    refine lv_iconst (pc := 23) (v := 4) hx hb d_KeyTree_digitsOf_23 (by decide) ?_
    refine lv_icmp_ge (pc := 24) (tgt := 42) hx hb d_KeyTree_digitsOf_24 (by decide) (fun c3 => ?_) (fun c3 => ?_)
    · have hk := hk.1 c3
      have hr := (if_pos c3).symm.trans hr
      refine lv_iload_n (pc := 42) hx hb d_KeyTree_digitsOf_42 rfl (lv_at hl 0 rfl) ?_
      refine lv_bipush (pc := 43) (v := 60) hx hb d_KeyTree_digitsOf_43 (by decide) ?_
      refine lv_iload_n (pc := 45) hx hb d_KeyTree_digitsOf_45 rfl (lv_at hl 1 rfl) ?_
      refine lv_isub (pc := 46) hx hb d_KeyTree_digitsOf_46 ?_
      refine lv_bipush (pc := 47) (v := 16) hx hb d_KeyTree_digitsOf_47 (by decide) ?_
      refine lv_ishl (pc := 49) hx hb d_KeyTree_digitsOf_49 ?_
      refine lv_ior (pc := 50) hx hb d_KeyTree_digitsOf_50 ?_
      exact p_iret (v := l2 ||| (((60 : Int32) - l3) <<< ((16 : Int32) &&& 31))) hy hr d_KeyTree_digitsOf_51
    · have hk := hk.2 c3
      have hr := (if_neg c3).symm.trans hr
      refine lv_iload_n (pc := 27) hx hb d_KeyTree_digitsOf_27 rfl (lv_at hl 1 rfl) ?_
      refine lv_iload_n (pc := 28) hx hb d_KeyTree_digitsOf_28 rfl (lv_at hl 0 rfl) ?_
      refine lv_iload (pc := 29) hx hb d_KeyTree_digitsOf_29 (lv_at hl 2 rfl) ?_
      obtain ⟨r4, er4⟩ : ∃ z : Int32, z = f_KeyTree_digit l2 l4 S := ⟨_, rfl⟩
      have hk := lt_p er4 hk
      have hr := lt_e er4 hr
      refine p_go (pc := 31) (congrArg Value.int er4) (p_runS hF hK hW (c_KeyTree_digit l D X ad ca l2 l4 S _) cd_KeyTree_digit gw_404 ⟨Nat.le_of_ble_eq_true rfl, Nat.le_of_ble_eq_true rfl⟩ ⟨Nat.zero_le _, Nat.zero_le _⟩ rfl rfl hl.1 (Nat.le_of_ble_eq_true rfl) d_KeyTree_digitsOf_31) ?_
      refine lv_iadd (pc := 34) hx hb d_KeyTree_digitsOf_34 ?_
      refine lv_istore_n (pc := 35) (lv' := [(3, .int (l3 + r4)), (2, .int l2), (4, .int l4)]) hx hb d_KeyTree_digitsOf_35 rfl hl (by decide) rfl (fun ls hl => ?_)
      refine lv_iinc (pc := 36) (v := l4 + (1 : Int32)) (lv' := [(4, .int (l4 + (1 : Int32))), (3, .int (l3 + r4)), (2, .int l2)]) (k := 2) hx hb d_KeyTree_digitsOf_36 hl rfl (z_inc (by decide)) (by decide) rfl (fun ls hl => ?_)
      refine lv_goto (pc := 39) (tgt := 21) hx hb d_KeyTree_digitsOf_39 (by decide) ?_
      exact ih l2 (l3 + r4) (l4 + (1 : Int32)) hk hr _ (lv_sub hl [2, 1, 0] rfl)
def f_KeyTree_digitsOf (a0 : Int64) (S : St) : Int32 :=
  lt (f_Fold_absorb (-7046029254386353131 : Int64) a0 S) fun (r1 : Int64) =>
  lt (f_Fold_finish r1 S) fun (r2 : Int64) =>
  f_KeyTree_digitsOf_21 a0 200 S ((r2 &&& (65535 : Int64)).toInt32) (0 : Int32) (0 : Int32)
def ok_KeyTree_digitsOf (a0 : Int64) (S : St) : Prop :=
  lt (f_Fold_absorb (-7046029254386353131 : Int64) a0 S) fun (r1 : Int64) =>
  lt (f_Fold_finish r1 S) fun (r2 : Int64) =>
  ok_KeyTree_digitsOf_21 a0 200 S ((r2 &&& (65535 : Int64)).toInt32) (0 : Int32) (0 : Int32)
set_option maxHeartbeats 4000000 in
set_option maxRecDepth 100000 in
theorem c_KeyTree_digitsOf (l : Launch) (D : va_G) (X : va_W) (ad : N3 → Nat) (ca : Nat → ClassId) (a0 : Int64)  (S : St) (hk : ok_KeyTree_digitsOf a0 S) : cP l GG D clQ (tysQ ca) nwQ (zw X ad TQ (cfQ ad ca) S) y_KeyTree_digitsOf b_KeyTree_digitsOf 5 .int 1 25 [.long a0] (.int (f_KeyTree_digitsOf a0 S)) := by
  generalize hr : f_KeyTree_digitsOf a0 S = res
  refine zP_of pn_KeyTree (Nat.le_of_ble_eq_true rfl) (fun p e s m below meth c ls hy hW hl => ?_)
  have hF := hy.1
  have hx := hF.1
  have hb := hF.2.1
  have hK := hy.2.2.2
  have hl : lv_has ls 5 [(0, .long a0)] := hl
  refine lv_ldc2 (pc := 0) hx hb hF.2.2.2.1 (hF.2.2.2.2 _ gw_228) d_KeyTree_digitsOf_0 ?_
  refine lv_lload_n (pc := 3) hx hb d_KeyTree_digitsOf_3 rfl (lv_at hl 0 rfl) ?_
  obtain ⟨r1, er1⟩ : ∃ z : Int64, z = f_Fold_absorb (-7046029254386353131 : Int64) a0 S := ⟨_, rfl⟩
  have hk := lt_p er1 hk
  have hr := lt_e er1 hr
  refine p_go (pc := 4) (congrArg Value.long er1) (p_runS hF hK hW (c_Fold_absorb l D X ad ca (-7046029254386353131 : Int64) a0 S _) cd_Fold_absorb gw_232 ⟨Nat.le_of_ble_eq_true rfl, Nat.le_of_ble_eq_true rfl⟩ ⟨Nat.zero_le _, Nat.zero_le _⟩ rfl rfl hl.1 (Nat.le_of_ble_eq_true rfl) d_KeyTree_digitsOf_4) ?_
  obtain ⟨r2, er2⟩ : ∃ z : Int64, z = f_Fold_finish r1 S := ⟨_, rfl⟩
  have hk := lt_p er2 hk
  have hr := lt_e er2 hr
  refine p_go (pc := 7) (congrArg Value.long er2) (p_runS hF hK hW (c_Fold_finish l D X ad ca r1 S _) cd_Fold_finish gw_236 ⟨Nat.le_of_ble_eq_true rfl, Nat.le_of_ble_eq_true rfl⟩ ⟨Nat.zero_le _, Nat.zero_le _⟩ rfl rfl hl.1 (Nat.le_of_ble_eq_true rfl) d_KeyTree_digitsOf_7) ?_
  refine lv_ldc2 (pc := 10) hx hb hF.2.2.2.1 (hF.2.2.2.2 _ gw_403) d_KeyTree_digitsOf_10 ?_
  refine lv_land (pc := 13) hx hb d_KeyTree_digitsOf_13 ?_
  refine lv_l2i (pc := 14) hx hb d_KeyTree_digitsOf_14 rfl ?_
  refine lv_istore_n (pc := 15) (lv' := [(2, .int ((r2 &&& (65535 : Int64)).toInt32)), (0, .long a0)]) hx hb d_KeyTree_digitsOf_15 rfl hl (by decide) rfl (fun ls hl => ?_)
  refine lv_iconst (pc := 16) (v := 0) hx hb d_KeyTree_digitsOf_16 (by decide) ?_
  refine lv_istore_n (pc := 17) (lv' := [(3, .int (0 : Int32)), (2, .int ((r2 &&& (65535 : Int64)).toInt32)), (0, .long a0)]) hx hb d_KeyTree_digitsOf_17 rfl hl (by decide) rfl (fun ls hl => ?_)
  refine lv_iconst (pc := 18) (v := 0) hx hb d_KeyTree_digitsOf_18 (by decide) ?_
  refine lv_istore (pc := 19) (lv' := [(4, .int (0 : Int32)), (3, .int (0 : Int32)), (2, .int ((r2 &&& (65535 : Int64)).toInt32)), (0, .long a0)]) hx hb d_KeyTree_digitsOf_19 hl (by decide) rfl (fun ls hl => ?_)
  exact w_KeyTree_digitsOf_21 a0 S hy hW 200 ((r2 &&& (65535 : Int64)).toInt32) (0 : Int32) (0 : Int32) hk hr _ (lv_sub hl [2, 1, 0] rfl)
theorem d_KeyTree_secretOf_0 : decode b_KeyTree_secretOf 0 = .ok (.ldc2_w 67, 3) := by decide +kernel
theorem d_KeyTree_secretOf_3 : decode b_KeyTree_secretOf 3 = .ok (.iload_n 0, 1) := by decide +kernel
theorem d_KeyTree_secretOf_4 : decode b_KeyTree_secretOf 4 = .ok (.i2l, 1) := by decide +kernel
theorem d_KeyTree_secretOf_5 : decode b_KeyTree_secretOf 5 = .ok (.invokestatic 69, 3) := by decide +kernel
theorem d_KeyTree_secretOf_8 : decode b_KeyTree_secretOf 8 = .ok (.iload_n 1, 1) := by decide +kernel
theorem d_KeyTree_secretOf_9 : decode b_KeyTree_secretOf 9 = .ok (.i2l, 1) := by decide +kernel
theorem d_KeyTree_secretOf_10 : decode b_KeyTree_secretOf 10 = .ok (.invokestatic 69, 3) := by decide +kernel
theorem d_KeyTree_secretOf_13 : decode b_KeyTree_secretOf 13 = .ok (.lstore 4, 2) := by decide +kernel
theorem d_KeyTree_secretOf_15 : decode b_KeyTree_secretOf 15 = .ok (.lload 4, 2) := by decide +kernel
theorem d_KeyTree_secretOf_17 : decode b_KeyTree_secretOf 17 = .ok (.iload_n 2, 1) := by decide +kernel
theorem d_KeyTree_secretOf_18 : decode b_KeyTree_secretOf 18 = .ok (.i2l, 1) := by decide +kernel
theorem d_KeyTree_secretOf_19 : decode b_KeyTree_secretOf 19 = .ok (.invokestatic 69, 3) := by decide +kernel
theorem d_KeyTree_secretOf_22 : decode b_KeyTree_secretOf 22 = .ok (.iload_n 3, 1) := by decide +kernel
theorem d_KeyTree_secretOf_23 : decode b_KeyTree_secretOf 23 = .ok (.i2l, 1) := by decide +kernel
theorem d_KeyTree_secretOf_24 : decode b_KeyTree_secretOf 24 = .ok (.invokestatic 69, 3) := by decide +kernel
theorem d_KeyTree_secretOf_27 : decode b_KeyTree_secretOf 27 = .ok (.invokestatic 72, 3) := by decide +kernel
theorem d_KeyTree_secretOf_30 : decode b_KeyTree_secretOf 30 = .ok (.lreturn, 1) := by decide +kernel
def f_KeyTree_secretOf (a0 : Int32) (a1 : Int32) (a2 : Int32) (a3 : Int32) (S : St) : Int64 :=
  lt (f_Fold_absorb (-7046029254386353131 : Int64) a0.toInt64 S) fun (r1 : Int64) =>
  lt (f_Fold_absorb r1 a1.toInt64 S) fun (r2 : Int64) =>
  lt (f_Fold_absorb r2 a2.toInt64 S) fun (r3 : Int64) =>
  lt (f_Fold_absorb r3 a3.toInt64 S) fun (r4 : Int64) =>
  lt (f_Fold_finish r4 S) fun (r5 : Int64) =>
  r5
set_option maxHeartbeats 4000000 in
set_option maxRecDepth 100000 in
theorem c_KeyTree_secretOf (l : Launch) (D : va_G) (X : va_W) (ad : N3 → Nat) (ca : Nat → ClassId) (a0 : Int32) (a1 : Int32) (a2 : Int32) (a3 : Int32)  (S : St) : cP l GG D clQ (tysQ ca) nwQ (zw X ad TQ (cfQ ad ca) S) y_KeyTree_secretOf b_KeyTree_secretOf 6 .long 1 25 [.int a0, .int a1, .int a2, .int a3] (.long (f_KeyTree_secretOf a0 a1 a2 a3 S)) := by
  generalize hr : f_KeyTree_secretOf a0 a1 a2 a3 S = res
  refine zP_of pn_KeyTree (Nat.le_of_ble_eq_true rfl) (fun p e s m below meth c ls hy hW hl => ?_)
  have hF := hy.1
  have hx := hF.1
  have hb := hF.2.1
  have hK := hy.2.2.2
  have hl : lv_has ls 6 [(0, .int a0), (1, .int a1), (2, .int a2), (3, .int a3)] := hl
  refine lv_ldc2 (pc := 0) hx hb hF.2.2.2.1 (hF.2.2.2.2 _ gw_228) d_KeyTree_secretOf_0 ?_
  refine lv_iload_n (pc := 3) hx hb d_KeyTree_secretOf_3 rfl (lv_at hl 0 rfl) ?_
  refine lv_i2l (pc := 4) hx hb d_KeyTree_secretOf_4 rfl ?_
  obtain ⟨r1, er1⟩ : ∃ z : Int64, z = f_Fold_absorb (-7046029254386353131 : Int64) a0.toInt64 S := ⟨_, rfl⟩
  have hr := lt_e er1 hr
  refine p_go (pc := 5) (congrArg Value.long er1) (p_runS hF hK hW (c_Fold_absorb l D X ad ca (-7046029254386353131 : Int64) a0.toInt64 S _) cd_Fold_absorb gw_232 ⟨Nat.le_of_ble_eq_true rfl, Nat.le_of_ble_eq_true rfl⟩ ⟨Nat.zero_le _, Nat.zero_le _⟩ rfl rfl hl.1 (Nat.le_of_ble_eq_true rfl) d_KeyTree_secretOf_5) ?_
  refine lv_iload_n (pc := 8) hx hb d_KeyTree_secretOf_8 rfl (lv_at hl 1 rfl) ?_
  refine lv_i2l (pc := 9) hx hb d_KeyTree_secretOf_9 rfl ?_
  obtain ⟨r2, er2⟩ : ∃ z : Int64, z = f_Fold_absorb r1 a1.toInt64 S := ⟨_, rfl⟩
  have hr := lt_e er2 hr
  refine p_go (pc := 10) (congrArg Value.long er2) (p_runS hF hK hW (c_Fold_absorb l D X ad ca r1 a1.toInt64 S _) cd_Fold_absorb gw_232 ⟨Nat.le_of_ble_eq_true rfl, Nat.le_of_ble_eq_true rfl⟩ ⟨Nat.zero_le _, Nat.zero_le _⟩ rfl rfl hl.1 (Nat.le_of_ble_eq_true rfl) d_KeyTree_secretOf_10) ?_
  refine lv_lstore (pc := 13) (lv' := [(4, .long r2), (0, .int a0), (1, .int a1), (2, .int a2), (3, .int a3)]) hx hb d_KeyTree_secretOf_13 hl (by decide) rfl (fun ls hl => ?_)
  refine lv_lload (pc := 15) hx hb d_KeyTree_secretOf_15 (lv_at hl 0 rfl) ?_
  refine lv_iload_n (pc := 17) hx hb d_KeyTree_secretOf_17 rfl (lv_at hl 3 rfl) ?_
  refine lv_i2l (pc := 18) hx hb d_KeyTree_secretOf_18 rfl ?_
  obtain ⟨r3, er3⟩ : ∃ z : Int64, z = f_Fold_absorb r2 a2.toInt64 S := ⟨_, rfl⟩
  have hr := lt_e er3 hr
  refine p_go (pc := 19) (congrArg Value.long er3) (p_runS hF hK hW (c_Fold_absorb l D X ad ca r2 a2.toInt64 S _) cd_Fold_absorb gw_232 ⟨Nat.le_of_ble_eq_true rfl, Nat.le_of_ble_eq_true rfl⟩ ⟨Nat.zero_le _, Nat.zero_le _⟩ rfl rfl hl.1 (Nat.le_of_ble_eq_true rfl) d_KeyTree_secretOf_19) ?_
  refine lv_iload_n (pc := 22) hx hb d_KeyTree_secretOf_22 rfl (lv_at hl 4 rfl) ?_
  refine lv_i2l (pc := 23) hx hb d_KeyTree_secretOf_23 rfl ?_
  obtain ⟨r4, er4⟩ : ∃ z : Int64, z = f_Fold_absorb r3 a3.toInt64 S := ⟨_, rfl⟩
  have hr := lt_e er4 hr
  refine p_go (pc := 24) (congrArg Value.long er4) (p_runS hF hK hW (c_Fold_absorb l D X ad ca r3 a3.toInt64 S _) cd_Fold_absorb gw_232 ⟨Nat.le_of_ble_eq_true rfl, Nat.le_of_ble_eq_true rfl⟩ ⟨Nat.zero_le _, Nat.zero_le _⟩ rfl rfl hl.1 (Nat.le_of_ble_eq_true rfl) d_KeyTree_secretOf_24) ?_
  obtain ⟨r5, er5⟩ : ∃ z : Int64, z = f_Fold_finish r4 S := ⟨_, rfl⟩
  have hr := lt_e er5 hr
  refine p_go (pc := 27) (congrArg Value.long er5) (p_runS hF hK hW (c_Fold_finish l D X ad ca r4 S _) cd_Fold_finish gw_236 ⟨Nat.le_of_ble_eq_true rfl, Nat.le_of_ble_eq_true rfl⟩ ⟨Nat.zero_le _, Nat.zero_le _⟩ rfl rfl hl.1 (Nat.le_of_ble_eq_true rfl) d_KeyTree_secretOf_27) ?_
  exact p_lret (v := r5) hy hr d_KeyTree_secretOf_30
