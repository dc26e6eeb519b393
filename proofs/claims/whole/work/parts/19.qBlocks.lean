theorem d_Blocks_isBelow_0 : decode b_Blocks_isBelow 0 = .ok (.aload_n 0, 1) := by decide +kernel
theorem d_Blocks_isBelow_1 : decode b_Blocks_isBelow 1 = .ok (.iload_n 2, 1) := by decide +kernel
theorem d_Blocks_isBelow_2 : decode b_Blocks_isBelow 2 = .ok (.iload_n 1, 1) := by decide +kernel
theorem d_Blocks_isBelow_3 : decode b_Blocks_isBelow 3 = .ok (.invokevirtual 37, 3) := by decide +kernel
theorem d_Blocks_isBelow_6 : decode b_Blocks_isBelow 6 = .ok (.ifCond .le 7, 3) := by decide +kernel
theorem d_Blocks_isBelow_9 : decode b_Blocks_isBelow 9 = .ok (.iconst 1, 1) := by decide +kernel
theorem d_Blocks_isBelow_10 : decode b_Blocks_isBelow 10 = .ok (.goto 4, 3) := by decide +kernel
theorem d_Blocks_isBelow_13 : decode b_Blocks_isBelow 13 = .ok (.iconst 0, 1) := by decide +kernel
theorem d_Blocks_isBelow_14 : decode b_Blocks_isBelow 14 = .ok (.ireturn, 1) := by decide +kernel
def f_Blocks_isBelow (a1 : Int32) (a2 : Int32) (S : St) : Int32 :=
  lt (f_Blocks_stepsDown a2 a1 S) fun (r2 : Int32) =>
  if r2 ≤ 0 then
    (0 : Int32)
  else
    (1 : Int32)
def ok_Blocks_isBelow (a1 : Int32) (a2 : Int32) (S : St) : Prop :=
  (ok_Blocks_stepsDown a2 a1 S) ∧ (
    True)
set_option maxHeartbeats 4000000 in
set_option maxRecDepth 100000 in
theorem c_Blocks_isBelow (l : Launch) (D : va_G) (X : va_W) (ad : N3 → Nat) (ca : Nat → ClassId) (a1 : Int32) (a2 : Int32)  (S : St) (hk : ok_Blocks_isBelow a1 a2 S) : cP l GG D clQ (tysQ ca) nwQ (zw X ad TQ (cfQ ad ca) S) y_Blocks_isBelow b_Blocks_isBelow 3 .boolean 3 66 [.ref (ad (19, 0, 0)), .int a1, .int a2] (.int (f_Blocks_isBelow a1 a2 S)) := by
  generalize hr : f_Blocks_isBelow a1 a2 S = res
  refine zP_of pn_Blocks (Nat.le_of_ble_eq_true rfl) (fun p e s m below meth c ls hy hW hl => ?_)
  have hF := hy.1
  have hx := hF.1
  have hb := hF.2.1
  have hK := hy.2.2.2
  have hl : lv_has ls 3 [(0, .ref (ad (19, 0, 0))), (1, .int a1), (2, .int a2)] := hl
  refine lv_aload_n (pc := 0) hx hb d_Blocks_isBelow_0 rfl (lv_at hl 0 rfl) ?_
  refine lv_iload_n (pc := 1) hx hb d_Blocks_isBelow_1 rfl (lv_at hl 2 rfl) ?_
  refine lv_iload_n (pc := 2) hx hb d_Blocks_isBelow_2 rfl (lv_at hl 1 rfl) ?_
  have o1 := hk.1
  have hk := hk.2
  obtain ⟨r2, er2⟩ : ∃ z : Int32, z = f_Blocks_stepsDown a2 a1 S := ⟨_, rfl⟩
  have hr := lt_e er2 hr
  refine p_go (pc := 3) (congrArg Value.int er2) (p_runV hF hK hW (c_Blocks_stepsDown l D X ad ca a2 a1 S o1 _) cd_Blocks_stepsDown gw_734 tq19 rfl rfl ⟨Nat.le_of_ble_eq_true rfl, Nat.le_of_ble_eq_true rfl⟩ ⟨Nat.zero_le _, Nat.zero_le _⟩ rfl rfl hl.1 (Nat.le_of_ble_eq_true rfl) d_Blocks_isBelow_3) ?_
  refine lv_if_le (pc := 6) (tgt := 13) hx hb d_Blocks_isBelow_6 (by decide) (fun c3 => ?_) (fun c3 => ?_)
  · have hr := (if_pos c3).symm.trans hr
    refine lv_iconst (pc := 13) (v := 0) hx hb d_Blocks_isBelow_13 (by decide) ?_
    exact p_zret (v := (0 : Int32)) hy rfl hr d_Blocks_isBelow_14
  · have hr := (if_neg c3).symm.trans hr
    refine lv_iconst (pc := 9) (v := 1) hx hb d_Blocks_isBelow_9 (by decide) ?_
    refine lv_goto (pc := 10) (tgt := 14) hx hb d_Blocks_isBelow_10 (by decide) ?_
    exact p_zret (v := (1 : Int32)) hy rfl hr d_Blocks_isBelow_14
theorem d_QC_mayVoteFor_0 : decode b_QC_mayVoteFor 0 = .ok (.aload_n 0, 1) := by decide +kernel
theorem d_QC_mayVoteFor_1 : decode b_QC_mayVoteFor 1 = .ok (.getfield 18, 3) := by decide +kernel
theorem d_QC_mayVoteFor_4 : decode b_QC_mayVoteFor 4 = .ok (.iload_n 2, 1) := by decide +kernel
theorem d_QC_mayVoteFor_5 : decode b_QC_mayVoteFor 5 = .ok (.invokevirtual 203, 3) := by decide +kernel
theorem d_QC_mayVoteFor_8 : decode b_QC_mayVoteFor 8 = .ok (.istore 4, 2) := by decide +kernel
theorem d_QC_mayVoteFor_10 : decode b_QC_mayVoteFor 10 = .ok (.iload 4, 2) := by decide +kernel
theorem d_QC_mayVoteFor_12 : decode b_QC_mayVoteFor 12 = .ok (.aload_n 1, 1) := by decide +kernel
theorem d_QC_mayVoteFor_13 : decode b_QC_mayVoteFor 13 = .ok (.getfield 179, 3) := by decide +kernel
theorem d_QC_mayVoteFor_16 : decode b_QC_mayVoteFor 16 = .ok (.getfield 251, 3) := by decide +kernel
theorem d_QC_mayVoteFor_19 : decode b_QC_mayVoteFor 19 = .ok (.if_icmp .le 12, 3) := by decide +kernel
theorem d_QC_mayVoteFor_22 : decode b_QC_mayVoteFor 22 = .ok (.iload 4, 2) := by decide +kernel
theorem d_QC_mayVoteFor_24 : decode b_QC_mayVoteFor 24 = .ok (.aload_n 1, 1) := by decide +kernel
theorem d_QC_mayVoteFor_25 : decode b_QC_mayVoteFor 25 = .ok (.getfield 88, 3) := by decide +kernel
theorem d_QC_mayVoteFor_28 : decode b_QC_mayVoteFor 28 = .ok (.if_icmp .ge 5, 3) := by decide +kernel
theorem d_QC_mayVoteFor_31 : decode b_QC_mayVoteFor 31 = .ok (.iconst 0, 1) := by decide +kernel
theorem d_QC_mayVoteFor_32 : decode b_QC_mayVoteFor 32 = .ok (.ireturn, 1) := by decide +kernel
theorem d_QC_mayVoteFor_33 : decode b_QC_mayVoteFor 33 = .ok (.aload_n 1, 1) := by decide +kernel
theorem d_QC_mayVoteFor_34 : decode b_QC_mayVoteFor 34 = .ok (.getfield 179, 3) := by decide +kernel
theorem d_QC_mayVoteFor_37 : decode b_QC_mayVoteFor 37 = .ok (.getfield 254, 3) := by decide +kernel
theorem d_QC_mayVoteFor_40 : decode b_QC_mayVoteFor 40 = .ok (.istore 5, 2) := by decide +kernel
theorem d_QC_mayVoteFor_42 : decode b_QC_mayVoteFor 42 = .ok (.aload_n 0, 1) := by decide +kernel
theorem d_QC_mayVoteFor_43 : decode b_QC_mayVoteFor 43 = .ok (.getfield 18, 3) := by decide +kernel
theorem d_QC_mayVoteFor_46 : decode b_QC_mayVoteFor 46 = .ok (.iload 5, 2) := by decide +kernel
theorem d_QC_mayVoteFor_48 : decode b_QC_mayVoteFor 48 = .ok (.iload_n 2, 1) := by decide +kernel
theorem d_QC_mayVoteFor_49 : decode b_QC_mayVoteFor 49 = .ok (.invokevirtual 333, 3) := by decide +kernel
theorem d_QC_mayVoteFor_52 : decode b_QC_mayVoteFor 52 = .ok (.ifCond .ne 16, 3) := by decide +kernel
theorem d_QC_mayVoteFor_55 : decode b_QC_mayVoteFor 55 = .ok (.aload_n 0, 1) := by decide +kernel
theorem d_QC_mayVoteFor_56 : decode b_QC_mayVoteFor 56 = .ok (.getfield 18, 3) := by decide +kernel
theorem d_QC_mayVoteFor_59 : decode b_QC_mayVoteFor 59 = .ok (.iload_n 3, 1) := by decide +kernel
theorem d_QC_mayVoteFor_60 : decode b_QC_mayVoteFor 60 = .ok (.iload 5, 2) := by decide +kernel
theorem d_QC_mayVoteFor_62 : decode b_QC_mayVoteFor 62 = .ok (.invokevirtual 302, 3) := by decide +kernel
theorem d_QC_mayVoteFor_65 : decode b_QC_mayVoteFor 65 = .ok (.ifCond .eq 7, 3) := by decide +kernel
theorem d_QC_mayVoteFor_68 : decode b_QC_mayVoteFor 68 = .ok (.iconst 1, 1) := by decide +kernel
theorem d_QC_mayVoteFor_69 : decode b_QC_mayVoteFor 69 = .ok (.goto 4, 3) := by decide +kernel
theorem d_QC_mayVoteFor_72 : decode b_QC_mayVoteFor 72 = .ok (.iconst 0, 1) := by decide +kernel
theorem d_QC_mayVoteFor_73 : decode b_QC_mayVoteFor 73 = .ok (.ireturn, 1) := by decide +kernel
def f_QC_mayVoteFor (i1 : Nat) (a2 : Int32) (a3 : Int32) (S : St) : Int32 :=
  lt (f_Blocks_viewOf a2 S) fun (r2 : Int32) =>
  if r2 ≤ (S.1 4 i1 0 6) then
    (0 : Int32)
  else
    if (S.1 3 i1 0 8) ≤ r2 then
      lt (f_Blocks_isBelow (S.1 4 i1 0 7) a2 S) fun (r6 : Int32) =>
      if r6 = 0 then
        lt (f_Blocks_isAbove a3 (S.1 4 i1 0 7) S) fun (r9 : Int32) =>
        if r9 = 0 then
          (0 : Int32)
        else
          (1 : Int32)
      else
        (1 : Int32)
    else
      (0 : Int32)
def ok_QC_mayVoteFor (i1 : Nat) (a2 : Int32) (a3 : Int32) (S : St) : Prop :=
  (ok_Blocks_viewOf a2 S) ∧ (
    lt (f_Blocks_viewOf a2 S) fun (r2 : Int32) =>
    (r2 ≤ (S.1 4 i1 0 6) → (
      True)) ∧ (¬ (r2 ≤ (S.1 4 i1 0 6)) → (
      ((S.1 3 i1 0 8) ≤ r2 → (
        (ok_Blocks_isBelow (S.1 4 i1 0 7) a2 S) ∧ (
          lt (f_Blocks_isBelow (S.1 4 i1 0 7) a2 S) fun (r6 : Int32) =>
          (r6 = 0 → (
            (ok_Blocks_isAbove a3 (S.1 4 i1 0 7) S) ∧ (
              True))) ∧ (¬ (r6 = 0) → (
            True))))) ∧ (¬ ((S.1 3 i1 0 8) ≤ r2) → (
        True)))))
set_option maxHeartbeats 4000000 in
set_option maxRecDepth 100000 in
theorem c_QC_mayVoteFor (l : Launch) (D : va_G) (X : va_W) (ad : N3 → Nat) (ca : Nat → ClassId) (i1 : Nat) (a2 : Int32) (a3 : Int32) (h1 : i1 < 4) (S : St) (hk : ok_QC_mayVoteFor i1 a2 a3 S) : cP l GG D clQ (tysQ ca) nwQ (zw X ad TQ (cfQ ad ca) S) y_QC_mayVoteFor b_QC_mayVoteFor 6 .boolean 4 88 [.ref (ad (1, 0, 0)), .ref (ad (3, i1, 0)), .int a2, .int a3] (.int (f_QC_mayVoteFor i1 a2 a3 S)) := by
  generalize hr : f_QC_mayVoteFor i1 a2 a3 S = res
  refine zP_of pn_QC (Nat.le_of_ble_eq_true rfl) (fun p e s m below meth c ls hy hW hl => ?_)
  have hF := hy.1
  have hx := hF.1
  have hb := hF.2.1
  have hK := hy.2.2.2
  have hl : lv_has ls 6 [(0, .ref (ad (1, 0, 0))), (1, .ref (ad (3, i1, 0))), (2, .int a2), (3, .int a3)] := hl
  refine lv_aload_n (pc := 0) hx hb d_QC_mayVoteFor_0 rfl (lv_at hl 0 rfl) ?_
  refine z_get (pc := 1) (v := .ref (ad (19, 0, 0))) hF hK.1 hW tq1 rfl rfl in_QC 1 (by decide) gw_345 rfl rfl d_QC_mayVoteFor_1 ?_
  refine lv_iload_n (pc := 4) hx hb d_QC_mayVoteFor_4 rfl (lv_at hl 2 rfl) ?_
  have o1 := hk.1
  have hk := hk.2
  obtain ⟨r2, er2⟩ : ∃ z : Int32, z = f_Blocks_viewOf a2 S := ⟨_, rfl⟩
  have hk := lt_p er2 hk
  have hr := lt_e er2 hr
  refine p_go (pc := 5) (congrArg Value.int er2) (p_runV hF hK hW (c_Blocks_viewOf l D X ad ca a2 S o1 _) cd_Blocks_viewOf gw_456 tq19 rfl rfl ⟨Nat.le_of_ble_eq_true rfl, Nat.le_of_ble_eq_true rfl⟩ ⟨Nat.zero_le _, Nat.zero_le _⟩ rfl rfl hl.1 (Nat.le_of_ble_eq_true rfl) d_QC_mayVoteFor_5) ?_
  refine lv_istore (pc := 8) (lv' := [(4, .int r2), (0, .ref (ad (1, 0, 0))), (1, .ref (ad (3, i1, 0))), (2, .int a2), (3, .int a3)]) hx hb d_QC_mayVoteFor_8 hl (by decide) rfl (fun ls hl => ?_)
  refine lv_iload (pc := 10) hx hb d_QC_mayVoteFor_10 (lv_at hl 0 rfl) ?_
  refine lv_aload_n (pc := 12) hx hb d_QC_mayVoteFor_12 rfl (lv_at hl 2 rfl) ?_
  refine z_get (pc := 13) (v := .ref (ad (4, i1, 0))) hF hK.1 hW (tq3 h1) rfl rfl in_Node 1 (by decide) gw_298 rfl rfl d_QC_mayVoteFor_13 ?_
  refine z_get (pc := 16) (v := .int (S.1 4 i1 0 6)) hF hK.1 hW (tq4 h1) rfl rfl in_Store 6 (by decide) gw_276 rfl rfl d_QC_mayVoteFor_16 ?_
  refine lv_icmp_le (pc := 19) (tgt := 31) hx hb d_QC_mayVoteFor_19 (by decide) (fun c3 => ?_) (fun c3 => ?_)
  · have hk := hk.1 c3
    have hr := (if_pos c3).symm.trans hr
    refine lv_iconst (pc := 31) (v := 0) hx hb d_QC_mayVoteFor_31 (by decide) ?_
    exact p_zret (v := (0 : Int32)) hy rfl hr d_QC_mayVoteFor_32
  · have hk := hk.2 c3
    have hr := (if_neg c3).symm.trans hr
    refine lv_iload (pc := 22) hx hb d_QC_mayVoteFor_22 (lv_at hl 0 rfl) ?_
    refine lv_aload_n (pc := 24) hx hb d_QC_mayVoteFor_24 rfl (lv_at hl 2 rfl) ?_
    refine z_get (pc := 25) (v := .int (S.1 3 i1 0 8)) hF hK.1 hW (tq3 h1) rfl rfl in_Node 8 (by decide) gw_312 rfl rfl d_QC_mayVoteFor_25 ?_
    refine lv_icmp_ge (pc := 28) (tgt := 33) hx hb d_QC_mayVoteFor_28 (by decide) (fun c4 => ?_) (fun c4 => ?_)
    · have hk := hk.1 c4
      have hr := (if_pos c4).symm.trans hr
      refine lv_aload_n (pc := 33) hx hb d_QC_mayVoteFor_33 rfl (lv_at hl 2 rfl) ?_
      refine z_get (pc := 34) (v := .ref (ad (4, i1, 0))) hF hK.1 hW (tq3 h1) rfl rfl in_Node 1 (by decide) gw_298 rfl rfl d_QC_mayVoteFor_34 ?_
      refine z_get (pc := 37) (v := .int (S.1 4 i1 0 7)) hF hK.1 hW (tq4 h1) rfl rfl in_Store 7 (by decide) gw_277 rfl rfl d_QC_mayVoteFor_37 ?_
      refine lv_istore (pc := 40) (lv' := [(5, .int (S.1 4 i1 0 7)), (4, .int r2), (0, .ref (ad (1, 0, 0))), (1, .ref (ad (3, i1, 0))), (2, .int a2), (3, .int a3)]) hx hb d_QC_mayVoteFor_40 hl (by decide) rfl (fun ls hl => ?_)
      refine lv_aload_n (pc := 42) hx hb d_QC_mayVoteFor_42 rfl (lv_at hl 2 rfl) ?_
      refine z_get (pc := 43) (v := .ref (ad (19, 0, 0))) hF hK.1 hW tq1 rfl rfl in_QC 1 (by decide) gw_345 rfl rfl d_QC_mayVoteFor_43 ?_
      refine lv_iload (pc := 46) hx hb d_QC_mayVoteFor_46 (lv_at hl 0 rfl) ?_
      refine lv_iload_n (pc := 48) hx hb d_QC_mayVoteFor_48 rfl (lv_at hl 4 rfl) ?_
      have o5 := hk.1
      have hk := hk.2
      obtain ⟨r6, er6⟩ : ∃ z : Int32, z = f_Blocks_isBelow (S.1 4 i1 0 7) a2 S := ⟨_, rfl⟩
      have hk := lt_p er6 hk
      have hr := lt_e er6 hr
      refine p_go (pc := 49) (congrArg Value.int er6) (p_runV hF hK hW (c_Blocks_isBelow l D X ad ca (S.1 4 i1 0 7) a2 S o5 _) cd_Blocks_isBelow gw_730 tq19 rfl rfl ⟨Nat.le_of_ble_eq_true rfl, Nat.le_of_ble_eq_true rfl⟩ ⟨Nat.zero_le _, Nat.zero_le _⟩ rfl rfl hl.1 (Nat.le_of_ble_eq_true rfl) d_QC_mayVoteFor_49) ?_
      refine lv_if_ne (pc := 52) (tgt := 68) hx hb d_QC_mayVoteFor_52 (by decide) (fun c7 => ?_) (fun c7 => ?_)
      · have hk := hk.2 c7
        have hr := (if_neg c7).symm.trans hr
        refine lv_iconst (pc := 68) (v := 1) hx hb d_QC_mayVoteFor_68 (by decide) ?_
        refine lv_goto (pc := 69) (tgt := 73) hx hb d_QC_mayVoteFor_69 (by decide) ?_
        exact p_zret (v := (1 : Int32)) hy rfl hr d_QC_mayVoteFor_73
      · have hk := hk.1 c7
        have hr := (if_pos c7).symm.trans hr
        refine lv_aload_n (pc := 55) hx hb d_QC_mayVoteFor_55 rfl (lv_at hl 2 rfl) ?_
        refine z_get (pc := 56) (v := .ref (ad (19, 0, 0))) hF hK.1 hW tq1 rfl rfl in_QC 1 (by decide) gw_345 rfl rfl d_QC_mayVoteFor_56 ?_
        refine lv_iload_n (pc := 59) hx hb d_QC_mayVoteFor_59 rfl (lv_at hl 5 rfl) ?_
        refine lv_iload (pc := 60) hx hb d_QC_mayVoteFor_60 (lv_at hl 0 rfl) ?_
        have o8 := hk.1
        have hk := hk.2
        obtain ⟨r9, er9⟩ : ∃ z : Int32, z = f_Blocks_isAbove a3 (S.1 4 i1 0 7) S := ⟨_, rfl⟩
        have hr := lt_e er9 hr
        refine p_go (pc := 62) (congrArg Value.int er9) (p_runV hF hK hW (c_Blocks_isAbove l D X ad ca a3 (S.1 4 i1 0 7) S o8 _) cd_Blocks_isAbove gw_694 tq19 rfl rfl ⟨Nat.le_of_ble_eq_true rfl, Nat.le_of_ble_eq_true rfl⟩ ⟨Nat.zero_le _, Nat.zero_le _⟩ rfl rfl hl.1 (Nat.le_of_ble_eq_true rfl) d_QC_mayVoteFor_62) ?_
        refine lv_if_eq (pc := 65) (tgt := 72) hx hb d_QC_mayVoteFor_65 (by decide) (fun c10 => ?_) (fun c10 => ?_)
        · have hr := (if_pos c10).symm.trans hr
          refine lv_iconst (pc := 72) (v := 0) hx hb d_QC_mayVoteFor_72 (by decide) ?_
          exact p_zret (v := (0 : Int32)) hy rfl hr d_QC_mayVoteFor_73
        · have hr := (if_neg c10).symm.trans hr
          refine lv_iconst (pc := 68) (v := 1) hx hb d_QC_mayVoteFor_68 (by decide) ?_
          refine lv_goto (pc := 69) (tgt := 73) hx hb d_QC_mayVoteFor_69 (by decide) ?_
          exact p_zret (v := (1 : Int32)) hy rfl hr d_QC_mayVoteFor_73
    · have hk := hk.2 c4
      have hr := (if_neg c4).symm.trans hr
      refine lv_iconst (pc := 31) (v := 0) hx hb d_QC_mayVoteFor_31 (by decide) ?_
      exact p_zret (v := (0 : Int32)) hy rfl hr d_QC_mayVoteFor_32
theorem d_Node_enter_0 : decode b_Node_enter 0 = .ok (.aload_n 0, 1) := by decide +kernel
theorem d_Node_enter_1 : decode b_Node_enter 1 = .ok (.iload_n 1, 1) := by decide +kernel
theorem d_Node_enter_2 : decode b_Node_enter 2 = .ok (.putfield 38, 3) := by decide +kernel
theorem d_Node_enter_5 : decode b_Node_enter 5 = .ok (.aload_n 0, 1) := by decide +kernel
theorem d_Node_enter_6 : decode b_Node_enter 6 = .ok (.aload_n 0, 1) := by decide +kernel
theorem d_Node_enter_7 : decode b_Node_enter 7 = .ok (.getfield 45, 3) := by decide +kernel
theorem d_Node_enter_10 : decode b_Node_enter 10 = .ok (.putfield 42, 3) := by decide +kernel
theorem d_Node_enter_13 : decode b_Node_enter 13 = .ok (.return_, 1) := by decide +kernel
def f_Node_enter (i0 : Nat) (a1 : Int32) (S : St) : St :=
  lt (si S 3 i0 0 8 a1) fun (S1 : St) =>
  lt (si S1 3 i0 0 9 (S1.1 3 i0 0 10)) fun (S2 : St) =>
  S2
set_option maxHeartbeats 4000000 in
set_option maxRecDepth 100000 in
theorem c_Node_enter (l : Launch) (D : va_G) (X : va_W) (ad : N3 → Nat) (ca : Nat → ClassId) (i0 : Nat) (a1 : Int32) (h0 : i0 < 4) (S : St) : cV l GG D clQ (tysQ ca) nwQ X ad TQ (cfQ ad ca) y_Node_enter b_Node_enter 2 0 0 [.ref (ad (3, i0, 0)), .int a1] S (f_Node_enter i0 a1 S) := by
  generalize hr : f_Node_enter i0 a1 S = res
  refine zV_of pn_Node (Nat.le_of_ble_eq_true rfl) (fun p e s m below meth c A ls hy hW hA hl => ?_)
  have hF := hy.1
  have hx := hF.1
  have hb := hF.2.1
  have hK := hy.2.2.2
  have hl : lv_has ls 2 [(0, .ref (ad (3, i0, 0))), (1, .int a1)] := hl
  refine lv_aload_n (pc := 0) hx hb d_Node_enter_0 rfl (lv_at hl 0 rfl) ?_
  refine lv_iload_n (pc := 1) hx hb d_Node_enter_1 rfl (lv_at hl 1 rfl) ?_
  obtain ⟨S1, eS1⟩ : ∃ z : St, z = si S 3 i0 0 8 a1 := ⟨_, rfl⟩
  have hr := lt_e eS1 hr
  refine z_put (pc := 2) (S' := S1) hF hK.1 hW (tq3 h0) rfl rfl in_Node t_Node tyo_Node nmo_Node 8 (by decide) gw_311 rfl rfl rfl rfl rfl (Nat.le_of_ble_eq_true rfl) (zs_si eS1 rfl) (zs_sio eS1) d_Node_enter_2 (fun H locs (hW : Wd D clQ A s.heap (zw X ad TQ (cfQ ad ca) S1) H locs) => ?_)
  refine lv_aload_n (pc := 5) hx hb d_Node_enter_5 rfl (lv_at hl 0 rfl) ?_
  refine lv_aload_n (pc := 6) hx hb d_Node_enter_6 rfl (lv_at hl 0 rfl) ?_
  refine z_get (pc := 7) (v := .int (S1.1 3 i0 0 10)) hF hK.1 hW (tq3 h0) rfl rfl in_Node 10 (by decide) gw_315 rfl rfl d_Node_enter_7 ?_
  obtain ⟨S2, eS2⟩ : ∃ z : St, z = si S1 3 i0 0 9 (S1.1 3 i0 0 10) := ⟨_, rfl⟩
  have hr := lt_e eS2 hr
  refine z_put (pc := 10) (S' := S2) hF hK.1 hW (tq3 h0) rfl rfl in_Node t_Node tyo_Node nmo_Node 9 (by decide) gw_313 rfl rfl rfl rfl rfl (Nat.le_of_ble_eq_true rfl) (zs_si eS2 rfl) (zs_sio eS2) d_Node_enter_10 (fun H locs (hW : Wd D clQ A s.heap (zw X ad TQ (cfQ ad ca) S2) H locs) => ?_)
  exact z_vret hy hW hr.symm d_Node_enter_13
theorem d_QC_voteFor_0 : decode b_QC_voteFor 0 = .ok (.aload_n 0, 1) := by decide +kernel
theorem d_QC_voteFor_1 : decode b_QC_voteFor 1 = .ok (.getfield 18, 3) := by decide +kernel
theorem d_QC_voteFor_4 : decode b_QC_voteFor 4 = .ok (.iload_n 2, 1) := by decide +kernel
theorem d_QC_voteFor_5 : decode b_QC_voteFor 5 = .ok (.iload_n 3, 1) := by decide +kernel
theorem d_QC_voteFor_6 : decode b_QC_voteFor 6 = .ok (.invokevirtual 326, 3) := by decide +kernel
theorem d_QC_voteFor_9 : decode b_QC_voteFor 9 = .ok (.ifCond .eq 9, 3) := by decide +kernel
theorem d_QC_voteFor_12 : decode b_QC_voteFor 12 = .ok (.aload_n 1, 1) := by decide +kernel
theorem d_QC_voteFor_13 : decode b_QC_voteFor 13 = .ok (.bipush 6, 2) := by decide +kernel
theorem d_QC_voteFor_15 : decode b_QC_voteFor 15 = .ok (.putfield 245, 3) := by decide +kernel
theorem d_QC_voteFor_18 : decode b_QC_voteFor 18 = .ok (.aload_n 0, 1) := by decide +kernel
theorem d_QC_voteFor_19 : decode b_QC_voteFor 19 = .ok (.getfield 18, 3) := by decide +kernel
theorem d_QC_voteFor_22 : decode b_QC_voteFor 22 = .ok (.iload_n 2, 1) := by decide +kernel
theorem d_QC_voteFor_23 : decode b_QC_voteFor 23 = .ok (.invokevirtual 203, 3) := by decide +kernel
theorem d_QC_voteFor_26 : decode b_QC_voteFor 26 = .ok (.istore 4, 2) := by decide +kernel
theorem d_QC_voteFor_28 : decode b_QC_voteFor 28 = .ok (.aload_n 1, 1) := by decide +kernel
theorem d_QC_voteFor_29 : decode b_QC_voteFor 29 = .ok (.iload 4, 2) := by decide +kernel
theorem d_QC_voteFor_31 : decode b_QC_voteFor 31 = .ok (.invokevirtual 336, 3) := by decide +kernel
theorem d_QC_voteFor_34 : decode b_QC_voteFor 34 = .ok (.aload_n 1, 1) := by decide +kernel
theorem d_QC_voteFor_35 : decode b_QC_voteFor 35 = .ok (.getfield 179, 3) := by decide +kernel
theorem d_QC_voteFor_38 : decode b_QC_voteFor 38 = .ok (.iload 4, 2) := by decide +kernel
theorem d_QC_voteFor_40 : decode b_QC_voteFor 40 = .ok (.putfield 251, 3) := by decide +kernel
theorem d_QC_voteFor_43 : decode b_QC_voteFor 43 = .ok (.iload 4, 2) := by decide +kernel
theorem d_QC_voteFor_45 : decode b_QC_voteFor 45 = .ok (.iconst 1, 1) := by decide +kernel
theorem d_QC_voteFor_46 : decode b_QC_voteFor 46 = .ok (.iadd, 1) := by decide +kernel
theorem d_QC_voteFor_47 : decode b_QC_voteFor 47 = .ok (.invokestatic 173, 3) := by decide +kernel
theorem d_QC_voteFor_50 : decode b_QC_voteFor 50 = .ok (.istore 5, 2) := by decide +kernel
theorem d_QC_voteFor_52 : decode b_QC_voteFor 52 = .ok (.iload 5, 2) := by decide +kernel
theorem d_QC_voteFor_54 : decode b_QC_voteFor 54 = .ok (.invokestatic 68, 3) := by decide +kernel
theorem d_QC_voteFor_57 : decode b_QC_voteFor 57 = .ok (.ifCond .eq 31, 3) := by decide +kernel
theorem d_QC_voteFor_60 : decode b_QC_voteFor 60 = .ok (.aload_n 0, 1) := by decide +kernel
theorem d_QC_voteFor_61 : decode b_QC_voteFor 61 = .ok (.aload_n 1, 1) := by decide +kernel
theorem d_QC_voteFor_62 : decode b_QC_voteFor 62 = .ok (.iconst 2, 1) := by decide +kernel
theorem d_QC_voteFor_63 : decode b_QC_voteFor 63 = .ok (.iload_n 2, 1) := by decide +kernel
theorem d_QC_voteFor_64 : decode b_QC_voteFor 64 = .ok (.iconst 0, 1) := by decide +kernel
theorem d_QC_voteFor_65 : decode b_QC_voteFor 65 = .ok (.invokevirtual 216, 3) := by decide +kernel
theorem d_QC_voteFor_68 : decode b_QC_voteFor 68 = .ok (.ifCond .eq 20, 3) := by decide +kernel
theorem d_QC_voteFor_71 : decode b_QC_voteFor 71 = .ok (.aload_n 0, 1) := by decide +kernel
theorem d_QC_voteFor_72 : decode b_QC_voteFor 72 = .ok (.getfield 11, 3) := by decide +kernel
theorem d_QC_voteFor_75 : decode b_QC_voteFor 75 = .ok (.iload 5, 2) := by decide +kernel
theorem d_QC_voteFor_77 : decode b_QC_voteFor 77 = .ok (.aaload, 1) := by decide +kernel
theorem d_QC_voteFor_78 : decode b_QC_voteFor 78 = .ok (.getfield 99, 3) := by decide +kernel
theorem d_QC_voteFor_81 : decode b_QC_voteFor 81 = .ok (.aload_n 0, 1) := by decide +kernel
theorem d_QC_voteFor_82 : decode b_QC_voteFor 82 = .ok (.getfield 32, 3) := by decide +kernel
theorem d_QC_voteFor_85 : decode b_QC_voteFor 85 = .ok (.invokevirtual 157, 3) := by decide +kernel
theorem d_QC_voteFor_88 : decode b_QC_voteFor 88 = .ok (.return_, 1) := by decide +kernel
def f_QC_voteFor_18 (i1 : Nat) (a2 : Int32) (a3 : Int32) (S : St)  : St :=
  lt (f_Blocks_viewOf a2 S) fun (r6 : Int32) =>
  lt (f_Node_enter i1 r6 S) fun (S8 : St) =>
  lt (si S8 4 i1 0 6 r6) fun (S9 : St) =>
  lt (f_QC_leaderOf (r6 + (1 : Int32)) S9) fun (r10 : Int32) =>
  lt (f_QC_isNode r10 S9) fun (r11 : Int32) =>
  if r11 = 0 then
    S9
  else
    lt (f_QC_writeSigned i1 (2 : Int32) a2 (0 : Int32) S9) fun (r14 : Int32 × St) =>
    if r14.1 = 0 then
      r14.2
    else
      lt (f_Inbox_add (r10.toNatClampNeg) 4 0 r14.2) fun (S19 : St) =>
      S19
def ok_QC_voteFor_18 (i1 : Nat) (a2 : Int32) (a3 : Int32) (S : St)  : Prop :=
  (ok_Blocks_viewOf a2 S) ∧ (
    lt (f_Blocks_viewOf a2 S) fun (r6 : Int32) =>
    lt (f_Node_enter i1 r6 S) fun (S8 : St) =>
    lt (si S8 4 i1 0 6 r6) fun (S9 : St) =>
    lt (f_QC_leaderOf (r6 + (1 : Int32)) S9) fun (r10 : Int32) =>
    lt (f_QC_isNode r10 S9) fun (r11 : Int32) =>
    (r11 = 0 → (
      True)) ∧ (¬ (r11 = 0) → (
      (ok_QC_writeSigned i1 (2 : Int32) a2 (0 : Int32) S9) ∧ (
        lt (f_QC_writeSigned i1 (2 : Int32) a2 (0 : Int32) S9) fun (r14 : Int32 × St) =>
        (r14.1 = 0 → (
          True)) ∧ (¬ (r14.1 = 0) → (
          (vp_in r10 4) ∧ (
            (ok_Inbox_add (r10.toNatClampNeg) 4 0 r14.2) ∧ (
              True))))))))
set_option maxHeartbeats 4000000 in
set_option maxRecDepth 100000 in
theorem w_QC_voteFor_18 {l : Launch} {D : va_G} {X : va_W} {ad : N3 → Nat} {ca : Nat → ClassId} (i1 : Nat) (a2 : Int32) (a3 : Int32) (h1 : i1 < 4) {p : Program} {e : Env} {s : State} {m : MethodId} {below : List Frame} {meth : Method} {c : Code} {A : Nat → Prop} (hy : Hy p s m ([.ref (ad (1, 0, 0)), .ref (ad (3, i1, 0)), .int a2, .int a3] : List Value).toArray meth c b_QC_voteFor 6 none R_QC GG D clQ (tysQ ca) nwQ) (hA : ∀ q, s.heap.size ≤ q → A q) {res : St} : ∀  (S : St)  , ok_QC_voteFor_18 i1 a2 a3 S → f_QC_voteFor_18 i1 a2 a3 S = res → ∀ (H : Heap) (locs : List Loc) (ls : Array Slot), Wd D clQ A s.heap (zw X ad TQ (cfQ ad ca) S) H locs → lv_has ls 6 [(0, .ref (ad (1, 0, 0))), (1, .ref (ad (3, i1, 0))), (2, .int a2)] → W p l e { frames := 4, cells := 0, slots := 0, locals := 122 } s m ([.ref (ad (1, 0, 0)), .ref (ad (3, i1, 0)), .int a2, .int a3] : List Value).toArray below meth c H locs 0 0 (MQ below (eV D clQ X ad TQ (cfQ ad ca) A res) ([.ref (ad (1, 0, 0)), .ref (ad (3, i1, 0)), .int a2, .int a3] : List Value).toArray s 0 0 A) (F0 m 18 ls []) := by
  have hF := hy.1
  have hx := hF.1
  have hb := hF.2.1
  have hK := hy.2.2.2
  intro S hk hr H locs ls hW hl
  refine lv_aload_n (pc := 18) hx hb d_QC_voteFor_18 rfl (lv_at hl 0 rfl) ?_
  refine z_get (pc := 19) (v := .ref (ad (19, 0, 0))) hF hK.1 hW tq1 rfl rfl in_QC 1 (by decide) gw_345 rfl rfl d_QC_voteFor_19 ?_
  refine lv_iload_n (pc := 22) hx hb d_QC_voteFor_22 rfl (lv_at hl 2 rfl) ?_
  have o5 := hk.1
  have hk := hk.2
  obtain ⟨r6, er6⟩ : ∃ z : Int32, z = f_Blocks_viewOf a2 S := ⟨_, rfl⟩
  have hk := lt_p er6 hk
  have hr := lt_e er6 hr
  refine p_go (pc := 23) (congrArg Value.int er6) (p_runV hF hK hW (c_Blocks_viewOf l D X ad ca a2 S o5 _) cd_Blocks_viewOf gw_456 tq19 rfl rfl ⟨Nat.le_of_ble_eq_true rfl, Nat.le_of_ble_eq_true rfl⟩ ⟨Nat.zero_le _, Nat.zero_le _⟩ rfl rfl hl.1 (Nat.le_of_ble_eq_true rfl) d_QC_voteFor_23) ?_
  refine lv_istore (pc := 26) (lv' := [(4, .int r6), (0, .ref (ad (1, 0, 0))), (1, .ref (ad (3, i1, 0))), (2, .int a2)]) hx hb d_QC_voteFor_26 hl (by decide) rfl (fun ls hl => ?_)
  refine lv_aload_n (pc := 28) hx hb d_QC_voteFor_28 rfl (lv_at hl 2 rfl) ?_
  refine lv_iload (pc := 29) hx hb d_QC_voteFor_29 (lv_at hl 0 rfl) ?_
  obtain ⟨S8, eS8⟩ : ∃ z : St, z = f_Node_enter i1 r6 S := ⟨_, rfl⟩
  have hk := lt_p eS8 hk
  have hr := lt_e eS8 hr
  refine z_goV (pc := 31) hW hA eS8 (z_runV hF hK hW (c_Node_enter l D X ad ca i1 r6 h1 S _) cd_Node_enter gw_739 (tq3 h1) rfl rfl ⟨Nat.le_of_ble_eq_true rfl, Nat.le_of_ble_eq_true rfl⟩ ⟨Nat.zero_le _, Nat.zero_le _⟩ rfl rfl hl.1 (Nat.le_of_ble_eq_true rfl) d_QC_voteFor_31) (fun H locs (hW : Wd D clQ A s.heap (zw X ad TQ (cfQ ad ca) S8) H locs) => ?_)
  refine lv_aload_n (pc := 34) hx hb d_QC_voteFor_34 rfl (lv_at hl 2 rfl) ?_
  refine z_get (pc := 35) (v := .ref (ad (4, i1, 0))) hF hK.1 hW (tq3 h1) rfl rfl in_Node 1 (by decide) gw_298 rfl rfl d_QC_voteFor_35 ?_
  refine lv_iload (pc := 38) hx hb d_QC_voteFor_38 (lv_at hl 0 rfl) ?_
  obtain ⟨S9, eS9⟩ : ∃ z : St, z = si S8 4 i1 0 6 r6 := ⟨_, rfl⟩
  have hk := lt_p eS9 hk
  have hr := lt_e eS9 hr
  refine z_put (pc := 40) (S' := S9) hF hK.1 hW (tq4 h1) rfl rfl in_Store t_Store tyo_Store nmo_Store 6 (by decide) gw_276 rfl rfl rfl rfl rfl (Nat.le_of_ble_eq_true rfl) (zs_si eS9 rfl) (zs_sio eS9) d_QC_voteFor_40 (fun H locs (hW : Wd D clQ A s.heap (zw X ad TQ (cfQ ad ca) S9) H locs) => ?_)
  refine lv_iload (pc := 43) hx hb d_QC_voteFor_43 (lv_at hl 0 rfl) ?_
  refine lv_iconst (pc := 45) (v := 1) hx hb d_QC_voteFor_45 (by decide) ?_
  refine lv_iadd (pc := 46) hx hb d_QC_voteFor_46 ?_
  obtain ⟨r10, er10⟩ : ∃ z : Int32, z = f_QC_leaderOf (r6 + (1 : Int32)) S9 := ⟨_, rfl⟩
  have hk := lt_p er10 hk
  have hr := lt_e er10 hr
  refine p_go (pc := 47) (congrArg Value.int er10) (p_runS hF hK hW (c_QC_leaderOf l D X ad ca (r6 + (1 : Int32)) S9 _) cd_QC_leaderOf gw_670 ⟨Nat.le_of_ble_eq_true rfl, Nat.le_of_ble_eq_true rfl⟩ ⟨Nat.zero_le _, Nat.zero_le _⟩ rfl rfl hl.1 (Nat.le_of_ble_eq_true rfl) d_QC_voteFor_47) ?_
  refine lv_istore (pc := 50) (lv' := [(5, .int r10), (4, .int r6), (0, .ref (ad (1, 0, 0))), (1, .ref (ad (3, i1, 0))), (2, .int a2)]) hx hb d_QC_voteFor_50 hl (by decide) rfl (fun ls hl => ?_)
  refine lv_iload (pc := 52) hx hb d_QC_voteFor_52 (lv_at hl 0 rfl) ?_
  obtain ⟨r11, er11⟩ : ∃ z : Int32, z = f_QC_isNode r10 S9 := ⟨_, rfl⟩
  have hk := lt_p er11 hk
  have hr := lt_e er11 hr
  refine p_go (pc := 54) (congrArg Value.int er11) (p_runS hF hK hW (c_QC_isNode l D X ad ca r10 S9 _) cd_QC_isNode gw_430 ⟨Nat.le_of_ble_eq_true rfl, Nat.le_of_ble_eq_true rfl⟩ ⟨Nat.zero_le _, Nat.zero_le _⟩ rfl rfl hl.1 (Nat.le_of_ble_eq_true rfl) d_QC_voteFor_54) ?_
  refine lv_if_eq (pc := 57) (tgt := 88) hx hb d_QC_voteFor_57 (by decide) (fun c12 => ?_) (fun c12 => ?_)
  · have hk := hk.1 c12
    have hr := (if_pos c12).symm.trans hr
    exact z_vret hy hW hr.symm d_QC_voteFor_88
  · have hk := hk.2 c12
    have hr := (if_neg c12).symm.trans hr
    refine lv_aload_n (pc := 60) hx hb d_QC_voteFor_60 rfl (lv_at hl 2 rfl) ?_
    refine lv_aload_n (pc := 61) hx hb d_QC_voteFor_61 rfl (lv_at hl 3 rfl) ?_
    refine lv_iconst (pc := 62) (v := 2) hx hb d_QC_voteFor_62 (by decide) ?_
    refine lv_iload_n (pc := 63) hx hb d_QC_voteFor_63 rfl (lv_at hl 4 rfl) ?_
    refine lv_iconst (pc := 64) (v := 0) hx hb d_QC_voteFor_64 (by decide) ?_
    have o13 := hk.1
    have hk := hk.2
    obtain ⟨r14, er14⟩ : ∃ z : Int32 × St, z = f_QC_writeSigned i1 (2 : Int32) a2 (0 : Int32) S9 := ⟨_, rfl⟩
    have hk := lt_p er14 hk
    have hr := lt_e er14 hr
    refine z_goI (pc := 65) hW hA (show (r14.1, r14.2) = _ from er14) (z_runV hF hK hW (c_QC_writeSigned l D X ad ca i1 (2 : Int32) a2 (0 : Int32) h1 S9 o13 _) cd_QC_writeSigned gw_377 tq1 rfl rfl ⟨Nat.le_of_ble_eq_true rfl, Nat.le_of_ble_eq_true rfl⟩ ⟨Nat.zero_le _, Nat.zero_le _⟩ rfl rfl hl.1 (Nat.le_of_ble_eq_true rfl) d_QC_voteFor_65) (fun H locs (hW : Wd D clQ A s.heap (zw X ad TQ (cfQ ad ca) r14.2) H locs) => ?_)
    refine lv_if_eq (pc := 68) (tgt := 88) hx hb d_QC_voteFor_68 (by decide) (fun c15 => ?_) (fun c15 => ?_)
    · have hk := hk.1 c15
      have hr := (if_pos c15).symm.trans hr
      exact z_vret hy hW hr.symm d_QC_voteFor_88
    · have hk := hk.2 c15
      have hr := (if_neg c15).symm.trans hr
      refine lv_aload_n (pc := 71) hx hb d_QC_voteFor_71 rfl (lv_at hl 2 rfl) ?_
      refine z_get (pc := 72) (v := .ref (ad (2, 0, 0))) hF hK.1 hW tq1 rfl rfl in_QC 0 (by decide) gw_344 rfl rfl d_QC_voteFor_72 ?_
      refine lv_iload (pc := 75) hx hb d_QC_voteFor_75 (lv_at hl 0 rfl) ?_
      have b16 := hk.1
      have hk := hk.2
      refine z_aald (pc := 77) (q := ad (3, (r10.toNatClampNeg), 0)) hF hK.1 hW tq2 3 rfl rfl b16 rfl d_QC_voteFor_77 ?_
      refine z_get (pc := 78) (v := .ref (ad (12, (r10.toNatClampNeg), 0))) hF hK.1 hW (tq3 (vin4 b16)) rfl rfl in_Node 2 (by decide) gw_300 rfl rfl d_QC_voteFor_78 ?_
      refine lv_aload_n (pc := 81) hx hb d_QC_voteFor_81 rfl (lv_at hl 2 rfl) ?_
      refine z_get (pc := 82) (v := .ref (ad (14, 4, 0))) hF hK.1 hW tq1 rfl rfl in_QC 3 (by decide) gw_347 rfl rfl d_QC_voteFor_82 ?_
      have o17 := hk.1
      have hk := hk.2
      obtain ⟨S19, eS19⟩ : ∃ z : St, z = f_Inbox_add (r10.toNatClampNeg) 4 0 r14.2 := ⟨_, rfl⟩
      have hr := lt_e eS19 hr
      refine z_goV (pc := 85) hW hA eS19 (z_runV hF hK hW (c_Inbox_add l D X ad ca (r10.toNatClampNeg) 4 0 (vin4 b16) inM_D r14.2 o17 _) cd_Inbox_add gw_411 (tq12 (vin4 b16)) rfl rfl ⟨Nat.le_of_ble_eq_true rfl, Nat.le_of_ble_eq_true rfl⟩ ⟨Nat.zero_le _, Nat.zero_le _⟩ rfl rfl hl.1 (Nat.le_of_ble_eq_true rfl) d_QC_voteFor_85) (fun H locs (hW : Wd D clQ A s.heap (zw X ad TQ (cfQ ad ca) S19) H locs) => ?_)
      exact z_vret hy hW hr.symm d_QC_voteFor_88
def f_QC_voteFor (i1 : Nat) (a2 : Int32) (a3 : Int32) (S : St) : St :=
  lt (f_Blocks_isNextView a2 a3 S) fun (r2 : Int32) =>
  if r2 = 0 then
    f_QC_voteFor_18 i1 a2 a3 S
  else
    lt (si S 3 i1 0 10 (6 : Int32)) fun (S4 : St) =>
    f_QC_voteFor_18 i1 a2 a3 S4
def ok_QC_voteFor (i1 : Nat) (a2 : Int32) (a3 : Int32) (S : St) : Prop :=
  (ok_Blocks_isNextView a2 a3 S) ∧ (
    lt (f_Blocks_isNextView a2 a3 S) fun (r2 : Int32) =>
    (r2 = 0 → (
      ok_QC_voteFor_18 i1 a2 a3 S)) ∧ (¬ (r2 = 0) → (
      lt (si S 3 i1 0 10 (6 : Int32)) fun (S4 : St) =>
      ok_QC_voteFor_18 i1 a2 a3 S4)))
set_option maxHeartbeats 4000000 in
set_option maxRecDepth 100000 in
theorem c_QC_voteFor (l : Launch) (D : va_G) (X : va_W) (ad : N3 → Nat) (ca : Nat → ClassId) (i1 : Nat) (a2 : Int32) (a3 : Int32) (h1 : i1 < 4) (S : St) (hk : ok_QC_voteFor i1 a2 a3 S) : cV l GG D clQ (tysQ ca) nwQ X ad TQ (cfQ ad ca) y_QC_voteFor b_QC_voteFor 6 4 122 [.ref (ad (1, 0, 0)), .ref (ad (3, i1, 0)), .int a2, .int a3] S (f_QC_voteFor i1 a2 a3 S) := by
  generalize hr : f_QC_voteFor i1 a2 a3 S = res
  refine zV_of pn_QC (Nat.le_of_ble_eq_true rfl) (fun p e s m below meth c A ls hy hW hA hl => ?_)
  have hF := hy.1
  have hx := hF.1
  have hb := hF.2.1
  have hK := hy.2.2.2
  have hl : lv_has ls 6 [(0, .ref (ad (1, 0, 0))), (1, .ref (ad (3, i1, 0))), (2, .int a2), (3, .int a3)] := hl
  refine lv_aload_n (pc := 0) hx hb d_QC_voteFor_0 rfl (lv_at hl 0 rfl) ?_
  refine z_get (pc := 1) (v := .ref (ad (19, 0, 0))) hF hK.1 hW tq1 rfl rfl in_QC 1 (by decide) gw_345 rfl rfl d_QC_voteFor_1 ?_
  refine lv_iload_n (pc := 4) hx hb d_QC_voteFor_4 rfl (lv_at hl 2 rfl) ?_
  refine lv_iload_n (pc := 5) hx hb d_QC_voteFor_5 rfl (lv_at hl 3 rfl) ?_
  have o1 := hk.1
  have hk := hk.2
  obtain ⟨r2, er2⟩ : ∃ z : Int32, z = f_Blocks_isNextView a2 a3 S := ⟨_, rfl⟩
  have hk := lt_p er2 hk
  have hr := lt_e er2 hr
  refine p_go (pc := 6) (congrArg Value.int er2) (p_runV hF hK hW (c_Blocks_isNextView l D X ad ca a2 a3 S o1 _) cd_Blocks_isNextView gw_699 tq19 rfl rfl ⟨Nat.le_of_ble_eq_true rfl, Nat.le_of_ble_eq_true rfl⟩ ⟨Nat.zero_le _, Nat.zero_le _⟩ rfl rfl hl.1 (Nat.le_of_ble_eq_true rfl) d_QC_voteFor_6) ?_
  refine lv_if_eq (pc := 9) (tgt := 18) hx hb d_QC_voteFor_9 (by decide) (fun c3 => ?_) (fun c3 => ?_)
  · have hk := hk.1 c3
    have hr := (if_pos c3).symm.trans hr
    exact w_QC_voteFor_18 i1 a2 a3 h1 hy hA S hk hr _ _ _ hW (lv_sub hl [0, 1, 2] rfl)
  · have hk := hk.2 c3
    have hr := (if_neg c3).symm.trans hr
    refine lv_aload_n (pc := 12) hx hb d_QC_voteFor_12 rfl (lv_at hl 1 rfl) ?_
    refine lv_bipush (pc := 13) (v := 6) hx hb d_QC_voteFor_13 (by decide) ?_
    obtain ⟨S4, eS4⟩ : ∃ z : St, z = si S 3 i1 0 10 (6 : Int32) := ⟨_, rfl⟩
    have hk := lt_p eS4 hk
    have hr := lt_e eS4 hr
    refine z_put (pc := 15) (S' := S4) hF hK.1 hW (tq3 h1) rfl rfl in_Node t_Node tyo_Node nmo_Node 10 (by decide) gw_316 rfl rfl rfl rfl rfl (Nat.le_of_ble_eq_true rfl) (zs_si eS4 rfl) (zs_sio eS4) d_QC_voteFor_15 (fun H locs (hW : Wd D clQ A s.heap (zw X ad TQ (cfQ ad ca) S4) H locs) => ?_)
    exact w_QC_voteFor_18 i1 a2 a3 h1 hy hA S4 hk hr _ _ _ hW (lv_sub hl [0, 1, 2] rfl)
theorem d_QC_receiveProposal_0 : decode b_QC_receiveProposal 0 = .ok (.aload_n 0, 1) := by decide +kernel
theorem d_QC_receiveProposal_1 : decode b_QC_receiveProposal 1 = .ok (.getfield 18, 3) := by decide +kernel
theorem d_QC_receiveProposal_4 : decode b_QC_receiveProposal 4 = .ok (.iload_n 3, 1) := by decide +kernel
theorem d_QC_receiveProposal_5 : decode b_QC_receiveProposal 5 = .ok (.invokevirtual 285, 3) := by decide +kernel
theorem d_QC_receiveProposal_8 : decode b_QC_receiveProposal 8 = .ok (.istore 4, 2) := by decide +kernel
theorem d_QC_receiveProposal_10 : decode b_QC_receiveProposal 10 = .ok (.aload_n 1, 1) := by decide +kernel
theorem d_QC_receiveProposal_11 : decode b_QC_receiveProposal 11 = .ok (.getfield 179, 3) := by decide +kernel
theorem d_QC_receiveProposal_14 : decode b_QC_receiveProposal 14 = .ok (.iload 4, 2) := by decide +kernel
theorem d_QC_receiveProposal_16 : decode b_QC_receiveProposal 16 = .ok (.invokevirtual 195, 3) := by decide +kernel
theorem d_QC_receiveProposal_19 : decode b_QC_receiveProposal 19 = .ok (.ifCond .ne 13, 3) := by decide +kernel
theorem d_QC_receiveProposal_22 : decode b_QC_receiveProposal 22 = .ok (.aload_n 0, 1) := by decide +kernel
theorem d_QC_receiveProposal_23 : decode b_QC_receiveProposal 23 = .ok (.aload_n 1, 1) := by decide +kernel
theorem d_QC_receiveProposal_24 : decode b_QC_receiveProposal 24 = .ok (.iconst 4, 1) := by decide +kernel
theorem d_QC_receiveProposal_25 : decode b_QC_receiveProposal 25 = .ok (.iload 4, 2) := by decide +kernel
theorem d_QC_receiveProposal_27 : decode b_QC_receiveProposal 27 = .ok (.iload_n 2, 1) := by decide +kernel
theorem d_QC_receiveProposal_28 : decode b_QC_receiveProposal 28 = .ok (.invokevirtual 309, 3) := by decide +kernel
theorem d_QC_receiveProposal_31 : decode b_QC_receiveProposal 31 = .ok (.return_, 1) := by decide +kernel
theorem d_QC_receiveProposal_32 : decode b_QC_receiveProposal 32 = .ok (.aload_n 1, 1) := by decide +kernel
theorem d_QC_receiveProposal_33 : decode b_QC_receiveProposal 33 = .ok (.getfield 179, 3) := by decide +kernel
theorem d_QC_receiveProposal_36 : decode b_QC_receiveProposal 36 = .ok (.iload_n 3, 1) := by decide +kernel
theorem d_QC_receiveProposal_37 : decode b_QC_receiveProposal 37 = .ok (.invokevirtual 212, 3) := by decide +kernel
theorem d_QC_receiveProposal_40 : decode b_QC_receiveProposal 40 = .ok (.aload_n 0, 1) := by decide +kernel
theorem d_QC_receiveProposal_41 : decode b_QC_receiveProposal 41 = .ok (.aload_n 1, 1) := by decide +kernel
theorem d_QC_receiveProposal_42 : decode b_QC_receiveProposal 42 = .ok (.iload 4, 2) := by decide +kernel
theorem d_QC_receiveProposal_44 : decode b_QC_receiveProposal 44 = .ok (.invokevirtual 312, 3) := by decide +kernel
theorem d_QC_receiveProposal_47 : decode b_QC_receiveProposal 47 = .ok (.aload_n 0, 1) := by decide +kernel
theorem d_QC_receiveProposal_48 : decode b_QC_receiveProposal 48 = .ok (.aload_n 1, 1) := by decide +kernel
theorem d_QC_receiveProposal_49 : decode b_QC_receiveProposal 49 = .ok (.iload_n 3, 1) := by decide +kernel
theorem d_QC_receiveProposal_50 : decode b_QC_receiveProposal 50 = .ok (.iload 4, 2) := by decide +kernel
theorem d_QC_receiveProposal_52 : decode b_QC_receiveProposal 52 = .ok (.invokevirtual 316, 3) := by decide +kernel
theorem d_QC_receiveProposal_55 : decode b_QC_receiveProposal 55 = .ok (.ifCond .eq 11, 3) := by decide +kernel
theorem d_QC_receiveProposal_58 : decode b_QC_receiveProposal 58 = .ok (.aload_n 0, 1) := by decide +kernel
theorem d_QC_receiveProposal_59 : decode b_QC_receiveProposal 59 = .ok (.aload_n 1, 1) := by decide +kernel
theorem d_QC_receiveProposal_60 : decode b_QC_receiveProposal 60 = .ok (.iload_n 3, 1) := by decide +kernel
theorem d_QC_receiveProposal_61 : decode b_QC_receiveProposal 61 = .ok (.iload 4, 2) := by decide +kernel
theorem d_QC_receiveProposal_63 : decode b_QC_receiveProposal 63 = .ok (.invokevirtual 320, 3) := by decide +kernel
theorem d_QC_receiveProposal_66 : decode b_QC_receiveProposal 66 = .ok (.return_, 1) := by decide +kernel
def f_QC_receiveProposal (i1 : Nat) (a2 : Int32) (a3 : Int32) (S : St) : St :=
  lt (f_Blocks_parentOf a3 S) fun (r2 : Int32) =>
  lt (f_Store_hasBlock i1 r2 S) fun (r4 : Int32) =>
  if r4 = 0 then
    lt (f_QC_sendUnsigned i1 (4 : Int32) r2 a2 S) fun (S20 : St) =>
    S20
  else
    lt (f_Store_keepBlock i1 a3 S) fun (S8 : St) =>
    lt (f_QC_takeAsCertified i1 r2 S8) fun (S11 : St) =>
    lt (f_QC_mayVoteFor i1 a3 r2 S11) fun (r13 : Int32) =>
    if r13 = 0 then
      S11
    else
      lt (f_QC_voteFor i1 a3 r2 S11) fun (S17 : St) =>
      S17
def ok_QC_receiveProposal (i1 : Nat) (a2 : Int32) (a3 : Int32) (S : St) : Prop :=
  (ok_Blocks_parentOf a3 S) ∧ (
    lt (f_Blocks_parentOf a3 S) fun (r2 : Int32) =>
    (ok_Store_hasBlock i1 r2 S) ∧ (
      lt (f_Store_hasBlock i1 r2 S) fun (r4 : Int32) =>
      (r4 = 0 → (
        (ok_QC_sendUnsigned i1 (4 : Int32) r2 a2 S) ∧ (
          True))) ∧ (¬ (r4 = 0) → (
        (ok_Store_keepBlock i1 a3 S) ∧ (
          lt (f_Store_keepBlock i1 a3 S) fun (S8 : St) =>
          (ok_QC_takeAsCertified i1 r2 S8) ∧ (
            lt (f_QC_takeAsCertified i1 r2 S8) fun (S11 : St) =>
            (ok_QC_mayVoteFor i1 a3 r2 S11) ∧ (
              lt (f_QC_mayVoteFor i1 a3 r2 S11) fun (r13 : Int32) =>
              (r13 = 0 → (
                True)) ∧ (¬ (r13 = 0) → (
                (ok_QC_voteFor i1 a3 r2 S11) ∧ (
                  True))))))))))
set_option maxHeartbeats 4000000 in
set_option maxRecDepth 100000 in
theorem c_QC_receiveProposal (l : Launch) (D : va_G) (X : va_W) (ad : N3 → Nat) (ca : Nat → ClassId) (i1 : Nat) (a2 : Int32) (a3 : Int32) (h1 : i1 < 4) (S : St) (hk : ok_QC_receiveProposal i1 a2 a3 S) : cV l GG D clQ (tysQ ca) nwQ X ad TQ (cfQ ad ca) y_QC_receiveProposal b_QC_receiveProposal 5 5 147 [.ref (ad (1, 0, 0)), .ref (ad (3, i1, 0)), .int a2, .int a3] S (f_QC_receiveProposal i1 a2 a3 S) := by
  generalize hr : f_QC_receiveProposal i1 a2 a3 S = res
  refine zV_of pn_QC (Nat.le_of_ble_eq_true rfl) (fun p e s m below meth c A ls hy hW hA hl => ?_)
  have hF := hy.1
  have hx := hF.1
  have hb := hF.2.1
  have hK := hy.2.2.2
  have hl : lv_has ls 5 [(0, .ref (ad (1, 0, 0))), (1, .ref (ad (3, i1, 0))), (2, .int a2), (3, .int a3)] := hl
  refine lv_aload_n (pc := 0) hx hb d_QC_receiveProposal_0 rfl (lv_at hl 0 rfl) ?_
  refine z_get (pc := 1) (v := .ref (ad (19, 0, 0))) hF hK.1 hW tq1 rfl rfl in_QC 1 (by decide) gw_345 rfl rfl d_QC_receiveProposal_1 ?_
  refine lv_iload_n (pc := 4) hx hb d_QC_receiveProposal_4 rfl (lv_at hl 3 rfl) ?_
  have o1 := hk.1
  have hk := hk.2
  obtain ⟨r2, er2⟩ : ∃ z : Int32, z = f_Blocks_parentOf a3 S := ⟨_, rfl⟩
  have hk := lt_p er2 hk
  have hr := lt_e er2 hr
  refine p_go (pc := 5) (congrArg Value.int er2) (p_runV hF hK hW (c_Blocks_parentOf l D X ad ca a3 S o1 _) cd_Blocks_parentOf gw_461 tq19 rfl rfl ⟨Nat.le_of_ble_eq_true rfl, Nat.le_of_ble_eq_true rfl⟩ ⟨Nat.zero_le _, Nat.zero_le _⟩ rfl rfl hl.1 (Nat.le_of_ble_eq_true rfl) d_QC_receiveProposal_5) ?_
  refine lv_istore (pc := 8) (lv' := [(4, .int r2), (0, .ref (ad (1, 0, 0))), (1, .ref (ad (3, i1, 0))), (2, .int a2), (3, .int a3)]) hx hb d_QC_receiveProposal_8 hl (by decide) rfl (fun ls hl => ?_)
  refine lv_aload_n (pc := 10) hx hb d_QC_receiveProposal_10 rfl (lv_at hl 2 rfl) ?_
  refine z_get (pc := 11) (v := .ref (ad (4, i1, 0))) hF hK.1 hW (tq3 h1) rfl rfl in_Node 1 (by decide) gw_298 rfl rfl d_QC_receiveProposal_11 ?_
  refine lv_iload (pc := 14) hx hb d_QC_receiveProposal_14 (lv_at hl 0 rfl) ?_
  have o3 := hk.1
  have hk := hk.2
  obtain ⟨r4, er4⟩ : ∃ z : Int32, z = f_Store_hasBlock i1 r2 S := ⟨_, rfl⟩
  have hk := lt_p er4 hk
  have hr := lt_e er4 hr
  refine p_go (pc := 16) (congrArg Value.int er4) (p_runV hF hK hW (c_Store_hasBlock l D X ad ca i1 r2 h1 S o3 _) cd_Store_hasBlock gw_477 (tq4 h1) rfl rfl ⟨Nat.le_of_ble_eq_true rfl, Nat.le_of_ble_eq_true rfl⟩ ⟨Nat.zero_le _, Nat.zero_le _⟩ rfl rfl hl.1 (Nat.le_of_ble_eq_true rfl) d_QC_receiveProposal_16) ?_
  refine lv_if_ne (pc := 19) (tgt := 32) hx hb d_QC_receiveProposal_19 (by decide) (fun c5 => ?_) (fun c5 => ?_)
  · have hk := hk.2 c5
    have hr := (if_neg c5).symm.trans hr
    refine lv_aload_n (pc := 32) hx hb d_QC_receiveProposal_32 rfl (lv_at hl 2 rfl) ?_
    refine z_get (pc := 33) (v := .ref (ad (4, i1, 0))) hF hK.1 hW (tq3 h1) rfl rfl in_Node 1 (by decide) gw_298 rfl rfl d_QC_receiveProposal_33 ?_
    refine lv_iload_n (pc := 36) hx hb d_QC_receiveProposal_36 rfl (lv_at hl 4 rfl) ?_
    have o6 := hk.1
    have hk := hk.2
    obtain ⟨S8, eS8⟩ : ∃ z : St, z = f_Store_keepBlock i1 a3 S := ⟨_, rfl⟩
    have hk := lt_p eS8 hk
    have hr := lt_e eS8 hr
    refine z_goV (pc := 37) hW hA eS8 (z_runV hF hK hW (c_Store_keepBlock l D X ad ca i1 a3 h1 S o6 _) cd_Store_keepBlock gw_640 (tq4 h1) rfl rfl ⟨Nat.le_of_ble_eq_true rfl, Nat.le_of_ble_eq_true rfl⟩ ⟨Nat.zero_le _, Nat.zero_le _⟩ rfl rfl hl.1 (Nat.le_of_ble_eq_true rfl) d_QC_receiveProposal_37) (fun H locs (hW : Wd D clQ A s.heap (zw X ad TQ (cfQ ad ca) S8) H locs) => ?_)
    refine lv_aload_n (pc := 40) hx hb d_QC_receiveProposal_40 rfl (lv_at hl 1 rfl) ?_
    refine lv_aload_n (pc := 41) hx hb d_QC_receiveProposal_41 rfl (lv_at hl 2 rfl) ?_
    refine lv_iload (pc := 42) hx hb d_QC_receiveProposal_42 (lv_at hl 0 rfl) ?_
    have o9 := hk.1
    have hk := hk.2
    obtain ⟨S11, eS11⟩ : ∃ z : St, z = f_QC_takeAsCertified i1 r2 S8 := ⟨_, rfl⟩
    have hk := lt_p eS11 hk
    have hr := lt_e eS11 hr
    refine z_goV (pc := 44) hW hA eS11 (z_runV hF hK hW (c_QC_takeAsCertified l D X ad ca i1 r2 h1 S8 o9 _) cd_QC_takeAsCertified gw_686 tq1 rfl rfl ⟨Nat.le_of_ble_eq_true rfl, Nat.le_of_ble_eq_true rfl⟩ ⟨Nat.zero_le _, Nat.zero_le _⟩ rfl rfl hl.1 (Nat.le_of_ble_eq_true rfl) d_QC_receiveProposal_44) (fun H locs (hW : Wd D clQ A s.heap (zw X ad TQ (cfQ ad ca) S11) H locs) => ?_)
    refine lv_aload_n (pc := 47) hx hb d_QC_receiveProposal_47 rfl (lv_at hl 1 rfl) ?_
    refine lv_aload_n (pc := 48) hx hb d_QC_receiveProposal_48 rfl (lv_at hl 2 rfl) ?_
    refine lv_iload_n (pc := 49) hx hb d_QC_receiveProposal_49 rfl (lv_at hl 4 rfl) ?_
    refine lv_iload (pc := 50) hx hb d_QC_receiveProposal_50 (lv_at hl 0 rfl) ?_
    have o12 := hk.1
    have hk := hk.2
    obtain ⟨r13, er13⟩ : ∃ z : Int32, z = f_QC_mayVoteFor i1 a3 r2 S11 := ⟨_, rfl⟩
    have hk := lt_p er13 hk
    have hr := lt_e er13 hr
    refine p_go (pc := 52) (congrArg Value.int er13) (p_runV hF hK hW (c_QC_mayVoteFor l D X ad ca i1 a3 r2 h1 S11 o12 _) cd_QC_mayVoteFor gw_726 tq1 rfl rfl ⟨Nat.le_of_ble_eq_true rfl, Nat.le_of_ble_eq_true rfl⟩ ⟨Nat.zero_le _, Nat.zero_le _⟩ rfl rfl hl.1 (Nat.le_of_ble_eq_true rfl) d_QC_receiveProposal_52) ?_
    refine lv_if_eq (pc := 55) (tgt := 66) hx hb d_QC_receiveProposal_55 (by decide) (fun c14 => ?_) (fun c14 => ?_)
    · have hk := hk.1 c14
      have hr := (if_pos c14).symm.trans hr
      exact z_vret hy hW hr.symm d_QC_receiveProposal_66
    · have hk := hk.2 c14
      have hr := (if_neg c14).symm.trans hr
      refine lv_aload_n (pc := 58) hx hb d_QC_receiveProposal_58 rfl (lv_at hl 1 rfl) ?_
      refine lv_aload_n (pc := 59) hx hb d_QC_receiveProposal_59 rfl (lv_at hl 2 rfl) ?_
      refine lv_iload_n (pc := 60) hx hb d_QC_receiveProposal_60 rfl (lv_at hl 4 rfl) ?_
      refine lv_iload (pc := 61) hx hb d_QC_receiveProposal_61 (lv_at hl 0 rfl) ?_
      have o15 := hk.1
      have hk := hk.2
      obtain ⟨S17, eS17⟩ : ∃ z : St, z = f_QC_voteFor i1 a3 r2 S11 := ⟨_, rfl⟩
      have hr := lt_e eS17 hr
      refine z_goV (pc := 63) hW hA eS17 (z_runV hF hK hW (c_QC_voteFor l D X ad ca i1 a3 r2 h1 S11 o15 _) cd_QC_voteFor gw_735 tq1 rfl rfl ⟨Nat.le_of_ble_eq_true rfl, Nat.le_of_ble_eq_true rfl⟩ ⟨Nat.zero_le _, Nat.zero_le _⟩ rfl rfl hl.1 (Nat.le_of_ble_eq_true rfl) d_QC_receiveProposal_63) (fun H locs (hW : Wd D clQ A s.heap (zw X ad TQ (cfQ ad ca) S17) H locs) => ?_)
      exact z_vret hy hW hr.symm d_QC_receiveProposal_66
  · have hk := hk.1 c5
    have hr := (if_pos c5).symm.trans hr
    refine lv_aload_n (pc := 22) hx hb d_QC_receiveProposal_22 rfl (lv_at hl 1 rfl) ?_
    refine lv_aload_n (pc := 23) hx hb d_QC_receiveProposal_23 rfl (lv_at hl 2 rfl) ?_
    refine lv_iconst (pc := 24) (v := 4) hx hb d_QC_receiveProposal_24 (by decide) ?_
    refine lv_iload (pc := 25) hx hb d_QC_receiveProposal_25 (lv_at hl 0 rfl) ?_
    refine lv_iload_n (pc := 27) hx hb d_QC_receiveProposal_27 rfl (lv_at hl 3 rfl) ?_
    have o18 := hk.1
    have hk := hk.2
    obtain ⟨S20, eS20⟩ : ∃ z : St, z = f_QC_sendUnsigned i1 (4 : Int32) r2 a2 S := ⟨_, rfl⟩
    have hr := lt_e eS20 hr
    refine z_goV (pc := 28) hW hA eS20 (z_runV hF hK hW (c_QC_sendUnsigned l D X ad ca i1 (4 : Int32) r2 a2 h1 S o18 _) cd_QC_sendUnsigned gw_682 tq1 rfl rfl ⟨Nat.le_of_ble_eq_true rfl, Nat.le_of_ble_eq_true rfl⟩ ⟨Nat.zero_le _, Nat.zero_le _⟩ rfl rfl hl.1 (Nat.le_of_ble_eq_true rfl) d_QC_receiveProposal_28) (fun H locs (hW : Wd D clQ A s.heap (zw X ad TQ (cfQ ad ca) S20) H locs) => ?_)
    exact z_vret hy hW hr.symm d_QC_receiveProposal_31
