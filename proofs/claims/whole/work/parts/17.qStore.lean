theorem d_Store_keepBlock_0 : decode b_Store_keepBlock 0 = .ok (.iload_n 1, 1) := by decide +kernel
theorem d_Store_keepBlock_1 : decode b_Store_keepBlock 1 = .ok (.ifCond .lt 35, 3) := by decide +kernel
theorem d_Store_keepBlock_4 : decode b_Store_keepBlock 4 = .ok (.iload_n 1, 1) := by decide +kernel
theorem d_Store_keepBlock_5 : decode b_Store_keepBlock 5 = .ok (.bipush 100, 2) := by decide +kernel
theorem d_Store_keepBlock_7 : decode b_Store_keepBlock 7 = .ok (.if_icmp .ge 29, 3) := by decide +kernel
theorem d_Store_keepBlock_10 : decode b_Store_keepBlock 10 = .ok (.aload_n 0, 1) := by decide +kernel
theorem d_Store_keepBlock_11 : decode b_Store_keepBlock 11 = .ok (.getfield 9, 3) := by decide +kernel
theorem d_Store_keepBlock_14 : decode b_Store_keepBlock 14 = .ok (.iload_n 1, 1) := by decide +kernel
theorem d_Store_keepBlock_15 : decode b_Store_keepBlock 15 = .ok (.baload, 1) := by decide +kernel
theorem d_Store_keepBlock_16 : decode b_Store_keepBlock 16 = .ok (.ifCond .ne 20, 3) := by decide +kernel
theorem d_Store_keepBlock_19 : decode b_Store_keepBlock 19 = .ok (.aload_n 0, 1) := by decide +kernel
theorem d_Store_keepBlock_20 : decode b_Store_keepBlock 20 = .ok (.getfield 9, 3) := by decide +kernel
theorem d_Store_keepBlock_23 : decode b_Store_keepBlock 23 = .ok (.iload_n 1, 1) := by decide +kernel
theorem d_Store_keepBlock_24 : decode b_Store_keepBlock 24 = .ok (.iconst 1, 1) := by decide +kernel
theorem d_Store_keepBlock_25 : decode b_Store_keepBlock 25 = .ok (.bastore, 1) := by decide +kernel
theorem d_Store_keepBlock_26 : decode b_Store_keepBlock 26 = .ok (.aload_n 0, 1) := by decide +kernel
theorem d_Store_keepBlock_27 : decode b_Store_keepBlock 27 = .ok (.dup, 1) := by decide +kernel
theorem d_Store_keepBlock_28 : decode b_Store_keepBlock 28 = .ok (.getfield 35, 3) := by decide +kernel
theorem d_Store_keepBlock_31 : decode b_Store_keepBlock 31 = .ok (.iconst 1, 1) := by decide +kernel
theorem d_Store_keepBlock_32 : decode b_Store_keepBlock 32 = .ok (.iadd, 1) := by decide +kernel
theorem d_Store_keepBlock_33 : decode b_Store_keepBlock 33 = .ok (.putfield 35, 3) := by decide +kernel
theorem d_Store_keepBlock_36 : decode b_Store_keepBlock 36 = .ok (.return_, 1) := by decide +kernel
def f_Store_keepBlock (i0 : Nat) (a1 : Int32) (S : St) : St :=
  if a1 < 0 then
    S
  else
    if (100 : Int32) ≤ a1 then
      S
    else
      if (S.1 5 i0 0 a1.toNatClampNeg) = 0 then
        lt (si S 5 i0 0 (a1.toNatClampNeg) (1 : Int32)) fun (S6 : St) =>
        lt (si S6 4 i0 0 4 ((S6.1 4 i0 0 4) + (1 : Int32))) fun (S7 : St) =>
        S7
      else
        S
def ok_Store_keepBlock (i0 : Nat) (a1 : Int32) (S : St) : Prop :=
  (a1 < 0 → (
    True)) ∧ (¬ (a1 < 0) → (
    ((100 : Int32) ≤ a1 → (
      True)) ∧ (¬ ((100 : Int32) ≤ a1) → (
      (vp_in a1 100) ∧ (
        ((S.1 5 i0 0 a1.toNatClampNeg) = 0 → (
          (vp_in a1 100) ∧ (
            True))) ∧ (¬ ((S.1 5 i0 0 a1.toNatClampNeg) = 0) → (
          True)))))))
set_option maxHeartbeats 4000000 in
set_option maxRecDepth 100000 in
theorem c_Store_keepBlock (l : Launch) (D : va_G) (X : va_W) (ad : N3 → Nat) (ca : Nat → ClassId) (i0 : Nat) (a1 : Int32) (h0 : i0 < 4) (S : St) (hk : ok_Store_keepBlock i0 a1 S) : cV l GG D clQ (tysQ ca) nwQ X ad TQ (cfQ ad ca) y_Store_keepBlock b_Store_keepBlock 2 0 0 [.ref (ad (4, i0, 0)), .int a1] S (f_Store_keepBlock i0 a1 S) := by
  generalize hr : f_Store_keepBlock i0 a1 S = res
  refine zV_of pn_Store (Nat.le_of_ble_eq_true rfl) (fun p e s m below meth c A ls hy hW hA hl => ?_)
  have hF := hy.1
  have hx := hF.1
  have hb := hF.2.1
  have hK := hy.2.2.2
  have hl : lv_has ls 2 [(0, .ref (ad (4, i0, 0))), (1, .int a1)] := hl
  refine lv_iload_n (pc := 0) hx hb d_Store_keepBlock_0 rfl (lv_at hl 1 rfl) ?_
  refine lv_if_lt (pc := 1) (tgt := 36) hx hb d_Store_keepBlock_1 (by decide) (fun c1 => ?_) (fun c1 => ?_)
  · have hk := hk.1 c1
    have hr := (if_pos c1).symm.trans hr
    exact z_vret hy hW hr.symm d_Store_keepBlock_36
  · have hk := hk.2 c1
    have hr := (if_neg c1).symm.trans hr
    refine lv_iload_n (pc := 4) hx hb d_Store_keepBlock_4 rfl (lv_at hl 1 rfl) ?_
    refine lv_bipush (pc := 5) (v := 100) hx hb d_Store_keepBlock_5 (by decide) ?_
    refine lv_icmp_ge (pc := 7) (tgt := 36) hx hb d_Store_keepBlock_7 (by decide) (fun c2 => ?_) (fun c2 => ?_)
    · have hk := hk.1 c2
      have hr := (if_pos c2).symm.trans hr
      exact z_vret hy hW hr.symm d_Store_keepBlock_36
    · have hk := hk.2 c2
      have hr := (if_neg c2).symm.trans hr
      refine lv_aload_n (pc := 10) hx hb d_Store_keepBlock_10 rfl (lv_at hl 0 rfl) ?_
      refine z_get (pc := 11) (v := .ref (ad (5, i0, 0))) hF hK.1 hW (tq4 h0) rfl rfl in_Store 0 (by decide) gw_264 rfl rfl d_Store_keepBlock_11 ?_
      refine lv_iload_n (pc := 14) hx hb d_Store_keepBlock_14 rfl (lv_at hl 1 rfl) ?_
      have b3 := hk.1
      have hk := hk.2
      refine z_zald (pc := 15) (v := S.1 5 i0 0 a1.toNatClampNeg) hF hK.1 hW (tq5 h0) 2 rfl rfl b3 rfl d_Store_keepBlock_15 ?_
      refine lv_if_ne (pc := 16) (tgt := 36) hx hb d_Store_keepBlock_16 (by decide) (fun c4 => ?_) (fun c4 => ?_)
      · have hk := hk.2 c4
        have hr := (if_neg c4).symm.trans hr
        exact z_vret hy hW hr.symm d_Store_keepBlock_36
      · have hk := hk.1 c4
        have hr := (if_pos c4).symm.trans hr
        refine lv_aload_n (pc := 19) hx hb d_Store_keepBlock_19 rfl (lv_at hl 0 rfl) ?_
        refine z_get (pc := 20) (v := .ref (ad (5, i0, 0))) hF hK.1 hW (tq4 h0) rfl rfl in_Store 0 (by decide) gw_264 rfl rfl d_Store_keepBlock_20 ?_
        refine lv_iload_n (pc := 23) hx hb d_Store_keepBlock_23 rfl (lv_at hl 1 rfl) ?_
        refine lv_iconst (pc := 24) (v := 1) hx hb d_Store_keepBlock_24 (by decide) ?_
        have b5 := hk.1
        have hk := hk.2
        obtain ⟨S6, eS6⟩ : ∃ z : St, z = si S 5 i0 0 (a1.toNatClampNeg) (1 : Int32) := ⟨_, rfl⟩
        have hr := lt_e eS6 hr
        refine z_zast (pc := 25) (S' := S6) hF hK.1 hW (tq5 h0) 2 rfl rfl b5 (zs_si eS6 rfl) (zs_sio eS6) d_Store_keepBlock_25 (fun H locs (hW : Wd D clQ A s.heap (zw X ad TQ (cfQ ad ca) S6) H locs) => ?_)
        refine lv_aload_n (pc := 26) hx hb d_Store_keepBlock_26 rfl (lv_at hl 0 rfl) ?_
        refine lv_dup (pc := 27) hx hb d_Store_keepBlock_27 rfl ?_
        refine z_get (pc := 28) (v := .int (S6.1 4 i0 0 4)) hF hK.1 hW (tq4 h0) rfl rfl in_Store 4 (by decide) gw_271 rfl rfl d_Store_keepBlock_28 ?_
        refine lv_iconst (pc := 31) (v := 1) hx hb d_Store_keepBlock_31 (by decide) ?_
        refine lv_iadd (pc := 32) hx hb d_Store_keepBlock_32 ?_
        obtain ⟨S7, eS7⟩ : ∃ z : St, z = si S6 4 i0 0 4 ((S6.1 4 i0 0 4) + (1 : Int32)) := ⟨_, rfl⟩
        have hr := lt_e eS7 hr
        refine z_put (pc := 33) (S' := S7) hF hK.1 hW (tq4 h0) rfl rfl in_Store t_Store tyo_Store nmo_Store 4 (by decide) gw_271 rfl rfl rfl rfl rfl (Nat.le_of_ble_eq_true rfl) (zs_si eS7 rfl) (zs_sio eS7) d_Store_keepBlock_33 (fun H locs (hW : Wd D clQ A s.heap (zw X ad TQ (cfQ ad ca) S7) H locs) => ?_)
        exact z_vret hy hW hr.symm d_Store_keepBlock_36
theorem d_QC_raiseHigh_0 : decode b_QC_raiseHigh 0 = .ok (.aload_n 0, 1) := by decide +kernel
theorem d_QC_raiseHigh_1 : decode b_QC_raiseHigh 1 = .ok (.getfield 18, 3) := by decide +kernel
theorem d_QC_raiseHigh_4 : decode b_QC_raiseHigh 4 = .ok (.iload_n 2, 1) := by decide +kernel
theorem d_QC_raiseHigh_5 : decode b_QC_raiseHigh 5 = .ok (.aload_n 1, 1) := by decide +kernel
theorem d_QC_raiseHigh_6 : decode b_QC_raiseHigh 6 = .ok (.getfield 248, 3) := by decide +kernel
theorem d_QC_raiseHigh_9 : decode b_QC_raiseHigh 9 = .ok (.invokevirtual 302, 3) := by decide +kernel
theorem d_QC_raiseHigh_12 : decode b_QC_raiseHigh 12 = .ok (.ifCond .eq 8, 3) := by decide +kernel
theorem d_QC_raiseHigh_15 : decode b_QC_raiseHigh 15 = .ok (.aload_n 1, 1) := by decide +kernel
theorem d_QC_raiseHigh_16 : decode b_QC_raiseHigh 16 = .ok (.iload_n 2, 1) := by decide +kernel
theorem d_QC_raiseHigh_17 : decode b_QC_raiseHigh 17 = .ok (.putfield 248, 3) := by decide +kernel
theorem d_QC_raiseHigh_20 : decode b_QC_raiseHigh 20 = .ok (.return_, 1) := by decide +kernel
def f_QC_raiseHigh (i1 : Nat) (a2 : Int32) (S : St) : St :=
  lt (f_Blocks_isAbove a2 (S.1 3 i1 0 11) S) fun (r2 : Int32) =>
  if r2 = 0 then
    S
  else
    lt (si S 3 i1 0 11 a2) fun (S4 : St) =>
    S4
def ok_QC_raiseHigh (i1 : Nat) (a2 : Int32) (S : St) : Prop :=
  (ok_Blocks_isAbove a2 (S.1 3 i1 0 11) S) ∧ (
    True)
set_option maxHeartbeats 4000000 in
set_option maxRecDepth 100000 in
theorem c_QC_raiseHigh (l : Launch) (D : va_G) (X : va_W) (ad : N3 → Nat) (ca : Nat → ClassId) (i1 : Nat) (a2 : Int32) (h1 : i1 < 4) (S : St) (hk : ok_QC_raiseHigh i1 a2 S) : cV l GG D clQ (tysQ ca) nwQ X ad TQ (cfQ ad ca) y_QC_raiseHigh b_QC_raiseHigh 3 3 64 [.ref (ad (1, 0, 0)), .ref (ad (3, i1, 0)), .int a2] S (f_QC_raiseHigh i1 a2 S) := by
  generalize hr : f_QC_raiseHigh i1 a2 S = res
  refine zV_of pn_QC (Nat.le_of_ble_eq_true rfl) (fun p e s m below meth c A ls hy hW hA hl => ?_)
  have hF := hy.1
  have hx := hF.1
  have hb := hF.2.1
  have hK := hy.2.2.2
  have hl : lv_has ls 3 [(0, .ref (ad (1, 0, 0))), (1, .ref (ad (3, i1, 0))), (2, .int a2)] := hl
  refine lv_aload_n (pc := 0) hx hb d_QC_raiseHigh_0 rfl (lv_at hl 0 rfl) ?_
  refine z_get (pc := 1) (v := .ref (ad (19, 0, 0))) hF hK.1 hW tq1 rfl rfl in_QC 1 (by decide) gw_345 rfl rfl d_QC_raiseHigh_1 ?_
  refine lv_iload_n (pc := 4) hx hb d_QC_raiseHigh_4 rfl (lv_at hl 2 rfl) ?_
  refine lv_aload_n (pc := 5) hx hb d_QC_raiseHigh_5 rfl (lv_at hl 1 rfl) ?_
  refine z_get (pc := 6) (v := .int (S.1 3 i1 0 11)) hF hK.1 hW (tq3 h1) rfl rfl in_Node 11 (by decide) gw_318 rfl rfl d_QC_raiseHigh_6 ?_
  have o1 := hk.1
  have hk := hk.2
  obtain ⟨r2, er2⟩ : ∃ z : Int32, z = f_Blocks_isAbove a2 (S.1 3 i1 0 11) S := ⟨_, rfl⟩
  have hr := lt_e er2 hr
  refine p_go (pc := 9) (congrArg Value.int er2) (p_runV hF hK hW (c_Blocks_isAbove l D X ad ca a2 (S.1 3 i1 0 11) S o1 _) cd_Blocks_isAbove gw_694 tq19 rfl rfl ⟨Nat.le_of_ble_eq_true rfl, Nat.le_of_ble_eq_true rfl⟩ ⟨Nat.zero_le _, Nat.zero_le _⟩ rfl rfl hl.1 (Nat.le_of_ble_eq_true rfl) d_QC_raiseHigh_9) ?_
  refine lv_if_eq (pc := 12) (tgt := 20) hx hb d_QC_raiseHigh_12 (by decide) (fun c3 => ?_) (fun c3 => ?_)
  · have hr := (if_pos c3).symm.trans hr
    exact z_vret hy hW hr.symm d_QC_raiseHigh_20
  · have hr := (if_neg c3).symm.trans hr
    refine lv_aload_n (pc := 15) hx hb d_QC_raiseHigh_15 rfl (lv_at hl 1 rfl) ?_
    refine lv_iload_n (pc := 16) hx hb d_QC_raiseHigh_16 rfl (lv_at hl 2 rfl) ?_
    obtain ⟨S4, eS4⟩ : ∃ z : St, z = si S 3 i1 0 11 a2 := ⟨_, rfl⟩
    have hr := lt_e eS4 hr
    refine z_put (pc := 17) (S' := S4) hF hK.1 hW (tq3 h1) rfl rfl in_Node t_Node tyo_Node nmo_Node 11 (by decide) gw_318 rfl rfl rfl rfl rfl (Nat.le_of_ble_eq_true rfl) (zs_si eS4 rfl) (zs_sio eS4) d_QC_raiseHigh_17 (fun H locs (hW : Wd D clQ A s.heap (zw X ad TQ (cfQ ad ca) S4) H locs) => ?_)
    exact z_vret hy hW hr.symm d_QC_raiseHigh_20
theorem d_Blocks_isNextView_0 : decode b_Blocks_isNextView 0 = .ok (.aload_n 0, 1) := by decide +kernel
theorem d_Blocks_isNextView_1 : decode b_Blocks_isNextView 1 = .ok (.iload_n 1, 1) := by decide +kernel
theorem d_Blocks_isNextView_2 : decode b_Blocks_isNextView 2 = .ok (.invokevirtual 33, 3) := by decide +kernel
theorem d_Blocks_isNextView_5 : decode b_Blocks_isNextView 5 = .ok (.aload_n 0, 1) := by decide +kernel
theorem d_Blocks_isNextView_6 : decode b_Blocks_isNextView 6 = .ok (.iload_n 2, 1) := by decide +kernel
theorem d_Blocks_isNextView_7 : decode b_Blocks_isNextView 7 = .ok (.invokevirtual 33, 3) := by decide +kernel
theorem d_Blocks_isNextView_10 : decode b_Blocks_isNextView 10 = .ok (.iconst 1, 1) := by decide +kernel
theorem d_Blocks_isNextView_11 : decode b_Blocks_isNextView 11 = .ok (.iadd, 1) := by decide +kernel
theorem d_Blocks_isNextView_12 : decode b_Blocks_isNextView 12 = .ok (.if_icmp .ne 7, 3) := by decide +kernel
theorem d_Blocks_isNextView_15 : decode b_Blocks_isNextView 15 = .ok (.iconst 1, 1) := by decide +kernel
theorem d_Blocks_isNextView_16 : decode b_Blocks_isNextView 16 = .ok (.goto 4, 3) := by decide +kernel
theorem d_Blocks_isNextView_19 : decode b_Blocks_isNextView 19 = .ok (.iconst 0, 1) := by decide +kernel
theorem d_Blocks_isNextView_20 : decode b_Blocks_isNextView 20 = .ok (.ireturn, 1) := by decide +kernel
def f_Blocks_isNextView (a1 : Int32) (a2 : Int32) (S : St) : Int32 :=
  lt (f_Blocks_viewOf a1 S) fun (r2 : Int32) =>
  lt (f_Blocks_viewOf a2 S) fun (r4 : Int32) =>
  if r2 = (r4 + (1 : Int32)) then
    (1 : Int32)
  else
    (0 : Int32)
def ok_Blocks_isNextView (a1 : Int32) (a2 : Int32) (S : St) : Prop :=
  (ok_Blocks_viewOf a1 S) ∧ (
    lt (f_Blocks_viewOf a1 S) fun (r2 : Int32) =>
    (ok_Blocks_viewOf a2 S) ∧ (
      True))
set_option maxHeartbeats 4000000 in
set_option maxRecDepth 100000 in
theorem c_Blocks_isNextView (l : Launch) (D : va_G) (X : va_W) (ad : N3 → Nat) (ca : Nat → ClassId) (a1 : Int32) (a2 : Int32)  (S : St) (hk : ok_Blocks_isNextView a1 a2 S) : cP l GG D clQ (tysQ ca) nwQ (zw X ad TQ (cfQ ad ca) S) y_Blocks_isNextView b_Blocks_isNextView 3 .boolean 2 42 [.ref (ad (19, 0, 0)), .int a1, .int a2] (.int (f_Blocks_isNextView a1 a2 S)) := by
  generalize hr : f_Blocks_isNextView a1 a2 S = res
  refine zP_of pn_Blocks (Nat.le_of_ble_eq_true rfl) (fun p e s m below meth c ls hy hW hl => ?_)
  have hF := hy.1
  have hx := hF.1
  have hb := hF.2.1
  have hK := hy.2.2.2
  have hl : lv_has ls 3 [(0, .ref (ad (19, 0, 0))), (1, .int a1), (2, .int a2)] := hl
  refine lv_aload_n (pc := 0) hx hb d_Blocks_isNextView_0 rfl (lv_at hl 0 rfl) ?_
  refine lv_iload_n (pc := 1) hx hb d_Blocks_isNextView_1 rfl (lv_at hl 1 rfl) ?_
  have o1 := hk.1
  have hk := hk.2
  obtain ⟨r2, er2⟩ : ∃ z : Int32, z = f_Blocks_viewOf a1 S := ⟨_, rfl⟩
  have hk := lt_p er2 hk
  have hr := lt_e er2 hr
  refine p_go (pc := 2) (congrArg Value.int er2) (p_runV hF hK hW (c_Blocks_viewOf l D X ad ca a1 S o1 _) cd_Blocks_viewOf gw_698 tq19 rfl rfl ⟨Nat.le_of_ble_eq_true rfl, Nat.le_of_ble_eq_true rfl⟩ ⟨Nat.zero_le _, Nat.zero_le _⟩ rfl rfl hl.1 (Nat.le_of_ble_eq_true rfl) d_Blocks_isNextView_2) ?_
  refine lv_aload_n (pc := 5) hx hb d_Blocks_isNextView_5 rfl (lv_at hl 0 rfl) ?_
  refine lv_iload_n (pc := 6) hx hb d_Blocks_isNextView_6 rfl (lv_at hl 2 rfl) ?_
  have o3 := hk.1
  have hk := hk.2
  obtain ⟨r4, er4⟩ : ∃ z : Int32, z = f_Blocks_viewOf a2 S := ⟨_, rfl⟩
  have hr := lt_e er4 hr
  refine p_go (pc := 7) (congrArg Value.int er4) (p_runV hF hK hW (c_Blocks_viewOf l D X ad ca a2 S o3 _) cd_Blocks_viewOf gw_698 tq19 rfl rfl ⟨Nat.le_of_ble_eq_true rfl, Nat.le_of_ble_eq_true rfl⟩ ⟨Nat.zero_le _, Nat.zero_le _⟩ rfl rfl hl.1 (Nat.le_of_ble_eq_true rfl) d_Blocks_isNextView_7) ?_
  refine lv_iconst (pc := 10) (v := 1) hx hb d_Blocks_isNextView_10 (by decide) ?_
  refine lv_iadd (pc := 11) hx hb d_Blocks_isNextView_11 ?_
  refine lv_icmp_ne (pc := 12) (tgt := 19) hx hb d_Blocks_isNextView_12 (by decide) (fun c5 => ?_) (fun c5 => ?_)
  · have hr := (if_neg c5).symm.trans hr
    refine lv_iconst (pc := 19) (v := 0) hx hb d_Blocks_isNextView_19 (by decide) ?_
    exact p_zret (v := (0 : Int32)) hy rfl hr d_Blocks_isNextView_20
  · have hr := (if_pos c5).symm.trans hr
    refine lv_iconst (pc := 15) (v := 1) hx hb d_Blocks_isNextView_15 (by decide) ?_
    refine lv_goto (pc := 16) (tgt := 20) hx hb d_Blocks_isNextView_16 (by decide) ?_
    exact p_zret (v := (1 : Int32)) hy rfl hr d_Blocks_isNextView_20
theorem d_Store_lastLogged_0 : decode b_Store_lastLogged 0 = .ok (.aload_n 0, 1) := by decide +kernel
theorem d_Store_lastLogged_1 : decode b_Store_lastLogged 1 = .ok (.aload_n 0, 1) := by decide +kernel
theorem d_Store_lastLogged_2 : decode b_Store_lastLogged 2 = .ok (.getfield 39, 3) := by decide +kernel
theorem d_Store_lastLogged_5 : decode b_Store_lastLogged 5 = .ok (.iconst 1, 1) := by decide +kernel
theorem d_Store_lastLogged_6 : decode b_Store_lastLogged 6 = .ok (.isub, 1) := by decide +kernel
theorem d_Store_lastLogged_7 : decode b_Store_lastLogged 7 = .ok (.invokevirtual 42, 3) := by decide +kernel
theorem d_Store_lastLogged_10 : decode b_Store_lastLogged 10 = .ok (.ireturn, 1) := by decide +kernel
def f_Store_lastLogged (i0 : Nat) (S : St) : Int32 :=
  lt (f_Store_logged i0 ((S.1 4 i0 0 5) - (1 : Int32)) S) fun (r2 : Int32) =>
  r2
def ok_Store_lastLogged (i0 : Nat) (S : St) : Prop :=
  (ok_Store_logged i0 ((S.1 4 i0 0 5) - (1 : Int32)) S) ∧ (
    True)
set_option maxHeartbeats 4000000 in
set_option maxRecDepth 100000 in
theorem c_Store_lastLogged (l : Launch) (D : va_G) (X : va_W) (ad : N3 → Nat) (ca : Nat → ClassId) (i0 : Nat) (h0 : i0 < 4) (S : St) (hk : ok_Store_lastLogged i0 S) : cP l GG D clQ (tysQ ca) nwQ (zw X ad TQ (cfQ ad ca) S) y_Store_lastLogged b_Store_lastLogged 1 .int 1 21 [.ref (ad (4, i0, 0))] (.int (f_Store_lastLogged i0 S)) := by
  generalize hr : f_Store_lastLogged i0 S = res
  refine zP_of pn_Store (Nat.le_of_ble_eq_true rfl) (fun p e s m below meth c ls hy hW hl => ?_)
  have hF := hy.1
  have hx := hF.1
  have hb := hF.2.1
  have hK := hy.2.2.2
  have hl : lv_has ls 1 [(0, .ref (ad (4, i0, 0)))] := hl
  refine lv_aload_n (pc := 0) hx hb d_Store_lastLogged_0 rfl (lv_at hl 0 rfl) ?_
  refine lv_aload_n (pc := 1) hx hb d_Store_lastLogged_1 rfl (lv_at hl 0 rfl) ?_
  refine z_get (pc := 2) (v := .int (S.1 4 i0 0 5)) hF hK.1 hW (tq4 h0) rfl rfl in_Store 5 (by decide) gw_273 rfl rfl d_Store_lastLogged_2 ?_
  refine lv_iconst (pc := 5) (v := 1) hx hb d_Store_lastLogged_5 (by decide) ?_
  refine lv_isub (pc := 6) hx hb d_Store_lastLogged_6 ?_
  have o1 := hk.1
  have hk := hk.2
  obtain ⟨r2, er2⟩ : ∃ z : Int32, z = f_Store_logged i0 ((S.1 4 i0 0 5) - (1 : Int32)) S := ⟨_, rfl⟩
  have hr := lt_e er2 hr
  refine p_go (pc := 7) (congrArg Value.int er2) (p_runV hF hK hW (c_Store_logged l D X ad ca i0 ((S.1 4 i0 0 5) - (1 : Int32)) h0 S o1 _) cd_Store_logged gw_711 (tq4 h0) rfl rfl ⟨Nat.le_of_ble_eq_true rfl, Nat.le_of_ble_eq_true rfl⟩ ⟨Nat.zero_le _, Nat.zero_le _⟩ rfl rfl hl.1 (Nat.le_of_ble_eq_true rfl) d_Store_lastLogged_7) ?_
  exact p_iret (v := r2) hy hr d_Store_lastLogged_10
theorem d_Blocks_stepsDown_0 : decode b_Blocks_stepsDown 0 = .ok (.iload_n 1, 1) := by decide +kernel
theorem d_Blocks_stepsDown_1 : decode b_Blocks_stepsDown 1 = .ok (.istore_n 3, 1) := by decide +kernel
theorem d_Blocks_stepsDown_2 : decode b_Blocks_stepsDown 2 = .ok (.iconst 0, 1) := by decide +kernel
theorem d_Blocks_stepsDown_3 : decode b_Blocks_stepsDown 3 = .ok (.istore 4, 2) := by decide +kernel
theorem d_Blocks_stepsDown_5 : decode b_Blocks_stepsDown 5 = .ok (.iload 4, 2) := by decide +kernel
theorem d_Blocks_stepsDown_7 : decode b_Blocks_stepsDown 7 = .ok (.bipush 100, 2) := by decide +kernel
theorem d_Blocks_stepsDown_9 : decode b_Blocks_stepsDown 9 = .ok (.if_icmp .ge 28, 3) := by decide +kernel
theorem d_Blocks_stepsDown_12 : decode b_Blocks_stepsDown 12 = .ok (.iload_n 3, 1) := by decide +kernel
theorem d_Blocks_stepsDown_13 : decode b_Blocks_stepsDown 13 = .ok (.iconst (-1), 1) := by decide +kernel
theorem d_Blocks_stepsDown_14 : decode b_Blocks_stepsDown 14 = .ok (.if_icmp .eq 23, 3) := by decide +kernel
theorem d_Blocks_stepsDown_17 : decode b_Blocks_stepsDown 17 = .ok (.iload_n 3, 1) := by decide +kernel
theorem d_Blocks_stepsDown_18 : decode b_Blocks_stepsDown 18 = .ok (.iload_n 2, 1) := by decide +kernel
theorem d_Blocks_stepsDown_19 : decode b_Blocks_stepsDown 19 = .ok (.if_icmp .ne 6, 3) := by decide +kernel
theorem d_Blocks_stepsDown_22 : decode b_Blocks_stepsDown 22 = .ok (.iload 4, 2) := by decide +kernel
theorem d_Blocks_stepsDown_24 : decode b_Blocks_stepsDown 24 = .ok (.ireturn, 1) := by decide +kernel
theorem d_Blocks_stepsDown_25 : decode b_Blocks_stepsDown 25 = .ok (.aload_n 0, 1) := by decide +kernel
theorem d_Blocks_stepsDown_26 : decode b_Blocks_stepsDown 26 = .ok (.iload_n 3, 1) := by decide +kernel
theorem d_Blocks_stepsDown_27 : decode b_Blocks_stepsDown 27 = .ok (.invokevirtual 41, 3) := by decide +kernel
theorem d_Blocks_stepsDown_30 : decode b_Blocks_stepsDown 30 = .ok (.istore_n 3, 1) := by decide +kernel
theorem d_Blocks_stepsDown_31 : decode b_Blocks_stepsDown 31 = .ok (.iinc 4 1, 3) := by decide +kernel
theorem d_Blocks_stepsDown_34 : decode b_Blocks_stepsDown 34 = .ok (.goto (-29), 3) := by decide +kernel
theorem d_Blocks_stepsDown_37 : decode b_Blocks_stepsDown 37 = .ok (.iconst (-1), 1) := by decide +kernel
theorem d_Blocks_stepsDown_38 : decode b_Blocks_stepsDown 38 = .ok (.ireturn, 1) := by decide +kernel
def f_Blocks_stepsDown_5 (a1 : Int32) (a2 : Int32) : Nat → St → Int32 → Int32 → Int32
  | 0, _, _, _ => 0
  | n + 1, S, l3, l4 =>
    if (100 : Int32) ≤ l4 then
      (-1 : Int32)
    else
      if l3 = (-1 : Int32) then
        (-1 : Int32)
      else
        if l3 = a2 then
          l4
        else
          lt (f_Blocks_parentOf l3 S) fun (r5 : Int32) =>
          f_Blocks_stepsDown_5 a1 a2 n S r5 (l4 + (1 : Int32))
def ok_Blocks_stepsDown_5 (a1 : Int32) (a2 : Int32) : Nat → St → Int32 → Int32 → Prop
  | 0, _, _, _ => False
  | n + 1, S, l3, l4 =>
    ((100 : Int32) ≤ l4 → (
      True)) ∧ (¬ ((100 : Int32) ≤ l4) → (
      (l3 = (-1 : Int32) → (
        True)) ∧ (¬ (l3 = (-1 : Int32)) → (
        (l3 = a2 → (
          True)) ∧ (¬ (l3 = a2) → (
          (ok_Blocks_parentOf l3 S) ∧ (
            lt (f_Blocks_parentOf l3 S) fun (r5 : Int32) =>
            ok_Blocks_stepsDown_5 a1 a2 n S r5 (l4 + (1 : Int32)))))))))
set_option maxHeartbeats 4000000 in
set_option maxRecDepth 100000 in
theorem w_Blocks_stepsDown_5 {l : Launch} {D : va_G} {X : va_W} {ad : N3 → Nat} {ca : Nat → ClassId} (a1 : Int32) (a2 : Int32)  (S : St) {p : Program} {e : Env} {s : State} {m : MethodId} {below : List Frame} {meth : Method} {c : Code} (hy : Hy p s m ([.ref (ad (19, 0, 0)), .int a1, .int a2] : List Value).toArray meth c b_Blocks_stepsDown 5 (some .int) R_Blocks GG D clQ (tysQ ca) nwQ) (hW : Wd D clQ (fun _ => True) s.heap (zw X ad TQ (cfQ ad ca) S) s.heap []) {res : Int32} : ∀ (n : Nat) (l3 : Int32) (l4 : Int32) , ok_Blocks_stepsDown_5 a1 a2 n S l3 l4 → f_Blocks_stepsDown_5 a1 a2 n S l3 l4 = res → ∀ (ls : Array Slot), lv_has ls 5 [(0, .ref (ad (19, 0, 0))), (2, .int a2), (3, .int l3), (4, .int l4)] → W p l e { frames := 2, cells := 0, slots := 0, locals := 42 } s m ([.ref (ad (19, 0, 0)), .int a1, .int a2] : List Value).toArray below meth c s.heap [] 0 0 (MQ below (eP (.int res)) ([.ref (ad (19, 0, 0)), .int a1, .int a2] : List Value).toArray s 0 0 nof) (F0 m 5 ls []) := by
  have hF := hy.1
  have hx := hF.1
  have hb := hF.2.1
  have hK := hy.2.2.2
  intro n
  induction n with
  | zero =>
    intro l3 l4 hk
    exact hk.elim
  | succ n ih =>
    intro l3 l4 hk hr ls hl
    refine lv_iload (pc := 5) hx hb d_Blocks_stepsDown_5 (lv_at hl 3 rfl) ?_
    refine lv_bipush (pc := 7) (v := 100) hx hb d_Blocks_stepsDown_7 (by decide) ?_
    refine lv_icmp_ge (pc := 9) (tgt := 37) hx hb d_Blocks_stepsDown_9 (by decide) (fun c1 => ?_) (fun c1 => ?_)
    · have hk := hk.1 c1
      have hr := (if_pos c1).symm.trans hr
      refine lv_iconst (pc := 37) (v := -1) hx hb d_Blocks_stepsDown_37 (by decide) ?_
      exact p_iret (v := (-1 : Int32)) hy hr d_Blocks_stepsDown_38
    · have hk := hk.2 c1
      have hr := (if_neg c1).symm.trans hr
      refine lv_iload_n (pc := 12) hx hb d_Blocks_stepsDown_12 rfl (lv_at hl 2 rfl) ?_
      refine lv_iconst (pc := 13) (v := -1) hx hb d_Blocks_stepsDown_13 (by decide) ?_
      refine lv_icmp_eq (pc := 14) (tgt := 37) hx hb d_Blocks_stepsDown_14 (by decide) (fun c2 => ?_) (fun c2 => ?_)
      · have hk := hk.1 c2
        have hr := (if_pos c2).symm.trans hr
        refine lv_iconst (pc := 37) (v := -1) hx hb d_Blocks_stepsDown_37 (by decide) ?_
        exact p_iret (v := (-1 : Int32)) hy hr d_Blocks_stepsDown_38
      · have hk := hk.2 c2
        have hr := (if_neg c2).symm.trans hr
        refine lv_iload_n (pc := 17) hx hb d_Blocks_stepsDown_17 rfl (lv_at hl 2 rfl) ?_
        refine lv_iload_n (pc := 18) hx hb d_Blocks_stepsDown_18 rfl (lv_at hl 1 rfl) ?_
        refine lv_icmp_ne (pc := 19) (tgt := 25) hx hb d_Blocks_stepsDown_19 (by decide) (fun c3 => ?_) (fun c3 => ?_)
        · have hk := hk.2 c3
          have hr := (if_neg c3).symm.trans hr
          refine lv_aload_n (pc := 25) hx hb d_Blocks_stepsDown_25 rfl (lv_at hl 0 rfl) ?_
          refine lv_iload_n (pc := 26) hx hb d_Blocks_stepsDown_26 rfl (lv_at hl 2 rfl) ?_
          have o4 := hk.1
          have hk := hk.2
          obtain ⟨r5, er5⟩ : ∃ z : Int32, z = f_Blocks_parentOf l3 S := ⟨_, rfl⟩
          have hk := lt_p er5 hk
          have hr := lt_e er5 hr
          refine p_go (pc := 27) (congrArg Value.int er5) (p_runV hF hK hW (c_Blocks_parentOf l D X ad ca l3 S o4 _) cd_Blocks_parentOf gw_635 tq19 rfl rfl ⟨Nat.le_of_ble_eq_true rfl, Nat.le_of_ble_eq_true rfl⟩ ⟨Nat.zero_le _, Nat.zero_le _⟩ rfl rfl hl.1 (Nat.le_of_ble_eq_true rfl) d_Blocks_stepsDown_27) ?_
          refine lv_istore_n (pc := 30) (lv' := [(3, .int r5), (0, .ref (ad (19, 0, 0))), (2, .int a2), (4, .int l4)]) hx hb d_Blocks_stepsDown_30 rfl hl (by decide) rfl (fun ls hl => ?_)
          refine lv_iinc (pc := 31) (v := l4 + (1 : Int32)) (lv' := [(4, .int (l4 + (1 : Int32))), (3, .int r5), (0, .ref (ad (19, 0, 0))), (2, .int a2)]) (k := 3) hx hb d_Blocks_stepsDown_31 hl rfl (z_inc (by decide)) (by decide) rfl (fun ls hl => ?_)
          refine lv_goto (pc := 34) (tgt := 5) hx hb d_Blocks_stepsDown_34 (by decide) ?_
          exact ih r5 (l4 + (1 : Int32)) hk hr _ (lv_sub hl [2, 3, 1, 0] rfl)
        · have hk := hk.1 c3
          have hr := (if_pos c3).symm.trans hr
          refine lv_iload (pc := 22) hx hb d_Blocks_stepsDown_22 (lv_at hl 3 rfl) ?_
          exact p_iret (v := l4) hy hr d_Blocks_stepsDown_24
def f_Blocks_stepsDown (a1 : Int32) (a2 : Int32) (S : St) : Int32 :=
  f_Blocks_stepsDown_5 a1 a2 200 S a1 (0 : Int32)
def ok_Blocks_stepsDown (a1 : Int32) (a2 : Int32) (S : St) : Prop :=
  ok_Blocks_stepsDown_5 a1 a2 200 S a1 (0 : Int32)
set_option maxHeartbeats 4000000 in
set_option maxRecDepth 100000 in
theorem c_Blocks_stepsDown (l : Launch) (D : va_G) (X : va_W) (ad : N3 → Nat) (ca : Nat → ClassId) (a1 : Int32) (a2 : Int32)  (S : St) (hk : ok_Blocks_stepsDown a1 a2 S) : cP l GG D clQ (tysQ ca) nwQ (zw X ad TQ (cfQ ad ca) S) y_Blocks_stepsDown b_Blocks_stepsDown 5 .int 2 42 [.ref (ad (19, 0, 0)), .int a1, .int a2] (.int (f_Blocks_stepsDown a1 a2 S)) := by
  generalize hr : f_Blocks_stepsDown a1 a2 S = res
  refine zP_of pn_Blocks (Nat.le_of_ble_eq_true rfl) (fun p e s m below meth c ls hy hW hl => ?_)
  have hF := hy.1
  have hx := hF.1
  have hb := hF.2.1
  have hK := hy.2.2.2
  have hl : lv_has ls 5 [(0, .ref (ad (19, 0, 0))), (1, .int a1), (2, .int a2)] := hl
  refine lv_iload_n (pc := 0) hx hb d_Blocks_stepsDown_0 rfl (lv_at hl 1 rfl) ?_
  refine lv_istore_n (pc := 1) (lv' := [(3, .int a1), (0, .ref (ad (19, 0, 0))), (1, .int a1), (2, .int a2)]) hx hb d_Blocks_stepsDown_1 rfl hl (by decide) rfl (fun ls hl => ?_)
  refine lv_iconst (pc := 2) (v := 0) hx hb d_Blocks_stepsDown_2 (by decide) ?_
  refine lv_istore (pc := 3) (lv' := [(4, .int (0 : Int32)), (3, .int a1), (0, .ref (ad (19, 0, 0))), (1, .int a1), (2, .int a2)]) hx hb d_Blocks_stepsDown_3 hl (by decide) rfl (fun ls hl => ?_)
  exact w_Blocks_stepsDown_5 a1 a2 S hy hW 200 a1 (0 : Int32) hk hr _ (lv_sub hl [2, 4, 1, 0] rfl)
theorem d_Transactions_exists_0 : decode b_Transactions_exists 0 = .ok (.iload_n 1, 1) := by decide +kernel
theorem d_Transactions_exists_1 : decode b_Transactions_exists 1 = .ok (.ifCond .lt 15, 3) := by decide +kernel
theorem d_Transactions_exists_4 : decode b_Transactions_exists 4 = .ok (.iload_n 1, 1) := by decide +kernel
theorem d_Transactions_exists_5 : decode b_Transactions_exists 5 = .ok (.aload_n 0, 1) := by decide +kernel
theorem d_Transactions_exists_6 : decode b_Transactions_exists 6 = .ok (.getfield 24, 3) := by decide +kernel
theorem d_Transactions_exists_9 : decode b_Transactions_exists 9 = .ok (.if_icmp .ge 7, 3) := by decide +kernel
theorem d_Transactions_exists_12 : decode b_Transactions_exists 12 = .ok (.iconst 1, 1) := by decide +kernel
theorem d_Transactions_exists_13 : decode b_Transactions_exists 13 = .ok (.goto 4, 3) := by decide +kernel
theorem d_Transactions_exists_16 : decode b_Transactions_exists 16 = .ok (.iconst 0, 1) := by decide +kernel
theorem d_Transactions_exists_17 : decode b_Transactions_exists 17 = .ok (.ireturn, 1) := by decide +kernel
def f_Transactions_exists (a1 : Int32) (S : St) : Int32 :=
  if a1 < 0 then
    (0 : Int32)
  else
    if (S.1 24 0 0 4) ≤ a1 then
      (0 : Int32)
    else
      (1 : Int32)
set_option maxHeartbeats 4000000 in
set_option maxRecDepth 100000 in
theorem c_Transactions_exists (l : Launch) (D : va_G) (X : va_W) (ad : N3 → Nat) (ca : Nat → ClassId) (a1 : Int32)  (S : St) : cP l GG D clQ (tysQ ca) nwQ (zw X ad TQ (cfQ ad ca) S) y_Transactions_exists b_Transactions_exists 2 .boolean 0 0 [.ref (ad (24, 0, 0)), .int a1] (.int (f_Transactions_exists a1 S)) := by
  generalize hr : f_Transactions_exists a1 S = res
  refine zP_of pn_Transactions (Nat.le_of_ble_eq_true rfl) (fun p e s m below meth c ls hy hW hl => ?_)
  have hF := hy.1
  have hx := hF.1
  have hb := hF.2.1
  have hK := hy.2.2.2
  have hl : lv_has ls 2 [(0, .ref (ad (24, 0, 0))), (1, .int a1)] := hl
  refine lv_iload_n (pc := 0) hx hb d_Transactions_exists_0 rfl (lv_at hl 1 rfl) ?_
  refine lv_if_lt (pc := 1) (tgt := 16) hx hb d_Transactions_exists_1 (by decide) (fun c1 => ?_) (fun c1 => ?_)
  · have hr := (if_pos c1).symm.trans hr
    refine lv_iconst (pc := 16) (v := 0) hx hb d_Transactions_exists_16 (by decide) ?_
    exact p_zret (v := (0 : Int32)) hy rfl hr d_Transactions_exists_17
  · have hr := (if_neg c1).symm.trans hr
    refine lv_iload_n (pc := 4) hx hb d_Transactions_exists_4 rfl (lv_at hl 1 rfl) ?_
    refine lv_aload_n (pc := 5) hx hb d_Transactions_exists_5 rfl (lv_at hl 0 rfl) ?_
    refine z_get (pc := 6) (v := .int (S.1 24 0 0 4)) hF hK.1 hW tq24 rfl rfl in_Transactions 4 (by decide) gw_117 rfl rfl d_Transactions_exists_6 ?_
    refine lv_icmp_ge (pc := 9) (tgt := 16) hx hb d_Transactions_exists_9 (by decide) (fun c2 => ?_) (fun c2 => ?_)
    · have hr := (if_pos c2).symm.trans hr
      refine lv_iconst (pc := 16) (v := 0) hx hb d_Transactions_exists_16 (by decide) ?_
      exact p_zret (v := (0 : Int32)) hy rfl hr d_Transactions_exists_17
    · have hr := (if_neg c2).symm.trans hr
      refine lv_iconst (pc := 12) (v := 1) hx hb d_Transactions_exists_12 (by decide) ?_
      refine lv_goto (pc := 13) (tgt := 17) hx hb d_Transactions_exists_13 (by decide) ?_
      exact p_zret (v := (1 : Int32)) hy rfl hr d_Transactions_exists_17
theorem d_Accounts_move_0 : decode b_Accounts_move 0 = .ok (.iload_n 1, 1) := by decide +kernel
theorem d_Accounts_move_1 : decode b_Accounts_move 1 = .ok (.invokestatic 18, 3) := by decide +kernel
theorem d_Accounts_move_4 : decode b_Accounts_move 4 = .ok (.ifCond .eq 10, 3) := by decide +kernel
theorem d_Accounts_move_7 : decode b_Accounts_move 7 = .ok (.iload_n 2, 1) := by decide +kernel
theorem d_Accounts_move_8 : decode b_Accounts_move 8 = .ok (.invokestatic 18, 3) := by decide +kernel
theorem d_Accounts_move_11 : decode b_Accounts_move 11 = .ok (.ifCond .ne 4, 3) := by decide +kernel
theorem d_Accounts_move_14 : decode b_Accounts_move 14 = .ok (.return_, 1) := by decide +kernel
theorem d_Accounts_move_15 : decode b_Accounts_move 15 = .ok (.aload_n 0, 1) := by decide +kernel
theorem d_Accounts_move_16 : decode b_Accounts_move 16 = .ok (.getfield 15, 3) := by decide +kernel
theorem d_Accounts_move_19 : decode b_Accounts_move 19 = .ok (.iload_n 1, 1) := by decide +kernel
theorem d_Accounts_move_20 : decode b_Accounts_move 20 = .ok (.iaload, 1) := by decide +kernel
theorem d_Accounts_move_21 : decode b_Accounts_move 21 = .ok (.iload 4, 2) := by decide +kernel
theorem d_Accounts_move_23 : decode b_Accounts_move 23 = .ok (.if_icmp .ne 43, 3) := by decide +kernel
theorem d_Accounts_move_26 : decode b_Accounts_move 26 = .ok (.aload_n 0, 1) := by decide +kernel
theorem d_Accounts_move_27 : decode b_Accounts_move 27 = .ok (.getfield 9, 3) := by decide +kernel
theorem d_Accounts_move_30 : decode b_Accounts_move 30 = .ok (.iload_n 1, 1) := by decide +kernel
theorem d_Accounts_move_31 : decode b_Accounts_move 31 = .ok (.iaload, 1) := by decide +kernel
theorem d_Accounts_move_32 : decode b_Accounts_move 32 = .ok (.iload_n 3, 1) := by decide +kernel
theorem d_Accounts_move_33 : decode b_Accounts_move 33 = .ok (.if_icmp .lt 33, 3) := by decide +kernel
theorem d_Accounts_move_36 : decode b_Accounts_move 36 = .ok (.aload_n 0, 1) := by decide +kernel
theorem d_Accounts_move_37 : decode b_Accounts_move 37 = .ok (.getfield 9, 3) := by decide +kernel
theorem d_Accounts_move_40 : decode b_Accounts_move 40 = .ok (.iload_n 1, 1) := by decide +kernel
theorem d_Accounts_move_41 : decode b_Accounts_move 41 = .ok (.dup2, 1) := by decide +kernel
theorem d_Accounts_move_42 : decode b_Accounts_move 42 = .ok (.iaload, 1) := by decide +kernel
theorem d_Accounts_move_43 : decode b_Accounts_move 43 = .ok (.iload_n 3, 1) := by decide +kernel
theorem d_Accounts_move_44 : decode b_Accounts_move 44 = .ok (.isub, 1) := by decide +kernel
theorem d_Accounts_move_45 : decode b_Accounts_move 45 = .ok (.iastore, 1) := by decide +kernel
theorem d_Accounts_move_46 : decode b_Accounts_move 46 = .ok (.aload_n 0, 1) := by decide +kernel
theorem d_Accounts_move_47 : decode b_Accounts_move 47 = .ok (.getfield 9, 3) := by decide +kernel
theorem d_Accounts_move_50 : decode b_Accounts_move 50 = .ok (.iload_n 2, 1) := by decide +kernel
theorem d_Accounts_move_51 : decode b_Accounts_move 51 = .ok (.dup2, 1) := by decide +kernel
theorem d_Accounts_move_52 : decode b_Accounts_move 52 = .ok (.iaload, 1) := by decide +kernel
theorem d_Accounts_move_53 : decode b_Accounts_move 53 = .ok (.iload_n 3, 1) := by decide +kernel
theorem d_Accounts_move_54 : decode b_Accounts_move 54 = .ok (.iadd, 1) := by decide +kernel
theorem d_Accounts_move_55 : decode b_Accounts_move 55 = .ok (.iastore, 1) := by decide +kernel
theorem d_Accounts_move_56 : decode b_Accounts_move 56 = .ok (.aload_n 0, 1) := by decide +kernel
theorem d_Accounts_move_57 : decode b_Accounts_move 57 = .ok (.getfield 15, 3) := by decide +kernel
theorem d_Accounts_move_60 : decode b_Accounts_move 60 = .ok (.iload_n 1, 1) := by decide +kernel
theorem d_Accounts_move_61 : decode b_Accounts_move 61 = .ok (.dup2, 1) := by decide +kernel
theorem d_Accounts_move_62 : decode b_Accounts_move 62 = .ok (.iaload, 1) := by decide +kernel
theorem d_Accounts_move_63 : decode b_Accounts_move 63 = .ok (.iconst 1, 1) := by decide +kernel
theorem d_Accounts_move_64 : decode b_Accounts_move 64 = .ok (.iadd, 1) := by decide +kernel
theorem d_Accounts_move_65 : decode b_Accounts_move 65 = .ok (.iastore, 1) := by decide +kernel
theorem d_Accounts_move_66 : decode b_Accounts_move 66 = .ok (.return_, 1) := by decide +kernel
def f_Accounts_move (i0 : Nat) (a1 : Int32) (a2 : Int32) (a3 : Int32) (a4 : Int32) (S : St) : St :=
  lt (f_QC_isAccount a1 S) fun (r1 : Int32) =>
  if r1 = 0 then
    S
  else
    lt (f_QC_isAccount a2 S) fun (r3 : Int32) =>
    if r3 = 0 then
      S
    else
      if (S.1 9 i0 0 a1.toNatClampNeg) = a4 then
        if (S.1 8 i0 0 a1.toNatClampNeg) < a3 then
          S
        else
          lt (si S 8 i0 0 (a1.toNatClampNeg) ((S.1 8 i0 0 a1.toNatClampNeg) - a3)) fun (S11 : St) =>
          lt (si S11 8 i0 0 (a2.toNatClampNeg) ((S11.1 8 i0 0 a2.toNatClampNeg) + a3)) fun (S14 : St) =>
          lt (si S14 9 i0 0 (a1.toNatClampNeg) ((S14.1 9 i0 0 a1.toNatClampNeg) + (1 : Int32))) fun (S17 : St) =>
          S17
      else
        S
def ok_Accounts_move (i0 : Nat) (a1 : Int32) (a2 : Int32) (a3 : Int32) (a4 : Int32) (S : St) : Prop :=
  lt (f_QC_isAccount a1 S) fun (r1 : Int32) =>
  (r1 = 0 → (
    True)) ∧ (¬ (r1 = 0) → (
    lt (f_QC_isAccount a2 S) fun (r3 : Int32) =>
    (r3 = 0 → (
      True)) ∧ (¬ (r3 = 0) → (
      (vp_in a1 4) ∧ (
        ((S.1 9 i0 0 a1.toNatClampNeg) = a4 → (
          (vp_in a1 4) ∧ (
            ((S.1 8 i0 0 a1.toNatClampNeg) < a3 → (
              True)) ∧ (¬ ((S.1 8 i0 0 a1.toNatClampNeg) < a3) → (
              (vp_in a1 4) ∧ (
                (vp_in a1 4) ∧ (
                  lt (si S 8 i0 0 (a1.toNatClampNeg) ((S.1 8 i0 0 a1.toNatClampNeg) - a3)) fun (S11 : St) =>
                  (vp_in a2 4) ∧ (
                    (vp_in a2 4) ∧ (
                      lt (si S11 8 i0 0 (a2.toNatClampNeg) ((S11.1 8 i0 0 a2.toNatClampNeg) + a3)) fun (S14 : St) =>
                      (vp_in a1 4) ∧ (
                        (vp_in a1 4) ∧ (
                          True))))))))))) ∧ (¬ ((S.1 9 i0 0 a1.toNatClampNeg) = a4) → (
          True)))))))
set_option maxHeartbeats 4000000 in
set_option maxRecDepth 100000 in
theorem c_Accounts_move (l : Launch) (D : va_G) (X : va_W) (ad : N3 → Nat) (ca : Nat → ClassId) (i0 : Nat) (a1 : Int32) (a2 : Int32) (a3 : Int32) (a4 : Int32) (h0 : i0 < 4) (S : St) (hk : ok_Accounts_move i0 a1 a2 a3 a4 S) : cV l GG D clQ (tysQ ca) nwQ X ad TQ (cfQ ad ca) y_Accounts_move b_Accounts_move 5 1 20 [.ref (ad (7, i0, 0)), .int a1, .int a2, .int a3, .int a4] S (f_Accounts_move i0 a1 a2 a3 a4 S) := by
  generalize hr : f_Accounts_move i0 a1 a2 a3 a4 S = res
  refine zV_of pn_Accounts (Nat.le_of_ble_eq_true rfl) (fun p e s m below meth c A ls hy hW hA hl => ?_)
  have hF := hy.1
  have hx := hF.1
  have hb := hF.2.1
  have hK := hy.2.2.2
  have hl : lv_has ls 5 [(0, .ref (ad (7, i0, 0))), (1, .int a1), (2, .int a2), (3, .int a3), (4, .int a4)] := hl
  refine lv_iload_n (pc := 0) hx hb d_Accounts_move_0 rfl (lv_at hl 1 rfl) ?_
  obtain ⟨r1, er1⟩ : ∃ z : Int32, z = f_QC_isAccount a1 S := ⟨_, rfl⟩
  have hk := lt_p er1 hk
  have hr := lt_e er1 hr
  refine p_go (pc := 1) (congrArg Value.int er1) (p_runSN hF hK hW (c_QC_isAccount l D X ad ca a1 S _) cd_QC_isAccount nw_Accounts_18 ⟨Nat.le_of_ble_eq_true rfl, Nat.le_of_ble_eq_true rfl⟩ ⟨Nat.zero_le _, Nat.zero_le _⟩ rfl rfl hl.1 (Nat.le_of_ble_eq_true rfl) d_Accounts_move_1) ?_
  refine lv_if_eq (pc := 4) (tgt := 14) hx hb d_Accounts_move_4 (by decide) (fun c2 => ?_) (fun c2 => ?_)
  · have hk := hk.1 c2
    have hr := (if_pos c2).symm.trans hr
    exact z_vret hy hW hr.symm d_Accounts_move_14
  · have hk := hk.2 c2
    have hr := (if_neg c2).symm.trans hr
    refine lv_iload_n (pc := 7) hx hb d_Accounts_move_7 rfl (lv_at hl 2 rfl) ?_
    obtain ⟨r3, er3⟩ : ∃ z : Int32, z = f_QC_isAccount a2 S := ⟨_, rfl⟩
    have hk := lt_p er3 hk
    have hr := lt_e er3 hr
    refine p_go (pc := 8) (congrArg Value.int er3) (p_runSN hF hK hW (c_QC_isAccount l D X ad ca a2 S _) cd_QC_isAccount nw_Accounts_18 ⟨Nat.le_of_ble_eq_true rfl, Nat.le_of_ble_eq_true rfl⟩ ⟨Nat.zero_le _, Nat.zero_le _⟩ rfl rfl hl.1 (Nat.le_of_ble_eq_true rfl) d_Accounts_move_8) ?_
    refine lv_if_ne (pc := 11) (tgt := 15) hx hb d_Accounts_move_11 (by decide) (fun c4 => ?_) (fun c4 => ?_)
    · have hk := hk.2 c4
      have hr := (if_neg c4).symm.trans hr
      refine lv_aload_n (pc := 15) hx hb d_Accounts_move_15 rfl (lv_at hl 0 rfl) ?_
      refine z_get (pc := 16) (v := .ref (ad (9, i0, 0))) hF hK.1 hW (tq7 h0) rfl rfl in_Accounts 1 (by decide) gw_212 rfl rfl d_Accounts_move_16 ?_
      refine lv_iload_n (pc := 19) hx hb d_Accounts_move_19 rfl (lv_at hl 1 rfl) ?_
      have b5 := hk.1
      have hk := hk.2
      refine z_iald (pc := 20) (v := S.1 9 i0 0 a1.toNatClampNeg) hF hK.1 hW (tq9 h0) 0 rfl rfl b5 rfl d_Accounts_move_20 ?_
      refine lv_iload (pc := 21) hx hb d_Accounts_move_21 (lv_at hl 4 rfl) ?_
      refine lv_icmp_ne (pc := 23) (tgt := 66) hx hb d_Accounts_move_23 (by decide) (fun c6 => ?_) (fun c6 => ?_)
      · have hk := hk.2 c6
        have hr := (if_neg c6).symm.trans hr
        exact z_vret hy hW hr.symm d_Accounts_move_66
      · have hk := hk.1 c6
        have hr := (if_pos c6).symm.trans hr
        refine lv_aload_n (pc := 26) hx hb d_Accounts_move_26 rfl (lv_at hl 0 rfl) ?_
        refine z_get (pc := 27) (v := .ref (ad (8, i0, 0))) hF hK.1 hW (tq7 h0) rfl rfl in_Accounts 0 (by decide) gw_210 rfl rfl d_Accounts_move_27 ?_
        refine lv_iload_n (pc := 30) hx hb d_Accounts_move_30 rfl (lv_at hl 1 rfl) ?_
        have b7 := hk.1
        have hk := hk.2
        refine z_iald (pc := 31) (v := S.1 8 i0 0 a1.toNatClampNeg) hF hK.1 hW (tq8 h0) 0 rfl rfl b7 rfl d_Accounts_move_31 ?_
        refine lv_iload_n (pc := 32) hx hb d_Accounts_move_32 rfl (lv_at hl 3 rfl) ?_
        refine lv_icmp_lt (pc := 33) (tgt := 66) hx hb d_Accounts_move_33 (by decide) (fun c8 => ?_) (fun c8 => ?_)
        · have hk := hk.1 c8
          have hr := (if_pos c8).symm.trans hr
          exact z_vret hy hW hr.symm d_Accounts_move_66
        · have hk := hk.2 c8
          have hr := (if_neg c8).symm.trans hr
          refine lv_aload_n (pc := 36) hx hb d_Accounts_move_36 rfl (lv_at hl 0 rfl) ?_
          refine z_get (pc := 37) (v := .ref (ad (8, i0, 0))) hF hK.1 hW (tq7 h0) rfl rfl in_Accounts 0 (by decide) gw_210 rfl rfl d_Accounts_move_37 ?_
          refine lv_iload_n (pc := 40) hx hb d_Accounts_move_40 rfl (lv_at hl 1 rfl) ?_
          refine lv_dup2_11 (pc := 41) hx hb d_Accounts_move_41 rfl rfl ?_
          have b9 := hk.1
          have hk := hk.2
          refine z_iald (pc := 42) (v := S.1 8 i0 0 a1.toNatClampNeg) hF hK.1 hW (tq8 h0) 0 rfl rfl b9 rfl d_Accounts_move_42 ?_
          refine lv_iload_n (pc := 43) hx hb d_Accounts_move_43 rfl (lv_at hl 3 rfl) ?_
          refine lv_isub (pc := 44) hx hb d_Accounts_move_44 ?_
          have b10 := hk.1
          have hk := hk.2
          obtain ⟨S11, eS11⟩ : ∃ z : St, z = si S 8 i0 0 (a1.toNatClampNeg) ((S.1 8 i0 0 a1.toNatClampNeg) - a3) := ⟨_, rfl⟩
          have hk := lt_p eS11 hk
          have hr := lt_e eS11 hr
          refine z_iast (pc := 45) (S' := S11) hF hK.1 hW (tq8 h0) 0 rfl rfl b10 (zs_si eS11 rfl) (zs_sio eS11) d_Accounts_move_45 (fun H locs (hW : Wd D clQ A s.heap (zw X ad TQ (cfQ ad ca) S11) H locs) => ?_)
          refine lv_aload_n (pc := 46) hx hb d_Accounts_move_46 rfl (lv_at hl 0 rfl) ?_
          refine z_get (pc := 47) (v := .ref (ad (8, i0, 0))) hF hK.1 hW (tq7 h0) rfl rfl in_Accounts 0 (by decide) gw_210 rfl rfl d_Accounts_move_47 ?_
          refine lv_iload_n (pc := 50) hx hb d_Accounts_move_50 rfl (lv_at hl 2 rfl) ?_
          refine lv_dup2_11 (pc := 51) hx hb d_Accounts_move_51 rfl rfl ?_
          have b12 := hk.1
          have hk := hk.2
          refine z_iald (pc := 52) (v := S11.1 8 i0 0 a2.toNatClampNeg) hF hK.1 hW (tq8 h0) 0 rfl rfl b12 rfl d_Accounts_move_52 ?_
          refine lv_iload_n (pc := 53) hx hb d_Accounts_move_53 rfl (lv_at hl 3 rfl) ?_
          refine lv_iadd (pc := 54) hx hb d_Accounts_move_54 ?_
          have b13 := hk.1
          have hk := hk.2
          obtain ⟨S14, eS14⟩ : ∃ z : St, z = si S11 8 i0 0 (a2.toNatClampNeg) ((S11.1 8 i0 0 a2.toNatClampNeg) + a3) := ⟨_, rfl⟩
          have hk := lt_p eS14 hk
          have hr := lt_e eS14 hr
          refine z_iast (pc := 55) (S' := S14) hF hK.1 hW (tq8 h0) 0 rfl rfl b13 (zs_si eS14 rfl) (zs_sio eS14) d_Accounts_move_55 (fun H locs (hW : Wd D clQ A s.heap (zw X ad TQ (cfQ ad ca) S14) H locs) => ?_)
          refine lv_aload_n (pc := 56) hx hb d_Accounts_move_56 rfl (lv_at hl 0 rfl) ?_
          refine z_get (pc := 57) (v := .ref (ad (9, i0, 0))) hF hK.1 hW (tq7 h0) rfl rfl in_Accounts 1 (by decide) gw_212 rfl rfl d_Accounts_move_57 ?_
          refine lv_iload_n (pc := 60) hx hb d_Accounts_move_60 rfl (lv_at hl 1 rfl) ?_
          refine lv_dup2_11 (pc := 61) hx hb d_Accounts_move_61 rfl rfl ?_
          have b15 := hk.1
          have hk := hk.2
          refine z_iald (pc := 62) (v := S14.1 9 i0 0 a1.toNatClampNeg) hF hK.1 hW (tq9 h0) 0 rfl rfl b15 rfl d_Accounts_move_62 ?_
          refine lv_iconst (pc := 63) (v := 1) hx hb d_Accounts_move_63 (by decide) ?_
          refine lv_iadd (pc := 64) hx hb d_Accounts_move_64 ?_
          have b16 := hk.1
          have hk := hk.2
          obtain ⟨S17, eS17⟩ : ∃ z : St, z = si S14 9 i0 0 (a1.toNatClampNeg) ((S14.1 9 i0 0 a1.toNatClampNeg) + (1 : Int32)) := ⟨_, rfl⟩
          have hr := lt_e eS17 hr
          refine z_iast (pc := 65) (S' := S17) hF hK.1 hW (tq9 h0) 0 rfl rfl b16 (zs_si eS17 rfl) (zs_sio eS17) d_Accounts_move_65 (fun H locs (hW : Wd D clQ A s.heap (zw X ad TQ (cfQ ad ca) S17) H locs) => ?_)
          exact z_vret hy hW hr.symm d_Accounts_move_66
    · have hk := hk.1 c4
      have hr := (if_pos c4).symm.trans hr
      exact z_vret hy hW hr.symm d_Accounts_move_14
