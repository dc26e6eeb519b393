theorem d_Store_logged_0 : decode b_Store_logged 0 = .ok (.iload_n 1, 1) := by decide +kernel
theorem d_Store_logged_1 : decode b_Store_logged 1 = .ok (.ifCond .lt 20, 3) := by decide +kernel
theorem d_Store_logged_4 : decode b_Store_logged 4 = .ok (.iload_n 1, 1) := by decide +kernel
theorem d_Store_logged_5 : decode b_Store_logged 5 = .ok (.aload_n 0, 1) := by decide +kernel
theorem d_Store_logged_6 : decode b_Store_logged 6 = .ok (.getfield 39, 3) := by decide +kernel
theorem d_Store_logged_9 : decode b_Store_logged 9 = .ok (.if_icmp .ge 12, 3) := by decide +kernel
theorem d_Store_logged_12 : decode b_Store_logged 12 = .ok (.aload_n 0, 1) := by decide +kernel
theorem d_Store_logged_13 : decode b_Store_logged 13 = .ok (.getfield 15, 3) := by decide +kernel
theorem d_Store_logged_16 : decode b_Store_logged 16 = .ok (.iload_n 1, 1) := by decide +kernel
theorem d_Store_logged_17 : decode b_Store_logged 17 = .ok (.iaload, 1) := by decide +kernel
theorem d_Store_logged_18 : decode b_Store_logged 18 = .ok (.goto 4, 3) := by decide +kernel
theorem d_Store_logged_21 : decode b_Store_logged 21 = .ok (.iconst (-1), 1) := by decide +kernel
theorem d_Store_logged_22 : decode b_Store_logged 22 = .ok (.ireturn, 1) := by decide +kernel
def f_Store_logged (i0 : Nat) (a1 : Int32) (S : St) : Int32 :=
  if a1 < 0 then
    (-1 : Int32)
  else
    if (S.1 4 i0 0 5) ≤ a1 then
      (-1 : Int32)
    else
      S.1 6 i0 0 a1.toNatClampNeg
def ok_Store_logged (i0 : Nat) (a1 : Int32) (S : St) : Prop :=
  (a1 < 0 → (
    True)) ∧ (¬ (a1 < 0) → (
    ((S.1 4 i0 0 5) ≤ a1 → (
      True)) ∧ (¬ ((S.1 4 i0 0 5) ≤ a1) → (
      (vp_in a1 100) ∧ (
        True)))))
set_option maxHeartbeats 4000000 in
set_option maxRecDepth 100000 in
theorem c_Store_logged (l : Launch) (D : va_G) (X : va_W) (ad : N3 → Nat) (ca : Nat → ClassId) (i0 : Nat) (a1 : Int32) (h0 : i0 < 4) (S : St) (hk : ok_Store_logged i0 a1 S) : cP l GG D clQ (tysQ ca) nwQ (zw X ad TQ (cfQ ad ca) S) y_Store_logged b_Store_logged 2 .int 0 0 [.ref (ad (4, i0, 0)), .int a1] (.int (f_Store_logged i0 a1 S)) := by
  generalize hr : f_Store_logged i0 a1 S = res
  refine zP_of pn_Store (Nat.le_of_ble_eq_true rfl) (fun p e s m below meth c ls hy hW hl => ?_)
  have hF := hy.1
  have hx := hF.1
  have hb := hF.2.1
  have hK := hy.2.2.2
  have hl : lv_has ls 2 [(0, .ref (ad (4, i0, 0))), (1, .int a1)] := hl
  refine lv_iload_n (pc := 0) hx hb d_Store_logged_0 rfl (lv_at hl 1 rfl) ?_
  refine lv_if_lt (pc := 1) (tgt := 21) hx hb d_Store_logged_1 (by decide) (fun c1 => ?_) (fun c1 => ?_)
  · have hk := hk.1 c1
    have hr := (if_pos c1).symm.trans hr
    refine lv_iconst (pc := 21) (v := -1) hx hb d_Store_logged_21 (by decide) ?_
    exact p_iret (v := (-1 : Int32)) hy hr d_Store_logged_22
  · have hk := hk.2 c1
    have hr := (if_neg c1).symm.trans hr
    refine lv_iload_n (pc := 4) hx hb d_Store_logged_4 rfl (lv_at hl 1 rfl) ?_
    refine lv_aload_n (pc := 5) hx hb d_Store_logged_5 rfl (lv_at hl 0 rfl) ?_
    refine z_get (pc := 6) (v := .int (S.1 4 i0 0 5)) hF hK.1 hW (tq4 h0) rfl rfl in_Store 5 (by decide) gw_273 rfl rfl d_Store_logged_6 ?_
    refine lv_icmp_ge (pc := 9) (tgt := 21) hx hb d_Store_logged_9 (by decide) (fun c2 => ?_) (fun c2 => ?_)
    · have hk := hk.1 c2
      have hr := (if_pos c2).symm.trans hr
      refine lv_iconst (pc := 21) (v := -1) hx hb d_Store_logged_21 (by decide) ?_
      exact p_iret (v := (-1 : Int32)) hy hr d_Store_logged_22
    · have hk := hk.2 c2
      have hr := (if_neg c2).symm.trans hr
      refine lv_aload_n (pc := 12) hx hb d_Store_logged_12 rfl (lv_at hl 0 rfl) ?_
      refine z_get (pc := 13) (v := .ref (ad (6, i0, 0))) hF hK.1 hW (tq4 h0) rfl rfl in_Store 1 (by decide) gw_265 rfl rfl d_Store_logged_13 ?_
      refine lv_iload_n (pc := 16) hx hb d_Store_logged_16 rfl (lv_at hl 1 rfl) ?_
      have b3 := hk.1
      have hk := hk.2
      refine z_iald (pc := 17) (v := S.1 6 i0 0 a1.toNatClampNeg) hF hK.1 hW (tq6 h0) 0 rfl rfl b3 rfl d_Store_logged_17 ?_
      refine lv_goto (pc := 18) (tgt := 22) hx hb d_Store_logged_18 (by decide) ?_
      exact p_iret (v := S.1 6 i0 0 a1.toNatClampNeg) hy hr d_Store_logged_22
theorem d_QC_log_0 : decode b_QC_log 0 = .ok (.iload_n 1, 1) := by decide +kernel
theorem d_QC_log_1 : decode b_QC_log 1 = .ok (.invokestatic 68, 3) := by decide +kernel
theorem d_QC_log_4 : decode b_QC_log 4 = .ok (.ifCond .eq 19, 3) := by decide +kernel
theorem d_QC_log_7 : decode b_QC_log 7 = .ok (.aload_n 0, 1) := by decide +kernel
theorem d_QC_log_8 : decode b_QC_log 8 = .ok (.getfield 11, 3) := by decide +kernel
theorem d_QC_log_11 : decode b_QC_log 11 = .ok (.iload_n 1, 1) := by decide +kernel
theorem d_QC_log_12 : decode b_QC_log 12 = .ok (.aaload, 1) := by decide +kernel
theorem d_QC_log_13 : decode b_QC_log 13 = .ok (.getfield 179, 3) := by decide +kernel
theorem d_QC_log_16 : decode b_QC_log 16 = .ok (.iload_n 2, 1) := by decide +kernel
theorem d_QC_log_17 : decode b_QC_log 17 = .ok (.invokevirtual 269, 3) := by decide +kernel
theorem d_QC_log_20 : decode b_QC_log 20 = .ok (.goto 4, 3) := by decide +kernel
theorem d_QC_log_23 : decode b_QC_log 23 = .ok (.iconst (-1), 1) := by decide +kernel
theorem d_QC_log_24 : decode b_QC_log 24 = .ok (.ireturn, 1) := by decide +kernel
def f_QC_log (a1 : Int32) (a2 : Int32) (S : St) : Int32 :=
  lt (f_QC_isNode a1 S) fun (r1 : Int32) =>
  if r1 = 0 then
    (-1 : Int32)
  else
    lt (f_Store_logged (a1.toNatClampNeg) a2 S) fun (r5 : Int32) =>
    r5
def ok_QC_log (a1 : Int32) (a2 : Int32) (S : St) : Prop :=
  lt (f_QC_isNode a1 S) fun (r1 : Int32) =>
  (r1 = 0 → (
    True)) ∧ (¬ (r1 = 0) → (
    (vp_in a1 4) ∧ (
      (ok_Store_logged (a1.toNatClampNeg) a2 S) ∧ (
        True))))
set_option maxHeartbeats 4000000 in
set_option maxRecDepth 100000 in
theorem c_QC_log (l : Launch) (D : va_G) (X : va_W) (ad : N3 → Nat) (ca : Nat → ClassId) (a1 : Int32) (a2 : Int32)  (S : St) (hk : ok_QC_log a1 a2 S) : cP l GG D clQ (tysQ ca) nwQ (zw X ad TQ (cfQ ad ca) S) y_QC_log b_QC_log 3 .int 1 21 [.ref (ad (1, 0, 0)), .int a1, .int a2] (.int (f_QC_log a1 a2 S)) := by
  generalize hr : f_QC_log a1 a2 S = res
  refine zP_of pn_QC (Nat.le_of_ble_eq_true rfl) (fun p e s m below meth c ls hy hW hl => ?_)
  have hF := hy.1
  have hx := hF.1
  have hb := hF.2.1
  have hK := hy.2.2.2
  have hl : lv_has ls 3 [(0, .ref (ad (1, 0, 0))), (1, .int a1), (2, .int a2)] := hl
  refine lv_iload_n (pc := 0) hx hb d_QC_log_0 rfl (lv_at hl 1 rfl) ?_
  obtain ⟨r1, er1⟩ : ∃ z : Int32, z = f_QC_isNode a1 S := ⟨_, rfl⟩
  have hk := lt_p er1 hk
  have hr := lt_e er1 hr
  refine p_go (pc := 1) (congrArg Value.int er1) (p_runS hF hK hW (c_QC_isNode l D X ad ca a1 S _) cd_QC_isNode gw_430 ⟨Nat.le_of_ble_eq_true rfl, Nat.le_of_ble_eq_true rfl⟩ ⟨Nat.zero_le _, Nat.zero_le _⟩ rfl rfl hl.1 (Nat.le_of_ble_eq_true rfl) d_QC_log_1) ?_
  refine lv_if_eq (pc := 4) (tgt := 23) hx hb d_QC_log_4 (by decide) (fun c2 => ?_) (fun c2 => ?_)
  · have hk := hk.1 c2
    have hr := (if_pos c2).symm.trans hr
    refine lv_iconst (pc := 23) (v := -1) hx hb d_QC_log_23 (by decide) ?_
    exact p_iret (v := (-1 : Int32)) hy hr d_QC_log_24
  · have hk := hk.2 c2
    have hr := (if_neg c2).symm.trans hr
    refine lv_aload_n (pc := 7) hx hb d_QC_log_7 rfl (lv_at hl 0 rfl) ?_
    refine z_get (pc := 8) (v := .ref (ad (2, 0, 0))) hF hK.1 hW tq1 rfl rfl in_QC 0 (by decide) gw_344 rfl rfl d_QC_log_8 ?_
    refine lv_iload_n (pc := 11) hx hb d_QC_log_11 rfl (lv_at hl 1 rfl) ?_
    have b3 := hk.1
    have hk := hk.2
    refine z_aald (pc := 12) (q := ad (3, (a1.toNatClampNeg), 0)) hF hK.1 hW tq2 3 rfl rfl b3 rfl d_QC_log_12 ?_
    refine z_get (pc := 13) (v := .ref (ad (4, (a1.toNatClampNeg), 0))) hF hK.1 hW (tq3 (vin4 b3)) rfl rfl in_Node 1 (by decide) gw_298 rfl rfl d_QC_log_13 ?_
    refine lv_iload_n (pc := 16) hx hb d_QC_log_16 rfl (lv_at hl 2 rfl) ?_
    have o4 := hk.1
    have hk := hk.2
    obtain ⟨r5, er5⟩ : ∃ z : Int32, z = f_Store_logged (a1.toNatClampNeg) a2 S := ⟨_, rfl⟩
    have hr := lt_e er5 hr
    refine p_go (pc := 17) (congrArg Value.int er5) (p_runV hF hK hW (c_Store_logged l D X ad ca (a1.toNatClampNeg) a2 (vin4 b3) S o4 _) cd_Store_logged gw_437 (tq4 (vin4 b3)) rfl rfl ⟨Nat.le_of_ble_eq_true rfl, Nat.le_of_ble_eq_true rfl⟩ ⟨Nat.zero_le _, Nat.zero_le _⟩ rfl rfl hl.1 (Nat.le_of_ble_eq_true rfl) d_QC_log_17) ?_
    refine lv_goto (pc := 20) (tgt := 24) hx hb d_QC_log_20 (by decide) ?_
    exact p_iret (v := r5) hy hr d_QC_log_24
theorem d_QC_isAccount_0 : decode b_QC_isAccount 0 = .ok (.iload_n 0, 1) := by decide +kernel
theorem d_QC_isAccount_1 : decode b_QC_isAccount 1 = .ok (.ifCond .lt 12, 3) := by decide +kernel
theorem d_QC_isAccount_4 : decode b_QC_isAccount 4 = .ok (.iload_n 0, 1) := by decide +kernel
theorem d_QC_isAccount_5 : decode b_QC_isAccount 5 = .ok (.iconst 4, 1) := by decide +kernel
theorem d_QC_isAccount_6 : decode b_QC_isAccount 6 = .ok (.if_icmp .ge 7, 3) := by decide +kernel
theorem d_QC_isAccount_9 : decode b_QC_isAccount 9 = .ok (.iconst 1, 1) := by decide +kernel
theorem d_QC_isAccount_10 : decode b_QC_isAccount 10 = .ok (.goto 4, 3) := by decide +kernel
theorem d_QC_isAccount_13 : decode b_QC_isAccount 13 = .ok (.iconst 0, 1) := by decide +kernel
theorem d_QC_isAccount_14 : decode b_QC_isAccount 14 = .ok (.ireturn, 1) := by decide +kernel
def f_QC_isAccount (a0 : Int32) (S : St) : Int32 :=
  if a0 < 0 then
    (0 : Int32)
  else
    if (4 : Int32) ≤ a0 then
      (0 : Int32)
    else
      (1 : Int32)
set_option maxHeartbeats 4000000 in
set_option maxRecDepth 100000 in
theorem c_QC_isAccount (l : Launch) (D : va_G) (X : va_W) (ad : N3 → Nat) (ca : Nat → ClassId) (a0 : Int32)  (S : St) : cP l GG D clQ (tysQ ca) nwQ (zw X ad TQ (cfQ ad ca) S) y_QC_isAccount b_QC_isAccount 1 .boolean 0 0 [.int a0] (.int (f_QC_isAccount a0 S)) := by
  generalize hr : f_QC_isAccount a0 S = res
  refine zP_of pn_QC (Nat.le_of_ble_eq_true rfl) (fun p e s m below meth c ls hy hW hl => ?_)
  have hF := hy.1
  have hx := hF.1
  have hb := hF.2.1
  have hK := hy.2.2.2
  have hl : lv_has ls 1 [(0, .int a0)] := hl
  refine lv_iload_n (pc := 0) hx hb d_QC_isAccount_0 rfl (lv_at hl 0 rfl) ?_
  refine lv_if_lt (pc := 1) (tgt := 13) hx hb d_QC_isAccount_1 (by decide) (fun c1 => ?_) (fun c1 => ?_)
  · have hr := (if_pos c1).symm.trans hr
    refine lv_iconst (pc := 13) (v := 0) hx hb d_QC_isAccount_13 (by decide) ?_
    exact p_zret (v := (0 : Int32)) hy rfl hr d_QC_isAccount_14
  · have hr := (if_neg c1).symm.trans hr
    refine lv_iload_n (pc := 4) hx hb d_QC_isAccount_4 rfl (lv_at hl 0 rfl) ?_
    refine lv_iconst (pc := 5) (v := 4) hx hb d_QC_isAccount_5 (by decide) ?_
    refine lv_icmp_ge (pc := 6) (tgt := 13) hx hb d_QC_isAccount_6 (by decide) (fun c2 => ?_) (fun c2 => ?_)
    · have hr := (if_pos c2).symm.trans hr
      refine lv_iconst (pc := 13) (v := 0) hx hb d_QC_isAccount_13 (by decide) ?_
      exact p_zret (v := (0 : Int32)) hy rfl hr d_QC_isAccount_14
    · have hr := (if_neg c2).symm.trans hr
      refine lv_iconst (pc := 9) (v := 1) hx hb d_QC_isAccount_9 (by decide) ?_
      refine lv_goto (pc := 10) (tgt := 14) hx hb d_QC_isAccount_10 (by decide) ?_
      exact p_zret (v := (1 : Int32)) hy rfl hr d_QC_isAccount_14
theorem d_QC_account_0 : decode b_QC_account 0 = .ok (.iload_n 1, 1) := by decide +kernel
theorem d_QC_account_1 : decode b_QC_account 1 = .ok (.invokestatic 68, 3) := by decide +kernel
theorem d_QC_account_4 : decode b_QC_account 4 = .ok (.ifCond .eq 10, 3) := by decide +kernel
theorem d_QC_account_7 : decode b_QC_account 7 = .ok (.iload_n 2, 1) := by decide +kernel
theorem d_QC_account_8 : decode b_QC_account 8 = .ok (.invokestatic 42, 3) := by decide +kernel
theorem d_QC_account_11 : decode b_QC_account 11 = .ok (.ifCond .ne 5, 3) := by decide +kernel
theorem d_QC_account_14 : decode b_QC_account 14 = .ok (.iconst (-1), 1) := by decide +kernel
theorem d_QC_account_15 : decode b_QC_account 15 = .ok (.ireturn, 1) := by decide +kernel
theorem d_QC_account_16 : decode b_QC_account 16 = .ok (.aload_n 0, 1) := by decide +kernel
theorem d_QC_account_17 : decode b_QC_account 17 = .ok (.getfield 11, 3) := by decide +kernel
theorem d_QC_account_20 : decode b_QC_account 20 = .ok (.iload_n 1, 1) := by decide +kernel
theorem d_QC_account_21 : decode b_QC_account 21 = .ok (.aaload, 1) := by decide +kernel
theorem d_QC_account_22 : decode b_QC_account 22 = .ok (.getfield 179, 3) := by decide +kernel
theorem d_QC_account_25 : decode b_QC_account 25 = .ok (.getfield 272, 3) := by decide +kernel
theorem d_QC_account_28 : decode b_QC_account 28 = .ok (.astore 4, 2) := by decide +kernel
theorem d_QC_account_30 : decode b_QC_account 30 = .ok (.iload_n 3, 1) := by decide +kernel
theorem d_QC_account_31 : decode b_QC_account 31 = .ok (.lookupswitch 41 #[(0, 25), (1, 33)], 25) := by decide +kernel
theorem d_QC_account_56 : decode b_QC_account 56 = .ok (.aload 4, 2) := by decide +kernel
theorem d_QC_account_58 : decode b_QC_account 58 = .ok (.getfield 276, 3) := by decide +kernel
theorem d_QC_account_61 : decode b_QC_account 61 = .ok (.iload_n 2, 1) := by decide +kernel
theorem d_QC_account_62 : decode b_QC_account 62 = .ok (.iaload, 1) := by decide +kernel
theorem d_QC_account_63 : decode b_QC_account 63 = .ok (.ireturn, 1) := by decide +kernel
theorem d_QC_account_64 : decode b_QC_account 64 = .ok (.aload 4, 2) := by decide +kernel
theorem d_QC_account_66 : decode b_QC_account 66 = .ok (.getfield 282, 3) := by decide +kernel
theorem d_QC_account_69 : decode b_QC_account 69 = .ok (.iload_n 2, 1) := by decide +kernel
theorem d_QC_account_70 : decode b_QC_account 70 = .ok (.iaload, 1) := by decide +kernel
theorem d_QC_account_71 : decode b_QC_account 71 = .ok (.ireturn, 1) := by decide +kernel
theorem d_QC_account_72 : decode b_QC_account 72 = .ok (.iconst (-1), 1) := by decide +kernel
theorem d_QC_account_73 : decode b_QC_account 73 = .ok (.ireturn, 1) := by decide +kernel
def f_QC_account (a1 : Int32) (a2 : Int32) (a3 : Int32) (S : St) : Int32 :=
  lt (f_QC_isNode a1 S) fun (r1 : Int32) =>
  if r1 = 0 then
    (-1 : Int32)
  else
    lt (f_QC_isAccount a2 S) fun (r3 : Int32) =>
    if r3 = 0 then
      (-1 : Int32)
    else
      if a3 = (0 : Int32) then
        S.1 8 (a1.toNatClampNeg) 0 a2.toNatClampNeg
      else
        if a3 = (1 : Int32) then
          S.1 9 (a1.toNatClampNeg) 0 a2.toNatClampNeg
        else
          (-1 : Int32)
def ok_QC_account (a1 : Int32) (a2 : Int32) (a3 : Int32) (S : St) : Prop :=
  lt (f_QC_isNode a1 S) fun (r1 : Int32) =>
  (r1 = 0 → (
    True)) ∧ (¬ (r1 = 0) → (
    lt (f_QC_isAccount a2 S) fun (r3 : Int32) =>
    (r3 = 0 → (
      True)) ∧ (¬ (r3 = 0) → (
      (vp_in a1 4) ∧ (
        (a3 = (0 : Int32) → (
          (vp_in a2 4) ∧ (
            True))) ∧ (¬ (a3 = (0 : Int32)) → (
          (a3 = (1 : Int32) → (
            (vp_in a2 4) ∧ (
              True))) ∧ (¬ (a3 = (1 : Int32)) → (
            True)))))))))
set_option maxHeartbeats 4000000 in
set_option maxRecDepth 100000 in
theorem c_QC_account (l : Launch) (D : va_G) (X : va_W) (ad : N3 → Nat) (ca : Nat → ClassId) (a1 : Int32) (a2 : Int32) (a3 : Int32)  (S : St) (hk : ok_QC_account a1 a2 a3 S) : cP l GG D clQ (tysQ ca) nwQ (zw X ad TQ (cfQ ad ca) S) y_QC_account b_QC_account 5 .int 1 20 [.ref (ad (1, 0, 0)), .int a1, .int a2, .int a3] (.int (f_QC_account a1 a2 a3 S)) := by
  generalize hr : f_QC_account a1 a2 a3 S = res
  refine zP_of pn_QC (Nat.le_of_ble_eq_true rfl) (fun p e s m below meth c ls hy hW hl => ?_)
  have hF := hy.1
  have hx := hF.1
  have hb := hF.2.1
  have hK := hy.2.2.2
  have hl : lv_has ls 5 [(0, .ref (ad (1, 0, 0))), (1, .int a1), (2, .int a2), (3, .int a3)] := hl
  refine lv_iload_n (pc := 0) hx hb d_QC_account_0 rfl (lv_at hl 1 rfl) ?_
  obtain ⟨r1, er1⟩ : ∃ z : Int32, z = f_QC_isNode a1 S := ⟨_, rfl⟩
  have hk := lt_p er1 hk
  have hr := lt_e er1 hr
  refine p_go (pc := 1) (congrArg Value.int er1) (p_runS hF hK hW (c_QC_isNode l D X ad ca a1 S _) cd_QC_isNode gw_430 ⟨Nat.le_of_ble_eq_true rfl, Nat.le_of_ble_eq_true rfl⟩ ⟨Nat.zero_le _, Nat.zero_le _⟩ rfl rfl hl.1 (Nat.le_of_ble_eq_true rfl) d_QC_account_1) ?_
  refine lv_if_eq (pc := 4) (tgt := 14) hx hb d_QC_account_4 (by decide) (fun c2 => ?_) (fun c2 => ?_)
  · have hk := hk.1 c2
    have hr := (if_pos c2).symm.trans hr
    refine lv_iconst (pc := 14) (v := -1) hx hb d_QC_account_14 (by decide) ?_
    exact p_iret (v := (-1 : Int32)) hy hr d_QC_account_15
  · have hk := hk.2 c2
    have hr := (if_neg c2).symm.trans hr
    refine lv_iload_n (pc := 7) hx hb d_QC_account_7 rfl (lv_at hl 2 rfl) ?_
    obtain ⟨r3, er3⟩ : ∃ z : Int32, z = f_QC_isAccount a2 S := ⟨_, rfl⟩
    have hk := lt_p er3 hk
    have hr := lt_e er3 hr
    refine p_go (pc := 8) (congrArg Value.int er3) (p_runS hF hK hW (c_QC_isAccount l D X ad ca a2 S _) cd_QC_isAccount gw_445 ⟨Nat.le_of_ble_eq_true rfl, Nat.le_of_ble_eq_true rfl⟩ ⟨Nat.zero_le _, Nat.zero_le _⟩ rfl rfl hl.1 (Nat.le_of_ble_eq_true rfl) d_QC_account_8) ?_
    refine lv_if_ne (pc := 11) (tgt := 16) hx hb d_QC_account_11 (by decide) (fun c4 => ?_) (fun c4 => ?_)
    · have hk := hk.2 c4
      have hr := (if_neg c4).symm.trans hr
      refine lv_aload_n (pc := 16) hx hb d_QC_account_16 rfl (lv_at hl 0 rfl) ?_
      refine z_get (pc := 17) (v := .ref (ad (2, 0, 0))) hF hK.1 hW tq1 rfl rfl in_QC 0 (by decide) gw_344 rfl rfl d_QC_account_17 ?_
      refine lv_iload_n (pc := 20) hx hb d_QC_account_20 rfl (lv_at hl 1 rfl) ?_
      have b5 := hk.1
      have hk := hk.2
      refine z_aald (pc := 21) (q := ad (3, (a1.toNatClampNeg), 0)) hF hK.1 hW tq2 3 rfl rfl b5 rfl d_QC_account_21 ?_
      refine z_get (pc := 22) (v := .ref (ad (4, (a1.toNatClampNeg), 0))) hF hK.1 hW (tq3 (vin4 b5)) rfl rfl in_Node 1 (by decide) gw_298 rfl rfl d_QC_account_22 ?_
      refine z_get (pc := 25) (v := .ref (ad (7, (a1.toNatClampNeg), 0))) hF hK.1 hW (tq4 (vin4 b5)) rfl rfl in_Store 2 (by decide) gw_268 rfl rfl d_QC_account_25 ?_
      refine lv_astore (pc := 28) (lv' := [(4, .ref (ad (7, (a1.toNatClampNeg), 0))), (0, .ref (ad (1, 0, 0))), (1, .int a1), (2, .int a2), (3, .int a3)]) hx hb d_QC_account_28 hl (by decide) rfl (fun ls hl => ?_)
      refine lv_iload_n (pc := 30) hx hb d_QC_account_30 rfl (lv_at hl 4 rfl) ?_
      by_cases c6 : a3 = (0 : Int32)
      · have hk := hk.1 c6
        have hr := (if_pos c6).symm.trans hr
        refine lv_lookup (pc := 31) (tgt := 56) (off := 25) hx hb d_QC_account_31 (by decide) (by (rw [c6]) <;> decide) (by decide) ?_
        refine lv_aload (pc := 56) hx hb d_QC_account_56 (lv_at hl 0 rfl) ?_
        refine z_get (pc := 58) (v := .ref (ad (8, (a1.toNatClampNeg), 0))) hF hK.1 hW (tq7 (vin4 b5)) rfl rfl in_Accounts 0 (by decide) gw_211 rfl rfl d_QC_account_58 ?_
        refine lv_iload_n (pc := 61) hx hb d_QC_account_61 rfl (lv_at hl 3 rfl) ?_
        have b7 := hk.1
        have hk := hk.2
        refine z_iald (pc := 62) (v := S.1 8 (a1.toNatClampNeg) 0 a2.toNatClampNeg) hF hK.1 hW (tq8 (vin4 b5)) 0 rfl rfl b7 rfl d_QC_account_62 ?_
        exact p_iret (v := S.1 8 (a1.toNatClampNeg) 0 a2.toNatClampNeg) hy hr d_QC_account_63
      · have hk := hk.2 c6
        have hr := (if_neg c6).symm.trans hr
        by_cases c8 : a3 = (1 : Int32)
        · have hk := hk.1 c8
          have hr := (if_pos c8).symm.trans hr
          refine lv_lookup (pc := 31) (tgt := 64) (off := 33) hx hb d_QC_account_31 (by decide) (by (rw [c8]) <;> decide) (by decide) ?_
          refine lv_aload (pc := 64) hx hb d_QC_account_64 (lv_at hl 0 rfl) ?_
          refine z_get (pc := 66) (v := .ref (ad (9, (a1.toNatClampNeg), 0))) hF hK.1 hW (tq7 (vin4 b5)) rfl rfl in_Accounts 1 (by decide) gw_213 rfl rfl d_QC_account_66 ?_
          refine lv_iload_n (pc := 69) hx hb d_QC_account_69 rfl (lv_at hl 3 rfl) ?_
          have b9 := hk.1
          have hk := hk.2
          refine z_iald (pc := 70) (v := S.1 9 (a1.toNatClampNeg) 0 a2.toNatClampNeg) hF hK.1 hW (tq9 (vin4 b5)) 0 rfl rfl b9 rfl d_QC_account_70 ?_
          exact p_iret (v := S.1 9 (a1.toNatClampNeg) 0 a2.toNatClampNeg) hy hr d_QC_account_71
        · have hk := hk.2 c8
          have hr := (if_neg c8).symm.trans hr
          refine lv_lookup (pc := 31) (tgt := 72) (off := 41) hx hb d_QC_account_31 (by decide) ((lv_osw c6 (by decide)).trans <| (lv_osw c8 (by decide)).trans <| rfl) (by decide) ?_
          refine lv_iconst (pc := 72) (v := -1) hx hb d_QC_account_72 (by decide) ?_
          exact p_iret (v := (-1 : Int32)) hy hr d_QC_account_73
    · have hk := hk.1 c4
      have hr := (if_pos c4).symm.trans hr
      refine lv_iconst (pc := 14) (v := -1) hx hb d_QC_account_14 (by decide) ?_
      exact p_iret (v := (-1 : Int32)) hy hr d_QC_account_15
theorem d_Blocks_exists_0 : decode b_Blocks_exists 0 = .ok (.iload_n 1, 1) := by decide +kernel
theorem d_Blocks_exists_1 : decode b_Blocks_exists 1 = .ok (.ifCond .lt 15, 3) := by decide +kernel
theorem d_Blocks_exists_4 : decode b_Blocks_exists 4 = .ok (.iload_n 1, 1) := by decide +kernel
theorem d_Blocks_exists_5 : decode b_Blocks_exists 5 = .ok (.aload_n 0, 1) := by decide +kernel
theorem d_Blocks_exists_6 : decode b_Blocks_exists 6 = .ok (.getfield 25, 3) := by decide +kernel
theorem d_Blocks_exists_9 : decode b_Blocks_exists 9 = .ok (.if_icmp .ge 7, 3) := by decide +kernel
theorem d_Blocks_exists_12 : decode b_Blocks_exists 12 = .ok (.iconst 1, 1) := by decide +kernel
theorem d_Blocks_exists_13 : decode b_Blocks_exists 13 = .ok (.goto 4, 3) := by decide +kernel
theorem d_Blocks_exists_16 : decode b_Blocks_exists 16 = .ok (.iconst 0, 1) := by decide +kernel
theorem d_Blocks_exists_17 : decode b_Blocks_exists 17 = .ok (.ireturn, 1) := by decide +kernel
def f_Blocks_exists (a1 : Int32) (S : St) : Int32 :=
  if a1 < 0 then
    (0 : Int32)
  else
    if (S.1 19 0 0 4) ≤ a1 then
      (0 : Int32)
    else
      (1 : Int32)
set_option maxHeartbeats 4000000 in
set_option maxRecDepth 100000 in
theorem c_Blocks_exists (l : Launch) (D : va_G) (X : va_W) (ad : N3 → Nat) (ca : Nat → ClassId) (a1 : Int32)  (S : St) : cP l GG D clQ (tysQ ca) nwQ (zw X ad TQ (cfQ ad ca) S) y_Blocks_exists b_Blocks_exists 2 .boolean 0 0 [.ref (ad (19, 0, 0)), .int a1] (.int (f_Blocks_exists a1 S)) := by
  generalize hr : f_Blocks_exists a1 S = res
  refine zP_of pn_Blocks (Nat.le_of_ble_eq_true rfl) (fun p e s m below meth c ls hy hW hl => ?_)
  have hF := hy.1
  have hx := hF.1
  have hb := hF.2.1
  have hK := hy.2.2.2
  have hl : lv_has ls 2 [(0, .ref (ad (19, 0, 0))), (1, .int a1)] := hl
  refine lv_iload_n (pc := 0) hx hb d_Blocks_exists_0 rfl (lv_at hl 1 rfl) ?_
  refine lv_if_lt (pc := 1) (tgt := 16) hx hb d_Blocks_exists_1 (by decide) (fun c1 => ?_) (fun c1 => ?_)
  · have hr := (if_pos c1).symm.trans hr
    refine lv_iconst (pc := 16) (v := 0) hx hb d_Blocks_exists_16 (by decide) ?_
    exact p_zret (v := (0 : Int32)) hy rfl hr d_Blocks_exists_17
  · have hr := (if_neg c1).symm.trans hr
    refine lv_iload_n (pc := 4) hx hb d_Blocks_exists_4 rfl (lv_at hl 1 rfl) ?_
    refine lv_aload_n (pc := 5) hx hb d_Blocks_exists_5 rfl (lv_at hl 0 rfl) ?_
    refine z_get (pc := 6) (v := .int (S.1 19 0 0 4)) hF hK.1 hW tq19 rfl rfl in_Blocks 4 (by decide) gw_92 rfl rfl d_Blocks_exists_6 ?_
    refine lv_icmp_ge (pc := 9) (tgt := 16) hx hb d_Blocks_exists_9 (by decide) (fun c2 => ?_) (fun c2 => ?_)
    · have hr := (if_pos c2).symm.trans hr
      refine lv_iconst (pc := 16) (v := 0) hx hb d_Blocks_exists_16 (by decide) ?_
      exact p_zret (v := (0 : Int32)) hy rfl hr d_Blocks_exists_17
    · have hr := (if_neg c2).symm.trans hr
      refine lv_iconst (pc := 12) (v := 1) hx hb d_Blocks_exists_12 (by decide) ?_
      refine lv_goto (pc := 13) (tgt := 17) hx hb d_Blocks_exists_13 (by decide) ?_
      exact p_zret (v := (1 : Int32)) hy rfl hr d_Blocks_exists_17
theorem d_Blocks_viewOf_0 : decode b_Blocks_viewOf 0 = .ok (.aload_n 0, 1) := by decide +kernel
theorem d_Blocks_viewOf_1 : decode b_Blocks_viewOf 1 = .ok (.iload_n 1, 1) := by decide +kernel
theorem d_Blocks_viewOf_2 : decode b_Blocks_viewOf 2 = .ok (.invokevirtual 29, 3) := by decide +kernel
theorem d_Blocks_viewOf_5 : decode b_Blocks_viewOf 5 = .ok (.ifCond .eq 12, 3) := by decide +kernel
theorem d_Blocks_viewOf_8 : decode b_Blocks_viewOf 8 = .ok (.aload_n 0, 1) := by decide +kernel
theorem d_Blocks_viewOf_9 : decode b_Blocks_viewOf 9 = .ok (.getfield 9, 3) := by decide +kernel
theorem d_Blocks_viewOf_12 : decode b_Blocks_viewOf 12 = .ok (.iload_n 1, 1) := by decide +kernel
theorem d_Blocks_viewOf_13 : decode b_Blocks_viewOf 13 = .ok (.iaload, 1) := by decide +kernel
theorem d_Blocks_viewOf_14 : decode b_Blocks_viewOf 14 = .ok (.goto 4, 3) := by decide +kernel
theorem d_Blocks_viewOf_17 : decode b_Blocks_viewOf 17 = .ok (.iconst (-1), 1) := by decide +kernel
theorem d_Blocks_viewOf_18 : decode b_Blocks_viewOf 18 = .ok (.ireturn, 1) := by decide +kernel
def f_Blocks_viewOf (a1 : Int32) (S : St) : Int32 :=
  lt (f_Blocks_exists a1 S) fun (r1 : Int32) =>
  if r1 = 0 then
    (-1 : Int32)
  else
    S.1 20 0 0 a1.toNatClampNeg
def ok_Blocks_viewOf (a1 : Int32) (S : St) : Prop :=
  lt (f_Blocks_exists a1 S) fun (r1 : Int32) =>
  (r1 = 0 → (
    True)) ∧ (¬ (r1 = 0) → (
    (vp_in a1 100) ∧ (
      True)))
set_option maxHeartbeats 4000000 in
set_option maxRecDepth 100000 in
theorem c_Blocks_viewOf (l : Launch) (D : va_G) (X : va_W) (ad : N3 → Nat) (ca : Nat → ClassId) (a1 : Int32)  (S : St) (hk : ok_Blocks_viewOf a1 S) : cP l GG D clQ (tysQ ca) nwQ (zw X ad TQ (cfQ ad ca) S) y_Blocks_viewOf b_Blocks_viewOf 2 .int 1 21 [.ref (ad (19, 0, 0)), .int a1] (.int (f_Blocks_viewOf a1 S)) := by
  generalize hr : f_Blocks_viewOf a1 S = res
  refine zP_of pn_Blocks (Nat.le_of_ble_eq_true rfl) (fun p e s m below meth c ls hy hW hl => ?_)
  have hF := hy.1
  have hx := hF.1
  have hb := hF.2.1
  have hK := hy.2.2.2
  have hl : lv_has ls 2 [(0, .ref (ad (19, 0, 0))), (1, .int a1)] := hl
  refine lv_aload_n (pc := 0) hx hb d_Blocks_viewOf_0 rfl (lv_at hl 0 rfl) ?_
  refine lv_iload_n (pc := 1) hx hb d_Blocks_viewOf_1 rfl (lv_at hl 1 rfl) ?_
  obtain ⟨r1, er1⟩ : ∃ z : Int32, z = f_Blocks_exists a1 S := ⟨_, rfl⟩
  have hk := lt_p er1 hk
  have hr := lt_e er1 hr
  refine p_go (pc := 2) (congrArg Value.int er1) (p_runV hF hK hW (c_Blocks_exists l D X ad ca a1 S _) cd_Blocks_exists gw_460 tq19 rfl rfl ⟨Nat.le_of_ble_eq_true rfl, Nat.le_of_ble_eq_true rfl⟩ ⟨Nat.zero_le _, Nat.zero_le _⟩ rfl rfl hl.1 (Nat.le_of_ble_eq_true rfl) d_Blocks_viewOf_2) ?_
  refine lv_if_eq (pc := 5) (tgt := 17) hx hb d_Blocks_viewOf_5 (by decide) (fun c2 => ?_) (fun c2 => ?_)
  · have hk := hk.1 c2
    have hr := (if_pos c2).symm.trans hr
    refine lv_iconst (pc := 17) (v := -1) hx hb d_Blocks_viewOf_17 (by decide) ?_
    exact p_iret (v := (-1 : Int32)) hy hr d_Blocks_viewOf_18
  · have hk := hk.2 c2
    have hr := (if_neg c2).symm.trans hr
    refine lv_aload_n (pc := 8) hx hb d_Blocks_viewOf_8 rfl (lv_at hl 0 rfl) ?_
    refine z_get (pc := 9) (v := .ref (ad (20, 0, 0))) hF hK.1 hW tq19 rfl rfl in_Blocks 0 (by decide) gw_88 rfl rfl d_Blocks_viewOf_9 ?_
    refine lv_iload_n (pc := 12) hx hb d_Blocks_viewOf_12 rfl (lv_at hl 1 rfl) ?_
    have b3 := hk.1
    have hk := hk.2
    refine z_iald (pc := 13) (v := S.1 20 0 0 a1.toNatClampNeg) hF hK.1 hW tq20 0 rfl rfl b3 rfl d_Blocks_viewOf_13 ?_
    refine lv_goto (pc := 14) (tgt := 18) hx hb d_Blocks_viewOf_14 (by decide) ?_
    exact p_iret (v := S.1 20 0 0 a1.toNatClampNeg) hy hr d_Blocks_viewOf_18
theorem d_Blocks_parentOf_0 : decode b_Blocks_parentOf 0 = .ok (.aload_n 0, 1) := by decide +kernel
theorem d_Blocks_parentOf_1 : decode b_Blocks_parentOf 1 = .ok (.iload_n 1, 1) := by decide +kernel
theorem d_Blocks_parentOf_2 : decode b_Blocks_parentOf 2 = .ok (.invokevirtual 29, 3) := by decide +kernel
theorem d_Blocks_parentOf_5 : decode b_Blocks_parentOf 5 = .ok (.ifCond .eq 12, 3) := by decide +kernel
theorem d_Blocks_parentOf_8 : decode b_Blocks_parentOf 8 = .ok (.aload_n 0, 1) := by decide +kernel
theorem d_Blocks_parentOf_9 : decode b_Blocks_parentOf 9 = .ok (.getfield 15, 3) := by decide +kernel
theorem d_Blocks_parentOf_12 : decode b_Blocks_parentOf 12 = .ok (.iload_n 1, 1) := by decide +kernel
theorem d_Blocks_parentOf_13 : decode b_Blocks_parentOf 13 = .ok (.iaload, 1) := by decide +kernel
theorem d_Blocks_parentOf_14 : decode b_Blocks_parentOf 14 = .ok (.goto 4, 3) := by decide +kernel
theorem d_Blocks_parentOf_17 : decode b_Blocks_parentOf 17 = .ok (.iconst (-1), 1) := by decide +kernel
theorem d_Blocks_parentOf_18 : decode b_Blocks_parentOf 18 = .ok (.ireturn, 1) := by decide +kernel
def f_Blocks_parentOf (a1 : Int32) (S : St) : Int32 :=
  lt (f_Blocks_exists a1 S) fun (r1 : Int32) =>
  if r1 = 0 then
    (-1 : Int32)
  else
    S.1 21 0 0 a1.toNatClampNeg
def ok_Blocks_parentOf (a1 : Int32) (S : St) : Prop :=
  lt (f_Blocks_exists a1 S) fun (r1 : Int32) =>
  (r1 = 0 → (
    True)) ∧ (¬ (r1 = 0) → (
    (vp_in a1 100) ∧ (
      True)))
set_option maxHeartbeats 4000000 in
set_option maxRecDepth 100000 in
theorem c_Blocks_parentOf (l : Launch) (D : va_G) (X : va_W) (ad : N3 → Nat) (ca : Nat → ClassId) (a1 : Int32)  (S : St) (hk : ok_Blocks_parentOf a1 S) : cP l GG D clQ (tysQ ca) nwQ (zw X ad TQ (cfQ ad ca) S) y_Blocks_parentOf b_Blocks_parentOf 2 .int 1 21 [.ref (ad (19, 0, 0)), .int a1] (.int (f_Blocks_parentOf a1 S)) := by
  generalize hr : f_Blocks_parentOf a1 S = res
  refine zP_of pn_Blocks (Nat.le_of_ble_eq_true rfl) (fun p e s m below meth c ls hy hW hl => ?_)
  have hF := hy.1
  have hx := hF.1
  have hb := hF.2.1
  have hK := hy.2.2.2
  have hl : lv_has ls 2 [(0, .ref (ad (19, 0, 0))), (1, .int a1)] := hl
  refine lv_aload_n (pc := 0) hx hb d_Blocks_parentOf_0 rfl (lv_at hl 0 rfl) ?_
  refine lv_iload_n (pc := 1) hx hb d_Blocks_parentOf_1 rfl (lv_at hl 1 rfl) ?_
  obtain ⟨r1, er1⟩ : ∃ z : Int32, z = f_Blocks_exists a1 S := ⟨_, rfl⟩
  have hk := lt_p er1 hk
  have hr := lt_e er1 hr
  refine p_go (pc := 2) (congrArg Value.int er1) (p_runV hF hK hW (c_Blocks_exists l D X ad ca a1 S _) cd_Blocks_exists gw_460 tq19 rfl rfl ⟨Nat.le_of_ble_eq_true rfl, Nat.le_of_ble_eq_true rfl⟩ ⟨Nat.zero_le _, Nat.zero_le _⟩ rfl rfl hl.1 (Nat.le_of_ble_eq_true rfl) d_Blocks_parentOf_2) ?_
  refine lv_if_eq (pc := 5) (tgt := 17) hx hb d_Blocks_parentOf_5 (by decide) (fun c2 => ?_) (fun c2 => ?_)
  · have hk := hk.1 c2
    have hr := (if_pos c2).symm.trans hr
    refine lv_iconst (pc := 17) (v := -1) hx hb d_Blocks_parentOf_17 (by decide) ?_
    exact p_iret (v := (-1 : Int32)) hy hr d_Blocks_parentOf_18
  · have hk := hk.2 c2
    have hr := (if_neg c2).symm.trans hr
    refine lv_aload_n (pc := 8) hx hb d_Blocks_parentOf_8 rfl (lv_at hl 0 rfl) ?_
    refine z_get (pc := 9) (v := .ref (ad (21, 0, 0))) hF hK.1 hW tq19 rfl rfl in_Blocks 1 (by decide) gw_89 rfl rfl d_Blocks_parentOf_9 ?_
    refine lv_iload_n (pc := 12) hx hb d_Blocks_parentOf_12 rfl (lv_at hl 1 rfl) ?_
    have b3 := hk.1
    have hk := hk.2
    refine z_iald (pc := 13) (v := S.1 21 0 0 a1.toNatClampNeg) hF hK.1 hW tq21 0 rfl rfl b3 rfl d_Blocks_parentOf_13 ?_
    refine lv_goto (pc := 14) (tgt := 18) hx hb d_Blocks_parentOf_14 (by decide) ?_
    exact p_iret (v := S.1 21 0 0 a1.toNatClampNeg) hy hr d_Blocks_parentOf_18
theorem d_Blocks_transactionOf_0 : decode b_Blocks_transactionOf 0 = .ok (.aload_n 0, 1) := by decide +kernel
theorem d_Blocks_transactionOf_1 : decode b_Blocks_transactionOf 1 = .ok (.iload_n 1, 1) := by decide +kernel
theorem d_Blocks_transactionOf_2 : decode b_Blocks_transactionOf 2 = .ok (.invokevirtual 29, 3) := by decide +kernel
theorem d_Blocks_transactionOf_5 : decode b_Blocks_transactionOf 5 = .ok (.ifCond .eq 12, 3) := by decide +kernel
theorem d_Blocks_transactionOf_8 : decode b_Blocks_transactionOf 8 = .ok (.aload_n 0, 1) := by decide +kernel
theorem d_Blocks_transactionOf_9 : decode b_Blocks_transactionOf 9 = .ok (.getfield 18, 3) := by decide +kernel
theorem d_Blocks_transactionOf_12 : decode b_Blocks_transactionOf 12 = .ok (.iload_n 1, 1) := by decide +kernel
theorem d_Blocks_transactionOf_13 : decode b_Blocks_transactionOf 13 = .ok (.iaload, 1) := by decide +kernel
theorem d_Blocks_transactionOf_14 : decode b_Blocks_transactionOf 14 = .ok (.goto 4, 3) := by decide +kernel
theorem d_Blocks_transactionOf_17 : decode b_Blocks_transactionOf 17 = .ok (.iconst (-1), 1) := by decide +kernel
theorem d_Blocks_transactionOf_18 : decode b_Blocks_transactionOf 18 = .ok (.ireturn, 1) := by decide +kernel
def f_Blocks_transactionOf (a1 : Int32) (S : St) : Int32 :=
  lt (f_Blocks_exists a1 S) fun (r1 : Int32) =>
  if r1 = 0 then
    (-1 : Int32)
  else
    S.1 22 0 0 a1.toNatClampNeg
def ok_Blocks_transactionOf (a1 : Int32) (S : St) : Prop :=
  lt (f_Blocks_exists a1 S) fun (r1 : Int32) =>
  (r1 = 0 → (
    True)) ∧ (¬ (r1 = 0) → (
    (vp_in a1 100) ∧ (
      True)))
set_option maxHeartbeats 4000000 in
set_option maxRecDepth 100000 in
theorem c_Blocks_transactionOf (l : Launch) (D : va_G) (X : va_W) (ad : N3 → Nat) (ca : Nat → ClassId) (a1 : Int32)  (S : St) (hk : ok_Blocks_transactionOf a1 S) : cP l GG D clQ (tysQ ca) nwQ (zw X ad TQ (cfQ ad ca) S) y_Blocks_transactionOf b_Blocks_transactionOf 2 .int 1 21 [.ref (ad (19, 0, 0)), .int a1] (.int (f_Blocks_transactionOf a1 S)) := by
  generalize hr : f_Blocks_transactionOf a1 S = res
  refine zP_of pn_Blocks (Nat.le_of_ble_eq_true rfl) (fun p e s m below meth c ls hy hW hl => ?_)
  have hF := hy.1
  have hx := hF.1
  have hb := hF.2.1
  have hK := hy.2.2.2
  have hl : lv_has ls 2 [(0, .ref (ad (19, 0, 0))), (1, .int a1)] := hl
  refine lv_aload_n (pc := 0) hx hb d_Blocks_transactionOf_0 rfl (lv_at hl 0 rfl) ?_
  refine lv_iload_n (pc := 1) hx hb d_Blocks_transactionOf_1 rfl (lv_at hl 1 rfl) ?_
  obtain ⟨r1, er1⟩ : ∃ z : Int32, z = f_Blocks_exists a1 S := ⟨_, rfl⟩
  have hk := lt_p er1 hk
  have hr := lt_e er1 hr
  refine p_go (pc := 2) (congrArg Value.int er1) (p_runV hF hK hW (c_Blocks_exists l D X ad ca a1 S _) cd_Blocks_exists gw_460 tq19 rfl rfl ⟨Nat.le_of_ble_eq_true rfl, Nat.le_of_ble_eq_true rfl⟩ ⟨Nat.zero_le _, Nat.zero_le _⟩ rfl rfl hl.1 (Nat.le_of_ble_eq_true rfl) d_Blocks_transactionOf_2) ?_
  refine lv_if_eq (pc := 5) (tgt := 17) hx hb d_Blocks_transactionOf_5 (by decide) (fun c2 => ?_) (fun c2 => ?_)
  · have hk := hk.1 c2
    have hr := (if_pos c2).symm.trans hr
    refine lv_iconst (pc := 17) (v := -1) hx hb d_Blocks_transactionOf_17 (by decide) ?_
    exact p_iret (v := (-1 : Int32)) hy hr d_Blocks_transactionOf_18
  · have hk := hk.2 c2
    have hr := (if_neg c2).symm.trans hr
    refine lv_aload_n (pc := 8) hx hb d_Blocks_transactionOf_8 rfl (lv_at hl 0 rfl) ?_
    refine z_get (pc := 9) (v := .ref (ad (22, 0, 0))) hF hK.1 hW tq19 rfl rfl in_Blocks 2 (by decide) gw_90 rfl rfl d_Blocks_transactionOf_9 ?_
    refine lv_iload_n (pc := 12) hx hb d_Blocks_transactionOf_12 rfl (lv_at hl 1 rfl) ?_
    have b3 := hk.1
    have hk := hk.2
    refine z_iald (pc := 13) (v := S.1 22 0 0 a1.toNatClampNeg) hF hK.1 hW tq22 0 rfl rfl b3 rfl d_Blocks_transactionOf_13 ?_
    refine lv_goto (pc := 14) (tgt := 18) hx hb d_Blocks_transactionOf_14 (by decide) ?_
    exact p_iret (v := S.1 22 0 0 a1.toNatClampNeg) hy hr d_Blocks_transactionOf_18
theorem d_Blocks_isCertified_0 : decode b_Blocks_isCertified 0 = .ok (.aload_n 0, 1) := by decide +kernel
theorem d_Blocks_isCertified_1 : decode b_Blocks_isCertified 1 = .ok (.iload_n 1, 1) := by decide +kernel
theorem d_Blocks_isCertified_2 : decode b_Blocks_isCertified 2 = .ok (.invokevirtual 29, 3) := by decide +kernel
theorem d_Blocks_isCertified_5 : decode b_Blocks_isCertified 5 = .ok (.ifCond .eq 16, 3) := by decide +kernel
theorem d_Blocks_isCertified_8 : decode b_Blocks_isCertified 8 = .ok (.aload_n 0, 1) := by decide +kernel
theorem d_Blocks_isCertified_9 : decode b_Blocks_isCertified 9 = .ok (.getfield 21, 3) := by decide +kernel
theorem d_Blocks_isCertified_12 : decode b_Blocks_isCertified 12 = .ok (.iload_n 1, 1) := by decide +kernel
theorem d_Blocks_isCertified_13 : decode b_Blocks_isCertified 13 = .ok (.baload, 1) := by decide +kernel
theorem d_Blocks_isCertified_14 : decode b_Blocks_isCertified 14 = .ok (.ifCond .eq 7, 3) := by decide +kernel
theorem d_Blocks_isCertified_17 : decode b_Blocks_isCertified 17 = .ok (.iconst 1, 1) := by decide +kernel
theorem d_Blocks_isCertified_18 : decode b_Blocks_isCertified 18 = .ok (.goto 4, 3) := by decide +kernel
theorem d_Blocks_isCertified_21 : decode b_Blocks_isCertified 21 = .ok (.iconst 0, 1) := by decide +kernel
theorem d_Blocks_isCertified_22 : decode b_Blocks_isCertified 22 = .ok (.ireturn, 1) := by decide +kernel
def f_Blocks_isCertified (a1 : Int32) (S : St) : Int32 :=
  lt (f_Blocks_exists a1 S) fun (r1 : Int32) =>
  if r1 = 0 then
    (0 : Int32)
  else
    if (S.1 23 0 0 a1.toNatClampNeg) = 0 then
      (0 : Int32)
    else
      (1 : Int32)
def ok_Blocks_isCertified (a1 : Int32) (S : St) : Prop :=
  lt (f_Blocks_exists a1 S) fun (r1 : Int32) =>
  (r1 = 0 → (
    True)) ∧ (¬ (r1 = 0) → (
    (vp_in a1 100) ∧ (
      True)))
set_option maxHeartbeats 4000000 in
set_option maxRecDepth 100000 in
theorem c_Blocks_isCertified (l : Launch) (D : va_G) (X : va_W) (ad : N3 → Nat) (ca : Nat → ClassId) (a1 : Int32)  (S : St) (hk : ok_Blocks_isCertified a1 S) : cP l GG D clQ (tysQ ca) nwQ (zw X ad TQ (cfQ ad ca) S) y_Blocks_isCertified b_Blocks_isCertified 2 .boolean 1 21 [.ref (ad (19, 0, 0)), .int a1] (.int (f_Blocks_isCertified a1 S)) := by
  generalize hr : f_Blocks_isCertified a1 S = res
  refine zP_of pn_Blocks (Nat.le_of_ble_eq_true rfl) (fun p e s m below meth c ls hy hW hl => ?_)
  have hF := hy.1
  have hx := hF.1
  have hb := hF.2.1
  have hK := hy.2.2.2
  have hl : lv_has ls 2 [(0, .ref (ad (19, 0, 0))), (1, .int a1)] := hl
  refine lv_aload_n (pc := 0) hx hb d_Blocks_isCertified_0 rfl (lv_at hl 0 rfl) ?_
  refine lv_iload_n (pc := 1) hx hb d_Blocks_isCertified_1 rfl (lv_at hl 1 rfl) ?_
  obtain ⟨r1, er1⟩ : ∃ z : Int32, z = f_Blocks_exists a1 S := ⟨_, rfl⟩
  have hk := lt_p er1 hk
  have hr := lt_e er1 hr
  refine p_go (pc := 2) (congrArg Value.int er1) (p_runV hF hK hW (c_Blocks_exists l D X ad ca a1 S _) cd_Blocks_exists gw_460 tq19 rfl rfl ⟨Nat.le_of_ble_eq_true rfl, Nat.le_of_ble_eq_true rfl⟩ ⟨Nat.zero_le _, Nat.zero_le _⟩ rfl rfl hl.1 (Nat.le_of_ble_eq_true rfl) d_Blocks_isCertified_2) ?_
  refine lv_if_eq (pc := 5) (tgt := 21) hx hb d_Blocks_isCertified_5 (by decide) (fun c2 => ?_) (fun c2 => ?_)
  · have hk := hk.1 c2
    have hr := (if_pos c2).symm.trans hr
    refine lv_iconst (pc := 21) (v := 0) hx hb d_Blocks_isCertified_21 (by decide) ?_
    exact p_zret (v := (0 : Int32)) hy rfl hr d_Blocks_isCertified_22
  · have hk := hk.2 c2
    have hr := (if_neg c2).symm.trans hr
    refine lv_aload_n (pc := 8) hx hb d_Blocks_isCertified_8 rfl (lv_at hl 0 rfl) ?_
    refine z_get (pc := 9) (v := .ref (ad (23, 0, 0))) hF hK.1 hW tq19 rfl rfl in_Blocks 3 (by decide) gw_91 rfl rfl d_Blocks_isCertified_9 ?_
    refine lv_iload_n (pc := 12) hx hb d_Blocks_isCertified_12 rfl (lv_at hl 1 rfl) ?_
    have b3 := hk.1
    have hk := hk.2
    refine z_zald (pc := 13) (v := S.1 23 0 0 a1.toNatClampNeg) hF hK.1 hW tq23 2 rfl rfl b3 rfl d_Blocks_isCertified_13 ?_
    refine lv_if_eq (pc := 14) (tgt := 21) hx hb d_Blocks_isCertified_14 (by decide) (fun c4 => ?_) (fun c4 => ?_)
    · have hr := (if_pos c4).symm.trans hr
      refine lv_iconst (pc := 21) (v := 0) hx hb d_Blocks_isCertified_21 (by decide) ?_
      exact p_zret (v := (0 : Int32)) hy rfl hr d_Blocks_isCertified_22
    · have hr := (if_neg c4).symm.trans hr
      refine lv_iconst (pc := 17) (v := 1) hx hb d_Blocks_isCertified_17 (by decide) ?_
      refine lv_goto (pc := 18) (tgt := 22) hx hb d_Blocks_isCertified_18 (by decide) ?_
      exact p_zret (v := (1 : Int32)) hy rfl hr d_Blocks_isCertified_22
