theorem d_QC_transaction_0 : decode b_QC_transaction 0 = .ok (.iload_n 1, 1) := by decide +kernel
theorem d_QC_transaction_1 : decode b_QC_transaction 1 = .ok (.invokestatic 42, 3) := by decide +kernel
theorem d_QC_transaction_4 : decode b_QC_transaction 4 = .ok (.ifCond .eq 10, 3) := by decide +kernel
theorem d_QC_transaction_7 : decode b_QC_transaction 7 = .ok (.iload_n 2, 1) := by decide +kernel
theorem d_QC_transaction_8 : decode b_QC_transaction 8 = .ok (.invokestatic 42, 3) := by decide +kernel
theorem d_QC_transaction_11 : decode b_QC_transaction 11 = .ok (.ifCond .ne 13, 3) := by decide +kernel
theorem d_QC_transaction_14 : decode b_QC_transaction 14 = .ok (.new 46, 3) := by decide +kernel
theorem d_QC_transaction_17 : decode b_QC_transaction 17 = .ok (.dup, 1) := by decide +kernel
theorem d_QC_transaction_18 : decode b_QC_transaction 18 = .ok (.ldc 48, 2) := by decide +kernel
theorem d_QC_transaction_20 : decode b_QC_transaction 20 = .ok (.invokespecial 50, 3) := by decide +kernel
theorem d_QC_transaction_23 : decode b_QC_transaction 23 = .ok (.athrow, 1) := by decide +kernel
theorem d_QC_transaction_24 : decode b_QC_transaction 24 = .ok (.iload_n 3, 1) := by decide +kernel
theorem d_QC_transaction_25 : decode b_QC_transaction 25 = .ok (.ifCond .lt 23, 3) := by decide +kernel
theorem d_QC_transaction_28 : decode b_QC_transaction 28 = .ok (.iload_n 3, 1) := by decide +kernel
theorem d_QC_transaction_29 : decode b_QC_transaction 29 = .ok (.sipush 1000, 3) := by decide +kernel
theorem d_QC_transaction_32 : decode b_QC_transaction 32 = .ok (.if_icmp .gt 16, 3) := by decide +kernel
theorem d_QC_transaction_35 : decode b_QC_transaction 35 = .ok (.iload 4, 2) := by decide +kernel
theorem d_QC_transaction_37 : decode b_QC_transaction 37 = .ok (.ifCond .lt 11, 3) := by decide +kernel
theorem d_QC_transaction_40 : decode b_QC_transaction 40 = .ok (.iload 4, 2) := by decide +kernel
theorem d_QC_transaction_42 : decode b_QC_transaction 42 = .ok (.sipush 1000, 3) := by decide +kernel
theorem d_QC_transaction_45 : decode b_QC_transaction 45 = .ok (.if_icmp .le 13, 3) := by decide +kernel
theorem d_QC_transaction_48 : decode b_QC_transaction 48 = .ok (.new 46, 3) := by decide +kernel
theorem d_QC_transaction_51 : decode b_QC_transaction 51 = .ok (.dup, 1) := by decide +kernel
theorem d_QC_transaction_52 : decode b_QC_transaction 52 = .ok (.ldc 53, 2) := by decide +kernel
theorem d_QC_transaction_54 : decode b_QC_transaction 54 = .ok (.invokespecial 50, 3) := by decide +kernel
theorem d_QC_transaction_57 : decode b_QC_transaction 57 = .ok (.athrow, 1) := by decide +kernel
theorem d_QC_transaction_58 : decode b_QC_transaction 58 = .ok (.aload_n 0, 1) := by decide +kernel
theorem d_QC_transaction_59 : decode b_QC_transaction 59 = .ok (.getfield 25, 3) := by decide +kernel
theorem d_QC_transaction_62 : decode b_QC_transaction 62 = .ok (.getfield 55, 3) := by decide +kernel
theorem d_QC_transaction_65 : decode b_QC_transaction 65 = .ok (.bipush 40, 2) := by decide +kernel
theorem d_QC_transaction_67 : decode b_QC_transaction 67 = .ok (.if_icmp .lt 13, 3) := by decide +kernel
theorem d_QC_transaction_70 : decode b_QC_transaction 70 = .ok (.new 59, 3) := by decide +kernel
theorem d_QC_transaction_73 : decode b_QC_transaction 73 = .ok (.dup, 1) := by decide +kernel
theorem d_QC_transaction_74 : decode b_QC_transaction 74 = .ok (.ldc 61, 2) := by decide +kernel
theorem d_QC_transaction_76 : decode b_QC_transaction 76 = .ok (.invokespecial 63, 3) := by decide +kernel
theorem d_QC_transaction_79 : decode b_QC_transaction 79 = .ok (.athrow, 1) := by decide +kernel
theorem d_QC_transaction_80 : decode b_QC_transaction 80 = .ok (.aload_n 0, 1) := by decide +kernel
theorem d_QC_transaction_81 : decode b_QC_transaction 81 = .ok (.getfield 25, 3) := by decide +kernel
theorem d_QC_transaction_84 : decode b_QC_transaction 84 = .ok (.iload_n 1, 1) := by decide +kernel
theorem d_QC_transaction_85 : decode b_QC_transaction 85 = .ok (.iload_n 2, 1) := by decide +kernel
theorem d_QC_transaction_86 : decode b_QC_transaction 86 = .ok (.iload_n 3, 1) := by decide +kernel
theorem d_QC_transaction_87 : decode b_QC_transaction 87 = .ok (.iload 4, 2) := by decide +kernel
theorem d_QC_transaction_89 : decode b_QC_transaction 89 = .ok (.invokevirtual 64, 3) := by decide +kernel
theorem d_QC_transaction_92 : decode b_QC_transaction 92 = .ok (.ireturn, 1) := by decide +kernel
def f_QC_transaction (a1 : Int32) (a2 : Int32) (a3 : Int32) (a4 : Int32) (S : St) : Nat × Int32 × St :=
  lt (f_QC_isAccount a1 S) fun (r1 : Int32) =>
  if r1 = 0 then
    (1, (0 : Int32), S)
  else
    lt (f_QC_isAccount a2 S) fun (r3 : Int32) =>
    if r3 = 0 then
      (1, (0 : Int32), S)
    else
      if a3 < 0 then
        (1, (0 : Int32), S)
      else
        if (1000 : Int32) < a3 then
          (1, (0 : Int32), S)
        else
          if a4 < 0 then
            (1, (0 : Int32), S)
          else
            if a4 ≤ (1000 : Int32) then
              if (S.1 24 0 0 4) < (40 : Int32) then
                lt (f_Transactions_add a1 a2 a3 a4 S) fun (r11 : Int32 × St) =>
                (0, r11.1, r11.2)
              else
                (2, (0 : Int32), S)
            else
              (1, (0 : Int32), S)
def ok_QC_transaction (a1 : Int32) (a2 : Int32) (a3 : Int32) (a4 : Int32) (S : St) : Prop :=
  lt (f_QC_isAccount a1 S) fun (r1 : Int32) =>
  (r1 = 0 → (
    True)) ∧ (¬ (r1 = 0) → (
    lt (f_QC_isAccount a2 S) fun (r3 : Int32) =>
    (r3 = 0 → (
      True)) ∧ (¬ (r3 = 0) → (
      (a3 < 0 → (
        True)) ∧ (¬ (a3 < 0) → (
        ((1000 : Int32) < a3 → (
          True)) ∧ (¬ ((1000 : Int32) < a3) → (
          (a4 < 0 → (
            True)) ∧ (¬ (a4 < 0) → (
            (a4 ≤ (1000 : Int32) → (
              ((S.1 24 0 0 4) < (40 : Int32) → (
                (ok_Transactions_add a1 a2 a3 a4 S) ∧ (
                  True))) ∧ (¬ ((S.1 24 0 0 4) < (40 : Int32)) → (
                True)))) ∧ (¬ (a4 ≤ (1000 : Int32)) → (
              True))))))))))))
set_option maxHeartbeats 4000000 in
set_option maxRecDepth 100000 in
theorem c_QC_transaction (l : Launch) (htr : l.stackTraces = false) (D : va_G) (X : va_W) (ad : N3 → Nat) (ca : Nat → ClassId) (a1 : Int32) (a2 : Int32) (a3 : Int32) (a4 : Int32)  (S : St) (hk : ok_QC_transaction a1 a2 a3 a4 S) : cX l GG D clQ (tysQ ca) nwQ X ad TQ (cfQ ad ca) y_QC_transaction b_QC_transaction 5 .int 6 100 [.ref (ad (1, 0, 0)), .int a1, .int a2, .int a3, .int a4] S (f_QC_transaction a1 a2 a3 a4 S) := by
  generalize hr : f_QC_transaction a1 a2 a3 a4 S = res
  refine xI_of pn_QC (Nat.le_of_ble_eq_true rfl) (fun p e s m below meth c A ls hy hX hno hW hA hl => ?_)
  have hF := hy.1
  have hx := hF.1
  have hb := hF.2.1
  have hK := hy.2.2.2
  have hl : lv_has ls 5 [(0, .ref (ad (1, 0, 0))), (1, .int a1), (2, .int a2), (3, .int a3), (4, .int a4)] := hl
  refine lv_iload_n (pc := 0) hx hb d_QC_transaction_0 rfl (lv_at hl 1 rfl) ?_
  obtain ⟨r1, er1⟩ : ∃ z : Int32, z = f_QC_isAccount a1 S := ⟨_, rfl⟩
  have hk := lt_p er1 hk
  have hr := lt_e er1 hr
  refine p_go (pc := 1) (congrArg Value.int er1) (p_runS hF hK hW (c_QC_isAccount l D X ad ca a1 S _) cd_QC_isAccount gw_445 ⟨Nat.le_of_ble_eq_true rfl, Nat.le_of_ble_eq_true rfl⟩ ⟨Nat.zero_le _, Nat.zero_le _⟩ rfl rfl hl.1 (Nat.le_of_ble_eq_true rfl) d_QC_transaction_1) ?_
  refine lv_if_eq (pc := 4) (tgt := 14) hx hb d_QC_transaction_4 (by decide) (fun c2 => ?_) (fun c2 => ?_)
  · have hk := hk.1 c2
    have hr := (if_pos c2).symm.trans hr
    exact x_throw (pc := 14) (k := 1) (text := "no such account") (cls := xIA) htr hF hy.2.2.1 hX hno hl.1 (congrArg Prod.fst hr.symm) (by decide) rfl xfA xatA (by decide +kernel) gw_509 gw_510 gw_67 (Nat.le_of_ble_eq_true rfl) (Nat.le_of_ble_eq_true rfl) ⟨rfl, rfl⟩ d_QC_transaction_14 d_QC_transaction_17 d_QC_transaction_18 d_QC_transaction_20 d_QC_transaction_23
  · have hk := hk.2 c2
    have hr := (if_neg c2).symm.trans hr
    refine lv_iload_n (pc := 7) hx hb d_QC_transaction_7 rfl (lv_at hl 2 rfl) ?_
    obtain ⟨r3, er3⟩ : ∃ z : Int32, z = f_QC_isAccount a2 S := ⟨_, rfl⟩
    have hk := lt_p er3 hk
    have hr := lt_e er3 hr
    refine p_go (pc := 8) (congrArg Value.int er3) (p_runS hF hK hW (c_QC_isAccount l D X ad ca a2 S _) cd_QC_isAccount gw_445 ⟨Nat.le_of_ble_eq_true rfl, Nat.le_of_ble_eq_true rfl⟩ ⟨Nat.zero_le _, Nat.zero_le _⟩ rfl rfl hl.1 (Nat.le_of_ble_eq_true rfl) d_QC_transaction_8) ?_
    refine lv_if_ne (pc := 11) (tgt := 24) hx hb d_QC_transaction_11 (by decide) (fun c4 => ?_) (fun c4 => ?_)
    · have hk := hk.2 c4
      have hr := (if_neg c4).symm.trans hr
      refine lv_iload_n (pc := 24) hx hb d_QC_transaction_24 rfl (lv_at hl 3 rfl) ?_
      refine lv_if_lt (pc := 25) (tgt := 48) hx hb d_QC_transaction_25 (by decide) (fun c5 => ?_) (fun c5 => ?_)
      · have hk := hk.1 c5
        have hr := (if_pos c5).symm.trans hr
        exact x_throw (pc := 48) (k := 1) (text := "amount or nonce out of range") (cls := xIA) htr hF hy.2.2.1 hX hno hl.1 (congrArg Prod.fst hr.symm) (by decide) rfl xfA xatA (by decide +kernel) gw_509 gw_510 gw_67 (Nat.le_of_ble_eq_true rfl) (Nat.le_of_ble_eq_true rfl) ⟨rfl, rfl⟩ d_QC_transaction_48 d_QC_transaction_51 d_QC_transaction_52 d_QC_transaction_54 d_QC_transaction_57
      · have hk := hk.2 c5
        have hr := (if_neg c5).symm.trans hr
        refine lv_iload_n (pc := 28) hx hb d_QC_transaction_28 rfl (lv_at hl 3 rfl) ?_
        refine lv_sipush (pc := 29) (v := 1000) hx hb d_QC_transaction_29 (by decide) ?_
        refine lv_icmp_gt (pc := 32) (tgt := 48) hx hb d_QC_transaction_32 (by decide) (fun c6 => ?_) (fun c6 => ?_)
        · have hk := hk.1 c6
          have hr := (if_pos c6).symm.trans hr
          exact x_throw (pc := 48) (k := 1) (text := "amount or nonce out of range") (cls := xIA) htr hF hy.2.2.1 hX hno hl.1 (congrArg Prod.fst hr.symm) (by decide) rfl xfA xatA (by decide +kernel) gw_509 gw_510 gw_67 (Nat.le_of_ble_eq_true rfl) (Nat.le_of_ble_eq_true rfl) ⟨rfl, rfl⟩ d_QC_transaction_48 d_QC_transaction_51 d_QC_transaction_52 d_QC_transaction_54 d_QC_transaction_57
        · have hk := hk.2 c6
          have hr := (if_neg c6).symm.trans hr
          refine lv_iload (pc := 35) hx hb d_QC_transaction_35 (lv_at hl 4 rfl) ?_
          refine lv_if_lt (pc := 37) (tgt := 48) hx hb d_QC_transaction_37 (by decide) (fun c7 => ?_) (fun c7 => ?_)
          · have hk := hk.1 c7
            have hr := (if_pos c7).symm.trans hr
            exact x_throw (pc := 48) (k := 1) (text := "amount or nonce out of range") (cls := xIA) htr hF hy.2.2.1 hX hno hl.1 (congrArg Prod.fst hr.symm) (by decide) rfl xfA xatA (by decide +kernel) gw_509 gw_510 gw_67 (Nat.le_of_ble_eq_true rfl) (Nat.le_of_ble_eq_true rfl) ⟨rfl, rfl⟩ d_QC_transaction_48 d_QC_transaction_51 d_QC_transaction_52 d_QC_transaction_54 d_QC_transaction_57
          · have hk := hk.2 c7
            have hr := (if_neg c7).symm.trans hr
            refine lv_iload (pc := 40) hx hb d_QC_transaction_40 (lv_at hl 4 rfl) ?_
            refine lv_sipush (pc := 42) (v := 1000) hx hb d_QC_transaction_42 (by decide) ?_
            refine lv_icmp_le (pc := 45) (tgt := 58) hx hb d_QC_transaction_45 (by decide) (fun c8 => ?_) (fun c8 => ?_)
            · have hk := hk.1 c8
              have hr := (if_pos c8).symm.trans hr
              refine lv_aload_n (pc := 58) hx hb d_QC_transaction_58 rfl (lv_at hl 0 rfl) ?_
              refine z_get (pc := 59) (v := .ref (ad (24, 0, 0))) hF hK.1 hW tq1 rfl rfl in_QC 2 (by decide) gw_346 rfl rfl d_QC_transaction_59 ?_
              refine z_get (pc := 62) (v := .int (S.1 24 0 0 4)) hF hK.1 hW tq24 rfl rfl in_Transactions 4 (by decide) gw_118 rfl rfl d_QC_transaction_62 ?_
              refine lv_bipush (pc := 65) (v := 40) hx hb d_QC_transaction_65 (by decide) ?_
              refine lv_icmp_lt (pc := 67) (tgt := 80) hx hb d_QC_transaction_67 (by decide) (fun c9 => ?_) (fun c9 => ?_)
              · have hk := hk.1 c9
                have hr := (if_pos c9).symm.trans hr
                refine lv_aload_n (pc := 80) hx hb d_QC_transaction_80 rfl (lv_at hl 0 rfl) ?_
                refine z_get (pc := 81) (v := .ref (ad (24, 0, 0))) hF hK.1 hW tq1 rfl rfl in_QC 2 (by decide) gw_346 rfl rfl d_QC_transaction_81 ?_
                refine lv_iload_n (pc := 84) hx hb d_QC_transaction_84 rfl (lv_at hl 1 rfl) ?_
                refine lv_iload_n (pc := 85) hx hb d_QC_transaction_85 rfl (lv_at hl 2 rfl) ?_
                refine lv_iload_n (pc := 86) hx hb d_QC_transaction_86 rfl (lv_at hl 3 rfl) ?_
                refine lv_iload (pc := 87) hx hb d_QC_transaction_87 (lv_at hl 4 rfl) ?_
                have o10 := hk.1
                have hk := hk.2
                obtain ⟨r11, er11⟩ : ∃ z : Int32 × St, z = f_Transactions_add a1 a2 a3 a4 S := ⟨_, rfl⟩
                have hr := lt_e er11 hr
                refine z_goI (pc := 89) hW hA (show (r11.1, r11.2) = _ from er11) (z_runV hF hK hW (c_Transactions_add l D X ad ca a1 a2 a3 a4 S o10 _) cd_Transactions_add gw_593 tq24 rfl rfl ⟨Nat.le_of_ble_eq_true rfl, Nat.le_of_ble_eq_true rfl⟩ ⟨Nat.zero_le _, Nat.zero_le _⟩ rfl rfl hl.1 (Nat.le_of_ble_eq_true rfl) d_QC_transaction_89) (fun H locs (hW : Wd D clQ A s.heap (zw X ad TQ (cfQ ad ca) r11.2) H locs) => ?_)
                exact x_iret (v := r11.1) hy hW hr.symm d_QC_transaction_92
              · have hk := hk.2 c9
                have hr := (if_neg c9).symm.trans hr
                exact x_throw (pc := 70) (k := 2) (text := "no room for a transaction") (cls := xIS) htr hF hy.2.2.1 hX hno hl.1 (congrArg Prod.fst hr.symm) (by decide) rfl xfS xatS (by decide +kernel) gw_577 gw_578 gw_68 (Nat.le_of_ble_eq_true rfl) (Nat.le_of_ble_eq_true rfl) ⟨rfl, rfl⟩ d_QC_transaction_70 d_QC_transaction_73 d_QC_transaction_74 d_QC_transaction_76 d_QC_transaction_79
            · have hk := hk.2 c8
              have hr := (if_neg c8).symm.trans hr
              exact x_throw (pc := 48) (k := 1) (text := "amount or nonce out of range") (cls := xIA) htr hF hy.2.2.1 hX hno hl.1 (congrArg Prod.fst hr.symm) (by decide) rfl xfA xatA (by decide +kernel) gw_509 gw_510 gw_67 (Nat.le_of_ble_eq_true rfl) (Nat.le_of_ble_eq_true rfl) ⟨rfl, rfl⟩ d_QC_transaction_48 d_QC_transaction_51 d_QC_transaction_52 d_QC_transaction_54 d_QC_transaction_57
    · have hk := hk.1 c4
      have hr := (if_pos c4).symm.trans hr
      exact x_throw (pc := 14) (k := 1) (text := "no such account") (cls := xIA) htr hF hy.2.2.1 hX hno hl.1 (congrArg Prod.fst hr.symm) (by decide) rfl xfA xatA (by decide +kernel) gw_509 gw_510 gw_67 (Nat.le_of_ble_eq_true rfl) (Nat.le_of_ble_eq_true rfl) ⟨rfl, rfl⟩ d_QC_transaction_14 d_QC_transaction_17 d_QC_transaction_18 d_QC_transaction_20 d_QC_transaction_23
theorem d_QC_submit_0 : decode b_QC_submit 0 = .ok (.iload_n 1, 1) := by decide +kernel
theorem d_QC_submit_1 : decode b_QC_submit 1 = .ok (.invokestatic 68, 3) := by decide +kernel
theorem d_QC_submit_4 : decode b_QC_submit 4 = .ok (.ifCond .eq 14, 3) := by decide +kernel
theorem d_QC_submit_7 : decode b_QC_submit 7 = .ok (.aload_n 0, 1) := by decide +kernel
theorem d_QC_submit_8 : decode b_QC_submit 8 = .ok (.getfield 25, 3) := by decide +kernel
theorem d_QC_submit_11 : decode b_QC_submit 11 = .ok (.iload_n 2, 1) := by decide +kernel
theorem d_QC_submit_12 : decode b_QC_submit 12 = .ok (.invokevirtual 71, 3) := by decide +kernel
theorem d_QC_submit_15 : decode b_QC_submit 15 = .ok (.ifCond .ne 13, 3) := by decide +kernel
theorem d_QC_submit_18 : decode b_QC_submit 18 = .ok (.new 46, 3) := by decide +kernel
theorem d_QC_submit_21 : decode b_QC_submit 21 = .ok (.dup, 1) := by decide +kernel
theorem d_QC_submit_22 : decode b_QC_submit 22 = .ok (.ldc 74, 2) := by decide +kernel
theorem d_QC_submit_24 : decode b_QC_submit 24 = .ok (.invokespecial 50, 3) := by decide +kernel
theorem d_QC_submit_27 : decode b_QC_submit 27 = .ok (.athrow, 1) := by decide +kernel
theorem d_QC_submit_28 : decode b_QC_submit 28 = .ok (.aload_n 0, 1) := by decide +kernel
theorem d_QC_submit_29 : decode b_QC_submit 29 = .ok (.getfield 11, 3) := by decide +kernel
theorem d_QC_submit_32 : decode b_QC_submit 32 = .ok (.iload_n 1, 1) := by decide +kernel
theorem d_QC_submit_33 : decode b_QC_submit 33 = .ok (.aaload, 1) := by decide +kernel
theorem d_QC_submit_34 : decode b_QC_submit 34 = .ok (.getfield 76, 3) := by decide +kernel
theorem d_QC_submit_37 : decode b_QC_submit 37 = .ok (.ifCond .ne 13, 3) := by decide +kernel
theorem d_QC_submit_40 : decode b_QC_submit 40 = .ok (.new 59, 3) := by decide +kernel
theorem d_QC_submit_43 : decode b_QC_submit 43 = .ok (.dup, 1) := by decide +kernel
theorem d_QC_submit_44 : decode b_QC_submit 44 = .ok (.ldc 80, 2) := by decide +kernel
theorem d_QC_submit_46 : decode b_QC_submit 46 = .ok (.invokespecial 63, 3) := by decide +kernel
theorem d_QC_submit_49 : decode b_QC_submit 49 = .ok (.athrow, 1) := by decide +kernel
theorem d_QC_submit_50 : decode b_QC_submit 50 = .ok (.aload_n 0, 1) := by decide +kernel
theorem d_QC_submit_51 : decode b_QC_submit 51 = .ok (.getfield 11, 3) := by decide +kernel
theorem d_QC_submit_54 : decode b_QC_submit 54 = .ok (.iload_n 1, 1) := by decide +kernel
theorem d_QC_submit_55 : decode b_QC_submit 55 = .ok (.aaload, 1) := by decide +kernel
theorem d_QC_submit_56 : decode b_QC_submit 56 = .ok (.iload_n 2, 1) := by decide +kernel
theorem d_QC_submit_57 : decode b_QC_submit 57 = .ok (.invokevirtual 82, 3) := by decide +kernel
theorem d_QC_submit_60 : decode b_QC_submit 60 = .ok (.ireturn, 1) := by decide +kernel
def f_QC_submit (a1 : Int32) (a2 : Int32) (S : St) : Nat × Int32 × St :=
  lt (f_QC_isNode a1 S) fun (r1 : Int32) =>
  if r1 = 0 then
    (1, (0 : Int32), S)
  else
    lt (f_Transactions_exists a2 S) fun (r3 : Int32) =>
    if r3 = 0 then
      (1, (0 : Int32), S)
    else
      if (S.1 3 (a1.toNatClampNeg) 0 7) = 0 then
        (2, (0 : Int32), S)
      else
        lt (f_Node_addToPool (a1.toNatClampNeg) a2 S) fun (r9 : Int32 × St) =>
        (0, r9.1, r9.2)
def ok_QC_submit (a1 : Int32) (a2 : Int32) (S : St) : Prop :=
  lt (f_QC_isNode a1 S) fun (r1 : Int32) =>
  (r1 = 0 → (
    True)) ∧ (¬ (r1 = 0) → (
    lt (f_Transactions_exists a2 S) fun (r3 : Int32) =>
    (r3 = 0 → (
      True)) ∧ (¬ (r3 = 0) → (
      (vp_in a1 4) ∧ (
        ((S.1 3 (a1.toNatClampNeg) 0 7) = 0 → (
          True)) ∧ (¬ ((S.1 3 (a1.toNatClampNeg) 0 7) = 0) → (
          (vp_in a1 4) ∧ (
            (ok_Node_addToPool (a1.toNatClampNeg) a2 S) ∧ (
              lt (f_Node_addToPool (a1.toNatClampNeg) a2 S) fun (r9 : Int32 × St) =>
              (narrow .boolean (.int r9.1) = .int r9.1) ∧ (
                True))))))))))
set_option maxHeartbeats 4000000 in
set_option maxRecDepth 100000 in
theorem c_QC_submit (l : Launch) (htr : l.stackTraces = false) (D : va_G) (X : va_W) (ad : N3 → Nat) (ca : Nat → ClassId) (a1 : Int32) (a2 : Int32)  (S : St) (hk : ok_QC_submit a1 a2 S) : cX l GG D clQ (tysQ ca) nwQ X ad TQ (cfQ ad ca) y_QC_submit b_QC_submit 3 .boolean 6 100 [.ref (ad (1, 0, 0)), .int a1, .int a2] S (f_QC_submit a1 a2 S) := by
  generalize hr : f_QC_submit a1 a2 S = res
  refine xI_of pn_QC (Nat.le_of_ble_eq_true rfl) (fun p e s m below meth c A ls hy hX hno hW hA hl => ?_)
  have hF := hy.1
  have hx := hF.1
  have hb := hF.2.1
  have hK := hy.2.2.2
  have hl : lv_has ls 3 [(0, .ref (ad (1, 0, 0))), (1, .int a1), (2, .int a2)] := hl
  refine lv_iload_n (pc := 0) hx hb d_QC_submit_0 rfl (lv_at hl 1 rfl) ?_
  obtain ⟨r1, er1⟩ : ∃ z : Int32, z = f_QC_isNode a1 S := ⟨_, rfl⟩
  have hk := lt_p er1 hk
  have hr := lt_e er1 hr
  refine p_go (pc := 1) (congrArg Value.int er1) (p_runS hF hK hW (c_QC_isNode l D X ad ca a1 S _) cd_QC_isNode gw_430 ⟨Nat.le_of_ble_eq_true rfl, Nat.le_of_ble_eq_true rfl⟩ ⟨Nat.zero_le _, Nat.zero_le _⟩ rfl rfl hl.1 (Nat.le_of_ble_eq_true rfl) d_QC_submit_1) ?_
  refine lv_if_eq (pc := 4) (tgt := 18) hx hb d_QC_submit_4 (by decide) (fun c2 => ?_) (fun c2 => ?_)
  · have hk := hk.1 c2
    have hr := (if_pos c2).symm.trans hr
    exact x_throw (pc := 18) (k := 1) (text := "no such node or transaction") (cls := xIA) htr hF hy.2.2.1 hX hno hl.1 (congrArg Prod.fst hr.symm) (by decide) rfl xfA xatA (by decide +kernel) gw_509 gw_510 gw_67 (Nat.le_of_ble_eq_true rfl) (Nat.le_of_ble_eq_true rfl) ⟨rfl, rfl⟩ d_QC_submit_18 d_QC_submit_21 d_QC_submit_22 d_QC_submit_24 d_QC_submit_27
  · have hk := hk.2 c2
    have hr := (if_neg c2).symm.trans hr
    refine lv_aload_n (pc := 7) hx hb d_QC_submit_7 rfl (lv_at hl 0 rfl) ?_
    refine z_get (pc := 8) (v := .ref (ad (24, 0, 0))) hF hK.1 hW tq1 rfl rfl in_QC 2 (by decide) gw_346 rfl rfl d_QC_submit_8 ?_
    refine lv_iload_n (pc := 11) hx hb d_QC_submit_11 rfl (lv_at hl 2 rfl) ?_
    obtain ⟨r3, er3⟩ : ∃ z : Int32, z = f_Transactions_exists a2 S := ⟨_, rfl⟩
    have hk := lt_p er3 hk
    have hr := lt_e er3 hr
    refine p_go (pc := 12) (congrArg Value.int er3) (p_runV hF hK hW (c_Transactions_exists l D X ad ca a2 S _) cd_Transactions_exists gw_604 tq24 rfl rfl ⟨Nat.le_of_ble_eq_true rfl, Nat.le_of_ble_eq_true rfl⟩ ⟨Nat.zero_le _, Nat.zero_le _⟩ rfl rfl hl.1 (Nat.le_of_ble_eq_true rfl) d_QC_submit_12) ?_
    refine lv_if_ne (pc := 15) (tgt := 28) hx hb d_QC_submit_15 (by decide) (fun c4 => ?_) (fun c4 => ?_)
    · have hk := hk.2 c4
      have hr := (if_neg c4).symm.trans hr
      refine lv_aload_n (pc := 28) hx hb d_QC_submit_28 rfl (lv_at hl 0 rfl) ?_
      refine z_get (pc := 29) (v := .ref (ad (2, 0, 0))) hF hK.1 hW tq1 rfl rfl in_QC 0 (by decide) gw_344 rfl rfl d_QC_submit_29 ?_
      refine lv_iload_n (pc := 32) hx hb d_QC_submit_32 rfl (lv_at hl 1 rfl) ?_
      have b5 := hk.1
      have hk := hk.2
      refine z_aald (pc := 33) (q := ad (3, (a1.toNatClampNeg), 0)) hF hK.1 hW tq2 3 rfl rfl b5 rfl d_QC_submit_33 ?_
      refine z_get (pc := 34) (v := .int (S.1 3 (a1.toNatClampNeg) 0 7)) hF hK.1 hW (tq3 (vin4 b5)) rfl rfl in_Node 7 (by decide) gw_310 rfl rfl d_QC_submit_34 ?_
      refine lv_if_ne (pc := 37) (tgt := 50) hx hb d_QC_submit_37 (by decide) (fun c6 => ?_) (fun c6 => ?_)
      · have hk := hk.2 c6
        have hr := (if_neg c6).symm.trans hr
        refine lv_aload_n (pc := 50) hx hb d_QC_submit_50 rfl (lv_at hl 0 rfl) ?_
        refine z_get (pc := 51) (v := .ref (ad (2, 0, 0))) hF hK.1 hW tq1 rfl rfl in_QC 0 (by decide) gw_344 rfl rfl d_QC_submit_51 ?_
        refine lv_iload_n (pc := 54) hx hb d_QC_submit_54 rfl (lv_at hl 1 rfl) ?_
        have b7 := hk.1
        have hk := hk.2
        refine z_aald (pc := 55) (q := ad (3, (a1.toNatClampNeg), 0)) hF hK.1 hW tq2 3 rfl rfl b7 rfl d_QC_submit_55 ?_
        refine lv_iload_n (pc := 56) hx hb d_QC_submit_56 rfl (lv_at hl 2 rfl) ?_
        have o8 := hk.1
        have hk := hk.2
        obtain ⟨r9, er9⟩ : ∃ z : Int32 × St, z = f_Node_addToPool (a1.toNatClampNeg) a2 S := ⟨_, rfl⟩
        have hk := lt_p er9 hk
        have hr := lt_e er9 hr
        refine z_goI (pc := 57) hW hA (show (r9.1, r9.2) = _ from er9) (z_runV hF hK hW (c_Node_addToPool l D X ad ca (a1.toNatClampNeg) a2 (vin4 b7) S o8 _) cd_Node_addToPool gw_610 (tq3 (vin4 b7)) rfl rfl ⟨Nat.le_of_ble_eq_true rfl, Nat.le_of_ble_eq_true rfl⟩ ⟨Nat.zero_le _, Nat.zero_le _⟩ rfl rfl hl.1 (Nat.le_of_ble_eq_true rfl) d_QC_submit_57) (fun H locs (hW : Wd D clQ A s.heap (zw X ad TQ (cfQ ad ca) r9.2) H locs) => ?_)
        exact x_zret (v := r9.1) hy hW hk.1 hr.symm d_QC_submit_60
      · have hk := hk.1 c6
        have hr := (if_pos c6).symm.trans hr
        exact x_throw (pc := 40) (k := 2) (text := "the node is down") (cls := xIS) htr hF hy.2.2.1 hX hno hl.1 (congrArg Prod.fst hr.symm) (by decide) rfl xfS xatS (by decide +kernel) gw_577 gw_578 gw_68 (Nat.le_of_ble_eq_true rfl) (Nat.le_of_ble_eq_true rfl) ⟨rfl, rfl⟩ d_QC_submit_40 d_QC_submit_43 d_QC_submit_44 d_QC_submit_46 d_QC_submit_49
    · have hk := hk.1 c4
      have hr := (if_pos c4).symm.trans hr
      exact x_throw (pc := 18) (k := 1) (text := "no such node or transaction") (cls := xIA) htr hF hy.2.2.1 hX hno hl.1 (congrArg Prod.fst hr.symm) (by decide) rfl xfA xatA (by decide +kernel) gw_509 gw_510 gw_67 (Nat.le_of_ble_eq_true rfl) (Nat.le_of_ble_eq_true rfl) ⟨rfl, rfl⟩ d_QC_submit_18 d_QC_submit_21 d_QC_submit_22 d_QC_submit_24 d_QC_submit_27
theorem d_QC_begin_0 : decode b_QC_begin 0 = .ok (.aload_n 0, 1) := by decide +kernel
theorem d_QC_begin_1 : decode b_QC_begin 1 = .ok (.getfield 11, 3) := by decide +kernel
theorem d_QC_begin_4 : decode b_QC_begin 4 = .ok (.iconst 0, 1) := by decide +kernel
theorem d_QC_begin_5 : decode b_QC_begin 5 = .ok (.aaload, 1) := by decide +kernel
theorem d_QC_begin_6 : decode b_QC_begin 6 = .ok (.astore_n 1, 1) := by decide +kernel
theorem d_QC_begin_7 : decode b_QC_begin 7 = .ok (.aload_n 0, 1) := by decide +kernel
theorem d_QC_begin_8 : decode b_QC_begin 8 = .ok (.getfield 85, 3) := by decide +kernel
theorem d_QC_begin_11 : decode b_QC_begin 11 = .ok (.ifCond .ne 18, 3) := by decide +kernel
theorem d_QC_begin_14 : decode b_QC_begin 14 = .ok (.aload_n 1, 1) := by decide +kernel
theorem d_QC_begin_15 : decode b_QC_begin 15 = .ok (.getfield 76, 3) := by decide +kernel
theorem d_QC_begin_18 : decode b_QC_begin 18 = .ok (.ifCond .eq 11, 3) := by decide +kernel
theorem d_QC_begin_21 : decode b_QC_begin 21 = .ok (.aload_n 1, 1) := by decide +kernel
theorem d_QC_begin_22 : decode b_QC_begin 22 = .ok (.getfield 88, 3) := by decide +kernel
theorem d_QC_begin_25 : decode b_QC_begin 25 = .ok (.iconst 1, 1) := by decide +kernel
theorem d_QC_begin_26 : decode b_QC_begin 26 = .ok (.if_icmp .eq 13, 3) := by decide +kernel
theorem d_QC_begin_29 : decode b_QC_begin 29 = .ok (.new 59, 3) := by decide +kernel
theorem d_QC_begin_32 : decode b_QC_begin 32 = .ok (.dup, 1) := by decide +kernel
theorem d_QC_begin_33 : decode b_QC_begin 33 = .ok (.ldc 91, 2) := by decide +kernel
theorem d_QC_begin_35 : decode b_QC_begin 35 = .ok (.invokespecial 63, 3) := by decide +kernel
theorem d_QC_begin_38 : decode b_QC_begin 38 = .ok (.athrow, 1) := by decide +kernel
theorem d_QC_begin_39 : decode b_QC_begin 39 = .ok (.aload_n 0, 1) := by decide +kernel
theorem d_QC_begin_40 : decode b_QC_begin 40 = .ok (.iconst 1, 1) := by decide +kernel
theorem d_QC_begin_41 : decode b_QC_begin 41 = .ok (.putfield 85, 3) := by decide +kernel
theorem d_QC_begin_44 : decode b_QC_begin 44 = .ok (.aload_n 0, 1) := by decide +kernel
theorem d_QC_begin_45 : decode b_QC_begin 45 = .ok (.aload_n 1, 1) := by decide +kernel
theorem d_QC_begin_46 : decode b_QC_begin 46 = .ok (.invokevirtual 93, 3) := by decide +kernel
theorem d_QC_begin_49 : decode b_QC_begin 49 = .ok (.iconst 1, 1) := by decide +kernel
theorem d_QC_begin_50 : decode b_QC_begin 50 = .ok (.ireturn, 1) := by decide +kernel
def f_QC_begin  (S : St) : Nat × Int32 × St :=
  if (S.1 1 0 0 6) = 0 then
    if (S.1 3 0 0 7) = 0 then
      (2, (0 : Int32), S)
    else
      if (S.1 3 0 0 8) = (1 : Int32) then
        lt (si S 1 0 0 6 (1 : Int32)) fun (S5 : St) =>
        lt (f_QC_propose 0 S5) fun (S8 : St) =>
        (0, (1 : Int32), S8)
      else
        (2, (0 : Int32), S)
  else
    (2, (0 : Int32), S)
def ok_QC_begin  (S : St) : Prop :=
  ((S.1 1 0 0 6) = 0 → (
    ((S.1 3 0 0 7) = 0 → (
      True)) ∧ (¬ ((S.1 3 0 0 7) = 0) → (
      ((S.1 3 0 0 8) = (1 : Int32) → (
        lt (si S 1 0 0 6 (1 : Int32)) fun (S5 : St) =>
        (ok_QC_propose 0 S5) ∧ (
          True))) ∧ (¬ ((S.1 3 0 0 8) = (1 : Int32)) → (
        True)))))) ∧ (¬ ((S.1 1 0 0 6) = 0) → (
    True))
set_option maxHeartbeats 4000000 in
set_option maxRecDepth 100000 in
theorem c_QC_begin (l : Launch) (htr : l.stackTraces = false) (D : va_G) (X : va_W) (ad : N3 → Nat) (ca : Nat → ClassId)   (S : St) (hk : ok_QC_begin S) : cX l GG D clQ (tysQ ca) nwQ X ad TQ (cfQ ad ca) y_QC_begin b_QC_begin 2 .boolean 6 165 [.ref (ad (1, 0, 0))] S (f_QC_begin S) := by
  generalize hr : f_QC_begin S = res
  refine xI_of pn_QC (Nat.le_of_ble_eq_true rfl) (fun p e s m below meth c A ls hy hX hno hW hA hl => ?_)
  have hF := hy.1
  have hx := hF.1
  have hb := hF.2.1
  have hK := hy.2.2.2
  have hl : lv_has ls 2 [(0, .ref (ad (1, 0, 0)))] := hl
  refine lv_aload_n (pc := 0) hx hb d_QC_begin_0 rfl (lv_at hl 0 rfl) ?_
  refine z_get (pc := 1) (v := .ref (ad (2, 0, 0))) hF hK.1 hW tq1 rfl rfl in_QC 0 (by decide) gw_344 rfl rfl d_QC_begin_1 ?_
  refine lv_iconst (pc := 4) (v := 0) hx hb d_QC_begin_4 (by decide) ?_
  have b1 : vp_in (0 : Int32) 4 := by unfold vp_in; decide
  refine z_aald (pc := 5) (q := ad (3, 0, 0)) hF hK.1 hW tq2 3 rfl rfl b1 rfl d_QC_begin_5 ?_
  refine lv_astore_n (pc := 6) (lv' := [(1, .ref (ad (3, 0, 0))), (0, .ref (ad (1, 0, 0)))]) hx hb d_QC_begin_6 rfl hl (by decide) rfl (fun ls hl => ?_)
  refine lv_aload_n (pc := 7) hx hb d_QC_begin_7 rfl (lv_at hl 1 rfl) ?_
  refine z_get (pc := 8) (v := .int (S.1 1 0 0 6)) hF hK.1 hW tq1 rfl rfl in_QC 6 (by decide) gw_350 rfl rfl d_QC_begin_8 ?_
  refine lv_if_ne (pc := 11) (tgt := 29) hx hb d_QC_begin_11 (by decide) (fun c2 => ?_) (fun c2 => ?_)
  · have hk := hk.2 c2
    have hr := (if_neg c2).symm.trans hr
    exact x_throw (pc := 29) (k := 2) (text := "node 0 can not begin") (cls := xIS) htr hF hy.2.2.1 hX hno hl.1 (congrArg Prod.fst hr.symm) (by decide) rfl xfS xatS (by decide +kernel) gw_577 gw_578 gw_68 (Nat.le_of_ble_eq_true rfl) (Nat.le_of_ble_eq_true rfl) ⟨rfl, rfl⟩ d_QC_begin_29 d_QC_begin_32 d_QC_begin_33 d_QC_begin_35 d_QC_begin_38
  · have hk := hk.1 c2
    have hr := (if_pos c2).symm.trans hr
    refine lv_aload_n (pc := 14) hx hb d_QC_begin_14 rfl (lv_at hl 0 rfl) ?_
    refine z_get (pc := 15) (v := .int (S.1 3 0 0 7)) hF hK.1 hW (tq3 (vin4 b1)) rfl rfl in_Node 7 (by decide) gw_310 rfl rfl d_QC_begin_15 ?_
    refine lv_if_eq (pc := 18) (tgt := 29) hx hb d_QC_begin_18 (by decide) (fun c3 => ?_) (fun c3 => ?_)
    · have hk := hk.1 c3
      have hr := (if_pos c3).symm.trans hr
      exact x_throw (pc := 29) (k := 2) (text := "node 0 can not begin") (cls := xIS) htr hF hy.2.2.1 hX hno hl.1 (congrArg Prod.fst hr.symm) (by decide) rfl xfS xatS (by decide +kernel) gw_577 gw_578 gw_68 (Nat.le_of_ble_eq_true rfl) (Nat.le_of_ble_eq_true rfl) ⟨rfl, rfl⟩ d_QC_begin_29 d_QC_begin_32 d_QC_begin_33 d_QC_begin_35 d_QC_begin_38
    · have hk := hk.2 c3
      have hr := (if_neg c3).symm.trans hr
      refine lv_aload_n (pc := 21) hx hb d_QC_begin_21 rfl (lv_at hl 0 rfl) ?_
      refine z_get (pc := 22) (v := .int (S.1 3 0 0 8)) hF hK.1 hW (tq3 (vin4 b1)) rfl rfl in_Node 8 (by decide) gw_312 rfl rfl d_QC_begin_22 ?_
      refine lv_iconst (pc := 25) (v := 1) hx hb d_QC_begin_25 (by decide) ?_
      refine lv_icmp_eq (pc := 26) (tgt := 39) hx hb d_QC_begin_26 (by decide) (fun c4 => ?_) (fun c4 => ?_)
      · have hk := hk.1 c4
        have hr := (if_pos c4).symm.trans hr
        refine lv_aload_n (pc := 39) hx hb d_QC_begin_39 rfl (lv_at hl 1 rfl) ?_
        refine lv_iconst (pc := 40) (v := 1) hx hb d_QC_begin_40 (by decide) ?_
        obtain ⟨S5, eS5⟩ : ∃ z : St, z = si S 1 0 0 6 (1 : Int32) := ⟨_, rfl⟩
        have hk := lt_p eS5 hk
        have hr := lt_e eS5 hr
        refine z_put (pc := 41) (S' := S5) hF hK.1 hW tq1 rfl rfl in_QC t_QC tyo_QC nmo_QC 6 (by decide) gw_350 rfl rfl rfl rfl rfl (Nat.le_of_ble_eq_true rfl) (zs_si eS5 rfl) (zs_sio eS5) d_QC_begin_41 (fun H locs (hW : Wd D clQ A s.heap (zw X ad TQ (cfQ ad ca) S5) H locs) => ?_)
        refine lv_aload_n (pc := 44) hx hb d_QC_begin_44 rfl (lv_at hl 1 rfl) ?_
        refine lv_aload_n (pc := 45) hx hb d_QC_begin_45 rfl (lv_at hl 0 rfl) ?_
        have o6 := hk.1
        have hk := hk.2
        obtain ⟨S8, eS8⟩ : ∃ z : St, z = f_QC_propose 0 S5 := ⟨_, rfl⟩
        have hr := lt_e eS8 hr
        refine z_goV (pc := 46) hW hA eS8 (z_runV hF hK hW (c_QC_propose l D X ad ca 0 (vin4 b1) S5 o6 _) cd_QC_propose gw_622 tq1 rfl rfl ⟨Nat.le_of_ble_eq_true rfl, Nat.le_of_ble_eq_true rfl⟩ ⟨Nat.zero_le _, Nat.zero_le _⟩ rfl rfl hl.1 (Nat.le_of_ble_eq_true rfl) d_QC_begin_46) (fun H locs (hW : Wd D clQ A s.heap (zw X ad TQ (cfQ ad ca) S8) H locs) => ?_)
        refine lv_iconst (pc := 49) (v := 1) hx hb d_QC_begin_49 (by decide) ?_
        exact x_zret (v := (1 : Int32)) hy hW rfl hr.symm d_QC_begin_50
      · have hk := hk.2 c4
        have hr := (if_neg c4).symm.trans hr
        exact x_throw (pc := 29) (k := 2) (text := "node 0 can not begin") (cls := xIS) htr hF hy.2.2.1 hX hno hl.1 (congrArg Prod.fst hr.symm) (by decide) rfl xfS xatS (by decide +kernel) gw_577 gw_578 gw_68 (Nat.le_of_ble_eq_true rfl) (Nat.le_of_ble_eq_true rfl) ⟨rfl, rfl⟩ d_QC_begin_29 d_QC_begin_32 d_QC_begin_33 d_QC_begin_35 d_QC_begin_38
