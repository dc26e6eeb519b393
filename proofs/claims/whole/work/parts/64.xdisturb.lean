theorem d_QC_disturb_0 : decode b_QC_disturb 0 = .ok (.iload_n 1, 1) := by decide +kernel
theorem d_QC_disturb_1 : decode b_QC_disturb 1 = .ok (.invokestatic 68, 3) := by decide +kernel
theorem d_QC_disturb_4 : decode b_QC_disturb 4 = .ok (.ifCond .eq 12, 3) := by decide +kernel
theorem d_QC_disturb_7 : decode b_QC_disturb 7 = .ok (.iload_n 2, 1) := by decide +kernel
theorem d_QC_disturb_8 : decode b_QC_disturb 8 = .ok (.ifCond .lt 8, 3) := by decide +kernel
theorem d_QC_disturb_11 : decode b_QC_disturb 11 = .ok (.iload_n 2, 1) := by decide +kernel
theorem d_QC_disturb_12 : decode b_QC_disturb 12 = .ok (.iconst 2, 1) := by decide +kernel
theorem d_QC_disturb_13 : decode b_QC_disturb 13 = .ok (.if_icmp .le 13, 3) := by decide +kernel
theorem d_QC_disturb_16 : decode b_QC_disturb 16 = .ok (.new 46, 3) := by decide +kernel
theorem d_QC_disturb_19 : decode b_QC_disturb 19 = .ok (.dup, 1) := by decide +kernel
theorem d_QC_disturb_20 : decode b_QC_disturb 20 = .ok (.ldc 150, 2) := by decide +kernel
theorem d_QC_disturb_22 : decode b_QC_disturb 22 = .ok (.invokespecial 50, 3) := by decide +kernel
theorem d_QC_disturb_25 : decode b_QC_disturb 25 = .ok (.athrow, 1) := by decide +kernel
theorem d_QC_disturb_26 : decode b_QC_disturb 26 = .ok (.aload_n 0, 1) := by decide +kernel
theorem d_QC_disturb_27 : decode b_QC_disturb 27 = .ok (.getfield 11, 3) := by decide +kernel
theorem d_QC_disturb_30 : decode b_QC_disturb 30 = .ok (.iload_n 1, 1) := by decide +kernel
theorem d_QC_disturb_31 : decode b_QC_disturb 31 = .ok (.aaload, 1) := by decide +kernel
theorem d_QC_disturb_32 : decode b_QC_disturb 32 = .ok (.getfield 99, 3) := by decide +kernel
theorem d_QC_disturb_35 : decode b_QC_disturb 35 = .ok (.astore_n 3, 1) := by decide +kernel
theorem d_QC_disturb_36 : decode b_QC_disturb 36 = .ok (.aload_n 3, 1) := by decide +kernel
theorem d_QC_disturb_37 : decode b_QC_disturb 37 = .ok (.getfield 103, 3) := by decide +kernel
theorem d_QC_disturb_40 : decode b_QC_disturb 40 = .ok (.ifCond .eq 17, 3) := by decide +kernel
theorem d_QC_disturb_43 : decode b_QC_disturb 43 = .ok (.iload_n 2, 1) := by decide +kernel
theorem d_QC_disturb_44 : decode b_QC_disturb 44 = .ok (.iconst 2, 1) := by decide +kernel
theorem d_QC_disturb_45 : decode b_QC_disturb 45 = .ok (.if_icmp .ne 22, 3) := by decide +kernel
theorem d_QC_disturb_48 : decode b_QC_disturb 48 = .ok (.aload_n 3, 1) := by decide +kernel
theorem d_QC_disturb_49 : decode b_QC_disturb 49 = .ok (.getfield 103, 3) := by decide +kernel
theorem d_QC_disturb_52 : decode b_QC_disturb 52 = .ok (.bipush 16, 2) := by decide +kernel
theorem d_QC_disturb_54 : decode b_QC_disturb 54 = .ok (.if_icmp .lt 13, 3) := by decide +kernel
theorem d_QC_disturb_57 : decode b_QC_disturb 57 = .ok (.new 59, 3) := by decide +kernel
theorem d_QC_disturb_60 : decode b_QC_disturb 60 = .ok (.dup, 1) := by decide +kernel
theorem d_QC_disturb_61 : decode b_QC_disturb 61 = .ok (.ldc 152, 2) := by decide +kernel
theorem d_QC_disturb_63 : decode b_QC_disturb 63 = .ok (.invokespecial 63, 3) := by decide +kernel
theorem d_QC_disturb_66 : decode b_QC_disturb 66 = .ok (.athrow, 1) := by decide +kernel
theorem d_QC_disturb_67 : decode b_QC_disturb 67 = .ok (.iload_n 2, 1) := by decide +kernel
theorem d_QC_disturb_68 : decode b_QC_disturb 68 = .ok (.ifCond .ne 10, 3) := by decide +kernel
theorem d_QC_disturb_71 : decode b_QC_disturb 71 = .ok (.aload_n 3, 1) := by decide +kernel
theorem d_QC_disturb_72 : decode b_QC_disturb 72 = .ok (.invokevirtual 116, 3) := by decide +kernel
theorem d_QC_disturb_75 : decode b_QC_disturb 75 = .ok (.goto 23, 3) := by decide +kernel
theorem d_QC_disturb_78 : decode b_QC_disturb 78 = .ok (.iload_n 2, 1) := by decide +kernel
theorem d_QC_disturb_79 : decode b_QC_disturb 79 = .ok (.iconst 1, 1) := by decide +kernel
theorem d_QC_disturb_80 : decode b_QC_disturb 80 = .ok (.if_icmp .ne 10, 3) := by decide +kernel
theorem d_QC_disturb_83 : decode b_QC_disturb 83 = .ok (.aload_n 3, 1) := by decide +kernel
theorem d_QC_disturb_84 : decode b_QC_disturb 84 = .ok (.invokevirtual 154, 3) := by decide +kernel
theorem d_QC_disturb_87 : decode b_QC_disturb 87 = .ok (.goto 11, 3) := by decide +kernel
theorem d_QC_disturb_90 : decode b_QC_disturb 90 = .ok (.aload_n 3, 1) := by decide +kernel
theorem d_QC_disturb_91 : decode b_QC_disturb 91 = .ok (.aload_n 3, 1) := by decide +kernel
theorem d_QC_disturb_92 : decode b_QC_disturb 92 = .ok (.invokevirtual 108, 3) := by decide +kernel
theorem d_QC_disturb_95 : decode b_QC_disturb 95 = .ok (.invokevirtual 157, 3) := by decide +kernel
theorem d_QC_disturb_98 : decode b_QC_disturb 98 = .ok (.iconst 1, 1) := by decide +kernel
theorem d_QC_disturb_99 : decode b_QC_disturb 99 = .ok (.ireturn, 1) := by decide +kernel
def f_QC_disturb (a1 : Int32) (a2 : Int32) (S : St) : Nat × Int32 × St :=
  lt (f_QC_isNode a1 S) fun (r1 : Int32) =>
  if r1 = 0 then
    (1, (0 : Int32), S)
  else
    if a2 < 0 then
      (1, (0 : Int32), S)
    else
      if a2 ≤ (2 : Int32) then
        if (S.1 12 (a1.toNatClampNeg) 0 1) = 0 then
          (2, (0 : Int32), S)
        else
          if a2 = (2 : Int32) then
            if (S.1 12 (a1.toNatClampNeg) 0 1) < (16 : Int32) then
              if a2 = 0 then
                lt (f_Inbox_dropFirst (a1.toNatClampNeg) S) fun (S36 : St) =>
                (0, (1 : Int32), S36)
              else
                if a2 = (1 : Int32) then
                  lt (f_Inbox_moveFirstBehind (a1.toNatClampNeg) S) fun (S33 : St) =>
                  (0, (1 : Int32), S33)
                else
                  lt (f_Inbox_first (a1.toNatClampNeg) S) fun (r26 : Nat) =>
                  lt (f_Inbox_add (a1.toNatClampNeg) (a1.toNatClampNeg) r26 S) fun (S30 : St) =>
                  (0, (1 : Int32), S30)
            else
              (2, (0 : Int32), S)
          else
            if a2 = 0 then
              lt (f_Inbox_dropFirst (a1.toNatClampNeg) S) fun (S21 : St) =>
              (0, (1 : Int32), S21)
            else
              if a2 = (1 : Int32) then
                lt (f_Inbox_moveFirstBehind (a1.toNatClampNeg) S) fun (S18 : St) =>
                (0, (1 : Int32), S18)
              else
                lt (f_Inbox_first (a1.toNatClampNeg) S) fun (r11 : Nat) =>
                lt (f_Inbox_add (a1.toNatClampNeg) (a1.toNatClampNeg) r11 S) fun (S15 : St) =>
                (0, (1 : Int32), S15)
      else
        (1, (0 : Int32), S)
def ok_QC_disturb (a1 : Int32) (a2 : Int32) (S : St) : Prop :=
  lt (f_QC_isNode a1 S) fun (r1 : Int32) =>
  (r1 = 0 → (
    True)) ∧ (¬ (r1 = 0) → (
    (a2 < 0 → (
      True)) ∧ (¬ (a2 < 0) → (
      (a2 ≤ (2 : Int32) → (
        (vp_in a1 4) ∧ (
          ((S.1 12 (a1.toNatClampNeg) 0 1) = 0 → (
            True)) ∧ (¬ ((S.1 12 (a1.toNatClampNeg) 0 1) = 0) → (
            (a2 = (2 : Int32) → (
              ((S.1 12 (a1.toNatClampNeg) 0 1) < (16 : Int32) → (
                (a2 = 0 → (
                  (ok_Inbox_dropFirst (a1.toNatClampNeg) S) ∧ (
                    True))) ∧ (¬ (a2 = 0) → (
                  (a2 = (1 : Int32) → (
                    (ok_Inbox_moveFirstBehind (a1.toNatClampNeg) S) ∧ (
                      True))) ∧ (¬ (a2 = (1 : Int32)) → (
                    (ok_Inbox_first (a1.toNatClampNeg) S) ∧ (
                      lt (f_Inbox_first (a1.toNatClampNeg) S) fun (r26 : Nat) =>
                      (r26 < 16) ∧ (
                        (ok_Inbox_add (a1.toNatClampNeg) (a1.toNatClampNeg) r26 S) ∧ (
                          True))))))))) ∧ (¬ ((S.1 12 (a1.toNatClampNeg) 0 1) < (16 : Int32)) → (
                True)))) ∧ (¬ (a2 = (2 : Int32)) → (
              (a2 = 0 → (
                (ok_Inbox_dropFirst (a1.toNatClampNeg) S) ∧ (
                  True))) ∧ (¬ (a2 = 0) → (
                (a2 = (1 : Int32) → (
                  (ok_Inbox_moveFirstBehind (a1.toNatClampNeg) S) ∧ (
                    True))) ∧ (¬ (a2 = (1 : Int32)) → (
                  (ok_Inbox_first (a1.toNatClampNeg) S) ∧ (
                    lt (f_Inbox_first (a1.toNatClampNeg) S) fun (r11 : Nat) =>
                    (r11 < 16) ∧ (
                      (ok_Inbox_add (a1.toNatClampNeg) (a1.toNatClampNeg) r11 S) ∧ (
                        True)))))))))))))) ∧ (¬ (a2 ≤ (2 : Int32)) → (
        True))))))
set_option maxHeartbeats 4000000 in
set_option maxRecDepth 100000 in
theorem c_QC_disturb (l : Launch) (htr : l.stackTraces = false) (D : va_G) (X : va_W) (ad : N3 → Nat) (ca : Nat → ClassId) (a1 : Int32) (a2 : Int32)  (S : St) (hk : ok_QC_disturb a1 a2 S) : cX l GG D clQ (tysQ ca) nwQ X ad TQ (cfQ ad ca) y_QC_disturb b_QC_disturb 4 .boolean 6 122 [.ref (ad (1, 0, 0)), .int a1, .int a2] S (f_QC_disturb a1 a2 S) := by
  generalize hr : f_QC_disturb a1 a2 S = res
  refine xI_of pn_QC (Nat.le_of_ble_eq_true rfl) (fun p e s m below meth c A ls hy hX hno hW hA hl => ?_)
  have hF := hy.1
  have hx := hF.1
  have hb := hF.2.1
  have hK := hy.2.2.2
  have hl : lv_has ls 4 [(0, .ref (ad (1, 0, 0))), (1, .int a1), (2, .int a2)] := hl
  refine lv_iload_n (pc := 0) hx hb d_QC_disturb_0 rfl (lv_at hl 1 rfl) ?_
  obtain ⟨r1, er1⟩ : ∃ z : Int32, z = f_QC_isNode a1 S := ⟨_, rfl⟩
  have hk := lt_p er1 hk
  have hr := lt_e er1 hr
  refine p_go (pc := 1) (congrArg Value.int er1) (p_runS hF hK hW (c_QC_isNode l D X ad ca a1 S _) cd_QC_isNode gw_430 ⟨Nat.le_of_ble_eq_true rfl, Nat.le_of_ble_eq_true rfl⟩ ⟨Nat.zero_le _, Nat.zero_le _⟩ rfl rfl hl.1 (Nat.le_of_ble_eq_true rfl) d_QC_disturb_1) ?_
  refine lv_if_eq (pc := 4) (tgt := 16) hx hb d_QC_disturb_4 (by decide) (fun c2 => ?_) (fun c2 => ?_)
  · have hk := hk.1 c2
    have hr := (if_pos c2).symm.trans hr
    exact x_throw (pc := 16) (k := 1) (text := "no such node or way to disturb") (cls := xIA) htr hF hy.2.2.1 hX hno hl.1 (congrArg Prod.fst hr.symm) (by decide) rfl xfA xatA (by decide +kernel) gw_509 gw_510 gw_67 (Nat.le_of_ble_eq_true rfl) (Nat.le_of_ble_eq_true rfl) ⟨rfl, rfl⟩ d_QC_disturb_16 d_QC_disturb_19 d_QC_disturb_20 d_QC_disturb_22 d_QC_disturb_25
  · have hk := hk.2 c2
    have hr := (if_neg c2).symm.trans hr
    refine lv_iload_n (pc := 7) hx hb d_QC_disturb_7 rfl (lv_at hl 2 rfl) ?_
    refine lv_if_lt (pc := 8) (tgt := 16) hx hb d_QC_disturb_8 (by decide) (fun c3 => ?_) (fun c3 => ?_)
    · have hk := hk.1 c3
      have hr := (if_pos c3).symm.trans hr
      exact x_throw (pc := 16) (k := 1) (text := "no such node or way to disturb") (cls := xIA) htr hF hy.2.2.1 hX hno hl.1 (congrArg Prod.fst hr.symm) (by decide) rfl xfA xatA (by decide +kernel) gw_509 gw_510 gw_67 (Nat.le_of_ble_eq_true rfl) (Nat.le_of_ble_eq_true rfl) ⟨rfl, rfl⟩ d_QC_disturb_16 d_QC_disturb_19 d_QC_disturb_20 d_QC_disturb_22 d_QC_disturb_25
    · have hk := hk.2 c3
      have hr := (if_neg c3).symm.trans hr
      refine lv_iload_n (pc := 11) hx hb d_QC_disturb_11 rfl (lv_at hl 2 rfl) ?_
      refine lv_iconst (pc := 12) (v := 2) hx hb d_QC_disturb_12 (by decide) ?_
      refine lv_icmp_le (pc := 13) (tgt := 26) hx hb d_QC_disturb_13 (by decide) (fun c4 => ?_) (fun c4 => ?_)
      · have hk := hk.1 c4
        have hr := (if_pos c4).symm.trans hr
        refine lv_aload_n (pc := 26) hx hb d_QC_disturb_26 rfl (lv_at hl 0 rfl) ?_
        refine z_get (pc := 27) (v := .ref (ad (2, 0, 0))) hF hK.1 hW tq1 rfl rfl in_QC 0 (by decide) gw_344 rfl rfl d_QC_disturb_27 ?_
        refine lv_iload_n (pc := 30) hx hb d_QC_disturb_30 rfl (lv_at hl 1 rfl) ?_
        have b5 := hk.1
        have hk := hk.2
        refine z_aald (pc := 31) (q := ad (3, (a1.toNatClampNeg), 0)) hF hK.1 hW tq2 3 rfl rfl b5 rfl d_QC_disturb_31 ?_
        refine z_get (pc := 32) (v := .ref (ad (12, (a1.toNatClampNeg), 0))) hF hK.1 hW (tq3 (vin4 b5)) rfl rfl in_Node 2 (by decide) gw_300 rfl rfl d_QC_disturb_32 ?_
        refine lv_astore_n (pc := 35) (lv' := [(3, .ref (ad (12, (a1.toNatClampNeg), 0))), (0, .ref (ad (1, 0, 0))), (1, .int a1), (2, .int a2)]) hx hb d_QC_disturb_35 rfl hl (by decide) rfl (fun ls hl => ?_)
        refine lv_aload_n (pc := 36) hx hb d_QC_disturb_36 rfl (lv_at hl 0 rfl) ?_
        refine z_get (pc := 37) (v := .int (S.1 12 (a1.toNatClampNeg) 0 1)) hF hK.1 hW (tq12 (vin4 b5)) rfl rfl in_Inbox 1 (by decide) gw_182 rfl rfl d_QC_disturb_37 ?_
        refine lv_if_eq (pc := 40) (tgt := 57) hx hb d_QC_disturb_40 (by decide) (fun c6 => ?_) (fun c6 => ?_)
        · have hk := hk.1 c6
          have hr := (if_pos c6).symm.trans hr
          exact x_throw (pc := 57) (k := 2) (text := "no message, or no room for its copy") (cls := xIS) htr hF hy.2.2.1 hX hno hl.1 (congrArg Prod.fst hr.symm) (by decide) rfl xfS xatS (by decide +kernel) gw_577 gw_578 gw_68 (Nat.le_of_ble_eq_true rfl) (Nat.le_of_ble_eq_true rfl) ⟨rfl, rfl⟩ d_QC_disturb_57 d_QC_disturb_60 d_QC_disturb_61 d_QC_disturb_63 d_QC_disturb_66
        · have hk := hk.2 c6
          have hr := (if_neg c6).symm.trans hr
          refine lv_iload_n (pc := 43) hx hb d_QC_disturb_43 rfl (lv_at hl 3 rfl) ?_
          refine lv_iconst (pc := 44) (v := 2) hx hb d_QC_disturb_44 (by decide) ?_
          refine lv_icmp_ne (pc := 45) (tgt := 67) hx hb d_QC_disturb_45 (by decide) (fun c7 => ?_) (fun c7 => ?_)
          · have hk := hk.2 c7
            have hr := (if_neg c7).symm.trans hr
            refine lv_iload_n (pc := 67) hx hb d_QC_disturb_67 rfl (lv_at hl 3 rfl) ?_
            refine lv_if_ne (pc := 68) (tgt := 78) hx hb d_QC_disturb_68 (by decide) (fun c8 => ?_) (fun c8 => ?_)
            · have hk := hk.2 c8
              have hr := (if_neg c8).symm.trans hr
              refine lv_iload_n (pc := 78) hx hb d_QC_disturb_78 rfl (lv_at hl 3 rfl) ?_
              refine lv_iconst (pc := 79) (v := 1) hx hb d_QC_disturb_79 (by decide) ?_
              refine lv_icmp_ne (pc := 80) (tgt := 90) hx hb d_QC_disturb_80 (by decide) (fun c9 => ?_) (fun c9 => ?_)
              · have hk := hk.2 c9
                have hr := (if_neg c9).symm.trans hr
                refine lv_aload_n (pc := 90) hx hb d_QC_disturb_90 rfl (lv_at hl 0 rfl) ?_
                refine lv_aload_n (pc := 91) hx hb d_QC_disturb_91 rfl (lv_at hl 0 rfl) ?_
                have o10 := hk.1
                have hk := hk.2
                obtain ⟨r11, er11⟩ : ∃ z : Nat, z = f_Inbox_first (a1.toNatClampNeg) S := ⟨_, rfl⟩
                have hk := lt_p er11 hk
                have hr := lt_e er11 hr
                have b12 := hk.1
                have hk := hk.2
                refine p_go (pc := 92) (congrArg (fun q => Value.ref (ad (14, (a1.toNatClampNeg), q))) er11) (p_runV hF hK hW (c_Inbox_first l D X ad ca (a1.toNatClampNeg) (vin4 b5) S o10 _) cd_Inbox_first gw_653 (tq12 (vin4 b5)) rfl rfl ⟨Nat.le_of_ble_eq_true rfl, Nat.le_of_ble_eq_true rfl⟩ ⟨Nat.zero_le _, Nat.zero_le _⟩ rfl rfl hl.1 (Nat.le_of_ble_eq_true rfl) d_QC_disturb_92) ?_
                have o13 := hk.1
                have hk := hk.2
                obtain ⟨S15, eS15⟩ : ∃ z : St, z = f_Inbox_add (a1.toNatClampNeg) (a1.toNatClampNeg) r11 S := ⟨_, rfl⟩
                have hr := lt_e eS15 hr
                refine z_goV (pc := 95) hW hA eS15 (z_runV hF hK hW (c_Inbox_add l D X ad ca (a1.toNatClampNeg) (a1.toNatClampNeg) r11 (vin4 b5) (Or.inl ⟨(vin4 b5), b12⟩) S o13 _) cd_Inbox_add gw_411 (tq12 (vin4 b5)) rfl rfl ⟨Nat.le_of_ble_eq_true rfl, Nat.le_of_ble_eq_true rfl⟩ ⟨Nat.zero_le _, Nat.zero_le _⟩ rfl rfl hl.1 (Nat.le_of_ble_eq_true rfl) d_QC_disturb_95) (fun H locs (hW : Wd D clQ A s.heap (zw X ad TQ (cfQ ad ca) S15) H locs) => ?_)
                refine lv_iconst (pc := 98) (v := 1) hx hb d_QC_disturb_98 (by decide) ?_
                exact x_zret (v := (1 : Int32)) hy hW rfl hr.symm d_QC_disturb_99
              · have hk := hk.1 c9
                have hr := (if_pos c9).symm.trans hr
                refine lv_aload_n (pc := 83) hx hb d_QC_disturb_83 rfl (lv_at hl 0 rfl) ?_
                have o16 := hk.1
                have hk := hk.2
                obtain ⟨S18, eS18⟩ : ∃ z : St, z = f_Inbox_moveFirstBehind (a1.toNatClampNeg) S := ⟨_, rfl⟩
                have hr := lt_e eS18 hr
                refine z_goV (pc := 84) hW hA eS18 (z_runV hF hK hW (c_Inbox_moveFirstBehind l D X ad ca (a1.toNatClampNeg) (vin4 b5) S o16 _) cd_Inbox_moveFirstBehind gw_782 (tq12 (vin4 b5)) rfl rfl ⟨Nat.le_of_ble_eq_true rfl, Nat.le_of_ble_eq_true rfl⟩ ⟨Nat.zero_le _, Nat.zero_le _⟩ rfl rfl hl.1 (Nat.le_of_ble_eq_true rfl) d_QC_disturb_84) (fun H locs (hW : Wd D clQ A s.heap (zw X ad TQ (cfQ ad ca) S18) H locs) => ?_)
                refine lv_goto (pc := 87) (tgt := 98) hx hb d_QC_disturb_87 (by decide) ?_
                refine lv_iconst (pc := 98) (v := 1) hx hb d_QC_disturb_98 (by decide) ?_
                exact x_zret (v := (1 : Int32)) hy hW rfl hr.symm d_QC_disturb_99
            · have hk := hk.1 c8
              have hr := (if_pos c8).symm.trans hr
              refine lv_aload_n (pc := 71) hx hb d_QC_disturb_71 rfl (lv_at hl 0 rfl) ?_
              have o19 := hk.1
              have hk := hk.2
              obtain ⟨S21, eS21⟩ : ∃ z : St, z = f_Inbox_dropFirst (a1.toNatClampNeg) S := ⟨_, rfl⟩
              have hr := lt_e eS21 hr
              refine z_goV (pc := 72) hW hA eS21 (z_runV hF hK hW (c_Inbox_dropFirst l D X ad ca (a1.toNatClampNeg) (vin4 b5) S o19 _) cd_Inbox_dropFirst gw_658 (tq12 (vin4 b5)) rfl rfl ⟨Nat.le_of_ble_eq_true rfl, Nat.le_of_ble_eq_true rfl⟩ ⟨Nat.zero_le _, Nat.zero_le _⟩ rfl rfl hl.1 (Nat.le_of_ble_eq_true rfl) d_QC_disturb_72) (fun H locs (hW : Wd D clQ A s.heap (zw X ad TQ (cfQ ad ca) S21) H locs) => ?_)
              refine lv_goto (pc := 75) (tgt := 98) hx hb d_QC_disturb_75 (by decide) ?_
              refine lv_iconst (pc := 98) (v := 1) hx hb d_QC_disturb_98 (by decide) ?_
              exact x_zret (v := (1 : Int32)) hy hW rfl hr.symm d_QC_disturb_99
          · have hk := hk.1 c7
            have hr := (if_pos c7).symm.trans hr
            refine lv_aload_n (pc := 48) hx hb d_QC_disturb_48 rfl (lv_at hl 0 rfl) ?_
            refine z_get (pc := 49) (v := .int (S.1 12 (a1.toNatClampNeg) 0 1)) hF hK.1 hW (tq12 (vin4 b5)) rfl rfl in_Inbox 1 (by decide) gw_182 rfl rfl d_QC_disturb_49 ?_
            refine lv_bipush (pc := 52) (v := 16) hx hb d_QC_disturb_52 (by decide) ?_
            refine lv_icmp_lt (pc := 54) (tgt := 67) hx hb d_QC_disturb_54 (by decide) (fun c22 => ?_) (fun c22 => ?_)
            · have hk := hk.1 c22
              have hr := (if_pos c22).symm.trans hr
              refine lv_iload_n (pc := 67) hx hb d_QC_disturb_67 rfl (lv_at hl 3 rfl) ?_
              refine lv_if_ne (pc := 68) (tgt := 78) hx hb d_QC_disturb_68 (by decide) (fun c23 => ?_) (fun c23 => ?_)
              · have hk := hk.2 c23
                have hr := (if_neg c23).symm.trans hr
                refine lv_iload_n (pc := 78) hx hb d_QC_disturb_78 rfl (lv_at hl 3 rfl) ?_
                refine lv_iconst (pc := 79) (v := 1) hx hb d_QC_disturb_79 (by decide) ?_
                refine lv_icmp_ne (pc := 80) (tgt := 90) hx hb d_QC_disturb_80 (by decide) (fun c24 => ?_) (fun c24 => ?_)
                · have hk := hk.2 c24
                  have hr := (if_neg c24).symm.trans hr
                  refine lv_aload_n (pc := 90) hx hb d_QC_disturb_90 rfl (lv_at hl 0 rfl) ?_
                  refine lv_aload_n (pc := 91) hx hb d_QC_disturb_91 rfl (lv_at hl 0 rfl) ?_
                  have o25 := hk.1
                  have hk := hk.2
                  obtain ⟨r26, er26⟩ : ∃ z : Nat, z = f_Inbox_first (a1.toNatClampNeg) S := ⟨_, rfl⟩
                  have hk := lt_p er26 hk
                  have hr := lt_e er26 hr
                  have b27 := hk.1
                  have hk := hk.2
                  refine p_go (pc := 92) (congrArg (fun q => Value.ref (ad (14, (a1.toNatClampNeg), q))) er26) (p_runV hF hK hW (c_Inbox_first l D X ad ca (a1.toNatClampNeg) (vin4 b5) S o25 _) cd_Inbox_first gw_653 (tq12 (vin4 b5)) rfl rfl ⟨Nat.le_of_ble_eq_true rfl, Nat.le_of_ble_eq_true rfl⟩ ⟨Nat.zero_le _, Nat.zero_le _⟩ rfl rfl hl.1 (Nat.le_of_ble_eq_true rfl) d_QC_disturb_92) ?_
                  have o28 := hk.1
                  have hk := hk.2
                  obtain ⟨S30, eS30⟩ : ∃ z : St, z = f_Inbox_add (a1.toNatClampNeg) (a1.toNatClampNeg) r26 S := ⟨_, rfl⟩
                  have hr := lt_e eS30 hr
                  refine z_goV (pc := 95) hW hA eS30 (z_runV hF hK hW (c_Inbox_add l D X ad ca (a1.toNatClampNeg) (a1.toNatClampNeg) r26 (vin4 b5) (Or.inl ⟨(vin4 b5), b27⟩) S o28 _) cd_Inbox_add gw_411 (tq12 (vin4 b5)) rfl rfl ⟨Nat.le_of_ble_eq_true rfl, Nat.le_of_ble_eq_true rfl⟩ ⟨Nat.zero_le _, Nat.zero_le _⟩ rfl rfl hl.1 (Nat.le_of_ble_eq_true rfl) d_QC_disturb_95) (fun H locs (hW : Wd D clQ A s.heap (zw X ad TQ (cfQ ad ca) S30) H locs) => ?_)
                  refine lv_iconst (pc := 98) (v := 1) hx hb d_QC_disturb_98 (by decide) ?_
                  exact x_zret (v := (1 : Int32)) hy hW rfl hr.symm d_QC_disturb_99
                · have hk := hk.1 c24
                  have hr := (if_pos c24).symm.trans hr
                  refine lv_aload_n (pc := 83) hx hb d_QC_disturb_83 rfl (lv_at hl 0 rfl) ?_
                  have o31 := hk.1
                  have hk := hk.2
                  obtain ⟨S33, eS33⟩ : ∃ z : St, z = f_Inbox_moveFirstBehind (a1.toNatClampNeg) S := ⟨_, rfl⟩
                  have hr := lt_e eS33 hr
                  refine z_goV (pc := 84) hW hA eS33 (z_runV hF hK hW (c_Inbox_moveFirstBehind l D X ad ca (a1.toNatClampNeg) (vin4 b5) S o31 _) cd_Inbox_moveFirstBehind gw_782 (tq12 (vin4 b5)) rfl rfl ⟨Nat.le_of_ble_eq_true rfl, Nat.le_of_ble_eq_true rfl⟩ ⟨Nat.zero_le _, Nat.zero_le _⟩ rfl rfl hl.1 (Nat.le_of_ble_eq_true rfl) d_QC_disturb_84) (fun H locs (hW : Wd D clQ A s.heap (zw X ad TQ (cfQ ad ca) S33) H locs) => ?_)
                  refine lv_goto (pc := 87) (tgt := 98) hx hb d_QC_disturb_87 (by decide) ?_
                  refine lv_iconst (pc := 98) (v := 1) hx hb d_QC_disturb_98 (by decide) ?_
                  exact x_zret (v := (1 : Int32)) hy hW rfl hr.symm d_QC_disturb_99
              · have hk := hk.1 c23
                have hr := (if_pos c23).symm.trans hr
                refine lv_aload_n (pc := 71) hx hb d_QC_disturb_71 rfl (lv_at hl 0 rfl) ?_
                have o34 := hk.1
                have hk := hk.2
                obtain ⟨S36, eS36⟩ : ∃ z : St, z = f_Inbox_dropFirst (a1.toNatClampNeg) S := ⟨_, rfl⟩
                have hr := lt_e eS36 hr
                refine z_goV (pc := 72) hW hA eS36 (z_runV hF hK hW (c_Inbox_dropFirst l D X ad ca (a1.toNatClampNeg) (vin4 b5) S o34 _) cd_Inbox_dropFirst gw_658 (tq12 (vin4 b5)) rfl rfl ⟨Nat.le_of_ble_eq_true rfl, Nat.le_of_ble_eq_true rfl⟩ ⟨Nat.zero_le _, Nat.zero_le _⟩ rfl rfl hl.1 (Nat.le_of_ble_eq_true rfl) d_QC_disturb_72) (fun H locs (hW : Wd D clQ A s.heap (zw X ad TQ (cfQ ad ca) S36) H locs) => ?_)
                refine lv_goto (pc := 75) (tgt := 98) hx hb d_QC_disturb_75 (by decide) ?_
                refine lv_iconst (pc := 98) (v := 1) hx hb d_QC_disturb_98 (by decide) ?_
                exact x_zret (v := (1 : Int32)) hy hW rfl hr.symm d_QC_disturb_99
            · have hk := hk.2 c22
              have hr := (if_neg c22).symm.trans hr
              exact x_throw (pc := 57) (k := 2) (text := "no message, or no room for its copy") (cls := xIS) htr hF hy.2.2.1 hX hno hl.1 (congrArg Prod.fst hr.symm) (by decide) rfl xfS xatS (by decide +kernel) gw_577 gw_578 gw_68 (Nat.le_of_ble_eq_true rfl) (Nat.le_of_ble_eq_true rfl) ⟨rfl, rfl⟩ d_QC_disturb_57 d_QC_disturb_60 d_QC_disturb_61 d_QC_disturb_63 d_QC_disturb_66
      · have hk := hk.2 c4
        have hr := (if_neg c4).symm.trans hr
        exact x_throw (pc := 16) (k := 1) (text := "no such node or way to disturb") (cls := xIA) htr hF hy.2.2.1 hX hno hl.1 (congrArg Prod.fst hr.symm) (by decide) rfl xfA xatA (by decide +kernel) gw_509 gw_510 gw_67 (Nat.le_of_ble_eq_true rfl) (Nat.le_of_ble_eq_true rfl) ⟨rfl, rfl⟩ d_QC_disturb_16 d_QC_disturb_19 d_QC_disturb_20 d_QC_disturb_22 d_QC_disturb_25
theorem d_QC_alter_0 : decode b_QC_alter 0 = .ok (.iload_n 1, 1) := by decide +kernel
theorem d_QC_alter_1 : decode b_QC_alter 1 = .ok (.invokestatic 68, 3) := by decide +kernel
theorem d_QC_alter_4 : decode b_QC_alter 4 = .ok (.ifCond .eq 13, 3) := by decide +kernel
theorem d_QC_alter_7 : decode b_QC_alter 7 = .ok (.iload_n 2, 1) := by decide +kernel
theorem d_QC_alter_8 : decode b_QC_alter 8 = .ok (.ifCond .lt 9, 3) := by decide +kernel
theorem d_QC_alter_11 : decode b_QC_alter 11 = .ok (.iload_n 2, 1) := by decide +kernel
theorem d_QC_alter_12 : decode b_QC_alter 12 = .ok (.bipush 11, 2) := by decide +kernel
theorem d_QC_alter_14 : decode b_QC_alter 14 = .ok (.if_icmp .lt 13, 3) := by decide +kernel
theorem d_QC_alter_17 : decode b_QC_alter 17 = .ok (.new 46, 3) := by decide +kernel
theorem d_QC_alter_20 : decode b_QC_alter 20 = .ok (.dup, 1) := by decide +kernel
theorem d_QC_alter_21 : decode b_QC_alter 21 = .ok (.ldc 159, 2) := by decide +kernel
theorem d_QC_alter_23 : decode b_QC_alter 23 = .ok (.invokespecial 50, 3) := by decide +kernel
theorem d_QC_alter_26 : decode b_QC_alter 26 = .ok (.athrow, 1) := by decide +kernel
theorem d_QC_alter_27 : decode b_QC_alter 27 = .ok (.aload_n 0, 1) := by decide +kernel
theorem d_QC_alter_28 : decode b_QC_alter 28 = .ok (.getfield 11, 3) := by decide +kernel
theorem d_QC_alter_31 : decode b_QC_alter 31 = .ok (.iload_n 1, 1) := by decide +kernel
theorem d_QC_alter_32 : decode b_QC_alter 32 = .ok (.aaload, 1) := by decide +kernel
theorem d_QC_alter_33 : decode b_QC_alter 33 = .ok (.getfield 99, 3) := by decide +kernel
theorem d_QC_alter_36 : decode b_QC_alter 36 = .ok (.astore 5, 2) := by decide +kernel
theorem d_QC_alter_38 : decode b_QC_alter 38 = .ok (.aload 5, 2) := by decide +kernel
theorem d_QC_alter_40 : decode b_QC_alter 40 = .ok (.getfield 103, 3) := by decide +kernel
theorem d_QC_alter_43 : decode b_QC_alter 43 = .ok (.ifCond .eq 15, 3) := by decide +kernel
theorem d_QC_alter_46 : decode b_QC_alter 46 = .ok (.aload 5, 2) := by decide +kernel
theorem d_QC_alter_48 : decode b_QC_alter 48 = .ok (.invokevirtual 108, 3) := by decide +kernel
theorem d_QC_alter_51 : decode b_QC_alter 51 = .ok (.getfield 161, 3) := by decide +kernel
theorem d_QC_alter_54 : decode b_QC_alter 54 = .ok (.iconst (-1), 1) := by decide +kernel
theorem d_QC_alter_55 : decode b_QC_alter 55 = .ok (.if_icmp .ne 13, 3) := by decide +kernel
theorem d_QC_alter_58 : decode b_QC_alter 58 = .ok (.new 59, 3) := by decide +kernel
theorem d_QC_alter_61 : decode b_QC_alter 61 = .ok (.dup, 1) := by decide +kernel
theorem d_QC_alter_62 : decode b_QC_alter 62 = .ok (.ldc 164, 2) := by decide +kernel
theorem d_QC_alter_64 : decode b_QC_alter 64 = .ok (.invokespecial 63, 3) := by decide +kernel
theorem d_QC_alter_67 : decode b_QC_alter 67 = .ok (.athrow, 1) := by decide +kernel
theorem d_QC_alter_68 : decode b_QC_alter 68 = .ok (.aload 5, 2) := by decide +kernel
theorem d_QC_alter_70 : decode b_QC_alter 70 = .ok (.invokevirtual 108, 3) := by decide +kernel
theorem d_QC_alter_73 : decode b_QC_alter 73 = .ok (.getfield 166, 3) := by decide +kernel
theorem d_QC_alter_76 : decode b_QC_alter 76 = .ok (.iload_n 2, 1) := by decide +kernel
theorem d_QC_alter_77 : decode b_QC_alter 77 = .ok (.dup2, 1) := by decide +kernel
theorem d_QC_alter_78 : decode b_QC_alter 78 = .ok (.laload, 1) := by decide +kernel
theorem d_QC_alter_79 : decode b_QC_alter 79 = .ok (.lload_n 3, 1) := by decide +kernel
theorem d_QC_alter_80 : decode b_QC_alter 80 = .ok (.lxor, 1) := by decide +kernel
theorem d_QC_alter_81 : decode b_QC_alter 81 = .ok (.lastore, 1) := by decide +kernel
theorem d_QC_alter_82 : decode b_QC_alter 82 = .ok (.iconst 1, 1) := by decide +kernel
theorem d_QC_alter_83 : decode b_QC_alter 83 = .ok (.ireturn, 1) := by decide +kernel
def f_QC_alter (a1 : Int32) (a2 : Int32) (a3 : Int64) (S : St) : Nat × Int32 × St :=
  lt (f_QC_isNode a1 S) fun (r1 : Int32) =>
  if r1 = 0 then
    (1, (0 : Int32), S)
  else
    if a2 < 0 then
      (1, (0 : Int32), S)
    else
      if a2 < (11 : Int32) then
        if (S.1 12 (a1.toNatClampNeg) 0 1) = 0 then
          (2, (0 : Int32), S)
        else
          lt (f_Inbox_first (a1.toNatClampNeg) S) fun (r8 : Nat) =>
          if (S.1 14 (a1.toNatClampNeg) r8 5) = (-1 : Int32) then
            (2, (0 : Int32), S)
          else
            lt (f_Inbox_first (a1.toNatClampNeg) S) fun (r12 : Nat) =>
            lt (sl S 15 (a1.toNatClampNeg) r12 (a2.toNatClampNeg) ((S.2.1 15 (a1.toNatClampNeg) r12 a2.toNatClampNeg) ^^^ a3)) fun (S16 : St) =>
            (0, (1 : Int32), S16)
      else
        (1, (0 : Int32), S)
def ok_QC_alter (a1 : Int32) (a2 : Int32) (a3 : Int64) (S : St) : Prop :=
  lt (f_QC_isNode a1 S) fun (r1 : Int32) =>
  (r1 = 0 → (
    True)) ∧ (¬ (r1 = 0) → (
    (a2 < 0 → (
      True)) ∧ (¬ (a2 < 0) → (
      (a2 < (11 : Int32) → (
        (vp_in a1 4) ∧ (
          ((S.1 12 (a1.toNatClampNeg) 0 1) = 0 → (
            True)) ∧ (¬ ((S.1 12 (a1.toNatClampNeg) 0 1) = 0) → (
            (ok_Inbox_first (a1.toNatClampNeg) S) ∧ (
              lt (f_Inbox_first (a1.toNatClampNeg) S) fun (r8 : Nat) =>
              (r8 < 16) ∧ (
                ((S.1 14 (a1.toNatClampNeg) r8 5) = (-1 : Int32) → (
                  True)) ∧ (¬ ((S.1 14 (a1.toNatClampNeg) r8 5) = (-1 : Int32)) → (
                  (ok_Inbox_first (a1.toNatClampNeg) S) ∧ (
                    lt (f_Inbox_first (a1.toNatClampNeg) S) fun (r12 : Nat) =>
                    (r12 < 16) ∧ (
                      (vp_in a2 11) ∧ (
                        (vp_in a2 11) ∧ (
                          True))))))))))))) ∧ (¬ (a2 < (11 : Int32)) → (
        True))))))
set_option maxHeartbeats 4000000 in
set_option maxRecDepth 100000 in
theorem c_QC_alter (l : Launch) (htr : l.stackTraces = false) (D : va_G) (X : va_W) (ad : N3 → Nat) (ca : Nat → ClassId) (a1 : Int32) (a2 : Int32) (a3 : Int64)  (S : St) (hk : ok_QC_alter a1 a2 a3 S) : cX l GG D clQ (tysQ ca) nwQ X ad TQ (cfQ ad ca) y_QC_alter b_QC_alter 6 .boolean 6 100 [.ref (ad (1, 0, 0)), .int a1, .int a2, .long a3] S (f_QC_alter a1 a2 a3 S) := by
  generalize hr : f_QC_alter a1 a2 a3 S = res
  refine xI_of pn_QC (Nat.le_of_ble_eq_true rfl) (fun p e s m below meth c A ls hy hX hno hW hA hl => ?_)
  have hF := hy.1
  have hx := hF.1
  have hb := hF.2.1
  have hK := hy.2.2.2
  have hl : lv_has ls 6 [(0, .ref (ad (1, 0, 0))), (1, .int a1), (2, .int a2), (3, .long a3)] := hl
  refine lv_iload_n (pc := 0) hx hb d_QC_alter_0 rfl (lv_at hl 1 rfl) ?_
  obtain ⟨r1, er1⟩ : ∃ z : Int32, z = f_QC_isNode a1 S := ⟨_, rfl⟩
  have hk := lt_p er1 hk
  have hr := lt_e er1 hr
  refine p_go (pc := 1) (congrArg Value.int er1) (p_runS hF hK hW (c_QC_isNode l D X ad ca a1 S _) cd_QC_isNode gw_430 ⟨Nat.le_of_ble_eq_true rfl, Nat.le_of_ble_eq_true rfl⟩ ⟨Nat.zero_le _, Nat.zero_le _⟩ rfl rfl hl.1 (Nat.le_of_ble_eq_true rfl) d_QC_alter_1) ?_
  refine lv_if_eq (pc := 4) (tgt := 17) hx hb d_QC_alter_4 (by decide) (fun c2 => ?_) (fun c2 => ?_)
  · have hk := hk.1 c2
    have hr := (if_pos c2).symm.trans hr
    exact x_throw (pc := 17) (k := 1) (text := "no such node or long of a signature") (cls := xIA) htr hF hy.2.2.1 hX hno hl.1 (congrArg Prod.fst hr.symm) (by decide) rfl xfA xatA (by decide +kernel) gw_509 gw_510 gw_67 (Nat.le_of_ble_eq_true rfl) (Nat.le_of_ble_eq_true rfl) ⟨rfl, rfl⟩ d_QC_alter_17 d_QC_alter_20 d_QC_alter_21 d_QC_alter_23 d_QC_alter_26
  · have hk := hk.2 c2
    have hr := (if_neg c2).symm.trans hr
    refine lv_iload_n (pc := 7) hx hb d_QC_alter_7 rfl (lv_at hl 2 rfl) ?_
    refine lv_if_lt (pc := 8) (tgt := 17) hx hb d_QC_alter_8 (by decide) (fun c3 => ?_) (fun c3 => ?_)
    · have hk := hk.1 c3
      have hr := (if_pos c3).symm.trans hr
      exact x_throw (pc := 17) (k := 1) (text := "no such node or long of a signature") (cls := xIA) htr hF hy.2.2.1 hX hno hl.1 (congrArg Prod.fst hr.symm) (by decide) rfl xfA xatA (by decide +kernel) gw_509 gw_510 gw_67 (Nat.le_of_ble_eq_true rfl) (Nat.le_of_ble_eq_true rfl) ⟨rfl, rfl⟩ d_QC_alter_17 d_QC_alter_20 d_QC_alter_21 d_QC_alter_23 d_QC_alter_26
    · have hk := hk.2 c3
      have hr := (if_neg c3).symm.trans hr
      refine lv_iload_n (pc := 11) hx hb d_QC_alter_11 rfl (lv_at hl 2 rfl) ?_
      refine lv_bipush (pc := 12) (v := 11) hx hb d_QC_alter_12 (by decide) ?_
      refine lv_icmp_lt (pc := 14) (tgt := 27) hx hb d_QC_alter_14 (by decide) (fun c4 => ?_) (fun c4 => ?_)
      · have hk := hk.1 c4
        have hr := (if_pos c4).symm.trans hr
        refine lv_aload_n (pc := 27) hx hb d_QC_alter_27 rfl (lv_at hl 0 rfl) ?_
        refine z_get (pc := 28) (v := .ref (ad (2, 0, 0))) hF hK.1 hW tq1 rfl rfl in_QC 0 (by decide) gw_344 rfl rfl d_QC_alter_28 ?_
        refine lv_iload_n (pc := 31) hx hb d_QC_alter_31 rfl (lv_at hl 1 rfl) ?_
        have b5 := hk.1
        have hk := hk.2
        refine z_aald (pc := 32) (q := ad (3, (a1.toNatClampNeg), 0)) hF hK.1 hW tq2 3 rfl rfl b5 rfl d_QC_alter_32 ?_
        refine z_get (pc := 33) (v := .ref (ad (12, (a1.toNatClampNeg), 0))) hF hK.1 hW (tq3 (vin4 b5)) rfl rfl in_Node 2 (by decide) gw_300 rfl rfl d_QC_alter_33 ?_
        refine lv_astore (pc := 36) (lv' := [(5, .ref (ad (12, (a1.toNatClampNeg), 0))), (0, .ref (ad (1, 0, 0))), (1, .int a1), (2, .int a2), (3, .long a3)]) hx hb d_QC_alter_36 hl (by decide) rfl (fun ls hl => ?_)
        refine lv_aload (pc := 38) hx hb d_QC_alter_38 (lv_at hl 0 rfl) ?_
        refine z_get (pc := 40) (v := .int (S.1 12 (a1.toNatClampNeg) 0 1)) hF hK.1 hW (tq12 (vin4 b5)) rfl rfl in_Inbox 1 (by decide) gw_182 rfl rfl d_QC_alter_40 ?_
        refine lv_if_eq (pc := 43) (tgt := 58) hx hb d_QC_alter_43 (by decide) (fun c6 => ?_) (fun c6 => ?_)
        · have hk := hk.1 c6
          have hr := (if_pos c6).symm.trans hr
          exact x_throw (pc := 58) (k := 2) (text := "no signed message") (cls := xIS) htr hF hy.2.2.1 hX hno hl.1 (congrArg Prod.fst hr.symm) (by decide) rfl xfS xatS (by decide +kernel) gw_577 gw_578 gw_68 (Nat.le_of_ble_eq_true rfl) (Nat.le_of_ble_eq_true rfl) ⟨rfl, rfl⟩ d_QC_alter_58 d_QC_alter_61 d_QC_alter_62 d_QC_alter_64 d_QC_alter_67
        · have hk := hk.2 c6
          have hr := (if_neg c6).symm.trans hr
          refine lv_aload (pc := 46) hx hb d_QC_alter_46 (lv_at hl 0 rfl) ?_
          have o7 := hk.1
          have hk := hk.2
          obtain ⟨r8, er8⟩ : ∃ z : Nat, z = f_Inbox_first (a1.toNatClampNeg) S := ⟨_, rfl⟩
          have hk := lt_p er8 hk
          have hr := lt_e er8 hr
          have b9 := hk.1
          have hk := hk.2
          refine p_go (pc := 48) (congrArg (fun q => Value.ref (ad (14, (a1.toNatClampNeg), q))) er8) (p_runV hF hK hW (c_Inbox_first l D X ad ca (a1.toNatClampNeg) (vin4 b5) S o7 _) cd_Inbox_first gw_653 (tq12 (vin4 b5)) rfl rfl ⟨Nat.le_of_ble_eq_true rfl, Nat.le_of_ble_eq_true rfl⟩ ⟨Nat.zero_le _, Nat.zero_le _⟩ rfl rfl hl.1 (Nat.le_of_ble_eq_true rfl) d_QC_alter_48) ?_
          refine z_get (pc := 51) (v := .int (S.1 14 (a1.toNatClampNeg) r8 5)) hF hK.1 hW (tq14 (Or.inl ⟨(vin4 b5), b9⟩)) rfl rfl in_Message 5 (by decide) gw_149 rfl rfl d_QC_alter_51 ?_
          refine lv_iconst (pc := 54) (v := -1) hx hb d_QC_alter_54 (by decide) ?_
          refine lv_icmp_ne (pc := 55) (tgt := 68) hx hb d_QC_alter_55 (by decide) (fun c10 => ?_) (fun c10 => ?_)
          · have hk := hk.2 c10
            have hr := (if_neg c10).symm.trans hr
            refine lv_aload (pc := 68) hx hb d_QC_alter_68 (lv_at hl 0 rfl) ?_
            have o11 := hk.1
            have hk := hk.2
            obtain ⟨r12, er12⟩ : ∃ z : Nat, z = f_Inbox_first (a1.toNatClampNeg) S := ⟨_, rfl⟩
            have hk := lt_p er12 hk
            have hr := lt_e er12 hr
            have b13 := hk.1
            have hk := hk.2
            refine p_go (pc := 70) (congrArg (fun q => Value.ref (ad (14, (a1.toNatClampNeg), q))) er12) (p_runV hF hK hW (c_Inbox_first l D X ad ca (a1.toNatClampNeg) (vin4 b5) S o11 _) cd_Inbox_first gw_653 (tq12 (vin4 b5)) rfl rfl ⟨Nat.le_of_ble_eq_true rfl, Nat.le_of_ble_eq_true rfl⟩ ⟨Nat.zero_le _, Nat.zero_le _⟩ rfl rfl hl.1 (Nat.le_of_ble_eq_true rfl) d_QC_alter_70) ?_
            refine z_get (pc := 73) (v := .ref (ad (15, (a1.toNatClampNeg), r12))) hF hK.1 hW (tq14 (Or.inl ⟨(vin4 b5), b13⟩)) rfl rfl in_Message 0 (by decide) gw_138 rfl rfl d_QC_alter_73 ?_
            refine lv_iload_n (pc := 76) hx hb d_QC_alter_76 rfl (lv_at hl 3 rfl) ?_
            refine lv_dup2_11 (pc := 77) hx hb d_QC_alter_77 rfl rfl ?_
            have b14 := hk.1
            have hk := hk.2
            refine z_lald (pc := 78) (v := S.2.1 15 (a1.toNatClampNeg) r12 a2.toNatClampNeg) hF hK.1 hW (tq15 (Or.inl ⟨(vin4 b5), b13⟩)) 1 rfl rfl b14 rfl d_QC_alter_78 ?_
            refine lv_lload_n (pc := 79) hx hb d_QC_alter_79 rfl (lv_at hl 4 rfl) ?_
            refine lv_lxor (pc := 80) hx hb d_QC_alter_80 ?_
            have b15 := hk.1
            have hk := hk.2
            obtain ⟨S16, eS16⟩ : ∃ z : St, z = sl S 15 (a1.toNatClampNeg) r12 (a2.toNatClampNeg) ((S.2.1 15 (a1.toNatClampNeg) r12 a2.toNatClampNeg) ^^^ a3) := ⟨_, rfl⟩
            have hr := lt_e eS16 hr
            refine z_last (pc := 81) (S' := S16) hF hK.1 hW (tq15 (Or.inl ⟨(vin4 b5), b13⟩)) 1 rfl rfl b15 (zs_sl eS16 rfl) (zs_slo eS16) d_QC_alter_81 (fun H locs (hW : Wd D clQ A s.heap (zw X ad TQ (cfQ ad ca) S16) H locs) => ?_)
            refine lv_iconst (pc := 82) (v := 1) hx hb d_QC_alter_82 (by decide) ?_
            exact x_zret (v := (1 : Int32)) hy hW rfl hr.symm d_QC_alter_83
          · have hk := hk.1 c10
            have hr := (if_pos c10).symm.trans hr
            exact x_throw (pc := 58) (k := 2) (text := "no signed message") (cls := xIS) htr hF hy.2.2.1 hX hno hl.1 (congrArg Prod.fst hr.symm) (by decide) rfl xfS xatS (by decide +kernel) gw_577 gw_578 gw_68 (Nat.le_of_ble_eq_true rfl) (Nat.le_of_ble_eq_true rfl) ⟨rfl, rfl⟩ d_QC_alter_58 d_QC_alter_61 d_QC_alter_62 d_QC_alter_64 d_QC_alter_67
      · have hk := hk.2 c4
        have hr := (if_neg c4).symm.trans hr
        exact x_throw (pc := 17) (k := 1) (text := "no such node or long of a signature") (cls := xIA) htr hF hy.2.2.1 hX hno hl.1 (congrArg Prod.fst hr.symm) (by decide) rfl xfA xatA (by decide +kernel) gw_509 gw_510 gw_67 (Nat.le_of_ble_eq_true rfl) (Nat.le_of_ble_eq_true rfl) ⟨rfl, rfl⟩ d_QC_alter_17 d_QC_alter_20 d_QC_alter_21 d_QC_alter_23 d_QC_alter_26
