theorem d_QC_lieVote_0 : decode b_QC_lieVote 0 = .ok (.iload_n 1, 1) := by decide +kernel
theorem d_QC_lieVote_1 : decode b_QC_lieVote 1 = .ok (.invokestatic 68, 3) := by decide +kernel
theorem d_QC_lieVote_4 : decode b_QC_lieVote 4 = .ok (.ifCond .eq 14, 3) := by decide +kernel
theorem d_QC_lieVote_7 : decode b_QC_lieVote 7 = .ok (.aload_n 0, 1) := by decide +kernel
theorem d_QC_lieVote_8 : decode b_QC_lieVote 8 = .ok (.getfield 18, 3) := by decide +kernel
theorem d_QC_lieVote_11 : decode b_QC_lieVote 11 = .ok (.iload_n 2, 1) := by decide +kernel
theorem d_QC_lieVote_12 : decode b_QC_lieVote 12 = .ok (.invokevirtual 170, 3) := by decide +kernel
theorem d_QC_lieVote_15 : decode b_QC_lieVote 15 = .ok (.ifCond .ne 13, 3) := by decide +kernel
theorem d_QC_lieVote_18 : decode b_QC_lieVote 18 = .ok (.new 46, 3) := by decide +kernel
theorem d_QC_lieVote_21 : decode b_QC_lieVote 21 = .ok (.dup, 1) := by decide +kernel
theorem d_QC_lieVote_22 : decode b_QC_lieVote 22 = .ok (.ldc 220, 2) := by decide +kernel
theorem d_QC_lieVote_24 : decode b_QC_lieVote 24 = .ok (.invokespecial 50, 3) := by decide +kernel
theorem d_QC_lieVote_27 : decode b_QC_lieVote 27 = .ok (.athrow, 1) := by decide +kernel
theorem d_QC_lieVote_28 : decode b_QC_lieVote 28 = .ok (.aload_n 0, 1) := by decide +kernel
theorem d_QC_lieVote_29 : decode b_QC_lieVote 29 = .ok (.getfield 11, 3) := by decide +kernel
theorem d_QC_lieVote_32 : decode b_QC_lieVote 32 = .ok (.iconst 3, 1) := by decide +kernel
theorem d_QC_lieVote_33 : decode b_QC_lieVote 33 = .ok (.aaload, 1) := by decide +kernel
theorem d_QC_lieVote_34 : decode b_QC_lieVote 34 = .ok (.astore_n 3, 1) := by decide +kernel
theorem d_QC_lieVote_35 : decode b_QC_lieVote 35 = .ok (.aload_n 3, 1) := by decide +kernel
theorem d_QC_lieVote_36 : decode b_QC_lieVote 36 = .ok (.getfield 76, 3) := by decide +kernel
theorem d_QC_lieVote_39 : decode b_QC_lieVote 39 = .ok (.ifCond .eq 20, 3) := by decide +kernel
theorem d_QC_lieVote_42 : decode b_QC_lieVote 42 = .ok (.aload_n 3, 1) := by decide +kernel
theorem d_QC_lieVote_43 : decode b_QC_lieVote 43 = .ok (.getfield 179, 3) := by decide +kernel
theorem d_QC_lieVote_46 : decode b_QC_lieVote 46 = .ok (.getfield 183, 3) := by decide +kernel
theorem d_QC_lieVote_49 : decode b_QC_lieVote 49 = .ok (.invokevirtual 189, 3) := by decide +kernel
theorem d_QC_lieVote_52 : decode b_QC_lieVote 52 = .ok (.ifCond .eq 7, 3) := by decide +kernel
theorem d_QC_lieVote_55 : decode b_QC_lieVote 55 = .ok (.iload_n 2, 1) := by decide +kernel
theorem d_QC_lieVote_56 : decode b_QC_lieVote 56 = .ok (.ifCond .ne 13, 3) := by decide +kernel
theorem d_QC_lieVote_59 : decode b_QC_lieVote 59 = .ok (.new 59, 3) := by decide +kernel
theorem d_QC_lieVote_62 : decode b_QC_lieVote 62 = .ok (.dup, 1) := by decide +kernel
theorem d_QC_lieVote_63 : decode b_QC_lieVote 63 = .ok (.ldc 222, 2) := by decide +kernel
theorem d_QC_lieVote_65 : decode b_QC_lieVote 65 = .ok (.invokespecial 63, 3) := by decide +kernel
theorem d_QC_lieVote_68 : decode b_QC_lieVote 68 = .ok (.athrow, 1) := by decide +kernel
theorem d_QC_lieVote_69 : decode b_QC_lieVote 69 = .ok (.aload_n 0, 1) := by decide +kernel
theorem d_QC_lieVote_70 : decode b_QC_lieVote 70 = .ok (.aload_n 3, 1) := by decide +kernel
theorem d_QC_lieVote_71 : decode b_QC_lieVote 71 = .ok (.iconst 2, 1) := by decide +kernel
theorem d_QC_lieVote_72 : decode b_QC_lieVote 72 = .ok (.iload_n 2, 1) := by decide +kernel
theorem d_QC_lieVote_73 : decode b_QC_lieVote 73 = .ok (.iconst 0, 1) := by decide +kernel
theorem d_QC_lieVote_74 : decode b_QC_lieVote 74 = .ok (.invokevirtual 216, 3) := by decide +kernel
theorem d_QC_lieVote_77 : decode b_QC_lieVote 77 = .ok (.ifCond .eq 19, 3) := by decide +kernel
theorem d_QC_lieVote_80 : decode b_QC_lieVote 80 = .ok (.aload_n 0, 1) := by decide +kernel
theorem d_QC_lieVote_81 : decode b_QC_lieVote 81 = .ok (.getfield 11, 3) := by decide +kernel
theorem d_QC_lieVote_84 : decode b_QC_lieVote 84 = .ok (.iload_n 1, 1) := by decide +kernel
theorem d_QC_lieVote_85 : decode b_QC_lieVote 85 = .ok (.aaload, 1) := by decide +kernel
theorem d_QC_lieVote_86 : decode b_QC_lieVote 86 = .ok (.getfield 99, 3) := by decide +kernel
theorem d_QC_lieVote_89 : decode b_QC_lieVote 89 = .ok (.aload_n 0, 1) := by decide +kernel
theorem d_QC_lieVote_90 : decode b_QC_lieVote 90 = .ok (.getfield 32, 3) := by decide +kernel
theorem d_QC_lieVote_93 : decode b_QC_lieVote 93 = .ok (.invokevirtual 157, 3) := by decide +kernel
theorem d_QC_lieVote_96 : decode b_QC_lieVote 96 = .ok (.iconst 1, 1) := by decide +kernel
theorem d_QC_lieVote_97 : decode b_QC_lieVote 97 = .ok (.ireturn, 1) := by decide +kernel
def f_QC_lieVote (a1 : Int32) (a2 : Int32) (S : St) : Nat × Int32 × St :=
  lt (f_QC_isNode a1 S) fun (r1 : Int32) =>
  if r1 = 0 then
    (1, (0 : Int32), S)
  else
    lt (f_Blocks_exists a2 S) fun (r3 : Int32) =>
    if r3 = 0 then
      (1, (0 : Int32), S)
    else
      if (S.1 3 3 0 7) = 0 then
        (2, (0 : Int32), S)
      else
        lt (f_KeyTree_isLeft 3 S) fun (r7 : Int32) =>
        if r7 = 0 then
          (2, (0 : Int32), S)
        else
          if a2 = 0 then
            (2, (0 : Int32), S)
          else
            lt (f_QC_writeSigned 3 (2 : Int32) a2 (0 : Int32) S) fun (r11 : Int32 × St) =>
            if r11.1 = 0 then
              (0, (1 : Int32), r11.2)
            else
              lt (f_Inbox_add (a1.toNatClampNeg) 4 0 r11.2) fun (S16 : St) =>
              (0, (1 : Int32), S16)
def ok_QC_lieVote (a1 : Int32) (a2 : Int32) (S : St) : Prop :=
  lt (f_QC_isNode a1 S) fun (r1 : Int32) =>
  (r1 = 0 → (
    True)) ∧ (¬ (r1 = 0) → (
    lt (f_Blocks_exists a2 S) fun (r3 : Int32) =>
    (r3 = 0 → (
      True)) ∧ (¬ (r3 = 0) → (
      ((S.1 3 3 0 7) = 0 → (
        True)) ∧ (¬ ((S.1 3 3 0 7) = 0) → (
        lt (f_KeyTree_isLeft 3 S) fun (r7 : Int32) =>
        (r7 = 0 → (
          True)) ∧ (¬ (r7 = 0) → (
          (a2 = 0 → (
            True)) ∧ (¬ (a2 = 0) → (
            (ok_QC_writeSigned 3 (2 : Int32) a2 (0 : Int32) S) ∧ (
              lt (f_QC_writeSigned 3 (2 : Int32) a2 (0 : Int32) S) fun (r11 : Int32 × St) =>
              (r11.1 = 0 → (
                True)) ∧ (¬ (r11.1 = 0) → (
                (vp_in a1 4) ∧ (
                  (ok_Inbox_add (a1.toNatClampNeg) 4 0 r11.2) ∧ (
                    True)))))))))))))))
set_option maxHeartbeats 4000000 in
set_option maxRecDepth 100000 in
theorem c_QC_lieVote (l : Launch) (htr : l.stackTraces = false) (D : va_G) (X : va_W) (ad : N3 → Nat) (ca : Nat → ClassId) (a1 : Int32) (a2 : Int32)  (S : St) (hk : ok_QC_lieVote a1 a2 S) : cX l GG D clQ (tysQ ca) nwQ X ad TQ (cfQ ad ca) y_QC_lieVote b_QC_lieVote 4 .boolean 6 122 [.ref (ad (1, 0, 0)), .int a1, .int a2] S (f_QC_lieVote a1 a2 S) := by
  generalize hr : f_QC_lieVote a1 a2 S = res
  refine xI_of pn_QC (Nat.le_of_ble_eq_true rfl) (fun p e s m below meth c A ls hy hX hno hW hA hl => ?_)
  have hF := hy.1
  have hx := hF.1
  have hb := hF.2.1
  have hK := hy.2.2.2
  have hl : lv_has ls 4 [(0, .ref (ad (1, 0, 0))), (1, .int a1), (2, .int a2)] := hl
  refine lv_iload_n (pc := 0) hx hb d_QC_lieVote_0 rfl (lv_at hl 1 rfl) ?_
  obtain ⟨r1, er1⟩ : ∃ z : Int32, z = f_QC_isNode a1 S := ⟨_, rfl⟩
  have hk := lt_p er1 hk
  have hr := lt_e er1 hr
  refine p_go (pc := 1) (congrArg Value.int er1) (p_runS hF hK hW (c_QC_isNode l D X ad ca a1 S _) cd_QC_isNode gw_430 ⟨Nat.le_of_ble_eq_true rfl, Nat.le_of_ble_eq_true rfl⟩ ⟨Nat.zero_le _, Nat.zero_le _⟩ rfl rfl hl.1 (Nat.le_of_ble_eq_true rfl) d_QC_lieVote_1) ?_
  refine lv_if_eq (pc := 4) (tgt := 18) hx hb d_QC_lieVote_4 (by decide) (fun c2 => ?_) (fun c2 => ?_)
  · have hk := hk.1 c2
    have hr := (if_pos c2).symm.trans hr
    exact x_throw (pc := 18) (k := 1) (text := "no such node or block") (cls := xIA) htr hF hy.2.2.1 hX hno hl.1 (congrArg Prod.fst hr.symm) (by decide) rfl xfA xatA (by decide +kernel) gw_509 gw_510 gw_67 (Nat.le_of_ble_eq_true rfl) (Nat.le_of_ble_eq_true rfl) ⟨rfl, rfl⟩ d_QC_lieVote_18 d_QC_lieVote_21 d_QC_lieVote_22 d_QC_lieVote_24 d_QC_lieVote_27
  · have hk := hk.2 c2
    have hr := (if_neg c2).symm.trans hr
    refine lv_aload_n (pc := 7) hx hb d_QC_lieVote_7 rfl (lv_at hl 0 rfl) ?_
    refine z_get (pc := 8) (v := .ref (ad (19, 0, 0))) hF hK.1 hW tq1 rfl rfl in_QC 1 (by decide) gw_345 rfl rfl d_QC_lieVote_8 ?_
    refine lv_iload_n (pc := 11) hx hb d_QC_lieVote_11 rfl (lv_at hl 2 rfl) ?_
    obtain ⟨r3, er3⟩ : ∃ z : Int32, z = f_Blocks_exists a2 S := ⟨_, rfl⟩
    have hk := lt_p er3 hk
    have hr := lt_e er3 hr
    refine p_go (pc := 12) (congrArg Value.int er3) (p_runV hF hK hW (c_Blocks_exists l D X ad ca a2 S _) cd_Blocks_exists gw_452 tq19 rfl rfl ⟨Nat.le_of_ble_eq_true rfl, Nat.le_of_ble_eq_true rfl⟩ ⟨Nat.zero_le _, Nat.zero_le _⟩ rfl rfl hl.1 (Nat.le_of_ble_eq_true rfl) d_QC_lieVote_12) ?_
    refine lv_if_ne (pc := 15) (tgt := 28) hx hb d_QC_lieVote_15 (by decide) (fun c4 => ?_) (fun c4 => ?_)
    · have hk := hk.2 c4
      have hr := (if_neg c4).symm.trans hr
      refine lv_aload_n (pc := 28) hx hb d_QC_lieVote_28 rfl (lv_at hl 0 rfl) ?_
      refine z_get (pc := 29) (v := .ref (ad (2, 0, 0))) hF hK.1 hW tq1 rfl rfl in_QC 0 (by decide) gw_344 rfl rfl d_QC_lieVote_29 ?_
      refine lv_iconst (pc := 32) (v := 3) hx hb d_QC_lieVote_32 (by decide) ?_
      have b5 : vp_in (3 : Int32) 4 := by unfold vp_in; decide
      refine z_aald (pc := 33) (q := ad (3, 3, 0)) hF hK.1 hW tq2 3 rfl rfl b5 rfl d_QC_lieVote_33 ?_
      refine lv_astore_n (pc := 34) (lv' := [(3, .ref (ad (3, 3, 0))), (0, .ref (ad (1, 0, 0))), (1, .int a1), (2, .int a2)]) hx hb d_QC_lieVote_34 rfl hl (by decide) rfl (fun ls hl => ?_)
      refine lv_aload_n (pc := 35) hx hb d_QC_lieVote_35 rfl (lv_at hl 0 rfl) ?_
      refine z_get (pc := 36) (v := .int (S.1 3 3 0 7)) hF hK.1 hW (tq3 (vin4 b5)) rfl rfl in_Node 7 (by decide) gw_310 rfl rfl d_QC_lieVote_36 ?_
      refine lv_if_eq (pc := 39) (tgt := 59) hx hb d_QC_lieVote_39 (by decide) (fun c6 => ?_) (fun c6 => ?_)
      · have hk := hk.1 c6
        have hr := (if_pos c6).symm.trans hr
        exact x_throw (pc := 59) (k := 2) (text := "the lying node can not vote") (cls := xIS) htr hF hy.2.2.1 hX hno hl.1 (congrArg Prod.fst hr.symm) (by decide) rfl xfS xatS (by decide +kernel) gw_577 gw_578 gw_68 (Nat.le_of_ble_eq_true rfl) (Nat.le_of_ble_eq_true rfl) ⟨rfl, rfl⟩ d_QC_lieVote_59 d_QC_lieVote_62 d_QC_lieVote_63 d_QC_lieVote_65 d_QC_lieVote_68
      · have hk := hk.2 c6
        have hr := (if_neg c6).symm.trans hr
        refine lv_aload_n (pc := 42) hx hb d_QC_lieVote_42 rfl (lv_at hl 0 rfl) ?_
        refine z_get (pc := 43) (v := .ref (ad (4, 3, 0))) hF hK.1 hW (tq3 (vin4 b5)) rfl rfl in_Node 1 (by decide) gw_298 rfl rfl d_QC_lieVote_43 ?_
        refine z_get (pc := 46) (v := .ref (ad (10, 3, 0))) hF hK.1 hW (tq4 (vin4 b5)) rfl rfl in_Store 3 (by decide) gw_270 rfl rfl d_QC_lieVote_46 ?_
        obtain ⟨r7, er7⟩ : ∃ z : Int32, z = f_KeyTree_isLeft 3 S := ⟨_, rfl⟩
        have hk := lt_p er7 hk
        have hr := lt_e er7 hr
        refine p_go (pc := 49) (congrArg Value.int er7) (p_runV hF hK hW (c_KeyTree_isLeft l D X ad ca 3 (vin4 b5) S _) cd_KeyTree_isLeft gw_801 (tq10 (vin4 b5)) rfl rfl ⟨Nat.le_of_ble_eq_true rfl, Nat.le_of_ble_eq_true rfl⟩ ⟨Nat.zero_le _, Nat.zero_le _⟩ rfl rfl hl.1 (Nat.le_of_ble_eq_true rfl) d_QC_lieVote_49) ?_
        refine lv_if_eq (pc := 52) (tgt := 59) hx hb d_QC_lieVote_52 (by decide) (fun c8 => ?_) (fun c8 => ?_)
        · have hk := hk.1 c8
          have hr := (if_pos c8).symm.trans hr
          exact x_throw (pc := 59) (k := 2) (text := "the lying node can not vote") (cls := xIS) htr hF hy.2.2.1 hX hno hl.1 (congrArg Prod.fst hr.symm) (by decide) rfl xfS xatS (by decide +kernel) gw_577 gw_578 gw_68 (Nat.le_of_ble_eq_true rfl) (Nat.le_of_ble_eq_true rfl) ⟨rfl, rfl⟩ d_QC_lieVote_59 d_QC_lieVote_62 d_QC_lieVote_63 d_QC_lieVote_65 d_QC_lieVote_68
        · have hk := hk.2 c8
          have hr := (if_neg c8).symm.trans hr
          refine lv_iload_n (pc := 55) hx hb d_QC_lieVote_55 rfl (lv_at hl 3 rfl) ?_
          refine lv_if_ne (pc := 56) (tgt := 69) hx hb d_QC_lieVote_56 (by decide) (fun c9 => ?_) (fun c9 => ?_)
          · have hk := hk.2 c9
            have hr := (if_neg c9).symm.trans hr
            refine lv_aload_n (pc := 69) hx hb d_QC_lieVote_69 rfl (lv_at hl 1 rfl) ?_
            refine lv_aload_n (pc := 70) hx hb d_QC_lieVote_70 rfl (lv_at hl 0 rfl) ?_
            refine lv_iconst (pc := 71) (v := 2) hx hb d_QC_lieVote_71 (by decide) ?_
            refine lv_iload_n (pc := 72) hx hb d_QC_lieVote_72 rfl (lv_at hl 3 rfl) ?_
            refine lv_iconst (pc := 73) (v := 0) hx hb d_QC_lieVote_73 (by decide) ?_
            have o10 := hk.1
            have hk := hk.2
            obtain ⟨r11, er11⟩ : ∃ z : Int32 × St, z = f_QC_writeSigned 3 (2 : Int32) a2 (0 : Int32) S := ⟨_, rfl⟩
            have hk := lt_p er11 hk
            have hr := lt_e er11 hr
            refine z_goI (pc := 74) hW hA (show (r11.1, r11.2) = _ from er11) (z_runV hF hK hW (c_QC_writeSigned l D X ad ca 3 (2 : Int32) a2 (0 : Int32) (vin4 b5) S o10 _) cd_QC_writeSigned gw_377 tq1 rfl rfl ⟨Nat.le_of_ble_eq_true rfl, Nat.le_of_ble_eq_true rfl⟩ ⟨Nat.zero_le _, Nat.zero_le _⟩ rfl rfl hl.1 (Nat.le_of_ble_eq_true rfl) d_QC_lieVote_74) (fun H locs (hW : Wd D clQ A s.heap (zw X ad TQ (cfQ ad ca) r11.2) H locs) => ?_)
            refine lv_if_eq (pc := 77) (tgt := 96) hx hb d_QC_lieVote_77 (by decide) (fun c12 => ?_) (fun c12 => ?_)
            · have hk := hk.1 c12
              have hr := (if_pos c12).symm.trans hr
              refine lv_iconst (pc := 96) (v := 1) hx hb d_QC_lieVote_96 (by decide) ?_
              exact x_zret (v := (1 : Int32)) hy hW rfl hr.symm d_QC_lieVote_97
            · have hk := hk.2 c12
              have hr := (if_neg c12).symm.trans hr
              refine lv_aload_n (pc := 80) hx hb d_QC_lieVote_80 rfl (lv_at hl 1 rfl) ?_
              refine z_get (pc := 81) (v := .ref (ad (2, 0, 0))) hF hK.1 hW tq1 rfl rfl in_QC 0 (by decide) gw_344 rfl rfl d_QC_lieVote_81 ?_
              refine lv_iload_n (pc := 84) hx hb d_QC_lieVote_84 rfl (lv_at hl 2 rfl) ?_
              have b13 := hk.1
              have hk := hk.2
              refine z_aald (pc := 85) (q := ad (3, (a1.toNatClampNeg), 0)) hF hK.1 hW tq2 3 rfl rfl b13 rfl d_QC_lieVote_85 ?_
              refine z_get (pc := 86) (v := .ref (ad (12, (a1.toNatClampNeg), 0))) hF hK.1 hW (tq3 (vin4 b13)) rfl rfl in_Node 2 (by decide) gw_300 rfl rfl d_QC_lieVote_86 ?_
              refine lv_aload_n (pc := 89) hx hb d_QC_lieVote_89 rfl (lv_at hl 1 rfl) ?_
              refine z_get (pc := 90) (v := .ref (ad (14, 4, 0))) hF hK.1 hW tq1 rfl rfl in_QC 3 (by decide) gw_347 rfl rfl d_QC_lieVote_90 ?_
              have o14 := hk.1
              have hk := hk.2
              obtain ⟨S16, eS16⟩ : ∃ z : St, z = f_Inbox_add (a1.toNatClampNeg) 4 0 r11.2 := ⟨_, rfl⟩
              have hr := lt_e eS16 hr
              refine z_goV (pc := 93) hW hA eS16 (z_runV hF hK hW (c_Inbox_add l D X ad ca (a1.toNatClampNeg) 4 0 (vin4 b13) inM_D r11.2 o14 _) cd_Inbox_add gw_411 (tq12 (vin4 b13)) rfl rfl ⟨Nat.le_of_ble_eq_true rfl, Nat.le_of_ble_eq_true rfl⟩ ⟨Nat.zero_le _, Nat.zero_le _⟩ rfl rfl hl.1 (Nat.le_of_ble_eq_true rfl) d_QC_lieVote_93) (fun H locs (hW : Wd D clQ A s.heap (zw X ad TQ (cfQ ad ca) S16) H locs) => ?_)
              refine lv_iconst (pc := 96) (v := 1) hx hb d_QC_lieVote_96 (by decide) ?_
              exact x_zret (v := (1 : Int32)) hy hW rfl hr.symm d_QC_lieVote_97
          · have hk := hk.1 c9
            have hr := (if_pos c9).symm.trans hr
            exact x_throw (pc := 59) (k := 2) (text := "the lying node can not vote") (cls := xIS) htr hF hy.2.2.1 hX hno hl.1 (congrArg Prod.fst hr.symm) (by decide) rfl xfS xatS (by decide +kernel) gw_577 gw_578 gw_68 (Nat.le_of_ble_eq_true rfl) (Nat.le_of_ble_eq_true rfl) ⟨rfl, rfl⟩ d_QC_lieVote_59 d_QC_lieVote_62 d_QC_lieVote_63 d_QC_lieVote_65 d_QC_lieVote_68
    · have hk := hk.1 c4
      have hr := (if_pos c4).symm.trans hr
      exact x_throw (pc := 18) (k := 1) (text := "no such node or block") (cls := xIA) htr hF hy.2.2.1 hX hno hl.1 (congrArg Prod.fst hr.symm) (by decide) rfl xfA xatA (by decide +kernel) gw_509 gw_510 gw_67 (Nat.le_of_ble_eq_true rfl) (Nat.le_of_ble_eq_true rfl) ⟨rfl, rfl⟩ d_QC_lieVote_18 d_QC_lieVote_21 d_QC_lieVote_22 d_QC_lieVote_24 d_QC_lieVote_27
theorem d_QC_crash_0 : decode b_QC_crash 0 = .ok (.iload_n 1, 1) := by decide +kernel
theorem d_QC_crash_1 : decode b_QC_crash 1 = .ok (.invokestatic 68, 3) := by decide +kernel
theorem d_QC_crash_4 : decode b_QC_crash 4 = .ok (.ifCond .ne 13, 3) := by decide +kernel
theorem d_QC_crash_7 : decode b_QC_crash 7 = .ok (.new 46, 3) := by decide +kernel
theorem d_QC_crash_10 : decode b_QC_crash 10 = .ok (.dup, 1) := by decide +kernel
theorem d_QC_crash_11 : decode b_QC_crash 11 = .ok (.ldc 97, 2) := by decide +kernel
theorem d_QC_crash_13 : decode b_QC_crash 13 = .ok (.invokespecial 50, 3) := by decide +kernel
theorem d_QC_crash_16 : decode b_QC_crash 16 = .ok (.athrow, 1) := by decide +kernel
theorem d_QC_crash_17 : decode b_QC_crash 17 = .ok (.aload_n 0, 1) := by decide +kernel
theorem d_QC_crash_18 : decode b_QC_crash 18 = .ok (.getfield 11, 3) := by decide +kernel
theorem d_QC_crash_21 : decode b_QC_crash 21 = .ok (.iload_n 1, 1) := by decide +kernel
theorem d_QC_crash_22 : decode b_QC_crash 22 = .ok (.aaload, 1) := by decide +kernel
theorem d_QC_crash_23 : decode b_QC_crash 23 = .ok (.getfield 76, 3) := by decide +kernel
theorem d_QC_crash_26 : decode b_QC_crash 26 = .ok (.ifCond .ne 13, 3) := by decide +kernel
theorem d_QC_crash_29 : decode b_QC_crash 29 = .ok (.new 59, 3) := by decide +kernel
theorem d_QC_crash_32 : decode b_QC_crash 32 = .ok (.dup, 1) := by decide +kernel
theorem d_QC_crash_33 : decode b_QC_crash 33 = .ok (.ldc 80, 2) := by decide +kernel
theorem d_QC_crash_35 : decode b_QC_crash 35 = .ok (.invokespecial 63, 3) := by decide +kernel
theorem d_QC_crash_38 : decode b_QC_crash 38 = .ok (.athrow, 1) := by decide +kernel
theorem d_QC_crash_39 : decode b_QC_crash 39 = .ok (.aload_n 0, 1) := by decide +kernel
theorem d_QC_crash_40 : decode b_QC_crash 40 = .ok (.getfield 11, 3) := by decide +kernel
theorem d_QC_crash_43 : decode b_QC_crash 43 = .ok (.iload_n 1, 1) := by decide +kernel
theorem d_QC_crash_44 : decode b_QC_crash 44 = .ok (.aaload, 1) := by decide +kernel
theorem d_QC_crash_45 : decode b_QC_crash 45 = .ok (.invokevirtual 230, 3) := by decide +kernel
theorem d_QC_crash_48 : decode b_QC_crash 48 = .ok (.iconst 1, 1) := by decide +kernel
theorem d_QC_crash_49 : decode b_QC_crash 49 = .ok (.ireturn, 1) := by decide +kernel
def f_QC_crash (a1 : Int32) (S : St) : Nat × Int32 × St :=
  lt (f_QC_isNode a1 S) fun (r1 : Int32) =>
  if r1 = 0 then
    (1, (0 : Int32), S)
  else
    if (S.1 3 (a1.toNatClampNeg) 0 7) = 0 then
      (2, (0 : Int32), S)
    else
      lt (f_Node_fall (a1.toNatClampNeg) S) fun (S8 : St) =>
      (0, (1 : Int32), S8)
def ok_QC_crash (a1 : Int32) (S : St) : Prop :=
  lt (f_QC_isNode a1 S) fun (r1 : Int32) =>
  (r1 = 0 → (
    True)) ∧ (¬ (r1 = 0) → (
    (vp_in a1 4) ∧ (
      ((S.1 3 (a1.toNatClampNeg) 0 7) = 0 → (
        True)) ∧ (¬ ((S.1 3 (a1.toNatClampNeg) 0 7) = 0) → (
        (vp_in a1 4) ∧ (
          (ok_Node_fall (a1.toNatClampNeg) S) ∧ (
            True)))))))
set_option maxHeartbeats 4000000 in
set_option maxRecDepth 100000 in
theorem c_QC_crash (l : Launch) (htr : l.stackTraces = false) (D : va_G) (X : va_W) (ad : N3 → Nat) (ca : Nat → ClassId) (a1 : Int32)  (S : St) (hk : ok_QC_crash a1 S) : cX l GG D clQ (tysQ ca) nwQ X ad TQ (cfQ ad ca) y_QC_crash b_QC_crash 2 .boolean 6 100 [.ref (ad (1, 0, 0)), .int a1] S (f_QC_crash a1 S) := by
  generalize hr : f_QC_crash a1 S = res
  refine xI_of pn_QC (Nat.le_of_ble_eq_true rfl) (fun p e s m below meth c A ls hy hX hno hW hA hl => ?_)
  have hF := hy.1
  have hx := hF.1
  have hb := hF.2.1
  have hK := hy.2.2.2
  have hl : lv_has ls 2 [(0, .ref (ad (1, 0, 0))), (1, .int a1)] := hl
  refine lv_iload_n (pc := 0) hx hb d_QC_crash_0 rfl (lv_at hl 1 rfl) ?_
  obtain ⟨r1, er1⟩ : ∃ z : Int32, z = f_QC_isNode a1 S := ⟨_, rfl⟩
  have hk := lt_p er1 hk
  have hr := lt_e er1 hr
  refine p_go (pc := 1) (congrArg Value.int er1) (p_runS hF hK hW (c_QC_isNode l D X ad ca a1 S _) cd_QC_isNode gw_430 ⟨Nat.le_of_ble_eq_true rfl, Nat.le_of_ble_eq_true rfl⟩ ⟨Nat.zero_le _, Nat.zero_le _⟩ rfl rfl hl.1 (Nat.le_of_ble_eq_true rfl) d_QC_crash_1) ?_
  refine lv_if_ne (pc := 4) (tgt := 17) hx hb d_QC_crash_4 (by decide) (fun c2 => ?_) (fun c2 => ?_)
  · have hk := hk.2 c2
    have hr := (if_neg c2).symm.trans hr
    refine lv_aload_n (pc := 17) hx hb d_QC_crash_17 rfl (lv_at hl 0 rfl) ?_
    refine z_get (pc := 18) (v := .ref (ad (2, 0, 0))) hF hK.1 hW tq1 rfl rfl in_QC 0 (by decide) gw_344 rfl rfl d_QC_crash_18 ?_
    refine lv_iload_n (pc := 21) hx hb d_QC_crash_21 rfl (lv_at hl 1 rfl) ?_
    have b3 := hk.1
    have hk := hk.2
    refine z_aald (pc := 22) (q := ad (3, (a1.toNatClampNeg), 0)) hF hK.1 hW tq2 3 rfl rfl b3 rfl d_QC_crash_22 ?_
    refine z_get (pc := 23) (v := .int (S.1 3 (a1.toNatClampNeg) 0 7)) hF hK.1 hW (tq3 (vin4 b3)) rfl rfl in_Node 7 (by decide) gw_310 rfl rfl d_QC_crash_23 ?_
    refine lv_if_ne (pc := 26) (tgt := 39) hx hb d_QC_crash_26 (by decide) (fun c4 => ?_) (fun c4 => ?_)
    · have hk := hk.2 c4
      have hr := (if_neg c4).symm.trans hr
      refine lv_aload_n (pc := 39) hx hb d_QC_crash_39 rfl (lv_at hl 0 rfl) ?_
      refine z_get (pc := 40) (v := .ref (ad (2, 0, 0))) hF hK.1 hW tq1 rfl rfl in_QC 0 (by decide) gw_344 rfl rfl d_QC_crash_40 ?_
      refine lv_iload_n (pc := 43) hx hb d_QC_crash_43 rfl (lv_at hl 1 rfl) ?_
      have b5 := hk.1
      have hk := hk.2
      refine z_aald (pc := 44) (q := ad (3, (a1.toNatClampNeg), 0)) hF hK.1 hW tq2 3 rfl rfl b5 rfl d_QC_crash_44 ?_
      have o6 := hk.1
      have hk := hk.2
      obtain ⟨S8, eS8⟩ : ∃ z : St, z = f_Node_fall (a1.toNatClampNeg) S := ⟨_, rfl⟩
      have hr := lt_e eS8 hr
      refine z_goV (pc := 45) hW hA eS8 (z_runV hF hK hW (c_Node_fall l D X ad ca (a1.toNatClampNeg) (vin4 b5) S o6 _) cd_Node_fall gw_820 (tq3 (vin4 b5)) rfl rfl ⟨Nat.le_of_ble_eq_true rfl, Nat.le_of_ble_eq_true rfl⟩ ⟨Nat.zero_le _, Nat.zero_le _⟩ rfl rfl hl.1 (Nat.le_of_ble_eq_true rfl) d_QC_crash_45) (fun H locs (hW : Wd D clQ A s.heap (zw X ad TQ (cfQ ad ca) S8) H locs) => ?_)
      refine lv_iconst (pc := 48) (v := 1) hx hb d_QC_crash_48 (by decide) ?_
      exact x_zret (v := (1 : Int32)) hy hW rfl hr.symm d_QC_crash_49
    · have hk := hk.1 c4
      have hr := (if_pos c4).symm.trans hr
      exact x_throw (pc := 29) (k := 2) (text := "the node is down") (cls := xIS) htr hF hy.2.2.1 hX hno hl.1 (congrArg Prod.fst hr.symm) (by decide) rfl xfS xatS (by decide +kernel) gw_577 gw_578 gw_68 (Nat.le_of_ble_eq_true rfl) (Nat.le_of_ble_eq_true rfl) ⟨rfl, rfl⟩ d_QC_crash_29 d_QC_crash_32 d_QC_crash_33 d_QC_crash_35 d_QC_crash_38
  · have hk := hk.1 c2
    have hr := (if_pos c2).symm.trans hr
    exact x_throw (pc := 7) (k := 1) (text := "no such node") (cls := xIA) htr hF hy.2.2.1 hX hno hl.1 (congrArg Prod.fst hr.symm) (by decide) rfl xfA xatA (by decide +kernel) gw_509 gw_510 gw_67 (Nat.le_of_ble_eq_true rfl) (Nat.le_of_ble_eq_true rfl) ⟨rfl, rfl⟩ d_QC_crash_7 d_QC_crash_10 d_QC_crash_11 d_QC_crash_13 d_QC_crash_16
theorem d_QC_restart_0 : decode b_QC_restart 0 = .ok (.iload_n 1, 1) := by decide +kernel
theorem d_QC_restart_1 : decode b_QC_restart 1 = .ok (.invokestatic 68, 3) := by decide +kernel
theorem d_QC_restart_4 : decode b_QC_restart 4 = .ok (.ifCond .ne 13, 3) := by decide +kernel
theorem d_QC_restart_7 : decode b_QC_restart 7 = .ok (.new 46, 3) := by decide +kernel
theorem d_QC_restart_10 : decode b_QC_restart 10 = .ok (.dup, 1) := by decide +kernel
theorem d_QC_restart_11 : decode b_QC_restart 11 = .ok (.ldc 97, 2) := by decide +kernel
theorem d_QC_restart_13 : decode b_QC_restart 13 = .ok (.invokespecial 50, 3) := by decide +kernel
theorem d_QC_restart_16 : decode b_QC_restart 16 = .ok (.athrow, 1) := by decide +kernel
theorem d_QC_restart_17 : decode b_QC_restart 17 = .ok (.aload_n 0, 1) := by decide +kernel
theorem d_QC_restart_18 : decode b_QC_restart 18 = .ok (.getfield 11, 3) := by decide +kernel
theorem d_QC_restart_21 : decode b_QC_restart 21 = .ok (.iload_n 1, 1) := by decide +kernel
theorem d_QC_restart_22 : decode b_QC_restart 22 = .ok (.aaload, 1) := by decide +kernel
theorem d_QC_restart_23 : decode b_QC_restart 23 = .ok (.getfield 76, 3) := by decide +kernel
theorem d_QC_restart_26 : decode b_QC_restart 26 = .ok (.ifCond .eq 13, 3) := by decide +kernel
theorem d_QC_restart_29 : decode b_QC_restart 29 = .ok (.new 59, 3) := by decide +kernel
theorem d_QC_restart_32 : decode b_QC_restart 32 = .ok (.dup, 1) := by decide +kernel
theorem d_QC_restart_33 : decode b_QC_restart 33 = .ok (.ldc 233, 2) := by decide +kernel
theorem d_QC_restart_35 : decode b_QC_restart 35 = .ok (.invokespecial 63, 3) := by decide +kernel
theorem d_QC_restart_38 : decode b_QC_restart 38 = .ok (.athrow, 1) := by decide +kernel
theorem d_QC_restart_39 : decode b_QC_restart 39 = .ok (.aload_n 0, 1) := by decide +kernel
theorem d_QC_restart_40 : decode b_QC_restart 40 = .ok (.getfield 11, 3) := by decide +kernel
theorem d_QC_restart_43 : decode b_QC_restart 43 = .ok (.iload_n 1, 1) := by decide +kernel
theorem d_QC_restart_44 : decode b_QC_restart 44 = .ok (.aaload, 1) := by decide +kernel
theorem d_QC_restart_45 : decode b_QC_restart 45 = .ok (.aload_n 0, 1) := by decide +kernel
theorem d_QC_restart_46 : decode b_QC_restart 46 = .ok (.aload_n 0, 1) := by decide +kernel
theorem d_QC_restart_47 : decode b_QC_restart 47 = .ok (.getfield 11, 3) := by decide +kernel
theorem d_QC_restart_50 : decode b_QC_restart 50 = .ok (.iload_n 1, 1) := by decide +kernel
theorem d_QC_restart_51 : decode b_QC_restart 51 = .ok (.aaload, 1) := by decide +kernel
theorem d_QC_restart_52 : decode b_QC_restart 52 = .ok (.getfield 179, 3) := by decide +kernel
theorem d_QC_restart_55 : decode b_QC_restart 55 = .ok (.invokevirtual 235, 3) := by decide +kernel
theorem d_QC_restart_58 : decode b_QC_restart 58 = .ok (.invokevirtual 239, 3) := by decide +kernel
theorem d_QC_restart_61 : decode b_QC_restart 61 = .ok (.iconst 1, 1) := by decide +kernel
theorem d_QC_restart_62 : decode b_QC_restart 62 = .ok (.ireturn, 1) := by decide +kernel
def f_QC_restart (a1 : Int32) (S : St) : Nat × Int32 × St :=
  lt (f_QC_isNode a1 S) fun (r1 : Int32) =>
  if r1 = 0 then
    (1, (0 : Int32), S)
  else
    if (S.1 3 (a1.toNatClampNeg) 0 7) = 0 then
      lt (f_QC_highestParent (a1.toNatClampNeg) S) fun (r8 : Int32) =>
      lt (f_Node_rise (a1.toNatClampNeg) r8 S) fun (S10 : St) =>
      (0, (1 : Int32), S10)
    else
      (2, (0 : Int32), S)
def ok_QC_restart (a1 : Int32) (S : St) : Prop :=
  lt (f_QC_isNode a1 S) fun (r1 : Int32) =>
  (r1 = 0 → (
    True)) ∧ (¬ (r1 = 0) → (
    (vp_in a1 4) ∧ (
      ((S.1 3 (a1.toNatClampNeg) 0 7) = 0 → (
        (vp_in a1 4) ∧ (
          (vp_in a1 4) ∧ (
            (ok_QC_highestParent (a1.toNatClampNeg) S) ∧ (
              True))))) ∧ (¬ ((S.1 3 (a1.toNatClampNeg) 0 7) = 0) → (
        True)))))
set_option maxHeartbeats 4000000 in
set_option maxRecDepth 100000 in
theorem c_QC_restart (l : Launch) (htr : l.stackTraces = false) (D : va_G) (X : va_W) (ad : N3 → Nat) (ca : Nat → ClassId) (a1 : Int32)  (S : St) (hk : ok_QC_restart a1 S) : cX l GG D clQ (tysQ ca) nwQ X ad TQ (cfQ ad ca) y_QC_restart b_QC_restart 2 .boolean 6 100 [.ref (ad (1, 0, 0)), .int a1] S (f_QC_restart a1 S) := by
  generalize hr : f_QC_restart a1 S = res
  refine xI_of pn_QC (Nat.le_of_ble_eq_true rfl) (fun p e s m below meth c A ls hy hX hno hW hA hl => ?_)
  have hF := hy.1
  have hx := hF.1
  have hb := hF.2.1
  have hK := hy.2.2.2
  have hl : lv_has ls 2 [(0, .ref (ad (1, 0, 0))), (1, .int a1)] := hl
  refine lv_iload_n (pc := 0) hx hb d_QC_restart_0 rfl (lv_at hl 1 rfl) ?_
  obtain ⟨r1, er1⟩ : ∃ z : Int32, z = f_QC_isNode a1 S := ⟨_, rfl⟩
  have hk := lt_p er1 hk
  have hr := lt_e er1 hr
  refine p_go (pc := 1) (congrArg Value.int er1) (p_runS hF hK hW (c_QC_isNode l D X ad ca a1 S _) cd_QC_isNode gw_430 ⟨Nat.le_of_ble_eq_true rfl, Nat.le_of_ble_eq_true rfl⟩ ⟨Nat.zero_le _, Nat.zero_le _⟩ rfl rfl hl.1 (Nat.le_of_ble_eq_true rfl) d_QC_restart_1) ?_
  refine lv_if_ne (pc := 4) (tgt := 17) hx hb d_QC_restart_4 (by decide) (fun c2 => ?_) (fun c2 => ?_)
  · have hk := hk.2 c2
    have hr := (if_neg c2).symm.trans hr
    refine lv_aload_n (pc := 17) hx hb d_QC_restart_17 rfl (lv_at hl 0 rfl) ?_
    refine z_get (pc := 18) (v := .ref (ad (2, 0, 0))) hF hK.1 hW tq1 rfl rfl in_QC 0 (by decide) gw_344 rfl rfl d_QC_restart_18 ?_
    refine lv_iload_n (pc := 21) hx hb d_QC_restart_21 rfl (lv_at hl 1 rfl) ?_
    have b3 := hk.1
    have hk := hk.2
    refine z_aald (pc := 22) (q := ad (3, (a1.toNatClampNeg), 0)) hF hK.1 hW tq2 3 rfl rfl b3 rfl d_QC_restart_22 ?_
    refine z_get (pc := 23) (v := .int (S.1 3 (a1.toNatClampNeg) 0 7)) hF hK.1 hW (tq3 (vin4 b3)) rfl rfl in_Node 7 (by decide) gw_310 rfl rfl d_QC_restart_23 ?_
    refine lv_if_eq (pc := 26) (tgt := 39) hx hb d_QC_restart_26 (by decide) (fun c4 => ?_) (fun c4 => ?_)
    · have hk := hk.1 c4
      have hr := (if_pos c4).symm.trans hr
      refine lv_aload_n (pc := 39) hx hb d_QC_restart_39 rfl (lv_at hl 0 rfl) ?_
      refine z_get (pc := 40) (v := .ref (ad (2, 0, 0))) hF hK.1 hW tq1 rfl rfl in_QC 0 (by decide) gw_344 rfl rfl d_QC_restart_40 ?_
      refine lv_iload_n (pc := 43) hx hb d_QC_restart_43 rfl (lv_at hl 1 rfl) ?_
      have b5 := hk.1
      have hk := hk.2
      refine z_aald (pc := 44) (q := ad (3, (a1.toNatClampNeg), 0)) hF hK.1 hW tq2 3 rfl rfl b5 rfl d_QC_restart_44 ?_
      refine lv_aload_n (pc := 45) hx hb d_QC_restart_45 rfl (lv_at hl 0 rfl) ?_
      refine lv_aload_n (pc := 46) hx hb d_QC_restart_46 rfl (lv_at hl 0 rfl) ?_
      refine z_get (pc := 47) (v := .ref (ad (2, 0, 0))) hF hK.1 hW tq1 rfl rfl in_QC 0 (by decide) gw_344 rfl rfl d_QC_restart_47 ?_
      refine lv_iload_n (pc := 50) hx hb d_QC_restart_50 rfl (lv_at hl 1 rfl) ?_
      have b6 := hk.1
      have hk := hk.2
      refine z_aald (pc := 51) (q := ad (3, (a1.toNatClampNeg), 0)) hF hK.1 hW tq2 3 rfl rfl b6 rfl d_QC_restart_51 ?_
      refine z_get (pc := 52) (v := .ref (ad (4, (a1.toNatClampNeg), 0))) hF hK.1 hW (tq3 (vin4 b6)) rfl rfl in_Node 1 (by decide) gw_298 rfl rfl d_QC_restart_52 ?_
      have o7 := hk.1
      have hk := hk.2
      obtain ⟨r8, er8⟩ : ∃ z : Int32, z = f_QC_highestParent (a1.toNatClampNeg) S := ⟨_, rfl⟩
      have hr := lt_e er8 hr
      refine p_go (pc := 55) (congrArg Value.int er8) (p_runV hF hK hW (c_QC_highestParent l D X ad ca (a1.toNatClampNeg) (vin4 b6) S o7 _) cd_QC_highestParent gw_836 tq1 rfl rfl ⟨Nat.le_of_ble_eq_true rfl, Nat.le_of_ble_eq_true rfl⟩ ⟨Nat.zero_le _, Nat.zero_le _⟩ rfl rfl hl.1 (Nat.le_of_ble_eq_true rfl) d_QC_restart_55) ?_
      obtain ⟨S10, eS10⟩ : ∃ z : St, z = f_Node_rise (a1.toNatClampNeg) r8 S := ⟨_, rfl⟩
      have hr := lt_e eS10 hr
      refine z_goV (pc := 58) hW hA eS10 (z_runV hF hK hW (c_Node_rise l D X ad ca (a1.toNatClampNeg) r8 (vin4 b5) S _) cd_Node_rise gw_840 (tq3 (vin4 b5)) rfl rfl ⟨Nat.le_of_ble_eq_true rfl, Nat.le_of_ble_eq_true rfl⟩ ⟨Nat.zero_le _, Nat.zero_le _⟩ rfl rfl hl.1 (Nat.le_of_ble_eq_true rfl) d_QC_restart_58) (fun H locs (hW : Wd D clQ A s.heap (zw X ad TQ (cfQ ad ca) S10) H locs) => ?_)
      refine lv_iconst (pc := 61) (v := 1) hx hb d_QC_restart_61 (by decide) ?_
      exact x_zret (v := (1 : Int32)) hy hW rfl hr.symm d_QC_restart_62
    · have hk := hk.2 c4
      have hr := (if_neg c4).symm.trans hr
      exact x_throw (pc := 29) (k := 2) (text := "the node is up") (cls := xIS) htr hF hy.2.2.1 hX hno hl.1 (congrArg Prod.fst hr.symm) (by decide) rfl xfS xatS (by decide +kernel) gw_577 gw_578 gw_68 (Nat.le_of_ble_eq_true rfl) (Nat.le_of_ble_eq_true rfl) ⟨rfl, rfl⟩ d_QC_restart_29 d_QC_restart_32 d_QC_restart_33 d_QC_restart_35 d_QC_restart_38
  · have hk := hk.1 c2
    have hr := (if_pos c2).symm.trans hr
    exact x_throw (pc := 7) (k := 1) (text := "no such node") (cls := xIA) htr hF hy.2.2.1 hX hno hl.1 (congrArg Prod.fst hr.symm) (by decide) rfl xfA xatA (by decide +kernel) gw_509 gw_510 gw_67 (Nat.le_of_ble_eq_true rfl) (Nat.le_of_ble_eq_true rfl) ⟨rfl, rfl⟩ d_QC_restart_7 d_QC_restart_10 d_QC_restart_11 d_QC_restart_13 d_QC_restart_16
