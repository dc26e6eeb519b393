theorem d_QC_deliver_0 : decode b_QC_deliver 0 = .ok (.iload_n 1, 1) := by decide +kernel
theorem d_QC_deliver_1 : decode b_QC_deliver 1 = .ok (.invokestatic 68, 3) := by decide +kernel
theorem d_QC_deliver_4 : decode b_QC_deliver 4 = .ok (.ifCond .ne 13, 3) := by decide +kernel
theorem d_QC_deliver_7 : decode b_QC_deliver 7 = .ok (.new 46, 3) := by decide +kernel
theorem d_QC_deliver_10 : decode b_QC_deliver 10 = .ok (.dup, 1) := by decide +kernel
theorem d_QC_deliver_11 : decode b_QC_deliver 11 = .ok (.ldc 97, 2) := by decide +kernel
theorem d_QC_deliver_13 : decode b_QC_deliver 13 = .ok (.invokespecial 50, 3) := by decide +kernel
theorem d_QC_deliver_16 : decode b_QC_deliver 16 = .ok (.athrow, 1) := by decide +kernel
theorem d_QC_deliver_17 : decode b_QC_deliver 17 = .ok (.aload_n 0, 1) := by decide +kernel
theorem d_QC_deliver_18 : decode b_QC_deliver 18 = .ok (.getfield 11, 3) := by decide +kernel
theorem d_QC_deliver_21 : decode b_QC_deliver 21 = .ok (.iload_n 1, 1) := by decide +kernel
theorem d_QC_deliver_22 : decode b_QC_deliver 22 = .ok (.aaload, 1) := by decide +kernel
theorem d_QC_deliver_23 : decode b_QC_deliver 23 = .ok (.astore_n 2, 1) := by decide +kernel
theorem d_QC_deliver_24 : decode b_QC_deliver 24 = .ok (.aload_n 2, 1) := by decide +kernel
theorem d_QC_deliver_25 : decode b_QC_deliver 25 = .ok (.getfield 99, 3) := by decide +kernel
theorem d_QC_deliver_28 : decode b_QC_deliver 28 = .ok (.getfield 103, 3) := by decide +kernel
theorem d_QC_deliver_31 : decode b_QC_deliver 31 = .ok (.ifCond .ne 13, 3) := by decide +kernel
theorem d_QC_deliver_34 : decode b_QC_deliver 34 = .ok (.new 59, 3) := by decide +kernel
theorem d_QC_deliver_37 : decode b_QC_deliver 37 = .ok (.dup, 1) := by decide +kernel
theorem d_QC_deliver_38 : decode b_QC_deliver 38 = .ok (.ldc 106, 2) := by decide +kernel
theorem d_QC_deliver_40 : decode b_QC_deliver 40 = .ok (.invokespecial 63, 3) := by decide +kernel
theorem d_QC_deliver_43 : decode b_QC_deliver 43 = .ok (.athrow, 1) := by decide +kernel
theorem d_QC_deliver_44 : decode b_QC_deliver 44 = .ok (.aload_n 0, 1) := by decide +kernel
theorem d_QC_deliver_45 : decode b_QC_deliver 45 = .ok (.getfield 36, 3) := by decide +kernel
theorem d_QC_deliver_48 : decode b_QC_deliver 48 = .ok (.aload_n 2, 1) := by decide +kernel
theorem d_QC_deliver_49 : decode b_QC_deliver 49 = .ok (.getfield 99, 3) := by decide +kernel
theorem d_QC_deliver_52 : decode b_QC_deliver 52 = .ok (.invokevirtual 108, 3) := by decide +kernel
theorem d_QC_deliver_55 : decode b_QC_deliver 55 = .ok (.invokevirtual 112, 3) := by decide +kernel
theorem d_QC_deliver_58 : decode b_QC_deliver 58 = .ok (.aload_n 2, 1) := by decide +kernel
theorem d_QC_deliver_59 : decode b_QC_deliver 59 = .ok (.getfield 99, 3) := by decide +kernel
theorem d_QC_deliver_62 : decode b_QC_deliver 62 = .ok (.invokevirtual 116, 3) := by decide +kernel
theorem d_QC_deliver_65 : decode b_QC_deliver 65 = .ok (.aload_n 2, 1) := by decide +kernel
theorem d_QC_deliver_66 : decode b_QC_deliver 66 = .ok (.getfield 76, 3) := by decide +kernel
theorem d_QC_deliver_69 : decode b_QC_deliver 69 = .ok (.ifCond .eq 165, 3) := by decide +kernel
theorem d_QC_deliver_72 : decode b_QC_deliver 72 = .ok (.aload_n 0, 1) := by decide +kernel
theorem d_QC_deliver_73 : decode b_QC_deliver 73 = .ok (.aload_n 0, 1) := by decide +kernel
theorem d_QC_deliver_74 : decode b_QC_deliver 74 = .ok (.getfield 36, 3) := by decide +kernel
theorem d_QC_deliver_77 : decode b_QC_deliver 77 = .ok (.invokevirtual 119, 3) := by decide +kernel
theorem d_QC_deliver_80 : decode b_QC_deliver 80 = .ok (.ifCond .eq 154, 3) := by decide +kernel
theorem d_QC_deliver_83 : decode b_QC_deliver 83 = .ok (.aload_n 0, 1) := by decide +kernel
theorem d_QC_deliver_84 : decode b_QC_deliver 84 = .ok (.getfield 36, 3) := by decide +kernel
theorem d_QC_deliver_87 : decode b_QC_deliver 87 = .ok (.getfield 123, 3) := by decide +kernel
theorem d_QC_deliver_90 : decode b_QC_deliver 90 = .ok (.tableswitch 125 1 4 #[30, 52, 74, 103], 30) := by decide +kernel
theorem d_QC_deliver_120 : decode b_QC_deliver 120 = .ok (.aload_n 0, 1) := by decide +kernel
theorem d_QC_deliver_121 : decode b_QC_deliver 121 = .ok (.aload_n 2, 1) := by decide +kernel
theorem d_QC_deliver_122 : decode b_QC_deliver 122 = .ok (.aload_n 0, 1) := by decide +kernel
theorem d_QC_deliver_123 : decode b_QC_deliver 123 = .ok (.getfield 36, 3) := by decide +kernel
theorem d_QC_deliver_126 : decode b_QC_deliver 126 = .ok (.getfield 126, 3) := by decide +kernel
theorem d_QC_deliver_129 : decode b_QC_deliver 129 = .ok (.aload_n 0, 1) := by decide +kernel
theorem d_QC_deliver_130 : decode b_QC_deliver 130 = .ok (.getfield 36, 3) := by decide +kernel
theorem d_QC_deliver_133 : decode b_QC_deliver 133 = .ok (.getfield 129, 3) := by decide +kernel
theorem d_QC_deliver_136 : decode b_QC_deliver 136 = .ok (.invokevirtual 132, 3) := by decide +kernel
theorem d_QC_deliver_139 : decode b_QC_deliver 139 = .ok (.goto 95, 3) := by decide +kernel
theorem d_QC_deliver_142 : decode b_QC_deliver 142 = .ok (.aload_n 0, 1) := by decide +kernel
theorem d_QC_deliver_143 : decode b_QC_deliver 143 = .ok (.aload_n 2, 1) := by decide +kernel
theorem d_QC_deliver_144 : decode b_QC_deliver 144 = .ok (.aload_n 0, 1) := by decide +kernel
theorem d_QC_deliver_145 : decode b_QC_deliver 145 = .ok (.getfield 36, 3) := by decide +kernel
theorem d_QC_deliver_148 : decode b_QC_deliver 148 = .ok (.getfield 126, 3) := by decide +kernel
theorem d_QC_deliver_151 : decode b_QC_deliver 151 = .ok (.aload_n 0, 1) := by decide +kernel
theorem d_QC_deliver_152 : decode b_QC_deliver 152 = .ok (.getfield 36, 3) := by decide +kernel
theorem d_QC_deliver_155 : decode b_QC_deliver 155 = .ok (.getfield 129, 3) := by decide +kernel
theorem d_QC_deliver_158 : decode b_QC_deliver 158 = .ok (.invokevirtual 136, 3) := by decide +kernel
theorem d_QC_deliver_161 : decode b_QC_deliver 161 = .ok (.goto 73, 3) := by decide +kernel
theorem d_QC_deliver_164 : decode b_QC_deliver 164 = .ok (.aload_n 0, 1) := by decide +kernel
theorem d_QC_deliver_165 : decode b_QC_deliver 165 = .ok (.aload_n 2, 1) := by decide +kernel
theorem d_QC_deliver_166 : decode b_QC_deliver 166 = .ok (.aload_n 0, 1) := by decide +kernel
theorem d_QC_deliver_167 : decode b_QC_deliver 167 = .ok (.getfield 36, 3) := by decide +kernel
theorem d_QC_deliver_170 : decode b_QC_deliver 170 = .ok (.getfield 126, 3) := by decide +kernel
theorem d_QC_deliver_173 : decode b_QC_deliver 173 = .ok (.aload_n 0, 1) := by decide +kernel
theorem d_QC_deliver_174 : decode b_QC_deliver 174 = .ok (.getfield 36, 3) := by decide +kernel
theorem d_QC_deliver_177 : decode b_QC_deliver 177 = .ok (.getfield 139, 3) := by decide +kernel
theorem d_QC_deliver_180 : decode b_QC_deliver 180 = .ok (.aload_n 0, 1) := by decide +kernel
theorem d_QC_deliver_181 : decode b_QC_deliver 181 = .ok (.getfield 36, 3) := by decide +kernel
theorem d_QC_deliver_184 : decode b_QC_deliver 184 = .ok (.getfield 129, 3) := by decide +kernel
theorem d_QC_deliver_187 : decode b_QC_deliver 187 = .ok (.invokevirtual 140, 3) := by decide +kernel
theorem d_QC_deliver_190 : decode b_QC_deliver 190 = .ok (.goto 44, 3) := by decide +kernel
theorem d_QC_deliver_193 : decode b_QC_deliver 193 = .ok (.aload_n 0, 1) := by decide +kernel
theorem d_QC_deliver_194 : decode b_QC_deliver 194 = .ok (.aload_n 2, 1) := by decide +kernel
theorem d_QC_deliver_195 : decode b_QC_deliver 195 = .ok (.aload_n 0, 1) := by decide +kernel
theorem d_QC_deliver_196 : decode b_QC_deliver 196 = .ok (.getfield 36, 3) := by decide +kernel
theorem d_QC_deliver_199 : decode b_QC_deliver 199 = .ok (.getfield 126, 3) := by decide +kernel
theorem d_QC_deliver_202 : decode b_QC_deliver 202 = .ok (.aload_n 0, 1) := by decide +kernel
theorem d_QC_deliver_203 : decode b_QC_deliver 203 = .ok (.getfield 36, 3) := by decide +kernel
theorem d_QC_deliver_206 : decode b_QC_deliver 206 = .ok (.getfield 129, 3) := by decide +kernel
theorem d_QC_deliver_209 : decode b_QC_deliver 209 = .ok (.invokevirtual 144, 3) := by decide +kernel
theorem d_QC_deliver_212 : decode b_QC_deliver 212 = .ok (.goto 22, 3) := by decide +kernel
theorem d_QC_deliver_215 : decode b_QC_deliver 215 = .ok (.aload_n 0, 1) := by decide +kernel
theorem d_QC_deliver_216 : decode b_QC_deliver 216 = .ok (.aload_n 2, 1) := by decide +kernel
theorem d_QC_deliver_217 : decode b_QC_deliver 217 = .ok (.aload_n 0, 1) := by decide +kernel
theorem d_QC_deliver_218 : decode b_QC_deliver 218 = .ok (.getfield 36, 3) := by decide +kernel
theorem d_QC_deliver_221 : decode b_QC_deliver 221 = .ok (.getfield 126, 3) := by decide +kernel
theorem d_QC_deliver_224 : decode b_QC_deliver 224 = .ok (.aload_n 0, 1) := by decide +kernel
theorem d_QC_deliver_225 : decode b_QC_deliver 225 = .ok (.getfield 36, 3) := by decide +kernel
theorem d_QC_deliver_228 : decode b_QC_deliver 228 = .ok (.getfield 129, 3) := by decide +kernel
theorem d_QC_deliver_231 : decode b_QC_deliver 231 = .ok (.invokevirtual 147, 3) := by decide +kernel
theorem d_QC_deliver_234 : decode b_QC_deliver 234 = .ok (.aload_n 0, 1) := by decide +kernel
theorem d_QC_deliver_235 : decode b_QC_deliver 235 = .ok (.getfield 36, 3) := by decide +kernel
theorem d_QC_deliver_238 : decode b_QC_deliver 238 = .ok (.getfield 123, 3) := by decide +kernel
theorem d_QC_deliver_241 : decode b_QC_deliver 241 = .ok (.ireturn, 1) := by decide +kernel
def f_QC_deliver (a1 : Int32) (S : St) : Nat × Int32 × St :=
  lt (f_QC_isNode a1 S) fun (r1 : Int32) =>
  if r1 = 0 then
    (1, (0 : Int32), S)
  else
    if (S.1 12 (a1.toNatClampNeg) 0 1) = 0 then
      (2, (0 : Int32), S)
    else
      lt (f_Inbox_first (a1.toNatClampNeg) S) fun (r6 : Nat) =>
      lt (f_Message_copyFrom 4 1 (a1.toNatClampNeg) r6 S) fun (S9 : St) =>
      lt (f_Inbox_dropFirst (a1.toNatClampNeg) S9) fun (S12 : St) =>
      if (S12.1 3 (a1.toNatClampNeg) 0 7) = 0 then
        (0, S12.1 14 4 1 1, S12)
      else
        lt (f_QC_isHeard 4 1 S12) fun (r15 : Int32) =>
        if r15 = 0 then
          (0, S12.1 14 4 1 1, S12)
        else
          if (S12.1 14 4 1 1) = (1 : Int32) then
            lt (f_QC_receiveProposal (a1.toNatClampNeg) (S12.1 14 4 1 2) (S12.1 14 4 1 3) S12) fun (S20 : St) =>
            (0, S20.1 14 4 1 1, S20)
          else
            if (S12.1 14 4 1 1) = (2 : Int32) then
              lt (f_QC_receiveVote (a1.toNatClampNeg) (S12.1 14 4 1 2) (S12.1 14 4 1 3) S12) fun (S24 : St) =>
              (0, S24.1 14 4 1 1, S24)
            else
              if (S12.1 14 4 1 1) = (3 : Int32) then
                lt (f_QC_receiveTimeout (a1.toNatClampNeg) (S12.1 14 4 1 2) (S12.1 14 4 1 4) (S12.1 14 4 1 3) S12) fun (S28 : St) =>
                (0, S28.1 14 4 1 1, S28)
              else
                if (S12.1 14 4 1 1) = (4 : Int32) then
                  lt (f_QC_receiveAsk (a1.toNatClampNeg) (S12.1 14 4 1 2) (S12.1 14 4 1 3) S12) fun (S32 : St) =>
                  (0, S32.1 14 4 1 1, S32)
                else
                  lt (f_QC_receiveBlock (a1.toNatClampNeg) (S12.1 14 4 1 2) (S12.1 14 4 1 3) S12) fun (S35 : St) =>
                  (0, S35.1 14 4 1 1, S35)
def ok_QC_deliver (a1 : Int32) (S : St) : Prop :=
  lt (f_QC_isNode a1 S) fun (r1 : Int32) =>
  (r1 = 0 → (
    True)) ∧ (¬ (r1 = 0) → (
    (vp_in a1 4) ∧ (
      ((S.1 12 (a1.toNatClampNeg) 0 1) = 0 → (
        True)) ∧ (¬ ((S.1 12 (a1.toNatClampNeg) 0 1) = 0) → (
        (ok_Inbox_first (a1.toNatClampNeg) S) ∧ (
          lt (f_Inbox_first (a1.toNatClampNeg) S) fun (r6 : Nat) =>
          (r6 < 16) ∧ (
            lt (f_Message_copyFrom 4 1 (a1.toNatClampNeg) r6 S) fun (S9 : St) =>
            (ok_Inbox_dropFirst (a1.toNatClampNeg) S9) ∧ (
              lt (f_Inbox_dropFirst (a1.toNatClampNeg) S9) fun (S12 : St) =>
              ((S12.1 3 (a1.toNatClampNeg) 0 7) = 0 → (
                True)) ∧ (¬ ((S12.1 3 (a1.toNatClampNeg) 0 7) = 0) → (
                (ok_QC_isHeard 4 1 S12) ∧ (
                  lt (f_QC_isHeard 4 1 S12) fun (r15 : Int32) =>
                  (r15 = 0 → (
                    True)) ∧ (¬ (r15 = 0) → (
                    ((S12.1 14 4 1 1) = (1 : Int32) → (
                      (ok_QC_receiveProposal (a1.toNatClampNeg) (S12.1 14 4 1 2) (S12.1 14 4 1 3) S12) ∧ (
                        True))) ∧ (¬ ((S12.1 14 4 1 1) = (1 : Int32)) → (
                      ((S12.1 14 4 1 1) = (2 : Int32) → (
                        (ok_QC_receiveVote (a1.toNatClampNeg) (S12.1 14 4 1 2) (S12.1 14 4 1 3) S12) ∧ (
                          True))) ∧ (¬ ((S12.1 14 4 1 1) = (2 : Int32)) → (
                        ((S12.1 14 4 1 1) = (3 : Int32) → (
                          (ok_QC_receiveTimeout (a1.toNatClampNeg) (S12.1 14 4 1 2) (S12.1 14 4 1 4) (S12.1 14 4 1 3) S12) ∧ (
                            True))) ∧ (¬ ((S12.1 14 4 1 1) = (3 : Int32)) → (
                          ((S12.1 14 4 1 1) = (4 : Int32) → (
                            (ok_QC_receiveAsk (a1.toNatClampNeg) (S12.1 14 4 1 2) (S12.1 14 4 1 3) S12) ∧ (
                              True))) ∧ (¬ ((S12.1 14 4 1 1) = (4 : Int32)) → (
                            (ok_QC_receiveBlock (a1.toNatClampNeg) (S12.1 14 4 1 2) (S12.1 14 4 1 3) S12) ∧ (
                              True))))))))))))))))))))))
set_option maxHeartbeats 4000000 in
set_option maxRecDepth 100000 in
theorem c_QC_deliver (l : Launch) (htr : l.stackTraces = false) (D : va_G) (X : va_W) (ad : N3 → Nat) (ca : Nat → ClassId) (a1 : Int32)  (S : St) (hk : ok_QC_deliver a1 S) : cX l GG D clQ (tysQ ca) nwQ X ad TQ (cfQ ad ca) y_QC_deliver b_QC_deliver 3 .int 6 189 [.ref (ad (1, 0, 0)), .int a1] S (f_QC_deliver a1 S) := by
  generalize hr : f_QC_deliver a1 S = res
  refine xI_of pn_QC (Nat.le_of_ble_eq_true rfl) (fun p e s m below meth c A ls hy hX hno hW hA hl => ?_)
  have hF := hy.1
  have hx := hF.1
  have hb := hF.2.1
  have hK := hy.2.2.2
  have hl : lv_has ls 3 [(0, .ref (ad (1, 0, 0))), (1, .int a1)] := hl
  refine lv_iload_n (pc := 0) hx hb d_QC_deliver_0 rfl (lv_at hl 1 rfl) ?_
  obtain ⟨r1, er1⟩ : ∃ z : Int32, z = f_QC_isNode a1 S := ⟨_, rfl⟩
  have hk := lt_p er1 hk
  have hr := lt_e er1 hr
  refine p_go (pc := 1) (congrArg Value.int er1) (p_runS hF hK hW (c_QC_isNode l D X ad ca a1 S _) cd_QC_isNode gw_430 ⟨Nat.le_of_ble_eq_true rfl, Nat.le_of_ble_eq_true rfl⟩ ⟨Nat.zero_le _, Nat.zero_le _⟩ rfl rfl hl.1 (Nat.le_of_ble_eq_true rfl) d_QC_deliver_1) ?_
  refine lv_if_ne (pc := 4) (tgt := 17) hx hb d_QC_deliver_4 (by decide) (fun c2 => ?_) (fun c2 => ?_)
  · have hk := hk.2 c2
    have hr := (if_neg c2).symm.trans hr
    refine lv_aload_n (pc := 17) hx hb d_QC_deliver_17 rfl (lv_at hl 0 rfl) ?_
    refine z_get (pc := 18) (v := .ref (ad (2, 0, 0))) hF hK.1 hW tq1 rfl rfl in_QC 0 (by decide) gw_344 rfl rfl d_QC_deliver_18 ?_
    refine lv_iload_n (pc := 21) hx hb d_QC_deliver_21 rfl (lv_at hl 1 rfl) ?_
    have b3 := hk.1
    have hk := hk.2
    refine z_aald (pc := 22) (q := ad (3, (a1.toNatClampNeg), 0)) hF hK.1 hW tq2 3 rfl rfl b3 rfl d_QC_deliver_22 ?_
    refine lv_astore_n (pc := 23) (lv' := [(2, .ref (ad (3, (a1.toNatClampNeg), 0))), (0, .ref (ad (1, 0, 0))), (1, .int a1)]) hx hb d_QC_deliver_23 rfl hl (by decide) rfl (fun ls hl => ?_)
    refine lv_aload_n (pc := 24) hx hb d_QC_deliver_24 rfl (lv_at hl 0 rfl) ?_
    refine z_get (pc := 25) (v := .ref (ad (12, (a1.toNatClampNeg), 0))) hF hK.1 hW (tq3 (vin4 b3)) rfl rfl in_Node 2 (by decide) gw_300 rfl rfl d_QC_deliver_25 ?_
    refine z_get (pc := 28) (v := .int (S.1 12 (a1.toNatClampNeg) 0 1)) hF hK.1 hW (tq12 (vin4 b3)) rfl rfl in_Inbox 1 (by decide) gw_182 rfl rfl d_QC_deliver_28 ?_
    refine lv_if_ne (pc := 31) (tgt := 44) hx hb d_QC_deliver_31 (by decide) (fun c4 => ?_) (fun c4 => ?_)
    · have hk := hk.2 c4
      have hr := (if_neg c4).symm.trans hr
      refine lv_aload_n (pc := 44) hx hb d_QC_deliver_44 rfl (lv_at hl 1 rfl) ?_
      refine z_get (pc := 45) (v := .ref (ad (14, 4, 1))) hF hK.1 hW tq1 rfl rfl in_QC 4 (by decide) gw_348 rfl rfl d_QC_deliver_45 ?_
      refine lv_aload_n (pc := 48) hx hb d_QC_deliver_48 rfl (lv_at hl 0 rfl) ?_
      refine z_get (pc := 49) (v := .ref (ad (12, (a1.toNatClampNeg), 0))) hF hK.1 hW (tq3 (vin4 b3)) rfl rfl in_Node 2 (by decide) gw_300 rfl rfl d_QC_deliver_49 ?_
      have o5 := hk.1
      have hk := hk.2
      obtain ⟨r6, er6⟩ : ∃ z : Nat, z = f_Inbox_first (a1.toNatClampNeg) S := ⟨_, rfl⟩
      have hk := lt_p er6 hk
      have hr := lt_e er6 hr
      have b7 := hk.1
      have hk := hk.2
      refine p_go (pc := 52) (congrArg (fun q => Value.ref (ad (14, (a1.toNatClampNeg), q))) er6) (p_runV hF hK hW (c_Inbox_first l D X ad ca (a1.toNatClampNeg) (vin4 b3) S o5 _) cd_Inbox_first gw_653 (tq12 (vin4 b3)) rfl rfl ⟨Nat.le_of_ble_eq_true rfl, Nat.le_of_ble_eq_true rfl⟩ ⟨Nat.zero_le _, Nat.zero_le _⟩ rfl rfl hl.1 (Nat.le_of_ble_eq_true rfl) d_QC_deliver_52) ?_
      obtain ⟨S9, eS9⟩ : ∃ z : St, z = f_Message_copyFrom 4 1 (a1.toNatClampNeg) r6 S := ⟨_, rfl⟩
      have hk := lt_p eS9 hk
      have hr := lt_e eS9 hr
      refine z_goV (pc := 55) hW hA eS9 (z_runV hF hK hW (c_Message_copyFrom l D X ad ca 4 1 (a1.toNatClampNeg) r6 inM_A (Or.inl ⟨(vin4 b3), b7⟩) S _) cd_Message_copyFrom gw_657 (tq14 inM_A) rfl rfl ⟨Nat.le_of_ble_eq_true rfl, Nat.le_of_ble_eq_true rfl⟩ ⟨Nat.zero_le _, Nat.zero_le _⟩ rfl rfl hl.1 (Nat.le_of_ble_eq_true rfl) d_QC_deliver_55) (fun H locs (hW : Wd D clQ A s.heap (zw X ad TQ (cfQ ad ca) S9) H locs) => ?_)
      refine lv_aload_n (pc := 58) hx hb d_QC_deliver_58 rfl (lv_at hl 0 rfl) ?_
      refine z_get (pc := 59) (v := .ref (ad (12, (a1.toNatClampNeg), 0))) hF hK.1 hW (tq3 (vin4 b3)) rfl rfl in_Node 2 (by decide) gw_300 rfl rfl d_QC_deliver_59 ?_
      have o10 := hk.1
      have hk := hk.2
      obtain ⟨S12, eS12⟩ : ∃ z : St, z = f_Inbox_dropFirst (a1.toNatClampNeg) S9 := ⟨_, rfl⟩
      have hk := lt_p eS12 hk
      have hr := lt_e eS12 hr
      refine z_goV (pc := 62) hW hA eS12 (z_runV hF hK hW (c_Inbox_dropFirst l D X ad ca (a1.toNatClampNeg) (vin4 b3) S9 o10 _) cd_Inbox_dropFirst gw_658 (tq12 (vin4 b3)) rfl rfl ⟨Nat.le_of_ble_eq_true rfl, Nat.le_of_ble_eq_true rfl⟩ ⟨Nat.zero_le _, Nat.zero_le _⟩ rfl rfl hl.1 (Nat.le_of_ble_eq_true rfl) d_QC_deliver_62) (fun H locs (hW : Wd D clQ A s.heap (zw X ad TQ (cfQ ad ca) S12) H locs) => ?_)
      refine lv_aload_n (pc := 65) hx hb d_QC_deliver_65 rfl (lv_at hl 0 rfl) ?_
      refine z_get (pc := 66) (v := .int (S12.1 3 (a1.toNatClampNeg) 0 7)) hF hK.1 hW (tq3 (vin4 b3)) rfl rfl in_Node 7 (by decide) gw_310 rfl rfl d_QC_deliver_66 ?_
      refine lv_if_eq (pc := 69) (tgt := 234) hx hb d_QC_deliver_69 (by decide) (fun c13 => ?_) (fun c13 => ?_)
      · have hk := hk.1 c13
        have hr := (if_pos c13).symm.trans hr
        refine lv_aload_n (pc := 234) hx hb d_QC_deliver_234 rfl (lv_at hl 1 rfl) ?_
        refine z_get (pc := 235) (v := .ref (ad (14, 4, 1))) hF hK.1 hW tq1 rfl rfl in_QC 4 (by decide) gw_348 rfl rfl d_QC_deliver_235 ?_
        refine z_get (pc := 238) (v := .int (S12.1 14 4 1 1)) hF hK.1 hW (tq14 inM_A) rfl rfl in_Message 1 (by decide) gw_140 rfl rfl d_QC_deliver_238 ?_
        exact x_iret (v := S12.1 14 4 1 1) hy hW hr.symm d_QC_deliver_241
      · have hk := hk.2 c13
        have hr := (if_neg c13).symm.trans hr
        refine lv_aload_n (pc := 72) hx hb d_QC_deliver_72 rfl (lv_at hl 1 rfl) ?_
        refine lv_aload_n (pc := 73) hx hb d_QC_deliver_73 rfl (lv_at hl 1 rfl) ?_
        refine z_get (pc := 74) (v := .ref (ad (14, 4, 1))) hF hK.1 hW tq1 rfl rfl in_QC 4 (by decide) gw_348 rfl rfl d_QC_deliver_74 ?_
        have o14 := hk.1
        have hk := hk.2
        obtain ⟨r15, er15⟩ : ∃ z : Int32, z = f_QC_isHeard 4 1 S12 := ⟨_, rfl⟩
        have hk := lt_p er15 hk
        have hr := lt_e er15 hr
        refine p_go (pc := 77) (congrArg Value.int er15) (p_runV hF hK hW (c_QC_isHeard l D X ad ca 4 1 inM_A S12 o14 _) cd_QC_isHeard gw_666 tq1 rfl rfl ⟨Nat.le_of_ble_eq_true rfl, Nat.le_of_ble_eq_true rfl⟩ ⟨Nat.zero_le _, Nat.zero_le _⟩ rfl rfl hl.1 (Nat.le_of_ble_eq_true rfl) d_QC_deliver_77) ?_
        refine lv_if_eq (pc := 80) (tgt := 234) hx hb d_QC_deliver_80 (by decide) (fun c16 => ?_) (fun c16 => ?_)
        · have hk := hk.1 c16
          have hr := (if_pos c16).symm.trans hr
          refine lv_aload_n (pc := 234) hx hb d_QC_deliver_234 rfl (lv_at hl 1 rfl) ?_
          refine z_get (pc := 235) (v := .ref (ad (14, 4, 1))) hF hK.1 hW tq1 rfl rfl in_QC 4 (by decide) gw_348 rfl rfl d_QC_deliver_235 ?_
          refine z_get (pc := 238) (v := .int (S12.1 14 4 1 1)) hF hK.1 hW (tq14 inM_A) rfl rfl in_Message 1 (by decide) gw_140 rfl rfl d_QC_deliver_238 ?_
          exact x_iret (v := S12.1 14 4 1 1) hy hW hr.symm d_QC_deliver_241
        · have hk := hk.2 c16
          have hr := (if_neg c16).symm.trans hr
          refine lv_aload_n (pc := 83) hx hb d_QC_deliver_83 rfl (lv_at hl 1 rfl) ?_
          refine z_get (pc := 84) (v := .ref (ad (14, 4, 1))) hF hK.1 hW tq1 rfl rfl in_QC 4 (by decide) gw_348 rfl rfl d_QC_deliver_84 ?_
          refine z_get (pc := 87) (v := .int (S12.1 14 4 1 1)) hF hK.1 hW (tq14 inM_A) rfl rfl in_Message 1 (by decide) gw_140 rfl rfl d_QC_deliver_87 ?_
          by_cases c17 : (S12.1 14 4 1 1) = (1 : Int32)
          · have hk := hk.1 c17
            have hr := (if_pos c17).symm.trans hr
            refine lv_tableIn (pc := 90) (tgt := 120) (off := 30) hx hb d_QC_deliver_90 (by (rw [c17]) <;> decide) (by (rw [c17]) <;> decide) (by (rw [c17]) <;> rfl) (by decide) ?_
            refine lv_aload_n (pc := 120) hx hb d_QC_deliver_120 rfl (lv_at hl 1 rfl) ?_
            refine lv_aload_n (pc := 121) hx hb d_QC_deliver_121 rfl (lv_at hl 0 rfl) ?_
            refine lv_aload_n (pc := 122) hx hb d_QC_deliver_122 rfl (lv_at hl 1 rfl) ?_
            refine z_get (pc := 123) (v := .ref (ad (14, 4, 1))) hF hK.1 hW tq1 rfl rfl in_QC 4 (by decide) gw_348 rfl rfl d_QC_deliver_123 ?_
            refine z_get (pc := 126) (v := .int (S12.1 14 4 1 2)) hF hK.1 hW (tq14 inM_A) rfl rfl in_Message 2 (by decide) gw_142 rfl rfl d_QC_deliver_126 ?_
            refine lv_aload_n (pc := 129) hx hb d_QC_deliver_129 rfl (lv_at hl 1 rfl) ?_
            refine z_get (pc := 130) (v := .ref (ad (14, 4, 1))) hF hK.1 hW tq1 rfl rfl in_QC 4 (by decide) gw_348 rfl rfl d_QC_deliver_130 ?_
            refine z_get (pc := 133) (v := .int (S12.1 14 4 1 3)) hF hK.1 hW (tq14 inM_A) rfl rfl in_Message 3 (by decide) gw_144 rfl rfl d_QC_deliver_133 ?_
            have o18 := hk.1
            have hk := hk.2
            obtain ⟨S20, eS20⟩ : ∃ z : St, z = f_QC_receiveProposal (a1.toNatClampNeg) (S12.1 14 4 1 2) (S12.1 14 4 1 3) S12 := ⟨_, rfl⟩
            have hr := lt_e eS20 hr
            refine z_goV (pc := 136) hW hA eS20 (z_runV hF hK hW (c_QC_receiveProposal l D X ad ca (a1.toNatClampNeg) (S12.1 14 4 1 2) (S12.1 14 4 1 3) (vin4 b3) S12 o18 _) cd_QC_receiveProposal gw_678 tq1 rfl rfl ⟨Nat.le_of_ble_eq_true rfl, Nat.le_of_ble_eq_true rfl⟩ ⟨Nat.zero_le _, Nat.zero_le _⟩ rfl rfl hl.1 (Nat.le_of_ble_eq_true rfl) d_QC_deliver_136) (fun H locs (hW : Wd D clQ A s.heap (zw X ad TQ (cfQ ad ca) S20) H locs) => ?_)
            refine lv_goto (pc := 139) (tgt := 234) hx hb d_QC_deliver_139 (by decide) ?_
            refine lv_aload_n (pc := 234) hx hb d_QC_deliver_234 rfl (lv_at hl 1 rfl) ?_
            refine z_get (pc := 235) (v := .ref (ad (14, 4, 1))) hF hK.1 hW tq1 rfl rfl in_QC 4 (by decide) gw_348 rfl rfl d_QC_deliver_235 ?_
            refine z_get (pc := 238) (v := .int (S20.1 14 4 1 1)) hF hK.1 hW (tq14 inM_A) rfl rfl in_Message 1 (by decide) gw_140 rfl rfl d_QC_deliver_238 ?_
            exact x_iret (v := S20.1 14 4 1 1) hy hW hr.symm d_QC_deliver_241
          · have hk := hk.2 c17
            have hr := (if_neg c17).symm.trans hr
            by_cases c21 : (S12.1 14 4 1 1) = (2 : Int32)
            · have hk := hk.1 c21
              have hr := (if_pos c21).symm.trans hr
              refine lv_tableIn (pc := 90) (tgt := 142) (off := 52) hx hb d_QC_deliver_90 (by (rw [c21]) <;> decide) (by (rw [c21]) <;> decide) (by (rw [c21]) <;> rfl) (by decide) ?_
              refine lv_aload_n (pc := 142) hx hb d_QC_deliver_142 rfl (lv_at hl 1 rfl) ?_
              refine lv_aload_n (pc := 143) hx hb d_QC_deliver_143 rfl (lv_at hl 0 rfl) ?_
              refine lv_aload_n (pc := 144) hx hb d_QC_deliver_144 rfl (lv_at hl 1 rfl) ?_
              refine z_get (pc := 145) (v := .ref (ad (14, 4, 1))) hF hK.1 hW tq1 rfl rfl in_QC 4 (by decide) gw_348 rfl rfl d_QC_deliver_145 ?_
              refine z_get (pc := 148) (v := .int (S12.1 14 4 1 2)) hF hK.1 hW (tq14 inM_A) rfl rfl in_Message 2 (by decide) gw_142 rfl rfl d_QC_deliver_148 ?_
              refine lv_aload_n (pc := 151) hx hb d_QC_deliver_151 rfl (lv_at hl 1 rfl) ?_
              refine z_get (pc := 152) (v := .ref (ad (14, 4, 1))) hF hK.1 hW tq1 rfl rfl in_QC 4 (by decide) gw_348 rfl rfl d_QC_deliver_152 ?_
              refine z_get (pc := 155) (v := .int (S12.1 14 4 1 3)) hF hK.1 hW (tq14 inM_A) rfl rfl in_Message 3 (by decide) gw_144 rfl rfl d_QC_deliver_155 ?_
              have o22 := hk.1
              have hk := hk.2
              obtain ⟨S24, eS24⟩ : ∃ z : St, z = f_QC_receiveVote (a1.toNatClampNeg) (S12.1 14 4 1 2) (S12.1 14 4 1 3) S12 := ⟨_, rfl⟩
              have hr := lt_e eS24 hr
              refine z_goV (pc := 158) hW hA eS24 (z_runV hF hK hW (c_QC_receiveVote l D X ad ca (a1.toNatClampNeg) (S12.1 14 4 1 2) (S12.1 14 4 1 3) (vin4 b3) S12 o22 _) cd_QC_receiveVote gw_743 tq1 rfl rfl ⟨Nat.le_of_ble_eq_true rfl, Nat.le_of_ble_eq_true rfl⟩ ⟨Nat.zero_le _, Nat.zero_le _⟩ rfl rfl hl.1 (Nat.le_of_ble_eq_true rfl) d_QC_deliver_158) (fun H locs (hW : Wd D clQ A s.heap (zw X ad TQ (cfQ ad ca) S24) H locs) => ?_)
              refine lv_goto (pc := 161) (tgt := 234) hx hb d_QC_deliver_161 (by decide) ?_
              refine lv_aload_n (pc := 234) hx hb d_QC_deliver_234 rfl (lv_at hl 1 rfl) ?_
              refine z_get (pc := 235) (v := .ref (ad (14, 4, 1))) hF hK.1 hW tq1 rfl rfl in_QC 4 (by decide) gw_348 rfl rfl d_QC_deliver_235 ?_
              refine z_get (pc := 238) (v := .int (S24.1 14 4 1 1)) hF hK.1 hW (tq14 inM_A) rfl rfl in_Message 1 (by decide) gw_140 rfl rfl d_QC_deliver_238 ?_
              exact x_iret (v := S24.1 14 4 1 1) hy hW hr.symm d_QC_deliver_241
            · have hk := hk.2 c21
              have hr := (if_neg c21).symm.trans hr
              by_cases c25 : (S12.1 14 4 1 1) = (3 : Int32)
              · have hk := hk.1 c25
                have hr := (if_pos c25).symm.trans hr
                refine lv_tableIn (pc := 90) (tgt := 164) (off := 74) hx hb d_QC_deliver_90 (by (rw [c25]) <;> decide) (by (rw [c25]) <;> decide) (by (rw [c25]) <;> rfl) (by decide) ?_
                refine lv_aload_n (pc := 164) hx hb d_QC_deliver_164 rfl (lv_at hl 1 rfl) ?_
                refine lv_aload_n (pc := 165) hx hb d_QC_deliver_165 rfl (lv_at hl 0 rfl) ?_
                refine lv_aload_n (pc := 166) hx hb d_QC_deliver_166 rfl (lv_at hl 1 rfl) ?_
                refine z_get (pc := 167) (v := .ref (ad (14, 4, 1))) hF hK.1 hW tq1 rfl rfl in_QC 4 (by decide) gw_348 rfl rfl d_QC_deliver_167 ?_
                refine z_get (pc := 170) (v := .int (S12.1 14 4 1 2)) hF hK.1 hW (tq14 inM_A) rfl rfl in_Message 2 (by decide) gw_142 rfl rfl d_QC_deliver_170 ?_
                refine lv_aload_n (pc := 173) hx hb d_QC_deliver_173 rfl (lv_at hl 1 rfl) ?_
                refine z_get (pc := 174) (v := .ref (ad (14, 4, 1))) hF hK.1 hW tq1 rfl rfl in_QC 4 (by decide) gw_348 rfl rfl d_QC_deliver_174 ?_
                refine z_get (pc := 177) (v := .int (S12.1 14 4 1 4)) hF hK.1 hW (tq14 inM_A) rfl rfl in_Message 4 (by decide) gw_146 rfl rfl d_QC_deliver_177 ?_
                refine lv_aload_n (pc := 180) hx hb d_QC_deliver_180 rfl (lv_at hl 1 rfl) ?_
                refine z_get (pc := 181) (v := .ref (ad (14, 4, 1))) hF hK.1 hW tq1 rfl rfl in_QC 4 (by decide) gw_348 rfl rfl d_QC_deliver_181 ?_
                refine z_get (pc := 184) (v := .int (S12.1 14 4 1 3)) hF hK.1 hW (tq14 inM_A) rfl rfl in_Message 3 (by decide) gw_144 rfl rfl d_QC_deliver_184 ?_
                have o26 := hk.1
                have hk := hk.2
                obtain ⟨S28, eS28⟩ : ∃ z : St, z = f_QC_receiveTimeout (a1.toNatClampNeg) (S12.1 14 4 1 2) (S12.1 14 4 1 4) (S12.1 14 4 1 3) S12 := ⟨_, rfl⟩
                have hr := lt_e eS28 hr
                refine z_goV (pc := 187) hW hA eS28 (z_runV hF hK hW (c_QC_receiveTimeout l D X ad ca (a1.toNatClampNeg) (S12.1 14 4 1 2) (S12.1 14 4 1 4) (S12.1 14 4 1 3) (vin4 b3) S12 o26 _) cd_QC_receiveTimeout gw_761 tq1 rfl rfl ⟨Nat.le_of_ble_eq_true rfl, Nat.le_of_ble_eq_true rfl⟩ ⟨Nat.zero_le _, Nat.zero_le _⟩ rfl rfl hl.1 (Nat.le_of_ble_eq_true rfl) d_QC_deliver_187) (fun H locs (hW : Wd D clQ A s.heap (zw X ad TQ (cfQ ad ca) S28) H locs) => ?_)
                refine lv_goto (pc := 190) (tgt := 234) hx hb d_QC_deliver_190 (by decide) ?_
                refine lv_aload_n (pc := 234) hx hb d_QC_deliver_234 rfl (lv_at hl 1 rfl) ?_
                refine z_get (pc := 235) (v := .ref (ad (14, 4, 1))) hF hK.1 hW tq1 rfl rfl in_QC 4 (by decide) gw_348 rfl rfl d_QC_deliver_235 ?_
                refine z_get (pc := 238) (v := .int (S28.1 14 4 1 1)) hF hK.1 hW (tq14 inM_A) rfl rfl in_Message 1 (by decide) gw_140 rfl rfl d_QC_deliver_238 ?_
                exact x_iret (v := S28.1 14 4 1 1) hy hW hr.symm d_QC_deliver_241
              · have hk := hk.2 c25
                have hr := (if_neg c25).symm.trans hr
                by_cases c29 : (S12.1 14 4 1 1) = (4 : Int32)
                · have hk := hk.1 c29
                  have hr := (if_pos c29).symm.trans hr
                  refine lv_tableIn (pc := 90) (tgt := 193) (off := 103) hx hb d_QC_deliver_90 (by (rw [c29]) <;> decide) (by (rw [c29]) <;> decide) (by (rw [c29]) <;> rfl) (by decide) ?_
                  refine lv_aload_n (pc := 193) hx hb d_QC_deliver_193 rfl (lv_at hl 1 rfl) ?_
                  refine lv_aload_n (pc := 194) hx hb d_QC_deliver_194 rfl (lv_at hl 0 rfl) ?_
                  refine lv_aload_n (pc := 195) hx hb d_QC_deliver_195 rfl (lv_at hl 1 rfl) ?_
                  refine z_get (pc := 196) (v := .ref (ad (14, 4, 1))) hF hK.1 hW tq1 rfl rfl in_QC 4 (by decide) gw_348 rfl rfl d_QC_deliver_196 ?_
                  refine z_get (pc := 199) (v := .int (S12.1 14 4 1 2)) hF hK.1 hW (tq14 inM_A) rfl rfl in_Message 2 (by decide) gw_142 rfl rfl d_QC_deliver_199 ?_
                  refine lv_aload_n (pc := 202) hx hb d_QC_deliver_202 rfl (lv_at hl 1 rfl) ?_
                  refine z_get (pc := 203) (v := .ref (ad (14, 4, 1))) hF hK.1 hW tq1 rfl rfl in_QC 4 (by decide) gw_348 rfl rfl d_QC_deliver_203 ?_
                  refine z_get (pc := 206) (v := .int (S12.1 14 4 1 3)) hF hK.1 hW (tq14 inM_A) rfl rfl in_Message 3 (by decide) gw_144 rfl rfl d_QC_deliver_206 ?_
                  have o30 := hk.1
                  have hk := hk.2
                  obtain ⟨S32, eS32⟩ : ∃ z : St, z = f_QC_receiveAsk (a1.toNatClampNeg) (S12.1 14 4 1 2) (S12.1 14 4 1 3) S12 := ⟨_, rfl⟩
                  have hr := lt_e eS32 hr
                  refine z_goV (pc := 209) hW hA eS32 (z_runV hF hK hW (c_QC_receiveAsk l D X ad ca (a1.toNatClampNeg) (S12.1 14 4 1 2) (S12.1 14 4 1 3) (vin4 b3) S12 o30 _) cd_QC_receiveAsk gw_765 tq1 rfl rfl ⟨Nat.le_of_ble_eq_true rfl, Nat.le_of_ble_eq_true rfl⟩ ⟨Nat.zero_le _, Nat.zero_le _⟩ rfl rfl hl.1 (Nat.le_of_ble_eq_true rfl) d_QC_deliver_209) (fun H locs (hW : Wd D clQ A s.heap (zw X ad TQ (cfQ ad ca) S32) H locs) => ?_)
                  refine lv_goto (pc := 212) (tgt := 234) hx hb d_QC_deliver_212 (by decide) ?_
                  refine lv_aload_n (pc := 234) hx hb d_QC_deliver_234 rfl (lv_at hl 1 rfl) ?_
                  refine z_get (pc := 235) (v := .ref (ad (14, 4, 1))) hF hK.1 hW tq1 rfl rfl in_QC 4 (by decide) gw_348 rfl rfl d_QC_deliver_235 ?_
                  refine z_get (pc := 238) (v := .int (S32.1 14 4 1 1)) hF hK.1 hW (tq14 inM_A) rfl rfl in_Message 1 (by decide) gw_140 rfl rfl d_QC_deliver_238 ?_
                  exact x_iret (v := S32.1 14 4 1 1) hy hW hr.symm d_QC_deliver_241
                · have hk := hk.2 c29
                  have hr := (if_neg c29).symm.trans hr
                  have ho : (S12.1 14 4 1 1).toInt < (1 : Int) ∨ (4 : Int) < (S12.1 14 4 1 1).toInt := z_swl (1) (4) (fun k h1 h2 => by
                    rcases (show k = 1 ∨ k = 2 ∨ k = 3 ∨ k = 4 by omega) with rfl | rfl | rfl | rfl
                    · exact lv_neT c17 (by decide)
                    · exact lv_neT c21 (by decide)
                    · exact lv_neT c25 (by decide)
                    · exact lv_neT c29 (by decide))
                  refine lv_tableOut (pc := 90) (tgt := 215) hx hb d_QC_deliver_90 ho (by decide) ?_
                  refine lv_aload_n (pc := 215) hx hb d_QC_deliver_215 rfl (lv_at hl 1 rfl) ?_
                  refine lv_aload_n (pc := 216) hx hb d_QC_deliver_216 rfl (lv_at hl 0 rfl) ?_
                  refine lv_aload_n (pc := 217) hx hb d_QC_deliver_217 rfl (lv_at hl 1 rfl) ?_
                  refine z_get (pc := 218) (v := .ref (ad (14, 4, 1))) hF hK.1 hW tq1 rfl rfl in_QC 4 (by decide) gw_348 rfl rfl d_QC_deliver_218 ?_
                  refine z_get (pc := 221) (v := .int (S12.1 14 4 1 2)) hF hK.1 hW (tq14 inM_A) rfl rfl in_Message 2 (by decide) gw_142 rfl rfl d_QC_deliver_221 ?_
                  refine lv_aload_n (pc := 224) hx hb d_QC_deliver_224 rfl (lv_at hl 1 rfl) ?_
                  refine z_get (pc := 225) (v := .ref (ad (14, 4, 1))) hF hK.1 hW tq1 rfl rfl in_QC 4 (by decide) gw_348 rfl rfl d_QC_deliver_225 ?_
                  refine z_get (pc := 228) (v := .int (S12.1 14 4 1 3)) hF hK.1 hW (tq14 inM_A) rfl rfl in_Message 3 (by decide) gw_144 rfl rfl d_QC_deliver_228 ?_
                  have o33 := hk.1
                  have hk := hk.2
                  obtain ⟨S35, eS35⟩ : ∃ z : St, z = f_QC_receiveBlock (a1.toNatClampNeg) (S12.1 14 4 1 2) (S12.1 14 4 1 3) S12 := ⟨_, rfl⟩
                  have hr := lt_e eS35 hr
                  refine z_goV (pc := 231) hW hA eS35 (z_runV hF hK hW (c_QC_receiveBlock l D X ad ca (a1.toNatClampNeg) (S12.1 14 4 1 2) (S12.1 14 4 1 3) (vin4 b3) S12 o33 _) cd_QC_receiveBlock gw_769 tq1 rfl rfl ⟨Nat.le_of_ble_eq_true rfl, Nat.le_of_ble_eq_true rfl⟩ ⟨Nat.zero_le _, Nat.zero_le _⟩ rfl rfl hl.1 (Nat.le_of_ble_eq_true rfl) d_QC_deliver_231) (fun H locs (hW : Wd D clQ A s.heap (zw X ad TQ (cfQ ad ca) S35) H locs) => ?_)
                  refine lv_aload_n (pc := 234) hx hb d_QC_deliver_234 rfl (lv_at hl 1 rfl) ?_
                  refine z_get (pc := 235) (v := .ref (ad (14, 4, 1))) hF hK.1 hW tq1 rfl rfl in_QC 4 (by decide) gw_348 rfl rfl d_QC_deliver_235 ?_
                  refine z_get (pc := 238) (v := .int (S35.1 14 4 1 1)) hF hK.1 hW (tq14 inM_A) rfl rfl in_Message 1 (by decide) gw_140 rfl rfl d_QC_deliver_238 ?_
                  exact x_iret (v := S35.1 14 4 1 1) hy hW hr.symm d_QC_deliver_241
    · have hk := hk.1 c4
      have hr := (if_pos c4).symm.trans hr
      exact x_throw (pc := 34) (k := 2) (text := "no message") (cls := xIS) htr hF hy.2.2.1 hX hno hl.1 (congrArg Prod.fst hr.symm) (by decide) rfl xfS xatS (by decide +kernel) gw_577 gw_578 gw_68 (Nat.le_of_ble_eq_true rfl) (Nat.le_of_ble_eq_true rfl) ⟨rfl, rfl⟩ d_QC_deliver_34 d_QC_deliver_37 d_QC_deliver_38 d_QC_deliver_40 d_QC_deliver_43
  · have hk := hk.1 c2
    have hr := (if_pos c2).symm.trans hr
    exact x_throw (pc := 7) (k := 1) (text := "no such node") (cls := xIA) htr hF hy.2.2.1 hX hno hl.1 (congrArg Prod.fst hr.symm) (by decide) rfl xfA xatA (by decide +kernel) gw_509 gw_510 gw_67 (Nat.le_of_ble_eq_true rfl) (Nat.le_of_ble_eq_true rfl) ⟨rfl, rfl⟩ d_QC_deliver_7 d_QC_deliver_10 d_QC_deliver_11 d_QC_deliver_13 d_QC_deliver_16
