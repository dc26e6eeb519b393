def R_L : String := "QuorumChainLaw"
theorem pn_L : plainName R_L = true := by decide +kernel
abbrev b_L_transaction : ByteArray := method_3_code
def y_L_transaction : MethodName := ⟨R_L, "transaction", "(LQuorumChain;IIII[J)I"⟩
abbrev b_L_submit : ByteArray := method_4_code
def y_L_submit : MethodName := ⟨R_L, "submit", "(LQuorumChain;II[J)I"⟩
abbrev b_L_begin : ByteArray := method_5_code
def y_L_begin : MethodName := ⟨R_L, "begin", "(LQuorumChain;[J)I"⟩
abbrev b_L_deliver : ByteArray := method_6_code
def y_L_deliver : MethodName := ⟨R_L, "deliver", "(LQuorumChain;I[J)I"⟩
abbrev b_L_disturb : ByteArray := method_7_code
def y_L_disturb : MethodName := ⟨R_L, "disturb", "(LQuorumChain;II[J)I"⟩
abbrev b_L_alter : ByteArray := method_8_code
def y_L_alter : MethodName := ⟨R_L, "alter", "(LQuorumChain;IIJ[J)I"⟩
abbrev b_L_lie : ByteArray := method_9_code
def y_L_lie : MethodName := ⟨R_L, "lie", "(LQuorumChain;IIII[J)I"⟩
abbrev b_L_lieVote : ByteArray := method_10_code
def y_L_lieVote : MethodName := ⟨R_L, "lieVote", "(LQuorumChain;II[J)I"⟩
abbrev b_L_crash : ByteArray := method_11_code
def y_L_crash : MethodName := ⟨R_L, "crash", "(LQuorumChain;I[J)I"⟩
abbrev b_L_restart : ByteArray := method_12_code
def y_L_restart : MethodName := ⟨R_L, "restart", "(LQuorumChain;I[J)I"⟩
theorem gw_503 : (Jvm.Cond.classLink "QuorumChainLaw" (13 : Nat) "java/lang/IllegalArgumentException") ∈ GG := GG_in (i := 503) (by decide +kernel) (by decide +kernel)
theorem gw_504 : (Jvm.Cond.classLink "QuorumChainLaw" (15 : Nat) "java/lang/IllegalStateException") ∈ GG := GG_in (i := 504) (by decide +kernel) (by decide +kernel)
theorem gw_505 : (Jvm.Cond.methodLink "QuorumChainLaw" (7 : Nat) ({ cls := "QuorumChain", name := "transaction", desc := "(IIII)I" } : Jvm.MethodName)) ∈ GG := GG_in (i := 505) (by decide +kernel) (by decide +kernel)
theorem gw_600 : (Jvm.Cond.methodLink "QuorumChainLaw" (17 : Nat) ({ cls := "QuorumChain", name := "submit", desc := "(II)Z" } : Jvm.MethodName)) ∈ GG := GG_in (i := 600) (by decide +kernel) (by decide +kernel)
theorem gw_617 : (Jvm.Cond.methodLink "QuorumChainLaw" (21 : Nat) ({ cls := "QuorumChain", name := "begin", desc := "()Z" } : Jvm.MethodName)) ∈ GG := GG_in (i := 617) (by decide +kernel) (by decide +kernel)
theorem gw_647 : (Jvm.Cond.methodLink "QuorumChainLaw" (25 : Nat) ({ cls := "QuorumChain", name := "deliver", desc := "(I)I" } : Jvm.MethodName)) ∈ GG := GG_in (i := 647) (by decide +kernel) (by decide +kernel)
theorem gw_776 : (Jvm.Cond.methodLink "QuorumChainLaw" (29 : Nat) ({ cls := "QuorumChain", name := "disturb", desc := "(II)Z" } : Jvm.MethodName)) ∈ GG := GG_in (i := 776) (by decide +kernel) (by decide +kernel)
theorem gw_786 : (Jvm.Cond.methodLink "QuorumChainLaw" (32 : Nat) ({ cls := "QuorumChain", name := "alter", desc := "(IIJ)Z" } : Jvm.MethodName)) ∈ GG := GG_in (i := 786) (by decide +kernel) (by decide +kernel)
theorem gw_795 : (Jvm.Cond.methodLink "QuorumChainLaw" (36 : Nat) ({ cls := "QuorumChain", name := "lie", desc := "(IIII)I" } : Jvm.MethodName)) ∈ GG := GG_in (i := 795) (by decide +kernel) (by decide +kernel)
theorem gw_807 : (Jvm.Cond.methodLink "QuorumChainLaw" (39 : Nat) ({ cls := "QuorumChain", name := "lieVote", desc := "(II)Z" } : Jvm.MethodName)) ∈ GG := GG_in (i := 807) (by decide +kernel) (by decide +kernel)
theorem gw_816 : (Jvm.Cond.methodLink "QuorumChainLaw" (42 : Nat) ({ cls := "QuorumChain", name := "crash", desc := "(I)Z" } : Jvm.MethodName)) ∈ GG := GG_in (i := 816) (by decide +kernel) (by decide +kernel)
theorem gw_831 : (Jvm.Cond.methodLink "QuorumChainLaw" (46 : Nat) ({ cls := "QuorumChain", name := "restart", desc := "(I)Z" } : Jvm.MethodName)) ∈ GG := GG_in (i := 831) (by decide +kernel) (by decide +kernel)
theorem d_L_transaction_0 : decode b_L_transaction 0 = .ok (.aload 5, 2) := by decide +kernel
theorem d_L_transaction_2 : decode b_L_transaction 2 = .ok (.iconst 0, 1) := by decide +kernel
theorem d_L_transaction_3 : decode b_L_transaction 3 = .ok (.aload_n 0, 1) := by decide +kernel
theorem d_L_transaction_4 : decode b_L_transaction 4 = .ok (.iload_n 1, 1) := by decide +kernel
theorem d_L_transaction_5 : decode b_L_transaction 5 = .ok (.iload_n 2, 1) := by decide +kernel
theorem d_L_transaction_6 : decode b_L_transaction 6 = .ok (.iload_n 3, 1) := by decide +kernel
theorem d_L_transaction_7 : decode b_L_transaction 7 = .ok (.iload 4, 2) := by decide +kernel
theorem d_L_transaction_9 : decode b_L_transaction 9 = .ok (.invokevirtual 7, 3) := by decide +kernel
theorem d_L_transaction_12 : decode b_L_transaction 12 = .ok (.i2l, 1) := by decide +kernel
theorem d_L_transaction_13 : decode b_L_transaction 13 = .ok (.lastore, 1) := by decide +kernel
theorem d_L_transaction_14 : decode b_L_transaction 14 = .ok (.goto 11, 3) := by decide +kernel
theorem d_L_transaction_17 : decode b_L_transaction 17 = .ok (.astore 6, 2) := by decide +kernel
theorem d_L_transaction_19 : decode b_L_transaction 19 = .ok (.iconst 1, 1) := by decide +kernel
theorem d_L_transaction_20 : decode b_L_transaction 20 = .ok (.ireturn, 1) := by decide +kernel
theorem d_L_transaction_21 : decode b_L_transaction 21 = .ok (.astore 6, 2) := by decide +kernel
theorem d_L_transaction_23 : decode b_L_transaction 23 = .ok (.iconst 2, 1) := by decide +kernel
theorem d_L_transaction_24 : decode b_L_transaction 24 = .ok (.ireturn, 1) := by decide +kernel
theorem d_L_transaction_25 : decode b_L_transaction 25 = .ok (.iconst 0, 1) := by decide +kernel
theorem d_L_transaction_26 : decode b_L_transaction 26 = .ok (.ireturn, 1) := by decide +kernel
def f_L_transaction (a1 : Int32) (a2 : Int32) (a3 : Int32) (a4 : Int32) (S : St) : Int32 × St :=
  lt (f_QC_transaction a1 a2 a3 a4 S) fun (r2 : Nat × Int32 × St) =>
  if r2.1 = 0 then
    lt (sl r2.2.2 29 0 0 0 r2.2.1.toInt64) fun (S5 : St) =>
    ((0 : Int32), S5)
  else
    if r2.1 = 1 then
      ((1 : Int32), S)
    else
      ((2 : Int32), S)
def ok_L_transaction (a1 : Int32) (a2 : Int32) (a3 : Int32) (a4 : Int32) (S : St) : Prop :=
  (ok_QC_transaction a1 a2 a3 a4 S) ∧ (
    True)
set_option maxHeartbeats 4000000 in
set_option maxRecDepth 100000 in
theorem c_L_transaction (l : Launch) (htr : l.stackTraces = false) (D : va_G) (X : va_W) (ad : N3 → Nat) (ca : Nat → ClassId) (a1 : Int32) (a2 : Int32) (a3 : Int32) (a4 : Int32)  (S : St) (hk : ok_L_transaction a1 a2 a3 a4 S) : cWr l GG D clQ (tysQ ca) nwQ X ad TQ (cfQ ad ca) y_L_transaction b_L_transaction 7 [(0, 14, 17, 13), (0, 14, 21, 15)] 7 124 [.ref (ad (1, 0, 0)), .int a1, .int a2, .int a3, .int a4, .ref (ad (29, 0, 0))] S (f_L_transaction a1 a2 a3 a4 S) := by
  generalize hr : f_L_transaction a1 a2 a3 a4 S = res
  refine wr_of pn_L (Nat.le_of_ble_eq_true rfl) (fun p e s m below meth c A ls hy hX hN htab hW hA hl => ?_)
  have hF := hy.1
  have hx := hF.1
  have hb := hF.2.1
  have hK := hy.2.2.2
  have hl : lv_has ls 7 [(0, .ref (ad (1, 0, 0))), (1, .int a1), (2, .int a2), (3, .int a3), (4, .int a4), (5, .ref (ad (29, 0, 0)))] := hl
  refine lv_aload (pc := 0) hx hb d_L_transaction_0 (lv_at hl 5 rfl) ?_
  refine lv_iconst (pc := 2) (v := 0) hx hb d_L_transaction_2 (by decide) ?_
  refine lv_aload_n (pc := 3) hx hb d_L_transaction_3 rfl (lv_at hl 0 rfl) ?_
  refine lv_iload_n (pc := 4) hx hb d_L_transaction_4 rfl (lv_at hl 1 rfl) ?_
  refine lv_iload_n (pc := 5) hx hb d_L_transaction_5 rfl (lv_at hl 2 rfl) ?_
  refine lv_iload_n (pc := 6) hx hb d_L_transaction_6 rfl (lv_at hl 3 rfl) ?_
  refine lv_iload (pc := 7) hx hb d_L_transaction_7 (lv_at hl 4 rfl) ?_
  have o1 := hk.1
  have hk := hk.2
  obtain ⟨r2, er2⟩ : ∃ z : Nat × Int32 × St, z = f_QC_transaction a1 a2 a3 a4 S := ⟨_, rfl⟩
  have hr := lt_e er2 hr
  have hcr2 : cX l GG D clQ (tysQ ca) nwQ X ad TQ (cfQ ad ca) y_QC_transaction b_QC_transaction 5 .int 6 100 [.ref (ad (1, 0, 0)), .int a1, .int a2, .int a3, .int a4] S r2 := er2 ▸ c_QC_transaction l htr D X ad ca a1 a2 a3 a4 S o1
  refine x_call (pc := 9) hF hK hW hA hX.here hcr2 cd_QC_transaction gw_505 tq1 rfl rfl ⟨Nat.le_of_ble_eq_true rfl, Nat.le_of_ble_eq_true rfl⟩ ⟨Nat.le_of_ble_eq_true rfl, Nat.le_of_ble_eq_true rfl⟩ rfl rfl hl.1 (Nat.le_of_ble_eq_true rfl) d_L_transaction_9 (fun c3 H locs hW => ?_) (fun c3 U q ce Z hce hcv hcl hW => ?_)
  · have hr := (if_pos c3).symm.trans hr
    refine lv_i2l (pc := 12) hx hb d_L_transaction_12 rfl ?_
    have b4 : vp_in (0 : Int32) 1 := by unfold vp_in; decide
    obtain ⟨S5, eS5⟩ : ∃ z : St, z = sl r2.2.2 29 0 0 0 r2.2.1.toInt64 := ⟨_, rfl⟩
    have hr := lt_e eS5 hr
    refine z_last (pc := 13) (S' := S5) hF hK.1 hW tq29 1 rfl rfl b4 (zs_sl eS5 rfl) (zs_slo eS5) d_L_transaction_13 (fun H locs (hW : Wd D clQ A s.heap (zw X ad TQ (cfQ ad ca) S5) H locs) => ?_)
    refine lv_goto (pc := 14) (tgt := 25) hx hb d_L_transaction_14 (by decide) ?_
    refine lv_iconst (pc := 25) (v := 0) hx hb d_L_transaction_25 (by decide) ?_
    exact w_iret (v := (0 : Int32)) hy hW (Nat.le_of_ble_eq_true rfl) (Nat.le_of_ble_eq_true rfl) hr.symm d_L_transaction_26
  · have hr := (if_neg (Nat.ne_of_gt c3)).symm.trans hr
    by_cases c6 : r2.1 = 1
    · have hcl := xfn c6 hcl
      have hr := (if_pos c6).symm.trans hr
      refine land0 (pc := 9) Z hce hcv hcl htab (hit_of (pc := 9) Z hF.2.2.2.1 hcl (by decide) (by decide) (hF.2.2.2.2 _ gw_503) (hX.any _ xcA)) ?_
      refine lv_astore (pc := 17) (lv' := [(6, .ref q), (0, .ref (ad (1, 0, 0))), (1, .int a1), (2, .int a2), (3, .int a3), (4, .int a4), (5, .ref (ad (29, 0, 0)))]) hx hb d_L_transaction_17 hl (by decide) rfl (fun ls hl => ?_)
      refine lv_iconst (pc := 19) (v := 1) hx hb d_L_transaction_19 (by decide) ?_
      exact w_iret (v := (1 : Int32)) hy hW (Nat.le_of_ble_eq_true rfl) (Nat.le_of_ble_eq_true rfl) hr.symm d_L_transaction_20
    · have hcl := xfs c6 hcl
      have hr := (if_neg c6).symm.trans hr
      refine land1 (pc := 9) Z hce hcv hcl htab (miss_of (pc := 9) (F := xIA) Z hF.2.2.2.1 hcl (by decide) (by decide) (hF.2.2.2.2 _ gw_503) hN) (hit_of (pc := 9) Z hF.2.2.2.1 hcl (by decide) (by decide) (hF.2.2.2.2 _ gw_504) (hX.any _ xcS)) ?_
      refine lv_astore (pc := 21) (lv' := [(6, .ref q), (0, .ref (ad (1, 0, 0))), (1, .int a1), (2, .int a2), (3, .int a3), (4, .int a4), (5, .ref (ad (29, 0, 0)))]) hx hb d_L_transaction_21 hl (by decide) rfl (fun ls hl => ?_)
      refine lv_iconst (pc := 23) (v := 2) hx hb d_L_transaction_23 (by decide) ?_
      exact w_iret (v := (2 : Int32)) hy hW (Nat.le_of_ble_eq_true rfl) (Nat.le_of_ble_eq_true rfl) hr.symm d_L_transaction_24
theorem d_L_submit_0 : decode b_L_submit 0 = .ok (.aload_n 3, 1) := by decide +kernel
theorem d_L_submit_1 : decode b_L_submit 1 = .ok (.iconst 0, 1) := by decide +kernel
theorem d_L_submit_2 : decode b_L_submit 2 = .ok (.aload_n 0, 1) := by decide +kernel
theorem d_L_submit_3 : decode b_L_submit 3 = .ok (.iload_n 1, 1) := by decide +kernel
theorem d_L_submit_4 : decode b_L_submit 4 = .ok (.iload_n 2, 1) := by decide +kernel
theorem d_L_submit_5 : decode b_L_submit 5 = .ok (.invokevirtual 17, 3) := by decide +kernel
theorem d_L_submit_8 : decode b_L_submit 8 = .ok (.ifCond .eq 7, 3) := by decide +kernel
theorem d_L_submit_11 : decode b_L_submit 11 = .ok (.lconst 1, 1) := by decide +kernel
theorem d_L_submit_12 : decode b_L_submit 12 = .ok (.goto 4, 3) := by decide +kernel
theorem d_L_submit_15 : decode b_L_submit 15 = .ok (.lconst 0, 1) := by decide +kernel
theorem d_L_submit_16 : decode b_L_submit 16 = .ok (.lastore, 1) := by decide +kernel
theorem d_L_submit_17 : decode b_L_submit 17 = .ok (.goto 11, 3) := by decide +kernel
theorem d_L_submit_20 : decode b_L_submit 20 = .ok (.astore 4, 2) := by decide +kernel
theorem d_L_submit_22 : decode b_L_submit 22 = .ok (.iconst 1, 1) := by decide +kernel
theorem d_L_submit_23 : decode b_L_submit 23 = .ok (.ireturn, 1) := by decide +kernel
theorem d_L_submit_24 : decode b_L_submit 24 = .ok (.astore 4, 2) := by decide +kernel
theorem d_L_submit_26 : decode b_L_submit 26 = .ok (.iconst 2, 1) := by decide +kernel
theorem d_L_submit_27 : decode b_L_submit 27 = .ok (.ireturn, 1) := by decide +kernel
theorem d_L_submit_28 : decode b_L_submit 28 = .ok (.iconst 0, 1) := by decide +kernel
theorem d_L_submit_29 : decode b_L_submit 29 = .ok (.ireturn, 1) := by decide +kernel
def f_L_submit (a1 : Int32) (a2 : Int32) (S : St) : Int32 × St :=
  lt (f_QC_submit a1 a2 S) fun (r2 : Nat × Int32 × St) =>
  if r2.1 = 0 then
    if r2.2.1 = 0 then
      lt (sl r2.2.2 29 0 0 0 (0 : Int64)) fun (S6 : St) =>
      ((0 : Int32), S6)
    else
      lt (sl r2.2.2 29 0 0 0 (1 : Int64)) fun (S8 : St) =>
      ((0 : Int32), S8)
  else
    if r2.1 = 1 then
      ((1 : Int32), S)
    else
      ((2 : Int32), S)
def ok_L_submit (a1 : Int32) (a2 : Int32) (S : St) : Prop :=
  (ok_QC_submit a1 a2 S) ∧ (
    True)
set_option maxHeartbeats 4000000 in
set_option maxRecDepth 100000 in
theorem c_L_submit (l : Launch) (htr : l.stackTraces = false) (D : va_G) (X : va_W) (ad : N3 → Nat) (ca : Nat → ClassId) (a1 : Int32) (a2 : Int32)  (S : St) (hk : ok_L_submit a1 a2 S) : cWr l GG D clQ (tysQ ca) nwQ X ad TQ (cfQ ad ca) y_L_submit b_L_submit 5 [(0, 17, 20, 13), (0, 17, 24, 15)] 7 122 [.ref (ad (1, 0, 0)), .int a1, .int a2, .ref (ad (29, 0, 0))] S (f_L_submit a1 a2 S) := by
  generalize hr : f_L_submit a1 a2 S = res
  refine wr_of pn_L (Nat.le_of_ble_eq_true rfl) (fun p e s m below meth c A ls hy hX hN htab hW hA hl => ?_)
  have hF := hy.1
  have hx := hF.1
  have hb := hF.2.1
  have hK := hy.2.2.2
  have hl : lv_has ls 5 [(0, .ref (ad (1, 0, 0))), (1, .int a1), (2, .int a2), (3, .ref (ad (29, 0, 0)))] := hl
  refine lv_aload_n (pc := 0) hx hb d_L_submit_0 rfl (lv_at hl 3 rfl) ?_
  refine lv_iconst (pc := 1) (v := 0) hx hb d_L_submit_1 (by decide) ?_
  refine lv_aload_n (pc := 2) hx hb d_L_submit_2 rfl (lv_at hl 0 rfl) ?_
  refine lv_iload_n (pc := 3) hx hb d_L_submit_3 rfl (lv_at hl 1 rfl) ?_
  refine lv_iload_n (pc := 4) hx hb d_L_submit_4 rfl (lv_at hl 2 rfl) ?_
  have o1 := hk.1
  have hk := hk.2
  obtain ⟨r2, er2⟩ : ∃ z : Nat × Int32 × St, z = f_QC_submit a1 a2 S := ⟨_, rfl⟩
  have hr := lt_e er2 hr
  have hcr2 : cX l GG D clQ (tysQ ca) nwQ X ad TQ (cfQ ad ca) y_QC_submit b_QC_submit 3 .boolean 6 100 [.ref (ad (1, 0, 0)), .int a1, .int a2] S r2 := er2 ▸ c_QC_submit l htr D X ad ca a1 a2 S o1
  refine x_call (pc := 5) hF hK hW hA hX.here hcr2 cd_QC_submit gw_600 tq1 rfl rfl ⟨Nat.le_of_ble_eq_true rfl, Nat.le_of_ble_eq_true rfl⟩ ⟨Nat.le_of_ble_eq_true rfl, Nat.le_of_ble_eq_true rfl⟩ rfl rfl hl.1 (Nat.le_of_ble_eq_true rfl) d_L_submit_5 (fun c3 H locs hW => ?_) (fun c3 U q ce Z hce hcv hcl hW => ?_)
  · have hr := (if_pos c3).symm.trans hr
    refine lv_if_eq (pc := 8) (tgt := 15) hx hb d_L_submit_8 (by decide) (fun c4 => ?_) (fun c4 => ?_)
    · have hr := (if_pos c4).symm.trans hr
      refine lv_lconst (pc := 15) (v := 0) hx hb d_L_submit_15 (by decide) ?_
      have b5 : vp_in (0 : Int32) 1 := by unfold vp_in; decide
      obtain ⟨S6, eS6⟩ : ∃ z : St, z = sl r2.2.2 29 0 0 0 (0 : Int64) := ⟨_, rfl⟩
      have hr := lt_e eS6 hr
      refine z_last (pc := 16) (S' := S6) hF hK.1 hW tq29 1 rfl rfl b5 (zs_sl eS6 rfl) (zs_slo eS6) d_L_submit_16 (fun H locs (hW : Wd D clQ A s.heap (zw X ad TQ (cfQ ad ca) S6) H locs) => ?_)
      refine lv_goto (pc := 17) (tgt := 28) hx hb d_L_submit_17 (by decide) ?_
      refine lv_iconst (pc := 28) (v := 0) hx hb d_L_submit_28 (by decide) ?_
      exact w_iret (v := (0 : Int32)) hy hW (Nat.le_of_ble_eq_true rfl) (Nat.le_of_ble_eq_true rfl) hr.symm d_L_submit_29
    · have hr := (if_neg c4).symm.trans hr
      refine lv_lconst (pc := 11) (v := 1) hx hb d_L_submit_11 (by decide) ?_
      refine lv_goto (pc := 12) (tgt := 16) hx hb d_L_submit_12 (by decide) ?_
      have b7 : vp_in (0 : Int32) 1 := by unfold vp_in; decide
      obtain ⟨S8, eS8⟩ : ∃ z : St, z = sl r2.2.2 29 0 0 0 (1 : Int64) := ⟨_, rfl⟩
      have hr := lt_e eS8 hr
      refine z_last (pc := 16) (S' := S8) hF hK.1 hW tq29 1 rfl rfl b7 (zs_sl eS8 rfl) (zs_slo eS8) d_L_submit_16 (fun H locs (hW : Wd D clQ A s.heap (zw X ad TQ (cfQ ad ca) S8) H locs) => ?_)
      refine lv_goto (pc := 17) (tgt := 28) hx hb d_L_submit_17 (by decide) ?_
      refine lv_iconst (pc := 28) (v := 0) hx hb d_L_submit_28 (by decide) ?_
      exact w_iret (v := (0 : Int32)) hy hW (Nat.le_of_ble_eq_true rfl) (Nat.le_of_ble_eq_true rfl) hr.symm d_L_submit_29
  · have hr := (if_neg (Nat.ne_of_gt c3)).symm.trans hr
    by_cases c9 : r2.1 = 1
    · have hcl := xfn c9 hcl
      have hr := (if_pos c9).symm.trans hr
      refine land0 (pc := 5) Z hce hcv hcl htab (hit_of (pc := 5) Z hF.2.2.2.1 hcl (by decide) (by decide) (hF.2.2.2.2 _ gw_503) (hX.any _ xcA)) ?_
      refine lv_astore (pc := 20) (lv' := [(4, .ref q), (0, .ref (ad (1, 0, 0))), (1, .int a1), (2, .int a2), (3, .ref (ad (29, 0, 0)))]) hx hb d_L_submit_20 hl (by decide) rfl (fun ls hl => ?_)
      refine lv_iconst (pc := 22) (v := 1) hx hb d_L_submit_22 (by decide) ?_
      exact w_iret (v := (1 : Int32)) hy hW (Nat.le_of_ble_eq_true rfl) (Nat.le_of_ble_eq_true rfl) hr.symm d_L_submit_23
    · have hcl := xfs c9 hcl
      have hr := (if_neg c9).symm.trans hr
      refine land1 (pc := 5) Z hce hcv hcl htab (miss_of (pc := 5) (F := xIA) Z hF.2.2.2.1 hcl (by decide) (by decide) (hF.2.2.2.2 _ gw_503) hN) (hit_of (pc := 5) Z hF.2.2.2.1 hcl (by decide) (by decide) (hF.2.2.2.2 _ gw_504) (hX.any _ xcS)) ?_
      refine lv_astore (pc := 24) (lv' := [(4, .ref q), (0, .ref (ad (1, 0, 0))), (1, .int a1), (2, .int a2), (3, .ref (ad (29, 0, 0)))]) hx hb d_L_submit_24 hl (by decide) rfl (fun ls hl => ?_)
      refine lv_iconst (pc := 26) (v := 2) hx hb d_L_submit_26 (by decide) ?_
      exact w_iret (v := (2 : Int32)) hy hW (Nat.le_of_ble_eq_true rfl) (Nat.le_of_ble_eq_true rfl) hr.symm d_L_submit_27
theorem d_L_begin_0 : decode b_L_begin 0 = .ok (.aload_n 1, 1) := by decide +kernel
theorem d_L_begin_1 : decode b_L_begin 1 = .ok (.iconst 0, 1) := by decide +kernel
theorem d_L_begin_2 : decode b_L_begin 2 = .ok (.aload_n 0, 1) := by decide +kernel
theorem d_L_begin_3 : decode b_L_begin 3 = .ok (.invokevirtual 21, 3) := by decide +kernel
theorem d_L_begin_6 : decode b_L_begin 6 = .ok (.ifCond .eq 7, 3) := by decide +kernel
theorem d_L_begin_9 : decode b_L_begin 9 = .ok (.lconst 1, 1) := by decide +kernel
theorem d_L_begin_10 : decode b_L_begin 10 = .ok (.goto 4, 3) := by decide +kernel
theorem d_L_begin_13 : decode b_L_begin 13 = .ok (.lconst 0, 1) := by decide +kernel
theorem d_L_begin_14 : decode b_L_begin 14 = .ok (.lastore, 1) := by decide +kernel
theorem d_L_begin_15 : decode b_L_begin 15 = .ok (.goto 6, 3) := by decide +kernel
theorem d_L_begin_18 : decode b_L_begin 18 = .ok (.astore_n 2, 1) := by decide +kernel
theorem d_L_begin_19 : decode b_L_begin 19 = .ok (.iconst 1, 1) := by decide +kernel
theorem d_L_begin_20 : decode b_L_begin 20 = .ok (.ireturn, 1) := by decide +kernel
theorem d_L_begin_21 : decode b_L_begin 21 = .ok (.iconst 0, 1) := by decide +kernel
theorem d_L_begin_22 : decode b_L_begin 22 = .ok (.ireturn, 1) := by decide +kernel
def f_L_begin  (S : St) : Int32 × St :=
  lt (f_QC_begin S) fun (r2 : Nat × Int32 × St) =>
  if r2.1 = 0 then
    if r2.2.1 = 0 then
      lt (sl r2.2.2 29 0 0 0 (0 : Int64)) fun (S6 : St) =>
      ((0 : Int32), S6)
    else
      lt (sl r2.2.2 29 0 0 0 (1 : Int64)) fun (S8 : St) =>
      ((0 : Int32), S8)
  else
    ((1 : Int32), S)
def ok_L_begin  (S : St) : Prop :=
  (ok_QC_begin S) ∧ (
    lt (f_QC_begin S) fun (r2 : Nat × Int32 × St) =>
    (¬ r2.1 = 1) ∧ (
      True))
set_option maxHeartbeats 4000000 in
set_option maxRecDepth 100000 in
theorem c_L_begin (l : Launch) (htr : l.stackTraces = false) (D : va_G) (X : va_W) (ad : N3 → Nat) (ca : Nat → ClassId)   (S : St) (hk : ok_L_begin S) : cWr l GG D clQ (tysQ ca) nwQ X ad TQ (cfQ ad ca) y_L_begin b_L_begin 3 [(0, 15, 18, 15)] 7 186 [.ref (ad (1, 0, 0)), .ref (ad (29, 0, 0))] S (f_L_begin S) := by
  generalize hr : f_L_begin S = res
  refine wr_of pn_L (Nat.le_of_ble_eq_true rfl) (fun p e s m below meth c A ls hy hX hN htab hW hA hl => ?_)
  have hF := hy.1
  have hx := hF.1
  have hb := hF.2.1
  have hK := hy.2.2.2
  have hl : lv_has ls 3 [(0, .ref (ad (1, 0, 0))), (1, .ref (ad (29, 0, 0)))] := hl
  refine lv_aload_n (pc := 0) hx hb d_L_begin_0 rfl (lv_at hl 1 rfl) ?_
  refine lv_iconst (pc := 1) (v := 0) hx hb d_L_begin_1 (by decide) ?_
  refine lv_aload_n (pc := 2) hx hb d_L_begin_2 rfl (lv_at hl 0 rfl) ?_
  have o1 := hk.1
  have hk := hk.2
  obtain ⟨r2, er2⟩ : ∃ z : Nat × Int32 × St, z = f_QC_begin S := ⟨_, rfl⟩
  have hk := lt_p er2 hk
  have hr := lt_e er2 hr
  have b9 := hk.1
  have hk := hk.2
  have hcr2 : cX l GG D clQ (tysQ ca) nwQ X ad TQ (cfQ ad ca) y_QC_begin b_QC_begin 2 .boolean 6 165 [.ref (ad (1, 0, 0))] S r2 := er2 ▸ c_QC_begin l htr D X ad ca S o1
  refine x_call (pc := 3) hF hK hW hA hX.here hcr2 cd_QC_begin gw_617 tq1 rfl rfl ⟨Nat.le_of_ble_eq_true rfl, Nat.le_of_ble_eq_true rfl⟩ ⟨Nat.le_of_ble_eq_true rfl, Nat.le_of_ble_eq_true rfl⟩ rfl rfl hl.1 (Nat.le_of_ble_eq_true rfl) d_L_begin_3 (fun c3 H locs hW => ?_) (fun c3 U q ce Z hce hcv hcl hW => ?_)
  · have hr := (if_pos c3).symm.trans hr
    refine lv_if_eq (pc := 6) (tgt := 13) hx hb d_L_begin_6 (by decide) (fun c4 => ?_) (fun c4 => ?_)
    · have hr := (if_pos c4).symm.trans hr
      refine lv_lconst (pc := 13) (v := 0) hx hb d_L_begin_13 (by decide) ?_
      have b5 : vp_in (0 : Int32) 1 := by unfold vp_in; decide
      obtain ⟨S6, eS6⟩ : ∃ z : St, z = sl r2.2.2 29 0 0 0 (0 : Int64) := ⟨_, rfl⟩
      have hr := lt_e eS6 hr
      refine z_last (pc := 14) (S' := S6) hF hK.1 hW tq29 1 rfl rfl b5 (zs_sl eS6 rfl) (zs_slo eS6) d_L_begin_14 (fun H locs (hW : Wd D clQ A s.heap (zw X ad TQ (cfQ ad ca) S6) H locs) => ?_)
      refine lv_goto (pc := 15) (tgt := 21) hx hb d_L_begin_15 (by decide) ?_
      refine lv_iconst (pc := 21) (v := 0) hx hb d_L_begin_21 (by decide) ?_
      exact w_iret (v := (0 : Int32)) hy hW (Nat.le_of_ble_eq_true rfl) (Nat.le_of_ble_eq_true rfl) hr.symm d_L_begin_22
    · have hr := (if_neg c4).symm.trans hr
      refine lv_lconst (pc := 9) (v := 1) hx hb d_L_begin_9 (by decide) ?_
      refine lv_goto (pc := 10) (tgt := 14) hx hb d_L_begin_10 (by decide) ?_
      have b7 : vp_in (0 : Int32) 1 := by unfold vp_in; decide
      obtain ⟨S8, eS8⟩ : ∃ z : St, z = sl r2.2.2 29 0 0 0 (1 : Int64) := ⟨_, rfl⟩
      have hr := lt_e eS8 hr
      refine z_last (pc := 14) (S' := S8) hF hK.1 hW tq29 1 rfl rfl b7 (zs_sl eS8 rfl) (zs_slo eS8) d_L_begin_14 (fun H locs (hW : Wd D clQ A s.heap (zw X ad TQ (cfQ ad ca) S8) H locs) => ?_)
      refine lv_goto (pc := 15) (tgt := 21) hx hb d_L_begin_15 (by decide) ?_
      refine lv_iconst (pc := 21) (v := 0) hx hb d_L_begin_21 (by decide) ?_
      exact w_iret (v := (0 : Int32)) hy hW (Nat.le_of_ble_eq_true rfl) (Nat.le_of_ble_eq_true rfl) hr.symm d_L_begin_22
  · have hr := (if_neg (Nat.ne_of_gt c3)).symm.trans hr
    have hcl := xfs b9 hcl
    refine land0 (pc := 3) Z hce hcv hcl htab (hit_of (pc := 3) Z hF.2.2.2.1 hcl (by decide) (by decide) (hF.2.2.2.2 _ gw_504) (hX.any _ xcS)) ?_
    refine lv_astore_n (pc := 18) (lv' := [(2, .ref q), (0, .ref (ad (1, 0, 0))), (1, .ref (ad (29, 0, 0)))]) hx hb d_L_begin_18 rfl hl (by decide) rfl (fun ls hl => ?_)
    refine lv_iconst (pc := 19) (v := 1) hx hb d_L_begin_19 (by decide) ?_
    exact w_iret (v := (1 : Int32)) hy hW (Nat.le_of_ble_eq_true rfl) (Nat.le_of_ble_eq_true rfl) hr.symm d_L_begin_20
theorem d_L_deliver_0 : decode b_L_deliver 0 = .ok (.aload_n 2, 1) := by decide +kernel
theorem d_L_deliver_1 : decode b_L_deliver 1 = .ok (.iconst 0, 1) := by decide +kernel
theorem d_L_deliver_2 : decode b_L_deliver 2 = .ok (.aload_n 0, 1) := by decide +kernel
theorem d_L_deliver_3 : decode b_L_deliver 3 = .ok (.iload_n 1, 1) := by decide +kernel
theorem d_L_deliver_4 : decode b_L_deliver 4 = .ok (.invokevirtual 25, 3) := by decide +kernel
theorem d_L_deliver_7 : decode b_L_deliver 7 = .ok (.i2l, 1) := by decide +kernel
theorem d_L_deliver_8 : decode b_L_deliver 8 = .ok (.lastore, 1) := by decide +kernel
theorem d_L_deliver_9 : decode b_L_deliver 9 = .ok (.goto 9, 3) := by decide +kernel
theorem d_L_deliver_12 : decode b_L_deliver 12 = .ok (.astore_n 3, 1) := by decide +kernel
theorem d_L_deliver_13 : decode b_L_deliver 13 = .ok (.iconst 1, 1) := by decide +kernel
theorem d_L_deliver_14 : decode b_L_deliver 14 = .ok (.ireturn, 1) := by decide +kernel
theorem d_L_deliver_15 : decode b_L_deliver 15 = .ok (.astore_n 3, 1) := by decide +kernel
theorem d_L_deliver_16 : decode b_L_deliver 16 = .ok (.iconst 2, 1) := by decide +kernel
theorem d_L_deliver_17 : decode b_L_deliver 17 = .ok (.ireturn, 1) := by decide +kernel
theorem d_L_deliver_18 : decode b_L_deliver 18 = .ok (.iconst 0, 1) := by decide +kernel
theorem d_L_deliver_19 : decode b_L_deliver 19 = .ok (.ireturn, 1) := by decide +kernel
def f_L_deliver (a1 : Int32) (S : St) : Int32 × St :=
  lt (f_QC_deliver a1 S) fun (r2 : Nat × Int32 × St) =>
  if r2.1 = 0 then
    lt (sl r2.2.2 29 0 0 0 r2.2.1.toInt64) fun (S5 : St) =>
    ((0 : Int32), S5)
  else
    if r2.1 = 1 then
      ((1 : Int32), S)
    else
      ((2 : Int32), S)
def ok_L_deliver (a1 : Int32) (S : St) : Prop :=
  (ok_QC_deliver a1 S) ∧ (
    True)
set_option maxHeartbeats 4000000 in
set_option maxRecDepth 100000 in
theorem c_L_deliver (l : Launch) (htr : l.stackTraces = false) (D : va_G) (X : va_W) (ad : N3 → Nat) (ca : Nat → ClassId) (a1 : Int32)  (S : St) (hk : ok_L_deliver a1 S) : cWr l GG D clQ (tysQ ca) nwQ X ad TQ (cfQ ad ca) y_L_deliver b_L_deliver 4 [(0, 9, 12, 13), (0, 9, 15, 15)] 7 211 [.ref (ad (1, 0, 0)), .int a1, .ref (ad (29, 0, 0))] S (f_L_deliver a1 S) := by
  generalize hr : f_L_deliver a1 S = res
  refine wr_of pn_L (Nat.le_of_ble_eq_true rfl) (fun p e s m below meth c A ls hy hX hN htab hW hA hl => ?_)
  have hF := hy.1
  have hx := hF.1
  have hb := hF.2.1
  have hK := hy.2.2.2
  have hl : lv_has ls 4 [(0, .ref (ad (1, 0, 0))), (1, .int a1), (2, .ref (ad (29, 0, 0)))] := hl
  refine lv_aload_n (pc := 0) hx hb d_L_deliver_0 rfl (lv_at hl 2 rfl) ?_
  refine lv_iconst (pc := 1) (v := 0) hx hb d_L_deliver_1 (by decide) ?_
  refine lv_aload_n (pc := 2) hx hb d_L_deliver_2 rfl (lv_at hl 0 rfl) ?_
  refine lv_iload_n (pc := 3) hx hb d_L_deliver_3 rfl (lv_at hl 1 rfl) ?_
  have o1 := hk.1
  have hk := hk.2
  obtain ⟨r2, er2⟩ : ∃ z : Nat × Int32 × St, z = f_QC_deliver a1 S := ⟨_, rfl⟩
  have hr := lt_e er2 hr
  have hcr2 : cX l GG D clQ (tysQ ca) nwQ X ad TQ (cfQ ad ca) y_QC_deliver b_QC_deliver 3 .int 6 189 [.ref (ad (1, 0, 0)), .int a1] S r2 := er2 ▸ c_QC_deliver l htr D X ad ca a1 S o1
  refine x_call (pc := 4) hF hK hW hA hX.here hcr2 cd_QC_deliver gw_647 tq1 rfl rfl ⟨Nat.le_of_ble_eq_true rfl, Nat.le_of_ble_eq_true rfl⟩ ⟨Nat.le_of_ble_eq_true rfl, Nat.le_of_ble_eq_true rfl⟩ rfl rfl hl.1 (Nat.le_of_ble_eq_true rfl) d_L_deliver_4 (fun c3 H locs hW => ?_) (fun c3 U q ce Z hce hcv hcl hW => ?_)
  · have hr := (if_pos c3).symm.trans hr
    refine lv_i2l (pc := 7) hx hb d_L_deliver_7 rfl ?_
    have b4 : vp_in (0 : Int32) 1 := by unfold vp_in; decide
    obtain ⟨S5, eS5⟩ : ∃ z : St, z = sl r2.2.2 29 0 0 0 r2.2.1.toInt64 := ⟨_, rfl⟩
    have hr := lt_e eS5 hr
    refine z_last (pc := 8) (S' := S5) hF hK.1 hW tq29 1 rfl rfl b4 (zs_sl eS5 rfl) (zs_slo eS5) d_L_deliver_8 (fun H locs (hW : Wd D clQ A s.heap (zw X ad TQ (cfQ ad ca) S5) H locs) => ?_)
    refine lv_goto (pc := 9) (tgt := 18) hx hb d_L_deliver_9 (by decide) ?_
    refine lv_iconst (pc := 18) (v := 0) hx hb d_L_deliver_18 (by decide) ?_
    exact w_iret (v := (0 : Int32)) hy hW (Nat.le_of_ble_eq_true rfl) (Nat.le_of_ble_eq_true rfl) hr.symm d_L_deliver_19
  · have hr := (if_neg (Nat.ne_of_gt c3)).symm.trans hr
    by_cases c6 : r2.1 = 1
    · have hcl := xfn c6 hcl
      have hr := (if_pos c6).symm.trans hr
      refine land0 (pc := 4) Z hce hcv hcl htab (hit_of (pc := 4) Z hF.2.2.2.1 hcl (by decide) (by decide) (hF.2.2.2.2 _ gw_503) (hX.any _ xcA)) ?_
      refine lv_astore_n (pc := 12) (lv' := [(3, .ref q), (0, .ref (ad (1, 0, 0))), (1, .int a1), (2, .ref (ad (29, 0, 0)))]) hx hb d_L_deliver_12 rfl hl (by decide) rfl (fun ls hl => ?_)
      refine lv_iconst (pc := 13) (v := 1) hx hb d_L_deliver_13 (by decide) ?_
      exact w_iret (v := (1 : Int32)) hy hW (Nat.le_of_ble_eq_true rfl) (Nat.le_of_ble_eq_true rfl) hr.symm d_L_deliver_14
    · have hcl := xfs c6 hcl
      have hr := (if_neg c6).symm.trans hr
      refine land1 (pc := 4) Z hce hcv hcl htab (miss_of (pc := 4) (F := xIA) Z hF.2.2.2.1 hcl (by decide) (by decide) (hF.2.2.2.2 _ gw_503) hN) (hit_of (pc := 4) Z hF.2.2.2.1 hcl (by decide) (by decide) (hF.2.2.2.2 _ gw_504) (hX.any _ xcS)) ?_
      refine lv_astore_n (pc := 15) (lv' := [(3, .ref q), (0, .ref (ad (1, 0, 0))), (1, .int a1), (2, .ref (ad (29, 0, 0)))]) hx hb d_L_deliver_15 rfl hl (by decide) rfl (fun ls hl => ?_)
      refine lv_iconst (pc := 16) (v := 2) hx hb d_L_deliver_16 (by decide) ?_
      exact w_iret (v := (2 : Int32)) hy hW (Nat.le_of_ble_eq_true rfl) (Nat.le_of_ble_eq_true rfl) hr.symm d_L_deliver_17
theorem d_L_disturb_0 : decode b_L_disturb 0 = .ok (.aload_n 3, 1) := by decide +kernel
theorem d_L_disturb_1 : decode b_L_disturb 1 = .ok (.iconst 0, 1) := by decide +kernel
theorem d_L_disturb_2 : decode b_L_disturb 2 = .ok (.aload_n 0, 1) := by decide +kernel
theorem d_L_disturb_3 : decode b_L_disturb 3 = .ok (.iload_n 1, 1) := by decide +kernel
theorem d_L_disturb_4 : decode b_L_disturb 4 = .ok (.iload_n 2, 1) := by decide +kernel
theorem d_L_disturb_5 : decode b_L_disturb 5 = .ok (.invokevirtual 29, 3) := by decide +kernel
theorem d_L_disturb_8 : decode b_L_disturb 8 = .ok (.ifCond .eq 7, 3) := by decide +kernel
theorem d_L_disturb_11 : decode b_L_disturb 11 = .ok (.lconst 1, 1) := by decide +kernel
theorem d_L_disturb_12 : decode b_L_disturb 12 = .ok (.goto 4, 3) := by decide +kernel
theorem d_L_disturb_15 : decode b_L_disturb 15 = .ok (.lconst 0, 1) := by decide +kernel
theorem d_L_disturb_16 : decode b_L_disturb 16 = .ok (.lastore, 1) := by decide +kernel
theorem d_L_disturb_17 : decode b_L_disturb 17 = .ok (.goto 11, 3) := by decide +kernel
theorem d_L_disturb_20 : decode b_L_disturb 20 = .ok (.astore 4, 2) := by decide +kernel
theorem d_L_disturb_22 : decode b_L_disturb 22 = .ok (.iconst 1, 1) := by decide +kernel
theorem d_L_disturb_23 : decode b_L_disturb 23 = .ok (.ireturn, 1) := by decide +kernel
theorem d_L_disturb_24 : decode b_L_disturb 24 = .ok (.astore 4, 2) := by decide +kernel
theorem d_L_disturb_26 : decode b_L_disturb 26 = .ok (.iconst 2, 1) := by decide +kernel
theorem d_L_disturb_27 : decode b_L_disturb 27 = .ok (.ireturn, 1) := by decide +kernel
theorem d_L_disturb_28 : decode b_L_disturb 28 = .ok (.iconst 0, 1) := by decide +kernel
theorem d_L_disturb_29 : decode b_L_disturb 29 = .ok (.ireturn, 1) := by decide +kernel
def f_L_disturb (a1 : Int32) (a2 : Int32) (S : St) : Int32 × St :=
  lt (f_QC_disturb a1 a2 S) fun (r2 : Nat × Int32 × St) =>
  if r2.1 = 0 then
    if r2.2.1 = 0 then
      lt (sl r2.2.2 29 0 0 0 (0 : Int64)) fun (S6 : St) =>
      ((0 : Int32), S6)
    else
      lt (sl r2.2.2 29 0 0 0 (1 : Int64)) fun (S8 : St) =>
      ((0 : Int32), S8)
  else
    if r2.1 = 1 then
      ((1 : Int32), S)
    else
      ((2 : Int32), S)
def ok_L_disturb (a1 : Int32) (a2 : Int32) (S : St) : Prop :=
  (ok_QC_disturb a1 a2 S) ∧ (
    True)
set_option maxHeartbeats 4000000 in
set_option maxRecDepth 100000 in
theorem c_L_disturb (l : Launch) (htr : l.stackTraces = false) (D : va_G) (X : va_W) (ad : N3 → Nat) (ca : Nat → ClassId) (a1 : Int32) (a2 : Int32)  (S : St) (hk : ok_L_disturb a1 a2 S) : cWr l GG D clQ (tysQ ca) nwQ X ad TQ (cfQ ad ca) y_L_disturb b_L_disturb 5 [(0, 17, 20, 13), (0, 17, 24, 15)] 7 145 [.ref (ad (1, 0, 0)), .int a1, .int a2, .ref (ad (29, 0, 0))] S (f_L_disturb a1 a2 S) := by
  generalize hr : f_L_disturb a1 a2 S = res
  refine wr_of pn_L (Nat.le_of_ble_eq_true rfl) (fun p e s m below meth c A ls hy hX hN htab hW hA hl => ?_)
  have hF := hy.1
  have hx := hF.1
  have hb := hF.2.1
  have hK := hy.2.2.2
  have hl : lv_has ls 5 [(0, .ref (ad (1, 0, 0))), (1, .int a1), (2, .int a2), (3, .ref (ad (29, 0, 0)))] := hl
  refine lv_aload_n (pc := 0) hx hb d_L_disturb_0 rfl (lv_at hl 3 rfl) ?_
  refine lv_iconst (pc := 1) (v := 0) hx hb d_L_disturb_1 (by decide) ?_
  refine lv_aload_n (pc := 2) hx hb d_L_disturb_2 rfl (lv_at hl 0 rfl) ?_
  refine lv_iload_n (pc := 3) hx hb d_L_disturb_3 rfl (lv_at hl 1 rfl) ?_
  refine lv_iload_n (pc := 4) hx hb d_L_disturb_4 rfl (lv_at hl 2 rfl) ?_
  have o1 := hk.1
  have hk := hk.2
  obtain ⟨r2, er2⟩ : ∃ z : Nat × Int32 × St, z = f_QC_disturb a1 a2 S := ⟨_, rfl⟩
  have hr := lt_e er2 hr
  have hcr2 : cX l GG D clQ (tysQ ca) nwQ X ad TQ (cfQ ad ca) y_QC_disturb b_QC_disturb 4 .boolean 6 122 [.ref (ad (1, 0, 0)), .int a1, .int a2] S r2 := er2 ▸ c_QC_disturb l htr D X ad ca a1 a2 S o1
  refine x_call (pc := 5) hF hK hW hA hX.here hcr2 cd_QC_disturb gw_776 tq1 rfl rfl ⟨Nat.le_of_ble_eq_true rfl, Nat.le_of_ble_eq_true rfl⟩ ⟨Nat.le_of_ble_eq_true rfl, Nat.le_of_ble_eq_true rfl⟩ rfl rfl hl.1 (Nat.le_of_ble_eq_true rfl) d_L_disturb_5 (fun c3 H locs hW => ?_) (fun c3 U q ce Z hce hcv hcl hW => ?_)
  · have hr := (if_pos c3).symm.trans hr
    refine lv_if_eq (pc := 8) (tgt := 15) hx hb d_L_disturb_8 (by decide) (fun c4 => ?_) (fun c4 => ?_)
    · have hr := (if_pos c4).symm.trans hr
      refine lv_lconst (pc := 15) (v := 0) hx hb d_L_disturb_15 (by decide) ?_
      have b5 : vp_in (0 : Int32) 1 := by unfold vp_in; decide
      obtain ⟨S6, eS6⟩ : ∃ z : St, z = sl r2.2.2 29 0 0 0 (0 : Int64) := ⟨_, rfl⟩
      have hr := lt_e eS6 hr
      refine z_last (pc := 16) (S' := S6) hF hK.1 hW tq29 1 rfl rfl b5 (zs_sl eS6 rfl) (zs_slo eS6) d_L_disturb_16 (fun H locs (hW : Wd D clQ A s.heap (zw X ad TQ (cfQ ad ca) S6) H locs) => ?_)
      refine lv_goto (pc := 17) (tgt := 28) hx hb d_L_disturb_17 (by decide) ?_
      refine lv_iconst (pc := 28) (v := 0) hx hb d_L_disturb_28 (by decide) ?_
      exact w_iret (v := (0 : Int32)) hy hW (Nat.le_of_ble_eq_true rfl) (Nat.le_of_ble_eq_true rfl) hr.symm d_L_disturb_29
    · have hr := (if_neg c4).symm.trans hr
      refine lv_lconst (pc := 11) (v := 1) hx hb d_L_disturb_11 (by decide) ?_
      refine lv_goto (pc := 12) (tgt := 16) hx hb d_L_disturb_12 (by decide) ?_
      have b7 : vp_in (0 : Int32) 1 := by unfold vp_in; decide
      obtain ⟨S8, eS8⟩ : ∃ z : St, z = sl r2.2.2 29 0 0 0 (1 : Int64) := ⟨_, rfl⟩
      have hr := lt_e eS8 hr
      refine z_last (pc := 16) (S' := S8) hF hK.1 hW tq29 1 rfl rfl b7 (zs_sl eS8 rfl) (zs_slo eS8) d_L_disturb_16 (fun H locs (hW : Wd D clQ A s.heap (zw X ad TQ (cfQ ad ca) S8) H locs) => ?_)
      refine lv_goto (pc := 17) (tgt := 28) hx hb d_L_disturb_17 (by decide) ?_
      refine lv_iconst (pc := 28) (v := 0) hx hb d_L_disturb_28 (by decide) ?_
      exact w_iret (v := (0 : Int32)) hy hW (Nat.le_of_ble_eq_true rfl) (Nat.le_of_ble_eq_true rfl) hr.symm d_L_disturb_29
  · have hr := (if_neg (Nat.ne_of_gt c3)).symm.trans hr
    by_cases c9 : r2.1 = 1
    · have hcl := xfn c9 hcl
      have hr := (if_pos c9).symm.trans hr
      refine land0 (pc := 5) Z hce hcv hcl htab (hit_of (pc := 5) Z hF.2.2.2.1 hcl (by decide) (by decide) (hF.2.2.2.2 _ gw_503) (hX.any _ xcA)) ?_
      refine lv_astore (pc := 20) (lv' := [(4, .ref q), (0, .ref (ad (1, 0, 0))), (1, .int a1), (2, .int a2), (3, .ref (ad (29, 0, 0)))]) hx hb d_L_disturb_20 hl (by decide) rfl (fun ls hl => ?_)
      refine lv_iconst (pc := 22) (v := 1) hx hb d_L_disturb_22 (by decide) ?_
      exact w_iret (v := (1 : Int32)) hy hW (Nat.le_of_ble_eq_true rfl) (Nat.le_of_ble_eq_true rfl) hr.symm d_L_disturb_23
    · have hcl := xfs c9 hcl
      have hr := (if_neg c9).symm.trans hr
      refine land1 (pc := 5) Z hce hcv hcl htab (miss_of (pc := 5) (F := xIA) Z hF.2.2.2.1 hcl (by decide) (by decide) (hF.2.2.2.2 _ gw_503) hN) (hit_of (pc := 5) Z hF.2.2.2.1 hcl (by decide) (by decide) (hF.2.2.2.2 _ gw_504) (hX.any _ xcS)) ?_
      refine lv_astore (pc := 24) (lv' := [(4, .ref q), (0, .ref (ad (1, 0, 0))), (1, .int a1), (2, .int a2), (3, .ref (ad (29, 0, 0)))]) hx hb d_L_disturb_24 hl (by decide) rfl (fun ls hl => ?_)
      refine lv_iconst (pc := 26) (v := 2) hx hb d_L_disturb_26 (by decide) ?_
      exact w_iret (v := (2 : Int32)) hy hW (Nat.le_of_ble_eq_true rfl) (Nat.le_of_ble_eq_true rfl) hr.symm d_L_disturb_27
theorem d_L_alter_0 : decode b_L_alter 0 = .ok (.aload 5, 2) := by decide +kernel
theorem d_L_alter_2 : decode b_L_alter 2 = .ok (.iconst 0, 1) := by decide +kernel
theorem d_L_alter_3 : decode b_L_alter 3 = .ok (.aload_n 0, 1) := by decide +kernel
theorem d_L_alter_4 : decode b_L_alter 4 = .ok (.iload_n 1, 1) := by decide +kernel
theorem d_L_alter_5 : decode b_L_alter 5 = .ok (.iload_n 2, 1) := by decide +kernel
theorem d_L_alter_6 : decode b_L_alter 6 = .ok (.lload_n 3, 1) := by decide +kernel
theorem d_L_alter_7 : decode b_L_alter 7 = .ok (.invokevirtual 32, 3) := by decide +kernel
theorem d_L_alter_10 : decode b_L_alter 10 = .ok (.ifCond .eq 7, 3) := by decide +kernel
theorem d_L_alter_13 : decode b_L_alter 13 = .ok (.lconst 1, 1) := by decide +kernel
theorem d_L_alter_14 : decode b_L_alter 14 = .ok (.goto 4, 3) := by decide +kernel
theorem d_L_alter_17 : decode b_L_alter 17 = .ok (.lconst 0, 1) := by decide +kernel
theorem d_L_alter_18 : decode b_L_alter 18 = .ok (.lastore, 1) := by decide +kernel
theorem d_L_alter_19 : decode b_L_alter 19 = .ok (.goto 11, 3) := by decide +kernel
theorem d_L_alter_22 : decode b_L_alter 22 = .ok (.astore 6, 2) := by decide +kernel
theorem d_L_alter_24 : decode b_L_alter 24 = .ok (.iconst 1, 1) := by decide +kernel
theorem d_L_alter_25 : decode b_L_alter 25 = .ok (.ireturn, 1) := by decide +kernel
theorem d_L_alter_26 : decode b_L_alter 26 = .ok (.astore 6, 2) := by decide +kernel
theorem d_L_alter_28 : decode b_L_alter 28 = .ok (.iconst 2, 1) := by decide +kernel
theorem d_L_alter_29 : decode b_L_alter 29 = .ok (.ireturn, 1) := by decide +kernel
theorem d_L_alter_30 : decode b_L_alter 30 = .ok (.iconst 0, 1) := by decide +kernel
theorem d_L_alter_31 : decode b_L_alter 31 = .ok (.ireturn, 1) := by decide +kernel
def f_L_alter (a1 : Int32) (a2 : Int32) (a3 : Int64) (S : St) : Int32 × St :=
  lt (f_QC_alter a1 a2 a3 S) fun (r2 : Nat × Int32 × St) =>
  if r2.1 = 0 then
    if r2.2.1 = 0 then
      lt (sl r2.2.2 29 0 0 0 (0 : Int64)) fun (S6 : St) =>
      ((0 : Int32), S6)
    else
      lt (sl r2.2.2 29 0 0 0 (1 : Int64)) fun (S8 : St) =>
      ((0 : Int32), S8)
  else
    if r2.1 = 1 then
      ((1 : Int32), S)
    else
      ((2 : Int32), S)
def ok_L_alter (a1 : Int32) (a2 : Int32) (a3 : Int64) (S : St) : Prop :=
  (ok_QC_alter a1 a2 a3 S) ∧ (
    True)
set_option maxHeartbeats 4000000 in
set_option maxRecDepth 100000 in
theorem c_L_alter (l : Launch) (htr : l.stackTraces = false) (D : va_G) (X : va_W) (ad : N3 → Nat) (ca : Nat → ClassId) (a1 : Int32) (a2 : Int32) (a3 : Int64)  (S : St) (hk : ok_L_alter a1 a2 a3 S) : cWr l GG D clQ (tysQ ca) nwQ X ad TQ (cfQ ad ca) y_L_alter b_L_alter 7 [(0, 19, 22, 13), (0, 19, 26, 15)] 7 125 [.ref (ad (1, 0, 0)), .int a1, .int a2, .long a3, .ref (ad (29, 0, 0))] S (f_L_alter a1 a2 a3 S) := by
  generalize hr : f_L_alter a1 a2 a3 S = res
  refine wr_of pn_L (Nat.le_of_ble_eq_true rfl) (fun p e s m below meth c A ls hy hX hN htab hW hA hl => ?_)
  have hF := hy.1
  have hx := hF.1
  have hb := hF.2.1
  have hK := hy.2.2.2
  have hl : lv_has ls 7 [(0, .ref (ad (1, 0, 0))), (1, .int a1), (2, .int a2), (3, .long a3), (5, .ref (ad (29, 0, 0)))] := hl
  refine lv_aload (pc := 0) hx hb d_L_alter_0 (lv_at hl 4 rfl) ?_
  refine lv_iconst (pc := 2) (v := 0) hx hb d_L_alter_2 (by decide) ?_
  refine lv_aload_n (pc := 3) hx hb d_L_alter_3 rfl (lv_at hl 0 rfl) ?_
  refine lv_iload_n (pc := 4) hx hb d_L_alter_4 rfl (lv_at hl 1 rfl) ?_
  refine lv_iload_n (pc := 5) hx hb d_L_alter_5 rfl (lv_at hl 2 rfl) ?_
  refine lv_lload_n (pc := 6) hx hb d_L_alter_6 rfl (lv_at hl 3 rfl) ?_
  have o1 := hk.1
  have hk := hk.2
  obtain ⟨r2, er2⟩ : ∃ z : Nat × Int32 × St, z = f_QC_alter a1 a2 a3 S := ⟨_, rfl⟩
  have hr := lt_e er2 hr
  have hcr2 : cX l GG D clQ (tysQ ca) nwQ X ad TQ (cfQ ad ca) y_QC_alter b_QC_alter 6 .boolean 6 100 [.ref (ad (1, 0, 0)), .int a1, .int a2, .long a3] S r2 := er2 ▸ c_QC_alter l htr D X ad ca a1 a2 a3 S o1
  refine x_call (pc := 7) hF hK hW hA hX.here hcr2 cd_QC_alter gw_786 tq1 rfl rfl ⟨Nat.le_of_ble_eq_true rfl, Nat.le_of_ble_eq_true rfl⟩ ⟨Nat.le_of_ble_eq_true rfl, Nat.le_of_ble_eq_true rfl⟩ rfl rfl hl.1 (Nat.le_of_ble_eq_true rfl) d_L_alter_7 (fun c3 H locs hW => ?_) (fun c3 U q ce Z hce hcv hcl hW => ?_)
  · have hr := (if_pos c3).symm.trans hr
    refine lv_if_eq (pc := 10) (tgt := 17) hx hb d_L_alter_10 (by decide) (fun c4 => ?_) (fun c4 => ?_)
    · have hr := (if_pos c4).symm.trans hr
      refine lv_lconst (pc := 17) (v := 0) hx hb d_L_alter_17 (by decide) ?_
      have b5 : vp_in (0 : Int32) 1 := by unfold vp_in; decide
      obtain ⟨S6, eS6⟩ : ∃ z : St, z = sl r2.2.2 29 0 0 0 (0 : Int64) := ⟨_, rfl⟩
      have hr := lt_e eS6 hr
      refine z_last (pc := 18) (S' := S6) hF hK.1 hW tq29 1 rfl rfl b5 (zs_sl eS6 rfl) (zs_slo eS6) d_L_alter_18 (fun H locs (hW : Wd D clQ A s.heap (zw X ad TQ (cfQ ad ca) S6) H locs) => ?_)
      refine lv_goto (pc := 19) (tgt := 30) hx hb d_L_alter_19 (by decide) ?_
      refine lv_iconst (pc := 30) (v := 0) hx hb d_L_alter_30 (by decide) ?_
      exact w_iret (v := (0 : Int32)) hy hW (Nat.le_of_ble_eq_true rfl) (Nat.le_of_ble_eq_true rfl) hr.symm d_L_alter_31
    · have hr := (if_neg c4).symm.trans hr
      refine lv_lconst (pc := 13) (v := 1) hx hb d_L_alter_13 (by decide) ?_
      refine lv_goto (pc := 14) (tgt := 18) hx hb d_L_alter_14 (by decide) ?_
      have b7 : vp_in (0 : Int32) 1 := by unfold vp_in; decide
      obtain ⟨S8, eS8⟩ : ∃ z : St, z = sl r2.2.2 29 0 0 0 (1 : Int64) := ⟨_, rfl⟩
      have hr := lt_e eS8 hr
      refine z_last (pc := 18) (S' := S8) hF hK.1 hW tq29 1 rfl rfl b7 (zs_sl eS8 rfl) (zs_slo eS8) d_L_alter_18 (fun H locs (hW : Wd D clQ A s.heap (zw X ad TQ (cfQ ad ca) S8) H locs) => ?_)
      refine lv_goto (pc := 19) (tgt := 30) hx hb d_L_alter_19 (by decide) ?_
      refine lv_iconst (pc := 30) (v := 0) hx hb d_L_alter_30 (by decide) ?_
      exact w_iret (v := (0 : Int32)) hy hW (Nat.le_of_ble_eq_true rfl) (Nat.le_of_ble_eq_true rfl) hr.symm d_L_alter_31
  · have hr := (if_neg (Nat.ne_of_gt c3)).symm.trans hr
    by_cases c9 : r2.1 = 1
    · have hcl := xfn c9 hcl
      have hr := (if_pos c9).symm.trans hr
      refine land0 (pc := 7) Z hce hcv hcl htab (hit_of (pc := 7) Z hF.2.2.2.1 hcl (by decide) (by decide) (hF.2.2.2.2 _ gw_503) (hX.any _ xcA)) ?_
      refine lv_astore (pc := 22) (lv' := [(6, .ref q), (0, .ref (ad (1, 0, 0))), (1, .int a1), (2, .int a2), (3, .long a3), (5, .ref (ad (29, 0, 0)))]) hx hb d_L_alter_22 hl (by decide) rfl (fun ls hl => ?_)
      refine lv_iconst (pc := 24) (v := 1) hx hb d_L_alter_24 (by decide) ?_
      exact w_iret (v := (1 : Int32)) hy hW (Nat.le_of_ble_eq_true rfl) (Nat.le_of_ble_eq_true rfl) hr.symm d_L_alter_25
    · have hcl := xfs c9 hcl
      have hr := (if_neg c9).symm.trans hr
      refine land1 (pc := 7) Z hce hcv hcl htab (miss_of (pc := 7) (F := xIA) Z hF.2.2.2.1 hcl (by decide) (by decide) (hF.2.2.2.2 _ gw_503) hN) (hit_of (pc := 7) Z hF.2.2.2.1 hcl (by decide) (by decide) (hF.2.2.2.2 _ gw_504) (hX.any _ xcS)) ?_
      refine lv_astore (pc := 26) (lv' := [(6, .ref q), (0, .ref (ad (1, 0, 0))), (1, .int a1), (2, .int a2), (3, .long a3), (5, .ref (ad (29, 0, 0)))]) hx hb d_L_alter_26 hl (by decide) rfl (fun ls hl => ?_)
      refine lv_iconst (pc := 28) (v := 2) hx hb d_L_alter_28 (by decide) ?_
      exact w_iret (v := (2 : Int32)) hy hW (Nat.le_of_ble_eq_true rfl) (Nat.le_of_ble_eq_true rfl) hr.symm d_L_alter_29
theorem d_L_lie_0 : decode b_L_lie 0 = .ok (.aload 5, 2) := by decide +kernel
theorem d_L_lie_2 : decode b_L_lie 2 = .ok (.iconst 0, 1) := by decide +kernel
theorem d_L_lie_3 : decode b_L_lie 3 = .ok (.aload_n 0, 1) := by decide +kernel
theorem d_L_lie_4 : decode b_L_lie 4 = .ok (.iload_n 1, 1) := by decide +kernel
theorem d_L_lie_5 : decode b_L_lie 5 = .ok (.iload_n 2, 1) := by decide +kernel
theorem d_L_lie_6 : decode b_L_lie 6 = .ok (.iload_n 3, 1) := by decide +kernel
theorem d_L_lie_7 : decode b_L_lie 7 = .ok (.iload 4, 2) := by decide +kernel
theorem d_L_lie_9 : decode b_L_lie 9 = .ok (.invokevirtual 36, 3) := by decide +kernel
theorem d_L_lie_12 : decode b_L_lie 12 = .ok (.i2l, 1) := by decide +kernel
theorem d_L_lie_13 : decode b_L_lie 13 = .ok (.lastore, 1) := by decide +kernel
theorem d_L_lie_14 : decode b_L_lie 14 = .ok (.goto 11, 3) := by decide +kernel
theorem d_L_lie_17 : decode b_L_lie 17 = .ok (.astore 6, 2) := by decide +kernel
theorem d_L_lie_19 : decode b_L_lie 19 = .ok (.iconst 1, 1) := by decide +kernel
theorem d_L_lie_20 : decode b_L_lie 20 = .ok (.ireturn, 1) := by decide +kernel
theorem d_L_lie_21 : decode b_L_lie 21 = .ok (.astore 6, 2) := by decide +kernel
theorem d_L_lie_23 : decode b_L_lie 23 = .ok (.iconst 2, 1) := by decide +kernel
theorem d_L_lie_24 : decode b_L_lie 24 = .ok (.ireturn, 1) := by decide +kernel
theorem d_L_lie_25 : decode b_L_lie 25 = .ok (.iconst 0, 1) := by decide +kernel
theorem d_L_lie_26 : decode b_L_lie 26 = .ok (.ireturn, 1) := by decide +kernel
def f_L_lie (a1 : Int32) (a2 : Int32) (a3 : Int32) (a4 : Int32) (S : St) : Int32 × St :=
  lt (f_QC_lie a1 a2 a3 a4 S) fun (r2 : Nat × Int32 × St) =>
  if r2.1 = 0 then
    lt (sl r2.2.2 29 0 0 0 r2.2.1.toInt64) fun (S5 : St) =>
    ((0 : Int32), S5)
  else
    if r2.1 = 1 then
      ((1 : Int32), S)
    else
      ((2 : Int32), S)
def ok_L_lie (a1 : Int32) (a2 : Int32) (a3 : Int32) (a4 : Int32) (S : St) : Prop :=
  (ok_QC_lie a1 a2 a3 a4 S) ∧ (
    True)
set_option maxHeartbeats 4000000 in
set_option maxRecDepth 100000 in
theorem c_L_lie (l : Launch) (htr : l.stackTraces = false) (D : va_G) (X : va_W) (ad : N3 → Nat) (ca : Nat → ClassId) (a1 : Int32) (a2 : Int32) (a3 : Int32) (a4 : Int32)  (S : St) (hk : ok_L_lie a1 a2 a3 a4 S) : cWr l GG D clQ (tysQ ca) nwQ X ad TQ (cfQ ad ca) y_L_lie b_L_lie 7 [(0, 14, 17, 13), (0, 14, 21, 15)] 7 148 [.ref (ad (1, 0, 0)), .int a1, .int a2, .int a3, .int a4, .ref (ad (29, 0, 0))] S (f_L_lie a1 a2 a3 a4 S) := by
  generalize hr : f_L_lie a1 a2 a3 a4 S = res
  refine wr_of pn_L (Nat.le_of_ble_eq_true rfl) (fun p e s m below meth c A ls hy hX hN htab hW hA hl => ?_)
  have hF := hy.1
  have hx := hF.1
  have hb := hF.2.1
  have hK := hy.2.2.2
  have hl : lv_has ls 7 [(0, .ref (ad (1, 0, 0))), (1, .int a1), (2, .int a2), (3, .int a3), (4, .int a4), (5, .ref (ad (29, 0, 0)))] := hl
  refine lv_aload (pc := 0) hx hb d_L_lie_0 (lv_at hl 5 rfl) ?_
  refine lv_iconst (pc := 2) (v := 0) hx hb d_L_lie_2 (by decide) ?_
  refine lv_aload_n (pc := 3) hx hb d_L_lie_3 rfl (lv_at hl 0 rfl) ?_
  refine lv_iload_n (pc := 4) hx hb d_L_lie_4 rfl (lv_at hl 1 rfl) ?_
  refine lv_iload_n (pc := 5) hx hb d_L_lie_5 rfl (lv_at hl 2 rfl) ?_
  refine lv_iload_n (pc := 6) hx hb d_L_lie_6 rfl (lv_at hl 3 rfl) ?_
  refine lv_iload (pc := 7) hx hb d_L_lie_7 (lv_at hl 4 rfl) ?_
  have o1 := hk.1
  have hk := hk.2
  obtain ⟨r2, er2⟩ : ∃ z : Nat × Int32 × St, z = f_QC_lie a1 a2 a3 a4 S := ⟨_, rfl⟩
  have hr := lt_e er2 hr
  have hcr2 : cX l GG D clQ (tysQ ca) nwQ X ad TQ (cfQ ad ca) y_QC_lie b_QC_lie 7 .int 6 122 [.ref (ad (1, 0, 0)), .int a1, .int a2, .int a3, .int a4] S r2 := er2 ▸ c_QC_lie l htr D X ad ca a1 a2 a3 a4 S o1
  refine x_call (pc := 9) hF hK hW hA hX.here hcr2 cd_QC_lie gw_795 tq1 rfl rfl ⟨Nat.le_of_ble_eq_true rfl, Nat.le_of_ble_eq_true rfl⟩ ⟨Nat.le_of_ble_eq_true rfl, Nat.le_of_ble_eq_true rfl⟩ rfl rfl hl.1 (Nat.le_of_ble_eq_true rfl) d_L_lie_9 (fun c3 H locs hW => ?_) (fun c3 U q ce Z hce hcv hcl hW => ?_)
  · have hr := (if_pos c3).symm.trans hr
    refine lv_i2l (pc := 12) hx hb d_L_lie_12 rfl ?_
    have b4 : vp_in (0 : Int32) 1 := by unfold vp_in; decide
    obtain ⟨S5, eS5⟩ : ∃ z : St, z = sl r2.2.2 29 0 0 0 r2.2.1.toInt64 := ⟨_, rfl⟩
    have hr := lt_e eS5 hr
    refine z_last (pc := 13) (S' := S5) hF hK.1 hW tq29 1 rfl rfl b4 (zs_sl eS5 rfl) (zs_slo eS5) d_L_lie_13 (fun H locs (hW : Wd D clQ A s.heap (zw X ad TQ (cfQ ad ca) S5) H locs) => ?_)
    refine lv_goto (pc := 14) (tgt := 25) hx hb d_L_lie_14 (by decide) ?_
    refine lv_iconst (pc := 25) (v := 0) hx hb d_L_lie_25 (by decide) ?_
    exact w_iret (v := (0 : Int32)) hy hW (Nat.le_of_ble_eq_true rfl) (Nat.le_of_ble_eq_true rfl) hr.symm d_L_lie_26
  · have hr := (if_neg (Nat.ne_of_gt c3)).symm.trans hr
    by_cases c6 : r2.1 = 1
    · have hcl := xfn c6 hcl
      have hr := (if_pos c6).symm.trans hr
      refine land0 (pc := 9) Z hce hcv hcl htab (hit_of (pc := 9) Z hF.2.2.2.1 hcl (by decide) (by decide) (hF.2.2.2.2 _ gw_503) (hX.any _ xcA)) ?_
      refine lv_astore (pc := 17) (lv' := [(6, .ref q), (0, .ref (ad (1, 0, 0))), (1, .int a1), (2, .int a2), (3, .int a3), (4, .int a4), (5, .ref (ad (29, 0, 0)))]) hx hb d_L_lie_17 hl (by decide) rfl (fun ls hl => ?_)
      refine lv_iconst (pc := 19) (v := 1) hx hb d_L_lie_19 (by decide) ?_
      exact w_iret (v := (1 : Int32)) hy hW (Nat.le_of_ble_eq_true rfl) (Nat.le_of_ble_eq_true rfl) hr.symm d_L_lie_20
    · have hcl := xfs c6 hcl
      have hr := (if_neg c6).symm.trans hr
      refine land1 (pc := 9) Z hce hcv hcl htab (miss_of (pc := 9) (F := xIA) Z hF.2.2.2.1 hcl (by decide) (by decide) (hF.2.2.2.2 _ gw_503) hN) (hit_of (pc := 9) Z hF.2.2.2.1 hcl (by decide) (by decide) (hF.2.2.2.2 _ gw_504) (hX.any _ xcS)) ?_
      refine lv_astore (pc := 21) (lv' := [(6, .ref q), (0, .ref (ad (1, 0, 0))), (1, .int a1), (2, .int a2), (3, .int a3), (4, .int a4), (5, .ref (ad (29, 0, 0)))]) hx hb d_L_lie_21 hl (by decide) rfl (fun ls hl => ?_)
      refine lv_iconst (pc := 23) (v := 2) hx hb d_L_lie_23 (by decide) ?_
      exact w_iret (v := (2 : Int32)) hy hW (Nat.le_of_ble_eq_true rfl) (Nat.le_of_ble_eq_true rfl) hr.symm d_L_lie_24
theorem d_L_lieVote_0 : decode b_L_lieVote 0 = .ok (.aload_n 3, 1) := by decide +kernel
theorem d_L_lieVote_1 : decode b_L_lieVote 1 = .ok (.iconst 0, 1) := by decide +kernel
theorem d_L_lieVote_2 : decode b_L_lieVote 2 = .ok (.aload_n 0, 1) := by decide +kernel
theorem d_L_lieVote_3 : decode b_L_lieVote 3 = .ok (.iload_n 1, 1) := by decide +kernel
theorem d_L_lieVote_4 : decode b_L_lieVote 4 = .ok (.iload_n 2, 1) := by decide +kernel
theorem d_L_lieVote_5 : decode b_L_lieVote 5 = .ok (.invokevirtual 39, 3) := by decide +kernel
theorem d_L_lieVote_8 : decode b_L_lieVote 8 = .ok (.ifCond .eq 7, 3) := by decide +kernel
theorem d_L_lieVote_11 : decode b_L_lieVote 11 = .ok (.lconst 1, 1) := by decide +kernel
theorem d_L_lieVote_12 : decode b_L_lieVote 12 = .ok (.goto 4, 3) := by decide +kernel
theorem d_L_lieVote_15 : decode b_L_lieVote 15 = .ok (.lconst 0, 1) := by decide +kernel
theorem d_L_lieVote_16 : decode b_L_lieVote 16 = .ok (.lastore, 1) := by decide +kernel
theorem d_L_lieVote_17 : decode b_L_lieVote 17 = .ok (.goto 11, 3) := by decide +kernel
theorem d_L_lieVote_20 : decode b_L_lieVote 20 = .ok (.astore 4, 2) := by decide +kernel
theorem d_L_lieVote_22 : decode b_L_lieVote 22 = .ok (.iconst 1, 1) := by decide +kernel
theorem d_L_lieVote_23 : decode b_L_lieVote 23 = .ok (.ireturn, 1) := by decide +kernel
theorem d_L_lieVote_24 : decode b_L_lieVote 24 = .ok (.astore 4, 2) := by decide +kernel
theorem d_L_lieVote_26 : decode b_L_lieVote 26 = .ok (.iconst 2, 1) := by decide +kernel
theorem d_L_lieVote_27 : decode b_L_lieVote 27 = .ok (.ireturn, 1) := by decide +kernel
theorem d_L_lieVote_28 : decode b_L_lieVote 28 = .ok (.iconst 0, 1) := by decide +kernel
theorem d_L_lieVote_29 : decode b_L_lieVote 29 = .ok (.ireturn, 1) := by decide +kernel
def f_L_lieVote (a1 : Int32) (a2 : Int32) (S : St) : Int32 × St :=
  lt (f_QC_lieVote a1 a2 S) fun (r2 : Nat × Int32 × St) =>
  if r2.1 = 0 then
    if r2.2.1 = 0 then
      lt (sl r2.2.2 29 0 0 0 (0 : Int64)) fun (S6 : St) =>
      ((0 : Int32), S6)
    else
      lt (sl r2.2.2 29 0 0 0 (1 : Int64)) fun (S8 : St) =>
      ((0 : Int32), S8)
  else
    if r2.1 = 1 then
      ((1 : Int32), S)
    else
      ((2 : Int32), S)
def ok_L_lieVote (a1 : Int32) (a2 : Int32) (S : St) : Prop :=
  (ok_QC_lieVote a1 a2 S) ∧ (
    True)
set_option maxHeartbeats 4000000 in
set_option maxRecDepth 100000 in
theorem c_L_lieVote (l : Launch) (htr : l.stackTraces = false) (D : va_G) (X : va_W) (ad : N3 → Nat) (ca : Nat → ClassId) (a1 : Int32) (a2 : Int32)  (S : St) (hk : ok_L_lieVote a1 a2 S) : cWr l GG D clQ (tysQ ca) nwQ X ad TQ (cfQ ad ca) y_L_lieVote b_L_lieVote 5 [(0, 17, 20, 13), (0, 17, 24, 15)] 7 145 [.ref (ad (1, 0, 0)), .int a1, .int a2, .ref (ad (29, 0, 0))] S (f_L_lieVote a1 a2 S) := by
  generalize hr : f_L_lieVote a1 a2 S = res
  refine wr_of pn_L (Nat.le_of_ble_eq_true rfl) (fun p e s m below meth c A ls hy hX hN htab hW hA hl => ?_)
  have hF := hy.1
  have hx := hF.1
  have hb := hF.2.1
  have hK := hy.2.2.2
  have hl : lv_has ls 5 [(0, .ref (ad (1, 0, 0))), (1, .int a1), (2, .int a2), (3, .ref (ad (29, 0, 0)))] := hl
  refine lv_aload_n (pc := 0) hx hb d_L_lieVote_0 rfl (lv_at hl 3 rfl) ?_
  refine lv_iconst (pc := 1) (v := 0) hx hb d_L_lieVote_1 (by decide) ?_
  refine lv_aload_n (pc := 2) hx hb d_L_lieVote_2 rfl (lv_at hl 0 rfl) ?_
  refine lv_iload_n (pc := 3) hx hb d_L_lieVote_3 rfl (lv_at hl 1 rfl) ?_
  refine lv_iload_n (pc := 4) hx hb d_L_lieVote_4 rfl (lv_at hl 2 rfl) ?_
  have o1 := hk.1
  have hk := hk.2
  obtain ⟨r2, er2⟩ : ∃ z : Nat × Int32 × St, z = f_QC_lieVote a1 a2 S := ⟨_, rfl⟩
  have hr := lt_e er2 hr
  have hcr2 : cX l GG D clQ (tysQ ca) nwQ X ad TQ (cfQ ad ca) y_QC_lieVote b_QC_lieVote 4 .boolean 6 122 [.ref (ad (1, 0, 0)), .int a1, .int a2] S r2 := er2 ▸ c_QC_lieVote l htr D X ad ca a1 a2 S o1
  refine x_call (pc := 5) hF hK hW hA hX.here hcr2 cd_QC_lieVote gw_807 tq1 rfl rfl ⟨Nat.le_of_ble_eq_true rfl, Nat.le_of_ble_eq_true rfl⟩ ⟨Nat.le_of_ble_eq_true rfl, Nat.le_of_ble_eq_true rfl⟩ rfl rfl hl.1 (Nat.le_of_ble_eq_true rfl) d_L_lieVote_5 (fun c3 H locs hW => ?_) (fun c3 U q ce Z hce hcv hcl hW => ?_)
  · have hr := (if_pos c3).symm.trans hr
    refine lv_if_eq (pc := 8) (tgt := 15) hx hb d_L_lieVote_8 (by decide) (fun c4 => ?_) (fun c4 => ?_)
    · have hr := (if_pos c4).symm.trans hr
      refine lv_lconst (pc := 15) (v := 0) hx hb d_L_lieVote_15 (by decide) ?_
      have b5 : vp_in (0 : Int32) 1 := by unfold vp_in; decide
      obtain ⟨S6, eS6⟩ : ∃ z : St, z = sl r2.2.2 29 0 0 0 (0 : Int64) := ⟨_, rfl⟩
      have hr := lt_e eS6 hr
      refine z_last (pc := 16) (S' := S6) hF hK.1 hW tq29 1 rfl rfl b5 (zs_sl eS6 rfl) (zs_slo eS6) d_L_lieVote_16 (fun H locs (hW : Wd D clQ A s.heap (zw X ad TQ (cfQ ad ca) S6) H locs) => ?_)
      refine lv_goto (pc := 17) (tgt := 28) hx hb d_L_lieVote_17 (by decide) ?_
      refine lv_iconst (pc := 28) (v := 0) hx hb d_L_lieVote_28 (by decide) ?_
      exact w_iret (v := (0 : Int32)) hy hW (Nat.le_of_ble_eq_true rfl) (Nat.le_of_ble_eq_true rfl) hr.symm d_L_lieVote_29
    · have hr := (if_neg c4).symm.trans hr
      refine lv_lconst (pc := 11) (v := 1) hx hb d_L_lieVote_11 (by decide) ?_
      refine lv_goto (pc := 12) (tgt := 16) hx hb d_L_lieVote_12 (by decide) ?_
      have b7 : vp_in (0 : Int32) 1 := by unfold vp_in; decide
      obtain ⟨S8, eS8⟩ : ∃ z : St, z = sl r2.2.2 29 0 0 0 (1 : Int64) := ⟨_, rfl⟩
      have hr := lt_e eS8 hr
      refine z_last (pc := 16) (S' := S8) hF hK.1 hW tq29 1 rfl rfl b7 (zs_sl eS8 rfl) (zs_slo eS8) d_L_lieVote_16 (fun H locs (hW : Wd D clQ A s.heap (zw X ad TQ (cfQ ad ca) S8) H locs) => ?_)
      refine lv_goto (pc := 17) (tgt := 28) hx hb d_L_lieVote_17 (by decide) ?_
      refine lv_iconst (pc := 28) (v := 0) hx hb d_L_lieVote_28 (by decide) ?_
      exact w_iret (v := (0 : Int32)) hy hW (Nat.le_of_ble_eq_true rfl) (Nat.le_of_ble_eq_true rfl) hr.symm d_L_lieVote_29
  · have hr := (if_neg (Nat.ne_of_gt c3)).symm.trans hr
    by_cases c9 : r2.1 = 1
    · have hcl := xfn c9 hcl
      have hr := (if_pos c9).symm.trans hr
      refine land0 (pc := 5) Z hce hcv hcl htab (hit_of (pc := 5) Z hF.2.2.2.1 hcl (by decide) (by decide) (hF.2.2.2.2 _ gw_503) (hX.any _ xcA)) ?_
      refine lv_astore (pc := 20) (lv' := [(4, .ref q), (0, .ref (ad (1, 0, 0))), (1, .int a1), (2, .int a2), (3, .ref (ad (29, 0, 0)))]) hx hb d_L_lieVote_20 hl (by decide) rfl (fun ls hl => ?_)
      refine lv_iconst (pc := 22) (v := 1) hx hb d_L_lieVote_22 (by decide) ?_
      exact w_iret (v := (1 : Int32)) hy hW (Nat.le_of_ble_eq_true rfl) (Nat.le_of_ble_eq_true rfl) hr.symm d_L_lieVote_23
    · have hcl := xfs c9 hcl
      have hr := (if_neg c9).symm.trans hr
      refine land1 (pc := 5) Z hce hcv hcl htab (miss_of (pc := 5) (F := xIA) Z hF.2.2.2.1 hcl (by decide) (by decide) (hF.2.2.2.2 _ gw_503) hN) (hit_of (pc := 5) Z hF.2.2.2.1 hcl (by decide) (by decide) (hF.2.2.2.2 _ gw_504) (hX.any _ xcS)) ?_
      refine lv_astore (pc := 24) (lv' := [(4, .ref q), (0, .ref (ad (1, 0, 0))), (1, .int a1), (2, .int a2), (3, .ref (ad (29, 0, 0)))]) hx hb d_L_lieVote_24 hl (by decide) rfl (fun ls hl => ?_)
      refine lv_iconst (pc := 26) (v := 2) hx hb d_L_lieVote_26 (by decide) ?_
      exact w_iret (v := (2 : Int32)) hy hW (Nat.le_of_ble_eq_true rfl) (Nat.le_of_ble_eq_true rfl) hr.symm d_L_lieVote_27
theorem d_L_crash_0 : decode b_L_crash 0 = .ok (.aload_n 2, 1) := by decide +kernel
theorem d_L_crash_1 : decode b_L_crash 1 = .ok (.iconst 0, 1) := by decide +kernel
theorem d_L_crash_2 : decode b_L_crash 2 = .ok (.aload_n 0, 1) := by decide +kernel
theorem d_L_crash_3 : decode b_L_crash 3 = .ok (.iload_n 1, 1) := by decide +kernel
theorem d_L_crash_4 : decode b_L_crash 4 = .ok (.invokevirtual 42, 3) := by decide +kernel
theorem d_L_crash_7 : decode b_L_crash 7 = .ok (.ifCond .eq 7, 3) := by decide +kernel
theorem d_L_crash_10 : decode b_L_crash 10 = .ok (.lconst 1, 1) := by decide +kernel
theorem d_L_crash_11 : decode b_L_crash 11 = .ok (.goto 4, 3) := by decide +kernel
theorem d_L_crash_14 : decode b_L_crash 14 = .ok (.lconst 0, 1) := by decide +kernel
theorem d_L_crash_15 : decode b_L_crash 15 = .ok (.lastore, 1) := by decide +kernel
theorem d_L_crash_16 : decode b_L_crash 16 = .ok (.goto 9, 3) := by decide +kernel
theorem d_L_crash_19 : decode b_L_crash 19 = .ok (.astore_n 3, 1) := by decide +kernel
theorem d_L_crash_20 : decode b_L_crash 20 = .ok (.iconst 1, 1) := by decide +kernel
theorem d_L_crash_21 : decode b_L_crash 21 = .ok (.ireturn, 1) := by decide +kernel
theorem d_L_crash_22 : decode b_L_crash 22 = .ok (.astore_n 3, 1) := by decide +kernel
theorem d_L_crash_23 : decode b_L_crash 23 = .ok (.iconst 2, 1) := by decide +kernel
theorem d_L_crash_24 : decode b_L_crash 24 = .ok (.ireturn, 1) := by decide +kernel
theorem d_L_crash_25 : decode b_L_crash 25 = .ok (.iconst 0, 1) := by decide +kernel
theorem d_L_crash_26 : decode b_L_crash 26 = .ok (.ireturn, 1) := by decide +kernel
def f_L_crash (a1 : Int32) (S : St) : Int32 × St :=
  lt (f_QC_crash a1 S) fun (r2 : Nat × Int32 × St) =>
  if r2.1 = 0 then
    if r2.2.1 = 0 then
      lt (sl r2.2.2 29 0 0 0 (0 : Int64)) fun (S6 : St) =>
      ((0 : Int32), S6)
    else
      lt (sl r2.2.2 29 0 0 0 (1 : Int64)) fun (S8 : St) =>
      ((0 : Int32), S8)
  else
    if r2.1 = 1 then
      ((1 : Int32), S)
    else
      ((2 : Int32), S)
def ok_L_crash (a1 : Int32) (S : St) : Prop :=
  (ok_QC_crash a1 S) ∧ (
    True)
set_option maxHeartbeats 4000000 in
set_option maxRecDepth 100000 in
theorem c_L_crash (l : Launch) (htr : l.stackTraces = false) (D : va_G) (X : va_W) (ad : N3 → Nat) (ca : Nat → ClassId) (a1 : Int32)  (S : St) (hk : ok_L_crash a1 S) : cWr l GG D clQ (tysQ ca) nwQ X ad TQ (cfQ ad ca) y_L_crash b_L_crash 4 [(0, 16, 19, 13), (0, 16, 22, 15)] 7 121 [.ref (ad (1, 0, 0)), .int a1, .ref (ad (29, 0, 0))] S (f_L_crash a1 S) := by
  generalize hr : f_L_crash a1 S = res
  refine wr_of pn_L (Nat.le_of_ble_eq_true rfl) (fun p e s m below meth c A ls hy hX hN htab hW hA hl => ?_)
  have hF := hy.1
  have hx := hF.1
  have hb := hF.2.1
  have hK := hy.2.2.2
  have hl : lv_has ls 4 [(0, .ref (ad (1, 0, 0))), (1, .int a1), (2, .ref (ad (29, 0, 0)))] := hl
  refine lv_aload_n (pc := 0) hx hb d_L_crash_0 rfl (lv_at hl 2 rfl) ?_
  refine lv_iconst (pc := 1) (v := 0) hx hb d_L_crash_1 (by decide) ?_
  refine lv_aload_n (pc := 2) hx hb d_L_crash_2 rfl (lv_at hl 0 rfl) ?_
  refine lv_iload_n (pc := 3) hx hb d_L_crash_3 rfl (lv_at hl 1 rfl) ?_
  have o1 := hk.1
  have hk := hk.2
  obtain ⟨r2, er2⟩ : ∃ z : Nat × Int32 × St, z = f_QC_crash a1 S := ⟨_, rfl⟩
  have hr := lt_e er2 hr
  have hcr2 : cX l GG D clQ (tysQ ca) nwQ X ad TQ (cfQ ad ca) y_QC_crash b_QC_crash 2 .boolean 6 100 [.ref (ad (1, 0, 0)), .int a1] S r2 := er2 ▸ c_QC_crash l htr D X ad ca a1 S o1
  refine x_call (pc := 4) hF hK hW hA hX.here hcr2 cd_QC_crash gw_816 tq1 rfl rfl ⟨Nat.le_of_ble_eq_true rfl, Nat.le_of_ble_eq_true rfl⟩ ⟨Nat.le_of_ble_eq_true rfl, Nat.le_of_ble_eq_true rfl⟩ rfl rfl hl.1 (Nat.le_of_ble_eq_true rfl) d_L_crash_4 (fun c3 H locs hW => ?_) (fun c3 U q ce Z hce hcv hcl hW => ?_)
  · have hr := (if_pos c3).symm.trans hr
    refine lv_if_eq (pc := 7) (tgt := 14) hx hb d_L_crash_7 (by decide) (fun c4 => ?_) (fun c4 => ?_)
    · have hr := (if_pos c4).symm.trans hr
      refine lv_lconst (pc := 14) (v := 0) hx hb d_L_crash_14 (by decide) ?_
      have b5 : vp_in (0 : Int32) 1 := by unfold vp_in; decide
      obtain ⟨S6, eS6⟩ : ∃ z : St, z = sl r2.2.2 29 0 0 0 (0 : Int64) := ⟨_, rfl⟩
      have hr := lt_e eS6 hr
      refine z_last (pc := 15) (S' := S6) hF hK.1 hW tq29 1 rfl rfl b5 (zs_sl eS6 rfl) (zs_slo eS6) d_L_crash_15 (fun H locs (hW : Wd D clQ A s.heap (zw X ad TQ (cfQ ad ca) S6) H locs) => ?_)
      refine lv_goto (pc := 16) (tgt := 25) hx hb d_L_crash_16 (by decide) ?_
      refine lv_iconst (pc := 25) (v := 0) hx hb d_L_crash_25 (by decide) ?_
      exact w_iret (v := (0 : Int32)) hy hW (Nat.le_of_ble_eq_true rfl) (Nat.le_of_ble_eq_true rfl) hr.symm d_L_crash_26
    · have hr := (if_neg c4).symm.trans hr
      refine lv_lconst (pc := 10) (v := 1) hx hb d_L_crash_10 (by decide) ?_
      refine lv_goto (pc := 11) (tgt := 15) hx hb d_L_crash_11 (by decide) ?_
      have b7 : vp_in (0 : Int32) 1 := by unfold vp_in; decide
      obtain ⟨S8, eS8⟩ : ∃ z : St, z = sl r2.2.2 29 0 0 0 (1 : Int64) := ⟨_, rfl⟩
      have hr := lt_e eS8 hr
      refine z_last (pc := 15) (S' := S8) hF hK.1 hW tq29 1 rfl rfl b7 (zs_sl eS8 rfl) (zs_slo eS8) d_L_crash_15 (fun H locs (hW : Wd D clQ A s.heap (zw X ad TQ (cfQ ad ca) S8) H locs) => ?_)
      refine lv_goto (pc := 16) (tgt := 25) hx hb d_L_crash_16 (by decide) ?_
      refine lv_iconst (pc := 25) (v := 0) hx hb d_L_crash_25 (by decide) ?_
      exact w_iret (v := (0 : Int32)) hy hW (Nat.le_of_ble_eq_true rfl) (Nat.le_of_ble_eq_true rfl) hr.symm d_L_crash_26
  · have hr := (if_neg (Nat.ne_of_gt c3)).symm.trans hr
    by_cases c9 : r2.1 = 1
    · have hcl := xfn c9 hcl
      have hr := (if_pos c9).symm.trans hr
      refine land0 (pc := 4) Z hce hcv hcl htab (hit_of (pc := 4) Z hF.2.2.2.1 hcl (by decide) (by decide) (hF.2.2.2.2 _ gw_503) (hX.any _ xcA)) ?_
      refine lv_astore_n (pc := 19) (lv' := [(3, .ref q), (0, .ref (ad (1, 0, 0))), (1, .int a1), (2, .ref (ad (29, 0, 0)))]) hx hb d_L_crash_19 rfl hl (by decide) rfl (fun ls hl => ?_)
      refine lv_iconst (pc := 20) (v := 1) hx hb d_L_crash_20 (by decide) ?_
      exact w_iret (v := (1 : Int32)) hy hW (Nat.le_of_ble_eq_true rfl) (Nat.le_of_ble_eq_true rfl) hr.symm d_L_crash_21
    · have hcl := xfs c9 hcl
      have hr := (if_neg c9).symm.trans hr
      refine land1 (pc := 4) Z hce hcv hcl htab (miss_of (pc := 4) (F := xIA) Z hF.2.2.2.1 hcl (by decide) (by decide) (hF.2.2.2.2 _ gw_503) hN) (hit_of (pc := 4) Z hF.2.2.2.1 hcl (by decide) (by decide) (hF.2.2.2.2 _ gw_504) (hX.any _ xcS)) ?_
      refine lv_astore_n (pc := 22) (lv' := [(3, .ref q), (0, .ref (ad (1, 0, 0))), (1, .int a1), (2, .ref (ad (29, 0, 0)))]) hx hb d_L_crash_22 rfl hl (by decide) rfl (fun ls hl => ?_)
      refine lv_iconst (pc := 23) (v := 2) hx hb d_L_crash_23 (by decide) ?_
      exact w_iret (v := (2 : Int32)) hy hW (Nat.le_of_ble_eq_true rfl) (Nat.le_of_ble_eq_true rfl) hr.symm d_L_crash_24
theorem d_L_restart_0 : decode b_L_restart 0 = .ok (.aload_n 2, 1) := by decide +kernel
theorem d_L_restart_1 : decode b_L_restart 1 = .ok (.iconst 0, 1) := by decide +kernel
theorem d_L_restart_2 : decode b_L_restart 2 = .ok (.aload_n 0, 1) := by decide +kernel
theorem d_L_restart_3 : decode b_L_restart 3 = .ok (.iload_n 1, 1) := by decide +kernel
theorem d_L_restart_4 : decode b_L_restart 4 = .ok (.invokevirtual 46, 3) := by decide +kernel
theorem d_L_restart_7 : decode b_L_restart 7 = .ok (.ifCond .eq 7, 3) := by decide +kernel
theorem d_L_restart_10 : decode b_L_restart 10 = .ok (.lconst 1, 1) := by decide +kernel
theorem d_L_restart_11 : decode b_L_restart 11 = .ok (.goto 4, 3) := by decide +kernel
theorem d_L_restart_14 : decode b_L_restart 14 = .ok (.lconst 0, 1) := by decide +kernel
theorem d_L_restart_15 : decode b_L_restart 15 = .ok (.lastore, 1) := by decide +kernel
theorem d_L_restart_16 : decode b_L_restart 16 = .ok (.goto 9, 3) := by decide +kernel
theorem d_L_restart_19 : decode b_L_restart 19 = .ok (.astore_n 3, 1) := by decide +kernel
theorem d_L_restart_20 : decode b_L_restart 20 = .ok (.iconst 1, 1) := by decide +kernel
theorem d_L_restart_21 : decode b_L_restart 21 = .ok (.ireturn, 1) := by decide +kernel
theorem d_L_restart_22 : decode b_L_restart 22 = .ok (.astore_n 3, 1) := by decide +kernel
theorem d_L_restart_23 : decode b_L_restart 23 = .ok (.iconst 2, 1) := by decide +kernel
theorem d_L_restart_24 : decode b_L_restart 24 = .ok (.ireturn, 1) := by decide +kernel
theorem d_L_restart_25 : decode b_L_restart 25 = .ok (.iconst 0, 1) := by decide +kernel
theorem d_L_restart_26 : decode b_L_restart 26 = .ok (.ireturn, 1) := by decide +kernel
def f_L_restart (a1 : Int32) (S : St) : Int32 × St :=
  lt (f_QC_restart a1 S) fun (r2 : Nat × Int32 × St) =>
  if r2.1 = 0 then
    if r2.2.1 = 0 then
      lt (sl r2.2.2 29 0 0 0 (0 : Int64)) fun (S6 : St) =>
      ((0 : Int32), S6)
    else
      lt (sl r2.2.2 29 0 0 0 (1 : Int64)) fun (S8 : St) =>
      ((0 : Int32), S8)
  else
    if r2.1 = 1 then
      ((1 : Int32), S)
    else
      ((2 : Int32), S)
def ok_L_restart (a1 : Int32) (S : St) : Prop :=
  (ok_QC_restart a1 S) ∧ (
    True)
set_option maxHeartbeats 4000000 in
set_option maxRecDepth 100000 in
theorem c_L_restart (l : Launch) (htr : l.stackTraces = false) (D : va_G) (X : va_W) (ad : N3 → Nat) (ca : Nat → ClassId) (a1 : Int32)  (S : St) (hk : ok_L_restart a1 S) : cWr l GG D clQ (tysQ ca) nwQ X ad TQ (cfQ ad ca) y_L_restart b_L_restart 4 [(0, 16, 19, 13), (0, 16, 22, 15)] 7 121 [.ref (ad (1, 0, 0)), .int a1, .ref (ad (29, 0, 0))] S (f_L_restart a1 S) := by
  generalize hr : f_L_restart a1 S = res
  refine wr_of pn_L (Nat.le_of_ble_eq_true rfl) (fun p e s m below meth c A ls hy hX hN htab hW hA hl => ?_)
  have hF := hy.1
  have hx := hF.1
  have hb := hF.2.1
  have hK := hy.2.2.2
  have hl : lv_has ls 4 [(0, .ref (ad (1, 0, 0))), (1, .int a1), (2, .ref (ad (29, 0, 0)))] := hl
  refine lv_aload_n (pc := 0) hx hb d_L_restart_0 rfl (lv_at hl 2 rfl) ?_
  refine lv_iconst (pc := 1) (v := 0) hx hb d_L_restart_1 (by decide) ?_
  refine lv_aload_n (pc := 2) hx hb d_L_restart_2 rfl (lv_at hl 0 rfl) ?_
  refine lv_iload_n (pc := 3) hx hb d_L_restart_3 rfl (lv_at hl 1 rfl) ?_
  have o1 := hk.1
  have hk := hk.2
  obtain ⟨r2, er2⟩ : ∃ z : Nat × Int32 × St, z = f_QC_restart a1 S := ⟨_, rfl⟩
  have hr := lt_e er2 hr
  have hcr2 : cX l GG D clQ (tysQ ca) nwQ X ad TQ (cfQ ad ca) y_QC_restart b_QC_restart 2 .boolean 6 100 [.ref (ad (1, 0, 0)), .int a1] S r2 := er2 ▸ c_QC_restart l htr D X ad ca a1 S o1
  refine x_call (pc := 4) hF hK hW hA hX.here hcr2 cd_QC_restart gw_831 tq1 rfl rfl ⟨Nat.le_of_ble_eq_true rfl, Nat.le_of_ble_eq_true rfl⟩ ⟨Nat.le_of_ble_eq_true rfl, Nat.le_of_ble_eq_true rfl⟩ rfl rfl hl.1 (Nat.le_of_ble_eq_true rfl) d_L_restart_4 (fun c3 H locs hW => ?_) (fun c3 U q ce Z hce hcv hcl hW => ?_)
  · have hr := (if_pos c3).symm.trans hr
    refine lv_if_eq (pc := 7) (tgt := 14) hx hb d_L_restart_7 (by decide) (fun c4 => ?_) (fun c4 => ?_)
    · have hr := (if_pos c4).symm.trans hr
      refine lv_lconst (pc := 14) (v := 0) hx hb d_L_restart_14 (by decide) ?_
      have b5 : vp_in (0 : Int32) 1 := by unfold vp_in; decide
      obtain ⟨S6, eS6⟩ : ∃ z : St, z = sl r2.2.2 29 0 0 0 (0 : Int64) := ⟨_, rfl⟩
      have hr := lt_e eS6 hr
      refine z_last (pc := 15) (S' := S6) hF hK.1 hW tq29 1 rfl rfl b5 (zs_sl eS6 rfl) (zs_slo eS6) d_L_restart_15 (fun H locs (hW : Wd D clQ A s.heap (zw X ad TQ (cfQ ad ca) S6) H locs) => ?_)
      refine lv_goto (pc := 16) (tgt := 25) hx hb d_L_restart_16 (by decide) ?_
      refine lv_iconst (pc := 25) (v := 0) hx hb d_L_restart_25 (by decide) ?_
      exact w_iret (v := (0 : Int32)) hy hW (Nat.le_of_ble_eq_true rfl) (Nat.le_of_ble_eq_true rfl) hr.symm d_L_restart_26
    · have hr := (if_neg c4).symm.trans hr
      refine lv_lconst (pc := 10) (v := 1) hx hb d_L_restart_10 (by decide) ?_
      refine lv_goto (pc := 11) (tgt := 15) hx hb d_L_restart_11 (by decide) ?_
      have b7 : vp_in (0 : Int32) 1 := by unfold vp_in; decide
      obtain ⟨S8, eS8⟩ : ∃ z : St, z = sl r2.2.2 29 0 0 0 (1 : Int64) := ⟨_, rfl⟩
      have hr := lt_e eS8 hr
      refine z_last (pc := 15) (S' := S8) hF hK.1 hW tq29 1 rfl rfl b7 (zs_sl eS8 rfl) (zs_slo eS8) d_L_restart_15 (fun H locs (hW : Wd D clQ A s.heap (zw X ad TQ (cfQ ad ca) S8) H locs) => ?_)
      refine lv_goto (pc := 16) (tgt := 25) hx hb d_L_restart_16 (by decide) ?_
      refine lv_iconst (pc := 25) (v := 0) hx hb d_L_restart_25 (by decide) ?_
      exact w_iret (v := (0 : Int32)) hy hW (Nat.le_of_ble_eq_true rfl) (Nat.le_of_ble_eq_true rfl) hr.symm d_L_restart_26
  · have hr := (if_neg (Nat.ne_of_gt c3)).symm.trans hr
    by_cases c9 : r2.1 = 1
    · have hcl := xfn c9 hcl
      have hr := (if_pos c9).symm.trans hr
      refine land0 (pc := 4) Z hce hcv hcl htab (hit_of (pc := 4) Z hF.2.2.2.1 hcl (by decide) (by decide) (hF.2.2.2.2 _ gw_503) (hX.any _ xcA)) ?_
      refine lv_astore_n (pc := 19) (lv' := [(3, .ref q), (0, .ref (ad (1, 0, 0))), (1, .int a1), (2, .ref (ad (29, 0, 0)))]) hx hb d_L_restart_19 rfl hl (by decide) rfl (fun ls hl => ?_)
      refine lv_iconst (pc := 20) (v := 1) hx hb d_L_restart_20 (by decide) ?_
      exact w_iret (v := (1 : Int32)) hy hW (Nat.le_of_ble_eq_true rfl) (Nat.le_of_ble_eq_true rfl) hr.symm d_L_restart_21
    · have hcl := xfs c9 hcl
      have hr := (if_neg c9).symm.trans hr
      refine land1 (pc := 4) Z hce hcv hcl htab (miss_of (pc := 4) (F := xIA) Z hF.2.2.2.1 hcl (by decide) (by decide) (hF.2.2.2.2 _ gw_503) hN) (hit_of (pc := 4) Z hF.2.2.2.1 hcl (by decide) (by decide) (hF.2.2.2.2 _ gw_504) (hX.any _ xcS)) ?_
      refine lv_astore_n (pc := 22) (lv' := [(3, .ref q), (0, .ref (ad (1, 0, 0))), (1, .int a1), (2, .ref (ad (29, 0, 0)))]) hx hb d_L_restart_22 rfl hl (by decide) rfl (fun ls hl => ?_)
      refine lv_iconst (pc := 23) (v := 2) hx hb d_L_restart_23 (by decide) ?_
      exact w_iret (v := (2 : Int32)) hy hW (Nat.le_of_ble_eq_true rfl) (Nat.le_of_ble_eq_true rfl) hr.symm d_L_restart_24
