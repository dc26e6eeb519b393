theorem d_KeyTree_top_0 : decode b_KeyTree_top 0 = .ok (.aload_n 0, 1) := by decide +kernel
theorem d_KeyTree_top_1 : decode b_KeyTree_top 1 = .ok (.getfield 9, 3) := by decide +kernel
theorem d_KeyTree_top_4 : decode b_KeyTree_top 4 = .ok (.iconst 1, 1) := by decide +kernel
theorem d_KeyTree_top_5 : decode b_KeyTree_top 5 = .ok (.laload, 1) := by decide +kernel
theorem d_KeyTree_top_6 : decode b_KeyTree_top 6 = .ok (.lreturn, 1) := by decide +kernel
def f_KeyTree_top (i0 : Nat) (S : St) : Int64 :=
  S.2.1 11 i0 0 1
set_option maxHeartbeats 4000000 in
set_option maxRecDepth 100000 in
theorem c_KeyTree_top (l : Launch) (D : va_G) (X : va_W) (ad : N3 → Nat) (ca : Nat → ClassId) (i0 : Nat) (h0 : i0 < 4) (S : St) : cP l GG D clQ (tysQ ca) nwQ (zw X ad TQ (cfQ ad ca) S) y_KeyTree_top b_KeyTree_top 1 .long 0 0 [.ref (ad (10, i0, 0))] (.long (f_KeyTree_top i0 S)) := by
  generalize hr : f_KeyTree_top i0 S = res
  refine zP_of pn_KeyTree (Nat.le_of_ble_eq_true rfl) (fun p e s m below meth c ls hy hW hl => ?_)
  have hF := hy.1
  have hx := hF.1
  have hb := hF.2.1
  have hK := hy.2.2.2
  have hl : lv_has ls 1 [(0, .ref (ad (10, i0, 0)))] := hl
  refine lv_aload_n (pc := 0) hx hb d_KeyTree_top_0 rfl (lv_at hl 0 rfl) ?_
  refine z_get (pc := 1) (v := .ref (ad (11, i0, 0))) hF hK.1 hW (tq10 h0) rfl rfl in_KeyTree 0 (by decide) gw_250 rfl rfl d_KeyTree_top_1 ?_
  refine lv_iconst (pc := 4) (v := 1) hx hb d_KeyTree_top_4 (by decide) ?_
  have b1 : vp_in (1 : Int32) 64 := by unfold vp_in; decide
  refine z_lald (pc := 5) (v := S.2.1 11 i0 0 1) hF hK.1 hW (tq11 h0) 1 rfl rfl b1 rfl d_KeyTree_top_5 ?_
  exact p_lret (v := S.2.1 11 i0 0 1) hy hr d_KeyTree_top_6
theorem d_QC_root_0 : decode b_QC_root 0 = .ok (.iload_n 1, 1) := by decide +kernel
theorem d_QC_root_1 : decode b_QC_root 1 = .ok (.invokestatic 68, 3) := by decide +kernel
theorem d_QC_root_4 : decode b_QC_root 4 = .ok (.ifCond .eq 21, 3) := by decide +kernel
theorem d_QC_root_7 : decode b_QC_root 7 = .ok (.aload_n 0, 1) := by decide +kernel
theorem d_QC_root_8 : decode b_QC_root 8 = .ok (.getfield 11, 3) := by decide +kernel
theorem d_QC_root_11 : decode b_QC_root 11 = .ok (.iload_n 1, 1) := by decide +kernel
theorem d_QC_root_12 : decode b_QC_root 12 = .ok (.aaload, 1) := by decide +kernel
theorem d_QC_root_13 : decode b_QC_root 13 = .ok (.getfield 179, 3) := by decide +kernel
theorem d_QC_root_16 : decode b_QC_root 16 = .ok (.getfield 183, 3) := by decide +kernel
theorem d_QC_root_19 : decode b_QC_root 19 = .ok (.invokevirtual 298, 3) := by decide +kernel
theorem d_QC_root_22 : decode b_QC_root 22 = .ok (.goto 4, 3) := by decide +kernel
theorem d_QC_root_25 : decode b_QC_root 25 = .ok (.lconst 0, 1) := by decide +kernel
theorem d_QC_root_26 : decode b_QC_root 26 = .ok (.lreturn, 1) := by decide +kernel
def f_QC_root (a1 : Int32) (S : St) : Int64 :=
  lt (f_QC_isNode a1 S) fun (r1 : Int32) =>
  if r1 = 0 then
    (0 : Int64)
  else
    lt (f_KeyTree_top (a1.toNatClampNeg) S) fun (r4 : Int64) =>
    r4
def ok_QC_root (a1 : Int32) (S : St) : Prop :=
  lt (f_QC_isNode a1 S) fun (r1 : Int32) =>
  (r1 = 0 → (
    True)) ∧ (¬ (r1 = 0) → (
    (vp_in a1 4) ∧ (
      True)))
set_option maxHeartbeats 4000000 in
set_option maxRecDepth 100000 in
theorem c_QC_root (l : Launch) (D : va_G) (X : va_W) (ad : N3 → Nat) (ca : Nat → ClassId) (a1 : Int32)  (S : St) (hk : ok_QC_root a1 S) : cP l GG D clQ (tysQ ca) nwQ (zw X ad TQ (cfQ ad ca) S) y_QC_root b_QC_root 2 .long 1 20 [.ref (ad (1, 0, 0)), .int a1] (.long (f_QC_root a1 S)) := by
  generalize hr : f_QC_root a1 S = res
  refine zP_of pn_QC (Nat.le_of_ble_eq_true rfl) (fun p e s m below meth c ls hy hW hl => ?_)
  have hF := hy.1
  have hx := hF.1
  have hb := hF.2.1
  have hK := hy.2.2.2
  have hl : lv_has ls 2 [(0, .ref (ad (1, 0, 0))), (1, .int a1)] := hl
  refine lv_iload_n (pc := 0) hx hb d_QC_root_0 rfl (lv_at hl 1 rfl) ?_
  obtain ⟨r1, er1⟩ : ∃ z : Int32, z = f_QC_isNode a1 S := ⟨_, rfl⟩
  have hk := lt_p er1 hk
  have hr := lt_e er1 hr
  refine p_go (pc := 1) (congrArg Value.int er1) (p_runS hF hK hW (c_QC_isNode l D X ad ca a1 S _) cd_QC_isNode gw_430 ⟨Nat.le_of_ble_eq_true rfl, Nat.le_of_ble_eq_true rfl⟩ ⟨Nat.zero_le _, Nat.zero_le _⟩ rfl rfl hl.1 (Nat.le_of_ble_eq_true rfl) d_QC_root_1) ?_
  refine lv_if_eq (pc := 4) (tgt := 25) hx hb d_QC_root_4 (by decide) (fun c2 => ?_) (fun c2 => ?_)
  · have hk := hk.1 c2
    have hr := (if_pos c2).symm.trans hr
    refine lv_lconst (pc := 25) (v := 0) hx hb d_QC_root_25 (by decide) ?_
    exact p_lret (v := (0 : Int64)) hy hr d_QC_root_26
  · have hk := hk.2 c2
    have hr := (if_neg c2).symm.trans hr
    refine lv_aload_n (pc := 7) hx hb d_QC_root_7 rfl (lv_at hl 0 rfl) ?_
    refine z_get (pc := 8) (v := .ref (ad (2, 0, 0))) hF hK.1 hW tq1 rfl rfl in_QC 0 (by decide) gw_344 rfl rfl d_QC_root_8 ?_
    refine lv_iload_n (pc := 11) hx hb d_QC_root_11 rfl (lv_at hl 1 rfl) ?_
    have b3 := hk.1
    have hk := hk.2
    refine z_aald (pc := 12) (q := ad (3, (a1.toNatClampNeg), 0)) hF hK.1 hW tq2 3 rfl rfl b3 rfl d_QC_root_12 ?_
    refine z_get (pc := 13) (v := .ref (ad (4, (a1.toNatClampNeg), 0))) hF hK.1 hW (tq3 (vin4 b3)) rfl rfl in_Node 1 (by decide) gw_298 rfl rfl d_QC_root_13 ?_
    refine z_get (pc := 16) (v := .ref (ad (10, (a1.toNatClampNeg), 0))) hF hK.1 hW (tq4 (vin4 b3)) rfl rfl in_Store 3 (by decide) gw_270 rfl rfl d_QC_root_16 ?_
    obtain ⟨r4, er4⟩ : ∃ z : Int64, z = f_KeyTree_top (a1.toNatClampNeg) S := ⟨_, rfl⟩
    have hr := lt_e er4 hr
    refine p_go (pc := 19) (congrArg Value.long er4) (p_runV hF hK hW (c_KeyTree_top l D X ad ca (a1.toNatClampNeg) (vin4 b3) S _) cd_KeyTree_top gw_489 (tq10 (vin4 b3)) rfl rfl ⟨Nat.le_of_ble_eq_true rfl, Nat.le_of_ble_eq_true rfl⟩ ⟨Nat.zero_le _, Nat.zero_le _⟩ rfl rfl hl.1 (Nat.le_of_ble_eq_true rfl) d_QC_root_19) ?_
    refine lv_goto (pc := 22) (tgt := 26) hx hb d_QC_root_22 (by decide) ?_
    exact p_lret (v := r4) hy hr d_QC_root_26
theorem d_QC_about_0 : decode b_QC_about 0 = .ok (.iload_n 1, 1) := by decide +kernel
theorem d_QC_about_1 : decode b_QC_about 1 = .ok (.tableswitch 48 0 2 #[27, 32, 40], 27) := by decide +kernel
theorem d_QC_about_28 : decode b_QC_about 28 = .ok (.aload_n 0, 1) := by decide +kernel
theorem d_QC_about_29 : decode b_QC_about 29 = .ok (.getfield 224, 3) := by decide +kernel
theorem d_QC_about_32 : decode b_QC_about 32 = .ok (.ireturn, 1) := by decide +kernel
theorem d_QC_about_33 : decode b_QC_about 33 = .ok (.aload_n 0, 1) := by decide +kernel
theorem d_QC_about_34 : decode b_QC_about 34 = .ok (.getfield 18, 3) := by decide +kernel
theorem d_QC_about_37 : decode b_QC_about 37 = .ok (.getfield 206, 3) := by decide +kernel
theorem d_QC_about_40 : decode b_QC_about 40 = .ok (.ireturn, 1) := by decide +kernel
theorem d_QC_about_41 : decode b_QC_about 41 = .ok (.aload_n 0, 1) := by decide +kernel
theorem d_QC_about_42 : decode b_QC_about 42 = .ok (.getfield 25, 3) := by decide +kernel
theorem d_QC_about_45 : decode b_QC_about 45 = .ok (.getfield 55, 3) := by decide +kernel
theorem d_QC_about_48 : decode b_QC_about 48 = .ok (.ireturn, 1) := by decide +kernel
theorem d_QC_about_49 : decode b_QC_about 49 = .ok (.iconst (-1), 1) := by decide +kernel
theorem d_QC_about_50 : decode b_QC_about 50 = .ok (.ireturn, 1) := by decide +kernel
def f_QC_about (a1 : Int32) (S : St) : Int32 :=
  if a1 = (0 : Int32) then
    S.1 1 0 0 5
  else
    if a1 = (1 : Int32) then
      S.1 19 0 0 4
    else
      if a1 = (2 : Int32) then
        S.1 24 0 0 4
      else
        (-1 : Int32)
set_option maxHeartbeats 4000000 in
set_option maxRecDepth 100000 in
theorem c_QC_about (l : Launch) (D : va_G) (X : va_W) (ad : N3 → Nat) (ca : Nat → ClassId) (a1 : Int32)  (S : St) : cP l GG D clQ (tysQ ca) nwQ (zw X ad TQ (cfQ ad ca) S) y_QC_about b_QC_about 2 .int 0 0 [.ref (ad (1, 0, 0)), .int a1] (.int (f_QC_about a1 S)) := by
  generalize hr : f_QC_about a1 S = res
  refine zP_of pn_QC (Nat.le_of_ble_eq_true rfl) (fun p e s m below meth c ls hy hW hl => ?_)
  have hF := hy.1
  have hx := hF.1
  have hb := hF.2.1
  have hK := hy.2.2.2
  have hl : lv_has ls 2 [(0, .ref (ad (1, 0, 0))), (1, .int a1)] := hl
  refine lv_iload_n (pc := 0) hx hb d_QC_about_0 rfl (lv_at hl 1 rfl) ?_
  by_cases c1 : a1 = (0 : Int32)
  · have hr := (if_pos c1).symm.trans hr
    refine lv_tableIn (pc := 1) (tgt := 28) (off := 27) hx hb d_QC_about_1 (by (rw [c1]) <;> decide) (by (rw [c1]) <;> decide) (by (rw [c1]) <;> rfl) (by decide) ?_
    refine lv_aload_n (pc := 28) hx hb d_QC_about_28 rfl (lv_at hl 0 rfl) ?_
    refine z_get (pc := 29) (v := .int (S.1 1 0 0 5)) hF hK.1 hW tq1 rfl rfl in_QC 5 (by decide) gw_349 rfl rfl d_QC_about_29 ?_
    exact p_iret (v := S.1 1 0 0 5) hy hr d_QC_about_32
  · have hr := (if_neg c1).symm.trans hr
    by_cases c2 : a1 = (1 : Int32)
    · have hr := (if_pos c2).symm.trans hr
      refine lv_tableIn (pc := 1) (tgt := 33) (off := 32) hx hb d_QC_about_1 (by (rw [c2]) <;> decide) (by (rw [c2]) <;> decide) (by (rw [c2]) <;> rfl) (by decide) ?_
      refine lv_aload_n (pc := 33) hx hb d_QC_about_33 rfl (lv_at hl 0 rfl) ?_
      refine z_get (pc := 34) (v := .ref (ad (19, 0, 0))) hF hK.1 hW tq1 rfl rfl in_QC 1 (by decide) gw_345 rfl rfl d_QC_about_34 ?_
      refine z_get (pc := 37) (v := .int (S.1 19 0 0 4)) hF hK.1 hW tq19 rfl rfl in_Blocks 4 (by decide) gw_93 rfl rfl d_QC_about_37 ?_
      exact p_iret (v := S.1 19 0 0 4) hy hr d_QC_about_40
    · have hr := (if_neg c2).symm.trans hr
      by_cases c3 : a1 = (2 : Int32)
      · have hr := (if_pos c3).symm.trans hr
        refine lv_tableIn (pc := 1) (tgt := 41) (off := 40) hx hb d_QC_about_1 (by (rw [c3]) <;> decide) (by (rw [c3]) <;> decide) (by (rw [c3]) <;> rfl) (by decide) ?_
        refine lv_aload_n (pc := 41) hx hb d_QC_about_41 rfl (lv_at hl 0 rfl) ?_
        refine z_get (pc := 42) (v := .ref (ad (24, 0, 0))) hF hK.1 hW tq1 rfl rfl in_QC 2 (by decide) gw_346 rfl rfl d_QC_about_42 ?_
        refine z_get (pc := 45) (v := .int (S.1 24 0 0 4)) hF hK.1 hW tq24 rfl rfl in_Transactions 4 (by decide) gw_118 rfl rfl d_QC_about_45 ?_
        exact p_iret (v := S.1 24 0 0 4) hy hr d_QC_about_48
      · have hr := (if_neg c3).symm.trans hr
        have ho : a1.toInt < (0 : Int) ∨ (2 : Int) < a1.toInt := z_swl (0) (2) (fun k h1 h2 => by
          rcases (show k = 0 ∨ k = 1 ∨ k = 2 by omega) with rfl | rfl | rfl
          · exact lv_neT c1 (by decide)
          · exact lv_neT c2 (by decide)
          · exact lv_neT c3 (by decide))
        refine lv_tableOut (pc := 1) (tgt := 49) hx hb d_QC_about_1 ho (by decide) ?_
        refine lv_iconst (pc := 49) (v := -1) hx hb d_QC_about_49 (by decide) ?_
        exact p_iret (v := (-1 : Int32)) hy hr d_QC_about_50
theorem d_QC_leaderOf_0 : decode b_QC_leaderOf 0 = .ok (.iload_n 0, 1) := by decide +kernel
theorem d_QC_leaderOf_1 : decode b_QC_leaderOf 1 = .ok (.iconst 1, 1) := by decide +kernel
theorem d_QC_leaderOf_2 : decode b_QC_leaderOf 2 = .ok (.if_icmp .ge 7, 3) := by decide +kernel
theorem d_QC_leaderOf_5 : decode b_QC_leaderOf 5 = .ok (.iconst (-1), 1) := by decide +kernel
theorem d_QC_leaderOf_6 : decode b_QC_leaderOf 6 = .ok (.goto 10, 3) := by decide +kernel
theorem d_QC_leaderOf_9 : decode b_QC_leaderOf 9 = .ok (.iload_n 0, 1) := by decide +kernel
theorem d_QC_leaderOf_10 : decode b_QC_leaderOf 10 = .ok (.iconst 1, 1) := by decide +kernel
theorem d_QC_leaderOf_11 : decode b_QC_leaderOf 11 = .ok (.isub, 1) := by decide +kernel
theorem d_QC_leaderOf_12 : decode b_QC_leaderOf 12 = .ok (.iconst 4, 1) := by decide +kernel
theorem d_QC_leaderOf_13 : decode b_QC_leaderOf 13 = .ok (.idiv, 1) := by decide +kernel
theorem d_QC_leaderOf_14 : decode b_QC_leaderOf 14 = .ok (.iconst 4, 1) := by decide +kernel
theorem d_QC_leaderOf_15 : decode b_QC_leaderOf 15 = .ok (.irem, 1) := by decide +kernel
theorem d_QC_leaderOf_16 : decode b_QC_leaderOf 16 = .ok (.ireturn, 1) := by decide +kernel
def f_QC_leaderOf (a0 : Int32) (S : St) : Int32 :=
  if (1 : Int32) ≤ a0 then
    ((a0 - (1 : Int32)) / (4 : Int32)) - ((a0 - (1 : Int32)) / (4 : Int32)) / (4 : Int32) * (4 : Int32)
  else
    (-1 : Int32)
set_option maxHeartbeats 4000000 in
set_option maxRecDepth 100000 in
theorem c_QC_leaderOf (l : Launch) (D : va_G) (X : va_W) (ad : N3 → Nat) (ca : Nat → ClassId) (a0 : Int32)  (S : St) : cP l GG D clQ (tysQ ca) nwQ (zw X ad TQ (cfQ ad ca) S) y_QC_leaderOf b_QC_leaderOf 1 .int 0 0 [.int a0] (.int (f_QC_leaderOf a0 S)) := by
  generalize hr : f_QC_leaderOf a0 S = res
  refine zP_of pn_QC (Nat.le_of_ble_eq_true rfl) (fun p e s m below meth c ls hy hW hl => ?_)
  have hF := hy.1
  have hx := hF.1
  have hb := hF.2.1
  have hK := hy.2.2.2
  have hl : lv_has ls 1 [(0, .int a0)] := hl
  refine lv_iload_n (pc := 0) hx hb d_QC_leaderOf_0 rfl (lv_at hl 0 rfl) ?_
  refine lv_iconst (pc := 1) (v := 1) hx hb d_QC_leaderOf_1 (by decide) ?_
  refine lv_icmp_ge (pc := 2) (tgt := 9) hx hb d_QC_leaderOf_2 (by decide) (fun c1 => ?_) (fun c1 => ?_)
  · have hr := (if_pos c1).symm.trans hr
    refine lv_iload_n (pc := 9) hx hb d_QC_leaderOf_9 rfl (lv_at hl 0 rfl) ?_
    refine lv_iconst (pc := 10) (v := 1) hx hb d_QC_leaderOf_10 (by decide) ?_
    refine lv_isub (pc := 11) hx hb d_QC_leaderOf_11 ?_
    refine lv_iconst (pc := 12) (v := 4) hx hb d_QC_leaderOf_12 (by decide) ?_
    refine lv_idiv (pc := 13) hx hb d_QC_leaderOf_13 (by decide) ?_
    refine lv_iconst (pc := 14) (v := 4) hx hb d_QC_leaderOf_14 (by decide) ?_
    refine lv_irem (pc := 15) hx hb d_QC_leaderOf_15 (by decide) ?_
    exact p_iret (v := ((a0 - (1 : Int32)) / (4 : Int32)) - ((a0 - (1 : Int32)) / (4 : Int32)) / (4 : Int32) * (4 : Int32)) hy hr d_QC_leaderOf_16
  · have hr := (if_neg c1).symm.trans hr
    refine lv_iconst (pc := 5) (v := -1) hx hb d_QC_leaderOf_5 (by decide) ?_
    refine lv_goto (pc := 6) (tgt := 16) hx hb d_QC_leaderOf_6 (by decide) ?_
    exact p_iret (v := (-1 : Int32)) hy hr d_QC_leaderOf_16
theorem d_Blocks_isAbove_0 : decode b_Blocks_isAbove 0 = .ok (.aload_n 0, 1) := by decide +kernel
theorem d_Blocks_isAbove_1 : decode b_Blocks_isAbove 1 = .ok (.iload_n 1, 1) := by decide +kernel
theorem d_Blocks_isAbove_2 : decode b_Blocks_isAbove 2 = .ok (.invokevirtual 33, 3) := by decide +kernel
theorem d_Blocks_isAbove_5 : decode b_Blocks_isAbove 5 = .ok (.aload_n 0, 1) := by decide +kernel
theorem d_Blocks_isAbove_6 : decode b_Blocks_isAbove 6 = .ok (.iload_n 2, 1) := by decide +kernel
theorem d_Blocks_isAbove_7 : decode b_Blocks_isAbove 7 = .ok (.invokevirtual 33, 3) := by decide +kernel
theorem d_Blocks_isAbove_10 : decode b_Blocks_isAbove 10 = .ok (.if_icmp .le 7, 3) := by decide +kernel
theorem d_Blocks_isAbove_13 : decode b_Blocks_isAbove 13 = .ok (.iconst 1, 1) := by decide +kernel
theorem d_Blocks_isAbove_14 : decode b_Blocks_isAbove 14 = .ok (.goto 4, 3) := by decide +kernel
theorem d_Blocks_isAbove_17 : decode b_Blocks_isAbove 17 = .ok (.iconst 0, 1) := by decide +kernel
theorem d_Blocks_isAbove_18 : decode b_Blocks_isAbove 18 = .ok (.ireturn, 1) := by decide +kernel
def f_Blocks_isAbove (a1 : Int32) (a2 : Int32) (S : St) : Int32 :=
  lt (f_Blocks_viewOf a1 S) fun (r2 : Int32) =>
  lt (f_Blocks_viewOf a2 S) fun (r4 : Int32) =>
  if r2 ≤ r4 then
    (0 : Int32)
  else
    (1 : Int32)
def ok_Blocks_isAbove (a1 : Int32) (a2 : Int32) (S : St) : Prop :=
  (ok_Blocks_viewOf a1 S) ∧ (
    lt (f_Blocks_viewOf a1 S) fun (r2 : Int32) =>
    (ok_Blocks_viewOf a2 S) ∧ (
      True))
set_option maxHeartbeats 4000000 in
set_option maxRecDepth 100000 in
theorem c_Blocks_isAbove (l : Launch) (D : va_G) (X : va_W) (ad : N3 → Nat) (ca : Nat → ClassId) (a1 : Int32) (a2 : Int32)  (S : St) (hk : ok_Blocks_isAbove a1 a2 S) : cP l GG D clQ (tysQ ca) nwQ (zw X ad TQ (cfQ ad ca) S) y_Blocks_isAbove b_Blocks_isAbove 3 .boolean 2 42 [.ref (ad (19, 0, 0)), .int a1, .int a2] (.int (f_Blocks_isAbove a1 a2 S)) := by
  generalize hr : f_Blocks_isAbove a1 a2 S = res
  refine zP_of pn_Blocks (Nat.le_of_ble_eq_true rfl) (fun p e s m below meth c ls hy hW hl => ?_)
  have hF := hy.1
  have hx := hF.1
  have hb := hF.2.1
  have hK := hy.2.2.2
  have hl : lv_has ls 3 [(0, .ref (ad (19, 0, 0))), (1, .int a1), (2, .int a2)] := hl
  refine lv_aload_n (pc := 0) hx hb d_Blocks_isAbove_0 rfl (lv_at hl 0 rfl) ?_
  refine lv_iload_n (pc := 1) hx hb d_Blocks_isAbove_1 rfl (lv_at hl 1 rfl) ?_
  have o1 := hk.1
  have hk := hk.2
  obtain ⟨r2, er2⟩ : ∃ z : Int32, z = f_Blocks_viewOf a1 S := ⟨_, rfl⟩
  have hk := lt_p er2 hk
  have hr := lt_e er2 hr
  refine p_go (pc := 2) (congrArg Value.int er2) (p_runV hF hK hW (c_Blocks_viewOf l D X ad ca a1 S o1 _) cd_Blocks_viewOf gw_698 tq19 rfl rfl ⟨Nat.le_of_ble_eq_true rfl, Nat.le_of_ble_eq_true rfl⟩ ⟨Nat.zero_le _, Nat.zero_le _⟩ rfl rfl hl.1 (Nat.le_of_ble_eq_true rfl) d_Blocks_isAbove_2) ?_
  refine lv_aload_n (pc := 5) hx hb d_Blocks_isAbove_5 rfl (lv_at hl 0 rfl) ?_
  refine lv_iload_n (pc := 6) hx hb d_Blocks_isAbove_6 rfl (lv_at hl 2 rfl) ?_
  have o3 := hk.1
  have hk := hk.2
  obtain ⟨r4, er4⟩ : ∃ z : Int32, z = f_Blocks_viewOf a2 S := ⟨_, rfl⟩
  have hr := lt_e er4 hr
  refine p_go (pc := 7) (congrArg Value.int er4) (p_runV hF hK hW (c_Blocks_viewOf l D X ad ca a2 S o3 _) cd_Blocks_viewOf gw_698 tq19 rfl rfl ⟨Nat.le_of_ble_eq_true rfl, Nat.le_of_ble_eq_true rfl⟩ ⟨Nat.zero_le _, Nat.zero_le _⟩ rfl rfl hl.1 (Nat.le_of_ble_eq_true rfl) d_Blocks_isAbove_7) ?_
  refine lv_icmp_le (pc := 10) (tgt := 17) hx hb d_Blocks_isAbove_10 (by decide) (fun c5 => ?_) (fun c5 => ?_)
  · have hr := (if_pos c5).symm.trans hr
    refine lv_iconst (pc := 17) (v := 0) hx hb d_Blocks_isAbove_17 (by decide) ?_
    exact p_zret (v := (0 : Int32)) hy rfl hr d_Blocks_isAbove_18
  · have hr := (if_neg c5).symm.trans hr
    refine lv_iconst (pc := 13) (v := 1) hx hb d_Blocks_isAbove_13 (by decide) ?_
    refine lv_goto (pc := 14) (tgt := 18) hx hb d_Blocks_isAbove_14 (by decide) ?_
    exact p_zret (v := (1 : Int32)) hy rfl hr d_Blocks_isAbove_18
theorem d_QC_highestParent_0 : decode b_QC_highestParent 0 = .ok (.iconst 0, 1) := by decide +kernel
theorem d_QC_highestParent_1 : decode b_QC_highestParent 1 = .ok (.istore_n 2, 1) := by decide +kernel
theorem d_QC_highestParent_2 : decode b_QC_highestParent 2 = .ok (.iconst 1, 1) := by decide +kernel
theorem d_QC_highestParent_3 : decode b_QC_highestParent 3 = .ok (.istore_n 3, 1) := by decide +kernel
theorem d_QC_highestParent_4 : decode b_QC_highestParent 4 = .ok (.iload_n 3, 1) := by decide +kernel
theorem d_QC_highestParent_5 : decode b_QC_highestParent 5 = .ok (.aload_n 0, 1) := by decide +kernel
theorem d_QC_highestParent_6 : decode b_QC_highestParent 6 = .ok (.getfield 18, 3) := by decide +kernel
theorem d_QC_highestParent_9 : decode b_QC_highestParent 9 = .ok (.getfield 206, 3) := by decide +kernel
theorem d_QC_highestParent_12 : decode b_QC_highestParent 12 = .ok (.if_icmp .ge 85, 3) := by decide +kernel
theorem d_QC_highestParent_15 : decode b_QC_highestParent 15 = .ok (.aload_n 0, 1) := by decide +kernel
theorem d_QC_highestParent_16 : decode b_QC_highestParent 16 = .ok (.getfield 18, 3) := by decide +kernel
theorem d_QC_highestParent_19 : decode b_QC_highestParent 19 = .ok (.iload_n 3, 1) := by decide +kernel
theorem d_QC_highestParent_20 : decode b_QC_highestParent 20 = .ok (.invokevirtual 285, 3) := by decide +kernel
theorem d_QC_highestParent_23 : decode b_QC_highestParent 23 = .ok (.istore 4, 2) := by decide +kernel
theorem d_QC_highestParent_25 : decode b_QC_highestParent 25 = .ok (.aload_n 0, 1) := by decide +kernel
theorem d_QC_highestParent_26 : decode b_QC_highestParent 26 = .ok (.getfield 18, 3) := by decide +kernel
theorem d_QC_highestParent_29 : decode b_QC_highestParent 29 = .ok (.iload 4, 2) := by decide +kernel
theorem d_QC_highestParent_31 : decode b_QC_highestParent 31 = .ok (.iload_n 2, 1) := by decide +kernel
theorem d_QC_highestParent_32 : decode b_QC_highestParent 32 = .ok (.invokevirtual 302, 3) := by decide +kernel
theorem d_QC_highestParent_35 : decode b_QC_highestParent 35 = .ok (.istore 5, 2) := by decide +kernel
theorem d_QC_highestParent_37 : decode b_QC_highestParent 37 = .ok (.iload 4, 2) := by decide +kernel
theorem d_QC_highestParent_39 : decode b_QC_highestParent 39 = .ok (.iload_n 2, 1) := by decide +kernel
theorem d_QC_highestParent_40 : decode b_QC_highestParent 40 = .ok (.if_icmp .ge 27, 3) := by decide +kernel
theorem d_QC_highestParent_43 : decode b_QC_highestParent 43 = .ok (.aload_n 0, 1) := by decide +kernel
theorem d_QC_highestParent_44 : decode b_QC_highestParent 44 = .ok (.getfield 18, 3) := by decide +kernel
theorem d_QC_highestParent_47 : decode b_QC_highestParent 47 = .ok (.iload 4, 2) := by decide +kernel
theorem d_QC_highestParent_49 : decode b_QC_highestParent 49 = .ok (.invokevirtual 203, 3) := by decide +kernel
theorem d_QC_highestParent_52 : decode b_QC_highestParent 52 = .ok (.aload_n 0, 1) := by decide +kernel
theorem d_QC_highestParent_53 : decode b_QC_highestParent 53 = .ok (.getfield 18, 3) := by decide +kernel
theorem d_QC_highestParent_56 : decode b_QC_highestParent 56 = .ok (.iload_n 2, 1) := by decide +kernel
theorem d_QC_highestParent_57 : decode b_QC_highestParent 57 = .ok (.invokevirtual 203, 3) := by decide +kernel
theorem d_QC_highestParent_60 : decode b_QC_highestParent 60 = .ok (.if_icmp .ne 7, 3) := by decide +kernel
theorem d_QC_highestParent_63 : decode b_QC_highestParent 63 = .ok (.iconst 1, 1) := by decide +kernel
theorem d_QC_highestParent_64 : decode b_QC_highestParent 64 = .ok (.goto 4, 3) := by decide +kernel
theorem d_QC_highestParent_67 : decode b_QC_highestParent 67 = .ok (.iconst 0, 1) := by decide +kernel
theorem d_QC_highestParent_68 : decode b_QC_highestParent 68 = .ok (.istore 6, 2) := by decide +kernel
theorem d_QC_highestParent_70 : decode b_QC_highestParent 70 = .ok (.aload_n 1, 1) := by decide +kernel
theorem d_QC_highestParent_71 : decode b_QC_highestParent 71 = .ok (.iload_n 3, 1) := by decide +kernel
theorem d_QC_highestParent_72 : decode b_QC_highestParent 72 = .ok (.invokevirtual 195, 3) := by decide +kernel
theorem d_QC_highestParent_75 : decode b_QC_highestParent 75 = .ok (.ifCond .eq 16, 3) := by decide +kernel
theorem d_QC_highestParent_78 : decode b_QC_highestParent 78 = .ok (.iload 5, 2) := by decide +kernel
theorem d_QC_highestParent_80 : decode b_QC_highestParent 80 = .ok (.ifCond .ne 8, 3) := by decide +kernel
theorem d_QC_highestParent_83 : decode b_QC_highestParent 83 = .ok (.iload 6, 2) := by decide +kernel
theorem d_QC_highestParent_85 : decode b_QC_highestParent 85 = .ok (.ifCond .eq 6, 3) := by decide +kernel
theorem d_QC_highestParent_88 : decode b_QC_highestParent 88 = .ok (.iload 4, 2) := by decide +kernel
theorem d_QC_highestParent_90 : decode b_QC_highestParent 90 = .ok (.istore_n 2, 1) := by decide +kernel
theorem d_QC_highestParent_91 : decode b_QC_highestParent 91 = .ok (.iinc 3 1, 3) := by decide +kernel
theorem d_QC_highestParent_94 : decode b_QC_highestParent 94 = .ok (.goto (-90), 3) := by decide +kernel
theorem d_QC_highestParent_97 : decode b_QC_highestParent 97 = .ok (.iload_n 2, 1) := by decide +kernel
theorem d_QC_highestParent_98 : decode b_QC_highestParent 98 = .ok (.ireturn, 1) := by decide +kernel
def f_QC_highestParent_4 (i1 : Nat) : Nat → St → Int32 → Int32 → Int32
  | 0, _, _, _ => 0
  | n + 1, S, l2, l3 =>
    if (S.1 19 0 0 4) ≤ l3 then
      l2
    else
      lt (f_Blocks_parentOf l3 S) fun (r3 : Int32) =>
      lt (f_Blocks_isAbove r3 l2 S) fun (r5 : Int32) =>
      if l2 ≤ r3 then
        lt (f_Store_hasBlock i1 l3 S) fun (r8 : Int32) =>
        if r8 = 0 then
          f_QC_highestParent_4 i1 n S l2 (l3 + (1 : Int32))
        else
          if r5 = 0 then
            if (0 : Int32) = 0 then
              f_QC_highestParent_4 i1 n S l2 (l3 + (1 : Int32))
            else
              f_QC_highestParent_4 i1 n S r3 (l3 + (1 : Int32))
          else
            f_QC_highestParent_4 i1 n S r3 (l3 + (1 : Int32))
      else
        lt (f_Blocks_viewOf r3 S) fun (r13 : Int32) =>
        lt (f_Blocks_viewOf l2 S) fun (r15 : Int32) =>
        if r13 = r15 then
          lt (f_Store_hasBlock i1 l3 S) fun (r23 : Int32) =>
          if r23 = 0 then
            f_QC_highestParent_4 i1 n S l2 (l3 + (1 : Int32))
          else
            if r5 = 0 then
              if (1 : Int32) = 0 then
                f_QC_highestParent_4 i1 n S l2 (l3 + (1 : Int32))
              else
                f_QC_highestParent_4 i1 n S r3 (l3 + (1 : Int32))
            else
              f_QC_highestParent_4 i1 n S r3 (l3 + (1 : Int32))
        else
          lt (f_Store_hasBlock i1 l3 S) fun (r18 : Int32) =>
          if r18 = 0 then
            f_QC_highestParent_4 i1 n S l2 (l3 + (1 : Int32))
          else
            if r5 = 0 then
              if (0 : Int32) = 0 then
                f_QC_highestParent_4 i1 n S l2 (l3 + (1 : Int32))
              else
                f_QC_highestParent_4 i1 n S r3 (l3 + (1 : Int32))
            else
              f_QC_highestParent_4 i1 n S r3 (l3 + (1 : Int32))
def ok_QC_highestParent_4 (i1 : Nat) : Nat → St → Int32 → Int32 → Prop
  | 0, _, _, _ => False
  | n + 1, S, l2, l3 =>
    ((S.1 19 0 0 4) ≤ l3 → (
      True)) ∧ (¬ ((S.1 19 0 0 4) ≤ l3) → (
      (ok_Blocks_parentOf l3 S) ∧ (
        lt (f_Blocks_parentOf l3 S) fun (r3 : Int32) =>
        (ok_Blocks_isAbove r3 l2 S) ∧ (
          lt (f_Blocks_isAbove r3 l2 S) fun (r5 : Int32) =>
          (l2 ≤ r3 → (
            (ok_Store_hasBlock i1 l3 S) ∧ (
              lt (f_Store_hasBlock i1 l3 S) fun (r8 : Int32) =>
              (r8 = 0 → (
                ok_QC_highestParent_4 i1 n S l2 (l3 + (1 : Int32)))) ∧ (¬ (r8 = 0) → (
                (r5 = 0 → (
                  ((0 : Int32) = 0 → (
                    ok_QC_highestParent_4 i1 n S l2 (l3 + (1 : Int32)))) ∧ (¬ ((0 : Int32) = 0) → (
                    ok_QC_highestParent_4 i1 n S r3 (l3 + (1 : Int32)))))) ∧ (¬ (r5 = 0) → (
                  ok_QC_highestParent_4 i1 n S r3 (l3 + (1 : Int32))))))))) ∧ (¬ (l2 ≤ r3) → (
            (ok_Blocks_viewOf r3 S) ∧ (
              lt (f_Blocks_viewOf r3 S) fun (r13 : Int32) =>
              (ok_Blocks_viewOf l2 S) ∧ (
                lt (f_Blocks_viewOf l2 S) fun (r15 : Int32) =>
                (r13 = r15 → (
                  (ok_Store_hasBlock i1 l3 S) ∧ (
                    lt (f_Store_hasBlock i1 l3 S) fun (r23 : Int32) =>
                    (r23 = 0 → (
                      ok_QC_highestParent_4 i1 n S l2 (l3 + (1 : Int32)))) ∧ (¬ (r23 = 0) → (
                      (r5 = 0 → (
                        ((1 : Int32) = 0 → (
                          ok_QC_highestParent_4 i1 n S l2 (l3 + (1 : Int32)))) ∧ (¬ ((1 : Int32) = 0) → (
                          ok_QC_highestParent_4 i1 n S r3 (l3 + (1 : Int32)))))) ∧ (¬ (r5 = 0) → (
                        ok_QC_highestParent_4 i1 n S r3 (l3 + (1 : Int32))))))))) ∧ (¬ (r13 = r15) → (
                  (ok_Store_hasBlock i1 l3 S) ∧ (
                    lt (f_Store_hasBlock i1 l3 S) fun (r18 : Int32) =>
                    (r18 = 0 → (
                      ok_QC_highestParent_4 i1 n S l2 (l3 + (1 : Int32)))) ∧ (¬ (r18 = 0) → (
                      (r5 = 0 → (
                        ((0 : Int32) = 0 → (
                          ok_QC_highestParent_4 i1 n S l2 (l3 + (1 : Int32)))) ∧ (¬ ((0 : Int32) = 0) → (
                          ok_QC_highestParent_4 i1 n S r3 (l3 + (1 : Int32)))))) ∧ (¬ (r5 = 0) → (
                        ok_QC_highestParent_4 i1 n S r3 (l3 + (1 : Int32)))))))))))))))))
set_option maxHeartbeats 4000000 in
set_option maxRecDepth 100000 in
theorem w_QC_highestParent_4 {l : Launch} {D : va_G} {X : va_W} {ad : N3 → Nat} {ca : Nat → ClassId} (i1 : Nat) (h1 : i1 < 4) (S : St) {p : Program} {e : Env} {s : State} {m : MethodId} {below : List Frame} {meth : Method} {c : Code} (hy : Hy p s m ([.ref (ad (1, 0, 0)), .ref (ad (4, i1, 0))] : List Value).toArray meth c b_QC_highestParent 7 (some .int) R_QC GG D clQ (tysQ ca) nwQ) (hW : Wd D clQ (fun _ => True) s.heap (zw X ad TQ (cfQ ad ca) S) s.heap []) {res : Int32} : ∀ (n : Nat) (l2 : Int32) (l3 : Int32) , ok_QC_highestParent_4 i1 n S l2 l3 → f_QC_highestParent_4 i1 n S l2 l3 = res → ∀ (ls : Array Slot), lv_has ls 7 [(0, .ref (ad (1, 0, 0))), (1, .ref (ad (4, i1, 0))), (2, .int l2), (3, .int l3)] → W p l e { frames := 3, cells := 0, slots := 0, locals := 64 } s m ([.ref (ad (1, 0, 0)), .ref (ad (4, i1, 0))] : List Value).toArray below meth c s.heap [] 0 0 (MQ below (eP (.int res)) ([.ref (ad (1, 0, 0)), .ref (ad (4, i1, 0))] : List Value).toArray s 0 0 nof) (F0 m 4 ls []) := by
  have hF := hy.1
  have hx := hF.1
  have hb := hF.2.1
  have hK := hy.2.2.2
  intro n
  induction n with
  | zero =>
    intro l2 l3 hk
    exact hk.elim
  | succ n ih =>
    intro l2 l3 hk hr ls hl
    refine lv_iload_n (pc := 4) hx hb d_QC_highestParent_4 rfl (lv_at hl 3 rfl) ?_
    refine lv_aload_n (pc := 5) hx hb d_QC_highestParent_5 rfl (lv_at hl 0 rfl) ?_
    refine z_get (pc := 6) (v := .ref (ad (19, 0, 0))) hF hK.1 hW tq1 rfl rfl in_QC 1 (by decide) gw_345 rfl rfl d_QC_highestParent_6 ?_
    refine z_get (pc := 9) (v := .int (S.1 19 0 0 4)) hF hK.1 hW tq19 rfl rfl in_Blocks 4 (by decide) gw_93 rfl rfl d_QC_highestParent_9 ?_
    refine lv_icmp_ge (pc := 12) (tgt := 97) hx hb d_QC_highestParent_12 (by decide) (fun c1 => ?_) (fun c1 => ?_)
    · have hk := hk.1 c1
      have hr := (if_pos c1).symm.trans hr
      refine lv_iload_n (pc := 97) hx hb d_QC_highestParent_97 rfl (lv_at hl 2 rfl) ?_
      exact p_iret (v := l2) hy hr d_QC_highestParent_98
    · have hk := hk.2 c1
      have hr := (if_neg c1).symm.trans hr
      refine lv_aload_n (pc := 15) hx hb d_QC_highestParent_15 rfl (lv_at hl 0 rfl) ?_
      refine z_get (pc := 16) (v := .ref (ad (19, 0, 0))) hF hK.1 hW tq1 rfl rfl in_QC 1 (by decide) gw_345 rfl rfl d_QC_highestParent_16 ?_
      refine lv_iload_n (pc := 19) hx hb d_QC_highestParent_19 rfl (lv_at hl 3 rfl) ?_
      have o2 := hk.1
      have hk := hk.2
      obtain ⟨r3, er3⟩ : ∃ z : Int32, z = f_Blocks_parentOf l3 S := ⟨_, rfl⟩
      have hk := lt_p er3 hk
      have hr := lt_e er3 hr
      refine p_go (pc := 20) (congrArg Value.int er3) (p_runV hF hK hW (c_Blocks_parentOf l D X ad ca l3 S o2 _) cd_Blocks_parentOf gw_461 tq19 rfl rfl ⟨Nat.le_of_ble_eq_true rfl, Nat.le_of_ble_eq_true rfl⟩ ⟨Nat.zero_le _, Nat.zero_le _⟩ rfl rfl hl.1 (Nat.le_of_ble_eq_true rfl) d_QC_highestParent_20) ?_
      refine lv_istore (pc := 23) (lv' := [(4, .int r3), (0, .ref (ad (1, 0, 0))), (1, .ref (ad (4, i1, 0))), (2, .int l2), (3, .int l3)]) hx hb d_QC_highestParent_23 hl (by decide) rfl (fun ls hl => ?_)
      refine lv_aload_n (pc := 25) hx hb d_QC_highestParent_25 rfl (lv_at hl 1 rfl) ?_
      refine z_get (pc := 26) (v := .ref (ad (19, 0, 0))) hF hK.1 hW tq1 rfl rfl in_QC 1 (by decide) gw_345 rfl rfl d_QC_highestParent_26 ?_
      refine lv_iload (pc := 29) hx hb d_QC_highestParent_29 (lv_at hl 0 rfl) ?_
      refine lv_iload_n (pc := 31) hx hb d_QC_highestParent_31 rfl (lv_at hl 3 rfl) ?_
      have o4 := hk.1
      have hk := hk.2
      obtain ⟨r5, er5⟩ : ∃ z : Int32, z = f_Blocks_isAbove r3 l2 S := ⟨_, rfl⟩
      have hk := lt_p er5 hk
      have hr := lt_e er5 hr
      refine p_go (pc := 32) (congrArg Value.int er5) (p_runV hF hK hW (c_Blocks_isAbove l D X ad ca r3 l2 S o4 _) cd_Blocks_isAbove gw_694 tq19 rfl rfl ⟨Nat.le_of_ble_eq_true rfl, Nat.le_of_ble_eq_true rfl⟩ ⟨Nat.zero_le _, Nat.zero_le _⟩ rfl rfl hl.1 (Nat.le_of_ble_eq_true rfl) d_QC_highestParent_32) ?_
      refine lv_istore (pc := 35) (lv' := [(5, .int r5), (4, .int r3), (0, .ref (ad (1, 0, 0))), (1, .ref (ad (4, i1, 0))), (2, .int l2), (3, .int l3)]) hx hb d_QC_highestParent_35 hl (by decide) rfl (fun ls hl => ?_)
      refine lv_iload (pc := 37) hx hb d_QC_highestParent_37 (lv_at hl 1 rfl) ?_
      refine lv_iload_n (pc := 39) hx hb d_QC_highestParent_39 rfl (lv_at hl 4 rfl) ?_
      refine lv_icmp_ge (pc := 40) (tgt := 67) hx hb d_QC_highestParent_40 (by decide) (fun c6 => ?_) (fun c6 => ?_)
      · have hk := hk.1 c6
        have hr := (if_pos c6).symm.trans hr
        refine lv_iconst (pc := 67) (v := 0) hx hb d_QC_highestParent_67 (by decide) ?_
        refine lv_istore (pc := 68) (lv' := [(6, .int (0 : Int32)), (5, .int r5), (4, .int r3), (0, .ref (ad (1, 0, 0))), (1, .ref (ad (4, i1, 0))), (2, .int l2), (3, .int l3)]) hx hb d_QC_highestParent_68 hl (by decide) rfl (fun ls hl => ?_)
        refine lv_aload_n (pc := 70) hx hb d_QC_highestParent_70 rfl (lv_at hl 4 rfl) ?_
        refine lv_iload_n (pc := 71) hx hb d_QC_highestParent_71 rfl (lv_at hl 6 rfl) ?_
        have o7 := hk.1
        have hk := hk.2
        obtain ⟨r8, er8⟩ : ∃ z : Int32, z = f_Store_hasBlock i1 l3 S := ⟨_, rfl⟩
        have hk := lt_p er8 hk
        have hr := lt_e er8 hr
        refine p_go (pc := 72) (congrArg Value.int er8) (p_runV hF hK hW (c_Store_hasBlock l D X ad ca i1 l3 h1 S o7 _) cd_Store_hasBlock gw_477 (tq4 h1) rfl rfl ⟨Nat.le_of_ble_eq_true rfl, Nat.le_of_ble_eq_true rfl⟩ ⟨Nat.zero_le _, Nat.zero_le _⟩ rfl rfl hl.1 (Nat.le_of_ble_eq_true rfl) d_QC_highestParent_72) ?_
        refine lv_if_eq (pc := 75) (tgt := 91) hx hb d_QC_highestParent_75 (by decide) (fun c9 => ?_) (fun c9 => ?_)
        · have hk := hk.1 c9
          have hr := (if_pos c9).symm.trans hr
          refine lv_iinc (pc := 91) (v := l3 + (1 : Int32)) (lv' := [(3, .int (l3 + (1 : Int32))), (6, .int (0 : Int32)), (5, .int r5), (4, .int r3), (0, .ref (ad (1, 0, 0))), (1, .ref (ad (4, i1, 0))), (2, .int l2)]) (k := 6) hx hb d_QC_highestParent_91 hl rfl (z_inc (by decide)) (by decide) rfl (fun ls hl => ?_)
          refine lv_goto (pc := 94) (tgt := 4) hx hb d_QC_highestParent_94 (by decide) ?_
          exact ih l2 (l3 + (1 : Int32)) hk hr _ (lv_sub hl [4, 5, 6, 0] rfl)
        · have hk := hk.2 c9
          have hr := (if_neg c9).symm.trans hr
          refine lv_iload (pc := 78) hx hb d_QC_highestParent_78 (lv_at hl 1 rfl) ?_
          refine lv_if_ne (pc := 80) (tgt := 88) hx hb d_QC_highestParent_80 (by decide) (fun c10 => ?_) (fun c10 => ?_)
          · have hk := hk.2 c10
            have hr := (if_neg c10).symm.trans hr
            refine lv_iload (pc := 88) hx hb d_QC_highestParent_88 (lv_at hl 2 rfl) ?_
            refine lv_istore_n (pc := 90) (lv' := [(2, .int r3), (6, .int (0 : Int32)), (5, .int r5), (4, .int r3), (0, .ref (ad (1, 0, 0))), (1, .ref (ad (4, i1, 0))), (3, .int l3)]) hx hb d_QC_highestParent_90 rfl hl (by decide) rfl (fun ls hl => ?_)
            refine lv_iinc (pc := 91) (v := l3 + (1 : Int32)) (lv' := [(3, .int (l3 + (1 : Int32))), (2, .int r3), (6, .int (0 : Int32)), (5, .int r5), (4, .int r3), (0, .ref (ad (1, 0, 0))), (1, .ref (ad (4, i1, 0)))]) (k := 6) hx hb d_QC_highestParent_91 hl rfl (z_inc (by decide)) (by decide) rfl (fun ls hl => ?_)
            refine lv_goto (pc := 94) (tgt := 4) hx hb d_QC_highestParent_94 (by decide) ?_
            exact ih r3 (l3 + (1 : Int32)) hk hr _ (lv_sub hl [5, 6, 1, 0] rfl)
          · have hk := hk.1 c10
            have hr := (if_pos c10).symm.trans hr
            refine lv_iload (pc := 83) hx hb d_QC_highestParent_83 (lv_at hl 0 rfl) ?_
            refine lv_if_eq (pc := 85) (tgt := 91) hx hb d_QC_highestParent_85 (by decide) (fun c11 => ?_) (fun c11 => ?_)
            · have hk := hk.1 c11
              have hr := (if_pos c11).symm.trans hr
              refine lv_iinc (pc := 91) (v := l3 + (1 : Int32)) (lv' := [(3, .int (l3 + (1 : Int32))), (6, .int (0 : Int32)), (5, .int r5), (4, .int r3), (0, .ref (ad (1, 0, 0))), (1, .ref (ad (4, i1, 0))), (2, .int l2)]) (k := 6) hx hb d_QC_highestParent_91 hl rfl (z_inc (by decide)) (by decide) rfl (fun ls hl => ?_)
              refine lv_goto (pc := 94) (tgt := 4) hx hb d_QC_highestParent_94 (by decide) ?_
              exact ih l2 (l3 + (1 : Int32)) hk hr _ (lv_sub hl [4, 5, 6, 0] rfl)
            · have hk := hk.2 c11
              have hr := (if_neg c11).symm.trans hr
              refine lv_iload (pc := 88) hx hb d_QC_highestParent_88 (lv_at hl 2 rfl) ?_
              refine lv_istore_n (pc := 90) (lv' := [(2, .int r3), (6, .int (0 : Int32)), (5, .int r5), (4, .int r3), (0, .ref (ad (1, 0, 0))), (1, .ref (ad (4, i1, 0))), (3, .int l3)]) hx hb d_QC_highestParent_90 rfl hl (by decide) rfl (fun ls hl => ?_)
              refine lv_iinc (pc := 91) (v := l3 + (1 : Int32)) (lv' := [(3, .int (l3 + (1 : Int32))), (2, .int r3), (6, .int (0 : Int32)), (5, .int r5), (4, .int r3), (0, .ref (ad (1, 0, 0))), (1, .ref (ad (4, i1, 0)))]) (k := 6) hx hb d_QC_highestParent_91 hl rfl (z_inc (by decide)) (by decide) rfl (fun ls hl => ?_)
              refine lv_goto (pc := 94) (tgt := 4) hx hb d_QC_highestParent_94 (by decide) ?_
              exact ih r3 (l3 + (1 : Int32)) hk hr _ (lv_sub hl [5, 6, 1, 0] rfl)
      · have hk := hk.2 c6
        have hr := (if_neg c6).symm.trans hr
        refine lv_aload_n (pc := 43) hx hb d_QC_highestParent_43 rfl (lv_at hl 2 rfl) ?_
        refine z_get (pc := 44) (v := .ref (ad (19, 0, 0))) hF hK.1 hW tq1 rfl rfl in_QC 1 (by decide) gw_345 rfl rfl d_QC_highestParent_44 ?_
        refine lv_iload (pc := 47) hx hb d_QC_highestParent_47 (lv_at hl 1 rfl) ?_
        have o12 := hk.1
        have hk := hk.2
        obtain ⟨r13, er13⟩ : ∃ z : Int32, z = f_Blocks_viewOf r3 S := ⟨_, rfl⟩
        have hk := lt_p er13 hk
        have hr := lt_e er13 hr
        refine p_go (pc := 49) (congrArg Value.int er13) (p_runV hF hK hW (c_Blocks_viewOf l D X ad ca r3 S o12 _) cd_Blocks_viewOf gw_456 tq19 rfl rfl ⟨Nat.le_of_ble_eq_true rfl, Nat.le_of_ble_eq_true rfl⟩ ⟨Nat.zero_le _, Nat.zero_le _⟩ rfl rfl hl.1 (Nat.le_of_ble_eq_true rfl) d_QC_highestParent_49) ?_
        refine lv_aload_n (pc := 52) hx hb d_QC_highestParent_52 rfl (lv_at hl 2 rfl) ?_
        refine z_get (pc := 53) (v := .ref (ad (19, 0, 0))) hF hK.1 hW tq1 rfl rfl in_QC 1 (by decide) gw_345 rfl rfl d_QC_highestParent_53 ?_
        refine lv_iload_n (pc := 56) hx hb d_QC_highestParent_56 rfl (lv_at hl 4 rfl) ?_
        have o14 := hk.1
        have hk := hk.2
        obtain ⟨r15, er15⟩ : ∃ z : Int32, z = f_Blocks_viewOf l2 S := ⟨_, rfl⟩
        have hk := lt_p er15 hk
        have hr := lt_e er15 hr
        refine p_go (pc := 57) (congrArg Value.int er15) (p_runV hF hK hW (c_Blocks_viewOf l D X ad ca l2 S o14 _) cd_Blocks_viewOf gw_456 tq19 rfl rfl ⟨Nat.le_of_ble_eq_true rfl, Nat.le_of_ble_eq_true rfl⟩ ⟨Nat.zero_le _, Nat.zero_le _⟩ rfl rfl hl.1 (Nat.le_of_ble_eq_true rfl) d_QC_highestParent_57) ?_
        refine lv_icmp_ne (pc := 60) (tgt := 67) hx hb d_QC_highestParent_60 (by decide) (fun c16 => ?_) (fun c16 => ?_)
        · have hk := hk.2 c16
          have hr := (if_neg c16).symm.trans hr
          refine lv_iconst (pc := 67) (v := 0) hx hb d_QC_highestParent_67 (by decide) ?_
          refine lv_istore (pc := 68) (lv' := [(6, .int (0 : Int32)), (5, .int r5), (4, .int r3), (0, .ref (ad (1, 0, 0))), (1, .ref (ad (4, i1, 0))), (2, .int l2), (3, .int l3)]) hx hb d_QC_highestParent_68 hl (by decide) rfl (fun ls hl => ?_)
          refine lv_aload_n (pc := 70) hx hb d_QC_highestParent_70 rfl (lv_at hl 4 rfl) ?_
          refine lv_iload_n (pc := 71) hx hb d_QC_highestParent_71 rfl (lv_at hl 6 rfl) ?_
          have o17 := hk.1
          have hk := hk.2
          obtain ⟨r18, er18⟩ : ∃ z : Int32, z = f_Store_hasBlock i1 l3 S := ⟨_, rfl⟩
          have hk := lt_p er18 hk
          have hr := lt_e er18 hr
          refine p_go (pc := 72) (congrArg Value.int er18) (p_runV hF hK hW (c_Store_hasBlock l D X ad ca i1 l3 h1 S o17 _) cd_Store_hasBlock gw_477 (tq4 h1) rfl rfl ⟨Nat.le_of_ble_eq_true rfl, Nat.le_of_ble_eq_true rfl⟩ ⟨Nat.zero_le _, Nat.zero_le _⟩ rfl rfl hl.1 (Nat.le_of_ble_eq_true rfl) d_QC_highestParent_72) ?_
          refine lv_if_eq (pc := 75) (tgt := 91) hx hb d_QC_highestParent_75 (by decide) (fun c19 => ?_) (fun c19 => ?_)
          · have hk := hk.1 c19
            have hr := (if_pos c19).symm.trans hr
            refine lv_iinc (pc := 91) (v := l3 + (1 : Int32)) (lv' := [(3, .int (l3 + (1 : Int32))), (6, .int (0 : Int32)), (5, .int r5), (4, .int r3), (0, .ref (ad (1, 0, 0))), (1, .ref (ad (4, i1, 0))), (2, .int l2)]) (k := 6) hx hb d_QC_highestParent_91 hl rfl (z_inc (by decide)) (by decide) rfl (fun ls hl => ?_)
            refine lv_goto (pc := 94) (tgt := 4) hx hb d_QC_highestParent_94 (by decide) ?_
            exact ih l2 (l3 + (1 : Int32)) hk hr _ (lv_sub hl [4, 5, 6, 0] rfl)
          · have hk := hk.2 c19
            have hr := (if_neg c19).symm.trans hr
            refine lv_iload (pc := 78) hx hb d_QC_highestParent_78 (lv_at hl 1 rfl) ?_
            refine lv_if_ne (pc := 80) (tgt := 88) hx hb d_QC_highestParent_80 (by decide) (fun c20 => ?_) (fun c20 => ?_)
            · have hk := hk.2 c20
              have hr := (if_neg c20).symm.trans hr
              refine lv_iload (pc := 88) hx hb d_QC_highestParent_88 (lv_at hl 2 rfl) ?_
              refine lv_istore_n (pc := 90) (lv' := [(2, .int r3), (6, .int (0 : Int32)), (5, .int r5), (4, .int r3), (0, .ref (ad (1, 0, 0))), (1, .ref (ad (4, i1, 0))), (3, .int l3)]) hx hb d_QC_highestParent_90 rfl hl (by decide) rfl (fun ls hl => ?_)
              refine lv_iinc (pc := 91) (v := l3 + (1 : Int32)) (lv' := [(3, .int (l3 + (1 : Int32))), (2, .int r3), (6, .int (0 : Int32)), (5, .int r5), (4, .int r3), (0, .ref (ad (1, 0, 0))), (1, .ref (ad (4, i1, 0)))]) (k := 6) hx hb d_QC_highestParent_91 hl rfl (z_inc (by decide)) (by decide) rfl (fun ls hl => ?_)
              refine lv_goto (pc := 94) (tgt := 4) hx hb d_QC_highestParent_94 (by decide) ?_
              exact ih r3 (l3 + (1 : Int32)) hk hr _ (lv_sub hl [5, 6, 1, 0] rfl)
            · have hk := hk.1 c20
              have hr := (if_pos c20).symm.trans hr
              refine lv_iload (pc := 83) hx hb d_QC_highestParent_83 (lv_at hl 0 rfl) ?_
              refine lv_if_eq (pc := 85) (tgt := 91) hx hb d_QC_highestParent_85 (by decide) (fun c21 => ?_) (fun c21 => ?_)
              · have hk := hk.1 c21
                have hr := (if_pos c21).symm.trans hr
                refine lv_iinc (pc := 91) (v := l3 + (1 : Int32)) (lv' := [(3, .int (l3 + (1 : Int32))), (6, .int (0 : Int32)), (5, .int r5), (4, .int r3), (0, .ref (ad (1, 0, 0))), (1, .ref (ad (4, i1, 0))), (2, .int l2)]) (k := 6) hx hb d_QC_highestParent_91 hl rfl (z_inc (by decide)) (by decide) rfl (fun ls hl => ?_)
                refine lv_goto (pc := 94) (tgt := 4) hx hb d_QC_highestParent_94 (by decide) ?_
                exact ih l2 (l3 + (1 : Int32)) hk hr _ (lv_sub hl [4, 5, 6, 0] rfl)
              · have hk := hk.2 c21
                have hr := (if_neg c21).symm.trans hr
                refine lv_iload (pc := 88) hx hb d_QC_highestParent_88 (lv_at hl 2 rfl) ?_
                refine lv_istore_n (pc := 90) (lv' := [(2, .int r3), (6, .int (0 : Int32)), (5, .int r5), (4, .int r3), (0, .ref (ad (1, 0, 0))), (1, .ref (ad (4, i1, 0))), (3, .int l3)]) hx hb d_QC_highestParent_90 rfl hl (by decide) rfl (fun ls hl => ?_)
                refine lv_iinc (pc := 91) (v := l3 + (1 : Int32)) (lv' := [(3, .int (l3 + (1 : Int32))), (2, .int r3), (6, .int (0 : Int32)), (5, .int r5), (4, .int r3), (0, .ref (ad (1, 0, 0))), (1, .ref (ad (4, i1, 0)))]) (k := 6) hx hb d_QC_highestParent_91 hl rfl (z_inc (by decide)) (by decide) rfl (fun ls hl => ?_)
                refine lv_goto (pc := 94) (tgt := 4) hx hb d_QC_highestParent_94 (by decide) ?_
                exact ih r3 (l3 + (1 : Int32)) hk hr _ (lv_sub hl [5, 6, 1, 0] rfl)
        · have hk := hk.1 c16
          have hr := (if_pos c16).symm.trans hr
          refine lv_iconst (pc := 63) (v := 1) hx hb d_QC_highestParent_63 (by decide) ?_
          refine lv_goto (pc := 64) (tgt := 68) hx hb d_QC_highestParent_64 (by decide) ?_
          refine lv_istore (pc := 68) (lv' := [(6, .int (1 : Int32)), (5, .int r5), (4, .int r3), (0, .ref (ad (1, 0, 0))), (1, .ref (ad (4, i1, 0))), (2, .int l2), (3, .int l3)]) hx hb d_QC_highestParent_68 hl (by decide) rfl (fun ls hl => ?_)
          refine lv_aload_n (pc := 70) hx hb d_QC_highestParent_70 rfl (lv_at hl 4 rfl) ?_
          refine lv_iload_n (pc := 71) hx hb d_QC_highestParent_71 rfl (lv_at hl 6 rfl) ?_
          have o22 := hk.1
          have hk := hk.2
          obtain ⟨r23, er23⟩ : ∃ z : Int32, z = f_Store_hasBlock i1 l3 S := ⟨_, rfl⟩
          have hk := lt_p er23 hk
          have hr := lt_e er23 hr
          refine p_go (pc := 72) (congrArg Value.int er23) (p_runV hF hK hW (c_Store_hasBlock l D X ad ca i1 l3 h1 S o22 _) cd_Store_hasBlock gw_477 (tq4 h1) rfl rfl ⟨Nat.le_of_ble_eq_true rfl, Nat.le_of_ble_eq_true rfl⟩ ⟨Nat.zero_le _, Nat.zero_le _⟩ rfl rfl hl.1 (Nat.le_of_ble_eq_true rfl) d_QC_highestParent_72) ?_
          refine lv_if_eq (pc := 75) (tgt := 91) hx hb d_QC_highestParent_75 (by decide) (fun c24 => ?_) (fun c24 => ?_)
          · have hk := hk.1 c24
            have hr := (if_pos c24).symm.trans hr
            refine lv_iinc (pc := 91) (v := l3 + (1 : Int32)) (lv' := [(3, .int (l3 + (1 : Int32))), (6, .int (1 : Int32)), (5, .int r5), (4, .int r3), (0, .ref (ad (1, 0, 0))), (1, .ref (ad (4, i1, 0))), (2, .int l2)]) (k := 6) hx hb d_QC_highestParent_91 hl rfl (z_inc (by decide)) (by decide) rfl (fun ls hl => ?_)
            refine lv_goto (pc := 94) (tgt := 4) hx hb d_QC_highestParent_94 (by decide) ?_
            exact ih l2 (l3 + (1 : Int32)) hk hr _ (lv_sub hl [4, 5, 6, 0] rfl)
          · have hk := hk.2 c24
            have hr := (if_neg c24).symm.trans hr
            refine lv_iload (pc := 78) hx hb d_QC_highestParent_78 (lv_at hl 1 rfl) ?_
            refine lv_if_ne (pc := 80) (tgt := 88) hx hb d_QC_highestParent_80 (by decide) (fun c25 => ?_) (fun c25 => ?_)
            · have hk := hk.2 c25
              have hr := (if_neg c25).symm.trans hr
              refine lv_iload (pc := 88) hx hb d_QC_highestParent_88 (lv_at hl 2 rfl) ?_
              refine lv_istore_n (pc := 90) (lv' := [(2, .int r3), (6, .int (1 : Int32)), (5, .int r5), (4, .int r3), (0, .ref (ad (1, 0, 0))), (1, .ref (ad (4, i1, 0))), (3, .int l3)]) hx hb d_QC_highestParent_90 rfl hl (by decide) rfl (fun ls hl => ?_)
              refine lv_iinc (pc := 91) (v := l3 + (1 : Int32)) (lv' := [(3, .int (l3 + (1 : Int32))), (2, .int r3), (6, .int (1 : Int32)), (5, .int r5), (4, .int r3), (0, .ref (ad (1, 0, 0))), (1, .ref (ad (4, i1, 0)))]) (k := 6) hx hb d_QC_highestParent_91 hl rfl (z_inc (by decide)) (by decide) rfl (fun ls hl => ?_)
              refine lv_goto (pc := 94) (tgt := 4) hx hb d_QC_highestParent_94 (by decide) ?_
              exact ih r3 (l3 + (1 : Int32)) hk hr _ (lv_sub hl [5, 6, 1, 0] rfl)
            · have hk := hk.1 c25
              have hr := (if_pos c25).symm.trans hr
              refine lv_iload (pc := 83) hx hb d_QC_highestParent_83 (lv_at hl 0 rfl) ?_
              refine lv_if_eq (pc := 85) (tgt := 91) hx hb d_QC_highestParent_85 (by decide) (fun c26 => ?_) (fun c26 => ?_)
              · have hk := hk.1 c26
                have hr := (if_pos c26).symm.trans hr
                refine lv_iinc (pc := 91) (v := l3 + (1 : Int32)) (lv' := [(3, .int (l3 + (1 : Int32))), (6, .int (1 : Int32)), (5, .int r5), (4, .int r3), (0, .ref (ad (1, 0, 0))), (1, .ref (ad (4, i1, 0))), (2, .int l2)]) (k := 6) hx hb d_QC_highestParent_91 hl rfl (z_inc (by decide)) (by decide) rfl (fun ls hl => ?_)
                refine lv_goto (pc := 94) (tgt := 4) hx hb d_QC_highestParent_94 (by decide) ?_
                exact ih l2 (l3 + (1 : Int32)) hk hr _ (lv_sub hl [4, 5, 6, 0] rfl)
              · have hk := hk.2 c26
                have hr := (if_neg c26).symm.trans hr
                refine lv_iload (pc := 88) hx hb d_QC_highestParent_88 (lv_at hl 2 rfl) ?_
                refine lv_istore_n (pc := 90) (lv' := [(2, .int r3), (6, .int (1 : Int32)), (5, .int r5), (4, .int r3), (0, .ref (ad (1, 0, 0))), (1, .ref (ad (4, i1, 0))), (3, .int l3)]) hx hb d_QC_highestParent_90 rfl hl (by decide) rfl (fun ls hl => ?_)
                refine lv_iinc (pc := 91) (v := l3 + (1 : Int32)) (lv' := [(3, .int (l3 + (1 : Int32))), (2, .int r3), (6, .int (1 : Int32)), (5, .int r5), (4, .int r3), (0, .ref (ad (1, 0, 0))), (1, .ref (ad (4, i1, 0)))]) (k := 6) hx hb d_QC_highestParent_91 hl rfl (z_inc (by decide)) (by decide) rfl (fun ls hl => ?_)
                refine lv_goto (pc := 94) (tgt := 4) hx hb d_QC_highestParent_94 (by decide) ?_
                exact ih r3 (l3 + (1 : Int32)) hk hr _ (lv_sub hl [5, 6, 1, 0] rfl)
def f_QC_highestParent (i1 : Nat) (S : St) : Int32 :=
  f_QC_highestParent_4 i1 200 S (0 : Int32) (1 : Int32)
def ok_QC_highestParent (i1 : Nat) (S : St) : Prop :=
  ok_QC_highestParent_4 i1 200 S (0 : Int32) (1 : Int32)
set_option maxHeartbeats 4000000 in
set_option maxRecDepth 100000 in
theorem c_QC_highestParent (l : Launch) (D : va_G) (X : va_W) (ad : N3 → Nat) (ca : Nat → ClassId) (i1 : Nat) (h1 : i1 < 4) (S : St) (hk : ok_QC_highestParent i1 S) : cP l GG D clQ (tysQ ca) nwQ (zw X ad TQ (cfQ ad ca) S) y_QC_highestParent b_QC_highestParent 7 .int 3 64 [.ref (ad (1, 0, 0)), .ref (ad (4, i1, 0))] (.int (f_QC_highestParent i1 S)) := by
  generalize hr : f_QC_highestParent i1 S = res
  refine zP_of pn_QC (Nat.le_of_ble_eq_true rfl) (fun p e s m below meth c ls hy hW hl => ?_)
  have hF := hy.1
  have hx := hF.1
  have hb := hF.2.1
  have hK := hy.2.2.2
  have hl : lv_has ls 7 [(0, .ref (ad (1, 0, 0))), (1, .ref (ad (4, i1, 0)))] := hl
  refine lv_iconst (pc := 0) (v := 0) hx hb d_QC_highestParent_0 (by decide) ?_
  refine lv_istore_n (pc := 1) (lv' := [(2, .int (0 : Int32)), (0, .ref (ad (1, 0, 0))), (1, .ref (ad (4, i1, 0)))]) hx hb d_QC_highestParent_1 rfl hl (by decide) rfl (fun ls hl => ?_)
  refine lv_iconst (pc := 2) (v := 1) hx hb d_QC_highestParent_2 (by decide) ?_
  refine lv_istore_n (pc := 3) (lv' := [(3, .int (1 : Int32)), (2, .int (0 : Int32)), (0, .ref (ad (1, 0, 0))), (1, .ref (ad (4, i1, 0)))]) hx hb d_QC_highestParent_3 rfl hl (by decide) rfl (fun ls hl => ?_)
  exact w_QC_highestParent_4 i1 h1 S hy hW 200 (0 : Int32) (1 : Int32) hk hr _ (lv_sub hl [2, 3, 1, 0] rfl)
