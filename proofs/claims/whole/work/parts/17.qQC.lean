theorem d_QC_isHeard_0 : decode b_QC_isHeard 0 = .ok (.aload_n 1, 1) := by decide +kernel
theorem d_QC_isHeard_1 : decode b_QC_isHeard 1 = .ok (.getfield 123, 3) := by decide +kernel
theorem d_QC_isHeard_4 : decode b_QC_isHeard 4 = .ok (.iconst 4, 1) := by decide +kernel
theorem d_QC_isHeard_5 : decode b_QC_isHeard 5 = .ok (.if_icmp .eq 11, 3) := by decide +kernel
theorem d_QC_isHeard_8 : decode b_QC_isHeard 8 = .ok (.aload_n 1, 1) := by decide +kernel
theorem d_QC_isHeard_9 : decode b_QC_isHeard 9 = .ok (.getfield 123, 3) := by decide +kernel
theorem d_QC_isHeard_12 : decode b_QC_isHeard 12 = .ok (.iconst 5, 1) := by decide +kernel
theorem d_QC_isHeard_13 : decode b_QC_isHeard 13 = .ok (.if_icmp .ne 5, 3) := by decide +kernel
theorem d_QC_isHeard_16 : decode b_QC_isHeard 16 = .ok (.iconst 1, 1) := by decide +kernel
theorem d_QC_isHeard_17 : decode b_QC_isHeard 17 = .ok (.ireturn, 1) := by decide +kernel
theorem d_QC_isHeard_18 : decode b_QC_isHeard 18 = .ok (.aload_n 1, 1) := by decide +kernel
theorem d_QC_isHeard_19 : decode b_QC_isHeard 19 = .ok (.getfield 123, 3) := by decide +kernel
theorem d_QC_isHeard_22 : decode b_QC_isHeard 22 = .ok (.iconst 1, 1) := by decide +kernel
theorem d_QC_isHeard_23 : decode b_QC_isHeard 23 = .ok (.if_icmp .ne 26, 3) := by decide +kernel
theorem d_QC_isHeard_26 : decode b_QC_isHeard 26 = .ok (.aload_n 0, 1) := by decide +kernel
theorem d_QC_isHeard_27 : decode b_QC_isHeard 27 = .ok (.getfield 18, 3) := by decide +kernel
theorem d_QC_isHeard_30 : decode b_QC_isHeard 30 = .ok (.aload_n 1, 1) := by decide +kernel
theorem d_QC_isHeard_31 : decode b_QC_isHeard 31 = .ok (.getfield 129, 3) := by decide +kernel
theorem d_QC_isHeard_34 : decode b_QC_isHeard 34 = .ok (.invokevirtual 203, 3) := by decide +kernel
theorem d_QC_isHeard_37 : decode b_QC_isHeard 37 = .ok (.invokestatic 173, 3) := by decide +kernel
theorem d_QC_isHeard_40 : decode b_QC_isHeard 40 = .ok (.aload_n 1, 1) := by decide +kernel
theorem d_QC_isHeard_41 : decode b_QC_isHeard 41 = .ok (.getfield 126, 3) := by decide +kernel
theorem d_QC_isHeard_44 : decode b_QC_isHeard 44 = .ok (.if_icmp .eq 5, 3) := by decide +kernel
theorem d_QC_isHeard_47 : decode b_QC_isHeard 47 = .ok (.iconst 0, 1) := by decide +kernel
theorem d_QC_isHeard_48 : decode b_QC_isHeard 48 = .ok (.ireturn, 1) := by decide +kernel
theorem d_QC_isHeard_49 : decode b_QC_isHeard 49 = .ok (.aload_n 1, 1) := by decide +kernel
theorem d_QC_isHeard_50 : decode b_QC_isHeard 50 = .ok (.getfield 126, 3) := by decide +kernel
theorem d_QC_isHeard_53 : decode b_QC_isHeard 53 = .ok (.invokestatic 68, 3) := by decide +kernel
theorem d_QC_isHeard_56 : decode b_QC_isHeard 56 = .ok (.ifCond .eq 29, 3) := by decide +kernel
theorem d_QC_isHeard_59 : decode b_QC_isHeard 59 = .ok (.aload_n 0, 1) := by decide +kernel
theorem d_QC_isHeard_60 : decode b_QC_isHeard 60 = .ok (.getfield 11, 3) := by decide +kernel
theorem d_QC_isHeard_63 : decode b_QC_isHeard 63 = .ok (.aload_n 1, 1) := by decide +kernel
theorem d_QC_isHeard_64 : decode b_QC_isHeard 64 = .ok (.getfield 126, 3) := by decide +kernel
theorem d_QC_isHeard_67 : decode b_QC_isHeard 67 = .ok (.aaload, 1) := by decide +kernel
theorem d_QC_isHeard_68 : decode b_QC_isHeard 68 = .ok (.getfield 179, 3) := by decide +kernel
theorem d_QC_isHeard_71 : decode b_QC_isHeard 71 = .ok (.getfield 183, 3) := by decide +kernel
theorem d_QC_isHeard_74 : decode b_QC_isHeard 74 = .ok (.aload_n 1, 1) := by decide +kernel
theorem d_QC_isHeard_75 : decode b_QC_isHeard 75 = .ok (.invokevirtual 306, 3) := by decide +kernel
theorem d_QC_isHeard_78 : decode b_QC_isHeard 78 = .ok (.ifCond .eq 7, 3) := by decide +kernel
theorem d_QC_isHeard_81 : decode b_QC_isHeard 81 = .ok (.iconst 1, 1) := by decide +kernel
theorem d_QC_isHeard_82 : decode b_QC_isHeard 82 = .ok (.goto 4, 3) := by decide +kernel
theorem d_QC_isHeard_85 : decode b_QC_isHeard 85 = .ok (.iconst 0, 1) := by decide +kernel
theorem d_QC_isHeard_86 : decode b_QC_isHeard 86 = .ok (.ireturn, 1) := by decide +kernel
def f_QC_isHeard_49 (i1 : Nat) (j1 : Nat) (S : St)  : Int32 :=
  lt (f_QC_isNode (S.1 14 i1 j1 2) S) fun (r8 : Int32) =>
  if r8 = 0 then
    (0 : Int32)
  else
    lt (f_KeyTree_isGood ((S.1 14 i1 j1 2).toNatClampNeg) i1 j1 S) fun (r12 : Int32) =>
    if r12 = 0 then
      (0 : Int32)
    else
      (1 : Int32)
def ok_QC_isHeard_49 (i1 : Nat) (j1 : Nat) (S : St)  : Prop :=
  lt (f_QC_isNode (S.1 14 i1 j1 2) S) fun (r8 : Int32) =>
  (r8 = 0 → (
    True)) ∧ (¬ (r8 = 0) → (
    (vp_in (S.1 14 i1 j1 2) 4) ∧ (
      (ok_KeyTree_isGood ((S.1 14 i1 j1 2).toNatClampNeg) i1 j1 S) ∧ (
        True))))
set_option maxHeartbeats 4000000 in
set_option maxRecDepth 100000 in
theorem w_QC_isHeard_49 {l : Launch} {D : va_G} {X : va_W} {ad : N3 → Nat} {ca : Nat → ClassId} (i1 : Nat) (j1 : Nat) (h1 : inM i1 j1) (S : St) {p : Program} {e : Env} {s : State} {m : MethodId} {below : List Frame} {meth : Method} {c : Code} {A : Nat → Prop} (hy : Hy p s m ([.ref (ad (1, 0, 0)), .ref (ad (14, i1, j1))] : List Value).toArray meth c b_QC_isHeard 2 (some .boolean) R_QC GG D clQ (tysQ ca) nwQ) (hA : ∀ q, s.heap.size ≤ q → A q) {res : Int32} : ok_QC_isHeard_49 i1 j1 S → f_QC_isHeard_49 i1 j1 S = res → ∀ (H : Heap) (locs : List Loc) (ls : Array Slot), Wd D clQ A s.heap (zw X ad TQ (cfQ ad ca) S) H locs → lv_has ls 2 [(0, .ref (ad (1, 0, 0))), (1, .ref (ad (14, i1, j1)))] → W p l e { frames := 3, cells := 0, slots := 0, locals := 78 } s m ([.ref (ad (1, 0, 0)), .ref (ad (14, i1, j1))] : List Value).toArray below meth c H locs 0 0 (MQ below (eI D clQ X ad TQ (cfQ ad ca) A (res, S)) ([.ref (ad (1, 0, 0)), .ref (ad (14, i1, j1))] : List Value).toArray s 0 0 A) (F0 m 49 ls []) := by
  have hF := hy.1
  have hx := hF.1
  have hb := hF.2.1
  have hK := hy.2.2.2
  intro  hk hr H locs ls hW hl
  refine lv_aload_n (pc := 49) hx hb d_QC_isHeard_49 rfl (lv_at hl 1 rfl) ?_
  refine z_get (pc := 50) (v := .int (S.1 14 i1 j1 2)) hF hK.1 hW (tq14 h1) rfl rfl in_Message 2 (by decide) gw_142 rfl rfl d_QC_isHeard_50 ?_
  obtain ⟨r8, er8⟩ : ∃ z : Int32, z = f_QC_isNode (S.1 14 i1 j1 2) S := ⟨_, rfl⟩
  have hk := lt_p er8 hk
  have hr := lt_e er8 hr
  refine z_goI (pc := 53) hW hA (congrArg (fun q => (q, S)) er8) (z_runS hF hK hW (c_QC_isNode l D X ad ca (S.1 14 i1 j1 2) S _) cd_QC_isNode gw_430 ⟨Nat.le_of_ble_eq_true rfl, Nat.le_of_ble_eq_true rfl⟩ ⟨Nat.zero_le _, Nat.zero_le _⟩ rfl rfl hl.1 (Nat.le_of_ble_eq_true rfl) d_QC_isHeard_53) (fun H locs (hW : Wd D clQ A s.heap (zw X ad TQ (cfQ ad ca) S) H locs) => ?_)
  refine lv_if_eq (pc := 56) (tgt := 85) hx hb d_QC_isHeard_56 (by decide) (fun c9 => ?_) (fun c9 => ?_)
  · have hk := hk.1 c9
    have hr := (if_pos c9).symm.trans hr
    refine lv_iconst (pc := 85) (v := 0) hx hb d_QC_isHeard_85 (by decide) ?_
    exact z_zret (v := (0 : Int32)) hy hW rfl (congrArg (fun z => (z, S)) hr.symm) d_QC_isHeard_86
  · have hk := hk.2 c9
    have hr := (if_neg c9).symm.trans hr
    refine lv_aload_n (pc := 59) hx hb d_QC_isHeard_59 rfl (lv_at hl 0 rfl) ?_
    refine z_get (pc := 60) (v := .ref (ad (2, 0, 0))) hF hK.1 hW tq1 rfl rfl in_QC 0 (by decide) gw_344 rfl rfl d_QC_isHeard_60 ?_
    refine lv_aload_n (pc := 63) hx hb d_QC_isHeard_63 rfl (lv_at hl 1 rfl) ?_
    refine z_get (pc := 64) (v := .int (S.1 14 i1 j1 2)) hF hK.1 hW (tq14 h1) rfl rfl in_Message 2 (by decide) gw_142 rfl rfl d_QC_isHeard_64 ?_
    have b10 := hk.1
    have hk := hk.2
    refine z_aald (pc := 67) (q := ad (3, ((S.1 14 i1 j1 2).toNatClampNeg), 0)) hF hK.1 hW tq2 3 rfl rfl b10 rfl d_QC_isHeard_67 ?_
    refine z_get (pc := 68) (v := .ref (ad (4, ((S.1 14 i1 j1 2).toNatClampNeg), 0))) hF hK.1 hW (tq3 (vin4 b10)) rfl rfl in_Node 1 (by decide) gw_298 rfl rfl d_QC_isHeard_68 ?_
    refine z_get (pc := 71) (v := .ref (ad (10, ((S.1 14 i1 j1 2).toNatClampNeg), 0))) hF hK.1 hW (tq4 (vin4 b10)) rfl rfl in_Store 3 (by decide) gw_270 rfl rfl d_QC_isHeard_71 ?_
    refine lv_aload_n (pc := 74) hx hb d_QC_isHeard_74 rfl (lv_at hl 1 rfl) ?_
    have o11 := hk.1
    have hk := hk.2
    obtain ⟨r12, er12⟩ : ∃ z : Int32, z = f_KeyTree_isGood ((S.1 14 i1 j1 2).toNatClampNeg) i1 j1 S := ⟨_, rfl⟩
    have hr := lt_e er12 hr
    refine z_goI (pc := 75) hW hA (congrArg (fun q => (q, S)) er12) (z_runV hF hK hW (c_KeyTree_isGood l D X ad ca ((S.1 14 i1 j1 2).toNatClampNeg) i1 j1 (vin4 b10) h1 S o11 _) cd_KeyTree_isGood gw_673 (tq10 (vin4 b10)) rfl rfl ⟨Nat.le_of_ble_eq_true rfl, Nat.le_of_ble_eq_true rfl⟩ ⟨Nat.zero_le _, Nat.zero_le _⟩ rfl rfl hl.1 (Nat.le_of_ble_eq_true rfl) d_QC_isHeard_75) (fun H locs (hW : Wd D clQ A s.heap (zw X ad TQ (cfQ ad ca) S) H locs) => ?_)
    refine lv_if_eq (pc := 78) (tgt := 85) hx hb d_QC_isHeard_78 (by decide) (fun c13 => ?_) (fun c13 => ?_)
    · have hr := (if_pos c13).symm.trans hr
      refine lv_iconst (pc := 85) (v := 0) hx hb d_QC_isHeard_85 (by decide) ?_
      exact z_zret (v := (0 : Int32)) hy hW rfl (congrArg (fun z => (z, S)) hr.symm) d_QC_isHeard_86
    · have hr := (if_neg c13).symm.trans hr
      refine lv_iconst (pc := 81) (v := 1) hx hb d_QC_isHeard_81 (by decide) ?_
      refine lv_goto (pc := 82) (tgt := 86) hx hb d_QC_isHeard_82 (by decide) ?_
      exact z_zret (v := (1 : Int32)) hy hW rfl (congrArg (fun z => (z, S)) hr.symm) d_QC_isHeard_86
def f_QC_isHeard (i1 : Nat) (j1 : Nat) (S : St) : Int32 :=
  if (S.1 14 i1 j1 1) = (4 : Int32) then
    (1 : Int32)
  else
    if (S.1 14 i1 j1 1) = (5 : Int32) then
      (1 : Int32)
    else
      if (S.1 14 i1 j1 1) = (1 : Int32) then
        lt (f_Blocks_viewOf (S.1 14 i1 j1 3) S) fun (r5 : Int32) =>
        lt (f_QC_leaderOf r5 S) fun (r6 : Int32) =>
        if r6 = (S.1 14 i1 j1 2) then
          f_QC_isHeard_49 i1 j1 S
        else
          (0 : Int32)
      else
        f_QC_isHeard_49 i1 j1 S
def ok_QC_isHeard (i1 : Nat) (j1 : Nat) (S : St) : Prop :=
  ((S.1 14 i1 j1 1) = (4 : Int32) → (
    True)) ∧ (¬ ((S.1 14 i1 j1 1) = (4 : Int32)) → (
    ((S.1 14 i1 j1 1) = (5 : Int32) → (
      True)) ∧ (¬ ((S.1 14 i1 j1 1) = (5 : Int32)) → (
      ((S.1 14 i1 j1 1) = (1 : Int32) → (
        (ok_Blocks_viewOf (S.1 14 i1 j1 3) S) ∧ (
          lt (f_Blocks_viewOf (S.1 14 i1 j1 3) S) fun (r5 : Int32) =>
          lt (f_QC_leaderOf r5 S) fun (r6 : Int32) =>
          (r6 = (S.1 14 i1 j1 2) → (
            ok_QC_isHeard_49 i1 j1 S)) ∧ (¬ (r6 = (S.1 14 i1 j1 2)) → (
            True))))) ∧ (¬ ((S.1 14 i1 j1 1) = (1 : Int32)) → (
        ok_QC_isHeard_49 i1 j1 S))))))
set_option maxHeartbeats 4000000 in
set_option maxRecDepth 100000 in
theorem c_QC_isHeard (l : Launch) (D : va_G) (X : va_W) (ad : N3 → Nat) (ca : Nat → ClassId) (i1 : Nat) (j1 : Nat) (h1 : inM i1 j1) (S : St) (hk : ok_QC_isHeard i1 j1 S) : cI l GG D clQ (tysQ ca) nwQ X ad TQ (cfQ ad ca) y_QC_isHeard b_QC_isHeard 2 .boolean 3 78 [.ref (ad (1, 0, 0)), .ref (ad (14, i1, j1))] S ((f_QC_isHeard i1 j1 S), S) := by
  generalize hr : f_QC_isHeard i1 j1 S = res
  refine zI_of pn_QC (Nat.le_of_ble_eq_true rfl) (fun p e s m below meth c A ls hy hW hA hl => ?_)
  have hF := hy.1
  have hx := hF.1
  have hb := hF.2.1
  have hK := hy.2.2.2
  have hl : lv_has ls 2 [(0, .ref (ad (1, 0, 0))), (1, .ref (ad (14, i1, j1)))] := hl
  refine lv_aload_n (pc := 0) hx hb d_QC_isHeard_0 rfl (lv_at hl 1 rfl) ?_
  refine z_get (pc := 1) (v := .int (S.1 14 i1 j1 1)) hF hK.1 hW (tq14 h1) rfl rfl in_Message 1 (by decide) gw_140 rfl rfl d_QC_isHeard_1 ?_
  refine lv_iconst (pc := 4) (v := 4) hx hb d_QC_isHeard_4 (by decide) ?_
  refine lv_icmp_eq (pc := 5) (tgt := 16) hx hb d_QC_isHeard_5 (by decide) (fun c1 => ?_) (fun c1 => ?_)
  · have hk := hk.1 c1
    have hr := (if_pos c1).symm.trans hr
    refine lv_iconst (pc := 16) (v := 1) hx hb d_QC_isHeard_16 (by decide) ?_
    exact z_zret (v := (1 : Int32)) hy hW rfl (congrArg (fun z => (z, S)) hr.symm) d_QC_isHeard_17
  · have hk := hk.2 c1
    have hr := (if_neg c1).symm.trans hr
    refine lv_aload_n (pc := 8) hx hb d_QC_isHeard_8 rfl (lv_at hl 1 rfl) ?_
    refine z_get (pc := 9) (v := .int (S.1 14 i1 j1 1)) hF hK.1 hW (tq14 h1) rfl rfl in_Message 1 (by decide) gw_140 rfl rfl d_QC_isHeard_9 ?_
    refine lv_iconst (pc := 12) (v := 5) hx hb d_QC_isHeard_12 (by decide) ?_
    refine lv_icmp_ne (pc := 13) (tgt := 18) hx hb d_QC_isHeard_13 (by decide) (fun c2 => ?_) (fun c2 => ?_)
    · have hk := hk.2 c2
      have hr := (if_neg c2).symm.trans hr
      refine lv_aload_n (pc := 18) hx hb d_QC_isHeard_18 rfl (lv_at hl 1 rfl) ?_
      refine z_get (pc := 19) (v := .int (S.1 14 i1 j1 1)) hF hK.1 hW (tq14 h1) rfl rfl in_Message 1 (by decide) gw_140 rfl rfl d_QC_isHeard_19 ?_
      refine lv_iconst (pc := 22) (v := 1) hx hb d_QC_isHeard_22 (by decide) ?_
      refine lv_icmp_ne (pc := 23) (tgt := 49) hx hb d_QC_isHeard_23 (by decide) (fun c3 => ?_) (fun c3 => ?_)
      · have hk := hk.2 c3
        have hr := (if_neg c3).symm.trans hr
        exact w_QC_isHeard_49 i1 j1 h1 S hy hA  hk hr _ _ _ hW (lv_sub hl [0, 1] rfl)
      · have hk := hk.1 c3
        have hr := (if_pos c3).symm.trans hr
        refine lv_aload_n (pc := 26) hx hb d_QC_isHeard_26 rfl (lv_at hl 0 rfl) ?_
        refine z_get (pc := 27) (v := .ref (ad (19, 0, 0))) hF hK.1 hW tq1 rfl rfl in_QC 1 (by decide) gw_345 rfl rfl d_QC_isHeard_27 ?_
        refine lv_aload_n (pc := 30) hx hb d_QC_isHeard_30 rfl (lv_at hl 1 rfl) ?_
        refine z_get (pc := 31) (v := .int (S.1 14 i1 j1 3)) hF hK.1 hW (tq14 h1) rfl rfl in_Message 3 (by decide) gw_144 rfl rfl d_QC_isHeard_31 ?_
        have o4 := hk.1
        have hk := hk.2
        obtain ⟨r5, er5⟩ : ∃ z : Int32, z = f_Blocks_viewOf (S.1 14 i1 j1 3) S := ⟨_, rfl⟩
        have hk := lt_p er5 hk
        have hr := lt_e er5 hr
        refine z_goI (pc := 34) hW hA (congrArg (fun q => (q, S)) er5) (z_runV hF hK hW (c_Blocks_viewOf l D X ad ca (S.1 14 i1 j1 3) S o4 _) cd_Blocks_viewOf gw_456 tq19 rfl rfl ⟨Nat.le_of_ble_eq_true rfl, Nat.le_of_ble_eq_true rfl⟩ ⟨Nat.zero_le _, Nat.zero_le _⟩ rfl rfl hl.1 (Nat.le_of_ble_eq_true rfl) d_QC_isHeard_34) (fun H locs (hW : Wd D clQ A s.heap (zw X ad TQ (cfQ ad ca) S) H locs) => ?_)
        obtain ⟨r6, er6⟩ : ∃ z : Int32, z = f_QC_leaderOf r5 S := ⟨_, rfl⟩
        have hk := lt_p er6 hk
        have hr := lt_e er6 hr
        refine z_goI (pc := 37) hW hA (congrArg (fun q => (q, S)) er6) (z_runS hF hK hW (c_QC_leaderOf l D X ad ca r5 S _) cd_QC_leaderOf gw_670 ⟨Nat.le_of_ble_eq_true rfl, Nat.le_of_ble_eq_true rfl⟩ ⟨Nat.zero_le _, Nat.zero_le _⟩ rfl rfl hl.1 (Nat.le_of_ble_eq_true rfl) d_QC_isHeard_37) (fun H locs (hW : Wd D clQ A s.heap (zw X ad TQ (cfQ ad ca) S) H locs) => ?_)
        refine lv_aload_n (pc := 40) hx hb d_QC_isHeard_40 rfl (lv_at hl 1 rfl) ?_
        refine z_get (pc := 41) (v := .int (S.1 14 i1 j1 2)) hF hK.1 hW (tq14 h1) rfl rfl in_Message 2 (by decide) gw_142 rfl rfl d_QC_isHeard_41 ?_
        refine lv_icmp_eq (pc := 44) (tgt := 49) hx hb d_QC_isHeard_44 (by decide) (fun c7 => ?_) (fun c7 => ?_)
        · have hk := hk.1 c7
          have hr := (if_pos c7).symm.trans hr
          exact w_QC_isHeard_49 i1 j1 h1 S hy hA  hk hr _ _ _ hW (lv_sub hl [0, 1] rfl)
        · have hk := hk.2 c7
          have hr := (if_neg c7).symm.trans hr
          refine lv_iconst (pc := 47) (v := 0) hx hb d_QC_isHeard_47 (by decide) ?_
          exact z_zret (v := (0 : Int32)) hy hW rfl (congrArg (fun z => (z, S)) hr.symm) d_QC_isHeard_48
    · have hk := hk.1 c2
      have hr := (if_pos c2).symm.trans hr
      refine lv_iconst (pc := 16) (v := 1) hx hb d_QC_isHeard_16 (by decide) ?_
      exact z_zret (v := (1 : Int32)) hy hW rfl (congrArg (fun z => (z, S)) hr.symm) d_QC_isHeard_17
theorem d_QC_sendUnsigned_0 : decode b_QC_sendUnsigned 0 = .ok (.aload_n 0, 1) := by decide +kernel
theorem d_QC_sendUnsigned_1 : decode b_QC_sendUnsigned 1 = .ok (.getfield 32, 3) := by decide +kernel
theorem d_QC_sendUnsigned_4 : decode b_QC_sendUnsigned 4 = .ok (.iload_n 2, 1) := by decide +kernel
theorem d_QC_sendUnsigned_5 : decode b_QC_sendUnsigned 5 = .ok (.aload_n 1, 1) := by decide +kernel
theorem d_QC_sendUnsigned_6 : decode b_QC_sendUnsigned 6 = .ok (.getfield 339, 3) := by decide +kernel
theorem d_QC_sendUnsigned_9 : decode b_QC_sendUnsigned 9 = .ok (.iload_n 3, 1) := by decide +kernel
theorem d_QC_sendUnsigned_10 : decode b_QC_sendUnsigned 10 = .ok (.iconst 0, 1) := by decide +kernel
theorem d_QC_sendUnsigned_11 : decode b_QC_sendUnsigned 11 = .ok (.invokevirtual 393, 3) := by decide +kernel
theorem d_QC_sendUnsigned_14 : decode b_QC_sendUnsigned 14 = .ok (.iload 4, 2) := by decide +kernel
theorem d_QC_sendUnsigned_16 : decode b_QC_sendUnsigned 16 = .ok (.invokestatic 68, 3) := by decide +kernel
theorem d_QC_sendUnsigned_19 : decode b_QC_sendUnsigned 19 = .ok (.ifCond .eq 20, 3) := by decide +kernel
theorem d_QC_sendUnsigned_22 : decode b_QC_sendUnsigned 22 = .ok (.aload_n 0, 1) := by decide +kernel
theorem d_QC_sendUnsigned_23 : decode b_QC_sendUnsigned 23 = .ok (.getfield 11, 3) := by decide +kernel
theorem d_QC_sendUnsigned_26 : decode b_QC_sendUnsigned 26 = .ok (.iload 4, 2) := by decide +kernel
theorem d_QC_sendUnsigned_28 : decode b_QC_sendUnsigned 28 = .ok (.aaload, 1) := by decide +kernel
theorem d_QC_sendUnsigned_29 : decode b_QC_sendUnsigned 29 = .ok (.getfield 99, 3) := by decide +kernel
theorem d_QC_sendUnsigned_32 : decode b_QC_sendUnsigned 32 = .ok (.aload_n 0, 1) := by decide +kernel
theorem d_QC_sendUnsigned_33 : decode b_QC_sendUnsigned 33 = .ok (.getfield 32, 3) := by decide +kernel
theorem d_QC_sendUnsigned_36 : decode b_QC_sendUnsigned 36 = .ok (.invokevirtual 157, 3) := by decide +kernel
theorem d_QC_sendUnsigned_39 : decode b_QC_sendUnsigned 39 = .ok (.return_, 1) := by decide +kernel
def f_QC_sendUnsigned (i1 : Nat) (a2 : Int32) (a3 : Int32) (a4 : Int32) (S : St) : St :=
  lt (f_Message_write 4 0 a2 (S.1 3 i1 0 0) a3 (0 : Int32) S) fun (S2 : St) =>
  lt (f_QC_isNode a4 S2) fun (r3 : Int32) =>
  if r3 = 0 then
    S2
  else
    lt (f_Inbox_add (a4.toNatClampNeg) 4 0 S2) fun (S8 : St) =>
    S8
def ok_QC_sendUnsigned (i1 : Nat) (a2 : Int32) (a3 : Int32) (a4 : Int32) (S : St) : Prop :=
  lt (f_Message_write 4 0 a2 (S.1 3 i1 0 0) a3 (0 : Int32) S) fun (S2 : St) =>
  lt (f_QC_isNode a4 S2) fun (r3 : Int32) =>
  (r3 = 0 → (
    True)) ∧ (¬ (r3 = 0) → (
    (vp_in a4 4) ∧ (
      (ok_Inbox_add (a4.toNatClampNeg) 4 0 S2) ∧ (
        True))))
set_option maxHeartbeats 4000000 in
set_option maxRecDepth 100000 in
theorem c_QC_sendUnsigned (l : Launch) (D : va_G) (X : va_W) (ad : N3 → Nat) (ca : Nat → ClassId) (i1 : Nat) (a2 : Int32) (a3 : Int32) (a4 : Int32) (h1 : i1 < 4) (S : St) (hk : ok_QC_sendUnsigned i1 a2 a3 a4 S) : cV l GG D clQ (tysQ ca) nwQ X ad TQ (cfQ ad ca) y_QC_sendUnsigned b_QC_sendUnsigned 5 3 122 [.ref (ad (1, 0, 0)), .ref (ad (3, i1, 0)), .int a2, .int a3, .int a4] S (f_QC_sendUnsigned i1 a2 a3 a4 S) := by
  generalize hr : f_QC_sendUnsigned i1 a2 a3 a4 S = res
  refine zV_of pn_QC (Nat.le_of_ble_eq_true rfl) (fun p e s m below meth c A ls hy hW hA hl => ?_)
  have hF := hy.1
  have hx := hF.1
  have hb := hF.2.1
  have hK := hy.2.2.2
  have hl : lv_has ls 5 [(0, .ref (ad (1, 0, 0))), (1, .ref (ad (3, i1, 0))), (2, .int a2), (3, .int a3), (4, .int a4)] := hl
  refine lv_aload_n (pc := 0) hx hb d_QC_sendUnsigned_0 rfl (lv_at hl 0 rfl) ?_
  refine z_get (pc := 1) (v := .ref (ad (14, 4, 0))) hF hK.1 hW tq1 rfl rfl in_QC 3 (by decide) gw_347 rfl rfl d_QC_sendUnsigned_1 ?_
  refine lv_iload_n (pc := 4) hx hb d_QC_sendUnsigned_4 rfl (lv_at hl 2 rfl) ?_
  refine lv_aload_n (pc := 5) hx hb d_QC_sendUnsigned_5 rfl (lv_at hl 1 rfl) ?_
  refine z_get (pc := 6) (v := .int (S.1 3 i1 0 0)) hF hK.1 hW (tq3 h1) rfl rfl in_Node 0 (by decide) gw_296 rfl rfl d_QC_sendUnsigned_6 ?_
  refine lv_iload_n (pc := 9) hx hb d_QC_sendUnsigned_9 rfl (lv_at hl 3 rfl) ?_
  refine lv_iconst (pc := 10) (v := 0) hx hb d_QC_sendUnsigned_10 (by decide) ?_
  obtain ⟨S2, eS2⟩ : ∃ z : St, z = f_Message_write 4 0 a2 (S.1 3 i1 0 0) a3 (0 : Int32) S := ⟨_, rfl⟩
  have hk := lt_p eS2 hk
  have hr := lt_e eS2 hr
  refine z_goV (pc := 11) hW hA eS2 (z_runV hF hK hW (c_Message_write l D X ad ca 4 0 a2 (S.1 3 i1 0 0) a3 (0 : Int32) inM_D S _) cd_Message_write gw_381 (tq14 inM_D) rfl rfl ⟨Nat.le_of_ble_eq_true rfl, Nat.le_of_ble_eq_true rfl⟩ ⟨Nat.zero_le _, Nat.zero_le _⟩ rfl rfl hl.1 (Nat.le_of_ble_eq_true rfl) d_QC_sendUnsigned_11) (fun H locs (hW : Wd D clQ A s.heap (zw X ad TQ (cfQ ad ca) S2) H locs) => ?_)
  refine lv_iload (pc := 14) hx hb d_QC_sendUnsigned_14 (lv_at hl 4 rfl) ?_
  obtain ⟨r3, er3⟩ : ∃ z : Int32, z = f_QC_isNode a4 S2 := ⟨_, rfl⟩
  have hk := lt_p er3 hk
  have hr := lt_e er3 hr
  refine z_goI (pc := 16) hW hA (congrArg (fun q => (q, S2)) er3) (z_runS hF hK hW (c_QC_isNode l D X ad ca a4 S2 _) cd_QC_isNode gw_430 ⟨Nat.le_of_ble_eq_true rfl, Nat.le_of_ble_eq_true rfl⟩ ⟨Nat.zero_le _, Nat.zero_le _⟩ rfl rfl hl.1 (Nat.le_of_ble_eq_true rfl) d_QC_sendUnsigned_16) (fun H locs (hW : Wd D clQ A s.heap (zw X ad TQ (cfQ ad ca) S2) H locs) => ?_)
  refine lv_if_eq (pc := 19) (tgt := 39) hx hb d_QC_sendUnsigned_19 (by decide) (fun c4 => ?_) (fun c4 => ?_)
  · have hk := hk.1 c4
    have hr := (if_pos c4).symm.trans hr
    exact z_vret hy hW hr.symm d_QC_sendUnsigned_39
  · have hk := hk.2 c4
    have hr := (if_neg c4).symm.trans hr
    refine lv_aload_n (pc := 22) hx hb d_QC_sendUnsigned_22 rfl (lv_at hl 0 rfl) ?_
    refine z_get (pc := 23) (v := .ref (ad (2, 0, 0))) hF hK.1 hW tq1 rfl rfl in_QC 0 (by decide) gw_344 rfl rfl d_QC_sendUnsigned_23 ?_
    refine lv_iload (pc := 26) hx hb d_QC_sendUnsigned_26 (lv_at hl 4 rfl) ?_
    have b5 := hk.1
    have hk := hk.2
    refine z_aald (pc := 28) (q := ad (3, (a4.toNatClampNeg), 0)) hF hK.1 hW tq2 3 rfl rfl b5 rfl d_QC_sendUnsigned_28 ?_
    refine z_get (pc := 29) (v := .ref (ad (12, (a4.toNatClampNeg), 0))) hF hK.1 hW (tq3 (vin4 b5)) rfl rfl in_Node 2 (by decide) gw_300 rfl rfl d_QC_sendUnsigned_29 ?_
    refine lv_aload_n (pc := 32) hx hb d_QC_sendUnsigned_32 rfl (lv_at hl 0 rfl) ?_
    refine z_get (pc := 33) (v := .ref (ad (14, 4, 0))) hF hK.1 hW tq1 rfl rfl in_QC 3 (by decide) gw_347 rfl rfl d_QC_sendUnsigned_33 ?_
    have o6 := hk.1
    have hk := hk.2
    obtain ⟨S8, eS8⟩ : ∃ z : St, z = f_Inbox_add (a4.toNatClampNeg) 4 0 S2 := ⟨_, rfl⟩
    have hr := lt_e eS8 hr
    refine z_goV (pc := 36) hW hA eS8 (z_runV hF hK hW (c_Inbox_add l D X ad ca (a4.toNatClampNeg) 4 0 (vin4 b5) inM_D S2 o6 _) cd_Inbox_add gw_411 (tq12 (vin4 b5)) rfl rfl ⟨Nat.le_of_ble_eq_true rfl, Nat.le_of_ble_eq_true rfl⟩ ⟨Nat.zero_le _, Nat.zero_le _⟩ rfl rfl hl.1 (Nat.le_of_ble_eq_true rfl) d_QC_sendUnsigned_36) (fun H locs (hW : Wd D clQ A s.heap (zw X ad TQ (cfQ ad ca) S8) H locs) => ?_)
    exact z_vret hy hW hr.symm d_QC_sendUnsigned_39
theorem d_Store_keepBlock_0 : decode b_Store_keepBlock 0 = .ok (.iload_n 1, 1) := by decide +kernel
theorem d_Store_keepBlock_1 : decode b_Store_keepBlock 1 = .ok (.ifCond .lt 35, 3) := by decide +kernel
theorem d_Store_keepBlock_4 : decode b_Store_keepBlock 4 = .ok (.iload_n 1, 1) := by decide +kernel
theorem d_Store_keepBlock_5 : decode b_Store_keepBlock 5 = .ok (.bipush 100, 2) := by decide +kernel
theorem d_Store_keepBlock_7 : decode b_Store_keepBlock 7 = .ok (.if_icmp .ge 29, 3) := by decide +kernel
theorem d_Store_keepBlock_10 : decode b_Store_keepBlock 10 = .ok (.aload_n 0, 1) := by decide +kernel
theorem d_Store_keepBlock_11 : decode b_Store_keepBlock 11 = .ok (.getfield 9, 3) := by decide +kernel
theorem d_Store_keepBlock_14 : decode b_Store_keepBlock 14 = .ok (.iload_n 1, 1) := by decide +kernel
theorem d_Store_keepBlock_15 : decode b_Store_keepBlock 15 = .ok (.baload, 1) := by decide +kernel
theorem d_Store_keepBlock_16 : decode b_Store_keepBlock 16 = .ok (.ifCond .ne 20, 3) := by decide +kernel
theorem d_Store_keepBlock_19 : decode b_Store_keepBlock 19 = .ok (.aload_n 0, 1) := by decide +kernel
theorem d_Store_keepBlock_20 : decode b_Store_keepBlock 20 = .ok (.getfield 9, 3) := by decide +kernel
theorem d_Store_keepBlock_23 : decode b_Store_keepBlock 23 = .ok (.iload_n 1, 1) := by decide +kernel
theorem d_Store_keepBlock_24 : decode b_Store_keepBlock 24 = .ok (.iconst 1, 1) := by decide +kernel
theorem d_Store_keepBlock_25 : decode b_Store_keepBlock 25 = .ok (.bastore, 1) := by decide +kernel
theorem d_Store_keepBlock_26 : decode b_Store_keepBlock 26 = .ok (.aload_n 0, 1) := by decide +kernel
theorem d_Store_keepBlock_27 : decode b_Store_keepBlock 27 = .ok (.dup, 1) := by decide +kernel
theorem d_Store_keepBlock_28 : decode b_Store_keepBlock 28 = .ok (.getfield 35, 3) := by decide +kernel
theorem d_Store_keepBlock_31 : decode b_Store_keepBlock 31 = .ok (.iconst 1, 1) := by decide +kernel
theorem d_Store_keepBlock_32 : decode b_Store_keepBlock 32 = .ok (.iadd, 1) := by decide +kernel
theorem d_Store_keepBlock_33 : decode b_Store_keepBlock 33 = .ok (.putfield 35, 3) := by decide +kernel
theorem d_Store_keepBlock_36 : decode b_Store_keepBlock 36 = .ok (.return_, 1) := by decide +kernel
def f_Store_keepBlock (i0 : Nat) (a1 : Int32) (S : St) : St :=
  if a1 < 0 then
    S
  else
    if (100 : Int32) ≤ a1 then
      S
    else
      if (S.1 5 i0 0 a1.toNatClampNeg) = 0 then
        lt (si S 5 i0 0 (a1.toNatClampNeg) (1 : Int32)) fun (S6 : St) =>
        lt (si S6 4 i0 0 4 ((S6.1 4 i0 0 4) + (1 : Int32))) fun (S7 : St) =>
        S7
      else
        S
def ok_Store_keepBlock (i0 : Nat) (a1 : Int32) (S : St) : Prop :=
  (a1 < 0 → (
    True)) ∧ (¬ (a1 < 0) → (
    ((100 : Int32) ≤ a1 → (
      True)) ∧ (¬ ((100 : Int32) ≤ a1) → (
      (vp_in a1 100) ∧ (
        ((S.1 5 i0 0 a1.toNatClampNeg) = 0 → (
          (vp_in a1 100) ∧ (
            True))) ∧ (¬ ((S.1 5 i0 0 a1.toNatClampNeg) = 0) → (
          True)))))))
set_option maxHeartbeats 4000000 in
set_option maxRecDepth 100000 in
theorem c_Store_keepBlock (l : Launch) (D : va_G) (X : va_W) (ad : N3 → Nat) (ca : Nat → ClassId) (i0 : Nat) (a1 : Int32) (h0 : i0 < 4) (S : St) (hk : ok_Store_keepBlock i0 a1 S) : cV l GG D clQ (tysQ ca) nwQ X ad TQ (cfQ ad ca) y_Store_keepBlock b_Store_keepBlock 2 0 0 [.ref (ad (4, i0, 0)), .int a1] S (f_Store_keepBlock i0 a1 S) := by
  generalize hr : f_Store_keepBlock i0 a1 S = res
  refine zV_of pn_Store (Nat.le_of_ble_eq_true rfl) (fun p e s m below meth c A ls hy hW hA hl => ?_)
  have hF := hy.1
  have hx := hF.1
  have hb := hF.2.1
  have hK := hy.2.2.2
  have hl : lv_has ls 2 [(0, .ref (ad (4, i0, 0))), (1, .int a1)] := hl
  refine lv_iload_n (pc := 0) hx hb d_Store_keepBlock_0 rfl (lv_at hl 1 rfl) ?_
  refine lv_if_lt (pc := 1) (tgt := 36) hx hb d_Store_keepBlock_1 (by decide) (fun c1 => ?_) (fun c1 => ?_)
  · have hk := hk.1 c1
    have hr := (if_pos c1).symm.trans hr
    exact z_vret hy hW hr.symm d_Store_keepBlock_36
  · have hk := hk.2 c1
    have hr := (if_neg c1).symm.trans hr
    refine lv_iload_n (pc := 4) hx hb d_Store_keepBlock_4 rfl (lv_at hl 1 rfl) ?_
    refine lv_bipush (pc := 5) (v := 100) hx hb d_Store_keepBlock_5 (by decide) ?_
    refine lv_icmp_ge (pc := 7) (tgt := 36) hx hb d_Store_keepBlock_7 (by decide) (fun c2 => ?_) (fun c2 => ?_)
    · have hk := hk.1 c2
      have hr := (if_pos c2).symm.trans hr
      exact z_vret hy hW hr.symm d_Store_keepBlock_36
    · have hk := hk.2 c2
      have hr := (if_neg c2).symm.trans hr
      refine lv_aload_n (pc := 10) hx hb d_Store_keepBlock_10 rfl (lv_at hl 0 rfl) ?_
      refine z_get (pc := 11) (v := .ref (ad (5, i0, 0))) hF hK.1 hW (tq4 h0) rfl rfl in_Store 0 (by decide) gw_264 rfl rfl d_Store_keepBlock_11 ?_
      refine lv_iload_n (pc := 14) hx hb d_Store_keepBlock_14 rfl (lv_at hl 1 rfl) ?_
      have b3 := hk.1
      have hk := hk.2
      refine z_zald (pc := 15) (v := S.1 5 i0 0 a1.toNatClampNeg) hF hK.1 hW (tq5 h0) 2 rfl rfl b3 rfl d_Store_keepBlock_15 ?_
      refine lv_if_ne (pc := 16) (tgt := 36) hx hb d_Store_keepBlock_16 (by decide) (fun c4 => ?_) (fun c4 => ?_)
      · have hk := hk.2 c4
        have hr := (if_neg c4).symm.trans hr
        exact z_vret hy hW hr.symm d_Store_keepBlock_36
      · have hk := hk.1 c4
        have hr := (if_pos c4).symm.trans hr
        refine lv_aload_n (pc := 19) hx hb d_Store_keepBlock_19 rfl (lv_at hl 0 rfl) ?_
        refine z_get (pc := 20) (v := .ref (ad (5, i0, 0))) hF hK.1 hW (tq4 h0) rfl rfl in_Store 0 (by decide) gw_264 rfl rfl d_Store_keepBlock_20 ?_
        refine lv_iload_n (pc := 23) hx hb d_Store_keepBlock_23 rfl (lv_at hl 1 rfl) ?_
        refine lv_iconst (pc := 24) (v := 1) hx hb d_Store_keepBlock_24 (by decide) ?_
        have b5 := hk.1
        have hk := hk.2
        obtain ⟨S6, eS6⟩ : ∃ z : St, z = si S 5 i0 0 (a1.toNatClampNeg) (1 : Int32) := ⟨_, rfl⟩
        have hr := lt_e eS6 hr
        refine z_zast (pc := 25) (S' := S6) hF hK.1 hW (tq5 h0) 2 rfl rfl b5 (zs_si eS6 rfl) (zs_sio eS6) d_Store_keepBlock_25 (fun H locs (hW : Wd D clQ A s.heap (zw X ad TQ (cfQ ad ca) S6) H locs) => ?_)
        refine lv_aload_n (pc := 26) hx hb d_Store_keepBlock_26 rfl (lv_at hl 0 rfl) ?_
        refine lv_dup (pc := 27) hx hb d_Store_keepBlock_27 rfl ?_
        refine z_get (pc := 28) (v := .int (S6.1 4 i0 0 4)) hF hK.1 hW (tq4 h0) rfl rfl in_Store 4 (by decide) gw_271 rfl rfl d_Store_keepBlock_28 ?_
        refine lv_iconst (pc := 31) (v := 1) hx hb d_Store_keepBlock_31 (by decide) ?_
        refine lv_iadd (pc := 32) hx hb d_Store_keepBlock_32 ?_
        obtain ⟨S7, eS7⟩ : ∃ z : St, z = si S6 4 i0 0 4 ((S6.1 4 i0 0 4) + (1 : Int32)) := ⟨_, rfl⟩
        have hr := lt_e eS7 hr
        refine z_put (pc := 33) (S' := S7) hF hK.1 hW (tq4 h0) rfl rfl in_Store t_Store tyo_Store nmo_Store 4 (by decide) gw_271 rfl rfl rfl rfl rfl (Nat.le_of_ble_eq_true rfl) (zs_si eS7 rfl) (zs_sio eS7) d_Store_keepBlock_33 (fun H locs (hW : Wd D clQ A s.heap (zw X ad TQ (cfQ ad ca) S7) H locs) => ?_)
        exact z_vret hy hW hr.symm d_Store_keepBlock_36
theorem d_QC_raiseHigh_0 : decode b_QC_raiseHigh 0 = .ok (.aload_n 0, 1) := by decide +kernel
theorem d_QC_raiseHigh_1 : decode b_QC_raiseHigh 1 = .ok (.getfield 18, 3) := by decide +kernel
theorem d_QC_raiseHigh_4 : decode b_QC_raiseHigh 4 = .ok (.iload_n 2, 1) := by decide +kernel
theorem d_QC_raiseHigh_5 : decode b_QC_raiseHigh 5 = .ok (.aload_n 1, 1) := by decide +kernel
theorem d_QC_raiseHigh_6 : decode b_QC_raiseHigh 6 = .ok (.getfield 248, 3) := by decide +kernel
theorem d_QC_raiseHigh_9 : decode b_QC_raiseHigh 9 = .ok (.invokevirtual 302, 3) := by decide +kernel
theorem d_QC_raiseHigh_12 : decode b_QC_raiseHigh 12 = .ok (.ifCond .eq 8, 3) := by decide +kernel
theorem d_QC_raiseHigh_15 : decode b_QC_raiseHigh 15 = .ok (.aload_n 1, 1) := by decide +kernel
theorem d_QC_raiseHigh_16 : decode b_QC_raiseHigh 16 = .ok (.iload_n 2, 1) := by decide +kernel
theorem d_QC_raiseHigh_17 : decode b_QC_raiseHigh 17 = .ok (.putfield 248, 3) := by decide +kernel
theorem d_QC_raiseHigh_20 : decode b_QC_raiseHigh 20 = .ok (.return_, 1) := by decide +kernel
def f_QC_raiseHigh (i1 : Nat) (a2 : Int32) (S : St) : St :=
  lt (f_Blocks_isAbove a2 (S.1 3 i1 0 11) S) fun (r2 : Int32) =>
  if r2 = 0 then
    S
  else
    lt (si S 3 i1 0 11 a2) fun (S4 : St) =>
    S4
def ok_QC_raiseHigh (i1 : Nat) (a2 : Int32) (S : St) : Prop :=
  (ok_Blocks_isAbove a2 (S.1 3 i1 0 11) S) ∧ (
    True)
set_option maxHeartbeats 4000000 in
set_option maxRecDepth 100000 in
theorem c_QC_raiseHigh (l : Launch) (D : va_G) (X : va_W) (ad : N3 → Nat) (ca : Nat → ClassId) (i1 : Nat) (a2 : Int32) (h1 : i1 < 4) (S : St) (hk : ok_QC_raiseHigh i1 a2 S) : cV l GG D clQ (tysQ ca) nwQ X ad TQ (cfQ ad ca) y_QC_raiseHigh b_QC_raiseHigh 3 3 64 [.ref (ad (1, 0, 0)), .ref (ad (3, i1, 0)), .int a2] S (f_QC_raiseHigh i1 a2 S) := by
  generalize hr : f_QC_raiseHigh i1 a2 S = res
  refine zV_of pn_QC (Nat.le_of_ble_eq_true rfl) (fun p e s m below meth c A ls hy hW hA hl => ?_)
  have hF := hy.1
  have hx := hF.1
  have hb := hF.2.1
  have hK := hy.2.2.2
  have hl : lv_has ls 3 [(0, .ref (ad (1, 0, 0))), (1, .ref (ad (3, i1, 0))), (2, .int a2)] := hl
  refine lv_aload_n (pc := 0) hx hb d_QC_raiseHigh_0 rfl (lv_at hl 0 rfl) ?_
  refine z_get (pc := 1) (v := .ref (ad (19, 0, 0))) hF hK.1 hW tq1 rfl rfl in_QC 1 (by decide) gw_345 rfl rfl d_QC_raiseHigh_1 ?_
  refine lv_iload_n (pc := 4) hx hb d_QC_raiseHigh_4 rfl (lv_at hl 2 rfl) ?_
  refine lv_aload_n (pc := 5) hx hb d_QC_raiseHigh_5 rfl (lv_at hl 1 rfl) ?_
  refine z_get (pc := 6) (v := .int (S.1 3 i1 0 11)) hF hK.1 hW (tq3 h1) rfl rfl in_Node 11 (by decide) gw_318 rfl rfl d_QC_raiseHigh_6 ?_
  have o1 := hk.1
  have hk := hk.2
  obtain ⟨r2, er2⟩ : ∃ z : Int32, z = f_Blocks_isAbove a2 (S.1 3 i1 0 11) S := ⟨_, rfl⟩
  have hr := lt_e er2 hr
  refine z_goI (pc := 9) hW hA (congrArg (fun q => (q, S)) er2) (z_runV hF hK hW (c_Blocks_isAbove l D X ad ca a2 (S.1 3 i1 0 11) S o1 _) cd_Blocks_isAbove gw_694 tq19 rfl rfl ⟨Nat.le_of_ble_eq_true rfl, Nat.le_of_ble_eq_true rfl⟩ ⟨Nat.zero_le _, Nat.zero_le _⟩ rfl rfl hl.1 (Nat.le_of_ble_eq_true rfl) d_QC_raiseHigh_9) (fun H locs (hW : Wd D clQ A s.heap (zw X ad TQ (cfQ ad ca) S) H locs) => ?_)
  refine lv_if_eq (pc := 12) (tgt := 20) hx hb d_QC_raiseHigh_12 (by decide) (fun c3 => ?_) (fun c3 => ?_)
  · have hr := (if_pos c3).symm.trans hr
    exact z_vret hy hW hr.symm d_QC_raiseHigh_20
  · have hr := (if_neg c3).symm.trans hr
    refine lv_aload_n (pc := 15) hx hb d_QC_raiseHigh_15 rfl (lv_at hl 1 rfl) ?_
    refine lv_iload_n (pc := 16) hx hb d_QC_raiseHigh_16 rfl (lv_at hl 2 rfl) ?_
    obtain ⟨S4, eS4⟩ : ∃ z : St, z = si S 3 i1 0 11 a2 := ⟨_, rfl⟩
    have hr := lt_e eS4 hr
    refine z_put (pc := 17) (S' := S4) hF hK.1 hW (tq3 h1) rfl rfl in_Node t_Node tyo_Node nmo_Node 11 (by decide) gw_318 rfl rfl rfl rfl rfl (Nat.le_of_ble_eq_true rfl) (zs_si eS4 rfl) (zs_sio eS4) d_QC_raiseHigh_17 (fun H locs (hW : Wd D clQ A s.heap (zw X ad TQ (cfQ ad ca) S4) H locs) => ?_)
    exact z_vret hy hW hr.symm d_QC_raiseHigh_20
theorem d_Blocks_isNextView_0 : decode b_Blocks_isNextView 0 = .ok (.aload_n 0, 1) := by decide +kernel
theorem d_Blocks_isNextView_1 : decode b_Blocks_isNextView 1 = .ok (.iload_n 1, 1) := by decide +kernel
theorem d_Blocks_isNextView_2 : decode b_Blocks_isNextView 2 = .ok (.invokevirtual 33, 3) := by decide +kernel
theorem d_Blocks_isNextView_5 : decode b_Blocks_isNextView 5 = .ok (.aload_n 0, 1) := by decide +kernel
theorem d_Blocks_isNextView_6 : decode b_Blocks_isNextView 6 = .ok (.iload_n 2, 1) := by decide +kernel
theorem d_Blocks_isNextView_7 : decode b_Blocks_isNextView 7 = .ok (.invokevirtual 33, 3) := by decide +kernel
theorem d_Blocks_isNextView_10 : decode b_Blocks_isNextView 10 = .ok (.iconst 1, 1) := by decide +kernel
theorem d_Blocks_isNextView_11 : decode b_Blocks_isNextView 11 = .ok (.iadd, 1) := by decide +kernel
theorem d_Blocks_isNextView_12 : decode b_Blocks_isNextView 12 = .ok (.if_icmp .ne 7, 3) := by decide +kernel
theorem d_Blocks_isNextView_15 : decode b_Blocks_isNextView 15 = .ok (.iconst 1, 1) := by decide +kernel
theorem d_Blocks_isNextView_16 : decode b_Blocks_isNextView 16 = .ok (.goto 4, 3) := by decide +kernel
theorem d_Blocks_isNextView_19 : decode b_Blocks_isNextView 19 = .ok (.iconst 0, 1) := by decide +kernel
theorem d_Blocks_isNextView_20 : decode b_Blocks_isNextView 20 = .ok (.ireturn, 1) := by decide +kernel
def f_Blocks_isNextView (a1 : Int32) (a2 : Int32) (S : St) : Int32 :=
  lt (f_Blocks_viewOf a1 S) fun (r2 : Int32) =>
  lt (f_Blocks_viewOf a2 S) fun (r4 : Int32) =>
  if r2 = (r4 + (1 : Int32)) then
    (1 : Int32)
  else
    (0 : Int32)
def ok_Blocks_isNextView (a1 : Int32) (a2 : Int32) (S : St) : Prop :=
  (ok_Blocks_viewOf a1 S) ∧ (
    lt (f_Blocks_viewOf a1 S) fun (r2 : Int32) =>
    (ok_Blocks_viewOf a2 S) ∧ (
      True))
set_option maxHeartbeats 4000000 in
set_option maxRecDepth 100000 in
theorem c_Blocks_isNextView (l : Launch) (D : va_G) (X : va_W) (ad : N3 → Nat) (ca : Nat → ClassId) (a1 : Int32) (a2 : Int32)  (S : St) (hk : ok_Blocks_isNextView a1 a2 S) : cI l GG D clQ (tysQ ca) nwQ X ad TQ (cfQ ad ca) y_Blocks_isNextView b_Blocks_isNextView 3 .boolean 2 42 [.ref (ad (19, 0, 0)), .int a1, .int a2] S ((f_Blocks_isNextView a1 a2 S), S) := by
  generalize hr : f_Blocks_isNextView a1 a2 S = res
  refine zI_of pn_Blocks (Nat.le_of_ble_eq_true rfl) (fun p e s m below meth c A ls hy hW hA hl => ?_)
  have hF := hy.1
  have hx := hF.1
  have hb := hF.2.1
  have hK := hy.2.2.2
  have hl : lv_has ls 3 [(0, .ref (ad (19, 0, 0))), (1, .int a1), (2, .int a2)] := hl
  refine lv_aload_n (pc := 0) hx hb d_Blocks_isNextView_0 rfl (lv_at hl 0 rfl) ?_
  refine lv_iload_n (pc := 1) hx hb d_Blocks_isNextView_1 rfl (lv_at hl 1 rfl) ?_
  have o1 := hk.1
  have hk := hk.2
  obtain ⟨r2, er2⟩ : ∃ z : Int32, z = f_Blocks_viewOf a1 S := ⟨_, rfl⟩
  have hk := lt_p er2 hk
  have hr := lt_e er2 hr
  refine z_goI (pc := 2) hW hA (congrArg (fun q => (q, S)) er2) (z_runV hF hK hW (c_Blocks_viewOf l D X ad ca a1 S o1 _) cd_Blocks_viewOf gw_698 tq19 rfl rfl ⟨Nat.le_of_ble_eq_true rfl, Nat.le_of_ble_eq_true rfl⟩ ⟨Nat.zero_le _, Nat.zero_le _⟩ rfl rfl hl.1 (Nat.le_of_ble_eq_true rfl) d_Blocks_isNextView_2) (fun H locs (hW : Wd D clQ A s.heap (zw X ad TQ (cfQ ad ca) S) H locs) => ?_)
  refine lv_aload_n (pc := 5) hx hb d_Blocks_isNextView_5 rfl (lv_at hl 0 rfl) ?_
  refine lv_iload_n (pc := 6) hx hb d_Blocks_isNextView_6 rfl (lv_at hl 2 rfl) ?_
  have o3 := hk.1
  have hk := hk.2
  obtain ⟨r4, er4⟩ : ∃ z : Int32, z = f_Blocks_viewOf a2 S := ⟨_, rfl⟩
  have hr := lt_e er4 hr
  refine z_goI (pc := 7) hW hA (congrArg (fun q => (q, S)) er4) (z_runV hF hK hW (c_Blocks_viewOf l D X ad ca a2 S o3 _) cd_Blocks_viewOf gw_698 tq19 rfl rfl ⟨Nat.le_of_ble_eq_true rfl, Nat.le_of_ble_eq_true rfl⟩ ⟨Nat.zero_le _, Nat.zero_le _⟩ rfl rfl hl.1 (Nat.le_of_ble_eq_true rfl) d_Blocks_isNextView_7) (fun H locs (hW : Wd D clQ A s.heap (zw X ad TQ (cfQ ad ca) S) H locs) => ?_)
  refine lv_iconst (pc := 10) (v := 1) hx hb d_Blocks_isNextView_10 (by decide) ?_
  refine lv_iadd (pc := 11) hx hb d_Blocks_isNextView_11 ?_
  refine lv_icmp_ne (pc := 12) (tgt := 19) hx hb d_Blocks_isNextView_12 (by decide) (fun c5 => ?_) (fun c5 => ?_)
  · have hr := (if_neg c5).symm.trans hr
    refine lv_iconst (pc := 19) (v := 0) hx hb d_Blocks_isNextView_19 (by decide) ?_
    exact z_zret (v := (0 : Int32)) hy hW rfl (congrArg (fun z => (z, S)) hr.symm) d_Blocks_isNextView_20
  · have hr := (if_pos c5).symm.trans hr
    refine lv_iconst (pc := 15) (v := 1) hx hb d_Blocks_isNextView_15 (by decide) ?_
    refine lv_goto (pc := 16) (tgt := 20) hx hb d_Blocks_isNextView_16 (by decide) ?_
    exact z_zret (v := (1 : Int32)) hy hW rfl (congrArg (fun z => (z, S)) hr.symm) d_Blocks_isNextView_20
