theorem d_M_begin_0 : decode b_M_begin 0 = .ok (.aload_n 0, 1) := by decide +kernel
theorem d_M_begin_1 : decode b_M_begin 1 = .ok (.aload_n 0, 1) := by decide +kernel
theorem d_M_begin_2 : decode b_M_begin 2 = .ok (.getfield 258, 3) := by decide +kernel
theorem d_M_begin_5 : decode b_M_begin 5 = .ok (.ifCond .ne 22, 3) := by decide +kernel
theorem d_M_begin_8 : decode b_M_begin 8 = .ok (.aload_n 0, 1) := by decide +kernel
theorem d_M_begin_9 : decode b_M_begin 9 = .ok (.getfield 43, 3) := by decide +kernel
theorem d_M_begin_12 : decode b_M_begin 12 = .ok (.iconst 0, 1) := by decide +kernel
theorem d_M_begin_13 : decode b_M_begin 13 = .ok (.baload, 1) := by decide +kernel
theorem d_M_begin_14 : decode b_M_begin 14 = .ok (.ifCond .eq 13, 3) := by decide +kernel
theorem d_M_begin_17 : decode b_M_begin 17 = .ok (.aload_n 0, 1) := by decide +kernel
theorem d_M_begin_18 : decode b_M_begin 18 = .ok (.getfield 46, 3) := by decide +kernel
theorem d_M_begin_21 : decode b_M_begin 21 = .ok (.iconst 0, 1) := by decide +kernel
theorem d_M_begin_22 : decode b_M_begin 22 = .ok (.iaload, 1) := by decide +kernel
theorem d_M_begin_23 : decode b_M_begin 23 = .ok (.iconst 1, 1) := by decide +kernel
theorem d_M_begin_24 : decode b_M_begin 24 = .ok (.if_icmp .eq 7, 3) := by decide +kernel
theorem d_M_begin_27 : decode b_M_begin 27 = .ok (.iconst 1, 1) := by decide +kernel
theorem d_M_begin_28 : decode b_M_begin 28 = .ok (.goto 4, 3) := by decide +kernel
theorem d_M_begin_31 : decode b_M_begin 31 = .ok (.iconst 0, 1) := by decide +kernel
theorem d_M_begin_32 : decode b_M_begin 32 = .ok (.putfield 141, 3) := by decide +kernel
theorem d_M_begin_35 : decode b_M_begin 35 = .ok (.aload_n 0, 1) := by decide +kernel
theorem d_M_begin_36 : decode b_M_begin 36 = .ok (.getfield 141, 3) := by decide +kernel
theorem d_M_begin_39 : decode b_M_begin 39 = .ok (.ifCond .le 5, 3) := by decide +kernel
theorem d_M_begin_42 : decode b_M_begin 42 = .ok (.iconst 0, 1) := by decide +kernel
theorem d_M_begin_43 : decode b_M_begin 43 = .ok (.ireturn, 1) := by decide +kernel
theorem d_M_begin_44 : decode b_M_begin 44 = .ok (.aload_n 0, 1) := by decide +kernel
theorem d_M_begin_45 : decode b_M_begin 45 = .ok (.iconst 1, 1) := by decide +kernel
theorem d_M_begin_46 : decode b_M_begin 46 = .ok (.putfield 258, 3) := by decide +kernel
theorem d_M_begin_49 : decode b_M_begin 49 = .ok (.aload_n 0, 1) := by decide +kernel
theorem d_M_begin_50 : decode b_M_begin 50 = .ok (.iconst 0, 1) := by decide +kernel
theorem d_M_begin_51 : decode b_M_begin 51 = .ok (.invokevirtual 227, 3) := by decide +kernel
theorem d_M_begin_54 : decode b_M_begin 54 = .ok (.iconst 1, 1) := by decide +kernel
theorem d_M_begin_55 : decode b_M_begin 55 = .ok (.ireturn, 1) := by decide +kernel
def f_M_begin_32  (S : St) (t0 : Int32) : Int32 × St :=
  lt (si S 1 0 0 1 t0) fun (S6 : St) =>
  if (S6.1 1 0 0 1) ≤ 0 then
    lt (si S6 1 0 0 3 (1 : Int32)) fun (S8 : St) =>
    lt (f_M_propose (0 : Int32) S8) fun (S11 : St) =>
    ((1 : Int32), S11)
  else
    ((0 : Int32), S6)
def ok_M_begin_32  (S : St) (t0 : Int32) : Prop :=
  lt (si S 1 0 0 1 t0) fun (S6 : St) =>
  ((S6.1 1 0 0 1) ≤ 0 → (
    lt (si S6 1 0 0 3 (1 : Int32)) fun (S8 : St) =>
    (ok_M_propose (0 : Int32) S8) ∧ (
      True))) ∧ (¬ ((S6.1 1 0 0 1) ≤ 0) → (
    True))
set_option maxHeartbeats 4000000 in
set_option maxRecDepth 100000 in
theorem w_M_begin_32 {l : Launch} {D : va_G} {X : va_W} {ad : N3 → Nat} {ca : Nat → ClassId}   {p : Program} {e : Env} {s : State} {m : MethodId} {below : List Frame} {meth : Method} {c : Code} {A : Nat → Prop} (hy : Hy p s m ([.ref (ad (1, 0, 0))] : List Value).toArray meth c b_M_begin 1 (some .boolean) R_M GG D clM (tysM ca) nwM) (hA : ∀ q, s.heap.size ≤ q → A q) {res : Int32 × St} : ∀  (S : St) (t0 : Int32) , ok_M_begin_32 S t0 → f_M_begin_32 S t0 = res → ∀ (H : Heap) (locs : List Loc) (ls : Array Slot), Wd D clM A s.heap (zw X ad TM (cfM ad ca) S) H locs → lv_has ls 1 [(0, .ref (ad (1, 0, 0)))] → W p l e { frames := 5, cells := 0, slots := 0, locals := 122 } s m ([.ref (ad (1, 0, 0))] : List Value).toArray below meth c H locs 0 0 (MQ below (eI D clM X ad TM (cfM ad ca) A res) ([.ref (ad (1, 0, 0))] : List Value).toArray s 0 0 A) (F0 m 32 ls [.int t0, .ref (ad (1, 0, 0))]) := by
  have hF := hy.1
  have hx := hF.1
  have hb := hF.2.1
  have hK := hy.2.2.2
  intro S t0 hk hr H locs ls hW hl
  obtain ⟨S6, eS6⟩ : ∃ z : St, z = si S 1 0 0 1 t0 := ⟨_, rfl⟩
  have hk := lt_p eS6 hk
  have hr := lt_e eS6 hr
  refine z_put (pc := 32) (S' := S6) hF hK.1 hW tm1 rfl rfl in_M t_M tyo_M nmo_M 1 (by decide) gw_885 rfl rfl rfl rfl rfl (Nat.le_of_ble_eq_true rfl) (zs_si eS6 rfl) (zs_sio eS6) d_M_begin_32 (fun H locs (hW : Wd D clM A s.heap (zw X ad TM (cfM ad ca) S6) H locs) => ?_)
  refine lv_aload_n (pc := 35) hx hb d_M_begin_35 rfl (lv_at hl 0 rfl) ?_
  refine z_get (pc := 36) (v := .int (S6.1 1 0 0 1)) hF hK.1 hW tm1 rfl rfl in_M 1 (by decide) gw_885 rfl rfl d_M_begin_36 ?_
  refine lv_if_le (pc := 39) (tgt := 44) hx hb d_M_begin_39 (by decide) (fun c7 => ?_) (fun c7 => ?_)
  · have hk := hk.1 c7
    have hr := (if_pos c7).symm.trans hr
    refine lv_aload_n (pc := 44) hx hb d_M_begin_44 rfl (lv_at hl 0 rfl) ?_
    refine lv_iconst (pc := 45) (v := 1) hx hb d_M_begin_45 (by decide) ?_
    obtain ⟨S8, eS8⟩ : ∃ z : St, z = si S6 1 0 0 3 (1 : Int32) := ⟨_, rfl⟩
    have hk := lt_p eS8 hk
    have hr := lt_e eS8 hr
    refine z_put (pc := 46) (S' := S8) hF hK.1 hW tm1 rfl rfl in_M t_M tyo_M nmo_M 3 (by decide) gw_887 rfl rfl rfl rfl rfl (Nat.le_of_ble_eq_true rfl) (zs_si eS8 rfl) (zs_sio eS8) d_M_begin_46 (fun H locs (hW : Wd D clM A s.heap (zw X ad TM (cfM ad ca) S8) H locs) => ?_)
    refine lv_aload_n (pc := 49) hx hb d_M_begin_49 rfl (lv_at hl 0 rfl) ?_
    refine lv_iconst (pc := 50) (v := 0) hx hb d_M_begin_50 (by decide) ?_
    have o9 := hk.1
    have hk := hk.2
    obtain ⟨S11, eS11⟩ : ∃ z : St, z = f_M_propose (0 : Int32) S8 := ⟨_, rfl⟩
    have hr := lt_e eS11 hr
    refine z_goV (pc := 51) hW hA eS11 (z_runV hF hK hW (c_M_propose l D X ad ca (0 : Int32) S8 o9 _) cd_M_propose gw_1097 tm1 rfl rfl ⟨Nat.le_of_ble_eq_true rfl, Nat.le_of_ble_eq_true rfl⟩ ⟨Nat.zero_le _, Nat.zero_le _⟩ rfl rfl hl.1 (Nat.le_of_ble_eq_true rfl) d_M_begin_51) (fun H locs (hW : Wd D clM A s.heap (zw X ad TM (cfM ad ca) S11) H locs) => ?_)
    refine lv_iconst (pc := 54) (v := 1) hx hb d_M_begin_54 (by decide) ?_
    exact z_zret (v := (1 : Int32)) hy hW rfl hr.symm d_M_begin_55
  · have hk := hk.2 c7
    have hr := (if_neg c7).symm.trans hr
    refine lv_iconst (pc := 42) (v := 0) hx hb d_M_begin_42 (by decide) ?_
    exact z_zret (v := (0 : Int32)) hy hW rfl hr.symm d_M_begin_43
def f_M_begin_27  (S : St)  : Int32 × St :=
  f_M_begin_32 S (1 : Int32)
def ok_M_begin_27  (S : St)  : Prop :=
  ok_M_begin_32 S (1 : Int32)
set_option maxHeartbeats 4000000 in
set_option maxRecDepth 100000 in
theorem w_M_begin_27 {l : Launch} {D : va_G} {X : va_W} {ad : N3 → Nat} {ca : Nat → ClassId}   {p : Program} {e : Env} {s : State} {m : MethodId} {below : List Frame} {meth : Method} {c : Code} {A : Nat → Prop} (hy : Hy p s m ([.ref (ad (1, 0, 0))] : List Value).toArray meth c b_M_begin 1 (some .boolean) R_M GG D clM (tysM ca) nwM) (hA : ∀ q, s.heap.size ≤ q → A q) {res : Int32 × St} : ∀  (S : St)  , ok_M_begin_27 S → f_M_begin_27 S = res → ∀ (H : Heap) (locs : List Loc) (ls : Array Slot), Wd D clM A s.heap (zw X ad TM (cfM ad ca) S) H locs → lv_has ls 1 [(0, .ref (ad (1, 0, 0)))] → W p l e { frames := 5, cells := 0, slots := 0, locals := 122 } s m ([.ref (ad (1, 0, 0))] : List Value).toArray below meth c H locs 0 0 (MQ below (eI D clM X ad TM (cfM ad ca) A res) ([.ref (ad (1, 0, 0))] : List Value).toArray s 0 0 A) (F0 m 27 ls [.ref (ad (1, 0, 0))]) := by
  have hF := hy.1
  have hx := hF.1
  have hb := hF.2.1
  have hK := hy.2.2.2
  intro S hk hr H locs ls hW hl
  refine lv_iconst (pc := 27) (v := 1) hx hb d_M_begin_27 (by decide) ?_
  refine lv_goto (pc := 28) (tgt := 32) hx hb d_M_begin_28 (by decide) ?_
  exact w_M_begin_32  hy hA S (1 : Int32) hk hr _ _ _ hW (lv_sub hl [0] rfl)
def f_M_begin  (S : St) : Int32 × St :=
  if (S.1 1 0 0 3) = 0 then
    if (S.1 11 0 0 0) = 0 then
      f_M_begin_27 S
    else
      if (S.1 12 0 0 0) = (1 : Int32) then
        f_M_begin_32 S (0 : Int32)
      else
        f_M_begin_27 S
  else
    f_M_begin_27 S
def ok_M_begin  (S : St) : Prop :=
  ((S.1 1 0 0 3) = 0 → (
    ((S.1 11 0 0 0) = 0 → (
      ok_M_begin_27 S)) ∧ (¬ ((S.1 11 0 0 0) = 0) → (
      ((S.1 12 0 0 0) = (1 : Int32) → (
        ok_M_begin_32 S (0 : Int32))) ∧ (¬ ((S.1 12 0 0 0) = (1 : Int32)) → (
        ok_M_begin_27 S)))))) ∧ (¬ ((S.1 1 0 0 3) = 0) → (
    ok_M_begin_27 S))
set_option maxHeartbeats 4000000 in
set_option maxRecDepth 100000 in
theorem c_M_begin (l : Launch) (D : va_G) (X : va_W) (ad : N3 → Nat) (ca : Nat → ClassId)   (S : St) (hk : ok_M_begin S) : cI l GG D clM (tysM ca) nwM X ad TM (cfM ad ca) y_M_begin b_M_begin 1 .boolean 5 122 [.ref (ad (1, 0, 0))] S (f_M_begin S) := by
  generalize hr : f_M_begin S = res
  refine zI_of pn_M (Nat.le_of_ble_eq_true rfl) (fun p e s m below meth c A ls hy hW hA hl => ?_)
  have hF := hy.1
  have hx := hF.1
  have hb := hF.2.1
  have hK := hy.2.2.2
  have hl : lv_has ls 1 [(0, .ref (ad (1, 0, 0)))] := hl
  refine lv_aload_n (pc := 0) hx hb d_M_begin_0 rfl (lv_at hl 0 rfl) ?_
  refine lv_aload_n (pc := 1) hx hb d_M_begin_1 rfl (lv_at hl 0 rfl) ?_
  refine z_get (pc := 2) (v := .int (S.1 1 0 0 3)) hF hK.1 hW tm1 rfl rfl in_M 3 (by decide) gw_887 rfl rfl d_M_begin_2 ?_
  refine lv_if_ne (pc := 5) (tgt := 27) hx hb d_M_begin_5 (by decide) (fun c1 => ?_) (fun c1 => ?_)
  · have hk := hk.2 c1
    have hr := (if_neg c1).symm.trans hr
    exact w_M_begin_27  hy hA S hk hr _ _ _ hW (lv_sub hl [0] rfl)
  · have hk := hk.1 c1
    have hr := (if_pos c1).symm.trans hr
    refine lv_aload_n (pc := 8) hx hb d_M_begin_8 rfl (lv_at hl 0 rfl) ?_
    refine z_get (pc := 9) (v := .ref (ad (11, 0, 0))) hF hK.1 hW tm1 rfl rfl in_M 16 (by decide) gw_900 rfl rfl d_M_begin_9 ?_
    refine lv_iconst (pc := 12) (v := 0) hx hb d_M_begin_12 (by decide) ?_
    have b2 : vp_in (0 : Int32) 4 := by unfold vp_in; decide
    refine z_zald (pc := 13) (v := S.1 11 0 0 0) hF hK.1 hW tm11 2 rfl rfl b2 rfl d_M_begin_13 ?_
    refine lv_if_eq (pc := 14) (tgt := 27) hx hb d_M_begin_14 (by decide) (fun c3 => ?_) (fun c3 => ?_)
    · have hk := hk.1 c3
      have hr := (if_pos c3).symm.trans hr
      exact w_M_begin_27  hy hA S hk hr _ _ _ hW (lv_sub hl [0] rfl)
    · have hk := hk.2 c3
      have hr := (if_neg c3).symm.trans hr
      refine lv_aload_n (pc := 17) hx hb d_M_begin_17 rfl (lv_at hl 0 rfl) ?_
      refine z_get (pc := 18) (v := .ref (ad (12, 0, 0))) hF hK.1 hW tm1 rfl rfl in_M 17 (by decide) gw_901 rfl rfl d_M_begin_18 ?_
      refine lv_iconst (pc := 21) (v := 0) hx hb d_M_begin_21 (by decide) ?_
      have b4 : vp_in (0 : Int32) 4 := by unfold vp_in; decide
      refine z_iald (pc := 22) (v := S.1 12 0 0 0) hF hK.1 hW tm12 0 rfl rfl b4 rfl d_M_begin_22 ?_
      refine lv_iconst (pc := 23) (v := 1) hx hb d_M_begin_23 (by decide) ?_
      refine lv_icmp_eq (pc := 24) (tgt := 31) hx hb d_M_begin_24 (by decide) (fun c5 => ?_) (fun c5 => ?_)
      · have hk := hk.1 c5
        have hr := (if_pos c5).symm.trans hr
        refine lv_iconst (pc := 31) (v := 0) hx hb d_M_begin_31 (by decide) ?_
        exact w_M_begin_32  hy hA S (0 : Int32) hk hr _ _ _ hW (lv_sub hl [0] rfl)
      · have hk := hk.2 c5
        have hr := (if_neg c5).symm.trans hr
        exact w_M_begin_27  hy hA S hk hr _ _ _ hW (lv_sub hl [0] rfl)
theorem d_M_disturb_0 : decode b_M_disturb 0 = .ok (.aload_n 0, 1) := by decide +kernel
theorem d_M_disturb_1 : decode b_M_disturb 1 = .ok (.iload_n 1, 1) := by decide +kernel
theorem d_M_disturb_2 : decode b_M_disturb 2 = .ok (.invokestatic 231, 3) := by decide +kernel
theorem d_M_disturb_5 : decode b_M_disturb 5 = .ok (.ifCond .eq 12, 3) := by decide +kernel
theorem d_M_disturb_8 : decode b_M_disturb 8 = .ok (.iload_n 2, 1) := by decide +kernel
theorem d_M_disturb_9 : decode b_M_disturb 9 = .ok (.ifCond .lt 8, 3) := by decide +kernel
theorem d_M_disturb_12 : decode b_M_disturb 12 = .ok (.iload_n 2, 1) := by decide +kernel
theorem d_M_disturb_13 : decode b_M_disturb 13 = .ok (.iconst 2, 1) := by decide +kernel
theorem d_M_disturb_14 : decode b_M_disturb 14 = .ok (.if_icmp .le 7, 3) := by decide +kernel
theorem d_M_disturb_17 : decode b_M_disturb 17 = .ok (.iconst 1, 1) := by decide +kernel
theorem d_M_disturb_18 : decode b_M_disturb 18 = .ok (.goto 33, 3) := by decide +kernel
theorem d_M_disturb_21 : decode b_M_disturb 21 = .ok (.aload_n 0, 1) := by decide +kernel
theorem d_M_disturb_22 : decode b_M_disturb 22 = .ok (.getfield 94, 3) := by decide +kernel
theorem d_M_disturb_25 : decode b_M_disturb 25 = .ok (.iload_n 1, 1) := by decide +kernel
theorem d_M_disturb_26 : decode b_M_disturb 26 = .ok (.iaload, 1) := by decide +kernel
theorem d_M_disturb_27 : decode b_M_disturb 27 = .ok (.ifCond .eq 19, 3) := by decide +kernel
theorem d_M_disturb_30 : decode b_M_disturb 30 = .ok (.iload_n 2, 1) := by decide +kernel
theorem d_M_disturb_31 : decode b_M_disturb 31 = .ok (.iconst 2, 1) := by decide +kernel
theorem d_M_disturb_32 : decode b_M_disturb 32 = .ok (.if_icmp .ne 18, 3) := by decide +kernel
theorem d_M_disturb_35 : decode b_M_disturb 35 = .ok (.aload_n 0, 1) := by decide +kernel
theorem d_M_disturb_36 : decode b_M_disturb 36 = .ok (.getfield 94, 3) := by decide +kernel
theorem d_M_disturb_39 : decode b_M_disturb 39 = .ok (.iload_n 1, 1) := by decide +kernel
theorem d_M_disturb_40 : decode b_M_disturb 40 = .ok (.iaload, 1) := by decide +kernel
theorem d_M_disturb_41 : decode b_M_disturb 41 = .ok (.bipush 16, 2) := by decide +kernel
theorem d_M_disturb_43 : decode b_M_disturb 43 = .ok (.if_icmp .ne 7, 3) := by decide +kernel
theorem d_M_disturb_46 : decode b_M_disturb 46 = .ok (.iconst 2, 1) := by decide +kernel
theorem d_M_disturb_47 : decode b_M_disturb 47 = .ok (.goto 4, 3) := by decide +kernel
theorem d_M_disturb_50 : decode b_M_disturb 50 = .ok (.iconst 0, 1) := by decide +kernel
theorem d_M_disturb_51 : decode b_M_disturb 51 = .ok (.putfield 141, 3) := by decide +kernel
theorem d_M_disturb_54 : decode b_M_disturb 54 = .ok (.aload_n 0, 1) := by decide +kernel
theorem d_M_disturb_55 : decode b_M_disturb 55 = .ok (.getfield 141, 3) := by decide +kernel
theorem d_M_disturb_58 : decode b_M_disturb 58 = .ok (.ifCond .le 5, 3) := by decide +kernel
theorem d_M_disturb_61 : decode b_M_disturb 61 = .ok (.iconst 0, 1) := by decide +kernel
theorem d_M_disturb_62 : decode b_M_disturb 62 = .ok (.ireturn, 1) := by decide +kernel
theorem d_M_disturb_63 : decode b_M_disturb 63 = .ok (.bipush 16, 2) := by decide +kernel
theorem d_M_disturb_65 : decode b_M_disturb 65 = .ok (.iload_n 1, 1) := by decide +kernel
theorem d_M_disturb_66 : decode b_M_disturb 66 = .ok (.imul, 1) := by decide +kernel
theorem d_M_disturb_67 : decode b_M_disturb 67 = .ok (.aload_n 0, 1) := by decide +kernel
theorem d_M_disturb_68 : decode b_M_disturb 68 = .ok (.getfield 94, 3) := by decide +kernel
theorem d_M_disturb_71 : decode b_M_disturb 71 = .ok (.iload_n 1, 1) := by decide +kernel
theorem d_M_disturb_72 : decode b_M_disturb 72 = .ok (.iaload, 1) := by decide +kernel
theorem d_M_disturb_73 : decode b_M_disturb 73 = .ok (.iadd, 1) := by decide +kernel
theorem d_M_disturb_74 : decode b_M_disturb 74 = .ok (.istore_n 3, 1) := by decide +kernel
theorem d_M_disturb_75 : decode b_M_disturb 75 = .ok (.iload_n 2, 1) := by decide +kernel
theorem d_M_disturb_76 : decode b_M_disturb 76 = .ok (.iconst 2, 1) := by decide +kernel
theorem d_M_disturb_77 : decode b_M_disturb 77 = .ok (.if_icmp .ne 25, 3) := by decide +kernel
theorem d_M_disturb_80 : decode b_M_disturb 80 = .ok (.aload_n 0, 1) := by decide +kernel
theorem d_M_disturb_81 : decode b_M_disturb 81 = .ok (.bipush 16, 2) := by decide +kernel
theorem d_M_disturb_83 : decode b_M_disturb 83 = .ok (.iload_n 1, 1) := by decide +kernel
theorem d_M_disturb_84 : decode b_M_disturb 84 = .ok (.imul, 1) := by decide +kernel
theorem d_M_disturb_85 : decode b_M_disturb 85 = .ok (.iload_n 3, 1) := by decide +kernel
theorem d_M_disturb_86 : decode b_M_disturb 86 = .ok (.invokevirtual 179, 3) := by decide +kernel
theorem d_M_disturb_89 : decode b_M_disturb 89 = .ok (.aload_n 0, 1) := by decide +kernel
theorem d_M_disturb_90 : decode b_M_disturb 90 = .ok (.getfield 94, 3) := by decide +kernel
theorem d_M_disturb_93 : decode b_M_disturb 93 = .ok (.iload_n 1, 1) := by decide +kernel
theorem d_M_disturb_94 : decode b_M_disturb 94 = .ok (.dup2, 1) := by decide +kernel
theorem d_M_disturb_95 : decode b_M_disturb 95 = .ok (.iaload, 1) := by decide +kernel
theorem d_M_disturb_96 : decode b_M_disturb 96 = .ok (.iconst 1, 1) := by decide +kernel
theorem d_M_disturb_97 : decode b_M_disturb 97 = .ok (.iadd, 1) := by decide +kernel
theorem d_M_disturb_98 : decode b_M_disturb 98 = .ok (.iastore, 1) := by decide +kernel
theorem d_M_disturb_99 : decode b_M_disturb 99 = .ok (.goto 119, 3) := by decide +kernel
theorem d_M_disturb_102 : decode b_M_disturb 102 = .ok (.aload_n 0, 1) := by decide +kernel
theorem d_M_disturb_103 : decode b_M_disturb 103 = .ok (.getfield 97, 3) := by decide +kernel
theorem d_M_disturb_106 : decode b_M_disturb 106 = .ok (.bipush 16, 2) := by decide +kernel
theorem d_M_disturb_108 : decode b_M_disturb 108 = .ok (.iload_n 1, 1) := by decide +kernel
theorem d_M_disturb_109 : decode b_M_disturb 109 = .ok (.imul, 1) := by decide +kernel
theorem d_M_disturb_110 : decode b_M_disturb 110 = .ok (.iaload, 1) := by decide +kernel
theorem d_M_disturb_111 : decode b_M_disturb 111 = .ok (.istore 4, 2) := by decide +kernel
theorem d_M_disturb_113 : decode b_M_disturb 113 = .ok (.aload_n 0, 1) := by decide +kernel
theorem d_M_disturb_114 : decode b_M_disturb 114 = .ok (.getfield 100, 3) := by decide +kernel
theorem d_M_disturb_117 : decode b_M_disturb 117 = .ok (.bipush 16, 2) := by decide +kernel
theorem d_M_disturb_119 : decode b_M_disturb 119 = .ok (.iload_n 1, 1) := by decide +kernel
theorem d_M_disturb_120 : decode b_M_disturb 120 = .ok (.imul, 1) := by decide +kernel
theorem d_M_disturb_121 : decode b_M_disturb 121 = .ok (.iaload, 1) := by decide +kernel
theorem d_M_disturb_122 : decode b_M_disturb 122 = .ok (.istore 5, 2) := by decide +kernel
theorem d_M_disturb_124 : decode b_M_disturb 124 = .ok (.aload_n 0, 1) := by decide +kernel
theorem d_M_disturb_125 : decode b_M_disturb 125 = .ok (.getfield 103, 3) := by decide +kernel
theorem d_M_disturb_128 : decode b_M_disturb 128 = .ok (.bipush 16, 2) := by decide +kernel
theorem d_M_disturb_130 : decode b_M_disturb 130 = .ok (.iload_n 1, 1) := by decide +kernel
theorem d_M_disturb_131 : decode b_M_disturb 131 = .ok (.imul, 1) := by decide +kernel
theorem d_M_disturb_132 : decode b_M_disturb 132 = .ok (.iaload, 1) := by decide +kernel
theorem d_M_disturb_133 : decode b_M_disturb 133 = .ok (.istore 6, 2) := by decide +kernel
theorem d_M_disturb_135 : decode b_M_disturb 135 = .ok (.aload_n 0, 1) := by decide +kernel
theorem d_M_disturb_136 : decode b_M_disturb 136 = .ok (.getfield 106, 3) := by decide +kernel
theorem d_M_disturb_139 : decode b_M_disturb 139 = .ok (.bipush 16, 2) := by decide +kernel
theorem d_M_disturb_141 : decode b_M_disturb 141 = .ok (.iload_n 1, 1) := by decide +kernel
theorem d_M_disturb_142 : decode b_M_disturb 142 = .ok (.imul, 1) := by decide +kernel
theorem d_M_disturb_143 : decode b_M_disturb 143 = .ok (.iaload, 1) := by decide +kernel
theorem d_M_disturb_144 : decode b_M_disturb 144 = .ok (.istore 7, 2) := by decide +kernel
theorem d_M_disturb_146 : decode b_M_disturb 146 = .ok (.aload_n 0, 1) := by decide +kernel
theorem d_M_disturb_147 : decode b_M_disturb 147 = .ok (.aload_n 0, 1) := by decide +kernel
theorem d_M_disturb_148 : decode b_M_disturb 148 = .ok (.getfield 109, 3) := by decide +kernel
theorem d_M_disturb_151 : decode b_M_disturb 151 = .ok (.bipush 16, 2) := by decide +kernel
theorem d_M_disturb_153 : decode b_M_disturb 153 = .ok (.iload_n 1, 1) := by decide +kernel
theorem d_M_disturb_154 : decode b_M_disturb 154 = .ok (.imul, 1) := by decide +kernel
theorem d_M_disturb_155 : decode b_M_disturb 155 = .ok (.iaload, 1) := by decide +kernel
theorem d_M_disturb_156 : decode b_M_disturb 156 = .ok (.putfield 167, 3) := by decide +kernel
theorem d_M_disturb_159 : decode b_M_disturb 159 = .ok (.iconst 0, 1) := by decide +kernel
theorem d_M_disturb_160 : decode b_M_disturb 160 = .ok (.istore 8, 2) := by decide +kernel
theorem d_M_disturb_162 : decode b_M_disturb 162 = .ok (.iload 8, 2) := by decide +kernel
theorem d_M_disturb_164 : decode b_M_disturb 164 = .ok (.bipush 11, 2) := by decide +kernel
theorem d_M_disturb_166 : decode b_M_disturb 166 = .ok (.if_icmp .ge 29, 3) := by decide +kernel
theorem d_M_disturb_169 : decode b_M_disturb 169 = .ok (.aload_n 0, 1) := by decide +kernel
theorem d_M_disturb_170 : decode b_M_disturb 170 = .ok (.getfield 115, 3) := by decide +kernel
theorem d_M_disturb_173 : decode b_M_disturb 173 = .ok (.iload 8, 2) := by decide +kernel
theorem d_M_disturb_175 : decode b_M_disturb 175 = .ok (.aload_n 0, 1) := by decide +kernel
theorem d_M_disturb_176 : decode b_M_disturb 176 = .ok (.getfield 112, 3) := by decide +kernel
theorem d_M_disturb_179 : decode b_M_disturb 179 = .ok (.sipush 176, 3) := by decide +kernel
theorem d_M_disturb_182 : decode b_M_disturb 182 = .ok (.iload_n 1, 1) := by decide +kernel
theorem d_M_disturb_183 : decode b_M_disturb 183 = .ok (.imul, 1) := by decide +kernel
theorem d_M_disturb_184 : decode b_M_disturb 184 = .ok (.iload 8, 2) := by decide +kernel
theorem d_M_disturb_186 : decode b_M_disturb 186 = .ok (.iadd, 1) := by decide +kernel
theorem d_M_disturb_187 : decode b_M_disturb 187 = .ok (.laload, 1) := by decide +kernel
theorem d_M_disturb_188 : decode b_M_disturb 188 = .ok (.lastore, 1) := by decide +kernel
theorem d_M_disturb_189 : decode b_M_disturb 189 = .ok (.iinc 8 1, 3) := by decide +kernel
theorem d_M_disturb_192 : decode b_M_disturb 192 = .ok (.goto (-30), 3) := by decide +kernel
theorem d_M_disturb_195 : decode b_M_disturb 195 = .ok (.aload_n 0, 1) := by decide +kernel
theorem d_M_disturb_196 : decode b_M_disturb 196 = .ok (.iload_n 1, 1) := by decide +kernel
theorem d_M_disturb_197 : decode b_M_disturb 197 = .ok (.invokevirtual 235, 3) := by decide +kernel
theorem d_M_disturb_200 : decode b_M_disturb 200 = .ok (.iload_n 2, 1) := by decide +kernel
theorem d_M_disturb_201 : decode b_M_disturb 201 = .ok (.iconst 1, 1) := by decide +kernel
theorem d_M_disturb_202 : decode b_M_disturb 202 = .ok (.if_icmp .ne 16, 3) := by decide +kernel
theorem d_M_disturb_205 : decode b_M_disturb 205 = .ok (.aload_n 0, 1) := by decide +kernel
theorem d_M_disturb_206 : decode b_M_disturb 206 = .ok (.iload 5, 2) := by decide +kernel
theorem d_M_disturb_208 : decode b_M_disturb 208 = .ok (.iload_n 1, 1) := by decide +kernel
theorem d_M_disturb_209 : decode b_M_disturb 209 = .ok (.iload 4, 2) := by decide +kernel
theorem d_M_disturb_211 : decode b_M_disturb 211 = .ok (.iload 6, 2) := by decide +kernel
theorem d_M_disturb_213 : decode b_M_disturb 213 = .ok (.iload 7, 2) := by decide +kernel
theorem d_M_disturb_215 : decode b_M_disturb 215 = .ok (.invokevirtual 201, 3) := by decide +kernel
theorem d_M_disturb_218 : decode b_M_disturb 218 = .ok (.iconst 1, 1) := by decide +kernel
theorem d_M_disturb_219 : decode b_M_disturb 219 = .ok (.ireturn, 1) := by decide +kernel
def f_M_disturb_162 (a1 : Int32) (a2 : Int32) : Nat → St → Int32 → Int32 → Int32 → Int32 → Int32 → Int32 × St
  | 0, S, _, _, _, _, _ => (0, S)
  | n + 1, S, l4, l5, l6, l7, l8 =>
    if (11 : Int32) ≤ l8 then
      lt (f_M_land a1 S) fun (S29 : St) =>
      if a2 = (1 : Int32) then
        lt (f_M_send l5 a1 l4 l6 l7 S29) fun (S33 : St) =>
        ((1 : Int32), S33)
      else
        ((1 : Int32), S29)
    else
      lt (sl S 35 0 0 (l8.toNatClampNeg) (S.2.1 34 0 0 (((176 : Int32) * a1) + l8).toNatClampNeg)) fun (S36 : St) =>
      f_M_disturb_162 a1 a2 n S36 l4 l5 l6 l7 (l8 + (1 : Int32))
def ok_M_disturb_162 (a1 : Int32) (a2 : Int32) : Nat → St → Int32 → Int32 → Int32 → Int32 → Int32 → Prop
  | 0, _, _, _, _, _, _ => False
  | n + 1, S, l4, l5, l6, l7, l8 =>
    ((11 : Int32) ≤ l8 → (
      (ok_M_land a1 S) ∧ (
        lt (f_M_land a1 S) fun (S29 : St) =>
        (a2 = (1 : Int32) → (
          (ok_M_send l5 a1 l4 l6 l7 S29) ∧ (
            True))) ∧ (¬ (a2 = (1 : Int32)) → (
          True))))) ∧ (¬ ((11 : Int32) ≤ l8) → (
      (vp_in (((176 : Int32) * a1) + l8) 704) ∧ (
        (vp_in l8 11) ∧ (
          lt (sl S 35 0 0 (l8.toNatClampNeg) (S.2.1 34 0 0 (((176 : Int32) * a1) + l8).toNatClampNeg)) fun (S36 : St) =>
          ok_M_disturb_162 a1 a2 n S36 l4 l5 l6 l7 (l8 + (1 : Int32))))))
set_option maxHeartbeats 4000000 in
set_option maxRecDepth 100000 in
theorem w_M_disturb_162 {l : Launch} {D : va_G} {X : va_W} {ad : N3 → Nat} {ca : Nat → ClassId} (a1 : Int32) (a2 : Int32)  {p : Program} {e : Env} {s : State} {m : MethodId} {below : List Frame} {meth : Method} {c : Code} {A : Nat → Prop} (hy : Hy p s m ([.ref (ad (1, 0, 0)), .int a1, .int a2] : List Value).toArray meth c b_M_disturb 9 (some .boolean) R_M GG D clM (tysM ca) nwM) (hA : ∀ q, s.heap.size ≤ q → A q) {res : Int32 × St} : ∀ (n : Nat) (S : St) (l4 : Int32) (l5 : Int32) (l6 : Int32) (l7 : Int32) (l8 : Int32) , ok_M_disturb_162 a1 a2 n S l4 l5 l6 l7 l8 → f_M_disturb_162 a1 a2 n S l4 l5 l6 l7 l8 = res → ∀ (H : Heap) (locs : List Loc) (ls : Array Slot), Wd D clM A s.heap (zw X ad TM (cfM ad ca) S) H locs → lv_has ls 9 [(0, .ref (ad (1, 0, 0))), (1, .int a1), (2, .int a2), (4, .int l4), (5, .int l5), (6, .int l6), (7, .int l7), (8, .int l8)] → W p l e { frames := 2, cells := 0, slots := 0, locals := 45 } s m ([.ref (ad (1, 0, 0)), .int a1, .int a2] : List Value).toArray below meth c H locs 0 0 (MQ below (eI D clM X ad TM (cfM ad ca) A res) ([.ref (ad (1, 0, 0)), .int a1, .int a2] : List Value).toArray s 0 0 A) (F0 m 162 ls []) := by
  have hF := hy.1
  have hx := hF.1
  have hb := hF.2.1
  have hK := hy.2.2.2
  intro n
  induction n with
  | zero =>
    intro S l4 l5 l6 l7 l8 hk
    exact hk.elim
  | succ n ih =>
    intro S l4 l5 l6 l7 l8 hk hr H locs ls hW hl
    refine lv_iload (pc := 162) hx hb d_M_disturb_162 (lv_at hl 7 rfl) ?_
    refine lv_bipush (pc := 164) (v := 11) hx hb d_M_disturb_164 (by decide) ?_
    refine lv_icmp_ge (pc := 166) (tgt := 195) hx hb d_M_disturb_166 (by decide) (fun c26 => ?_) (fun c26 => ?_)
    · have hk := hk.1 c26
      have hr := (if_pos c26).symm.trans hr
      refine lv_aload_n (pc := 195) hx hb d_M_disturb_195 rfl (lv_at hl 0 rfl) ?_
      refine lv_iload_n (pc := 196) hx hb d_M_disturb_196 rfl (lv_at hl 1 rfl) ?_
      have o27 := hk.1
      have hk := hk.2
      obtain ⟨S29, eS29⟩ : ∃ z : St, z = f_M_land a1 S := ⟨_, rfl⟩
      have hk := lt_p eS29 hk
      have hr := lt_e eS29 hr
      refine z_goV (pc := 197) hW hA eS29 (z_runV hF hK hW (c_M_land l D X ad ca a1 S o27 _) cd_M_land gw_1025 tm1 rfl rfl ⟨Nat.le_of_ble_eq_true rfl, Nat.le_of_ble_eq_true rfl⟩ ⟨Nat.zero_le _, Nat.zero_le _⟩ rfl rfl hl.1 (Nat.le_of_ble_eq_true rfl) d_M_disturb_197) (fun H locs (hW : Wd D clM A s.heap (zw X ad TM (cfM ad ca) S29) H locs) => ?_)
      refine lv_iload_n (pc := 200) hx hb d_M_disturb_200 rfl (lv_at hl 2 rfl) ?_
      refine lv_iconst (pc := 201) (v := 1) hx hb d_M_disturb_201 (by decide) ?_
      refine lv_icmp_ne (pc := 202) (tgt := 218) hx hb d_M_disturb_202 (by decide) (fun c30 => ?_) (fun c30 => ?_)
      · have hk := hk.2 c30
        have hr := (if_neg c30).symm.trans hr
        refine lv_iconst (pc := 218) (v := 1) hx hb d_M_disturb_218 (by decide) ?_
        exact z_zret (v := (1 : Int32)) hy hW rfl hr.symm d_M_disturb_219
      · have hk := hk.1 c30
        have hr := (if_pos c30).symm.trans hr
        refine lv_aload_n (pc := 205) hx hb d_M_disturb_205 rfl (lv_at hl 0 rfl) ?_
        refine lv_iload (pc := 206) hx hb d_M_disturb_206 (lv_at hl 4 rfl) ?_
        refine lv_iload_n (pc := 208) hx hb d_M_disturb_208 rfl (lv_at hl 1 rfl) ?_
        refine lv_iload (pc := 209) hx hb d_M_disturb_209 (lv_at hl 3 rfl) ?_
        refine lv_iload (pc := 211) hx hb d_M_disturb_211 (lv_at hl 5 rfl) ?_
        refine lv_iload (pc := 213) hx hb d_M_disturb_213 (lv_at hl 6 rfl) ?_
        have o31 := hk.1
        have hk := hk.2
        obtain ⟨S33, eS33⟩ : ∃ z : St, z = f_M_send l5 a1 l4 l6 l7 S29 := ⟨_, rfl⟩
        have hr := lt_e eS33 hr
        refine z_goV (pc := 215) hW hA eS33 (z_runV hF hK hW (c_M_send l D X ad ca l5 a1 l4 l6 l7 S29 o31 _) cd_M_send gw_1033 tm1 rfl rfl ⟨Nat.le_of_ble_eq_true rfl, Nat.le_of_ble_eq_true rfl⟩ ⟨Nat.zero_le _, Nat.zero_le _⟩ rfl rfl hl.1 (Nat.le_of_ble_eq_true rfl) d_M_disturb_215) (fun H locs (hW : Wd D clM A s.heap (zw X ad TM (cfM ad ca) S33) H locs) => ?_)
        refine lv_iconst (pc := 218) (v := 1) hx hb d_M_disturb_218 (by decide) ?_
        exact z_zret (v := (1 : Int32)) hy hW rfl hr.symm d_M_disturb_219
    · have hk := hk.2 c26
      have hr := (if_neg c26).symm.trans hr
      refine lv_aload_n (pc := 169) hx hb d_M_disturb_169 rfl (lv_at hl 0 rfl) ?_
      refine z_get (pc := 170) (v := .ref (ad (35, 0, 0))) hF hK.1 hW tm1 rfl rfl in_M 41 (by decide) gw_925 rfl rfl d_M_disturb_170 ?_
      refine lv_iload (pc := 173) hx hb d_M_disturb_173 (lv_at hl 7 rfl) ?_
      refine lv_aload_n (pc := 175) hx hb d_M_disturb_175 rfl (lv_at hl 0 rfl) ?_
      refine z_get (pc := 176) (v := .ref (ad (34, 0, 0))) hF hK.1 hW tm1 rfl rfl in_M 39 (by decide) gw_923 rfl rfl d_M_disturb_176 ?_
      refine lv_sipush (pc := 179) (v := 176) hx hb d_M_disturb_179 (by decide) ?_
      refine lv_iload_n (pc := 182) hx hb d_M_disturb_182 rfl (lv_at hl 1 rfl) ?_
      refine lv_imul (pc := 183) hx hb d_M_disturb_183 ?_
      refine lv_iload (pc := 184) hx hb d_M_disturb_184 (lv_at hl 7 rfl) ?_
      refine lv_iadd (pc := 186) hx hb d_M_disturb_186 ?_
      have b34 := hk.1
      have hk := hk.2
      refine z_lald (pc := 187) (v := S.2.1 34 0 0 (((176 : Int32) * a1) + l8).toNatClampNeg) hF hK.1 hW tm34 1 rfl rfl b34 rfl d_M_disturb_187 ?_
      have b35 := hk.1
      have hk := hk.2
      obtain ⟨S36, eS36⟩ : ∃ z : St, z = sl S 35 0 0 (l8.toNatClampNeg) (S.2.1 34 0 0 (((176 : Int32) * a1) + l8).toNatClampNeg) := ⟨_, rfl⟩
      have hk := lt_p eS36 hk
      have hr := lt_e eS36 hr
      refine z_last (pc := 188) (S' := S36) hF hK.1 hW tm35 1 rfl rfl b35 (zs_sl eS36 rfl) (zs_slo eS36) d_M_disturb_188 (fun H locs (hW : Wd D clM A s.heap (zw X ad TM (cfM ad ca) S36) H locs) => ?_)
      refine lv_iinc (pc := 189) (v := l8 + (1 : Int32)) (lv' := [(8, .int (l8 + (1 : Int32))), (0, .ref (ad (1, 0, 0))), (1, .int a1), (2, .int a2), (4, .int l4), (5, .int l5), (6, .int l6), (7, .int l7)]) (k := 7) hx hb d_M_disturb_189 hl rfl (z_inc (by decide)) (by decide) rfl (fun ls hl => ?_)
      refine lv_goto (pc := 192) (tgt := 162) hx hb d_M_disturb_192 (by decide) ?_
      exact ih S36 l4 l5 l6 l7 (l8 + (1 : Int32)) hk hr _ _ _ hW (lv_sub hl [1, 2, 3, 4, 5, 6, 7, 0] rfl)
def f_M_disturb_51 (a1 : Int32) (a2 : Int32) (S : St) (t0 : Int32) : Int32 × St :=
  lt (si S 1 0 0 1 t0) fun (S10 : St) =>
  if (S10.1 1 0 0 1) ≤ 0 then
    if a2 = (2 : Int32) then
      lt (f_M_copyMessage ((16 : Int32) * a1) (((16 : Int32) * a1) + (S10.1 28 0 0 a1.toNatClampNeg)) S10) fun (S22 : St) =>
      lt (si S22 28 0 0 (a1.toNatClampNeg) ((S22.1 28 0 0 a1.toNatClampNeg) + (1 : Int32))) fun (S25 : St) =>
      ((1 : Int32), S25)
    else
      lt (si S10 1 0 0 40 (S10.1 33 0 0 ((16 : Int32) * a1).toNatClampNeg)) fun (S19 : St) =>
      f_M_disturb_162 a1 a2 200 S19 (S10.1 29 0 0 ((16 : Int32) * a1).toNatClampNeg) (S10.1 30 0 0 ((16 : Int32) * a1).toNatClampNeg) (S10.1 31 0 0 ((16 : Int32) * a1).toNatClampNeg) (S10.1 32 0 0 ((16 : Int32) * a1).toNatClampNeg) (0 : Int32)
  else
    ((0 : Int32), S10)
def ok_M_disturb_51 (a1 : Int32) (a2 : Int32) (S : St) (t0 : Int32) : Prop :=
  lt (si S 1 0 0 1 t0) fun (S10 : St) =>
  ((S10.1 1 0 0 1) ≤ 0 → (
    (vp_in a1 4) ∧ (
      (a2 = (2 : Int32) → (
        (ok_M_copyMessage ((16 : Int32) * a1) (((16 : Int32) * a1) + (S10.1 28 0 0 a1.toNatClampNeg)) S10) ∧ (
          lt (f_M_copyMessage ((16 : Int32) * a1) (((16 : Int32) * a1) + (S10.1 28 0 0 a1.toNatClampNeg)) S10) fun (S22 : St) =>
          (vp_in a1 4) ∧ (
            (vp_in a1 4) ∧ (
              True))))) ∧ (¬ (a2 = (2 : Int32)) → (
        (vp_in ((16 : Int32) * a1) 64) ∧ (
          (vp_in ((16 : Int32) * a1) 64) ∧ (
            (vp_in ((16 : Int32) * a1) 64) ∧ (
              (vp_in ((16 : Int32) * a1) 64) ∧ (
                (vp_in ((16 : Int32) * a1) 64) ∧ (
                  lt (si S10 1 0 0 40 (S10.1 33 0 0 ((16 : Int32) * a1).toNatClampNeg)) fun (S19 : St) =>
                  ok_M_disturb_162 a1 a2 200 S19 (S10.1 29 0 0 ((16 : Int32) * a1).toNatClampNeg) (S10.1 30 0 0 ((16 : Int32) * a1).toNatClampNeg) (S10.1 31 0 0 ((16 : Int32) * a1).toNatClampNeg) (S10.1 32 0 0 ((16 : Int32) * a1).toNatClampNeg) (0 : Int32))))))))))) ∧ (¬ ((S10.1 1 0 0 1) ≤ 0) → (
    True))
set_option maxHeartbeats 4000000 in
set_option maxRecDepth 100000 in
theorem w_M_disturb_51 {l : Launch} {D : va_G} {X : va_W} {ad : N3 → Nat} {ca : Nat → ClassId} (a1 : Int32) (a2 : Int32)  {p : Program} {e : Env} {s : State} {m : MethodId} {below : List Frame} {meth : Method} {c : Code} {A : Nat → Prop} (hy : Hy p s m ([.ref (ad (1, 0, 0)), .int a1, .int a2] : List Value).toArray meth c b_M_disturb 9 (some .boolean) R_M GG D clM (tysM ca) nwM) (hA : ∀ q, s.heap.size ≤ q → A q) {res : Int32 × St} : ∀  (S : St) (t0 : Int32) , ok_M_disturb_51 a1 a2 S t0 → f_M_disturb_51 a1 a2 S t0 = res → ∀ (H : Heap) (locs : List Loc) (ls : Array Slot), Wd D clM A s.heap (zw X ad TM (cfM ad ca) S) H locs → lv_has ls 9 [(0, .ref (ad (1, 0, 0))), (1, .int a1), (2, .int a2)] → W p l e { frames := 2, cells := 0, slots := 0, locals := 45 } s m ([.ref (ad (1, 0, 0)), .int a1, .int a2] : List Value).toArray below meth c H locs 0 0 (MQ below (eI D clM X ad TM (cfM ad ca) A res) ([.ref (ad (1, 0, 0)), .int a1, .int a2] : List Value).toArray s 0 0 A) (F0 m 51 ls [.int t0, .ref (ad (1, 0, 0))]) := by
  have hF := hy.1
  have hx := hF.1
  have hb := hF.2.1
  have hK := hy.2.2.2
  intro S t0 hk hr H locs ls hW hl
  obtain ⟨S10, eS10⟩ : ∃ z : St, z = si S 1 0 0 1 t0 := ⟨_, rfl⟩
  have hk := lt_p eS10 hk
  have hr := lt_e eS10 hr
  refine z_put (pc := 51) (S' := S10) hF hK.1 hW tm1 rfl rfl in_M t_M tyo_M nmo_M 1 (by decide) gw_885 rfl rfl rfl rfl rfl (Nat.le_of_ble_eq_true rfl) (zs_si eS10 rfl) (zs_sio eS10) d_M_disturb_51 (fun H locs (hW : Wd D clM A s.heap (zw X ad TM (cfM ad ca) S10) H locs) => ?_)
  refine lv_aload_n (pc := 54) hx hb d_M_disturb_54 rfl (lv_at hl 0 rfl) ?_
  refine z_get (pc := 55) (v := .int (S10.1 1 0 0 1)) hF hK.1 hW tm1 rfl rfl in_M 1 (by decide) gw_885 rfl rfl d_M_disturb_55 ?_
  refine lv_if_le (pc := 58) (tgt := 63) hx hb d_M_disturb_58 (by decide) (fun c11 => ?_) (fun c11 => ?_)
  · have hk := hk.1 c11
    have hr := (if_pos c11).symm.trans hr
    refine lv_bipush (pc := 63) (v := 16) hx hb d_M_disturb_63 (by decide) ?_
    refine lv_iload_n (pc := 65) hx hb d_M_disturb_65 rfl (lv_at hl 1 rfl) ?_
    refine lv_imul (pc := 66) hx hb d_M_disturb_66 ?_
    refine lv_aload_n (pc := 67) hx hb d_M_disturb_67 rfl (lv_at hl 0 rfl) ?_
    refine z_get (pc := 68) (v := .ref (ad (28, 0, 0))) hF hK.1 hW tm1 rfl rfl in_M 33 (by decide) gw_917 rfl rfl d_M_disturb_68 ?_
    refine lv_iload_n (pc := 71) hx hb d_M_disturb_71 rfl (lv_at hl 1 rfl) ?_
    have b12 := hk.1
    have hk := hk.2
    refine z_iald (pc := 72) (v := S10.1 28 0 0 a1.toNatClampNeg) hF hK.1 hW tm28 0 rfl rfl b12 rfl d_M_disturb_72 ?_
    refine lv_iadd (pc := 73) hx hb d_M_disturb_73 ?_
    refine lv_istore_n (pc := 74) (lv' := [(3, .int (((16 : Int32) * a1) + (S10.1 28 0 0 a1.toNatClampNeg))), (0, .ref (ad (1, 0, 0))), (1, .int a1), (2, .int a2)]) hx hb d_M_disturb_74 rfl hl (by decide) rfl (fun ls hl => ?_)
    refine lv_iload_n (pc := 75) hx hb d_M_disturb_75 rfl (lv_at hl 3 rfl) ?_
    refine lv_iconst (pc := 76) (v := 2) hx hb d_M_disturb_76 (by decide) ?_
    refine lv_icmp_ne (pc := 77) (tgt := 102) hx hb d_M_disturb_77 (by decide) (fun c13 => ?_) (fun c13 => ?_)
    · have hk := hk.2 c13
      have hr := (if_neg c13).symm.trans hr
      refine lv_aload_n (pc := 102) hx hb d_M_disturb_102 rfl (lv_at hl 1 rfl) ?_
      refine z_get (pc := 103) (v := .ref (ad (29, 0, 0))) hF hK.1 hW tm1 rfl rfl in_M 34 (by decide) gw_918 rfl rfl d_M_disturb_103 ?_
      refine lv_bipush (pc := 106) (v := 16) hx hb d_M_disturb_106 (by decide) ?_
      refine lv_iload_n (pc := 108) hx hb d_M_disturb_108 rfl (lv_at hl 2 rfl) ?_
      refine lv_imul (pc := 109) hx hb d_M_disturb_109 ?_
      have b14 := hk.1
      have hk := hk.2
      refine z_iald (pc := 110) (v := S10.1 29 0 0 ((16 : Int32) * a1).toNatClampNeg) hF hK.1 hW tm29 0 rfl rfl b14 rfl d_M_disturb_110 ?_
      refine lv_istore (pc := 111) (lv' := [(4, .int (S10.1 29 0 0 ((16 : Int32) * a1).toNatClampNeg)), (3, .int (((16 : Int32) * a1) + (S10.1 28 0 0 a1.toNatClampNeg))), (0, .ref (ad (1, 0, 0))), (1, .int a1), (2, .int a2)]) hx hb d_M_disturb_111 hl (by decide) rfl (fun ls hl => ?_)
      refine lv_aload_n (pc := 113) hx hb d_M_disturb_113 rfl (lv_at hl 2 rfl) ?_
      refine z_get (pc := 114) (v := .ref (ad (30, 0, 0))) hF hK.1 hW tm1 rfl rfl in_M 35 (by decide) gw_919 rfl rfl d_M_disturb_114 ?_
      refine lv_bipush (pc := 117) (v := 16) hx hb d_M_disturb_117 (by decide) ?_
      refine lv_iload_n (pc := 119) hx hb d_M_disturb_119 rfl (lv_at hl 3 rfl) ?_
      refine lv_imul (pc := 120) hx hb d_M_disturb_120 ?_
      have b15 := hk.1
      have hk := hk.2
      refine z_iald (pc := 121) (v := S10.1 30 0 0 ((16 : Int32) * a1).toNatClampNeg) hF hK.1 hW tm30 0 rfl rfl b15 rfl d_M_disturb_121 ?_
      refine lv_istore (pc := 122) (lv' := [(5, .int (S10.1 30 0 0 ((16 : Int32) * a1).toNatClampNeg)), (4, .int (S10.1 29 0 0 ((16 : Int32) * a1).toNatClampNeg)), (3, .int (((16 : Int32) * a1) + (S10.1 28 0 0 a1.toNatClampNeg))), (0, .ref (ad (1, 0, 0))), (1, .int a1), (2, .int a2)]) hx hb d_M_disturb_122 hl (by decide) rfl (fun ls hl => ?_)
      refine lv_aload_n (pc := 124) hx hb d_M_disturb_124 rfl (lv_at hl 3 rfl) ?_
      refine z_get (pc := 125) (v := .ref (ad (31, 0, 0))) hF hK.1 hW tm1 rfl rfl in_M 36 (by decide) gw_920 rfl rfl d_M_disturb_125 ?_
      refine lv_bipush (pc := 128) (v := 16) hx hb d_M_disturb_128 (by decide) ?_
      refine lv_iload_n (pc := 130) hx hb d_M_disturb_130 rfl (lv_at hl 4 rfl) ?_
      refine lv_imul (pc := 131) hx hb d_M_disturb_131 ?_
      have b16 := hk.1
      have hk := hk.2
      refine z_iald (pc := 132) (v := S10.1 31 0 0 ((16 : Int32) * a1).toNatClampNeg) hF hK.1 hW tm31 0 rfl rfl b16 rfl d_M_disturb_132 ?_
      refine lv_istore (pc := 133) (lv' := [(6, .int (S10.1 31 0 0 ((16 : Int32) * a1).toNatClampNeg)), (5, .int (S10.1 30 0 0 ((16 : Int32) * a1).toNatClampNeg)), (4, .int (S10.1 29 0 0 ((16 : Int32) * a1).toNatClampNeg)), (3, .int (((16 : Int32) * a1) + (S10.1 28 0 0 a1.toNatClampNeg))), (0, .ref (ad (1, 0, 0))), (1, .int a1), (2, .int a2)]) hx hb d_M_disturb_133 hl (by decide) rfl (fun ls hl => ?_)
      refine lv_aload_n (pc := 135) hx hb d_M_disturb_135 rfl (lv_at hl 4 rfl) ?_
      refine z_get (pc := 136) (v := .ref (ad (32, 0, 0))) hF hK.1 hW tm1 rfl rfl in_M 37 (by decide) gw_921 rfl rfl d_M_disturb_136 ?_
      refine lv_bipush (pc := 139) (v := 16) hx hb d_M_disturb_139 (by decide) ?_
      refine lv_iload_n (pc := 141) hx hb d_M_disturb_141 rfl (lv_at hl 5 rfl) ?_
      refine lv_imul (pc := 142) hx hb d_M_disturb_142 ?_
      have b17 := hk.1
      have hk := hk.2
      refine z_iald (pc := 143) (v := S10.1 32 0 0 ((16 : Int32) * a1).toNatClampNeg) hF hK.1 hW tm32 0 rfl rfl b17 rfl d_M_disturb_143 ?_
      refine lv_istore (pc := 144) (lv' := [(7, .int (S10.1 32 0 0 ((16 : Int32) * a1).toNatClampNeg)), (6, .int (S10.1 31 0 0 ((16 : Int32) * a1).toNatClampNeg)), (5, .int (S10.1 30 0 0 ((16 : Int32) * a1).toNatClampNeg)), (4, .int (S10.1 29 0 0 ((16 : Int32) * a1).toNatClampNeg)), (3, .int (((16 : Int32) * a1) + (S10.1 28 0 0 a1.toNatClampNeg))), (0, .ref (ad (1, 0, 0))), (1, .int a1), (2, .int a2)]) hx hb d_M_disturb_144 hl (by decide) rfl (fun ls hl => ?_)
      refine lv_aload_n (pc := 146) hx hb d_M_disturb_146 rfl (lv_at hl 5 rfl) ?_
      refine lv_aload_n (pc := 147) hx hb d_M_disturb_147 rfl (lv_at hl 5 rfl) ?_
      refine z_get (pc := 148) (v := .ref (ad (33, 0, 0))) hF hK.1 hW tm1 rfl rfl in_M 38 (by decide) gw_922 rfl rfl d_M_disturb_148 ?_
      refine lv_bipush (pc := 151) (v := 16) hx hb d_M_disturb_151 (by decide) ?_
      refine lv_iload_n (pc := 153) hx hb d_M_disturb_153 rfl (lv_at hl 6 rfl) ?_
      refine lv_imul (pc := 154) hx hb d_M_disturb_154 ?_
      have b18 := hk.1
      have hk := hk.2
      refine z_iald (pc := 155) (v := S10.1 33 0 0 ((16 : Int32) * a1).toNatClampNeg) hF hK.1 hW tm33 0 rfl rfl b18 rfl d_M_disturb_155 ?_
      obtain ⟨S19, eS19⟩ : ∃ z : St, z = si S10 1 0 0 40 (S10.1 33 0 0 ((16 : Int32) * a1).toNatClampNeg) := ⟨_, rfl⟩
      have hk := lt_p eS19 hk
      have hr := lt_e eS19 hr
      refine z_put (pc := 156) (S' := S19) hF hK.1 hW tm1 rfl rfl in_M t_M tyo_M nmo_M 40 (by decide) gw_924 rfl rfl rfl rfl rfl (Nat.le_of_ble_eq_true rfl) (zs_si eS19 rfl) (zs_sio eS19) d_M_disturb_156 (fun H locs (hW : Wd D clM A s.heap (zw X ad TM (cfM ad ca) S19) H locs) => ?_)
      refine lv_iconst (pc := 159) (v := 0) hx hb d_M_disturb_159 (by decide) ?_
      refine lv_istore (pc := 160) (lv' := [(8, .int (0 : Int32)), (7, .int (S10.1 32 0 0 ((16 : Int32) * a1).toNatClampNeg)), (6, .int (S10.1 31 0 0 ((16 : Int32) * a1).toNatClampNeg)), (5, .int (S10.1 30 0 0 ((16 : Int32) * a1).toNatClampNeg)), (4, .int (S10.1 29 0 0 ((16 : Int32) * a1).toNatClampNeg)), (3, .int (((16 : Int32) * a1) + (S10.1 28 0 0 a1.toNatClampNeg))), (0, .ref (ad (1, 0, 0))), (1, .int a1), (2, .int a2)]) hx hb d_M_disturb_160 hl (by decide) rfl (fun ls hl => ?_)
      exact w_M_disturb_162 a1 a2 hy hA 200 S19 (S10.1 29 0 0 ((16 : Int32) * a1).toNatClampNeg) (S10.1 30 0 0 ((16 : Int32) * a1).toNatClampNeg) (S10.1 31 0 0 ((16 : Int32) * a1).toNatClampNeg) (S10.1 32 0 0 ((16 : Int32) * a1).toNatClampNeg) (0 : Int32) hk hr _ _ _ hW (lv_sub hl [6, 7, 8, 4, 3, 2, 1, 0] rfl)
    · have hk := hk.1 c13
      have hr := (if_pos c13).symm.trans hr
      refine lv_aload_n (pc := 80) hx hb d_M_disturb_80 rfl (lv_at hl 1 rfl) ?_
      refine lv_bipush (pc := 81) (v := 16) hx hb d_M_disturb_81 (by decide) ?_
      refine lv_iload_n (pc := 83) hx hb d_M_disturb_83 rfl (lv_at hl 2 rfl) ?_
      refine lv_imul (pc := 84) hx hb d_M_disturb_84 ?_
      refine lv_iload_n (pc := 85) hx hb d_M_disturb_85 rfl (lv_at hl 0 rfl) ?_
      have o20 := hk.1
      have hk := hk.2
      obtain ⟨S22, eS22⟩ : ∃ z : St, z = f_M_copyMessage ((16 : Int32) * a1) (((16 : Int32) * a1) + (S10.1 28 0 0 a1.toNatClampNeg)) S10 := ⟨_, rfl⟩
      have hk := lt_p eS22 hk
      have hr := lt_e eS22 hr
      refine z_goV (pc := 86) hW hA eS22 (z_runV hF hK hW (c_M_copyMessage l D X ad ca ((16 : Int32) * a1) (((16 : Int32) * a1) + (S10.1 28 0 0 a1.toNatClampNeg)) S10 o20 _) cd_M_copyMessage gw_1029 tm1 rfl rfl ⟨Nat.le_of_ble_eq_true rfl, Nat.le_of_ble_eq_true rfl⟩ ⟨Nat.zero_le _, Nat.zero_le _⟩ rfl rfl hl.1 (Nat.le_of_ble_eq_true rfl) d_M_disturb_86) (fun H locs (hW : Wd D clM A s.heap (zw X ad TM (cfM ad ca) S22) H locs) => ?_)
      refine lv_aload_n (pc := 89) hx hb d_M_disturb_89 rfl (lv_at hl 1 rfl) ?_
      refine z_get (pc := 90) (v := .ref (ad (28, 0, 0))) hF hK.1 hW tm1 rfl rfl in_M 33 (by decide) gw_917 rfl rfl d_M_disturb_90 ?_
      refine lv_iload_n (pc := 93) hx hb d_M_disturb_93 rfl (lv_at hl 2 rfl) ?_
      refine lv_dup2_11 (pc := 94) hx hb d_M_disturb_94 rfl rfl ?_
      have b23 := hk.1
      have hk := hk.2
      refine z_iald (pc := 95) (v := S22.1 28 0 0 a1.toNatClampNeg) hF hK.1 hW tm28 0 rfl rfl b23 rfl d_M_disturb_95 ?_
      refine lv_iconst (pc := 96) (v := 1) hx hb d_M_disturb_96 (by decide) ?_
      refine lv_iadd (pc := 97) hx hb d_M_disturb_97 ?_
      have b24 := hk.1
      have hk := hk.2
      obtain ⟨S25, eS25⟩ : ∃ z : St, z = si S22 28 0 0 (a1.toNatClampNeg) ((S22.1 28 0 0 a1.toNatClampNeg) + (1 : Int32)) := ⟨_, rfl⟩
      have hr := lt_e eS25 hr
      refine z_iast (pc := 98) (S' := S25) hF hK.1 hW tm28 0 rfl rfl b24 (zs_si eS25 rfl) (zs_sio eS25) d_M_disturb_98 (fun H locs (hW : Wd D clM A s.heap (zw X ad TM (cfM ad ca) S25) H locs) => ?_)
      refine lv_goto (pc := 99) (tgt := 218) hx hb d_M_disturb_99 (by decide) ?_
      refine lv_iconst (pc := 218) (v := 1) hx hb d_M_disturb_218 (by decide) ?_
      exact z_zret (v := (1 : Int32)) hy hW rfl hr.symm d_M_disturb_219
  · have hk := hk.2 c11
    have hr := (if_neg c11).symm.trans hr
    refine lv_iconst (pc := 61) (v := 0) hx hb d_M_disturb_61 (by decide) ?_
    exact z_zret (v := (0 : Int32)) hy hW rfl hr.symm d_M_disturb_62
def f_M_disturb_17 (a1 : Int32) (a2 : Int32) (S : St)  : Int32 × St :=
  f_M_disturb_51 a1 a2 S (1 : Int32)
def ok_M_disturb_17 (a1 : Int32) (a2 : Int32) (S : St)  : Prop :=
  ok_M_disturb_51 a1 a2 S (1 : Int32)
set_option maxHeartbeats 4000000 in
set_option maxRecDepth 100000 in
theorem w_M_disturb_17 {l : Launch} {D : va_G} {X : va_W} {ad : N3 → Nat} {ca : Nat → ClassId} (a1 : Int32) (a2 : Int32)  {p : Program} {e : Env} {s : State} {m : MethodId} {below : List Frame} {meth : Method} {c : Code} {A : Nat → Prop} (hy : Hy p s m ([.ref (ad (1, 0, 0)), .int a1, .int a2] : List Value).toArray meth c b_M_disturb 9 (some .boolean) R_M GG D clM (tysM ca) nwM) (hA : ∀ q, s.heap.size ≤ q → A q) {res : Int32 × St} : ∀  (S : St)  , ok_M_disturb_17 a1 a2 S → f_M_disturb_17 a1 a2 S = res → ∀ (H : Heap) (locs : List Loc) (ls : Array Slot), Wd D clM A s.heap (zw X ad TM (cfM ad ca) S) H locs → lv_has ls 9 [(0, .ref (ad (1, 0, 0))), (1, .int a1), (2, .int a2)] → W p l e { frames := 2, cells := 0, slots := 0, locals := 45 } s m ([.ref (ad (1, 0, 0)), .int a1, .int a2] : List Value).toArray below meth c H locs 0 0 (MQ below (eI D clM X ad TM (cfM ad ca) A res) ([.ref (ad (1, 0, 0)), .int a1, .int a2] : List Value).toArray s 0 0 A) (F0 m 17 ls [.ref (ad (1, 0, 0))]) := by
  have hF := hy.1
  have hx := hF.1
  have hb := hF.2.1
  have hK := hy.2.2.2
  intro S hk hr H locs ls hW hl
  refine lv_iconst (pc := 17) (v := 1) hx hb d_M_disturb_17 (by decide) ?_
  refine lv_goto (pc := 18) (tgt := 51) hx hb d_M_disturb_18 (by decide) ?_
  exact w_M_disturb_51 a1 a2 hy hA S (1 : Int32) hk hr _ _ _ hW (lv_sub hl [0, 1, 2] rfl)
def f_M_disturb_46 (a1 : Int32) (a2 : Int32) (S : St)  : Int32 × St :=
  f_M_disturb_51 a1 a2 S (2 : Int32)
def ok_M_disturb_46 (a1 : Int32) (a2 : Int32) (S : St)  : Prop :=
  ok_M_disturb_51 a1 a2 S (2 : Int32)
set_option maxHeartbeats 4000000 in
set_option maxRecDepth 100000 in
theorem w_M_disturb_46 {l : Launch} {D : va_G} {X : va_W} {ad : N3 → Nat} {ca : Nat → ClassId} (a1 : Int32) (a2 : Int32)  {p : Program} {e : Env} {s : State} {m : MethodId} {below : List Frame} {meth : Method} {c : Code} {A : Nat → Prop} (hy : Hy p s m ([.ref (ad (1, 0, 0)), .int a1, .int a2] : List Value).toArray meth c b_M_disturb 9 (some .boolean) R_M GG D clM (tysM ca) nwM) (hA : ∀ q, s.heap.size ≤ q → A q) {res : Int32 × St} : ∀  (S : St)  , ok_M_disturb_46 a1 a2 S → f_M_disturb_46 a1 a2 S = res → ∀ (H : Heap) (locs : List Loc) (ls : Array Slot), Wd D clM A s.heap (zw X ad TM (cfM ad ca) S) H locs → lv_has ls 9 [(0, .ref (ad (1, 0, 0))), (1, .int a1), (2, .int a2)] → W p l e { frames := 2, cells := 0, slots := 0, locals := 45 } s m ([.ref (ad (1, 0, 0)), .int a1, .int a2] : List Value).toArray below meth c H locs 0 0 (MQ below (eI D clM X ad TM (cfM ad ca) A res) ([.ref (ad (1, 0, 0)), .int a1, .int a2] : List Value).toArray s 0 0 A) (F0 m 46 ls [.ref (ad (1, 0, 0))]) := by
  have hF := hy.1
  have hx := hF.1
  have hb := hF.2.1
  have hK := hy.2.2.2
  intro S hk hr H locs ls hW hl
  refine lv_iconst (pc := 46) (v := 2) hx hb d_M_disturb_46 (by decide) ?_
  refine lv_goto (pc := 47) (tgt := 51) hx hb d_M_disturb_47 (by decide) ?_
  exact w_M_disturb_51 a1 a2 hy hA S (2 : Int32) hk hr _ _ _ hW (lv_sub hl [0, 1, 2] rfl)
def f_M_disturb_50 (a1 : Int32) (a2 : Int32) (S : St)  : Int32 × St :=
  f_M_disturb_51 a1 a2 S (0 : Int32)
def ok_M_disturb_50 (a1 : Int32) (a2 : Int32) (S : St)  : Prop :=
  ok_M_disturb_51 a1 a2 S (0 : Int32)
set_option maxHeartbeats 4000000 in
set_option maxRecDepth 100000 in
theorem w_M_disturb_50 {l : Launch} {D : va_G} {X : va_W} {ad : N3 → Nat} {ca : Nat → ClassId} (a1 : Int32) (a2 : Int32)  {p : Program} {e : Env} {s : State} {m : MethodId} {below : List Frame} {meth : Method} {c : Code} {A : Nat → Prop} (hy : Hy p s m ([.ref (ad (1, 0, 0)), .int a1, .int a2] : List Value).toArray meth c b_M_disturb 9 (some .boolean) R_M GG D clM (tysM ca) nwM) (hA : ∀ q, s.heap.size ≤ q → A q) {res : Int32 × St} : ∀  (S : St)  , ok_M_disturb_50 a1 a2 S → f_M_disturb_50 a1 a2 S = res → ∀ (H : Heap) (locs : List Loc) (ls : Array Slot), Wd D clM A s.heap (zw X ad TM (cfM ad ca) S) H locs → lv_has ls 9 [(0, .ref (ad (1, 0, 0))), (1, .int a1), (2, .int a2)] → W p l e { frames := 2, cells := 0, slots := 0, locals := 45 } s m ([.ref (ad (1, 0, 0)), .int a1, .int a2] : List Value).toArray below meth c H locs 0 0 (MQ below (eI D clM X ad TM (cfM ad ca) A res) ([.ref (ad (1, 0, 0)), .int a1, .int a2] : List Value).toArray s 0 0 A) (F0 m 50 ls [.ref (ad (1, 0, 0))]) := by
  have hF := hy.1
  have hx := hF.1
  have hb := hF.2.1
  have hK := hy.2.2.2
  intro S hk hr H locs ls hW hl
  refine lv_iconst (pc := 50) (v := 0) hx hb d_M_disturb_50 (by decide) ?_
  exact w_M_disturb_51 a1 a2 hy hA S (0 : Int32) hk hr _ _ _ hW (lv_sub hl [0, 1, 2] rfl)
def f_M_disturb (a1 : Int32) (a2 : Int32) (S : St) : Int32 × St :=
  lt (f_M_isNode a1 S) fun (r1 : Int32) =>
  if r1 = 0 then
    f_M_disturb_17 a1 a2 S
  else
    if a2 < 0 then
      f_M_disturb_17 a1 a2 S
    else
      if a2 ≤ (2 : Int32) then
        if (S.1 28 0 0 a1.toNatClampNeg) = 0 then
          f_M_disturb_46 a1 a2 S
        else
          if a2 = (2 : Int32) then
            if (S.1 28 0 0 a1.toNatClampNeg) = (16 : Int32) then
              f_M_disturb_46 a1 a2 S
            else
              f_M_disturb_50 a1 a2 S
          else
            f_M_disturb_50 a1 a2 S
      else
        f_M_disturb_17 a1 a2 S
def ok_M_disturb (a1 : Int32) (a2 : Int32) (S : St) : Prop :=
  lt (f_M_isNode a1 S) fun (r1 : Int32) =>
  (r1 = 0 → (
    ok_M_disturb_17 a1 a2 S)) ∧ (¬ (r1 = 0) → (
    (a2 < 0 → (
      ok_M_disturb_17 a1 a2 S)) ∧ (¬ (a2 < 0) → (
      (a2 ≤ (2 : Int32) → (
        (vp_in a1 4) ∧ (
          ((S.1 28 0 0 a1.toNatClampNeg) = 0 → (
            ok_M_disturb_46 a1 a2 S)) ∧ (¬ ((S.1 28 0 0 a1.toNatClampNeg) = 0) → (
            (a2 = (2 : Int32) → (
              (vp_in a1 4) ∧ (
                ((S.1 28 0 0 a1.toNatClampNeg) = (16 : Int32) → (
                  ok_M_disturb_46 a1 a2 S)) ∧ (¬ ((S.1 28 0 0 a1.toNatClampNeg) = (16 : Int32)) → (
                  ok_M_disturb_50 a1 a2 S))))) ∧ (¬ (a2 = (2 : Int32)) → (
              ok_M_disturb_50 a1 a2 S))))))) ∧ (¬ (a2 ≤ (2 : Int32)) → (
        ok_M_disturb_17 a1 a2 S))))))
set_option maxHeartbeats 4000000 in
set_option maxRecDepth 100000 in
theorem c_M_disturb (l : Launch) (D : va_G) (X : va_W) (ad : N3 → Nat) (ca : Nat → ClassId) (a1 : Int32) (a2 : Int32)  (S : St) (hk : ok_M_disturb a1 a2 S) : cI l GG D clM (tysM ca) nwM X ad TM (cfM ad ca) y_M_disturb b_M_disturb 9 .boolean 2 45 [.ref (ad (1, 0, 0)), .int a1, .int a2] S (f_M_disturb a1 a2 S) := by
  generalize hr : f_M_disturb a1 a2 S = res
  refine zI_of pn_M (Nat.le_of_ble_eq_true rfl) (fun p e s m below meth c A ls hy hW hA hl => ?_)
  have hF := hy.1
  have hx := hF.1
  have hb := hF.2.1
  have hK := hy.2.2.2
  have hl : lv_has ls 9 [(0, .ref (ad (1, 0, 0))), (1, .int a1), (2, .int a2)] := hl
  refine lv_aload_n (pc := 0) hx hb d_M_disturb_0 rfl (lv_at hl 0 rfl) ?_
  refine lv_iload_n (pc := 1) hx hb d_M_disturb_1 rfl (lv_at hl 1 rfl) ?_
  obtain ⟨r1, er1⟩ : ∃ z : Int32, z = f_M_isNode a1 S := ⟨_, rfl⟩
  have hk := lt_p er1 hk
  have hr := lt_e er1 hr
  refine p_go (pc := 2) (congrArg Value.int er1) (p_runS hF hK hW (c_M_isNode l D X ad ca a1 S _) cd_M_isNode gw_1022 ⟨Nat.le_of_ble_eq_true rfl, Nat.le_of_ble_eq_true rfl⟩ ⟨Nat.zero_le _, Nat.zero_le _⟩ rfl rfl hl.1 (Nat.le_of_ble_eq_true rfl) d_M_disturb_2) ?_
  refine lv_if_eq (pc := 5) (tgt := 17) hx hb d_M_disturb_5 (by decide) (fun c2 => ?_) (fun c2 => ?_)
  · have hk := hk.1 c2
    have hr := (if_pos c2).symm.trans hr
    exact w_M_disturb_17 a1 a2 hy hA S hk hr _ _ _ hW (lv_sub hl [0, 1, 2] rfl)
  · have hk := hk.2 c2
    have hr := (if_neg c2).symm.trans hr
    refine lv_iload_n (pc := 8) hx hb d_M_disturb_8 rfl (lv_at hl 2 rfl) ?_
    refine lv_if_lt (pc := 9) (tgt := 17) hx hb d_M_disturb_9 (by decide) (fun c3 => ?_) (fun c3 => ?_)
    · have hk := hk.1 c3
      have hr := (if_pos c3).symm.trans hr
      exact w_M_disturb_17 a1 a2 hy hA S hk hr _ _ _ hW (lv_sub hl [0, 1, 2] rfl)
    · have hk := hk.2 c3
      have hr := (if_neg c3).symm.trans hr
      refine lv_iload_n (pc := 12) hx hb d_M_disturb_12 rfl (lv_at hl 2 rfl) ?_
      refine lv_iconst (pc := 13) (v := 2) hx hb d_M_disturb_13 (by decide) ?_
      refine lv_icmp_le (pc := 14) (tgt := 21) hx hb d_M_disturb_14 (by decide) (fun c4 => ?_) (fun c4 => ?_)
      · have hk := hk.1 c4
        have hr := (if_pos c4).symm.trans hr
        refine lv_aload_n (pc := 21) hx hb d_M_disturb_21 rfl (lv_at hl 0 rfl) ?_
        refine z_get (pc := 22) (v := .ref (ad (28, 0, 0))) hF hK.1 hW tm1 rfl rfl in_M 33 (by decide) gw_917 rfl rfl d_M_disturb_22 ?_
        refine lv_iload_n (pc := 25) hx hb d_M_disturb_25 rfl (lv_at hl 1 rfl) ?_
        have b5 := hk.1
        have hk := hk.2
        refine z_iald (pc := 26) (v := S.1 28 0 0 a1.toNatClampNeg) hF hK.1 hW tm28 0 rfl rfl b5 rfl d_M_disturb_26 ?_
        refine lv_if_eq (pc := 27) (tgt := 46) hx hb d_M_disturb_27 (by decide) (fun c6 => ?_) (fun c6 => ?_)
        · have hk := hk.1 c6
          have hr := (if_pos c6).symm.trans hr
          exact w_M_disturb_46 a1 a2 hy hA S hk hr _ _ _ hW (lv_sub hl [0, 1, 2] rfl)
        · have hk := hk.2 c6
          have hr := (if_neg c6).symm.trans hr
          refine lv_iload_n (pc := 30) hx hb d_M_disturb_30 rfl (lv_at hl 2 rfl) ?_
          refine lv_iconst (pc := 31) (v := 2) hx hb d_M_disturb_31 (by decide) ?_
          refine lv_icmp_ne (pc := 32) (tgt := 50) hx hb d_M_disturb_32 (by decide) (fun c7 => ?_) (fun c7 => ?_)
          · have hk := hk.2 c7
            have hr := (if_neg c7).symm.trans hr
            exact w_M_disturb_50 a1 a2 hy hA S hk hr _ _ _ hW (lv_sub hl [0, 1, 2] rfl)
          · have hk := hk.1 c7
            have hr := (if_pos c7).symm.trans hr
            refine lv_aload_n (pc := 35) hx hb d_M_disturb_35 rfl (lv_at hl 0 rfl) ?_
            refine z_get (pc := 36) (v := .ref (ad (28, 0, 0))) hF hK.1 hW tm1 rfl rfl in_M 33 (by decide) gw_917 rfl rfl d_M_disturb_36 ?_
            refine lv_iload_n (pc := 39) hx hb d_M_disturb_39 rfl (lv_at hl 1 rfl) ?_
            have b8 := hk.1
            have hk := hk.2
            refine z_iald (pc := 40) (v := S.1 28 0 0 a1.toNatClampNeg) hF hK.1 hW tm28 0 rfl rfl b8 rfl d_M_disturb_40 ?_
            refine lv_bipush (pc := 41) (v := 16) hx hb d_M_disturb_41 (by decide) ?_
            refine lv_icmp_ne (pc := 43) (tgt := 50) hx hb d_M_disturb_43 (by decide) (fun c9 => ?_) (fun c9 => ?_)
            · have hk := hk.2 c9
              have hr := (if_neg c9).symm.trans hr
              exact w_M_disturb_50 a1 a2 hy hA S hk hr _ _ _ hW (lv_sub hl [0, 1, 2] rfl)
            · have hk := hk.1 c9
              have hr := (if_pos c9).symm.trans hr
              exact w_M_disturb_46 a1 a2 hy hA S hk hr _ _ _ hW (lv_sub hl [0, 1, 2] rfl)
      · have hk := hk.2 c4
        have hr := (if_neg c4).symm.trans hr
        exact w_M_disturb_17 a1 a2 hy hA S hk hr _ _ _ hW (lv_sub hl [0, 1, 2] rfl)
