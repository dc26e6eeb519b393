theorem d_M_lieVote_0 : decode b_M_lieVote 0 = .ok (.aload_n 0, 1) := by decide +kernel
theorem d_M_lieVote_1 : decode b_M_lieVote 1 = .ok (.iload_n 1, 1) := by decide +kernel
theorem d_M_lieVote_2 : decode b_M_lieVote 2 = .ok (.invokestatic 231, 3) := by decide +kernel
theorem d_M_lieVote_5 : decode b_M_lieVote 5 = .ok (.ifCond .eq 11, 3) := by decide +kernel
theorem d_M_lieVote_8 : decode b_M_lieVote 8 = .ok (.aload_n 0, 1) := by decide +kernel
theorem d_M_lieVote_9 : decode b_M_lieVote 9 = .ok (.iload_n 2, 1) := by decide +kernel
theorem d_M_lieVote_10 : decode b_M_lieVote 10 = .ok (.invokevirtual 262, 3) := by decide +kernel
theorem d_M_lieVote_13 : decode b_M_lieVote 13 = .ok (.ifCond .ne 7, 3) := by decide +kernel
theorem d_M_lieVote_16 : decode b_M_lieVote 16 = .ok (.iconst 1, 1) := by decide +kernel
theorem d_M_lieVote_17 : decode b_M_lieVote 17 = .ok (.goto 32, 3) := by decide +kernel
theorem d_M_lieVote_20 : decode b_M_lieVote 20 = .ok (.aload_n 0, 1) := by decide +kernel
theorem d_M_lieVote_21 : decode b_M_lieVote 21 = .ok (.getfield 43, 3) := by decide +kernel
theorem d_M_lieVote_24 : decode b_M_lieVote 24 = .ok (.iconst 3, 1) := by decide +kernel
theorem d_M_lieVote_25 : decode b_M_lieVote 25 = .ok (.baload, 1) := by decide +kernel
theorem d_M_lieVote_26 : decode b_M_lieVote 26 = .ok (.ifCond .eq 18, 3) := by decide +kernel
theorem d_M_lieVote_29 : decode b_M_lieVote 29 = .ok (.aload_n 0, 1) := by decide +kernel
theorem d_M_lieVote_30 : decode b_M_lieVote 30 = .ok (.getfield 64, 3) := by decide +kernel
theorem d_M_lieVote_33 : decode b_M_lieVote 33 = .ok (.iconst 3, 1) := by decide +kernel
theorem d_M_lieVote_34 : decode b_M_lieVote 34 = .ok (.iaload, 1) := by decide +kernel
theorem d_M_lieVote_35 : decode b_M_lieVote 35 = .ok (.bipush 32, 2) := by decide +kernel
theorem d_M_lieVote_37 : decode b_M_lieVote 37 = .ok (.if_icmp .eq 7, 3) := by decide +kernel
theorem d_M_lieVote_40 : decode b_M_lieVote 40 = .ok (.iload_n 2, 1) := by decide +kernel
theorem d_M_lieVote_41 : decode b_M_lieVote 41 = .ok (.ifCond .ne 7, 3) := by decide +kernel
theorem d_M_lieVote_44 : decode b_M_lieVote 44 = .ok (.iconst 2, 1) := by decide +kernel
theorem d_M_lieVote_45 : decode b_M_lieVote 45 = .ok (.goto 4, 3) := by decide +kernel
theorem d_M_lieVote_48 : decode b_M_lieVote 48 = .ok (.iconst 0, 1) := by decide +kernel
theorem d_M_lieVote_49 : decode b_M_lieVote 49 = .ok (.putfield 141, 3) := by decide +kernel
theorem d_M_lieVote_52 : decode b_M_lieVote 52 = .ok (.aload_n 0, 1) := by decide +kernel
theorem d_M_lieVote_53 : decode b_M_lieVote 53 = .ok (.getfield 141, 3) := by decide +kernel
theorem d_M_lieVote_56 : decode b_M_lieVote 56 = .ok (.ifCond .le 5, 3) := by decide +kernel
theorem d_M_lieVote_59 : decode b_M_lieVote 59 = .ok (.iconst 0, 1) := by decide +kernel
theorem d_M_lieVote_60 : decode b_M_lieVote 60 = .ok (.ireturn, 1) := by decide +kernel
theorem d_M_lieVote_61 : decode b_M_lieVote 61 = .ok (.aload_n 0, 1) := by decide +kernel
theorem d_M_lieVote_62 : decode b_M_lieVote 62 = .ok (.iconst 3, 1) := by decide +kernel
theorem d_M_lieVote_63 : decode b_M_lieVote 63 = .ok (.aload_n 0, 1) := by decide +kernel
theorem d_M_lieVote_64 : decode b_M_lieVote 64 = .ok (.iconst 2, 1) := by decide +kernel
theorem d_M_lieVote_65 : decode b_M_lieVote 65 = .ok (.iconst 0, 1) := by decide +kernel
theorem d_M_lieVote_66 : decode b_M_lieVote 66 = .ok (.iload_n 2, 1) := by decide +kernel
theorem d_M_lieVote_67 : decode b_M_lieVote 67 = .ok (.invokevirtual 194, 3) := by decide +kernel
theorem d_M_lieVote_70 : decode b_M_lieVote 70 = .ok (.invokevirtual 197, 3) := by decide +kernel
theorem d_M_lieVote_73 : decode b_M_lieVote 73 = .ok (.istore_n 3, 1) := by decide +kernel
theorem d_M_lieVote_74 : decode b_M_lieVote 74 = .ok (.iload_n 3, 1) := by decide +kernel
theorem d_M_lieVote_75 : decode b_M_lieVote 75 = .ok (.ifCond .eq 12, 3) := by decide +kernel
theorem d_M_lieVote_78 : decode b_M_lieVote 78 = .ok (.aload_n 0, 1) := by decide +kernel
theorem d_M_lieVote_79 : decode b_M_lieVote 79 = .ok (.iconst 3, 1) := by decide +kernel
theorem d_M_lieVote_80 : decode b_M_lieVote 80 = .ok (.iload_n 1, 1) := by decide +kernel
theorem d_M_lieVote_81 : decode b_M_lieVote 81 = .ok (.iconst 2, 1) := by decide +kernel
theorem d_M_lieVote_82 : decode b_M_lieVote 82 = .ok (.iload_n 2, 1) := by decide +kernel
theorem d_M_lieVote_83 : decode b_M_lieVote 83 = .ok (.iconst 0, 1) := by decide +kernel
theorem d_M_lieVote_84 : decode b_M_lieVote 84 = .ok (.invokevirtual 201, 3) := by decide +kernel
theorem d_M_lieVote_87 : decode b_M_lieVote 87 = .ok (.iconst 1, 1) := by decide +kernel
theorem d_M_lieVote_88 : decode b_M_lieVote 88 = .ok (.ireturn, 1) := by decide +kernel
def f_M_lieVote_49 (a1 : Int32) (a2 : Int32) (S : St) (t0 : Int32) : Int32 × St :=
  lt (si S 1 0 0 1 t0) fun (S10 : St) =>
  if (S10.1 1 0 0 1) ≤ 0 then
    lt (f_M_meant (2 : Int32) (0 : Int32) a2 S10) fun (r12 : Int64 × St) =>
    lt (f_M_signs (3 : Int32) r12.1 r12.2) fun (r14 : Int32 × St) =>
    if r14.1 = 0 then
      ((1 : Int32), r14.2)
    else
      lt (f_M_send (3 : Int32) a1 (2 : Int32) a2 (0 : Int32) r14.2) fun (S18 : St) =>
      ((1 : Int32), S18)
  else
    ((0 : Int32), S10)
def ok_M_lieVote_49 (a1 : Int32) (a2 : Int32) (S : St) (t0 : Int32) : Prop :=
  lt (si S 1 0 0 1 t0) fun (S10 : St) =>
  ((S10.1 1 0 0 1) ≤ 0 → (
    lt (f_M_meant (2 : Int32) (0 : Int32) a2 S10) fun (r12 : Int64 × St) =>
    (ok_M_signs (3 : Int32) r12.1 r12.2) ∧ (
      lt (f_M_signs (3 : Int32) r12.1 r12.2) fun (r14 : Int32 × St) =>
      (r14.1 = 0 → (
        True)) ∧ (¬ (r14.1 = 0) → (
        (ok_M_send (3 : Int32) a1 (2 : Int32) a2 (0 : Int32) r14.2) ∧ (
          True)))))) ∧ (¬ ((S10.1 1 0 0 1) ≤ 0) → (
    True))
set_option maxHeartbeats 4000000 in
set_option maxRecDepth 100000 in
theorem w_M_lieVote_49 {l : Launch} {D : va_G} {X : va_W} {ad : N3 → Nat} {ca : Nat → ClassId} (a1 : Int32) (a2 : Int32)  {p : Program} {e : Env} {s : State} {m : MethodId} {below : List Frame} {meth : Method} {c : Code} {A : Nat → Prop} (hy : Hy p s m ([.ref (ad (1, 0, 0)), .int a1, .int a2] : List Value).toArray meth c b_M_lieVote 4 (some .boolean) R_M GG D clM (tysM ca) nwM) (hA : ∀ q, s.heap.size ≤ q → A q) {res : Int32 × St} : ∀  (S : St) (t0 : Int32) , ok_M_lieVote_49 a1 a2 S t0 → f_M_lieVote_49 a1 a2 S t0 = res → ∀ (H : Heap) (locs : List Loc) (ls : Array Slot), Wd D clM A s.heap (zw X ad TM (cfM ad ca) S) H locs → lv_has ls 4 [(0, .ref (ad (1, 0, 0))), (1, .int a1), (2, .int a2)] → W p l e { frames := 4, cells := 0, slots := 0, locals := 98 } s m ([.ref (ad (1, 0, 0)), .int a1, .int a2] : List Value).toArray below meth c H locs 0 0 (MQ below (eI D clM X ad TM (cfM ad ca) A res) ([.ref (ad (1, 0, 0)), .int a1, .int a2] : List Value).toArray s 0 0 A) (F0 m 49 ls [.int t0, .ref (ad (1, 0, 0))]) := by
  have hF := hy.1
  have hx := hF.1
  have hb := hF.2.1
  have hK := hy.2.2.2
  intro S t0 hk hr H locs ls hW hl
  obtain ⟨S10, eS10⟩ : ∃ z : St, z = si S 1 0 0 1 t0 := ⟨_, rfl⟩
  have hk := lt_p eS10 hk
  have hr := lt_e eS10 hr
  refine z_put (pc := 49) (S' := S10) hF hK.1 hW tm1 rfl rfl in_M t_M tyo_M nmo_M 1 (by decide) gw_885 rfl rfl rfl rfl rfl (Nat.le_of_ble_eq_true rfl) (zs_si eS10 rfl) (zs_sio eS10) d_M_lieVote_49 (fun H locs (hW : Wd D clM A s.heap (zw X ad TM (cfM ad ca) S10) H locs) => ?_)
  refine lv_aload_n (pc := 52) hx hb d_M_lieVote_52 rfl (lv_at hl 0 rfl) ?_
  refine z_get (pc := 53) (v := .int (S10.1 1 0 0 1)) hF hK.1 hW tm1 rfl rfl in_M 1 (by decide) gw_885 rfl rfl d_M_lieVote_53 ?_
  refine lv_if_le (pc := 56) (tgt := 61) hx hb d_M_lieVote_56 (by decide) (fun c11 => ?_) (fun c11 => ?_)
  · have hk := hk.1 c11
    have hr := (if_pos c11).symm.trans hr
    refine lv_aload_n (pc := 61) hx hb d_M_lieVote_61 rfl (lv_at hl 0 rfl) ?_
    refine lv_iconst (pc := 62) (v := 3) hx hb d_M_lieVote_62 (by decide) ?_
    refine lv_aload_n (pc := 63) hx hb d_M_lieVote_63 rfl (lv_at hl 0 rfl) ?_
    refine lv_iconst (pc := 64) (v := 2) hx hb d_M_lieVote_64 (by decide) ?_
    refine lv_iconst (pc := 65) (v := 0) hx hb d_M_lieVote_65 (by decide) ?_
    refine lv_iload_n (pc := 66) hx hb d_M_lieVote_66 rfl (lv_at hl 2 rfl) ?_
    obtain ⟨r12, er12⟩ : ∃ z : Int64 × St, z = f_M_meant (2 : Int32) (0 : Int32) a2 S10 := ⟨_, rfl⟩
    have hk := lt_p er12 hk
    have hr := lt_e er12 hr
    refine z_goL (pc := 67) hW hA (show (r12.1, r12.2) = _ from er12) (z_runV hF hK hW (c_M_meant l D X ad ca (2 : Int32) (0 : Int32) a2 S10 _) cd_M_meant gw_1041 tm1 rfl rfl ⟨Nat.le_of_ble_eq_true rfl, Nat.le_of_ble_eq_true rfl⟩ ⟨Nat.zero_le _, Nat.zero_le _⟩ rfl rfl hl.1 (Nat.le_of_ble_eq_true rfl) d_M_lieVote_67) (fun H locs (hW : Wd D clM A s.heap (zw X ad TM (cfM ad ca) r12.2) H locs) => ?_)
    have o13 := hk.1
    have hk := hk.2
    obtain ⟨r14, er14⟩ : ∃ z : Int32 × St, z = f_M_signs (3 : Int32) r12.1 r12.2 := ⟨_, rfl⟩
    have hk := lt_p er14 hk
    have hr := lt_e er14 hr
    refine z_goI (pc := 70) hW hA (show (r14.1, r14.2) = _ from er14) (z_runV hF hK hW (c_M_signs l D X ad ca (3 : Int32) r12.1 r12.2 o13 _) cd_M_signs gw_1086 tm1 rfl rfl ⟨Nat.le_of_ble_eq_true rfl, Nat.le_of_ble_eq_true rfl⟩ ⟨Nat.zero_le _, Nat.zero_le _⟩ rfl rfl hl.1 (Nat.le_of_ble_eq_true rfl) d_M_lieVote_70) (fun H locs (hW : Wd D clM A s.heap (zw X ad TM (cfM ad ca) r14.2) H locs) => ?_)
    refine lv_istore_n (pc := 73) (lv' := [(3, .int r14.1), (0, .ref (ad (1, 0, 0))), (1, .int a1), (2, .int a2)]) hx hb d_M_lieVote_73 rfl hl (by decide) rfl (fun ls hl => ?_)
    refine lv_iload_n (pc := 74) hx hb d_M_lieVote_74 rfl (lv_at hl 0 rfl) ?_
    refine lv_if_eq (pc := 75) (tgt := 87) hx hb d_M_lieVote_75 (by decide) (fun c15 => ?_) (fun c15 => ?_)
    · have hk := hk.1 c15
      have hr := (if_pos c15).symm.trans hr
      refine lv_iconst (pc := 87) (v := 1) hx hb d_M_lieVote_87 (by decide) ?_
      exact z_zret (v := (1 : Int32)) hy hW rfl hr.symm d_M_lieVote_88
    · have hk := hk.2 c15
      have hr := (if_neg c15).symm.trans hr
      refine lv_aload_n (pc := 78) hx hb d_M_lieVote_78 rfl (lv_at hl 1 rfl) ?_
      refine lv_iconst (pc := 79) (v := 3) hx hb d_M_lieVote_79 (by decide) ?_
      refine lv_iload_n (pc := 80) hx hb d_M_lieVote_80 rfl (lv_at hl 2 rfl) ?_
      refine lv_iconst (pc := 81) (v := 2) hx hb d_M_lieVote_81 (by decide) ?_
      refine lv_iload_n (pc := 82) hx hb d_M_lieVote_82 rfl (lv_at hl 3 rfl) ?_
      refine lv_iconst (pc := 83) (v := 0) hx hb d_M_lieVote_83 (by decide) ?_
      have o16 := hk.1
      have hk := hk.2
      obtain ⟨S18, eS18⟩ : ∃ z : St, z = f_M_send (3 : Int32) a1 (2 : Int32) a2 (0 : Int32) r14.2 := ⟨_, rfl⟩
      have hr := lt_e eS18 hr
      refine z_goV (pc := 84) hW hA eS18 (z_runV hF hK hW (c_M_send l D X ad ca (3 : Int32) a1 (2 : Int32) a2 (0 : Int32) r14.2 o16 _) cd_M_send gw_1033 tm1 rfl rfl ⟨Nat.le_of_ble_eq_true rfl, Nat.le_of_ble_eq_true rfl⟩ ⟨Nat.zero_le _, Nat.zero_le _⟩ rfl rfl hl.1 (Nat.le_of_ble_eq_true rfl) d_M_lieVote_84) (fun H locs (hW : Wd D clM A s.heap (zw X ad TM (cfM ad ca) S18) H locs) => ?_)
      refine lv_iconst (pc := 87) (v := 1) hx hb d_M_lieVote_87 (by decide) ?_
      exact z_zret (v := (1 : Int32)) hy hW rfl hr.symm d_M_lieVote_88
  · have hk := hk.2 c11
    have hr := (if_neg c11).symm.trans hr
    refine lv_iconst (pc := 59) (v := 0) hx hb d_M_lieVote_59 (by decide) ?_
    exact z_zret (v := (0 : Int32)) hy hW rfl hr.symm d_M_lieVote_60
def f_M_lieVote_16 (a1 : Int32) (a2 : Int32) (S : St)  : Int32 × St :=
  f_M_lieVote_49 a1 a2 S (1 : Int32)
def ok_M_lieVote_16 (a1 : Int32) (a2 : Int32) (S : St)  : Prop :=
  ok_M_lieVote_49 a1 a2 S (1 : Int32)
set_option maxHeartbeats 4000000 in
set_option maxRecDepth 100000 in
theorem w_M_lieVote_16 {l : Launch} {D : va_G} {X : va_W} {ad : N3 → Nat} {ca : Nat → ClassId} (a1 : Int32) (a2 : Int32)  {p : Program} {e : Env} {s : State} {m : MethodId} {below : List Frame} {meth : Method} {c : Code} {A : Nat → Prop} (hy : Hy p s m ([.ref (ad (1, 0, 0)), .int a1, .int a2] : List Value).toArray meth c b_M_lieVote 4 (some .boolean) R_M GG D clM (tysM ca) nwM) (hA : ∀ q, s.heap.size ≤ q → A q) {res : Int32 × St} : ∀  (S : St)  , ok_M_lieVote_16 a1 a2 S → f_M_lieVote_16 a1 a2 S = res → ∀ (H : Heap) (locs : List Loc) (ls : Array Slot), Wd D clM A s.heap (zw X ad TM (cfM ad ca) S) H locs → lv_has ls 4 [(0, .ref (ad (1, 0, 0))), (1, .int a1), (2, .int a2)] → W p l e { frames := 4, cells := 0, slots := 0, locals := 98 } s m ([.ref (ad (1, 0, 0)), .int a1, .int a2] : List Value).toArray below meth c H locs 0 0 (MQ below (eI D clM X ad TM (cfM ad ca) A res) ([.ref (ad (1, 0, 0)), .int a1, .int a2] : List Value).toArray s 0 0 A) (F0 m 16 ls [.ref (ad (1, 0, 0))]) := by
  have hF := hy.1
  have hx := hF.1
  have hb := hF.2.1
  have hK := hy.2.2.2
  intro S hk hr H locs ls hW hl
  refine lv_iconst (pc := 16) (v := 1) hx hb d_M_lieVote_16 (by decide) ?_
  refine lv_goto (pc := 17) (tgt := 49) hx hb d_M_lieVote_17 (by decide) ?_
  exact w_M_lieVote_49 a1 a2 hy hA S (1 : Int32) hk hr _ _ _ hW (lv_sub hl [0, 1, 2] rfl)
def f_M_lieVote_44 (a1 : Int32) (a2 : Int32) (S : St)  : Int32 × St :=
  f_M_lieVote_49 a1 a2 S (2 : Int32)
def ok_M_lieVote_44 (a1 : Int32) (a2 : Int32) (S : St)  : Prop :=
  ok_M_lieVote_49 a1 a2 S (2 : Int32)
set_option maxHeartbeats 4000000 in
set_option maxRecDepth 100000 in
theorem w_M_lieVote_44 {l : Launch} {D : va_G} {X : va_W} {ad : N3 → Nat} {ca : Nat → ClassId} (a1 : Int32) (a2 : Int32)  {p : Program} {e : Env} {s : State} {m : MethodId} {below : List Frame} {meth : Method} {c : Code} {A : Nat → Prop} (hy : Hy p s m ([.ref (ad (1, 0, 0)), .int a1, .int a2] : List Value).toArray meth c b_M_lieVote 4 (some .boolean) R_M GG D clM (tysM ca) nwM) (hA : ∀ q, s.heap.size ≤ q → A q) {res : Int32 × St} : ∀  (S : St)  , ok_M_lieVote_44 a1 a2 S → f_M_lieVote_44 a1 a2 S = res → ∀ (H : Heap) (locs : List Loc) (ls : Array Slot), Wd D clM A s.heap (zw X ad TM (cfM ad ca) S) H locs → lv_has ls 4 [(0, .ref (ad (1, 0, 0))), (1, .int a1), (2, .int a2)] → W p l e { frames := 4, cells := 0, slots := 0, locals := 98 } s m ([.ref (ad (1, 0, 0)), .int a1, .int a2] : List Value).toArray below meth c H locs 0 0 (MQ below (eI D clM X ad TM (cfM ad ca) A res) ([.ref (ad (1, 0, 0)), .int a1, .int a2] : List Value).toArray s 0 0 A) (F0 m 44 ls [.ref (ad (1, 0, 0))]) := by
  have hF := hy.1
  have hx := hF.1
  have hb := hF.2.1
  have hK := hy.2.2.2
  intro S hk hr H locs ls hW hl
  refine lv_iconst (pc := 44) (v := 2) hx hb d_M_lieVote_44 (by decide) ?_
  refine lv_goto (pc := 45) (tgt := 49) hx hb d_M_lieVote_45 (by decide) ?_
  exact w_M_lieVote_49 a1 a2 hy hA S (2 : Int32) hk hr _ _ _ hW (lv_sub hl [0, 1, 2] rfl)
def f_M_lieVote (a1 : Int32) (a2 : Int32) (S : St) : Int32 × St :=
  lt (f_M_isNode a1 S) fun (r1 : Int32) =>
  if r1 = 0 then
    f_M_lieVote_16 a1 a2 S
  else
    lt (f_M_isBlock a2 S) fun (r3 : Int32) =>
    if r3 = 0 then
      f_M_lieVote_16 a1 a2 S
    else
      if (S.1 11 0 0 3) = 0 then
        f_M_lieVote_44 a1 a2 S
      else
        if (S.1 18 0 0 3) = (32 : Int32) then
          f_M_lieVote_44 a1 a2 S
        else
          if a2 = 0 then
            f_M_lieVote_44 a1 a2 S
          else
            f_M_lieVote_49 a1 a2 S (0 : Int32)
def ok_M_lieVote (a1 : Int32) (a2 : Int32) (S : St) : Prop :=
  lt (f_M_isNode a1 S) fun (r1 : Int32) =>
  (r1 = 0 → (
    ok_M_lieVote_16 a1 a2 S)) ∧ (¬ (r1 = 0) → (
    lt (f_M_isBlock a2 S) fun (r3 : Int32) =>
    (r3 = 0 → (
      ok_M_lieVote_16 a1 a2 S)) ∧ (¬ (r3 = 0) → (
      ((S.1 11 0 0 3) = 0 → (
        ok_M_lieVote_44 a1 a2 S)) ∧ (¬ ((S.1 11 0 0 3) = 0) → (
        ((S.1 18 0 0 3) = (32 : Int32) → (
          ok_M_lieVote_44 a1 a2 S)) ∧ (¬ ((S.1 18 0 0 3) = (32 : Int32)) → (
          (a2 = 0 → (
            ok_M_lieVote_44 a1 a2 S)) ∧ (¬ (a2 = 0) → (
            ok_M_lieVote_49 a1 a2 S (0 : Int32)))))))))))
set_option maxHeartbeats 4000000 in
set_option maxRecDepth 100000 in
theorem c_M_lieVote (l : Launch) (D : va_G) (X : va_W) (ad : N3 → Nat) (ca : Nat → ClassId) (a1 : Int32) (a2 : Int32)  (S : St) (hk : ok_M_lieVote a1 a2 S) : cI l GG D clM (tysM ca) nwM X ad TM (cfM ad ca) y_M_lieVote b_M_lieVote 4 .boolean 4 98 [.ref (ad (1, 0, 0)), .int a1, .int a2] S (f_M_lieVote a1 a2 S) := by
  generalize hr : f_M_lieVote a1 a2 S = res
  refine zI_of pn_M (Nat.le_of_ble_eq_true rfl) (fun p e s m below meth c A ls hy hW hA hl => ?_)
  have hF := hy.1
  have hx := hF.1
  have hb := hF.2.1
  have hK := hy.2.2.2
  have hl : lv_has ls 4 [(0, .ref (ad (1, 0, 0))), (1, .int a1), (2, .int a2)] := hl
  refine lv_aload_n (pc := 0) hx hb d_M_lieVote_0 rfl (lv_at hl 0 rfl) ?_
  refine lv_iload_n (pc := 1) hx hb d_M_lieVote_1 rfl (lv_at hl 1 rfl) ?_
  obtain ⟨r1, er1⟩ : ∃ z : Int32, z = f_M_isNode a1 S := ⟨_, rfl⟩
  have hk := lt_p er1 hk
  have hr := lt_e er1 hr
  refine p_go (pc := 2) (congrArg Value.int er1) (p_runS hF hK hW (c_M_isNode l D X ad ca a1 S _) cd_M_isNode gw_1022 ⟨Nat.le_of_ble_eq_true rfl, Nat.le_of_ble_eq_true rfl⟩ ⟨Nat.zero_le _, Nat.zero_le _⟩ rfl rfl hl.1 (Nat.le_of_ble_eq_true rfl) d_M_lieVote_2) ?_
  refine lv_if_eq (pc := 5) (tgt := 16) hx hb d_M_lieVote_5 (by decide) (fun c2 => ?_) (fun c2 => ?_)
  · have hk := hk.1 c2
    have hr := (if_pos c2).symm.trans hr
    exact w_M_lieVote_16 a1 a2 hy hA S hk hr _ _ _ hW (lv_sub hl [0, 1, 2] rfl)
  · have hk := hk.2 c2
    have hr := (if_neg c2).symm.trans hr
    refine lv_aload_n (pc := 8) hx hb d_M_lieVote_8 rfl (lv_at hl 0 rfl) ?_
    refine lv_iload_n (pc := 9) hx hb d_M_lieVote_9 rfl (lv_at hl 2 rfl) ?_
    obtain ⟨r3, er3⟩ : ∃ z : Int32, z = f_M_isBlock a2 S := ⟨_, rfl⟩
    have hk := lt_p er3 hk
    have hr := lt_e er3 hr
    refine p_go (pc := 10) (congrArg Value.int er3) (p_runV hF hK hW (c_M_isBlock l D X ad ca a2 S _) cd_M_isBlock gw_1141 tm1 rfl rfl ⟨Nat.le_of_ble_eq_true rfl, Nat.le_of_ble_eq_true rfl⟩ ⟨Nat.zero_le _, Nat.zero_le _⟩ rfl rfl hl.1 (Nat.le_of_ble_eq_true rfl) d_M_lieVote_10) ?_
    refine lv_if_ne (pc := 13) (tgt := 20) hx hb d_M_lieVote_13 (by decide) (fun c4 => ?_) (fun c4 => ?_)
    · have hk := hk.2 c4
      have hr := (if_neg c4).symm.trans hr
      refine lv_aload_n (pc := 20) hx hb d_M_lieVote_20 rfl (lv_at hl 0 rfl) ?_
      refine z_get (pc := 21) (v := .ref (ad (11, 0, 0))) hF hK.1 hW tm1 rfl rfl in_M 16 (by decide) gw_900 rfl rfl d_M_lieVote_21 ?_
      refine lv_iconst (pc := 24) (v := 3) hx hb d_M_lieVote_24 (by decide) ?_
      have b5 : vp_in (3 : Int32) 4 := by unfold vp_in; decide
      refine z_zald (pc := 25) (v := S.1 11 0 0 3) hF hK.1 hW tm11 2 rfl rfl b5 rfl d_M_lieVote_25 ?_
      refine lv_if_eq (pc := 26) (tgt := 44) hx hb d_M_lieVote_26 (by decide) (fun c6 => ?_) (fun c6 => ?_)
      · have hk := hk.1 c6
        have hr := (if_pos c6).symm.trans hr
        exact w_M_lieVote_44 a1 a2 hy hA S hk hr _ _ _ hW (lv_sub hl [0, 1, 2] rfl)
      · have hk := hk.2 c6
        have hr := (if_neg c6).symm.trans hr
        refine lv_aload_n (pc := 29) hx hb d_M_lieVote_29 rfl (lv_at hl 0 rfl) ?_
        refine z_get (pc := 30) (v := .ref (ad (18, 0, 0))) hF hK.1 hW tm1 rfl rfl in_M 23 (by decide) gw_907 rfl rfl d_M_lieVote_30 ?_
        refine lv_iconst (pc := 33) (v := 3) hx hb d_M_lieVote_33 (by decide) ?_
        have b7 : vp_in (3 : Int32) 4 := by unfold vp_in; decide
        refine z_iald (pc := 34) (v := S.1 18 0 0 3) hF hK.1 hW tm18 0 rfl rfl b7 rfl d_M_lieVote_34 ?_
        refine lv_bipush (pc := 35) (v := 32) hx hb d_M_lieVote_35 (by decide) ?_
        refine lv_icmp_eq (pc := 37) (tgt := 44) hx hb d_M_lieVote_37 (by decide) (fun c8 => ?_) (fun c8 => ?_)
        · have hk := hk.1 c8
          have hr := (if_pos c8).symm.trans hr
          exact w_M_lieVote_44 a1 a2 hy hA S hk hr _ _ _ hW (lv_sub hl [0, 1, 2] rfl)
        · have hk := hk.2 c8
          have hr := (if_neg c8).symm.trans hr
          refine lv_iload_n (pc := 40) hx hb d_M_lieVote_40 rfl (lv_at hl 2 rfl) ?_
          refine lv_if_ne (pc := 41) (tgt := 48) hx hb d_M_lieVote_41 (by decide) (fun c9 => ?_) (fun c9 => ?_)
          · have hk := hk.2 c9
            have hr := (if_neg c9).symm.trans hr
            refine lv_iconst (pc := 48) (v := 0) hx hb d_M_lieVote_48 (by decide) ?_
            exact w_M_lieVote_49 a1 a2 hy hA S (0 : Int32) hk hr _ _ _ hW (lv_sub hl [0, 1, 2] rfl)
          · have hk := hk.1 c9
            have hr := (if_pos c9).symm.trans hr
            exact w_M_lieVote_44 a1 a2 hy hA S hk hr _ _ _ hW (lv_sub hl [0, 1, 2] rfl)
    · have hk := hk.1 c4
      have hr := (if_pos c4).symm.trans hr
      exact w_M_lieVote_16 a1 a2 hy hA S hk hr _ _ _ hW (lv_sub hl [0, 1, 2] rfl)
theorem d_M_beats_0 : decode b_M_beats 0 = .ok (.aload_n 0, 1) := by decide +kernel
theorem d_M_beats_1 : decode b_M_beats 1 = .ok (.getfield 49, 3) := by decide +kernel
theorem d_M_beats_4 : decode b_M_beats 4 = .ok (.iload_n 1, 1) := by decide +kernel
theorem d_M_beats_5 : decode b_M_beats 5 = .ok (.dup2, 1) := by decide +kernel
theorem d_M_beats_6 : decode b_M_beats 6 = .ok (.iaload, 1) := by decide +kernel
theorem d_M_beats_7 : decode b_M_beats 7 = .ok (.iconst 1, 1) := by decide +kernel
theorem d_M_beats_8 : decode b_M_beats 8 = .ok (.isub, 1) := by decide +kernel
theorem d_M_beats_9 : decode b_M_beats 9 = .ok (.iastore, 1) := by decide +kernel
theorem d_M_beats_10 : decode b_M_beats 10 = .ok (.aload_n 0, 1) := by decide +kernel
theorem d_M_beats_11 : decode b_M_beats 11 = .ok (.getfield 49, 3) := by decide +kernel
theorem d_M_beats_14 : decode b_M_beats 14 = .ok (.iload_n 1, 1) := by decide +kernel
theorem d_M_beats_15 : decode b_M_beats 15 = .ok (.iaload, 1) := by decide +kernel
theorem d_M_beats_16 : decode b_M_beats 16 = .ok (.ifCond .le 4, 3) := by decide +kernel
theorem d_M_beats_19 : decode b_M_beats 19 = .ok (.return_, 1) := by decide +kernel
theorem d_M_beats_20 : decode b_M_beats 20 = .ok (.aload_n 0, 1) := by decide +kernel
theorem d_M_beats_21 : decode b_M_beats 21 = .ok (.getfield 58, 3) := by decide +kernel
theorem d_M_beats_24 : decode b_M_beats 24 = .ok (.iload_n 1, 1) := by decide +kernel
theorem d_M_beats_25 : decode b_M_beats 25 = .ok (.aload_n 0, 1) := by decide +kernel
theorem d_M_beats_26 : decode b_M_beats 26 = .ok (.getfield 46, 3) := by decide +kernel
theorem d_M_beats_29 : decode b_M_beats 29 = .ok (.iload_n 1, 1) := by decide +kernel
theorem d_M_beats_30 : decode b_M_beats 30 = .ok (.iaload, 1) := by decide +kernel
theorem d_M_beats_31 : decode b_M_beats 31 = .ok (.aload_n 0, 1) := by decide +kernel
theorem d_M_beats_32 : decode b_M_beats 32 = .ok (.getfield 58, 3) := by decide +kernel
theorem d_M_beats_35 : decode b_M_beats 35 = .ok (.iload_n 1, 1) := by decide +kernel
theorem d_M_beats_36 : decode b_M_beats 36 = .ok (.iaload, 1) := by decide +kernel
theorem d_M_beats_37 : decode b_M_beats 37 = .ok (.if_icmp .le 12, 3) := by decide +kernel
theorem d_M_beats_40 : decode b_M_beats 40 = .ok (.aload_n 0, 1) := by decide +kernel
theorem d_M_beats_41 : decode b_M_beats 41 = .ok (.getfield 46, 3) := by decide +kernel
theorem d_M_beats_44 : decode b_M_beats 44 = .ok (.iload_n 1, 1) := by decide +kernel
theorem d_M_beats_45 : decode b_M_beats 45 = .ok (.iaload, 1) := by decide +kernel
theorem d_M_beats_46 : decode b_M_beats 46 = .ok (.goto 9, 3) := by decide +kernel
theorem d_M_beats_49 : decode b_M_beats 49 = .ok (.aload_n 0, 1) := by decide +kernel
theorem d_M_beats_50 : decode b_M_beats 50 = .ok (.getfield 58, 3) := by decide +kernel
theorem d_M_beats_53 : decode b_M_beats 53 = .ok (.iload_n 1, 1) := by decide +kernel
theorem d_M_beats_54 : decode b_M_beats 54 = .ok (.iaload, 1) := by decide +kernel
theorem d_M_beats_55 : decode b_M_beats 55 = .ok (.iastore, 1) := by decide +kernel
theorem d_M_beats_56 : decode b_M_beats 56 = .ok (.aload_n 0, 1) := by decide +kernel
theorem d_M_beats_57 : decode b_M_beats 57 = .ok (.iload_n 1, 1) := by decide +kernel
theorem d_M_beats_58 : decode b_M_beats 58 = .ok (.aload_n 0, 1) := by decide +kernel
theorem d_M_beats_59 : decode b_M_beats 59 = .ok (.iconst 3, 1) := by decide +kernel
theorem d_M_beats_60 : decode b_M_beats 60 = .ok (.aload_n 0, 1) := by decide +kernel
theorem d_M_beats_61 : decode b_M_beats 61 = .ok (.getfield 46, 3) := by decide +kernel
theorem d_M_beats_64 : decode b_M_beats 64 = .ok (.iload_n 1, 1) := by decide +kernel
theorem d_M_beats_65 : decode b_M_beats 65 = .ok (.iaload, 1) := by decide +kernel
theorem d_M_beats_66 : decode b_M_beats 66 = .ok (.aload_n 0, 1) := by decide +kernel
theorem d_M_beats_67 : decode b_M_beats 67 = .ok (.getfield 55, 3) := by decide +kernel
theorem d_M_beats_70 : decode b_M_beats 70 = .ok (.iload_n 1, 1) := by decide +kernel
theorem d_M_beats_71 : decode b_M_beats 71 = .ok (.iaload, 1) := by decide +kernel
theorem d_M_beats_72 : decode b_M_beats 72 = .ok (.invokevirtual 194, 3) := by decide +kernel
theorem d_M_beats_75 : decode b_M_beats 75 = .ok (.invokevirtual 197, 3) := by decide +kernel
theorem d_M_beats_78 : decode b_M_beats 78 = .ok (.ifCond .eq 35, 3) := by decide +kernel
theorem d_M_beats_81 : decode b_M_beats 81 = .ok (.iconst 0, 1) := by decide +kernel
theorem d_M_beats_82 : decode b_M_beats 82 = .ok (.istore_n 2, 1) := by decide +kernel
theorem d_M_beats_83 : decode b_M_beats 83 = .ok (.iload_n 2, 1) := by decide +kernel
theorem d_M_beats_84 : decode b_M_beats 84 = .ok (.iconst 4, 1) := by decide +kernel
theorem d_M_beats_85 : decode b_M_beats 85 = .ok (.if_icmp .ge 28, 3) := by decide +kernel
theorem d_M_beats_88 : decode b_M_beats 88 = .ok (.aload_n 0, 1) := by decide +kernel
theorem d_M_beats_89 : decode b_M_beats 89 = .ok (.iload_n 1, 1) := by decide +kernel
theorem d_M_beats_90 : decode b_M_beats 90 = .ok (.iload_n 2, 1) := by decide +kernel
theorem d_M_beats_91 : decode b_M_beats 91 = .ok (.iconst 3, 1) := by decide +kernel
theorem d_M_beats_92 : decode b_M_beats 92 = .ok (.aload_n 0, 1) := by decide +kernel
theorem d_M_beats_93 : decode b_M_beats 93 = .ok (.getfield 55, 3) := by decide +kernel
theorem d_M_beats_96 : decode b_M_beats 96 = .ok (.iload_n 1, 1) := by decide +kernel
theorem d_M_beats_97 : decode b_M_beats 97 = .ok (.iaload, 1) := by decide +kernel
theorem d_M_beats_98 : decode b_M_beats 98 = .ok (.aload_n 0, 1) := by decide +kernel
theorem d_M_beats_99 : decode b_M_beats 99 = .ok (.getfield 46, 3) := by decide +kernel
theorem d_M_beats_102 : decode b_M_beats 102 = .ok (.iload_n 1, 1) := by decide +kernel
theorem d_M_beats_103 : decode b_M_beats 103 = .ok (.iaload, 1) := by decide +kernel
theorem d_M_beats_104 : decode b_M_beats 104 = .ok (.invokevirtual 201, 3) := by decide +kernel
theorem d_M_beats_107 : decode b_M_beats 107 = .ok (.iinc 2 1, 3) := by decide +kernel
theorem d_M_beats_110 : decode b_M_beats 110 = .ok (.goto (-27), 3) := by decide +kernel
theorem d_M_beats_113 : decode b_M_beats 113 = .ok (.aload_n 0, 1) := by decide +kernel
theorem d_M_beats_114 : decode b_M_beats 114 = .ok (.getfield 52, 3) := by decide +kernel
theorem d_M_beats_117 : decode b_M_beats 117 = .ok (.iload_n 1, 1) := by decide +kernel
theorem d_M_beats_118 : decode b_M_beats 118 = .ok (.aload_n 0, 1) := by decide +kernel
theorem d_M_beats_119 : decode b_M_beats 119 = .ok (.getfield 52, 3) := by decide +kernel
theorem d_M_beats_122 : decode b_M_beats 122 = .ok (.iload_n 1, 1) := by decide +kernel
theorem d_M_beats_123 : decode b_M_beats 123 = .ok (.iaload, 1) := by decide +kernel
theorem d_M_beats_124 : decode b_M_beats 124 = .ok (.bipush 12, 2) := by decide +kernel
theorem d_M_beats_126 : decode b_M_beats 126 = .ok (.if_icmp .le 8, 3) := by decide +kernel
theorem d_M_beats_129 : decode b_M_beats 129 = .ok (.bipush 24, 2) := by decide +kernel
theorem d_M_beats_131 : decode b_M_beats 131 = .ok (.goto 11, 3) := by decide +kernel
theorem d_M_beats_134 : decode b_M_beats 134 = .ok (.iconst 2, 1) := by decide +kernel
theorem d_M_beats_135 : decode b_M_beats 135 = .ok (.aload_n 0, 1) := by decide +kernel
theorem d_M_beats_136 : decode b_M_beats 136 = .ok (.getfield 52, 3) := by decide +kernel
theorem d_M_beats_139 : decode b_M_beats 139 = .ok (.iload_n 1, 1) := by decide +kernel
theorem d_M_beats_140 : decode b_M_beats 140 = .ok (.iaload, 1) := by decide +kernel
theorem d_M_beats_141 : decode b_M_beats 141 = .ok (.imul, 1) := by decide +kernel
theorem d_M_beats_142 : decode b_M_beats 142 = .ok (.iastore, 1) := by decide +kernel
theorem d_M_beats_143 : decode b_M_beats 143 = .ok (.aload_n 0, 1) := by decide +kernel
theorem d_M_beats_144 : decode b_M_beats 144 = .ok (.getfield 49, 3) := by decide +kernel
theorem d_M_beats_147 : decode b_M_beats 147 = .ok (.iload_n 1, 1) := by decide +kernel
theorem d_M_beats_148 : decode b_M_beats 148 = .ok (.aload_n 0, 1) := by decide +kernel
theorem d_M_beats_149 : decode b_M_beats 149 = .ok (.getfield 52, 3) := by decide +kernel
theorem d_M_beats_152 : decode b_M_beats 152 = .ok (.iload_n 1, 1) := by decide +kernel
theorem d_M_beats_153 : decode b_M_beats 153 = .ok (.iaload, 1) := by decide +kernel
theorem d_M_beats_154 : decode b_M_beats 154 = .ok (.iastore, 1) := by decide +kernel
theorem d_M_beats_155 : decode b_M_beats 155 = .ok (.return_, 1) := by decide +kernel
def f_M_beats_142 (a1 : Int32) (S : St) (t0 : Int32) (t1 : Int32) : St :=
  lt (si S 14 0 0 (t1.toNatClampNeg) t0) fun (S29 : St) =>
  lt (si S29 13 0 0 (a1.toNatClampNeg) (S29.1 14 0 0 a1.toNatClampNeg)) fun (S32 : St) =>
  S32
def ok_M_beats_142 (a1 : Int32) (S : St) (t0 : Int32) (t1 : Int32) : Prop :=
  (vp_in t1 4) ∧ (
    lt (si S 14 0 0 (t1.toNatClampNeg) t0) fun (S29 : St) =>
    (vp_in a1 4) ∧ (
      (vp_in a1 4) ∧ (
        True)))
set_option maxHeartbeats 4000000 in
set_option maxRecDepth 100000 in
theorem w_M_beats_142 {l : Launch} {D : va_G} {X : va_W} {ad : N3 → Nat} {ca : Nat → ClassId} (a1 : Int32)  {p : Program} {e : Env} {s : State} {m : MethodId} {below : List Frame} {meth : Method} {c : Code} {A : Nat → Prop} (hy : Hy p s m ([.ref (ad (1, 0, 0)), .int a1] : List Value).toArray meth c b_M_beats 3 none R_M GG D clM (tysM ca) nwM) (hA : ∀ q, s.heap.size ≤ q → A q) {res : St} : ∀  (S : St) (t0 : Int32) (t1 : Int32) , ok_M_beats_142 a1 S t0 t1 → f_M_beats_142 a1 S t0 t1 = res → ∀ (H : Heap) (locs : List Loc) (ls : Array Slot), Wd D clM A s.heap (zw X ad TM (cfM ad ca) S) H locs → lv_has ls 3 [(0, .ref (ad (1, 0, 0))), (1, .int a1)] → W p l e { frames := 4, cells := 0, slots := 0, locals := 98 } s m ([.ref (ad (1, 0, 0)), .int a1] : List Value).toArray below meth c H locs 0 0 (MQ below (eV D clM X ad TM (cfM ad ca) A res) ([.ref (ad (1, 0, 0)), .int a1] : List Value).toArray s 0 0 A) (F0 m 142 ls [.int t0, .int t1, .ref (ad (14, 0, 0))]) := by
  have hF := hy.1
  have hx := hF.1
  have hb := hF.2.1
  have hK := hy.2.2.2
  intro S t0 t1 hk hr H locs ls hW hl
  have b28 := hk.1
  have hk := hk.2
  obtain ⟨S29, eS29⟩ : ∃ z : St, z = si S 14 0 0 (t1.toNatClampNeg) t0 := ⟨_, rfl⟩
  have hk := lt_p eS29 hk
  have hr := lt_e eS29 hr
  refine z_iast (pc := 142) (S' := S29) hF hK.1 hW tm14 0 rfl rfl b28 (zs_si eS29 rfl) (zs_sio eS29) d_M_beats_142 (fun H locs (hW : Wd D clM A s.heap (zw X ad TM (cfM ad ca) S29) H locs) => ?_)
  refine lv_aload_n (pc := 143) hx hb d_M_beats_143 rfl (lv_at hl 0 rfl) ?_
  refine z_get (pc := 144) (v := .ref (ad (13, 0, 0))) hF hK.1 hW tm1 rfl rfl in_M 18 (by decide) gw_902 rfl rfl d_M_beats_144 ?_
  refine lv_iload_n (pc := 147) hx hb d_M_beats_147 rfl (lv_at hl 1 rfl) ?_
  refine lv_aload_n (pc := 148) hx hb d_M_beats_148 rfl (lv_at hl 0 rfl) ?_
  refine z_get (pc := 149) (v := .ref (ad (14, 0, 0))) hF hK.1 hW tm1 rfl rfl in_M 19 (by decide) gw_903 rfl rfl d_M_beats_149 ?_
  refine lv_iload_n (pc := 152) hx hb d_M_beats_152 rfl (lv_at hl 1 rfl) ?_
  have b30 := hk.1
  have hk := hk.2
  refine z_iald (pc := 153) (v := S29.1 14 0 0 a1.toNatClampNeg) hF hK.1 hW tm14 0 rfl rfl b30 rfl d_M_beats_153 ?_
  have b31 := hk.1
  have hk := hk.2
  obtain ⟨S32, eS32⟩ : ∃ z : St, z = si S29 13 0 0 (a1.toNatClampNeg) (S29.1 14 0 0 a1.toNatClampNeg) := ⟨_, rfl⟩
  have hr := lt_e eS32 hr
  refine z_iast (pc := 154) (S' := S32) hF hK.1 hW tm13 0 rfl rfl b31 (zs_si eS32 rfl) (zs_sio eS32) d_M_beats_154 (fun H locs (hW : Wd D clM A s.heap (zw X ad TM (cfM ad ca) S32) H locs) => ?_)
  exact z_vret hy hW hr.symm d_M_beats_155
def f_M_beats_113 (a1 : Int32) (S : St)  : St :=
  if (S.1 14 0 0 a1.toNatClampNeg) ≤ (12 : Int32) then
    f_M_beats_142 a1 S ((2 : Int32) * (S.1 14 0 0 a1.toNatClampNeg)) a1
  else
    f_M_beats_142 a1 S (24 : Int32) a1
def ok_M_beats_113 (a1 : Int32) (S : St)  : Prop :=
  (vp_in a1 4) ∧ (
    ((S.1 14 0 0 a1.toNatClampNeg) ≤ (12 : Int32) → (
      (vp_in a1 4) ∧ (
        ok_M_beats_142 a1 S ((2 : Int32) * (S.1 14 0 0 a1.toNatClampNeg)) a1))) ∧ (¬ ((S.1 14 0 0 a1.toNatClampNeg) ≤ (12 : Int32)) → (
      ok_M_beats_142 a1 S (24 : Int32) a1)))
set_option maxHeartbeats 4000000 in
set_option maxRecDepth 100000 in
theorem w_M_beats_113 {l : Launch} {D : va_G} {X : va_W} {ad : N3 → Nat} {ca : Nat → ClassId} (a1 : Int32)  {p : Program} {e : Env} {s : State} {m : MethodId} {below : List Frame} {meth : Method} {c : Code} {A : Nat → Prop} (hy : Hy p s m ([.ref (ad (1, 0, 0)), .int a1] : List Value).toArray meth c b_M_beats 3 none R_M GG D clM (tysM ca) nwM) (hA : ∀ q, s.heap.size ≤ q → A q) {res : St} : ∀  (S : St)  , ok_M_beats_113 a1 S → f_M_beats_113 a1 S = res → ∀ (H : Heap) (locs : List Loc) (ls : Array Slot), Wd D clM A s.heap (zw X ad TM (cfM ad ca) S) H locs → lv_has ls 3 [(0, .ref (ad (1, 0, 0))), (1, .int a1)] → W p l e { frames := 4, cells := 0, slots := 0, locals := 98 } s m ([.ref (ad (1, 0, 0)), .int a1] : List Value).toArray below meth c H locs 0 0 (MQ below (eV D clM X ad TM (cfM ad ca) A res) ([.ref (ad (1, 0, 0)), .int a1] : List Value).toArray s 0 0 A) (F0 m 113 ls []) := by
  have hF := hy.1
  have hx := hF.1
  have hb := hF.2.1
  have hK := hy.2.2.2
  intro S hk hr H locs ls hW hl
  refine lv_aload_n (pc := 113) hx hb d_M_beats_113 rfl (lv_at hl 0 rfl) ?_
  refine z_get (pc := 114) (v := .ref (ad (14, 0, 0))) hF hK.1 hW tm1 rfl rfl in_M 19 (by decide) gw_903 rfl rfl d_M_beats_114 ?_
  refine lv_iload_n (pc := 117) hx hb d_M_beats_117 rfl (lv_at hl 1 rfl) ?_
  refine lv_aload_n (pc := 118) hx hb d_M_beats_118 rfl (lv_at hl 0 rfl) ?_
  refine z_get (pc := 119) (v := .ref (ad (14, 0, 0))) hF hK.1 hW tm1 rfl rfl in_M 19 (by decide) gw_903 rfl rfl d_M_beats_119 ?_
  refine lv_iload_n (pc := 122) hx hb d_M_beats_122 rfl (lv_at hl 1 rfl) ?_
  have b25 := hk.1
  have hk := hk.2
  refine z_iald (pc := 123) (v := S.1 14 0 0 a1.toNatClampNeg) hF hK.1 hW tm14 0 rfl rfl b25 rfl d_M_beats_123 ?_
  refine lv_bipush (pc := 124) (v := 12) hx hb d_M_beats_124 (by decide) ?_
  refine lv_icmp_le (pc := 126) (tgt := 134) hx hb d_M_beats_126 (by decide) (fun c26 => ?_) (fun c26 => ?_)
  · have hk := hk.1 c26
    have hr := (if_pos c26).symm.trans hr
    refine lv_iconst (pc := 134) (v := 2) hx hb d_M_beats_134 (by decide) ?_
    refine lv_aload_n (pc := 135) hx hb d_M_beats_135 rfl (lv_at hl 0 rfl) ?_
    refine z_get (pc := 136) (v := .ref (ad (14, 0, 0))) hF hK.1 hW tm1 rfl rfl in_M 19 (by decide) gw_903 rfl rfl d_M_beats_136 ?_
    refine lv_iload_n (pc := 139) hx hb d_M_beats_139 rfl (lv_at hl 1 rfl) ?_
    have b27 := hk.1
    have hk := hk.2
    refine z_iald (pc := 140) (v := S.1 14 0 0 a1.toNatClampNeg) hF hK.1 hW tm14 0 rfl rfl b27 rfl d_M_beats_140 ?_
    refine lv_imul (pc := 141) hx hb d_M_beats_141 ?_
    exact w_M_beats_142 a1 hy hA S ((2 : Int32) * (S.1 14 0 0 a1.toNatClampNeg)) a1 hk hr _ _ _ hW (lv_sub hl [0, 1] rfl)
  · have hk := hk.2 c26
    have hr := (if_neg c26).symm.trans hr
    refine lv_bipush (pc := 129) (v := 24) hx hb d_M_beats_129 (by decide) ?_
    refine lv_goto (pc := 131) (tgt := 142) hx hb d_M_beats_131 (by decide) ?_
    exact w_M_beats_142 a1 hy hA S (24 : Int32) a1 hk hr _ _ _ hW (lv_sub hl [0, 1] rfl)
def f_M_beats_83 (a1 : Int32) : Nat → St → Int32 → St
  | 0, S, _ => S
  | n + 1, S, l2 =>
    if (4 : Int32) ≤ l2 then
      f_M_beats_113 a1 S
    else
      lt (f_M_send a1 l2 (3 : Int32) (S.1 15 0 0 a1.toNatClampNeg) (S.1 12 0 0 a1.toNatClampNeg) S) fun (S24 : St) =>
      f_M_beats_83 a1 n S24 (l2 + (1 : Int32))
def ok_M_beats_83 (a1 : Int32) : Nat → St → Int32 → Prop
  | 0, _, _ => False
  | n + 1, S, l2 =>
    ((4 : Int32) ≤ l2 → (
      ok_M_beats_113 a1 S)) ∧ (¬ ((4 : Int32) ≤ l2) → (
      (vp_in a1 4) ∧ (
        (vp_in a1 4) ∧ (
          (ok_M_send a1 l2 (3 : Int32) (S.1 15 0 0 a1.toNatClampNeg) (S.1 12 0 0 a1.toNatClampNeg) S) ∧ (
            lt (f_M_send a1 l2 (3 : Int32) (S.1 15 0 0 a1.toNatClampNeg) (S.1 12 0 0 a1.toNatClampNeg) S) fun (S24 : St) =>
            ok_M_beats_83 a1 n S24 (l2 + (1 : Int32)))))))
set_option maxHeartbeats 4000000 in
set_option maxRecDepth 100000 in
theorem w_M_beats_83 {l : Launch} {D : va_G} {X : va_W} {ad : N3 → Nat} {ca : Nat → ClassId} (a1 : Int32)  {p : Program} {e : Env} {s : State} {m : MethodId} {below : List Frame} {meth : Method} {c : Code} {A : Nat → Prop} (hy : Hy p s m ([.ref (ad (1, 0, 0)), .int a1] : List Value).toArray meth c b_M_beats 3 none R_M GG D clM (tysM ca) nwM) (hA : ∀ q, s.heap.size ≤ q → A q) {res : St} : ∀ (n : Nat) (S : St) (l2 : Int32) , ok_M_beats_83 a1 n S l2 → f_M_beats_83 a1 n S l2 = res → ∀ (H : Heap) (locs : List Loc) (ls : Array Slot), Wd D clM A s.heap (zw X ad TM (cfM ad ca) S) H locs → lv_has ls 3 [(0, .ref (ad (1, 0, 0))), (1, .int a1), (2, .int l2)] → W p l e { frames := 4, cells := 0, slots := 0, locals := 98 } s m ([.ref (ad (1, 0, 0)), .int a1] : List Value).toArray below meth c H locs 0 0 (MQ below (eV D clM X ad TM (cfM ad ca) A res) ([.ref (ad (1, 0, 0)), .int a1] : List Value).toArray s 0 0 A) (F0 m 83 ls []) := by
  have hF := hy.1
  have hx := hF.1
  have hb := hF.2.1
  have hK := hy.2.2.2
  intro n
  induction n with
  | zero =>
    intro S l2 hk
    exact hk.elim
  | succ n ih =>
    intro S l2 hk hr H locs ls hW hl
    refine lv_iload_n (pc := 83) hx hb d_M_beats_83 rfl (lv_at hl 2 rfl) ?_
    refine lv_iconst (pc := 84) (v := 4) hx hb d_M_beats_84 (by decide) ?_
    refine lv_icmp_ge (pc := 85) (tgt := 113) hx hb d_M_beats_85 (by decide) (fun c19 => ?_) (fun c19 => ?_)
    · have hk := hk.1 c19
      have hr := (if_pos c19).symm.trans hr
      exact w_M_beats_113 a1 hy hA S hk hr _ _ _ hW (lv_sub hl [0, 1] rfl)
    · have hk := hk.2 c19
      have hr := (if_neg c19).symm.trans hr
      refine lv_aload_n (pc := 88) hx hb d_M_beats_88 rfl (lv_at hl 0 rfl) ?_
      refine lv_iload_n (pc := 89) hx hb d_M_beats_89 rfl (lv_at hl 1 rfl) ?_
      refine lv_iload_n (pc := 90) hx hb d_M_beats_90 rfl (lv_at hl 2 rfl) ?_
      refine lv_iconst (pc := 91) (v := 3) hx hb d_M_beats_91 (by decide) ?_
      refine lv_aload_n (pc := 92) hx hb d_M_beats_92 rfl (lv_at hl 0 rfl) ?_
      refine z_get (pc := 93) (v := .ref (ad (15, 0, 0))) hF hK.1 hW tm1 rfl rfl in_M 20 (by decide) gw_904 rfl rfl d_M_beats_93 ?_
      refine lv_iload_n (pc := 96) hx hb d_M_beats_96 rfl (lv_at hl 1 rfl) ?_
      have b20 := hk.1
      have hk := hk.2
      refine z_iald (pc := 97) (v := S.1 15 0 0 a1.toNatClampNeg) hF hK.1 hW tm15 0 rfl rfl b20 rfl d_M_beats_97 ?_
      refine lv_aload_n (pc := 98) hx hb d_M_beats_98 rfl (lv_at hl 0 rfl) ?_
      refine z_get (pc := 99) (v := .ref (ad (12, 0, 0))) hF hK.1 hW tm1 rfl rfl in_M 17 (by decide) gw_901 rfl rfl d_M_beats_99 ?_
      refine lv_iload_n (pc := 102) hx hb d_M_beats_102 rfl (lv_at hl 1 rfl) ?_
      have b21 := hk.1
      have hk := hk.2
      refine z_iald (pc := 103) (v := S.1 12 0 0 a1.toNatClampNeg) hF hK.1 hW tm12 0 rfl rfl b21 rfl d_M_beats_103 ?_
      have o22 := hk.1
      have hk := hk.2
      obtain ⟨S24, eS24⟩ : ∃ z : St, z = f_M_send a1 l2 (3 : Int32) (S.1 15 0 0 a1.toNatClampNeg) (S.1 12 0 0 a1.toNatClampNeg) S := ⟨_, rfl⟩
      have hk := lt_p eS24 hk
      have hr := lt_e eS24 hr
      refine z_goV (pc := 104) hW hA eS24 (z_runV hF hK hW (c_M_send l D X ad ca a1 l2 (3 : Int32) (S.1 15 0 0 a1.toNatClampNeg) (S.1 12 0 0 a1.toNatClampNeg) S o22 _) cd_M_send gw_1033 tm1 rfl rfl ⟨Nat.le_of_ble_eq_true rfl, Nat.le_of_ble_eq_true rfl⟩ ⟨Nat.zero_le _, Nat.zero_le _⟩ rfl rfl hl.1 (Nat.le_of_ble_eq_true rfl) d_M_beats_104) (fun H locs (hW : Wd D clM A s.heap (zw X ad TM (cfM ad ca) S24) H locs) => ?_)
      refine lv_iinc (pc := 107) (v := l2 + (1 : Int32)) (lv' := [(2, .int (l2 + (1 : Int32))), (0, .ref (ad (1, 0, 0))), (1, .int a1)]) (k := 2) hx hb d_M_beats_107 hl rfl (z_inc (by decide)) (by decide) rfl (fun ls hl => ?_)
      refine lv_goto (pc := 110) (tgt := 83) hx hb d_M_beats_110 (by decide) ?_
      exact ih S24 (l2 + (1 : Int32)) hk hr _ _ _ hW (lv_sub hl [1, 2, 0] rfl)
def f_M_beats_55 (a1 : Int32) (S : St) (t0 : Int32) (t1 : Int32) : St :=
  lt (si S 16 0 0 (t1.toNatClampNeg) t0) fun (S12 : St) =>
  lt (f_M_meant (3 : Int32) (S12.1 12 0 0 a1.toNatClampNeg) (S12.1 15 0 0 a1.toNatClampNeg) S12) fun (r15 : Int64 × St) =>
  lt (f_M_signs a1 r15.1 r15.2) fun (r17 : Int32 × St) =>
  if r17.1 = 0 then
    f_M_beats_113 a1 r17.2
  else
    f_M_beats_83 a1 200 r17.2 (0 : Int32)
def ok_M_beats_55 (a1 : Int32) (S : St) (t0 : Int32) (t1 : Int32) : Prop :=
  (vp_in t1 4) ∧ (
    lt (si S 16 0 0 (t1.toNatClampNeg) t0) fun (S12 : St) =>
    (vp_in a1 4) ∧ (
      (vp_in a1 4) ∧ (
        lt (f_M_meant (3 : Int32) (S12.1 12 0 0 a1.toNatClampNeg) (S12.1 15 0 0 a1.toNatClampNeg) S12) fun (r15 : Int64 × St) =>
        (ok_M_signs a1 r15.1 r15.2) ∧ (
          lt (f_M_signs a1 r15.1 r15.2) fun (r17 : Int32 × St) =>
          (r17.1 = 0 → (
            ok_M_beats_113 a1 r17.2)) ∧ (¬ (r17.1 = 0) → (
            ok_M_beats_83 a1 200 r17.2 (0 : Int32)))))))
set_option maxHeartbeats 4000000 in
set_option maxRecDepth 100000 in
theorem w_M_beats_55 {l : Launch} {D : va_G} {X : va_W} {ad : N3 → Nat} {ca : Nat → ClassId} (a1 : Int32)  {p : Program} {e : Env} {s : State} {m : MethodId} {below : List Frame} {meth : Method} {c : Code} {A : Nat → Prop} (hy : Hy p s m ([.ref (ad (1, 0, 0)), .int a1] : List Value).toArray meth c b_M_beats 3 none R_M GG D clM (tysM ca) nwM) (hA : ∀ q, s.heap.size ≤ q → A q) {res : St} : ∀  (S : St) (t0 : Int32) (t1 : Int32) , ok_M_beats_55 a1 S t0 t1 → f_M_beats_55 a1 S t0 t1 = res → ∀ (H : Heap) (locs : List Loc) (ls : Array Slot), Wd D clM A s.heap (zw X ad TM (cfM ad ca) S) H locs → lv_has ls 3 [(0, .ref (ad (1, 0, 0))), (1, .int a1)] → W p l e { frames := 4, cells := 0, slots := 0, locals := 98 } s m ([.ref (ad (1, 0, 0)), .int a1] : List Value).toArray below meth c H locs 0 0 (MQ below (eV D clM X ad TM (cfM ad ca) A res) ([.ref (ad (1, 0, 0)), .int a1] : List Value).toArray s 0 0 A) (F0 m 55 ls [.int t0, .int t1, .ref (ad (16, 0, 0))]) := by
  have hF := hy.1
  have hx := hF.1
  have hb := hF.2.1
  have hK := hy.2.2.2
  intro S t0 t1 hk hr H locs ls hW hl
  have b11 := hk.1
  have hk := hk.2
  obtain ⟨S12, eS12⟩ : ∃ z : St, z = si S 16 0 0 (t1.toNatClampNeg) t0 := ⟨_, rfl⟩
  have hk := lt_p eS12 hk
  have hr := lt_e eS12 hr
  refine z_iast (pc := 55) (S' := S12) hF hK.1 hW tm16 0 rfl rfl b11 (zs_si eS12 rfl) (zs_sio eS12) d_M_beats_55 (fun H locs (hW : Wd D clM A s.heap (zw X ad TM (cfM ad ca) S12) H locs) => ?_)
  refine lv_aload_n (pc := 56) hx hb d_M_beats_56 rfl (lv_at hl 0 rfl) ?_
  refine lv_iload_n (pc := 57) hx hb d_M_beats_57 rfl (lv_at hl 1 rfl) ?_
  refine lv_aload_n (pc := 58) hx hb d_M_beats_58 rfl (lv_at hl 0 rfl) ?_
  refine lv_iconst (pc := 59) (v := 3) hx hb d_M_beats_59 (by decide) ?_
  refine lv_aload_n (pc := 60) hx hb d_M_beats_60 rfl (lv_at hl 0 rfl) ?_
  refine z_get (pc := 61) (v := .ref (ad (12, 0, 0))) hF hK.1 hW tm1 rfl rfl in_M 17 (by decide) gw_901 rfl rfl d_M_beats_61 ?_
  refine lv_iload_n (pc := 64) hx hb d_M_beats_64 rfl (lv_at hl 1 rfl) ?_
  have b13 := hk.1
  have hk := hk.2
  refine z_iald (pc := 65) (v := S12.1 12 0 0 a1.toNatClampNeg) hF hK.1 hW tm12 0 rfl rfl b13 rfl d_M_beats_65 ?_
  refine lv_aload_n (pc := 66) hx hb d_M_beats_66 rfl (lv_at hl 0 rfl) ?_
  refine z_get (pc := 67) (v := .ref (ad (15, 0, 0))) hF hK.1 hW tm1 rfl rfl in_M 20 (by decide) gw_904 rfl rfl d_M_beats_67 ?_
  refine lv_iload_n (pc := 70) hx hb d_M_beats_70 rfl (lv_at hl 1 rfl) ?_
  have b14 := hk.1
  have hk := hk.2
  refine z_iald (pc := 71) (v := S12.1 15 0 0 a1.toNatClampNeg) hF hK.1 hW tm15 0 rfl rfl b14 rfl d_M_beats_71 ?_
  obtain ⟨r15, er15⟩ : ∃ z : Int64 × St, z = f_M_meant (3 : Int32) (S12.1 12 0 0 a1.toNatClampNeg) (S12.1 15 0 0 a1.toNatClampNeg) S12 := ⟨_, rfl⟩
  have hk := lt_p er15 hk
  have hr := lt_e er15 hr
  refine z_goL (pc := 72) hW hA (show (r15.1, r15.2) = _ from er15) (z_runV hF hK hW (c_M_meant l D X ad ca (3 : Int32) (S12.1 12 0 0 a1.toNatClampNeg) (S12.1 15 0 0 a1.toNatClampNeg) S12 _) cd_M_meant gw_1041 tm1 rfl rfl ⟨Nat.le_of_ble_eq_true rfl, Nat.le_of_ble_eq_true rfl⟩ ⟨Nat.zero_le _, Nat.zero_le _⟩ rfl rfl hl.1 (Nat.le_of_ble_eq_true rfl) d_M_beats_72) (fun H locs (hW : Wd D clM A s.heap (zw X ad TM (cfM ad ca) r15.2) H locs) => ?_)
  have o16 := hk.1
  have hk := hk.2
  obtain ⟨r17, er17⟩ : ∃ z : Int32 × St, z = f_M_signs a1 r15.1 r15.2 := ⟨_, rfl⟩
  have hk := lt_p er17 hk
  have hr := lt_e er17 hr
  refine z_goI (pc := 75) hW hA (show (r17.1, r17.2) = _ from er17) (z_runV hF hK hW (c_M_signs l D X ad ca a1 r15.1 r15.2 o16 _) cd_M_signs gw_1086 tm1 rfl rfl ⟨Nat.le_of_ble_eq_true rfl, Nat.le_of_ble_eq_true rfl⟩ ⟨Nat.zero_le _, Nat.zero_le _⟩ rfl rfl hl.1 (Nat.le_of_ble_eq_true rfl) d_M_beats_75) (fun H locs (hW : Wd D clM A s.heap (zw X ad TM (cfM ad ca) r17.2) H locs) => ?_)
  refine lv_if_eq (pc := 78) (tgt := 113) hx hb d_M_beats_78 (by decide) (fun c18 => ?_) (fun c18 => ?_)
  · have hk := hk.1 c18
    have hr := (if_pos c18).symm.trans hr
    exact w_M_beats_113 a1 hy hA r17.2 hk hr _ _ _ hW (lv_sub hl [0, 1] rfl)
  · have hk := hk.2 c18
    have hr := (if_neg c18).symm.trans hr
    refine lv_iconst (pc := 81) (v := 0) hx hb d_M_beats_81 (by decide) ?_
    refine lv_istore_n (pc := 82) (lv' := [(2, .int (0 : Int32)), (0, .ref (ad (1, 0, 0))), (1, .int a1)]) hx hb d_M_beats_82 rfl hl (by decide) rfl (fun ls hl => ?_)
    exact w_M_beats_83 a1 hy hA 200 r17.2 (0 : Int32) hk hr _ _ _ hW (lv_sub hl [1, 2, 0] rfl)
def f_M_beats (a1 : Int32) (S : St) : St :=
  lt (si S 13 0 0 (a1.toNatClampNeg) ((S.1 13 0 0 a1.toNatClampNeg) - (1 : Int32))) fun (S3 : St) =>
  if (S3.1 13 0 0 a1.toNatClampNeg) ≤ 0 then
    if (S3.1 12 0 0 a1.toNatClampNeg) ≤ (S3.1 16 0 0 a1.toNatClampNeg) then
      f_M_beats_55 a1 S3 (S3.1 16 0 0 a1.toNatClampNeg) a1
    else
      f_M_beats_55 a1 S3 (S3.1 12 0 0 a1.toNatClampNeg) a1
  else
    S3
def ok_M_beats (a1 : Int32) (S : St) : Prop :=
  (vp_in a1 4) ∧ (
    (vp_in a1 4) ∧ (
      lt (si S 13 0 0 (a1.toNatClampNeg) ((S.1 13 0 0 a1.toNatClampNeg) - (1 : Int32))) fun (S3 : St) =>
      (vp_in a1 4) ∧ (
        ((S3.1 13 0 0 a1.toNatClampNeg) ≤ 0 → (
          (vp_in a1 4) ∧ (
            (vp_in a1 4) ∧ (
              ((S3.1 12 0 0 a1.toNatClampNeg) ≤ (S3.1 16 0 0 a1.toNatClampNeg) → (
                (vp_in a1 4) ∧ (
                  ok_M_beats_55 a1 S3 (S3.1 16 0 0 a1.toNatClampNeg) a1))) ∧ (¬ ((S3.1 12 0 0 a1.toNatClampNeg) ≤ (S3.1 16 0 0 a1.toNatClampNeg)) → (
                (vp_in a1 4) ∧ (
                  ok_M_beats_55 a1 S3 (S3.1 12 0 0 a1.toNatClampNeg) a1))))))) ∧ (¬ ((S3.1 13 0 0 a1.toNatClampNeg) ≤ 0) → (
          True)))))
set_option maxHeartbeats 4000000 in
set_option maxRecDepth 100000 in
theorem c_M_beats (l : Launch) (D : va_G) (X : va_W) (ad : N3 → Nat) (ca : Nat → ClassId) (a1 : Int32)  (S : St) (hk : ok_M_beats a1 S) : cV l GG D clM (tysM ca) nwM X ad TM (cfM ad ca) y_M_beats b_M_beats 3 4 98 [.ref (ad (1, 0, 0)), .int a1] S (f_M_beats a1 S) := by
  generalize hr : f_M_beats a1 S = res
  refine zV_of pn_M (Nat.le_of_ble_eq_true rfl) (fun p e s m below meth c A ls hy hW hA hl => ?_)
  have hF := hy.1
  have hx := hF.1
  have hb := hF.2.1
  have hK := hy.2.2.2
  have hl : lv_has ls 3 [(0, .ref (ad (1, 0, 0))), (1, .int a1)] := hl
  refine lv_aload_n (pc := 0) hx hb d_M_beats_0 rfl (lv_at hl 0 rfl) ?_
  refine z_get (pc := 1) (v := .ref (ad (13, 0, 0))) hF hK.1 hW tm1 rfl rfl in_M 18 (by decide) gw_902 rfl rfl d_M_beats_1 ?_
  refine lv_iload_n (pc := 4) hx hb d_M_beats_4 rfl (lv_at hl 1 rfl) ?_
  refine lv_dup2_11 (pc := 5) hx hb d_M_beats_5 rfl rfl ?_
  have b1 := hk.1
  have hk := hk.2
  refine z_iald (pc := 6) (v := S.1 13 0 0 a1.toNatClampNeg) hF hK.1 hW tm13 0 rfl rfl b1 rfl d_M_beats_6 ?_
  refine lv_iconst (pc := 7) (v := 1) hx hb d_M_beats_7 (by decide) ?_
  refine lv_isub (pc := 8) hx hb d_M_beats_8 ?_
  have b2 := hk.1
  have hk := hk.2
  obtain ⟨S3, eS3⟩ : ∃ z : St, z = si S 13 0 0 (a1.toNatClampNeg) ((S.1 13 0 0 a1.toNatClampNeg) - (1 : Int32)) := ⟨_, rfl⟩
  have hk := lt_p eS3 hk
  have hr := lt_e eS3 hr
  refine z_iast (pc := 9) (S' := S3) hF hK.1 hW tm13 0 rfl rfl b2 (zs_si eS3 rfl) (zs_sio eS3) d_M_beats_9 (fun H locs (hW : Wd D clM A s.heap (zw X ad TM (cfM ad ca) S3) H locs) => ?_)
  refine lv_aload_n (pc := 10) hx hb d_M_beats_10 rfl (lv_at hl 0 rfl) ?_
  refine z_get (pc := 11) (v := .ref (ad (13, 0, 0))) hF hK.1 hW tm1 rfl rfl in_M 18 (by decide) gw_902 rfl rfl d_M_beats_11 ?_
  refine lv_iload_n (pc := 14) hx hb d_M_beats_14 rfl (lv_at hl 1 rfl) ?_
  have b4 := hk.1
  have hk := hk.2
  refine z_iald (pc := 15) (v := S3.1 13 0 0 a1.toNatClampNeg) hF hK.1 hW tm13 0 rfl rfl b4 rfl d_M_beats_15 ?_
  refine lv_if_le (pc := 16) (tgt := 20) hx hb d_M_beats_16 (by decide) (fun c5 => ?_) (fun c5 => ?_)
  · have hk := hk.1 c5
    have hr := (if_pos c5).symm.trans hr
    refine lv_aload_n (pc := 20) hx hb d_M_beats_20 rfl (lv_at hl 0 rfl) ?_
    refine z_get (pc := 21) (v := .ref (ad (16, 0, 0))) hF hK.1 hW tm1 rfl rfl in_M 21 (by decide) gw_905 rfl rfl d_M_beats_21 ?_
    refine lv_iload_n (pc := 24) hx hb d_M_beats_24 rfl (lv_at hl 1 rfl) ?_
    refine lv_aload_n (pc := 25) hx hb d_M_beats_25 rfl (lv_at hl 0 rfl) ?_
    refine z_get (pc := 26) (v := .ref (ad (12, 0, 0))) hF hK.1 hW tm1 rfl rfl in_M 17 (by decide) gw_901 rfl rfl d_M_beats_26 ?_
    refine lv_iload_n (pc := 29) hx hb d_M_beats_29 rfl (lv_at hl 1 rfl) ?_
    have b6 := hk.1
    have hk := hk.2
    refine z_iald (pc := 30) (v := S3.1 12 0 0 a1.toNatClampNeg) hF hK.1 hW tm12 0 rfl rfl b6 rfl d_M_beats_30 ?_
    refine lv_aload_n (pc := 31) hx hb d_M_beats_31 rfl (lv_at hl 0 rfl) ?_
    refine z_get (pc := 32) (v := .ref (ad (16, 0, 0))) hF hK.1 hW tm1 rfl rfl in_M 21 (by decide) gw_905 rfl rfl d_M_beats_32 ?_
    refine lv_iload_n (pc := 35) hx hb d_M_beats_35 rfl (lv_at hl 1 rfl) ?_
    have b7 := hk.1
    have hk := hk.2
    refine z_iald (pc := 36) (v := S3.1 16 0 0 a1.toNatClampNeg) hF hK.1 hW tm16 0 rfl rfl b7 rfl d_M_beats_36 ?_
    refine lv_icmp_le (pc := 37) (tgt := 49) hx hb d_M_beats_37 (by decide) (fun c8 => ?_) (fun c8 => ?_)
    · have hk := hk.1 c8
      have hr := (if_pos c8).symm.trans hr
      refine lv_aload_n (pc := 49) hx hb d_M_beats_49 rfl (lv_at hl 0 rfl) ?_
      refine z_get (pc := 50) (v := .ref (ad (16, 0, 0))) hF hK.1 hW tm1 rfl rfl in_M 21 (by decide) gw_905 rfl rfl d_M_beats_50 ?_
      refine lv_iload_n (pc := 53) hx hb d_M_beats_53 rfl (lv_at hl 1 rfl) ?_
      have b9 := hk.1
      have hk := hk.2
      refine z_iald (pc := 54) (v := S3.1 16 0 0 a1.toNatClampNeg) hF hK.1 hW tm16 0 rfl rfl b9 rfl d_M_beats_54 ?_
      exact w_M_beats_55 a1 hy hA S3 (S3.1 16 0 0 a1.toNatClampNeg) a1 hk hr _ _ _ hW (lv_sub hl [0, 1] rfl)
    · have hk := hk.2 c8
      have hr := (if_neg c8).symm.trans hr
      refine lv_aload_n (pc := 40) hx hb d_M_beats_40 rfl (lv_at hl 0 rfl) ?_
      refine z_get (pc := 41) (v := .ref (ad (12, 0, 0))) hF hK.1 hW tm1 rfl rfl in_M 17 (by decide) gw_901 rfl rfl d_M_beats_41 ?_
      refine lv_iload_n (pc := 44) hx hb d_M_beats_44 rfl (lv_at hl 1 rfl) ?_
      have b10 := hk.1
      have hk := hk.2
      refine z_iald (pc := 45) (v := S3.1 12 0 0 a1.toNatClampNeg) hF hK.1 hW tm12 0 rfl rfl b10 rfl d_M_beats_45 ?_
      refine lv_goto (pc := 46) (tgt := 55) hx hb d_M_beats_46 (by decide) ?_
      exact w_M_beats_55 a1 hy hA S3 (S3.1 12 0 0 a1.toNatClampNeg) a1 hk hr _ _ _ hW (lv_sub hl [0, 1] rfl)
  · have hk := hk.2 c5
    have hr := (if_neg c5).symm.trans hr
    exact z_vret hy hW hr.symm d_M_beats_19
