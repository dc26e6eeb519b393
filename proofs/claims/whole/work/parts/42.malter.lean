theorem d_M_alter_0 : decode b_M_alter 0 = .ok (.aload_n 0, 1) := by decide +kernel
theorem d_M_alter_1 : decode b_M_alter 1 = .ok (.iload_n 1, 1) := by decide +kernel
theorem d_M_alter_2 : decode b_M_alter 2 = .ok (.invokestatic 231, 3) := by decide +kernel
theorem d_M_alter_5 : decode b_M_alter 5 = .ok (.ifCond .eq 13, 3) := by decide +kernel
theorem d_M_alter_8 : decode b_M_alter 8 = .ok (.iload_n 2, 1) := by decide +kernel
theorem d_M_alter_9 : decode b_M_alter 9 = .ok (.ifCond .lt 9, 3) := by decide +kernel
theorem d_M_alter_12 : decode b_M_alter 12 = .ok (.iload_n 2, 1) := by decide +kernel
theorem d_M_alter_13 : decode b_M_alter 13 = .ok (.bipush 10, 2) := by decide +kernel
theorem d_M_alter_15 : decode b_M_alter 15 = .ok (.if_icmp .le 7, 3) := by decide +kernel
theorem d_M_alter_18 : decode b_M_alter 18 = .ok (.iconst 1, 1) := by decide +kernel
theorem d_M_alter_19 : decode b_M_alter 19 = .ok (.goto 30, 3) := by decide +kernel
theorem d_M_alter_22 : decode b_M_alter 22 = .ok (.aload_n 0, 1) := by decide +kernel
theorem d_M_alter_23 : decode b_M_alter 23 = .ok (.getfield 94, 3) := by decide +kernel
theorem d_M_alter_26 : decode b_M_alter 26 = .ok (.iload_n 1, 1) := by decide +kernel
theorem d_M_alter_27 : decode b_M_alter 27 = .ok (.iaload, 1) := by decide +kernel
theorem d_M_alter_28 : decode b_M_alter 28 = .ok (.ifCond .eq 16, 3) := by decide +kernel
theorem d_M_alter_31 : decode b_M_alter 31 = .ok (.aload_n 0, 1) := by decide +kernel
theorem d_M_alter_32 : decode b_M_alter 32 = .ok (.getfield 97, 3) := by decide +kernel
theorem d_M_alter_35 : decode b_M_alter 35 = .ok (.bipush 16, 2) := by decide +kernel
theorem d_M_alter_37 : decode b_M_alter 37 = .ok (.iload_n 1, 1) := by decide +kernel
theorem d_M_alter_38 : decode b_M_alter 38 = .ok (.imul, 1) := by decide +kernel
theorem d_M_alter_39 : decode b_M_alter 39 = .ok (.iaload, 1) := by decide +kernel
theorem d_M_alter_40 : decode b_M_alter 40 = .ok (.iconst 3, 1) := by decide +kernel
theorem d_M_alter_41 : decode b_M_alter 41 = .ok (.if_icmp .le 7, 3) := by decide +kernel
theorem d_M_alter_44 : decode b_M_alter 44 = .ok (.iconst 2, 1) := by decide +kernel
theorem d_M_alter_45 : decode b_M_alter 45 = .ok (.goto 4, 3) := by decide +kernel
theorem d_M_alter_48 : decode b_M_alter 48 = .ok (.iconst 0, 1) := by decide +kernel
theorem d_M_alter_49 : decode b_M_alter 49 = .ok (.putfield 141, 3) := by decide +kernel
theorem d_M_alter_52 : decode b_M_alter 52 = .ok (.aload_n 0, 1) := by decide +kernel
theorem d_M_alter_53 : decode b_M_alter 53 = .ok (.getfield 141, 3) := by decide +kernel
theorem d_M_alter_56 : decode b_M_alter 56 = .ok (.ifCond .le 5, 3) := by decide +kernel
theorem d_M_alter_59 : decode b_M_alter 59 = .ok (.iconst 0, 1) := by decide +kernel
theorem d_M_alter_60 : decode b_M_alter 60 = .ok (.ireturn, 1) := by decide +kernel
theorem d_M_alter_61 : decode b_M_alter 61 = .ok (.aload_n 0, 1) := by decide +kernel
theorem d_M_alter_62 : decode b_M_alter 62 = .ok (.getfield 112, 3) := by decide +kernel
theorem d_M_alter_65 : decode b_M_alter 65 = .ok (.sipush 176, 3) := by decide +kernel
theorem d_M_alter_68 : decode b_M_alter 68 = .ok (.iload_n 1, 1) := by decide +kernel
theorem d_M_alter_69 : decode b_M_alter 69 = .ok (.imul, 1) := by decide +kernel
theorem d_M_alter_70 : decode b_M_alter 70 = .ok (.iload_n 2, 1) := by decide +kernel
theorem d_M_alter_71 : decode b_M_alter 71 = .ok (.iadd, 1) := by decide +kernel
theorem d_M_alter_72 : decode b_M_alter 72 = .ok (.aload_n 0, 1) := by decide +kernel
theorem d_M_alter_73 : decode b_M_alter 73 = .ok (.getfield 112, 3) := by decide +kernel
theorem d_M_alter_76 : decode b_M_alter 76 = .ok (.sipush 176, 3) := by decide +kernel
theorem d_M_alter_79 : decode b_M_alter 79 = .ok (.iload_n 1, 1) := by decide +kernel
theorem d_M_alter_80 : decode b_M_alter 80 = .ok (.imul, 1) := by decide +kernel
theorem d_M_alter_81 : decode b_M_alter 81 = .ok (.iload_n 2, 1) := by decide +kernel
theorem d_M_alter_82 : decode b_M_alter 82 = .ok (.iadd, 1) := by decide +kernel
theorem d_M_alter_83 : decode b_M_alter 83 = .ok (.laload, 1) := by decide +kernel
theorem d_M_alter_84 : decode b_M_alter 84 = .ok (.lload_n 3, 1) := by decide +kernel
theorem d_M_alter_85 : decode b_M_alter 85 = .ok (.lxor, 1) := by decide +kernel
theorem d_M_alter_86 : decode b_M_alter 86 = .ok (.lastore, 1) := by decide +kernel
theorem d_M_alter_87 : decode b_M_alter 87 = .ok (.iconst 1, 1) := by decide +kernel
theorem d_M_alter_88 : decode b_M_alter 88 = .ok (.ireturn, 1) := by decide +kernel
def f_M_alter_49 (a1 : Int32) (a2 : Int32) (a3 : Int64) (S : St) (t0 : Int32) : Int32 × St :=
  lt (si S 1 0 0 1 t0) fun (S9 : St) =>
  if (S9.1 1 0 0 1) ≤ 0 then
    lt (sl S9 34 0 0 ((((176 : Int32) * a1) + a2).toNatClampNeg) ((S9.2.1 34 0 0 (((176 : Int32) * a1) + a2).toNatClampNeg) ^^^ a3)) fun (S13 : St) =>
    ((1 : Int32), S13)
  else
    ((0 : Int32), S9)
def ok_M_alter_49 (a1 : Int32) (a2 : Int32) (a3 : Int64) (S : St) (t0 : Int32) : Prop :=
  lt (si S 1 0 0 1 t0) fun (S9 : St) =>
  ((S9.1 1 0 0 1) ≤ 0 → (
    (vp_in (((176 : Int32) * a1) + a2) 704) ∧ (
      (vp_in (((176 : Int32) * a1) + a2) 704) ∧ (
        True)))) ∧ (¬ ((S9.1 1 0 0 1) ≤ 0) → (
    True))
set_option maxHeartbeats 4000000 in
set_option maxRecDepth 100000 in
theorem w_M_alter_49 {l : Launch} {D : va_G} {X : va_W} {ad : N3 → Nat} {ca : Nat → ClassId} (a1 : Int32) (a2 : Int32) (a3 : Int64)  {p : Program} {e : Env} {s : State} {m : MethodId} {below : List Frame} {meth : Method} {c : Code} {A : Nat → Prop} (hy : Hy p s m ([.ref (ad (1, 0, 0)), .int a1, .int a2, .long a3] : List Value).toArray meth c b_M_alter 5 (some .boolean) R_M GG D clM (tysM ca) nwM) (hA : ∀ q, s.heap.size ≤ q → A q) {res : Int32 × St} : ∀  (S : St) (t0 : Int32) , ok_M_alter_49 a1 a2 a3 S t0 → f_M_alter_49 a1 a2 a3 S t0 = res → ∀ (H : Heap) (locs : List Loc) (ls : Array Slot), Wd D clM A s.heap (zw X ad TM (cfM ad ca) S) H locs → lv_has ls 5 [(0, .ref (ad (1, 0, 0))), (1, .int a1), (2, .int a2), (3, .long a3)] → W p l e { frames := 1, cells := 0, slots := 0, locals := 20 } s m ([.ref (ad (1, 0, 0)), .int a1, .int a2, .long a3] : List Value).toArray below meth c H locs 0 0 (MQ below (eI D clM X ad TM (cfM ad ca) A res) ([.ref (ad (1, 0, 0)), .int a1, .int a2, .long a3] : List Value).toArray s 0 0 A) (F0 m 49 ls [.int t0, .ref (ad (1, 0, 0))]) := by
  have hF := hy.1
  have hx := hF.1
  have hb := hF.2.1
  have hK := hy.2.2.2
  intro S t0 hk hr H locs ls hW hl
  obtain ⟨S9, eS9⟩ : ∃ z : St, z = si S 1 0 0 1 t0 := ⟨_, rfl⟩
  have hk := lt_p eS9 hk
  have hr := lt_e eS9 hr
  refine z_put (pc := 49) (S' := S9) hF hK.1 hW tm1 rfl rfl in_M t_M tyo_M nmo_M 1 (by decide) gw_885 rfl rfl rfl rfl rfl (Nat.le_of_ble_eq_true rfl) (zs_si eS9 rfl) (zs_sio eS9) d_M_alter_49 (fun H locs (hW : Wd D clM A s.heap (zw X ad TM (cfM ad ca) S9) H locs) => ?_)
  refine lv_aload_n (pc := 52) hx hb d_M_alter_52 rfl (lv_at hl 0 rfl) ?_
  refine z_get (pc := 53) (v := .int (S9.1 1 0 0 1)) hF hK.1 hW tm1 rfl rfl in_M 1 (by decide) gw_885 rfl rfl d_M_alter_53 ?_
  refine lv_if_le (pc := 56) (tgt := 61) hx hb d_M_alter_56 (by decide) (fun c10 => ?_) (fun c10 => ?_)
  · have hk := hk.1 c10
    have hr := (if_pos c10).symm.trans hr
    refine lv_aload_n (pc := 61) hx hb d_M_alter_61 rfl (lv_at hl 0 rfl) ?_
    refine z_get (pc := 62) (v := .ref (ad (34, 0, 0))) hF hK.1 hW tm1 rfl rfl in_M 39 (by decide) gw_923 rfl rfl d_M_alter_62 ?_
    refine lv_sipush (pc := 65) (v := 176) hx hb d_M_alter_65 (by decide) ?_
    refine lv_iload_n (pc := 68) hx hb d_M_alter_68 rfl (lv_at hl 1 rfl) ?_
    refine lv_imul (pc := 69) hx hb d_M_alter_69 ?_
    refine lv_iload_n (pc := 70) hx hb d_M_alter_70 rfl (lv_at hl 2 rfl) ?_
    refine lv_iadd (pc := 71) hx hb d_M_alter_71 ?_
    refine lv_aload_n (pc := 72) hx hb d_M_alter_72 rfl (lv_at hl 0 rfl) ?_
    refine z_get (pc := 73) (v := .ref (ad (34, 0, 0))) hF hK.1 hW tm1 rfl rfl in_M 39 (by decide) gw_923 rfl rfl d_M_alter_73 ?_
    refine lv_sipush (pc := 76) (v := 176) hx hb d_M_alter_76 (by decide) ?_
    refine lv_iload_n (pc := 79) hx hb d_M_alter_79 rfl (lv_at hl 1 rfl) ?_
    refine lv_imul (pc := 80) hx hb d_M_alter_80 ?_
    refine lv_iload_n (pc := 81) hx hb d_M_alter_81 rfl (lv_at hl 2 rfl) ?_
    refine lv_iadd (pc := 82) hx hb d_M_alter_82 ?_
    have b11 := hk.1
    have hk := hk.2
    refine z_lald (pc := 83) (v := S9.2.1 34 0 0 (((176 : Int32) * a1) + a2).toNatClampNeg) hF hK.1 hW tm34 1 rfl rfl b11 rfl d_M_alter_83 ?_
    refine lv_lload_n (pc := 84) hx hb d_M_alter_84 rfl (lv_at hl 3 rfl) ?_
    refine lv_lxor (pc := 85) hx hb d_M_alter_85 ?_
    have b12 := hk.1
    have hk := hk.2
    obtain ⟨S13, eS13⟩ : ∃ z : St, z = sl S9 34 0 0 ((((176 : Int32) * a1) + a2).toNatClampNeg) ((S9.2.1 34 0 0 (((176 : Int32) * a1) + a2).toNatClampNeg) ^^^ a3) := ⟨_, rfl⟩
    have hr := lt_e eS13 hr
    refine z_last (pc := 86) (S' := S13) hF hK.1 hW tm34 1 rfl rfl b12 (zs_sl eS13 rfl) (zs_slo eS13) d_M_alter_86 (fun H locs (hW : Wd D clM A s.heap (zw X ad TM (cfM ad ca) S13) H locs) => ?_)
    refine lv_iconst (pc := 87) (v := 1) hx hb d_M_alter_87 (by decide) ?_
    exact z_zret (v := (1 : Int32)) hy hW rfl hr.symm d_M_alter_88
  · have hk := hk.2 c10
    have hr := (if_neg c10).symm.trans hr
    refine lv_iconst (pc := 59) (v := 0) hx hb d_M_alter_59 (by decide) ?_
    exact z_zret (v := (0 : Int32)) hy hW rfl hr.symm d_M_alter_60
def f_M_alter_18 (a1 : Int32) (a2 : Int32) (a3 : Int64) (S : St)  : Int32 × St :=
  f_M_alter_49 a1 a2 a3 S (1 : Int32)
def ok_M_alter_18 (a1 : Int32) (a2 : Int32) (a3 : Int64) (S : St)  : Prop :=
  ok_M_alter_49 a1 a2 a3 S (1 : Int32)
set_option maxHeartbeats 4000000 in
set_option maxRecDepth 100000 in
theorem w_M_alter_18 {l : Launch} {D : va_G} {X : va_W} {ad : N3 → Nat} {ca : Nat → ClassId} (a1 : Int32) (a2 : Int32) (a3 : Int64)  {p : Program} {e : Env} {s : State} {m : MethodId} {below : List Frame} {meth : Method} {c : Code} {A : Nat → Prop} (hy : Hy p s m ([.ref (ad (1, 0, 0)), .int a1, .int a2, .long a3] : List Value).toArray meth c b_M_alter 5 (some .boolean) R_M GG D clM (tysM ca) nwM) (hA : ∀ q, s.heap.size ≤ q → A q) {res : Int32 × St} : ∀  (S : St)  , ok_M_alter_18 a1 a2 a3 S → f_M_alter_18 a1 a2 a3 S = res → ∀ (H : Heap) (locs : List Loc) (ls : Array Slot), Wd D clM A s.heap (zw X ad TM (cfM ad ca) S) H locs → lv_has ls 5 [(0, .ref (ad (1, 0, 0))), (1, .int a1), (2, .int a2), (3, .long a3)] → W p l e { frames := 1, cells := 0, slots := 0, locals := 20 } s m ([.ref (ad (1, 0, 0)), .int a1, .int a2, .long a3] : List Value).toArray below meth c H locs 0 0 (MQ below (eI D clM X ad TM (cfM ad ca) A res) ([.ref (ad (1, 0, 0)), .int a1, .int a2, .long a3] : List Value).toArray s 0 0 A) (F0 m 18 ls [.ref (ad (1, 0, 0))]) := by
  have hF := hy.1
  have hx := hF.1
  have hb := hF.2.1
  have hK := hy.2.2.2
  intro S hk hr H locs ls hW hl
  refine lv_iconst (pc := 18) (v := 1) hx hb d_M_alter_18 (by decide) ?_
  refine lv_goto (pc := 19) (tgt := 49) hx hb d_M_alter_19 (by decide) ?_
  exact w_M_alter_49 a1 a2 a3 hy hA S (1 : Int32) hk hr _ _ _ hW (lv_sub hl [0, 1, 2, 3] rfl)
def f_M_alter_44 (a1 : Int32) (a2 : Int32) (a3 : Int64) (S : St)  : Int32 × St :=
  f_M_alter_49 a1 a2 a3 S (2 : Int32)
def ok_M_alter_44 (a1 : Int32) (a2 : Int32) (a3 : Int64) (S : St)  : Prop :=
  ok_M_alter_49 a1 a2 a3 S (2 : Int32)
set_option maxHeartbeats 4000000 in
set_option maxRecDepth 100000 in
theorem w_M_alter_44 {l : Launch} {D : va_G} {X : va_W} {ad : N3 → Nat} {ca : Nat → ClassId} (a1 : Int32) (a2 : Int32) (a3 : Int64)  {p : Program} {e : Env} {s : State} {m : MethodId} {below : List Frame} {meth : Method} {c : Code} {A : Nat → Prop} (hy : Hy p s m ([.ref (ad (1, 0, 0)), .int a1, .int a2, .long a3] : List Value).toArray meth c b_M_alter 5 (some .boolean) R_M GG D clM (tysM ca) nwM) (hA : ∀ q, s.heap.size ≤ q → A q) {res : Int32 × St} : ∀  (S : St)  , ok_M_alter_44 a1 a2 a3 S → f_M_alter_44 a1 a2 a3 S = res → ∀ (H : Heap) (locs : List Loc) (ls : Array Slot), Wd D clM A s.heap (zw X ad TM (cfM ad ca) S) H locs → lv_has ls 5 [(0, .ref (ad (1, 0, 0))), (1, .int a1), (2, .int a2), (3, .long a3)] → W p l e { frames := 1, cells := 0, slots := 0, locals := 20 } s m ([.ref (ad (1, 0, 0)), .int a1, .int a2, .long a3] : List Value).toArray below meth c H locs 0 0 (MQ below (eI D clM X ad TM (cfM ad ca) A res) ([.ref (ad (1, 0, 0)), .int a1, .int a2, .long a3] : List Value).toArray s 0 0 A) (F0 m 44 ls [.ref (ad (1, 0, 0))]) := by
  have hF := hy.1
  have hx := hF.1
  have hb := hF.2.1
  have hK := hy.2.2.2
  intro S hk hr H locs ls hW hl
  refine lv_iconst (pc := 44) (v := 2) hx hb d_M_alter_44 (by decide) ?_
  refine lv_goto (pc := 45) (tgt := 49) hx hb d_M_alter_45 (by decide) ?_
  exact w_M_alter_49 a1 a2 a3 hy hA S (2 : Int32) hk hr _ _ _ hW (lv_sub hl [0, 1, 2, 3] rfl)
def f_M_alter (a1 : Int32) (a2 : Int32) (a3 : Int64) (S : St) : Int32 × St :=
  lt (f_M_isNode a1 S) fun (r1 : Int32) =>
  if r1 = 0 then
    f_M_alter_18 a1 a2 a3 S
  else
    if a2 < 0 then
      f_M_alter_18 a1 a2 a3 S
    else
      if a2 ≤ (10 : Int32) then
        if (S.1 28 0 0 a1.toNatClampNeg) = 0 then
          f_M_alter_44 a1 a2 a3 S
        else
          if (S.1 29 0 0 ((16 : Int32) * a1).toNatClampNeg) ≤ (3 : Int32) then
            f_M_alter_49 a1 a2 a3 S (0 : Int32)
          else
            f_M_alter_44 a1 a2 a3 S
      else
        f_M_alter_18 a1 a2 a3 S
def ok_M_alter (a1 : Int32) (a2 : Int32) (a3 : Int64) (S : St) : Prop :=
  lt (f_M_isNode a1 S) fun (r1 : Int32) =>
  (r1 = 0 → (
    ok_M_alter_18 a1 a2 a3 S)) ∧ (¬ (r1 = 0) → (
    (a2 < 0 → (
      ok_M_alter_18 a1 a2 a3 S)) ∧ (¬ (a2 < 0) → (
      (a2 ≤ (10 : Int32) → (
        (vp_in a1 4) ∧ (
          ((S.1 28 0 0 a1.toNatClampNeg) = 0 → (
            ok_M_alter_44 a1 a2 a3 S)) ∧ (¬ ((S.1 28 0 0 a1.toNatClampNeg) = 0) → (
            (vp_in ((16 : Int32) * a1) 64) ∧ (
              ((S.1 29 0 0 ((16 : Int32) * a1).toNatClampNeg) ≤ (3 : Int32) → (
                ok_M_alter_49 a1 a2 a3 S (0 : Int32))) ∧ (¬ ((S.1 29 0 0 ((16 : Int32) * a1).toNatClampNeg) ≤ (3 : Int32)) → (
                ok_M_alter_44 a1 a2 a3 S)))))))) ∧ (¬ (a2 ≤ (10 : Int32)) → (
        ok_M_alter_18 a1 a2 a3 S))))))
set_option maxHeartbeats 4000000 in
set_option maxRecDepth 100000 in
theorem c_M_alter (l : Launch) (D : va_G) (X : va_W) (ad : N3 → Nat) (ca : Nat → ClassId) (a1 : Int32) (a2 : Int32) (a3 : Int64)  (S : St) (hk : ok_M_alter a1 a2 a3 S) : cI l GG D clM (tysM ca) nwM X ad TM (cfM ad ca) y_M_alter b_M_alter 5 .boolean 1 20 [.ref (ad (1, 0, 0)), .int a1, .int a2, .long a3] S (f_M_alter a1 a2 a3 S) := by
  generalize hr : f_M_alter a1 a2 a3 S = res
  refine zI_of pn_M (Nat.le_of_ble_eq_true rfl) (fun p e s m below meth c A ls hy hW hA hl => ?_)
  have hF := hy.1
  have hx := hF.1
  have hb := hF.2.1
  have hK := hy.2.2.2
  have hl : lv_has ls 5 [(0, .ref (ad (1, 0, 0))), (1, .int a1), (2, .int a2), (3, .long a3)] := hl
  refine lv_aload_n (pc := 0) hx hb d_M_alter_0 rfl (lv_at hl 0 rfl) ?_
  refine lv_iload_n (pc := 1) hx hb d_M_alter_1 rfl (lv_at hl 1 rfl) ?_
  obtain ⟨r1, er1⟩ : ∃ z : Int32, z = f_M_isNode a1 S := ⟨_, rfl⟩
  have hk := lt_p er1 hk
  have hr := lt_e er1 hr
  refine p_go (pc := 2) (congrArg Value.int er1) (p_runS hF hK hW (c_M_isNode l D X ad ca a1 S _) cd_M_isNode gw_1022 ⟨Nat.le_of_ble_eq_true rfl, Nat.le_of_ble_eq_true rfl⟩ ⟨Nat.zero_le _, Nat.zero_le _⟩ rfl rfl hl.1 (Nat.le_of_ble_eq_true rfl) d_M_alter_2) ?_
  refine lv_if_eq (pc := 5) (tgt := 18) hx hb d_M_alter_5 (by decide) (fun c2 => ?_) (fun c2 => ?_)
  · have hk := hk.1 c2
    have hr := (if_pos c2).symm.trans hr
    exact w_M_alter_18 a1 a2 a3 hy hA S hk hr _ _ _ hW (lv_sub hl [0, 1, 2, 3] rfl)
  · have hk := hk.2 c2
    have hr := (if_neg c2).symm.trans hr
    refine lv_iload_n (pc := 8) hx hb d_M_alter_8 rfl (lv_at hl 2 rfl) ?_
    refine lv_if_lt (pc := 9) (tgt := 18) hx hb d_M_alter_9 (by decide) (fun c3 => ?_) (fun c3 => ?_)
    · have hk := hk.1 c3
      have hr := (if_pos c3).symm.trans hr
      exact w_M_alter_18 a1 a2 a3 hy hA S hk hr _ _ _ hW (lv_sub hl [0, 1, 2, 3] rfl)
    · have hk := hk.2 c3
      have hr := (if_neg c3).symm.trans hr
      refine lv_iload_n (pc := 12) hx hb d_M_alter_12 rfl (lv_at hl 2 rfl) ?_
      refine lv_bipush (pc := 13) (v := 10) hx hb d_M_alter_13 (by decide) ?_
      refine lv_icmp_le (pc := 15) (tgt := 22) hx hb d_M_alter_15 (by decide) (fun c4 => ?_) (fun c4 => ?_)
      · have hk := hk.1 c4
        have hr := (if_pos c4).symm.trans hr
        refine lv_aload_n (pc := 22) hx hb d_M_alter_22 rfl (lv_at hl 0 rfl) ?_
        refine z_get (pc := 23) (v := .ref (ad (28, 0, 0))) hF hK.1 hW tm1 rfl rfl in_M 33 (by decide) gw_917 rfl rfl d_M_alter_23 ?_
        refine lv_iload_n (pc := 26) hx hb d_M_alter_26 rfl (lv_at hl 1 rfl) ?_
        have b5 := hk.1
        have hk := hk.2
        refine z_iald (pc := 27) (v := S.1 28 0 0 a1.toNatClampNeg) hF hK.1 hW tm28 0 rfl rfl b5 rfl d_M_alter_27 ?_
        refine lv_if_eq (pc := 28) (tgt := 44) hx hb d_M_alter_28 (by decide) (fun c6 => ?_) (fun c6 => ?_)
        · have hk := hk.1 c6
          have hr := (if_pos c6).symm.trans hr
          exact w_M_alter_44 a1 a2 a3 hy hA S hk hr _ _ _ hW (lv_sub hl [0, 1, 2, 3] rfl)
        · have hk := hk.2 c6
          have hr := (if_neg c6).symm.trans hr
          refine lv_aload_n (pc := 31) hx hb d_M_alter_31 rfl (lv_at hl 0 rfl) ?_
          refine z_get (pc := 32) (v := .ref (ad (29, 0, 0))) hF hK.1 hW tm1 rfl rfl in_M 34 (by decide) gw_918 rfl rfl d_M_alter_32 ?_
          refine lv_bipush (pc := 35) (v := 16) hx hb d_M_alter_35 (by decide) ?_
          refine lv_iload_n (pc := 37) hx hb d_M_alter_37 rfl (lv_at hl 1 rfl) ?_
          refine lv_imul (pc := 38) hx hb d_M_alter_38 ?_
          have b7 := hk.1
          have hk := hk.2
          refine z_iald (pc := 39) (v := S.1 29 0 0 ((16 : Int32) * a1).toNatClampNeg) hF hK.1 hW tm29 0 rfl rfl b7 rfl d_M_alter_39 ?_
          refine lv_iconst (pc := 40) (v := 3) hx hb d_M_alter_40 (by decide) ?_
          refine lv_icmp_le (pc := 41) (tgt := 48) hx hb d_M_alter_41 (by decide) (fun c8 => ?_) (fun c8 => ?_)
          · have hk := hk.1 c8
            have hr := (if_pos c8).symm.trans hr
            refine lv_iconst (pc := 48) (v := 0) hx hb d_M_alter_48 (by decide) ?_
            exact w_M_alter_49 a1 a2 a3 hy hA S (0 : Int32) hk hr _ _ _ hW (lv_sub hl [0, 1, 2, 3] rfl)
          · have hk := hk.2 c8
            have hr := (if_neg c8).symm.trans hr
            exact w_M_alter_44 a1 a2 a3 hy hA S hk hr _ _ _ hW (lv_sub hl [0, 1, 2, 3] rfl)
      · have hk := hk.2 c4
        have hr := (if_neg c4).symm.trans hr
        exact w_M_alter_18 a1 a2 a3 hy hA S hk hr _ _ _ hW (lv_sub hl [0, 1, 2, 3] rfl)
theorem d_M_lie_0 : decode b_M_lie 0 = .ok (.iload_n 1, 1) := by decide +kernel
theorem d_M_lie_1 : decode b_M_lie 1 = .ok (.invokestatic 231, 3) := by decide +kernel
theorem d_M_lie_4 : decode b_M_lie 4 = .ok (.ifCond .eq 49, 3) := by decide +kernel
theorem d_M_lie_7 : decode b_M_lie 7 = .ok (.aload_n 0, 1) := by decide +kernel
theorem d_M_lie_8 : decode b_M_lie 8 = .ok (.iload_n 3, 1) := by decide +kernel
theorem d_M_lie_9 : decode b_M_lie 9 = .ok (.invokevirtual 262, 3) := by decide +kernel
theorem d_M_lie_12 : decode b_M_lie 12 = .ok (.ifCond .eq 41, 3) := by decide +kernel
theorem d_M_lie_15 : decode b_M_lie 15 = .ok (.iload 4, 2) := by decide +kernel
theorem d_M_lie_17 : decode b_M_lie 17 = .ok (.iconst (-1), 1) := by decide +kernel
theorem d_M_lie_18 : decode b_M_lie 18 = .ok (.if_icmp .eq 12, 3) := by decide +kernel
theorem d_M_lie_21 : decode b_M_lie 21 = .ok (.aload_n 0, 1) := by decide +kernel
theorem d_M_lie_22 : decode b_M_lie 22 = .ok (.iload 4, 2) := by decide +kernel
theorem d_M_lie_24 : decode b_M_lie 24 = .ok (.invokevirtual 255, 3) := by decide +kernel
theorem d_M_lie_27 : decode b_M_lie 27 = .ok (.ifCond .eq 26, 3) := by decide +kernel
theorem d_M_lie_30 : decode b_M_lie 30 = .ok (.iload_n 2, 1) := by decide +kernel
theorem d_M_lie_31 : decode b_M_lie 31 = .ok (.iconst 1, 1) := by decide +kernel
theorem d_M_lie_32 : decode b_M_lie 32 = .ok (.if_icmp .lt 21, 3) := by decide +kernel
theorem d_M_lie_35 : decode b_M_lie 35 = .ok (.iload_n 2, 1) := by decide +kernel
theorem d_M_lie_36 : decode b_M_lie 36 = .ok (.bipush 60, 2) := by decide +kernel
theorem d_M_lie_38 : decode b_M_lie 38 = .ok (.if_icmp .gt 15, 3) := by decide +kernel
theorem d_M_lie_41 : decode b_M_lie 41 = .ok (.iload_n 2, 1) := by decide +kernel
theorem d_M_lie_42 : decode b_M_lie 42 = .ok (.invokestatic 220, 3) := by decide +kernel
theorem d_M_lie_45 : decode b_M_lie 45 = .ok (.iconst 3, 1) := by decide +kernel
theorem d_M_lie_46 : decode b_M_lie 46 = .ok (.if_icmp .ne 7, 3) := by decide +kernel
theorem d_M_lie_49 : decode b_M_lie 49 = .ok (.iconst 1, 1) := by decide +kernel
theorem d_M_lie_50 : decode b_M_lie 50 = .ok (.goto 4, 3) := by decide +kernel
theorem d_M_lie_53 : decode b_M_lie 53 = .ok (.iconst 0, 1) := by decide +kernel
theorem d_M_lie_54 : decode b_M_lie 54 = .ok (.istore 5, 2) := by decide +kernel
theorem d_M_lie_56 : decode b_M_lie 56 = .ok (.aload_n 0, 1) := by decide +kernel
theorem d_M_lie_57 : decode b_M_lie 57 = .ok (.iload 5, 2) := by decide +kernel
theorem d_M_lie_59 : decode b_M_lie 59 = .ok (.ifCond .ne 7, 3) := by decide +kernel
theorem d_M_lie_62 : decode b_M_lie 62 = .ok (.iconst 1, 1) := by decide +kernel
theorem d_M_lie_63 : decode b_M_lie 63 = .ok (.goto 69, 3) := by decide +kernel
theorem d_M_lie_66 : decode b_M_lie 66 = .ok (.aload_n 0, 1) := by decide +kernel
theorem d_M_lie_67 : decode b_M_lie 67 = .ok (.getfield 43, 3) := by decide +kernel
theorem d_M_lie_70 : decode b_M_lie 70 = .ok (.iconst 3, 1) := by decide +kernel
theorem d_M_lie_71 : decode b_M_lie 71 = .ok (.baload, 1) := by decide +kernel
theorem d_M_lie_72 : decode b_M_lie 72 = .ok (.ifCond .eq 55, 3) := by decide +kernel
theorem d_M_lie_75 : decode b_M_lie 75 = .ok (.aload_n 0, 1) := by decide +kernel
theorem d_M_lie_76 : decode b_M_lie 76 = .ok (.getfield 64, 3) := by decide +kernel
theorem d_M_lie_79 : decode b_M_lie 79 = .ok (.iconst 3, 1) := by decide +kernel
theorem d_M_lie_80 : decode b_M_lie 80 = .ok (.iaload, 1) := by decide +kernel
theorem d_M_lie_81 : decode b_M_lie 81 = .ok (.bipush 32, 2) := by decide +kernel
theorem d_M_lie_83 : decode b_M_lie 83 = .ok (.if_icmp .eq 44, 3) := by decide +kernel
theorem d_M_lie_86 : decode b_M_lie 86 = .ok (.aload_n 0, 1) := by decide +kernel
theorem d_M_lie_87 : decode b_M_lie 87 = .ok (.getfield 67, 3) := by decide +kernel
theorem d_M_lie_90 : decode b_M_lie 90 = .ok (.sipush 300, 3) := by decide +kernel
theorem d_M_lie_93 : decode b_M_lie 93 = .ok (.iload_n 3, 1) := by decide +kernel
theorem d_M_lie_94 : decode b_M_lie 94 = .ok (.iadd, 1) := by decide +kernel
theorem d_M_lie_95 : decode b_M_lie 95 = .ok (.baload, 1) := by decide +kernel
theorem d_M_lie_96 : decode b_M_lie 96 = .ok (.ifCond .eq 31, 3) := by decide +kernel
theorem d_M_lie_99 : decode b_M_lie 99 = .ok (.aload_n 0, 1) := by decide +kernel
theorem d_M_lie_100 : decode b_M_lie 100 = .ok (.getfield 39, 3) := by decide +kernel
theorem d_M_lie_103 : decode b_M_lie 103 = .ok (.iload_n 3, 1) := by decide +kernel
theorem d_M_lie_104 : decode b_M_lie 104 = .ok (.baload, 1) := by decide +kernel
theorem d_M_lie_105 : decode b_M_lie 105 = .ok (.ifCond .eq 22, 3) := by decide +kernel
theorem d_M_lie_108 : decode b_M_lie 108 = .ok (.aload_n 0, 1) := by decide +kernel
theorem d_M_lie_109 : decode b_M_lie 109 = .ok (.getfield 30, 3) := by decide +kernel
theorem d_M_lie_112 : decode b_M_lie 112 = .ok (.iload_n 3, 1) := by decide +kernel
theorem d_M_lie_113 : decode b_M_lie 113 = .ok (.iaload, 1) := by decide +kernel
theorem d_M_lie_114 : decode b_M_lie 114 = .ok (.iload_n 2, 1) := by decide +kernel
theorem d_M_lie_115 : decode b_M_lie 115 = .ok (.if_icmp .ge 12, 3) := by decide +kernel
theorem d_M_lie_118 : decode b_M_lie 118 = .ok (.aload_n 0, 1) := by decide +kernel
theorem d_M_lie_119 : decode b_M_lie 119 = .ok (.getfield 26, 3) := by decide +kernel
theorem d_M_lie_122 : decode b_M_lie 122 = .ok (.bipush 100, 2) := by decide +kernel
theorem d_M_lie_124 : decode b_M_lie 124 = .ok (.if_icmp .ne 7, 3) := by decide +kernel
theorem d_M_lie_127 : decode b_M_lie 127 = .ok (.iconst 2, 1) := by decide +kernel
theorem d_M_lie_128 : decode b_M_lie 128 = .ok (.goto 4, 3) := by decide +kernel
theorem d_M_lie_131 : decode b_M_lie 131 = .ok (.iconst 0, 1) := by decide +kernel
theorem d_M_lie_132 : decode b_M_lie 132 = .ok (.putfield 141, 3) := by decide +kernel
theorem d_M_lie_135 : decode b_M_lie 135 = .ok (.aload_n 0, 1) := by decide +kernel
theorem d_M_lie_136 : decode b_M_lie 136 = .ok (.getfield 141, 3) := by decide +kernel
theorem d_M_lie_139 : decode b_M_lie 139 = .ok (.ifCond .le 5, 3) := by decide +kernel
theorem d_M_lie_142 : decode b_M_lie 142 = .ok (.iconst 0, 1) := by decide +kernel
theorem d_M_lie_143 : decode b_M_lie 143 = .ok (.ireturn, 1) := by decide +kernel
theorem d_M_lie_144 : decode b_M_lie 144 = .ok (.aload_n 0, 1) := by decide +kernel
theorem d_M_lie_145 : decode b_M_lie 145 = .ok (.iconst 3, 1) := by decide +kernel
theorem d_M_lie_146 : decode b_M_lie 146 = .ok (.iload_n 2, 1) := by decide +kernel
theorem d_M_lie_147 : decode b_M_lie 147 = .ok (.iload_n 3, 1) := by decide +kernel
theorem d_M_lie_148 : decode b_M_lie 148 = .ok (.iload 4, 2) := by decide +kernel
theorem d_M_lie_150 : decode b_M_lie 150 = .ok (.invokevirtual 190, 3) := by decide +kernel
theorem d_M_lie_153 : decode b_M_lie 153 = .ok (.istore 6, 2) := by decide +kernel
theorem d_M_lie_155 : decode b_M_lie 155 = .ok (.aload_n 0, 1) := by decide +kernel
theorem d_M_lie_156 : decode b_M_lie 156 = .ok (.iconst 3, 1) := by decide +kernel
theorem d_M_lie_157 : decode b_M_lie 157 = .ok (.aload_n 0, 1) := by decide +kernel
theorem d_M_lie_158 : decode b_M_lie 158 = .ok (.iconst 1, 1) := by decide +kernel
theorem d_M_lie_159 : decode b_M_lie 159 = .ok (.iconst 0, 1) := by decide +kernel
theorem d_M_lie_160 : decode b_M_lie 160 = .ok (.iload 6, 2) := by decide +kernel
theorem d_M_lie_162 : decode b_M_lie 162 = .ok (.invokevirtual 194, 3) := by decide +kernel
theorem d_M_lie_165 : decode b_M_lie 165 = .ok (.invokevirtual 197, 3) := by decide +kernel
theorem d_M_lie_168 : decode b_M_lie 168 = .ok (.istore 7, 2) := by decide +kernel
theorem d_M_lie_170 : decode b_M_lie 170 = .ok (.iload 7, 2) := by decide +kernel
theorem d_M_lie_172 : decode b_M_lie 172 = .ok (.ifCond .eq 13, 3) := by decide +kernel
theorem d_M_lie_175 : decode b_M_lie 175 = .ok (.aload_n 0, 1) := by decide +kernel
theorem d_M_lie_176 : decode b_M_lie 176 = .ok (.iconst 3, 1) := by decide +kernel
theorem d_M_lie_177 : decode b_M_lie 177 = .ok (.iload_n 1, 1) := by decide +kernel
theorem d_M_lie_178 : decode b_M_lie 178 = .ok (.iconst 1, 1) := by decide +kernel
theorem d_M_lie_179 : decode b_M_lie 179 = .ok (.iload 6, 2) := by decide +kernel
theorem d_M_lie_181 : decode b_M_lie 181 = .ok (.iconst 0, 1) := by decide +kernel
theorem d_M_lie_182 : decode b_M_lie 182 = .ok (.invokevirtual 201, 3) := by decide +kernel
theorem d_M_lie_185 : decode b_M_lie 185 = .ok (.iload 6, 2) := by decide +kernel
theorem d_M_lie_187 : decode b_M_lie 187 = .ok (.ireturn, 1) := by decide +kernel
def f_M_lie_132 (a1 : Int32) (a2 : Int32) (a3 : Int32) (a4 : Int32) (S : St) (t0 : Int32) : Int32 × St :=
  lt (si S 1 0 0 1 t0) fun (S24 : St) =>
  if (S24.1 1 0 0 1) ≤ 0 then
    lt (f_M_newBlock (3 : Int32) a2 a3 a4 S24) fun (r27 : Int32 × St) =>
    lt (f_M_meant (1 : Int32) (0 : Int32) r27.1 r27.2) fun (r28 : Int64 × St) =>
    lt (f_M_signs (3 : Int32) r28.1 r28.2) fun (r30 : Int32 × St) =>
    if r30.1 = 0 then
      (r27.1, r30.2)
    else
      lt (f_M_send (3 : Int32) a1 (1 : Int32) r27.1 (0 : Int32) r30.2) fun (S34 : St) =>
      (r27.1, S34)
  else
    ((0 : Int32), S24)
def ok_M_lie_132 (a1 : Int32) (a2 : Int32) (a3 : Int32) (a4 : Int32) (S : St) (t0 : Int32) : Prop :=
  lt (si S 1 0 0 1 t0) fun (S24 : St) =>
  ((S24.1 1 0 0 1) ≤ 0 → (
    (ok_M_newBlock (3 : Int32) a2 a3 a4 S24) ∧ (
      lt (f_M_newBlock (3 : Int32) a2 a3 a4 S24) fun (r27 : Int32 × St) =>
      lt (f_M_meant (1 : Int32) (0 : Int32) r27.1 r27.2) fun (r28 : Int64 × St) =>
      (ok_M_signs (3 : Int32) r28.1 r28.2) ∧ (
        lt (f_M_signs (3 : Int32) r28.1 r28.2) fun (r30 : Int32 × St) =>
        (r30.1 = 0 → (
          True)) ∧ (¬ (r30.1 = 0) → (
          (ok_M_send (3 : Int32) a1 (1 : Int32) r27.1 (0 : Int32) r30.2) ∧ (
            True))))))) ∧ (¬ ((S24.1 1 0 0 1) ≤ 0) → (
    True))
set_option maxHeartbeats 4000000 in
set_option maxRecDepth 100000 in
theorem w_M_lie_132 {l : Launch} {D : va_G} {X : va_W} {ad : N3 → Nat} {ca : Nat → ClassId} (a1 : Int32) (a2 : Int32) (a3 : Int32) (a4 : Int32)  {p : Program} {e : Env} {s : State} {m : MethodId} {below : List Frame} {meth : Method} {c : Code} {A : Nat → Prop} (hy : Hy p s m ([.ref (ad (1, 0, 0)), .int a1, .int a2, .int a3, .int a4] : List Value).toArray meth c b_M_lie 8 (some .int) R_M GG D clM (tysM ca) nwM) (hA : ∀ q, s.heap.size ≤ q → A q) {res : Int32 × St} : ∀  (S : St) (t0 : Int32) , ok_M_lie_132 a1 a2 a3 a4 S t0 → f_M_lie_132 a1 a2 a3 a4 S t0 = res → ∀ (H : Heap) (locs : List Loc) (ls : Array Slot), Wd D clM A s.heap (zw X ad TM (cfM ad ca) S) H locs → lv_has ls 8 [(0, .ref (ad (1, 0, 0))), (1, .int a1), (2, .int a2), (3, .int a3), (4, .int a4)] → W p l e { frames := 4, cells := 0, slots := 0, locals := 98 } s m ([.ref (ad (1, 0, 0)), .int a1, .int a2, .int a3, .int a4] : List Value).toArray below meth c H locs 0 0 (MQ below (eI D clM X ad TM (cfM ad ca) A res) ([.ref (ad (1, 0, 0)), .int a1, .int a2, .int a3, .int a4] : List Value).toArray s 0 0 A) (F0 m 132 ls [.int t0, .ref (ad (1, 0, 0))]) := by
  have hF := hy.1
  have hx := hF.1
  have hb := hF.2.1
  have hK := hy.2.2.2
  intro S t0 hk hr H locs ls hW hl
  obtain ⟨S24, eS24⟩ : ∃ z : St, z = si S 1 0 0 1 t0 := ⟨_, rfl⟩
  have hk := lt_p eS24 hk
  have hr := lt_e eS24 hr
  refine z_put (pc := 132) (S' := S24) hF hK.1 hW tm1 rfl rfl in_M t_M tyo_M nmo_M 1 (by decide) gw_885 rfl rfl rfl rfl rfl (Nat.le_of_ble_eq_true rfl) (zs_si eS24 rfl) (zs_sio eS24) d_M_lie_132 (fun H locs (hW : Wd D clM A s.heap (zw X ad TM (cfM ad ca) S24) H locs) => ?_)
  refine lv_aload_n (pc := 135) hx hb d_M_lie_135 rfl (lv_at hl 0 rfl) ?_
  refine z_get (pc := 136) (v := .int (S24.1 1 0 0 1)) hF hK.1 hW tm1 rfl rfl in_M 1 (by decide) gw_885 rfl rfl d_M_lie_136 ?_
  refine lv_if_le (pc := 139) (tgt := 144) hx hb d_M_lie_139 (by decide) (fun c25 => ?_) (fun c25 => ?_)
  · have hk := hk.1 c25
    have hr := (if_pos c25).symm.trans hr
    refine lv_aload_n (pc := 144) hx hb d_M_lie_144 rfl (lv_at hl 0 rfl) ?_
    refine lv_iconst (pc := 145) (v := 3) hx hb d_M_lie_145 (by decide) ?_
    refine lv_iload_n (pc := 146) hx hb d_M_lie_146 rfl (lv_at hl 2 rfl) ?_
    refine lv_iload_n (pc := 147) hx hb d_M_lie_147 rfl (lv_at hl 3 rfl) ?_
    refine lv_iload (pc := 148) hx hb d_M_lie_148 (lv_at hl 4 rfl) ?_
    have o26 := hk.1
    have hk := hk.2
    obtain ⟨r27, er27⟩ : ∃ z : Int32 × St, z = f_M_newBlock (3 : Int32) a2 a3 a4 S24 := ⟨_, rfl⟩
    have hk := lt_p er27 hk
    have hr := lt_e er27 hr
    refine z_goI (pc := 150) hW hA (show (r27.1, r27.2) = _ from er27) (z_runV hF hK hW (c_M_newBlock l D X ad ca (3 : Int32) a2 a3 a4 S24 o26 _) cd_M_newBlock gw_1105 tm1 rfl rfl ⟨Nat.le_of_ble_eq_true rfl, Nat.le_of_ble_eq_true rfl⟩ ⟨Nat.zero_le _, Nat.zero_le _⟩ rfl rfl hl.1 (Nat.le_of_ble_eq_true rfl) d_M_lie_150) (fun H locs (hW : Wd D clM A s.heap (zw X ad TM (cfM ad ca) r27.2) H locs) => ?_)
    refine lv_istore (pc := 153) (lv' := [(6, .int r27.1), (0, .ref (ad (1, 0, 0))), (1, .int a1), (2, .int a2), (3, .int a3), (4, .int a4)]) hx hb d_M_lie_153 hl (by decide) rfl (fun ls hl => ?_)
    refine lv_aload_n (pc := 155) hx hb d_M_lie_155 rfl (lv_at hl 1 rfl) ?_
    refine lv_iconst (pc := 156) (v := 3) hx hb d_M_lie_156 (by decide) ?_
    refine lv_aload_n (pc := 157) hx hb d_M_lie_157 rfl (lv_at hl 1 rfl) ?_
    refine lv_iconst (pc := 158) (v := 1) hx hb d_M_lie_158 (by decide) ?_
    refine lv_iconst (pc := 159) (v := 0) hx hb d_M_lie_159 (by decide) ?_
    refine lv_iload (pc := 160) hx hb d_M_lie_160 (lv_at hl 0 rfl) ?_
    obtain ⟨r28, er28⟩ : ∃ z : Int64 × St, z = f_M_meant (1 : Int32) (0 : Int32) r27.1 r27.2 := ⟨_, rfl⟩
    have hk := lt_p er28 hk
    have hr := lt_e er28 hr
    refine z_goL (pc := 162) hW hA (show (r28.1, r28.2) = _ from er28) (z_runV hF hK hW (c_M_meant l D X ad ca (1 : Int32) (0 : Int32) r27.1 r27.2 _) cd_M_meant gw_1041 tm1 rfl rfl ⟨Nat.le_of_ble_eq_true rfl, Nat.le_of_ble_eq_true rfl⟩ ⟨Nat.zero_le _, Nat.zero_le _⟩ rfl rfl hl.1 (Nat.le_of_ble_eq_true rfl) d_M_lie_162) (fun H locs (hW : Wd D clM A s.heap (zw X ad TM (cfM ad ca) r28.2) H locs) => ?_)
    have o29 := hk.1
    have hk := hk.2
    obtain ⟨r30, er30⟩ : ∃ z : Int32 × St, z = f_M_signs (3 : Int32) r28.1 r28.2 := ⟨_, rfl⟩
    have hk := lt_p er30 hk
    have hr := lt_e er30 hr
    refine z_goI (pc := 165) hW hA (show (r30.1, r30.2) = _ from er30) (z_runV hF hK hW (c_M_signs l D X ad ca (3 : Int32) r28.1 r28.2 o29 _) cd_M_signs gw_1086 tm1 rfl rfl ⟨Nat.le_of_ble_eq_true rfl, Nat.le_of_ble_eq_true rfl⟩ ⟨Nat.zero_le _, Nat.zero_le _⟩ rfl rfl hl.1 (Nat.le_of_ble_eq_true rfl) d_M_lie_165) (fun H locs (hW : Wd D clM A s.heap (zw X ad TM (cfM ad ca) r30.2) H locs) => ?_)
    refine lv_istore (pc := 168) (lv' := [(7, .int r30.1), (6, .int r27.1), (0, .ref (ad (1, 0, 0))), (1, .int a1), (2, .int a2), (3, .int a3), (4, .int a4)]) hx hb d_M_lie_168 hl (by decide) rfl (fun ls hl => ?_)
    refine lv_iload (pc := 170) hx hb d_M_lie_170 (lv_at hl 0 rfl) ?_
    refine lv_if_eq (pc := 172) (tgt := 185) hx hb d_M_lie_172 (by decide) (fun c31 => ?_) (fun c31 => ?_)
    · have hk := hk.1 c31
      have hr := (if_pos c31).symm.trans hr
      refine lv_iload (pc := 185) hx hb d_M_lie_185 (lv_at hl 1 rfl) ?_
      exact z_iret (v := r27.1) hy hW hr.symm d_M_lie_187
    · have hk := hk.2 c31
      have hr := (if_neg c31).symm.trans hr
      refine lv_aload_n (pc := 175) hx hb d_M_lie_175 rfl (lv_at hl 2 rfl) ?_
      refine lv_iconst (pc := 176) (v := 3) hx hb d_M_lie_176 (by decide) ?_
      refine lv_iload_n (pc := 177) hx hb d_M_lie_177 rfl (lv_at hl 3 rfl) ?_
      refine lv_iconst (pc := 178) (v := 1) hx hb d_M_lie_178 (by decide) ?_
      refine lv_iload (pc := 179) hx hb d_M_lie_179 (lv_at hl 1 rfl) ?_
      refine lv_iconst (pc := 181) (v := 0) hx hb d_M_lie_181 (by decide) ?_
      have o32 := hk.1
      have hk := hk.2
      obtain ⟨S34, eS34⟩ : ∃ z : St, z = f_M_send (3 : Int32) a1 (1 : Int32) r27.1 (0 : Int32) r30.2 := ⟨_, rfl⟩
      have hr := lt_e eS34 hr
      refine z_goV (pc := 182) hW hA eS34 (z_runV hF hK hW (c_M_send l D X ad ca (3 : Int32) a1 (1 : Int32) r27.1 (0 : Int32) r30.2 o32 _) cd_M_send gw_1033 tm1 rfl rfl ⟨Nat.le_of_ble_eq_true rfl, Nat.le_of_ble_eq_true rfl⟩ ⟨Nat.zero_le _, Nat.zero_le _⟩ rfl rfl hl.1 (Nat.le_of_ble_eq_true rfl) d_M_lie_182) (fun H locs (hW : Wd D clM A s.heap (zw X ad TM (cfM ad ca) S34) H locs) => ?_)
      refine lv_iload (pc := 185) hx hb d_M_lie_185 (lv_at hl 1 rfl) ?_
      exact z_iret (v := r27.1) hy hW hr.symm d_M_lie_187
  · have hk := hk.2 c25
    have hr := (if_neg c25).symm.trans hr
    refine lv_iconst (pc := 142) (v := 0) hx hb d_M_lie_142 (by decide) ?_
    exact z_iret (v := (0 : Int32)) hy hW hr.symm d_M_lie_143
def f_M_lie_127 (a1 : Int32) (a2 : Int32) (a3 : Int32) (a4 : Int32) (S : St)  : Int32 × St :=
  f_M_lie_132 a1 a2 a3 a4 S (2 : Int32)
def ok_M_lie_127 (a1 : Int32) (a2 : Int32) (a3 : Int32) (a4 : Int32) (S : St)  : Prop :=
  ok_M_lie_132 a1 a2 a3 a4 S (2 : Int32)
set_option maxHeartbeats 4000000 in
set_option maxRecDepth 100000 in
theorem w_M_lie_127 {l : Launch} {D : va_G} {X : va_W} {ad : N3 → Nat} {ca : Nat → ClassId} (a1 : Int32) (a2 : Int32) (a3 : Int32) (a4 : Int32)  {p : Program} {e : Env} {s : State} {m : MethodId} {below : List Frame} {meth : Method} {c : Code} {A : Nat → Prop} (hy : Hy p s m ([.ref (ad (1, 0, 0)), .int a1, .int a2, .int a3, .int a4] : List Value).toArray meth c b_M_lie 8 (some .int) R_M GG D clM (tysM ca) nwM) (hA : ∀ q, s.heap.size ≤ q → A q) {res : Int32 × St} : ∀  (S : St)  , ok_M_lie_127 a1 a2 a3 a4 S → f_M_lie_127 a1 a2 a3 a4 S = res → ∀ (H : Heap) (locs : List Loc) (ls : Array Slot), Wd D clM A s.heap (zw X ad TM (cfM ad ca) S) H locs → lv_has ls 8 [(0, .ref (ad (1, 0, 0))), (1, .int a1), (2, .int a2), (3, .int a3), (4, .int a4)] → W p l e { frames := 4, cells := 0, slots := 0, locals := 98 } s m ([.ref (ad (1, 0, 0)), .int a1, .int a2, .int a3, .int a4] : List Value).toArray below meth c H locs 0 0 (MQ below (eI D clM X ad TM (cfM ad ca) A res) ([.ref (ad (1, 0, 0)), .int a1, .int a2, .int a3, .int a4] : List Value).toArray s 0 0 A) (F0 m 127 ls [.ref (ad (1, 0, 0))]) := by
  have hF := hy.1
  have hx := hF.1
  have hb := hF.2.1
  have hK := hy.2.2.2
  intro S hk hr H locs ls hW hl
  refine lv_iconst (pc := 127) (v := 2) hx hb d_M_lie_127 (by decide) ?_
  refine lv_goto (pc := 128) (tgt := 132) hx hb d_M_lie_128 (by decide) ?_
  exact w_M_lie_132 a1 a2 a3 a4 hy hA S (2 : Int32) hk hr _ _ _ hW (lv_sub hl [0, 1, 2, 3, 4] rfl)
def f_M_lie_54 (a1 : Int32) (a2 : Int32) (a3 : Int32) (a4 : Int32) (S : St) (t0 : Int32) : Int32 × St :=
  if t0 = 0 then
    f_M_lie_132 a1 a2 a3 a4 S (1 : Int32)
  else
    if (S.1 11 0 0 3) = 0 then
      f_M_lie_127 a1 a2 a3 a4 S
    else
      if (S.1 18 0 0 3) = (32 : Int32) then
        f_M_lie_127 a1 a2 a3 a4 S
      else
        if (S.1 19 0 0 ((300 : Int32) + a3).toNatClampNeg) = 0 then
          f_M_lie_127 a1 a2 a3 a4 S
        else
          if (S.1 10 0 0 a3.toNatClampNeg) = 0 then
            f_M_lie_127 a1 a2 a3 a4 S
          else
            if a2 ≤ (S.1 7 0 0 a3.toNatClampNeg) then
              f_M_lie_127 a1 a2 a3 a4 S
            else
              if (S.1 1 0 0 11) = (100 : Int32) then
                f_M_lie_127 a1 a2 a3 a4 S
              else
                f_M_lie_132 a1 a2 a3 a4 S (0 : Int32)
def ok_M_lie_54 (a1 : Int32) (a2 : Int32) (a3 : Int32) (a4 : Int32) (S : St) (t0 : Int32) : Prop :=
  (t0 = 0 → (
    ok_M_lie_132 a1 a2 a3 a4 S (1 : Int32))) ∧ (¬ (t0 = 0) → (
    ((S.1 11 0 0 3) = 0 → (
      ok_M_lie_127 a1 a2 a3 a4 S)) ∧ (¬ ((S.1 11 0 0 3) = 0) → (
      ((S.1 18 0 0 3) = (32 : Int32) → (
        ok_M_lie_127 a1 a2 a3 a4 S)) ∧ (¬ ((S.1 18 0 0 3) = (32 : Int32)) → (
        (vp_in ((300 : Int32) + a3) 400) ∧ (
          ((S.1 19 0 0 ((300 : Int32) + a3).toNatClampNeg) = 0 → (
            ok_M_lie_127 a1 a2 a3 a4 S)) ∧ (¬ ((S.1 19 0 0 ((300 : Int32) + a3).toNatClampNeg) = 0) → (
            (vp_in a3 100) ∧ (
              ((S.1 10 0 0 a3.toNatClampNeg) = 0 → (
                ok_M_lie_127 a1 a2 a3 a4 S)) ∧ (¬ ((S.1 10 0 0 a3.toNatClampNeg) = 0) → (
                (vp_in a3 100) ∧ (
                  (a2 ≤ (S.1 7 0 0 a3.toNatClampNeg) → (
                    ok_M_lie_127 a1 a2 a3 a4 S)) ∧ (¬ (a2 ≤ (S.1 7 0 0 a3.toNatClampNeg)) → (
                    ((S.1 1 0 0 11) = (100 : Int32) → (
                      ok_M_lie_127 a1 a2 a3 a4 S)) ∧ (¬ ((S.1 1 0 0 11) = (100 : Int32)) → (
                      ok_M_lie_132 a1 a2 a3 a4 S (0 : Int32))))))))))))))))))
set_option maxHeartbeats 4000000 in
set_option maxRecDepth 100000 in
theorem w_M_lie_54 {l : Launch} {D : va_G} {X : va_W} {ad : N3 → Nat} {ca : Nat → ClassId} (a1 : Int32) (a2 : Int32) (a3 : Int32) (a4 : Int32)  {p : Program} {e : Env} {s : State} {m : MethodId} {below : List Frame} {meth : Method} {c : Code} {A : Nat → Prop} (hy : Hy p s m ([.ref (ad (1, 0, 0)), .int a1, .int a2, .int a3, .int a4] : List Value).toArray meth c b_M_lie 8 (some .int) R_M GG D clM (tysM ca) nwM) (hA : ∀ q, s.heap.size ≤ q → A q) {res : Int32 × St} : ∀  (S : St) (t0 : Int32) , ok_M_lie_54 a1 a2 a3 a4 S t0 → f_M_lie_54 a1 a2 a3 a4 S t0 = res → ∀ (H : Heap) (locs : List Loc) (ls : Array Slot), Wd D clM A s.heap (zw X ad TM (cfM ad ca) S) H locs → lv_has ls 8 [(0, .ref (ad (1, 0, 0))), (1, .int a1), (2, .int a2), (3, .int a3), (4, .int a4)] → W p l e { frames := 4, cells := 0, slots := 0, locals := 98 } s m ([.ref (ad (1, 0, 0)), .int a1, .int a2, .int a3, .int a4] : List Value).toArray below meth c H locs 0 0 (MQ below (eI D clM X ad TM (cfM ad ca) A res) ([.ref (ad (1, 0, 0)), .int a1, .int a2, .int a3, .int a4] : List Value).toArray s 0 0 A) (F0 m 54 ls [.int t0]) := by
  have hF := hy.1
  have hx := hF.1
  have hb := hF.2.1
  have hK := hy.2.2.2
  intro S t0 hk hr H locs ls hW hl
  refine lv_istore (pc := 54) (lv' := [(5, .int t0), (0, .ref (ad (1, 0, 0))), (1, .int a1), (2, .int a2), (3, .int a3), (4, .int a4)]) hx hb d_M_lie_54 hl (by decide) rfl (fun ls hl => ?_)
  refine lv_aload_n (pc := 56) hx hb d_M_lie_56 rfl (lv_at hl 1 rfl) ?_
  refine lv_iload (pc := 57) hx hb d_M_lie_57 (lv_at hl 0 rfl) ?_
  refine lv_if_ne (pc := 59) (tgt := 66) hx hb d_M_lie_59 (by decide) (fun c12 => ?_) (fun c12 => ?_)
  · have hk := hk.2 c12
    have hr := (if_neg c12).symm.trans hr
    refine lv_aload_n (pc := 66) hx hb d_M_lie_66 rfl (lv_at hl 1 rfl) ?_
    refine z_get (pc := 67) (v := .ref (ad (11, 0, 0))) hF hK.1 hW tm1 rfl rfl in_M 16 (by decide) gw_900 rfl rfl d_M_lie_67 ?_
    refine lv_iconst (pc := 70) (v := 3) hx hb d_M_lie_70 (by decide) ?_
    have b13 : vp_in (3 : Int32) 4 := by unfold vp_in; decide
    refine z_zald (pc := 71) (v := S.1 11 0 0 3) hF hK.1 hW tm11 2 rfl rfl b13 rfl d_M_lie_71 ?_
    refine lv_if_eq (pc := 72) (tgt := 127) hx hb d_M_lie_72 (by decide) (fun c14 => ?_) (fun c14 => ?_)
    · have hk := hk.1 c14
      have hr := (if_pos c14).symm.trans hr
      exact w_M_lie_127 a1 a2 a3 a4 hy hA S hk hr _ _ _ hW (lv_sub hl [1, 2, 3, 4, 5] rfl)
    · have hk := hk.2 c14
      have hr := (if_neg c14).symm.trans hr
      refine lv_aload_n (pc := 75) hx hb d_M_lie_75 rfl (lv_at hl 1 rfl) ?_
      refine z_get (pc := 76) (v := .ref (ad (18, 0, 0))) hF hK.1 hW tm1 rfl rfl in_M 23 (by decide) gw_907 rfl rfl d_M_lie_76 ?_
      refine lv_iconst (pc := 79) (v := 3) hx hb d_M_lie_79 (by decide) ?_
      have b15 : vp_in (3 : Int32) 4 := by unfold vp_in; decide
      refine z_iald (pc := 80) (v := S.1 18 0 0 3) hF hK.1 hW tm18 0 rfl rfl b15 rfl d_M_lie_80 ?_
      refine lv_bipush (pc := 81) (v := 32) hx hb d_M_lie_81 (by decide) ?_
      refine lv_icmp_eq (pc := 83) (tgt := 127) hx hb d_M_lie_83 (by decide) (fun c16 => ?_) (fun c16 => ?_)
      · have hk := hk.1 c16
        have hr := (if_pos c16).symm.trans hr
        exact w_M_lie_127 a1 a2 a3 a4 hy hA S hk hr _ _ _ hW (lv_sub hl [1, 2, 3, 4, 5] rfl)
      · have hk := hk.2 c16
        have hr := (if_neg c16).symm.trans hr
        refine lv_aload_n (pc := 86) hx hb d_M_lie_86 rfl (lv_at hl 1 rfl) ?_
        refine z_get (pc := 87) (v := .ref (ad (19, 0, 0))) hF hK.1 hW tm1 rfl rfl in_M 24 (by decide) gw_908 rfl rfl d_M_lie_87 ?_
        refine lv_sipush (pc := 90) (v := 300) hx hb d_M_lie_90 (by decide) ?_
        refine lv_iload_n (pc := 93) hx hb d_M_lie_93 rfl (lv_at hl 4 rfl) ?_
        refine lv_iadd (pc := 94) hx hb d_M_lie_94 ?_
        have b17 := hk.1
        have hk := hk.2
        refine z_zald (pc := 95) (v := S.1 19 0 0 ((300 : Int32) + a3).toNatClampNeg) hF hK.1 hW tm19 2 rfl rfl b17 rfl d_M_lie_95 ?_
        refine lv_if_eq (pc := 96) (tgt := 127) hx hb d_M_lie_96 (by decide) (fun c18 => ?_) (fun c18 => ?_)
        · have hk := hk.1 c18
          have hr := (if_pos c18).symm.trans hr
          exact w_M_lie_127 a1 a2 a3 a4 hy hA S hk hr _ _ _ hW (lv_sub hl [1, 2, 3, 4, 5] rfl)
        · have hk := hk.2 c18
          have hr := (if_neg c18).symm.trans hr
          refine lv_aload_n (pc := 99) hx hb d_M_lie_99 rfl (lv_at hl 1 rfl) ?_
          refine z_get (pc := 100) (v := .ref (ad (10, 0, 0))) hF hK.1 hW tm1 rfl rfl in_M 15 (by decide) gw_899 rfl rfl d_M_lie_100 ?_
          refine lv_iload_n (pc := 103) hx hb d_M_lie_103 rfl (lv_at hl 4 rfl) ?_
          have b19 := hk.1
          have hk := hk.2
          refine z_zald (pc := 104) (v := S.1 10 0 0 a3.toNatClampNeg) hF hK.1 hW tm10 2 rfl rfl b19 rfl d_M_lie_104 ?_
          refine lv_if_eq (pc := 105) (tgt := 127) hx hb d_M_lie_105 (by decide) (fun c20 => ?_) (fun c20 => ?_)
          · have hk := hk.1 c20
            have hr := (if_pos c20).symm.trans hr
            exact w_M_lie_127 a1 a2 a3 a4 hy hA S hk hr _ _ _ hW (lv_sub hl [1, 2, 3, 4, 5] rfl)
          · have hk := hk.2 c20
            have hr := (if_neg c20).symm.trans hr
            refine lv_aload_n (pc := 108) hx hb d_M_lie_108 rfl (lv_at hl 1 rfl) ?_
            refine z_get (pc := 109) (v := .ref (ad (7, 0, 0))) hF hK.1 hW tm1 rfl rfl in_M 12 (by decide) gw_896 rfl rfl d_M_lie_109 ?_
            refine lv_iload_n (pc := 112) hx hb d_M_lie_112 rfl (lv_at hl 4 rfl) ?_
            have b21 := hk.1
            have hk := hk.2
            refine z_iald (pc := 113) (v := S.1 7 0 0 a3.toNatClampNeg) hF hK.1 hW tm7 0 rfl rfl b21 rfl d_M_lie_113 ?_
            refine lv_iload_n (pc := 114) hx hb d_M_lie_114 rfl (lv_at hl 3 rfl) ?_
            refine lv_icmp_ge (pc := 115) (tgt := 127) hx hb d_M_lie_115 (by decide) (fun c22 => ?_) (fun c22 => ?_)
            · have hk := hk.1 c22
              have hr := (if_pos c22).symm.trans hr
              exact w_M_lie_127 a1 a2 a3 a4 hy hA S hk hr _ _ _ hW (lv_sub hl [1, 2, 3, 4, 5] rfl)
            · have hk := hk.2 c22
              have hr := (if_neg c22).symm.trans hr
              refine lv_aload_n (pc := 118) hx hb d_M_lie_118 rfl (lv_at hl 1 rfl) ?_
              refine z_get (pc := 119) (v := .int (S.1 1 0 0 11)) hF hK.1 hW tm1 rfl rfl in_M 11 (by decide) gw_895 rfl rfl d_M_lie_119 ?_
              refine lv_bipush (pc := 122) (v := 100) hx hb d_M_lie_122 (by decide) ?_
              refine lv_icmp_ne (pc := 124) (tgt := 131) hx hb d_M_lie_124 (by decide) (fun c23 => ?_) (fun c23 => ?_)
              · have hk := hk.2 c23
                have hr := (if_neg c23).symm.trans hr
                refine lv_iconst (pc := 131) (v := 0) hx hb d_M_lie_131 (by decide) ?_
                exact w_M_lie_132 a1 a2 a3 a4 hy hA S (0 : Int32) hk hr _ _ _ hW (lv_sub hl [1, 2, 3, 4, 5] rfl)
              · have hk := hk.1 c23
                have hr := (if_pos c23).symm.trans hr
                exact w_M_lie_127 a1 a2 a3 a4 hy hA S hk hr _ _ _ hW (lv_sub hl [1, 2, 3, 4, 5] rfl)
  · have hk := hk.1 c12
    have hr := (if_pos c12).symm.trans hr
    refine lv_iconst (pc := 62) (v := 1) hx hb d_M_lie_62 (by decide) ?_
    refine lv_goto (pc := 63) (tgt := 132) hx hb d_M_lie_63 (by decide) ?_
    exact w_M_lie_132 a1 a2 a3 a4 hy hA S (1 : Int32) hk hr _ _ _ hW (lv_sub hl [1, 2, 3, 4, 5] rfl)
def f_M_lie_53 (a1 : Int32) (a2 : Int32) (a3 : Int32) (a4 : Int32) (S : St)  : Int32 × St :=
  f_M_lie_54 a1 a2 a3 a4 S (0 : Int32)
def ok_M_lie_53 (a1 : Int32) (a2 : Int32) (a3 : Int32) (a4 : Int32) (S : St)  : Prop :=
  ok_M_lie_54 a1 a2 a3 a4 S (0 : Int32)
set_option maxHeartbeats 4000000 in
set_option maxRecDepth 100000 in
theorem w_M_lie_53 {l : Launch} {D : va_G} {X : va_W} {ad : N3 → Nat} {ca : Nat → ClassId} (a1 : Int32) (a2 : Int32) (a3 : Int32) (a4 : Int32)  {p : Program} {e : Env} {s : State} {m : MethodId} {below : List Frame} {meth : Method} {c : Code} {A : Nat → Prop} (hy : Hy p s m ([.ref (ad (1, 0, 0)), .int a1, .int a2, .int a3, .int a4] : List Value).toArray meth c b_M_lie 8 (some .int) R_M GG D clM (tysM ca) nwM) (hA : ∀ q, s.heap.size ≤ q → A q) {res : Int32 × St} : ∀  (S : St)  , ok_M_lie_53 a1 a2 a3 a4 S → f_M_lie_53 a1 a2 a3 a4 S = res → ∀ (H : Heap) (locs : List Loc) (ls : Array Slot), Wd D clM A s.heap (zw X ad TM (cfM ad ca) S) H locs → lv_has ls 8 [(0, .ref (ad (1, 0, 0))), (1, .int a1), (2, .int a2), (3, .int a3), (4, .int a4)] → W p l e { frames := 4, cells := 0, slots := 0, locals := 98 } s m ([.ref (ad (1, 0, 0)), .int a1, .int a2, .int a3, .int a4] : List Value).toArray below meth c H locs 0 0 (MQ below (eI D clM X ad TM (cfM ad ca) A res) ([.ref (ad (1, 0, 0)), .int a1, .int a2, .int a3, .int a4] : List Value).toArray s 0 0 A) (F0 m 53 ls []) := by
  have hF := hy.1
  have hx := hF.1
  have hb := hF.2.1
  have hK := hy.2.2.2
  intro S hk hr H locs ls hW hl
  refine lv_iconst (pc := 53) (v := 0) hx hb d_M_lie_53 (by decide) ?_
  exact w_M_lie_54 a1 a2 a3 a4 hy hA S (0 : Int32) hk hr _ _ _ hW (lv_sub hl [0, 1, 2, 3, 4] rfl)
def f_M_lie_30 (a1 : Int32) (a2 : Int32) (a3 : Int32) (a4 : Int32) (S : St)  : Int32 × St :=
  if a2 < (1 : Int32) then
    f_M_lie_53 a1 a2 a3 a4 S
  else
    if (60 : Int32) < a2 then
      f_M_lie_53 a1 a2 a3 a4 S
    else
      lt (f_M_leader a2 S) fun (r10 : Int32) =>
      if r10 = (3 : Int32) then
        f_M_lie_54 a1 a2 a3 a4 S (1 : Int32)
      else
        f_M_lie_53 a1 a2 a3 a4 S
def ok_M_lie_30 (a1 : Int32) (a2 : Int32) (a3 : Int32) (a4 : Int32) (S : St)  : Prop :=
  (a2 < (1 : Int32) → (
    ok_M_lie_53 a1 a2 a3 a4 S)) ∧ (¬ (a2 < (1 : Int32)) → (
    ((60 : Int32) < a2 → (
      ok_M_lie_53 a1 a2 a3 a4 S)) ∧ (¬ ((60 : Int32) < a2) → (
      lt (f_M_leader a2 S) fun (r10 : Int32) =>
      (r10 = (3 : Int32) → (
        ok_M_lie_54 a1 a2 a3 a4 S (1 : Int32))) ∧ (¬ (r10 = (3 : Int32)) → (
        ok_M_lie_53 a1 a2 a3 a4 S))))))
set_option maxHeartbeats 4000000 in
set_option maxRecDepth 100000 in
theorem w_M_lie_30 {l : Launch} {D : va_G} {X : va_W} {ad : N3 → Nat} {ca : Nat → ClassId} (a1 : Int32) (a2 : Int32) (a3 : Int32) (a4 : Int32)  {p : Program} {e : Env} {s : State} {m : MethodId} {below : List Frame} {meth : Method} {c : Code} {A : Nat → Prop} (hy : Hy p s m ([.ref (ad (1, 0, 0)), .int a1, .int a2, .int a3, .int a4] : List Value).toArray meth c b_M_lie 8 (some .int) R_M GG D clM (tysM ca) nwM) (hA : ∀ q, s.heap.size ≤ q → A q) {res : Int32 × St} : ∀  (S : St)  , ok_M_lie_30 a1 a2 a3 a4 S → f_M_lie_30 a1 a2 a3 a4 S = res → ∀ (H : Heap) (locs : List Loc) (ls : Array Slot), Wd D clM A s.heap (zw X ad TM (cfM ad ca) S) H locs → lv_has ls 8 [(0, .ref (ad (1, 0, 0))), (1, .int a1), (2, .int a2), (3, .int a3), (4, .int a4)] → W p l e { frames := 4, cells := 0, slots := 0, locals := 98 } s m ([.ref (ad (1, 0, 0)), .int a1, .int a2, .int a3, .int a4] : List Value).toArray below meth c H locs 0 0 (MQ below (eI D clM X ad TM (cfM ad ca) A res) ([.ref (ad (1, 0, 0)), .int a1, .int a2, .int a3, .int a4] : List Value).toArray s 0 0 A) (F0 m 30 ls []) := by
  have hF := hy.1
  have hx := hF.1
  have hb := hF.2.1
  have hK := hy.2.2.2
  intro S hk hr H locs ls hW hl
  refine lv_iload_n (pc := 30) hx hb d_M_lie_30 rfl (lv_at hl 2 rfl) ?_
  refine lv_iconst (pc := 31) (v := 1) hx hb d_M_lie_31 (by decide) ?_
  refine lv_icmp_lt (pc := 32) (tgt := 53) hx hb d_M_lie_32 (by decide) (fun c8 => ?_) (fun c8 => ?_)
  · have hk := hk.1 c8
    have hr := (if_pos c8).symm.trans hr
    exact w_M_lie_53 a1 a2 a3 a4 hy hA S hk hr _ _ _ hW (lv_sub hl [0, 1, 2, 3, 4] rfl)
  · have hk := hk.2 c8
    have hr := (if_neg c8).symm.trans hr
    refine lv_iload_n (pc := 35) hx hb d_M_lie_35 rfl (lv_at hl 2 rfl) ?_
    refine lv_bipush (pc := 36) (v := 60) hx hb d_M_lie_36 (by decide) ?_
    refine lv_icmp_gt (pc := 38) (tgt := 53) hx hb d_M_lie_38 (by decide) (fun c9 => ?_) (fun c9 => ?_)
    · have hk := hk.1 c9
      have hr := (if_pos c9).symm.trans hr
      exact w_M_lie_53 a1 a2 a3 a4 hy hA S hk hr _ _ _ hW (lv_sub hl [0, 1, 2, 3, 4] rfl)
    · have hk := hk.2 c9
      have hr := (if_neg c9).symm.trans hr
      refine lv_iload_n (pc := 41) hx hb d_M_lie_41 rfl (lv_at hl 2 rfl) ?_
      obtain ⟨r10, er10⟩ : ∃ z : Int32, z = f_M_leader a2 S := ⟨_, rfl⟩
      have hk := lt_p er10 hk
      have hr := lt_e er10 hr
      refine p_go (pc := 42) (congrArg Value.int er10) (p_runS hF hK hW (c_M_leader l D X ad ca a2 S _) cd_M_leader gw_1059 ⟨Nat.le_of_ble_eq_true rfl, Nat.le_of_ble_eq_true rfl⟩ ⟨Nat.zero_le _, Nat.zero_le _⟩ rfl rfl hl.1 (Nat.le_of_ble_eq_true rfl) d_M_lie_42) ?_
      refine lv_iconst (pc := 45) (v := 3) hx hb d_M_lie_45 (by decide) ?_
      refine lv_icmp_ne (pc := 46) (tgt := 53) hx hb d_M_lie_46 (by decide) (fun c11 => ?_) (fun c11 => ?_)
      · have hk := hk.2 c11
        have hr := (if_neg c11).symm.trans hr
        exact w_M_lie_53 a1 a2 a3 a4 hy hA S hk hr _ _ _ hW (lv_sub hl [0, 1, 2, 3, 4] rfl)
      · have hk := hk.1 c11
        have hr := (if_pos c11).symm.trans hr
        refine lv_iconst (pc := 49) (v := 1) hx hb d_M_lie_49 (by decide) ?_
        refine lv_goto (pc := 50) (tgt := 54) hx hb d_M_lie_50 (by decide) ?_
        exact w_M_lie_54 a1 a2 a3 a4 hy hA S (1 : Int32) hk hr _ _ _ hW (lv_sub hl [0, 1, 2, 3, 4] rfl)
def f_M_lie (a1 : Int32) (a2 : Int32) (a3 : Int32) (a4 : Int32) (S : St) : Int32 × St :=
  lt (f_M_isNode a1 S) fun (r1 : Int32) =>
  if r1 = 0 then
    f_M_lie_53 a1 a2 a3 a4 S
  else
    lt (f_M_isBlock a3 S) fun (r3 : Int32) =>
    if r3 = 0 then
      f_M_lie_53 a1 a2 a3 a4 S
    else
      if a4 = (-1 : Int32) then
        f_M_lie_30 a1 a2 a3 a4 S
      else
        lt (f_M_isTransaction a4 S) fun (r6 : Int32) =>
        if r6 = 0 then
          f_M_lie_53 a1 a2 a3 a4 S
        else
          f_M_lie_30 a1 a2 a3 a4 S
def ok_M_lie (a1 : Int32) (a2 : Int32) (a3 : Int32) (a4 : Int32) (S : St) : Prop :=
  lt (f_M_isNode a1 S) fun (r1 : Int32) =>
  (r1 = 0 → (
    ok_M_lie_53 a1 a2 a3 a4 S)) ∧ (¬ (r1 = 0) → (
    lt (f_M_isBlock a3 S) fun (r3 : Int32) =>
    (r3 = 0 → (
      ok_M_lie_53 a1 a2 a3 a4 S)) ∧ (¬ (r3 = 0) → (
      (a4 = (-1 : Int32) → (
        ok_M_lie_30 a1 a2 a3 a4 S)) ∧ (¬ (a4 = (-1 : Int32)) → (
        lt (f_M_isTransaction a4 S) fun (r6 : Int32) =>
        (r6 = 0 → (
          ok_M_lie_53 a1 a2 a3 a4 S)) ∧ (¬ (r6 = 0) → (
          ok_M_lie_30 a1 a2 a3 a4 S))))))))
set_option maxHeartbeats 4000000 in
set_option maxRecDepth 100000 in
theorem c_M_lie (l : Launch) (D : va_G) (X : va_W) (ad : N3 → Nat) (ca : Nat → ClassId) (a1 : Int32) (a2 : Int32) (a3 : Int32) (a4 : Int32)  (S : St) (hk : ok_M_lie a1 a2 a3 a4 S) : cI l GG D clM (tysM ca) nwM X ad TM (cfM ad ca) y_M_lie b_M_lie 8 .int 4 98 [.ref (ad (1, 0, 0)), .int a1, .int a2, .int a3, .int a4] S (f_M_lie a1 a2 a3 a4 S) := by
  generalize hr : f_M_lie a1 a2 a3 a4 S = res
  refine zI_of pn_M (Nat.le_of_ble_eq_true rfl) (fun p e s m below meth c A ls hy hW hA hl => ?_)
  have hF := hy.1
  have hx := hF.1
  have hb := hF.2.1
  have hK := hy.2.2.2
  have hl : lv_has ls 8 [(0, .ref (ad (1, 0, 0))), (1, .int a1), (2, .int a2), (3, .int a3), (4, .int a4)] := hl
  refine lv_iload_n (pc := 0) hx hb d_M_lie_0 rfl (lv_at hl 1 rfl) ?_
  obtain ⟨r1, er1⟩ : ∃ z : Int32, z = f_M_isNode a1 S := ⟨_, rfl⟩
  have hk := lt_p er1 hk
  have hr := lt_e er1 hr
  refine p_go (pc := 1) (congrArg Value.int er1) (p_runS hF hK hW (c_M_isNode l D X ad ca a1 S _) cd_M_isNode gw_1022 ⟨Nat.le_of_ble_eq_true rfl, Nat.le_of_ble_eq_true rfl⟩ ⟨Nat.zero_le _, Nat.zero_le _⟩ rfl rfl hl.1 (Nat.le_of_ble_eq_true rfl) d_M_lie_1) ?_
  refine lv_if_eq (pc := 4) (tgt := 53) hx hb d_M_lie_4 (by decide) (fun c2 => ?_) (fun c2 => ?_)
  · have hk := hk.1 c2
    have hr := (if_pos c2).symm.trans hr
    exact w_M_lie_53 a1 a2 a3 a4 hy hA S hk hr _ _ _ hW (lv_sub hl [0, 1, 2, 3, 4] rfl)
  · have hk := hk.2 c2
    have hr := (if_neg c2).symm.trans hr
    refine lv_aload_n (pc := 7) hx hb d_M_lie_7 rfl (lv_at hl 0 rfl) ?_
    refine lv_iload_n (pc := 8) hx hb d_M_lie_8 rfl (lv_at hl 3 rfl) ?_
    obtain ⟨r3, er3⟩ : ∃ z : Int32, z = f_M_isBlock a3 S := ⟨_, rfl⟩
    have hk := lt_p er3 hk
    have hr := lt_e er3 hr
    refine p_go (pc := 9) (congrArg Value.int er3) (p_runV hF hK hW (c_M_isBlock l D X ad ca a3 S _) cd_M_isBlock gw_1141 tm1 rfl rfl ⟨Nat.le_of_ble_eq_true rfl, Nat.le_of_ble_eq_true rfl⟩ ⟨Nat.zero_le _, Nat.zero_le _⟩ rfl rfl hl.1 (Nat.le_of_ble_eq_true rfl) d_M_lie_9) ?_
    refine lv_if_eq (pc := 12) (tgt := 53) hx hb d_M_lie_12 (by decide) (fun c4 => ?_) (fun c4 => ?_)
    · have hk := hk.1 c4
      have hr := (if_pos c4).symm.trans hr
      exact w_M_lie_53 a1 a2 a3 a4 hy hA S hk hr _ _ _ hW (lv_sub hl [0, 1, 2, 3, 4] rfl)
    · have hk := hk.2 c4
      have hr := (if_neg c4).symm.trans hr
      refine lv_iload (pc := 15) hx hb d_M_lie_15 (lv_at hl 4 rfl) ?_
      refine lv_iconst (pc := 17) (v := -1) hx hb d_M_lie_17 (by decide) ?_
      refine lv_icmp_eq (pc := 18) (tgt := 30) hx hb d_M_lie_18 (by decide) (fun c5 => ?_) (fun c5 => ?_)
      · have hk := hk.1 c5
        have hr := (if_pos c5).symm.trans hr
        exact w_M_lie_30 a1 a2 a3 a4 hy hA S hk hr _ _ _ hW (lv_sub hl [0, 1, 2, 3, 4] rfl)
      · have hk := hk.2 c5
        have hr := (if_neg c5).symm.trans hr
        refine lv_aload_n (pc := 21) hx hb d_M_lie_21 rfl (lv_at hl 0 rfl) ?_
        refine lv_iload (pc := 22) hx hb d_M_lie_22 (lv_at hl 4 rfl) ?_
        obtain ⟨r6, er6⟩ : ∃ z : Int32, z = f_M_isTransaction a4 S := ⟨_, rfl⟩
        have hk := lt_p er6 hk
        have hr := lt_e er6 hr
        refine p_go (pc := 24) (congrArg Value.int er6) (p_runV hF hK hW (c_M_isTransaction l D X ad ca a4 S _) cd_M_isTransaction gw_1121 tm1 rfl rfl ⟨Nat.le_of_ble_eq_true rfl, Nat.le_of_ble_eq_true rfl⟩ ⟨Nat.zero_le _, Nat.zero_le _⟩ rfl rfl hl.1 (Nat.le_of_ble_eq_true rfl) d_M_lie_24) ?_
        refine lv_if_eq (pc := 27) (tgt := 53) hx hb d_M_lie_27 (by decide) (fun c7 => ?_) (fun c7 => ?_)
        · have hk := hk.1 c7
          have hr := (if_pos c7).symm.trans hr
          exact w_M_lie_53 a1 a2 a3 a4 hy hA S hk hr _ _ _ hW (lv_sub hl [0, 1, 2, 3, 4] rfl)
        · have hk := hk.2 c7
          have hr := (if_neg c7).symm.trans hr
          exact w_M_lie_30 a1 a2 a3 a4 hy hA S hk hr _ _ _ hW (lv_sub hl [0, 1, 2, 3, 4] rfl)
