theorem d_M_transaction_0 : decode b_M_transaction 0 = .ok (.aload_n 0, 1) := by decide +kernel
theorem d_M_transaction_1 : decode b_M_transaction 1 = .ok (.iload_n 1, 1) := by decide +kernel
theorem d_M_transaction_2 : decode b_M_transaction 2 = .ok (.invokestatic 231, 3) := by decide +kernel
theorem d_M_transaction_5 : decode b_M_transaction 5 = .ok (.ifCond .eq 34, 3) := by decide +kernel
theorem d_M_transaction_8 : decode b_M_transaction 8 = .ok (.iload_n 2, 1) := by decide +kernel
theorem d_M_transaction_9 : decode b_M_transaction 9 = .ok (.invokestatic 231, 3) := by decide +kernel
theorem d_M_transaction_12 : decode b_M_transaction 12 = .ok (.ifCond .eq 27, 3) := by decide +kernel
theorem d_M_transaction_15 : decode b_M_transaction 15 = .ok (.iload_n 3, 1) := by decide +kernel
theorem d_M_transaction_16 : decode b_M_transaction 16 = .ok (.ifCond .lt 23, 3) := by decide +kernel
theorem d_M_transaction_19 : decode b_M_transaction 19 = .ok (.iload_n 3, 1) := by decide +kernel
theorem d_M_transaction_20 : decode b_M_transaction 20 = .ok (.sipush 1000, 3) := by decide +kernel
theorem d_M_transaction_23 : decode b_M_transaction 23 = .ok (.if_icmp .gt 16, 3) := by decide +kernel
theorem d_M_transaction_26 : decode b_M_transaction 26 = .ok (.iload 4, 2) := by decide +kernel
theorem d_M_transaction_28 : decode b_M_transaction 28 = .ok (.ifCond .lt 11, 3) := by decide +kernel
theorem d_M_transaction_31 : decode b_M_transaction 31 = .ok (.iload 4, 2) := by decide +kernel
theorem d_M_transaction_33 : decode b_M_transaction 33 = .ok (.sipush 1000, 3) := by decide +kernel
theorem d_M_transaction_36 : decode b_M_transaction 36 = .ok (.if_icmp .le 7, 3) := by decide +kernel
theorem d_M_transaction_39 : decode b_M_transaction 39 = .ok (.iconst 1, 1) := by decide +kernel
theorem d_M_transaction_40 : decode b_M_transaction 40 = .ok (.goto 17, 3) := by decide +kernel
theorem d_M_transaction_43 : decode b_M_transaction 43 = .ok (.aload_n 0, 1) := by decide +kernel
theorem d_M_transaction_44 : decode b_M_transaction 44 = .ok (.getfield 183, 3) := by decide +kernel
theorem d_M_transaction_47 : decode b_M_transaction 47 = .ok (.bipush 40, 2) := by decide +kernel
theorem d_M_transaction_49 : decode b_M_transaction 49 = .ok (.if_icmp .ne 7, 3) := by decide +kernel
theorem d_M_transaction_52 : decode b_M_transaction 52 = .ok (.iconst 2, 1) := by decide +kernel
theorem d_M_transaction_53 : decode b_M_transaction 53 = .ok (.goto 4, 3) := by decide +kernel
theorem d_M_transaction_56 : decode b_M_transaction 56 = .ok (.iconst 0, 1) := by decide +kernel
theorem d_M_transaction_57 : decode b_M_transaction 57 = .ok (.putfield 141, 3) := by decide +kernel
theorem d_M_transaction_60 : decode b_M_transaction 60 = .ok (.aload_n 0, 1) := by decide +kernel
theorem d_M_transaction_61 : decode b_M_transaction 61 = .ok (.getfield 141, 3) := by decide +kernel
theorem d_M_transaction_64 : decode b_M_transaction 64 = .ok (.ifCond .le 5, 3) := by decide +kernel
theorem d_M_transaction_67 : decode b_M_transaction 67 = .ok (.iconst 0, 1) := by decide +kernel
theorem d_M_transaction_68 : decode b_M_transaction 68 = .ok (.ireturn, 1) := by decide +kernel
theorem d_M_transaction_69 : decode b_M_transaction 69 = .ok (.aload_n 0, 1) := by decide +kernel
theorem d_M_transaction_70 : decode b_M_transaction 70 = .ok (.getfield 13, 3) := by decide +kernel
theorem d_M_transaction_73 : decode b_M_transaction 73 = .ok (.aload_n 0, 1) := by decide +kernel
theorem d_M_transaction_74 : decode b_M_transaction 74 = .ok (.getfield 183, 3) := by decide +kernel
theorem d_M_transaction_77 : decode b_M_transaction 77 = .ok (.iload_n 1, 1) := by decide +kernel
theorem d_M_transaction_78 : decode b_M_transaction 78 = .ok (.iastore, 1) := by decide +kernel
theorem d_M_transaction_79 : decode b_M_transaction 79 = .ok (.aload_n 0, 1) := by decide +kernel
theorem d_M_transaction_80 : decode b_M_transaction 80 = .ok (.getfield 17, 3) := by decide +kernel
theorem d_M_transaction_83 : decode b_M_transaction 83 = .ok (.aload_n 0, 1) := by decide +kernel
theorem d_M_transaction_84 : decode b_M_transaction 84 = .ok (.getfield 183, 3) := by decide +kernel
theorem d_M_transaction_87 : decode b_M_transaction 87 = .ok (.iload_n 2, 1) := by decide +kernel
theorem d_M_transaction_88 : decode b_M_transaction 88 = .ok (.iastore, 1) := by decide +kernel
theorem d_M_transaction_89 : decode b_M_transaction 89 = .ok (.aload_n 0, 1) := by decide +kernel
theorem d_M_transaction_90 : decode b_M_transaction 90 = .ok (.getfield 20, 3) := by decide +kernel
theorem d_M_transaction_93 : decode b_M_transaction 93 = .ok (.aload_n 0, 1) := by decide +kernel
theorem d_M_transaction_94 : decode b_M_transaction 94 = .ok (.getfield 183, 3) := by decide +kernel
theorem d_M_transaction_97 : decode b_M_transaction 97 = .ok (.iload_n 3, 1) := by decide +kernel
theorem d_M_transaction_98 : decode b_M_transaction 98 = .ok (.iastore, 1) := by decide +kernel
theorem d_M_transaction_99 : decode b_M_transaction 99 = .ok (.aload_n 0, 1) := by decide +kernel
theorem d_M_transaction_100 : decode b_M_transaction 100 = .ok (.getfield 23, 3) := by decide +kernel
theorem d_M_transaction_103 : decode b_M_transaction 103 = .ok (.aload_n 0, 1) := by decide +kernel
theorem d_M_transaction_104 : decode b_M_transaction 104 = .ok (.getfield 183, 3) := by decide +kernel
theorem d_M_transaction_107 : decode b_M_transaction 107 = .ok (.iload 4, 2) := by decide +kernel
theorem d_M_transaction_109 : decode b_M_transaction 109 = .ok (.iastore, 1) := by decide +kernel
theorem d_M_transaction_110 : decode b_M_transaction 110 = .ok (.aload_n 0, 1) := by decide +kernel
theorem d_M_transaction_111 : decode b_M_transaction 111 = .ok (.dup, 1) := by decide +kernel
theorem d_M_transaction_112 : decode b_M_transaction 112 = .ok (.getfield 183, 3) := by decide +kernel
theorem d_M_transaction_115 : decode b_M_transaction 115 = .ok (.iconst 1, 1) := by decide +kernel
theorem d_M_transaction_116 : decode b_M_transaction 116 = .ok (.iadd, 1) := by decide +kernel
theorem d_M_transaction_117 : decode b_M_transaction 117 = .ok (.putfield 183, 3) := by decide +kernel
theorem d_M_transaction_120 : decode b_M_transaction 120 = .ok (.aload_n 0, 1) := by decide +kernel
theorem d_M_transaction_121 : decode b_M_transaction 121 = .ok (.getfield 183, 3) := by decide +kernel
theorem d_M_transaction_124 : decode b_M_transaction 124 = .ok (.iconst 1, 1) := by decide +kernel
theorem d_M_transaction_125 : decode b_M_transaction 125 = .ok (.isub, 1) := by decide +kernel
theorem d_M_transaction_126 : decode b_M_transaction 126 = .ok (.ireturn, 1) := by decide +kernel
def f_M_transaction_57 (a1 : Int32) (a2 : Int32) (a3 : Int32) (a4 : Int32) (S : St) (t0 : Int32) : Int32 × St :=
  lt (si S 1 0 0 1 t0) fun (S10 : St) =>
  if (S10.1 1 0 0 1) ≤ 0 then
    lt (si S10 3 0 0 ((S10.1 1 0 0 6).toNatClampNeg) a1) fun (S13 : St) =>
    lt (si S13 4 0 0 ((S13.1 1 0 0 6).toNatClampNeg) a2) fun (S15 : St) =>
    lt (si S15 5 0 0 ((S15.1 1 0 0 6).toNatClampNeg) a3) fun (S17 : St) =>
    lt (si S17 6 0 0 ((S17.1 1 0 0 6).toNatClampNeg) a4) fun (S19 : St) =>
    lt (si S19 1 0 0 6 ((S19.1 1 0 0 6) + (1 : Int32))) fun (S20 : St) =>
    ((S20.1 1 0 0 6) - (1 : Int32), S20)
  else
    ((0 : Int32), S10)
def ok_M_transaction_57 (a1 : Int32) (a2 : Int32) (a3 : Int32) (a4 : Int32) (S : St) (t0 : Int32) : Prop :=
  lt (si S 1 0 0 1 t0) fun (S10 : St) =>
  ((S10.1 1 0 0 1) ≤ 0 → (
    (vp_in (S10.1 1 0 0 6) 40) ∧ (
      lt (si S10 3 0 0 ((S10.1 1 0 0 6).toNatClampNeg) a1) fun (S13 : St) =>
      (vp_in (S13.1 1 0 0 6) 40) ∧ (
        lt (si S13 4 0 0 ((S13.1 1 0 0 6).toNatClampNeg) a2) fun (S15 : St) =>
        (vp_in (S15.1 1 0 0 6) 40) ∧ (
          lt (si S15 5 0 0 ((S15.1 1 0 0 6).toNatClampNeg) a3) fun (S17 : St) =>
          (vp_in (S17.1 1 0 0 6) 40) ∧ (
            True)))))) ∧ (¬ ((S10.1 1 0 0 1) ≤ 0) → (
    True))
set_option maxHeartbeats 4000000 in
set_option maxRecDepth 100000 in
theorem w_M_transaction_57 {l : Launch} {D : va_G} {X : va_W} {ad : N3 → Nat} {ca : Nat → ClassId} (a1 : Int32) (a2 : Int32) (a3 : Int32) (a4 : Int32)  {p : Program} {e : Env} {s : State} {m : MethodId} {below : List Frame} {meth : Method} {c : Code} {A : Nat → Prop} (hy : Hy p s m ([.ref (ad (1, 0, 0)), .int a1, .int a2, .int a3, .int a4] : List Value).toArray meth c b_M_transaction 5 (some .int) R_M GG D clM (tysM ca) nwM) (hA : ∀ q, s.heap.size ≤ q → A q) {res : Int32 × St} : ∀  (S : St) (t0 : Int32) , ok_M_transaction_57 a1 a2 a3 a4 S t0 → f_M_transaction_57 a1 a2 a3 a4 S t0 = res → ∀ (H : Heap) (locs : List Loc) (ls : Array Slot), Wd D clM A s.heap (zw X ad TM (cfM ad ca) S) H locs → lv_has ls 5 [(0, .ref (ad (1, 0, 0))), (1, .int a1), (2, .int a2), (3, .int a3), (4, .int a4)] → W p l e { frames := 1, cells := 0, slots := 0, locals := 20 } s m ([.ref (ad (1, 0, 0)), .int a1, .int a2, .int a3, .int a4] : List Value).toArray below meth c H locs 0 0 (MQ below (eI D clM X ad TM (cfM ad ca) A res) ([.ref (ad (1, 0, 0)), .int a1, .int a2, .int a3, .int a4] : List Value).toArray s 0 0 A) (F0 m 57 ls [.int t0, .ref (ad (1, 0, 0))]) := by
  have hF := hy.1
  have hx := hF.1
  have hb := hF.2.1
  have hK := hy.2.2.2
  intro S t0 hk hr H locs ls hW hl
  obtain ⟨S10, eS10⟩ : ∃ z : St, z = si S 1 0 0 1 t0 := ⟨_, rfl⟩
  have hk := lt_p eS10 hk
  have hr := lt_e eS10 hr
  refine z_put (pc := 57) (S' := S10) hF hK.1 hW tm1 rfl rfl in_M t_M tyo_M nmo_M 1 (by decide) gw_885 rfl rfl rfl rfl rfl (Nat.le_of_ble_eq_true rfl) (zs_si eS10 rfl) (zs_sio eS10) d_M_transaction_57 (fun H locs (hW : Wd D clM A s.heap (zw X ad TM (cfM ad ca) S10) H locs) => ?_)
  refine lv_aload_n (pc := 60) hx hb d_M_transaction_60 rfl (lv_at hl 0 rfl) ?_
  refine z_get (pc := 61) (v := .int (S10.1 1 0 0 1)) hF hK.1 hW tm1 rfl rfl in_M 1 (by decide) gw_885 rfl rfl d_M_transaction_61 ?_
  refine lv_if_le (pc := 64) (tgt := 69) hx hb d_M_transaction_64 (by decide) (fun c11 => ?_) (fun c11 => ?_)
  · have hk := hk.1 c11
    have hr := (if_pos c11).symm.trans hr
    refine lv_aload_n (pc := 69) hx hb d_M_transaction_69 rfl (lv_at hl 0 rfl) ?_
    refine z_get (pc := 70) (v := .ref (ad (3, 0, 0))) hF hK.1 hW tm1 rfl rfl in_M 7 (by decide) gw_891 rfl rfl d_M_transaction_70 ?_
    refine lv_aload_n (pc := 73) hx hb d_M_transaction_73 rfl (lv_at hl 0 rfl) ?_
    refine z_get (pc := 74) (v := .int (S10.1 1 0 0 6)) hF hK.1 hW tm1 rfl rfl in_M 6 (by decide) gw_890 rfl rfl d_M_transaction_74 ?_
    refine lv_iload_n (pc := 77) hx hb d_M_transaction_77 rfl (lv_at hl 1 rfl) ?_
    have b12 := hk.1
    have hk := hk.2
    obtain ⟨S13, eS13⟩ : ∃ z : St, z = si S10 3 0 0 ((S10.1 1 0 0 6).toNatClampNeg) a1 := ⟨_, rfl⟩
    have hk := lt_p eS13 hk
    have hr := lt_e eS13 hr
    refine z_iast (pc := 78) (S' := S13) hF hK.1 hW tm3 0 rfl rfl b12 (zs_si eS13 rfl) (zs_sio eS13) d_M_transaction_78 (fun H locs (hW : Wd D clM A s.heap (zw X ad TM (cfM ad ca) S13) H locs) => ?_)
    refine lv_aload_n (pc := 79) hx hb d_M_transaction_79 rfl (lv_at hl 0 rfl) ?_
    refine z_get (pc := 80) (v := .ref (ad (4, 0, 0))) hF hK.1 hW tm1 rfl rfl in_M 8 (by decide) gw_892 rfl rfl d_M_transaction_80 ?_
    refine lv_aload_n (pc := 83) hx hb d_M_transaction_83 rfl (lv_at hl 0 rfl) ?_
    refine z_get (pc := 84) (v := .int (S13.1 1 0 0 6)) hF hK.1 hW tm1 rfl rfl in_M 6 (by decide) gw_890 rfl rfl d_M_transaction_84 ?_
    refine lv_iload_n (pc := 87) hx hb d_M_transaction_87 rfl (lv_at hl 2 rfl) ?_
    have b14 := hk.1
    have hk := hk.2
    obtain ⟨S15, eS15⟩ : ∃ z : St, z = si S13 4 0 0 ((S13.1 1 0 0 6).toNatClampNeg) a2 := ⟨_, rfl⟩
    have hk := lt_p eS15 hk
    have hr := lt_e eS15 hr
    refine z_iast (pc := 88) (S' := S15) hF hK.1 hW tm4 0 rfl rfl b14 (zs_si eS15 rfl) (zs_sio eS15) d_M_transaction_88 (fun H locs (hW : Wd D clM A s.heap (zw X ad TM (cfM ad ca) S15) H locs) => ?_)
    refine lv_aload_n (pc := 89) hx hb d_M_transaction_89 rfl (lv_at hl 0 rfl) ?_
    refine z_get (pc := 90) (v := .ref (ad (5, 0, 0))) hF hK.1 hW tm1 rfl rfl in_M 9 (by decide) gw_893 rfl rfl d_M_transaction_90 ?_
    refine lv_aload_n (pc := 93) hx hb d_M_transaction_93 rfl (lv_at hl 0 rfl) ?_
    refine z_get (pc := 94) (v := .int (S15.1 1 0 0 6)) hF hK.1 hW tm1 rfl rfl in_M 6 (by decide) gw_890 rfl rfl d_M_transaction_94 ?_
    refine lv_iload_n (pc := 97) hx hb d_M_transaction_97 rfl (lv_at hl 3 rfl) ?_
    have b16 := hk.1
    have hk := hk.2
    obtain ⟨S17, eS17⟩ : ∃ z : St, z = si S15 5 0 0 ((S15.1 1 0 0 6).toNatClampNeg) a3 := ⟨_, rfl⟩
    have hk := lt_p eS17 hk
    have hr := lt_e eS17 hr
    refine z_iast (pc := 98) (S' := S17) hF hK.1 hW tm5 0 rfl rfl b16 (zs_si eS17 rfl) (zs_sio eS17) d_M_transaction_98 (fun H locs (hW : Wd D clM A s.heap (zw X ad TM (cfM ad ca) S17) H locs) => ?_)
    refine lv_aload_n (pc := 99) hx hb d_M_transaction_99 rfl (lv_at hl 0 rfl) ?_
    refine z_get (pc := 100) (v := .ref (ad (6, 0, 0))) hF hK.1 hW tm1 rfl rfl in_M 10 (by decide) gw_894 rfl rfl d_M_transaction_100 ?_
    refine lv_aload_n (pc := 103) hx hb d_M_transaction_103 rfl (lv_at hl 0 rfl) ?_
    refine z_get (pc := 104) (v := .int (S17.1 1 0 0 6)) hF hK.1 hW tm1 rfl rfl in_M 6 (by decide) gw_890 rfl rfl d_M_transaction_104 ?_
    refine lv_iload (pc := 107) hx hb d_M_transaction_107 (lv_at hl 4 rfl) ?_
    have b18 := hk.1
    have hk := hk.2
    obtain ⟨S19, eS19⟩ : ∃ z : St, z = si S17 6 0 0 ((S17.1 1 0 0 6).toNatClampNeg) a4 := ⟨_, rfl⟩
    have hr := lt_e eS19 hr
    refine z_iast (pc := 109) (S' := S19) hF hK.1 hW tm6 0 rfl rfl b18 (zs_si eS19 rfl) (zs_sio eS19) d_M_transaction_109 (fun H locs (hW : Wd D clM A s.heap (zw X ad TM (cfM ad ca) S19) H locs) => ?_)
    refine lv_aload_n (pc := 110) hx hb d_M_transaction_110 rfl (lv_at hl 0 rfl) ?_
    refine lv_dup (pc := 111) hx hb d_M_transaction_111 rfl ?_
    refine z_get (pc := 112) (v := .int (S19.1 1 0 0 6)) hF hK.1 hW tm1 rfl rfl in_M 6 (by decide) gw_890 rfl rfl d_M_transaction_112 ?_
    refine lv_iconst (pc := 115) (v := 1) hx hb d_M_transaction_115 (by decide) ?_
    refine lv_iadd (pc := 116) hx hb d_M_transaction_116 ?_
    obtain ⟨S20, eS20⟩ : ∃ z : St, z = si S19 1 0 0 6 ((S19.1 1 0 0 6) + (1 : Int32)) := ⟨_, rfl⟩
    have hr := lt_e eS20 hr
    refine z_put (pc := 117) (S' := S20) hF hK.1 hW tm1 rfl rfl in_M t_M tyo_M nmo_M 6 (by decide) gw_890 rfl rfl rfl rfl rfl (Nat.le_of_ble_eq_true rfl) (zs_si eS20 rfl) (zs_sio eS20) d_M_transaction_117 (fun H locs (hW : Wd D clM A s.heap (zw X ad TM (cfM ad ca) S20) H locs) => ?_)
    refine lv_aload_n (pc := 120) hx hb d_M_transaction_120 rfl (lv_at hl 0 rfl) ?_
    refine z_get (pc := 121) (v := .int (S20.1 1 0 0 6)) hF hK.1 hW tm1 rfl rfl in_M 6 (by decide) gw_890 rfl rfl d_M_transaction_121 ?_
    refine lv_iconst (pc := 124) (v := 1) hx hb d_M_transaction_124 (by decide) ?_
    refine lv_isub (pc := 125) hx hb d_M_transaction_125 ?_
    exact z_iret (v := (S20.1 1 0 0 6) - (1 : Int32)) hy hW hr.symm d_M_transaction_126
  · have hk := hk.2 c11
    have hr := (if_neg c11).symm.trans hr
    refine lv_iconst (pc := 67) (v := 0) hx hb d_M_transaction_67 (by decide) ?_
    exact z_iret (v := (0 : Int32)) hy hW hr.symm d_M_transaction_68
def f_M_transaction_39 (a1 : Int32) (a2 : Int32) (a3 : Int32) (a4 : Int32) (S : St)  : Int32 × St :=
  f_M_transaction_57 a1 a2 a3 a4 S (1 : Int32)
def ok_M_transaction_39 (a1 : Int32) (a2 : Int32) (a3 : Int32) (a4 : Int32) (S : St)  : Prop :=
  ok_M_transaction_57 a1 a2 a3 a4 S (1 : Int32)
set_option maxHeartbeats 4000000 in
set_option maxRecDepth 100000 in
theorem w_M_transaction_39 {l : Launch} {D : va_G} {X : va_W} {ad : N3 → Nat} {ca : Nat → ClassId} (a1 : Int32) (a2 : Int32) (a3 : Int32) (a4 : Int32)  {p : Program} {e : Env} {s : State} {m : MethodId} {below : List Frame} {meth : Method} {c : Code} {A : Nat → Prop} (hy : Hy p s m ([.ref (ad (1, 0, 0)), .int a1, .int a2, .int a3, .int a4] : List Value).toArray meth c b_M_transaction 5 (some .int) R_M GG D clM (tysM ca) nwM) (hA : ∀ q, s.heap.size ≤ q → A q) {res : Int32 × St} : ∀  (S : St)  , ok_M_transaction_39 a1 a2 a3 a4 S → f_M_transaction_39 a1 a2 a3 a4 S = res → ∀ (H : Heap) (locs : List Loc) (ls : Array Slot), Wd D clM A s.heap (zw X ad TM (cfM ad ca) S) H locs → lv_has ls 5 [(0, .ref (ad (1, 0, 0))), (1, .int a1), (2, .int a2), (3, .int a3), (4, .int a4)] → W p l e { frames := 1, cells := 0, slots := 0, locals := 20 } s m ([.ref (ad (1, 0, 0)), .int a1, .int a2, .int a3, .int a4] : List Value).toArray below meth c H locs 0 0 (MQ below (eI D clM X ad TM (cfM ad ca) A res) ([.ref (ad (1, 0, 0)), .int a1, .int a2, .int a3, .int a4] : List Value).toArray s 0 0 A) (F0 m 39 ls [.ref (ad (1, 0, 0))]) := by
  have hF := hy.1
  have hx := hF.1
  have hb := hF.2.1
  have hK := hy.2.2.2
  intro S hk hr H locs ls hW hl
  refine lv_iconst (pc := 39) (v := 1) hx hb d_M_transaction_39 (by decide) ?_
  refine lv_goto (pc := 40) (tgt := 57) hx hb d_M_transaction_40 (by decide) ?_
  exact w_M_transaction_57 a1 a2 a3 a4 hy hA S (1 : Int32) hk hr _ _ _ hW (lv_sub hl [0, 1, 2, 3, 4] rfl)
def f_M_transaction (a1 : Int32) (a2 : Int32) (a3 : Int32) (a4 : Int32) (S : St) : Int32 × St :=
  lt (f_M_isNode a1 S) fun (r1 : Int32) =>
  if r1 = 0 then
    f_M_transaction_39 a1 a2 a3 a4 S
  else
    lt (f_M_isNode a2 S) fun (r3 : Int32) =>
    if r3 = 0 then
      f_M_transaction_39 a1 a2 a3 a4 S
    else
      if a3 < 0 then
        f_M_transaction_39 a1 a2 a3 a4 S
      else
        if (1000 : Int32) < a3 then
          f_M_transaction_39 a1 a2 a3 a4 S
        else
          if a4 < 0 then
            f_M_transaction_39 a1 a2 a3 a4 S
          else
            if a4 ≤ (1000 : Int32) then
              if (S.1 1 0 0 6) = (40 : Int32) then
                f_M_transaction_57 a1 a2 a3 a4 S (2 : Int32)
              else
                f_M_transaction_57 a1 a2 a3 a4 S (0 : Int32)
            else
              f_M_transaction_39 a1 a2 a3 a4 S
def ok_M_transaction (a1 : Int32) (a2 : Int32) (a3 : Int32) (a4 : Int32) (S : St) : Prop :=
  lt (f_M_isNode a1 S) fun (r1 : Int32) =>
  (r1 = 0 → (
    ok_M_transaction_39 a1 a2 a3 a4 S)) ∧ (¬ (r1 = 0) → (
    lt (f_M_isNode a2 S) fun (r3 : Int32) =>
    (r3 = 0 → (
      ok_M_transaction_39 a1 a2 a3 a4 S)) ∧ (¬ (r3 = 0) → (
      (a3 < 0 → (
        ok_M_transaction_39 a1 a2 a3 a4 S)) ∧ (¬ (a3 < 0) → (
        ((1000 : Int32) < a3 → (
          ok_M_transaction_39 a1 a2 a3 a4 S)) ∧ (¬ ((1000 : Int32) < a3) → (
          (a4 < 0 → (
            ok_M_transaction_39 a1 a2 a3 a4 S)) ∧ (¬ (a4 < 0) → (
            (a4 ≤ (1000 : Int32) → (
              ((S.1 1 0 0 6) = (40 : Int32) → (
                ok_M_transaction_57 a1 a2 a3 a4 S (2 : Int32))) ∧ (¬ ((S.1 1 0 0 6) = (40 : Int32)) → (
                ok_M_transaction_57 a1 a2 a3 a4 S (0 : Int32))))) ∧ (¬ (a4 ≤ (1000 : Int32)) → (
              ok_M_transaction_39 a1 a2 a3 a4 S))))))))))))
set_option maxHeartbeats 4000000 in
set_option maxRecDepth 100000 in
theorem c_M_transaction (l : Launch) (D : va_G) (X : va_W) (ad : N3 → Nat) (ca : Nat → ClassId) (a1 : Int32) (a2 : Int32) (a3 : Int32) (a4 : Int32)  (S : St) (hk : ok_M_transaction a1 a2 a3 a4 S) : cI l GG D clM (tysM ca) nwM X ad TM (cfM ad ca) y_M_transaction b_M_transaction 5 .int 1 20 [.ref (ad (1, 0, 0)), .int a1, .int a2, .int a3, .int a4] S (f_M_transaction a1 a2 a3 a4 S) := by
  generalize hr : f_M_transaction a1 a2 a3 a4 S = res
  refine zI_of pn_M (Nat.le_of_ble_eq_true rfl) (fun p e s m below meth c A ls hy hW hA hl => ?_)
  have hF := hy.1
  have hx := hF.1
  have hb := hF.2.1
  have hK := hy.2.2.2
  have hl : lv_has ls 5 [(0, .ref (ad (1, 0, 0))), (1, .int a1), (2, .int a2), (3, .int a3), (4, .int a4)] := hl
  refine lv_aload_n (pc := 0) hx hb d_M_transaction_0 rfl (lv_at hl 0 rfl) ?_
  refine lv_iload_n (pc := 1) hx hb d_M_transaction_1 rfl (lv_at hl 1 rfl) ?_
  obtain ⟨r1, er1⟩ : ∃ z : Int32, z = f_M_isNode a1 S := ⟨_, rfl⟩
  have hk := lt_p er1 hk
  have hr := lt_e er1 hr
  refine p_go (pc := 2) (congrArg Value.int er1) (p_runS hF hK hW (c_M_isNode l D X ad ca a1 S _) cd_M_isNode gw_1022 ⟨Nat.le_of_ble_eq_true rfl, Nat.le_of_ble_eq_true rfl⟩ ⟨Nat.zero_le _, Nat.zero_le _⟩ rfl rfl hl.1 (Nat.le_of_ble_eq_true rfl) d_M_transaction_2) ?_
  refine lv_if_eq (pc := 5) (tgt := 39) hx hb d_M_transaction_5 (by decide) (fun c2 => ?_) (fun c2 => ?_)
  · have hk := hk.1 c2
    have hr := (if_pos c2).symm.trans hr
    exact w_M_transaction_39 a1 a2 a3 a4 hy hA S hk hr _ _ _ hW (lv_sub hl [0, 1, 2, 3, 4] rfl)
  · have hk := hk.2 c2
    have hr := (if_neg c2).symm.trans hr
    refine lv_iload_n (pc := 8) hx hb d_M_transaction_8 rfl (lv_at hl 2 rfl) ?_
    obtain ⟨r3, er3⟩ : ∃ z : Int32, z = f_M_isNode a2 S := ⟨_, rfl⟩
    have hk := lt_p er3 hk
    have hr := lt_e er3 hr
    refine p_go (pc := 9) (congrArg Value.int er3) (p_runS hF hK hW (c_M_isNode l D X ad ca a2 S _) cd_M_isNode gw_1022 ⟨Nat.le_of_ble_eq_true rfl, Nat.le_of_ble_eq_true rfl⟩ ⟨Nat.zero_le _, Nat.zero_le _⟩ rfl rfl hl.1 (Nat.le_of_ble_eq_true rfl) d_M_transaction_9) ?_
    refine lv_if_eq (pc := 12) (tgt := 39) hx hb d_M_transaction_12 (by decide) (fun c4 => ?_) (fun c4 => ?_)
    · have hk := hk.1 c4
      have hr := (if_pos c4).symm.trans hr
      exact w_M_transaction_39 a1 a2 a3 a4 hy hA S hk hr _ _ _ hW (lv_sub hl [0, 1, 2, 3, 4] rfl)
    · have hk := hk.2 c4
      have hr := (if_neg c4).symm.trans hr
      refine lv_iload_n (pc := 15) hx hb d_M_transaction_15 rfl (lv_at hl 3 rfl) ?_
      refine lv_if_lt (pc := 16) (tgt := 39) hx hb d_M_transaction_16 (by decide) (fun c5 => ?_) (fun c5 => ?_)
      · have hk := hk.1 c5
        have hr := (if_pos c5).symm.trans hr
        exact w_M_transaction_39 a1 a2 a3 a4 hy hA S hk hr _ _ _ hW (lv_sub hl [0, 1, 2, 3, 4] rfl)
      · have hk := hk.2 c5
        have hr := (if_neg c5).symm.trans hr
        refine lv_iload_n (pc := 19) hx hb d_M_transaction_19 rfl (lv_at hl 3 rfl) ?_
        refine lv_sipush (pc := 20) (v := 1000) hx hb d_M_transaction_20 (by decide) ?_
        refine lv_icmp_gt (pc := 23) (tgt := 39) hx hb d_M_transaction_23 (by decide) (fun c6 => ?_) (fun c6 => ?_)
        · have hk := hk.1 c6
          have hr := (if_pos c6).symm.trans hr
          exact w_M_transaction_39 a1 a2 a3 a4 hy hA S hk hr _ _ _ hW (lv_sub hl [0, 1, 2, 3, 4] rfl)
        · have hk := hk.2 c6
          have hr := (if_neg c6).symm.trans hr
          refine lv_iload (pc := 26) hx hb d_M_transaction_26 (lv_at hl 4 rfl) ?_
          refine lv_if_lt (pc := 28) (tgt := 39) hx hb d_M_transaction_28 (by decide) (fun c7 => ?_) (fun c7 => ?_)
          · have hk := hk.1 c7
            have hr := (if_pos c7).symm.trans hr
            exact w_M_transaction_39 a1 a2 a3 a4 hy hA S hk hr _ _ _ hW (lv_sub hl [0, 1, 2, 3, 4] rfl)
          · have hk := hk.2 c7
            have hr := (if_neg c7).symm.trans hr
            refine lv_iload (pc := 31) hx hb d_M_transaction_31 (lv_at hl 4 rfl) ?_
            refine lv_sipush (pc := 33) (v := 1000) hx hb d_M_transaction_33 (by decide) ?_
            refine lv_icmp_le (pc := 36) (tgt := 43) hx hb d_M_transaction_36 (by decide) (fun c8 => ?_) (fun c8 => ?_)
            · have hk := hk.1 c8
              have hr := (if_pos c8).symm.trans hr
              refine lv_aload_n (pc := 43) hx hb d_M_transaction_43 rfl (lv_at hl 0 rfl) ?_
              refine z_get (pc := 44) (v := .int (S.1 1 0 0 6)) hF hK.1 hW tm1 rfl rfl in_M 6 (by decide) gw_890 rfl rfl d_M_transaction_44 ?_
              refine lv_bipush (pc := 47) (v := 40) hx hb d_M_transaction_47 (by decide) ?_
              refine lv_icmp_ne (pc := 49) (tgt := 56) hx hb d_M_transaction_49 (by decide) (fun c9 => ?_) (fun c9 => ?_)
              · have hk := hk.2 c9
                have hr := (if_neg c9).symm.trans hr
                refine lv_iconst (pc := 56) (v := 0) hx hb d_M_transaction_56 (by decide) ?_
                exact w_M_transaction_57 a1 a2 a3 a4 hy hA S (0 : Int32) hk hr _ _ _ hW (lv_sub hl [0, 1, 2, 3, 4] rfl)
              · have hk := hk.1 c9
                have hr := (if_pos c9).symm.trans hr
                refine lv_iconst (pc := 52) (v := 2) hx hb d_M_transaction_52 (by decide) ?_
                refine lv_goto (pc := 53) (tgt := 57) hx hb d_M_transaction_53 (by decide) ?_
                exact w_M_transaction_57 a1 a2 a3 a4 hy hA S (2 : Int32) hk hr _ _ _ hW (lv_sub hl [0, 1, 2, 3, 4] rfl)
            · have hk := hk.2 c8
              have hr := (if_neg c8).symm.trans hr
              exact w_M_transaction_39 a1 a2 a3 a4 hy hA S hk hr _ _ _ hW (lv_sub hl [0, 1, 2, 3, 4] rfl)
theorem d_M_submit_0 : decode b_M_submit 0 = .ok (.aload_n 0, 1) := by decide +kernel
theorem d_M_submit_1 : decode b_M_submit 1 = .ok (.iload_n 1, 1) := by decide +kernel
theorem d_M_submit_2 : decode b_M_submit 2 = .ok (.invokestatic 231, 3) := by decide +kernel
theorem d_M_submit_5 : decode b_M_submit 5 = .ok (.ifCond .eq 11, 3) := by decide +kernel
theorem d_M_submit_8 : decode b_M_submit 8 = .ok (.aload_n 0, 1) := by decide +kernel
theorem d_M_submit_9 : decode b_M_submit 9 = .ok (.iload_n 2, 1) := by decide +kernel
theorem d_M_submit_10 : decode b_M_submit 10 = .ok (.invokevirtual 255, 3) := by decide +kernel
theorem d_M_submit_13 : decode b_M_submit 13 = .ok (.ifCond .ne 7, 3) := by decide +kernel
theorem d_M_submit_16 : decode b_M_submit 16 = .ok (.iconst 1, 1) := by decide +kernel
theorem d_M_submit_17 : decode b_M_submit 17 = .ok (.goto 17, 3) := by decide +kernel
theorem d_M_submit_20 : decode b_M_submit 20 = .ok (.aload_n 0, 1) := by decide +kernel
theorem d_M_submit_21 : decode b_M_submit 21 = .ok (.getfield 43, 3) := by decide +kernel
theorem d_M_submit_24 : decode b_M_submit 24 = .ok (.iload_n 1, 1) := by decide +kernel
theorem d_M_submit_25 : decode b_M_submit 25 = .ok (.baload, 1) := by decide +kernel
theorem d_M_submit_26 : decode b_M_submit 26 = .ok (.ifCond .ne 7, 3) := by decide +kernel
theorem d_M_submit_29 : decode b_M_submit 29 = .ok (.iconst 2, 1) := by decide +kernel
theorem d_M_submit_30 : decode b_M_submit 30 = .ok (.goto 4, 3) := by decide +kernel
theorem d_M_submit_33 : decode b_M_submit 33 = .ok (.iconst 0, 1) := by decide +kernel
theorem d_M_submit_34 : decode b_M_submit 34 = .ok (.putfield 141, 3) := by decide +kernel
theorem d_M_submit_37 : decode b_M_submit 37 = .ok (.aload_n 0, 1) := by decide +kernel
theorem d_M_submit_38 : decode b_M_submit 38 = .ok (.getfield 141, 3) := by decide +kernel
theorem d_M_submit_41 : decode b_M_submit 41 = .ok (.ifCond .le 7, 3) := by decide +kernel
theorem d_M_submit_44 : decode b_M_submit 44 = .ok (.iconst 1, 1) := by decide +kernel
theorem d_M_submit_45 : decode b_M_submit 45 = .ok (.goto 4, 3) := by decide +kernel
theorem d_M_submit_48 : decode b_M_submit 48 = .ok (.iconst 0, 1) := by decide +kernel
theorem d_M_submit_49 : decode b_M_submit 49 = .ok (.istore_n 3, 1) := by decide +kernel
theorem d_M_submit_50 : decode b_M_submit 50 = .ok (.iconst 0, 1) := by decide +kernel
theorem d_M_submit_51 : decode b_M_submit 51 = .ok (.istore 4, 2) := by decide +kernel
theorem d_M_submit_53 : decode b_M_submit 53 = .ok (.aload_n 0, 1) := by decide +kernel
theorem d_M_submit_54 : decode b_M_submit 54 = .ok (.getfield 141, 3) := by decide +kernel
theorem d_M_submit_57 : decode b_M_submit 57 = .ok (.ifCond .ne 46, 3) := by decide +kernel
theorem d_M_submit_60 : decode b_M_submit 60 = .ok (.iload 4, 2) := by decide +kernel
theorem d_M_submit_62 : decode b_M_submit 62 = .ok (.aload_n 0, 1) := by decide +kernel
theorem d_M_submit_63 : decode b_M_submit 63 = .ok (.getfield 76, 3) := by decide +kernel
theorem d_M_submit_66 : decode b_M_submit 66 = .ok (.iload_n 1, 1) := by decide +kernel
theorem d_M_submit_67 : decode b_M_submit 67 = .ok (.iaload, 1) := by decide +kernel
theorem d_M_submit_68 : decode b_M_submit 68 = .ok (.if_icmp .ge 35, 3) := by decide +kernel
theorem d_M_submit_71 : decode b_M_submit 71 = .ok (.iload_n 3, 1) := by decide +kernel
theorem d_M_submit_72 : decode b_M_submit 72 = .ok (.ifCond .ne 19, 3) := by decide +kernel
theorem d_M_submit_75 : decode b_M_submit 75 = .ok (.aload_n 0, 1) := by decide +kernel
theorem d_M_submit_76 : decode b_M_submit 76 = .ok (.getfield 79, 3) := by decide +kernel
theorem d_M_submit_79 : decode b_M_submit 79 = .ok (.bipush 40, 2) := by decide +kernel
theorem d_M_submit_81 : decode b_M_submit 81 = .ok (.iload_n 1, 1) := by decide +kernel
theorem d_M_submit_82 : decode b_M_submit 82 = .ok (.imul, 1) := by decide +kernel
theorem d_M_submit_83 : decode b_M_submit 83 = .ok (.iload 4, 2) := by decide +kernel
theorem d_M_submit_85 : decode b_M_submit 85 = .ok (.iadd, 1) := by decide +kernel
theorem d_M_submit_86 : decode b_M_submit 86 = .ok (.iaload, 1) := by decide +kernel
theorem d_M_submit_87 : decode b_M_submit 87 = .ok (.iload_n 2, 1) := by decide +kernel
theorem d_M_submit_88 : decode b_M_submit 88 = .ok (.if_icmp .ne 7, 3) := by decide +kernel
theorem d_M_submit_91 : decode b_M_submit 91 = .ok (.iconst 1, 1) := by decide +kernel
theorem d_M_submit_92 : decode b_M_submit 92 = .ok (.goto 4, 3) := by decide +kernel
theorem d_M_submit_95 : decode b_M_submit 95 = .ok (.iconst 0, 1) := by decide +kernel
theorem d_M_submit_96 : decode b_M_submit 96 = .ok (.istore_n 3, 1) := by decide +kernel
theorem d_M_submit_97 : decode b_M_submit 97 = .ok (.iinc 4 1, 3) := by decide +kernel
theorem d_M_submit_100 : decode b_M_submit 100 = .ok (.goto (-47), 3) := by decide +kernel
theorem d_M_submit_103 : decode b_M_submit 103 = .ok (.iload_n 3, 1) := by decide +kernel
theorem d_M_submit_104 : decode b_M_submit 104 = .ok (.ifCond .ne 30, 3) := by decide +kernel
theorem d_M_submit_107 : decode b_M_submit 107 = .ok (.aload_n 0, 1) := by decide +kernel
theorem d_M_submit_108 : decode b_M_submit 108 = .ok (.getfield 79, 3) := by decide +kernel
theorem d_M_submit_111 : decode b_M_submit 111 = .ok (.bipush 40, 2) := by decide +kernel
theorem d_M_submit_113 : decode b_M_submit 113 = .ok (.iload_n 1, 1) := by decide +kernel
theorem d_M_submit_114 : decode b_M_submit 114 = .ok (.imul, 1) := by decide +kernel
theorem d_M_submit_115 : decode b_M_submit 115 = .ok (.aload_n 0, 1) := by decide +kernel
theorem d_M_submit_116 : decode b_M_submit 116 = .ok (.getfield 76, 3) := by decide +kernel
theorem d_M_submit_119 : decode b_M_submit 119 = .ok (.iload_n 1, 1) := by decide +kernel
theorem d_M_submit_120 : decode b_M_submit 120 = .ok (.iaload, 1) := by decide +kernel
theorem d_M_submit_121 : decode b_M_submit 121 = .ok (.iadd, 1) := by decide +kernel
theorem d_M_submit_122 : decode b_M_submit 122 = .ok (.iload_n 2, 1) := by decide +kernel
theorem d_M_submit_123 : decode b_M_submit 123 = .ok (.iastore, 1) := by decide +kernel
theorem d_M_submit_124 : decode b_M_submit 124 = .ok (.aload_n 0, 1) := by decide +kernel
theorem d_M_submit_125 : decode b_M_submit 125 = .ok (.getfield 76, 3) := by decide +kernel
theorem d_M_submit_128 : decode b_M_submit 128 = .ok (.iload_n 1, 1) := by decide +kernel
theorem d_M_submit_129 : decode b_M_submit 129 = .ok (.dup2, 1) := by decide +kernel
theorem d_M_submit_130 : decode b_M_submit 130 = .ok (.iaload, 1) := by decide +kernel
theorem d_M_submit_131 : decode b_M_submit 131 = .ok (.iconst 1, 1) := by decide +kernel
theorem d_M_submit_132 : decode b_M_submit 132 = .ok (.iadd, 1) := by decide +kernel
theorem d_M_submit_133 : decode b_M_submit 133 = .ok (.iastore, 1) := by decide +kernel
theorem d_M_submit_134 : decode b_M_submit 134 = .ok (.iload_n 3, 1) := by decide +kernel
theorem d_M_submit_135 : decode b_M_submit 135 = .ok (.ifCond .ne 7, 3) := by decide +kernel
theorem d_M_submit_138 : decode b_M_submit 138 = .ok (.iconst 1, 1) := by decide +kernel
theorem d_M_submit_139 : decode b_M_submit 139 = .ok (.goto 4, 3) := by decide +kernel
theorem d_M_submit_142 : decode b_M_submit 142 = .ok (.iconst 0, 1) := by decide +kernel
theorem d_M_submit_143 : decode b_M_submit 143 = .ok (.ireturn, 1) := by decide +kernel
def f_M_submit_103 (a1 : Int32) (a2 : Int32) (S : St) (l3 : Int32) : Int32 × St :=
  if l3 = 0 then
    lt (si S 23 0 0 ((((40 : Int32) * a1) + (S.1 22 0 0 a1.toNatClampNeg)).toNatClampNeg) a2) fun (S19 : St) =>
    lt (si S19 22 0 0 (a1.toNatClampNeg) ((S19.1 22 0 0 a1.toNatClampNeg) + (1 : Int32))) fun (S22 : St) =>
    if l3 = 0 then
      ((1 : Int32), S22)
    else
      ((0 : Int32), S22)
  else
    if l3 = 0 then
      ((1 : Int32), S)
    else
      ((0 : Int32), S)
def ok_M_submit_103 (a1 : Int32) (a2 : Int32) (S : St) (l3 : Int32) : Prop :=
  (l3 = 0 → (
    (vp_in a1 4) ∧ (
      (vp_in (((40 : Int32) * a1) + (S.1 22 0 0 a1.toNatClampNeg)) 160) ∧ (
        lt (si S 23 0 0 ((((40 : Int32) * a1) + (S.1 22 0 0 a1.toNatClampNeg)).toNatClampNeg) a2) fun (S19 : St) =>
        (vp_in a1 4) ∧ (
          (vp_in a1 4) ∧ (
            True)))))) ∧ (¬ (l3 = 0) → (
    True))
set_option maxHeartbeats 4000000 in
set_option maxRecDepth 100000 in
theorem w_M_submit_103 {l : Launch} {D : va_G} {X : va_W} {ad : N3 → Nat} {ca : Nat → ClassId} (a1 : Int32) (a2 : Int32)  {p : Program} {e : Env} {s : State} {m : MethodId} {below : List Frame} {meth : Method} {c : Code} {A : Nat → Prop} (hy : Hy p s m ([.ref (ad (1, 0, 0)), .int a1, .int a2] : List Value).toArray meth c b_M_submit 5 (some .boolean) R_M GG D clM (tysM ca) nwM) (hA : ∀ q, s.heap.size ≤ q → A q) {res : Int32 × St} : ∀  (S : St) (l3 : Int32) , ok_M_submit_103 a1 a2 S l3 → f_M_submit_103 a1 a2 S l3 = res → ∀ (H : Heap) (locs : List Loc) (ls : Array Slot), Wd D clM A s.heap (zw X ad TM (cfM ad ca) S) H locs → lv_has ls 5 [(0, .ref (ad (1, 0, 0))), (1, .int a1), (2, .int a2), (3, .int l3)] → W p l e { frames := 1, cells := 0, slots := 0, locals := 21 } s m ([.ref (ad (1, 0, 0)), .int a1, .int a2] : List Value).toArray below meth c H locs 0 0 (MQ below (eI D clM X ad TM (cfM ad ca) A res) ([.ref (ad (1, 0, 0)), .int a1, .int a2] : List Value).toArray s 0 0 A) (F0 m 103 ls []) := by
  have hF := hy.1
  have hx := hF.1
  have hb := hF.2.1
  have hK := hy.2.2.2
  intro S l3 hk hr H locs ls hW hl
  refine lv_iload_n (pc := 103) hx hb d_M_submit_103 rfl (lv_at hl 3 rfl) ?_
  refine lv_if_ne (pc := 104) (tgt := 134) hx hb d_M_submit_104 (by decide) (fun c15 => ?_) (fun c15 => ?_)
  · have hk := hk.2 c15
    have hr := (if_neg c15).symm.trans hr
    refine lv_iload_n (pc := 134) hx hb d_M_submit_134 rfl (lv_at hl 3 rfl) ?_
    refine lv_if_ne (pc := 135) (tgt := 142) hx hb d_M_submit_135 (by decide) (fun c16 => ?_) (fun c16 => ?_)
    · have hr := (if_neg c16).symm.trans hr
      refine lv_iconst (pc := 142) (v := 0) hx hb d_M_submit_142 (by decide) ?_
      exact z_zret (v := (0 : Int32)) hy hW rfl hr.symm d_M_submit_143
    · have hr := (if_pos c16).symm.trans hr
      refine lv_iconst (pc := 138) (v := 1) hx hb d_M_submit_138 (by decide) ?_
      refine lv_goto (pc := 139) (tgt := 143) hx hb d_M_submit_139 (by decide) ?_
      exact z_zret (v := (1 : Int32)) hy hW rfl hr.symm d_M_submit_143
  · have hk := hk.1 c15
    have hr := (if_pos c15).symm.trans hr
    refine lv_aload_n (pc := 107) hx hb d_M_submit_107 rfl (lv_at hl 0 rfl) ?_
    refine z_get (pc := 108) (v := .ref (ad (23, 0, 0))) hF hK.1 hW tm1 rfl rfl in_M 28 (by decide) gw_912 rfl rfl d_M_submit_108 ?_
    refine lv_bipush (pc := 111) (v := 40) hx hb d_M_submit_111 (by decide) ?_
    refine lv_iload_n (pc := 113) hx hb d_M_submit_113 rfl (lv_at hl 1 rfl) ?_
    refine lv_imul (pc := 114) hx hb d_M_submit_114 ?_
    refine lv_aload_n (pc := 115) hx hb d_M_submit_115 rfl (lv_at hl 0 rfl) ?_
    refine z_get (pc := 116) (v := .ref (ad (22, 0, 0))) hF hK.1 hW tm1 rfl rfl in_M 27 (by decide) gw_911 rfl rfl d_M_submit_116 ?_
    refine lv_iload_n (pc := 119) hx hb d_M_submit_119 rfl (lv_at hl 1 rfl) ?_
    have b17 := hk.1
    have hk := hk.2
    refine z_iald (pc := 120) (v := S.1 22 0 0 a1.toNatClampNeg) hF hK.1 hW tm22 0 rfl rfl b17 rfl d_M_submit_120 ?_
    refine lv_iadd (pc := 121) hx hb d_M_submit_121 ?_
    refine lv_iload_n (pc := 122) hx hb d_M_submit_122 rfl (lv_at hl 2 rfl) ?_
    have b18 := hk.1
    have hk := hk.2
    obtain ⟨S19, eS19⟩ : ∃ z : St, z = si S 23 0 0 ((((40 : Int32) * a1) + (S.1 22 0 0 a1.toNatClampNeg)).toNatClampNeg) a2 := ⟨_, rfl⟩
    have hk := lt_p eS19 hk
    have hr := lt_e eS19 hr
    refine z_iast (pc := 123) (S' := S19) hF hK.1 hW tm23 0 rfl rfl b18 (zs_si eS19 rfl) (zs_sio eS19) d_M_submit_123 (fun H locs (hW : Wd D clM A s.heap (zw X ad TM (cfM ad ca) S19) H locs) => ?_)
    refine lv_aload_n (pc := 124) hx hb d_M_submit_124 rfl (lv_at hl 0 rfl) ?_
    refine z_get (pc := 125) (v := .ref (ad (22, 0, 0))) hF hK.1 hW tm1 rfl rfl in_M 27 (by decide) gw_911 rfl rfl d_M_submit_125 ?_
    refine lv_iload_n (pc := 128) hx hb d_M_submit_128 rfl (lv_at hl 1 rfl) ?_
    refine lv_dup2_11 (pc := 129) hx hb d_M_submit_129 rfl rfl ?_
    have b20 := hk.1
    have hk := hk.2
    refine z_iald (pc := 130) (v := S19.1 22 0 0 a1.toNatClampNeg) hF hK.1 hW tm22 0 rfl rfl b20 rfl d_M_submit_130 ?_
    refine lv_iconst (pc := 131) (v := 1) hx hb d_M_submit_131 (by decide) ?_
    refine lv_iadd (pc := 132) hx hb d_M_submit_132 ?_
    have b21 := hk.1
    have hk := hk.2
    obtain ⟨S22, eS22⟩ : ∃ z : St, z = si S19 22 0 0 (a1.toNatClampNeg) ((S19.1 22 0 0 a1.toNatClampNeg) + (1 : Int32)) := ⟨_, rfl⟩
    have hr := lt_e eS22 hr
    refine z_iast (pc := 133) (S' := S22) hF hK.1 hW tm22 0 rfl rfl b21 (zs_si eS22 rfl) (zs_sio eS22) d_M_submit_133 (fun H locs (hW : Wd D clM A s.heap (zw X ad TM (cfM ad ca) S22) H locs) => ?_)
    refine lv_iload_n (pc := 134) hx hb d_M_submit_134 rfl (lv_at hl 3 rfl) ?_
    refine lv_if_ne (pc := 135) (tgt := 142) hx hb d_M_submit_135 (by decide) (fun c23 => ?_) (fun c23 => ?_)
    · have hr := (if_neg c23).symm.trans hr
      refine lv_iconst (pc := 142) (v := 0) hx hb d_M_submit_142 (by decide) ?_
      exact z_zret (v := (0 : Int32)) hy hW rfl hr.symm d_M_submit_143
    · have hr := (if_pos c23).symm.trans hr
      refine lv_iconst (pc := 138) (v := 1) hx hb d_M_submit_138 (by decide) ?_
      refine lv_goto (pc := 139) (tgt := 143) hx hb d_M_submit_139 (by decide) ?_
      exact z_zret (v := (1 : Int32)) hy hW rfl hr.symm d_M_submit_143
def f_M_submit_53 (a1 : Int32) (a2 : Int32) : Nat → St → Int32 → Int32 → Int32 × St
  | 0, S, _, _ => (0, S)
  | n + 1, S, l3, l4 =>
    if (S.1 1 0 0 1) = 0 then
      if (S.1 22 0 0 a1.toNatClampNeg) ≤ l4 then
        f_M_submit_103 a1 a2 S l3
      else
        if l3 = 0 then
          if (S.1 23 0 0 (((40 : Int32) * a1) + l4).toNatClampNeg) = a2 then
            f_M_submit_53 a1 a2 n S (1 : Int32) (l4 + (1 : Int32))
          else
            f_M_submit_53 a1 a2 n S (0 : Int32) (l4 + (1 : Int32))
        else
          f_M_submit_53 a1 a2 n S (1 : Int32) (l4 + (1 : Int32))
    else
      f_M_submit_103 a1 a2 S l3
def ok_M_submit_53 (a1 : Int32) (a2 : Int32) : Nat → St → Int32 → Int32 → Prop
  | 0, _, _, _ => False
  | n + 1, S, l3, l4 =>
    ((S.1 1 0 0 1) = 0 → (
      (vp_in a1 4) ∧ (
        ((S.1 22 0 0 a1.toNatClampNeg) ≤ l4 → (
          ok_M_submit_103 a1 a2 S l3)) ∧ (¬ ((S.1 22 0 0 a1.toNatClampNeg) ≤ l4) → (
          (l3 = 0 → (
            (vp_in (((40 : Int32) * a1) + l4) 160) ∧ (
              ((S.1 23 0 0 (((40 : Int32) * a1) + l4).toNatClampNeg) = a2 → (
                ok_M_submit_53 a1 a2 n S (1 : Int32) (l4 + (1 : Int32)))) ∧ (¬ ((S.1 23 0 0 (((40 : Int32) * a1) + l4).toNatClampNeg) = a2) → (
                ok_M_submit_53 a1 a2 n S (0 : Int32) (l4 + (1 : Int32))))))) ∧ (¬ (l3 = 0) → (
            ok_M_submit_53 a1 a2 n S (1 : Int32) (l4 + (1 : Int32))))))))) ∧ (¬ ((S.1 1 0 0 1) = 0) → (
      ok_M_submit_103 a1 a2 S l3))
set_option maxHeartbeats 4000000 in
set_option maxRecDepth 100000 in
theorem w_M_submit_53 {l : Launch} {D : va_G} {X : va_W} {ad : N3 → Nat} {ca : Nat → ClassId} (a1 : Int32) (a2 : Int32)  {p : Program} {e : Env} {s : State} {m : MethodId} {below : List Frame} {meth : Method} {c : Code} {A : Nat → Prop} (hy : Hy p s m ([.ref (ad (1, 0, 0)), .int a1, .int a2] : List Value).toArray meth c b_M_submit 5 (some .boolean) R_M GG D clM (tysM ca) nwM) (hA : ∀ q, s.heap.size ≤ q → A q) {res : Int32 × St} : ∀ (n : Nat) (S : St) (l3 : Int32) (l4 : Int32) , ok_M_submit_53 a1 a2 n S l3 l4 → f_M_submit_53 a1 a2 n S l3 l4 = res → ∀ (H : Heap) (locs : List Loc) (ls : Array Slot), Wd D clM A s.heap (zw X ad TM (cfM ad ca) S) H locs → lv_has ls 5 [(0, .ref (ad (1, 0, 0))), (1, .int a1), (2, .int a2), (3, .int l3), (4, .int l4)] → W p l e { frames := 1, cells := 0, slots := 0, locals := 21 } s m ([.ref (ad (1, 0, 0)), .int a1, .int a2] : List Value).toArray below meth c H locs 0 0 (MQ below (eI D clM X ad TM (cfM ad ca) A res) ([.ref (ad (1, 0, 0)), .int a1, .int a2] : List Value).toArray s 0 0 A) (F0 m 53 ls []) := by
  have hF := hy.1
  have hx := hF.1
  have hb := hF.2.1
  have hK := hy.2.2.2
  intro n
  induction n with
  | zero =>
    intro S l3 l4 hk
    exact hk.elim
  | succ n ih =>
    intro S l3 l4 hk hr H locs ls hW hl
    refine lv_aload_n (pc := 53) hx hb d_M_submit_53 rfl (lv_at hl 0 rfl) ?_
    refine z_get (pc := 54) (v := .int (S.1 1 0 0 1)) hF hK.1 hW tm1 rfl rfl in_M 1 (by decide) gw_885 rfl rfl d_M_submit_54 ?_
    refine lv_if_ne (pc := 57) (tgt := 103) hx hb d_M_submit_57 (by decide) (fun c9 => ?_) (fun c9 => ?_)
    · have hk := hk.2 c9
      have hr := (if_neg c9).symm.trans hr
      exact w_M_submit_103 a1 a2 hy hA S l3 hk hr _ _ _ hW (lv_sub hl [0, 1, 2, 3] rfl)
    · have hk := hk.1 c9
      have hr := (if_pos c9).symm.trans hr
      refine lv_iload (pc := 60) hx hb d_M_submit_60 (lv_at hl 4 rfl) ?_
      refine lv_aload_n (pc := 62) hx hb d_M_submit_62 rfl (lv_at hl 0 rfl) ?_
      refine z_get (pc := 63) (v := .ref (ad (22, 0, 0))) hF hK.1 hW tm1 rfl rfl in_M 27 (by decide) gw_911 rfl rfl d_M_submit_63 ?_
      refine lv_iload_n (pc := 66) hx hb d_M_submit_66 rfl (lv_at hl 1 rfl) ?_
      have b10 := hk.1
      have hk := hk.2
      refine z_iald (pc := 67) (v := S.1 22 0 0 a1.toNatClampNeg) hF hK.1 hW tm22 0 rfl rfl b10 rfl d_M_submit_67 ?_
      refine lv_icmp_ge (pc := 68) (tgt := 103) hx hb d_M_submit_68 (by decide) (fun c11 => ?_) (fun c11 => ?_)
      · have hk := hk.1 c11
        have hr := (if_pos c11).symm.trans hr
        exact w_M_submit_103 a1 a2 hy hA S l3 hk hr _ _ _ hW (lv_sub hl [0, 1, 2, 3] rfl)
      · have hk := hk.2 c11
        have hr := (if_neg c11).symm.trans hr
        refine lv_iload_n (pc := 71) hx hb d_M_submit_71 rfl (lv_at hl 3 rfl) ?_
        refine lv_if_ne (pc := 72) (tgt := 91) hx hb d_M_submit_72 (by decide) (fun c12 => ?_) (fun c12 => ?_)
        · have hk := hk.2 c12
          have hr := (if_neg c12).symm.trans hr
          refine lv_iconst (pc := 91) (v := 1) hx hb d_M_submit_91 (by decide) ?_
          refine lv_goto (pc := 92) (tgt := 96) hx hb d_M_submit_92 (by decide) ?_
          refine lv_istore_n (pc := 96) (lv' := [(3, .int (1 : Int32)), (0, .ref (ad (1, 0, 0))), (1, .int a1), (2, .int a2), (4, .int l4)]) hx hb d_M_submit_96 rfl hl (by decide) rfl (fun ls hl => ?_)
          refine lv_iinc (pc := 97) (v := l4 + (1 : Int32)) (lv' := [(4, .int (l4 + (1 : Int32))), (3, .int (1 : Int32)), (0, .ref (ad (1, 0, 0))), (1, .int a1), (2, .int a2)]) (k := 4) hx hb d_M_submit_97 hl rfl (z_inc (by decide)) (by decide) rfl (fun ls hl => ?_)
          refine lv_goto (pc := 100) (tgt := 53) hx hb d_M_submit_100 (by decide) ?_
          exact ih S (1 : Int32) (l4 + (1 : Int32)) hk hr _ _ _ hW (lv_sub hl [2, 3, 4, 1, 0] rfl)
        · have hk := hk.1 c12
          have hr := (if_pos c12).symm.trans hr
          refine lv_aload_n (pc := 75) hx hb d_M_submit_75 rfl (lv_at hl 0 rfl) ?_
          refine z_get (pc := 76) (v := .ref (ad (23, 0, 0))) hF hK.1 hW tm1 rfl rfl in_M 28 (by decide) gw_912 rfl rfl d_M_submit_76 ?_
          refine lv_bipush (pc := 79) (v := 40) hx hb d_M_submit_79 (by decide) ?_
          refine lv_iload_n (pc := 81) hx hb d_M_submit_81 rfl (lv_at hl 1 rfl) ?_
          refine lv_imul (pc := 82) hx hb d_M_submit_82 ?_
          refine lv_iload (pc := 83) hx hb d_M_submit_83 (lv_at hl 4 rfl) ?_
          refine lv_iadd (pc := 85) hx hb d_M_submit_85 ?_
          have b13 := hk.1
          have hk := hk.2
          refine z_iald (pc := 86) (v := S.1 23 0 0 (((40 : Int32) * a1) + l4).toNatClampNeg) hF hK.1 hW tm23 0 rfl rfl b13 rfl d_M_submit_86 ?_
          refine lv_iload_n (pc := 87) hx hb d_M_submit_87 rfl (lv_at hl 2 rfl) ?_
          refine lv_icmp_ne (pc := 88) (tgt := 95) hx hb d_M_submit_88 (by decide) (fun c14 => ?_) (fun c14 => ?_)
          · have hk := hk.2 c14
            have hr := (if_neg c14).symm.trans hr
            refine lv_iconst (pc := 95) (v := 0) hx hb d_M_submit_95 (by decide) ?_
            refine lv_istore_n (pc := 96) (lv' := [(3, .int (0 : Int32)), (0, .ref (ad (1, 0, 0))), (1, .int a1), (2, .int a2), (4, .int l4)]) hx hb d_M_submit_96 rfl hl (by decide) rfl (fun ls hl => ?_)
            refine lv_iinc (pc := 97) (v := l4 + (1 : Int32)) (lv' := [(4, .int (l4 + (1 : Int32))), (3, .int (0 : Int32)), (0, .ref (ad (1, 0, 0))), (1, .int a1), (2, .int a2)]) (k := 4) hx hb d_M_submit_97 hl rfl (z_inc (by decide)) (by decide) rfl (fun ls hl => ?_)
            refine lv_goto (pc := 100) (tgt := 53) hx hb d_M_submit_100 (by decide) ?_
            exact ih S (0 : Int32) (l4 + (1 : Int32)) hk hr _ _ _ hW (lv_sub hl [2, 3, 4, 1, 0] rfl)
          · have hk := hk.1 c14
            have hr := (if_pos c14).symm.trans hr
            refine lv_iconst (pc := 91) (v := 1) hx hb d_M_submit_91 (by decide) ?_
            refine lv_goto (pc := 92) (tgt := 96) hx hb d_M_submit_92 (by decide) ?_
            refine lv_istore_n (pc := 96) (lv' := [(3, .int (1 : Int32)), (0, .ref (ad (1, 0, 0))), (1, .int a1), (2, .int a2), (4, .int l4)]) hx hb d_M_submit_96 rfl hl (by decide) rfl (fun ls hl => ?_)
            refine lv_iinc (pc := 97) (v := l4 + (1 : Int32)) (lv' := [(4, .int (l4 + (1 : Int32))), (3, .int (1 : Int32)), (0, .ref (ad (1, 0, 0))), (1, .int a1), (2, .int a2)]) (k := 4) hx hb d_M_submit_97 hl rfl (z_inc (by decide)) (by decide) rfl (fun ls hl => ?_)
            refine lv_goto (pc := 100) (tgt := 53) hx hb d_M_submit_100 (by decide) ?_
            exact ih S (1 : Int32) (l4 + (1 : Int32)) hk hr _ _ _ hW (lv_sub hl [2, 3, 4, 1, 0] rfl)
def f_M_submit_49 (a1 : Int32) (a2 : Int32) (S : St) (t0 : Int32) : Int32 × St :=
  f_M_submit_53 a1 a2 200 S t0 (0 : Int32)
def ok_M_submit_49 (a1 : Int32) (a2 : Int32) (S : St) (t0 : Int32) : Prop :=
  ok_M_submit_53 a1 a2 200 S t0 (0 : Int32)
set_option maxHeartbeats 4000000 in
set_option maxRecDepth 100000 in
theorem w_M_submit_49 {l : Launch} {D : va_G} {X : va_W} {ad : N3 → Nat} {ca : Nat → ClassId} (a1 : Int32) (a2 : Int32)  {p : Program} {e : Env} {s : State} {m : MethodId} {below : List Frame} {meth : Method} {c : Code} {A : Nat → Prop} (hy : Hy p s m ([.ref (ad (1, 0, 0)), .int a1, .int a2] : List Value).toArray meth c b_M_submit 5 (some .boolean) R_M GG D clM (tysM ca) nwM) (hA : ∀ q, s.heap.size ≤ q → A q) {res : Int32 × St} : ∀  (S : St) (t0 : Int32) , ok_M_submit_49 a1 a2 S t0 → f_M_submit_49 a1 a2 S t0 = res → ∀ (H : Heap) (locs : List Loc) (ls : Array Slot), Wd D clM A s.heap (zw X ad TM (cfM ad ca) S) H locs → lv_has ls 5 [(0, .ref (ad (1, 0, 0))), (1, .int a1), (2, .int a2)] → W p l e { frames := 1, cells := 0, slots := 0, locals := 21 } s m ([.ref (ad (1, 0, 0)), .int a1, .int a2] : List Value).toArray below meth c H locs 0 0 (MQ below (eI D clM X ad TM (cfM ad ca) A res) ([.ref (ad (1, 0, 0)), .int a1, .int a2] : List Value).toArray s 0 0 A) (F0 m 49 ls [.int t0]) := by
  have hF := hy.1
  have hx := hF.1
  have hb := hF.2.1
  have hK := hy.2.2.2
  intro S t0 hk hr H locs ls hW hl
  refine lv_istore_n (pc := 49) (lv' := [(3, .int t0), (0, .ref (ad (1, 0, 0))), (1, .int a1), (2, .int a2)]) hx hb d_M_submit_49 rfl hl (by decide) rfl (fun ls hl => ?_)
  refine lv_iconst (pc := 50) (v := 0) hx hb d_M_submit_50 (by decide) ?_
  refine lv_istore (pc := 51) (lv' := [(4, .int (0 : Int32)), (3, .int t0), (0, .ref (ad (1, 0, 0))), (1, .int a1), (2, .int a2)]) hx hb d_M_submit_51 hl (by decide) rfl (fun ls hl => ?_)
  exact w_M_submit_53 a1 a2 hy hA 200 S t0 (0 : Int32) hk hr _ _ _ hW (lv_sub hl [2, 3, 4, 1, 0] rfl)
def f_M_submit_34 (a1 : Int32) (a2 : Int32) (S : St) (t0 : Int32) : Int32 × St :=
  lt (si S 1 0 0 1 t0) fun (S7 : St) =>
  if (S7.1 1 0 0 1) ≤ 0 then
    f_M_submit_49 a1 a2 S7 (0 : Int32)
  else
    f_M_submit_49 a1 a2 S7 (1 : Int32)
def ok_M_submit_34 (a1 : Int32) (a2 : Int32) (S : St) (t0 : Int32) : Prop :=
  lt (si S 1 0 0 1 t0) fun (S7 : St) =>
  ((S7.1 1 0 0 1) ≤ 0 → (
    ok_M_submit_49 a1 a2 S7 (0 : Int32))) ∧ (¬ ((S7.1 1 0 0 1) ≤ 0) → (
    ok_M_submit_49 a1 a2 S7 (1 : Int32)))
set_option maxHeartbeats 4000000 in
set_option maxRecDepth 100000 in
theorem w_M_submit_34 {l : Launch} {D : va_G} {X : va_W} {ad : N3 → Nat} {ca : Nat → ClassId} (a1 : Int32) (a2 : Int32)  {p : Program} {e : Env} {s : State} {m : MethodId} {below : List Frame} {meth : Method} {c : Code} {A : Nat → Prop} (hy : Hy p s m ([.ref (ad (1, 0, 0)), .int a1, .int a2] : List Value).toArray meth c b_M_submit 5 (some .boolean) R_M GG D clM (tysM ca) nwM) (hA : ∀ q, s.heap.size ≤ q → A q) {res : Int32 × St} : ∀  (S : St) (t0 : Int32) , ok_M_submit_34 a1 a2 S t0 → f_M_submit_34 a1 a2 S t0 = res → ∀ (H : Heap) (locs : List Loc) (ls : Array Slot), Wd D clM A s.heap (zw X ad TM (cfM ad ca) S) H locs → lv_has ls 5 [(0, .ref (ad (1, 0, 0))), (1, .int a1), (2, .int a2)] → W p l e { frames := 1, cells := 0, slots := 0, locals := 21 } s m ([.ref (ad (1, 0, 0)), .int a1, .int a2] : List Value).toArray below meth c H locs 0 0 (MQ below (eI D clM X ad TM (cfM ad ca) A res) ([.ref (ad (1, 0, 0)), .int a1, .int a2] : List Value).toArray s 0 0 A) (F0 m 34 ls [.int t0, .ref (ad (1, 0, 0))]) := by
  have hF := hy.1
  have hx := hF.1
  have hb := hF.2.1
  have hK := hy.2.2.2
  intro S t0 hk hr H locs ls hW hl
  obtain ⟨S7, eS7⟩ : ∃ z : St, z = si S 1 0 0 1 t0 := ⟨_, rfl⟩
  have hk := lt_p eS7 hk
  have hr := lt_e eS7 hr
  refine z_put (pc := 34) (S' := S7) hF hK.1 hW tm1 rfl rfl in_M t_M tyo_M nmo_M 1 (by decide) gw_885 rfl rfl rfl rfl rfl (Nat.le_of_ble_eq_true rfl) (zs_si eS7 rfl) (zs_sio eS7) d_M_submit_34 (fun H locs (hW : Wd D clM A s.heap (zw X ad TM (cfM ad ca) S7) H locs) => ?_)
  refine lv_aload_n (pc := 37) hx hb d_M_submit_37 rfl (lv_at hl 0 rfl) ?_
  refine z_get (pc := 38) (v := .int (S7.1 1 0 0 1)) hF hK.1 hW tm1 rfl rfl in_M 1 (by decide) gw_885 rfl rfl d_M_submit_38 ?_
  refine lv_if_le (pc := 41) (tgt := 48) hx hb d_M_submit_41 (by decide) (fun c8 => ?_) (fun c8 => ?_)
  · have hk := hk.1 c8
    have hr := (if_pos c8).symm.trans hr
    refine lv_iconst (pc := 48) (v := 0) hx hb d_M_submit_48 (by decide) ?_
    exact w_M_submit_49 a1 a2 hy hA S7 (0 : Int32) hk hr _ _ _ hW (lv_sub hl [0, 1, 2] rfl)
  · have hk := hk.2 c8
    have hr := (if_neg c8).symm.trans hr
    refine lv_iconst (pc := 44) (v := 1) hx hb d_M_submit_44 (by decide) ?_
    refine lv_goto (pc := 45) (tgt := 49) hx hb d_M_submit_45 (by decide) ?_
    exact w_M_submit_49 a1 a2 hy hA S7 (1 : Int32) hk hr _ _ _ hW (lv_sub hl [0, 1, 2] rfl)
def f_M_submit_16 (a1 : Int32) (a2 : Int32) (S : St)  : Int32 × St :=
  f_M_submit_34 a1 a2 S (1 : Int32)
def ok_M_submit_16 (a1 : Int32) (a2 : Int32) (S : St)  : Prop :=
  ok_M_submit_34 a1 a2 S (1 : Int32)
set_option maxHeartbeats 4000000 in
set_option maxRecDepth 100000 in
theorem w_M_submit_16 {l : Launch} {D : va_G} {X : va_W} {ad : N3 → Nat} {ca : Nat → ClassId} (a1 : Int32) (a2 : Int32)  {p : Program} {e : Env} {s : State} {m : MethodId} {below : List Frame} {meth : Method} {c : Code} {A : Nat → Prop} (hy : Hy p s m ([.ref (ad (1, 0, 0)), .int a1, .int a2] : List Value).toArray meth c b_M_submit 5 (some .boolean) R_M GG D clM (tysM ca) nwM) (hA : ∀ q, s.heap.size ≤ q → A q) {res : Int32 × St} : ∀  (S : St)  , ok_M_submit_16 a1 a2 S → f_M_submit_16 a1 a2 S = res → ∀ (H : Heap) (locs : List Loc) (ls : Array Slot), Wd D clM A s.heap (zw X ad TM (cfM ad ca) S) H locs → lv_has ls 5 [(0, .ref (ad (1, 0, 0))), (1, .int a1), (2, .int a2)] → W p l e { frames := 1, cells := 0, slots := 0, locals := 21 } s m ([.ref (ad (1, 0, 0)), .int a1, .int a2] : List Value).toArray below meth c H locs 0 0 (MQ below (eI D clM X ad TM (cfM ad ca) A res) ([.ref (ad (1, 0, 0)), .int a1, .int a2] : List Value).toArray s 0 0 A) (F0 m 16 ls [.ref (ad (1, 0, 0))]) := by
  have hF := hy.1
  have hx := hF.1
  have hb := hF.2.1
  have hK := hy.2.2.2
  intro S hk hr H locs ls hW hl
  refine lv_iconst (pc := 16) (v := 1) hx hb d_M_submit_16 (by decide) ?_
  refine lv_goto (pc := 17) (tgt := 34) hx hb d_M_submit_17 (by decide) ?_
  exact w_M_submit_34 a1 a2 hy hA S (1 : Int32) hk hr _ _ _ hW (lv_sub hl [0, 1, 2] rfl)
def f_M_submit (a1 : Int32) (a2 : Int32) (S : St) : Int32 × St :=
  lt (f_M_isNode a1 S) fun (r1 : Int32) =>
  if r1 = 0 then
    f_M_submit_16 a1 a2 S
  else
    lt (f_M_isTransaction a2 S) fun (r3 : Int32) =>
    if r3 = 0 then
      f_M_submit_16 a1 a2 S
    else
      if (S.1 11 0 0 a1.toNatClampNeg) = 0 then
        f_M_submit_34 a1 a2 S (2 : Int32)
      else
        f_M_submit_34 a1 a2 S (0 : Int32)
def ok_M_submit (a1 : Int32) (a2 : Int32) (S : St) : Prop :=
  lt (f_M_isNode a1 S) fun (r1 : Int32) =>
  (r1 = 0 → (
    ok_M_submit_16 a1 a2 S)) ∧ (¬ (r1 = 0) → (
    lt (f_M_isTransaction a2 S) fun (r3 : Int32) =>
    (r3 = 0 → (
      ok_M_submit_16 a1 a2 S)) ∧ (¬ (r3 = 0) → (
      (vp_in a1 4) ∧ (
        ((S.1 11 0 0 a1.toNatClampNeg) = 0 → (
          ok_M_submit_34 a1 a2 S (2 : Int32))) ∧ (¬ ((S.1 11 0 0 a1.toNatClampNeg) = 0) → (
          ok_M_submit_34 a1 a2 S (0 : Int32))))))))
set_option maxHeartbeats 4000000 in
set_option maxRecDepth 100000 in
theorem c_M_submit (l : Launch) (D : va_G) (X : va_W) (ad : N3 → Nat) (ca : Nat → ClassId) (a1 : Int32) (a2 : Int32)  (S : St) (hk : ok_M_submit a1 a2 S) : cI l GG D clM (tysM ca) nwM X ad TM (cfM ad ca) y_M_submit b_M_submit 5 .boolean 1 21 [.ref (ad (1, 0, 0)), .int a1, .int a2] S (f_M_submit a1 a2 S) := by
  generalize hr : f_M_submit a1 a2 S = res
  refine zI_of pn_M (Nat.le_of_ble_eq_true rfl) (fun p e s m below meth c A ls hy hW hA hl => ?_)
  have hF := hy.1
  have hx := hF.1
  have hb := hF.2.1
  have hK := hy.2.2.2
  have hl : lv_has ls 5 [(0, .ref (ad (1, 0, 0))), (1, .int a1), (2, .int a2)] := hl
  refine lv_aload_n (pc := 0) hx hb d_M_submit_0 rfl (lv_at hl 0 rfl) ?_
  refine lv_iload_n (pc := 1) hx hb d_M_submit_1 rfl (lv_at hl 1 rfl) ?_
  obtain ⟨r1, er1⟩ : ∃ z : Int32, z = f_M_isNode a1 S := ⟨_, rfl⟩
  have hk := lt_p er1 hk
  have hr := lt_e er1 hr
  refine p_go (pc := 2) (congrArg Value.int er1) (p_runS hF hK hW (c_M_isNode l D X ad ca a1 S _) cd_M_isNode gw_1022 ⟨Nat.le_of_ble_eq_true rfl, Nat.le_of_ble_eq_true rfl⟩ ⟨Nat.zero_le _, Nat.zero_le _⟩ rfl rfl hl.1 (Nat.le_of_ble_eq_true rfl) d_M_submit_2) ?_
  refine lv_if_eq (pc := 5) (tgt := 16) hx hb d_M_submit_5 (by decide) (fun c2 => ?_) (fun c2 => ?_)
  · have hk := hk.1 c2
    have hr := (if_pos c2).symm.trans hr
    exact w_M_submit_16 a1 a2 hy hA S hk hr _ _ _ hW (lv_sub hl [0, 1, 2] rfl)
  · have hk := hk.2 c2
    have hr := (if_neg c2).symm.trans hr
    refine lv_aload_n (pc := 8) hx hb d_M_submit_8 rfl (lv_at hl 0 rfl) ?_
    refine lv_iload_n (pc := 9) hx hb d_M_submit_9 rfl (lv_at hl 2 rfl) ?_
    obtain ⟨r3, er3⟩ : ∃ z : Int32, z = f_M_isTransaction a2 S := ⟨_, rfl⟩
    have hk := lt_p er3 hk
    have hr := lt_e er3 hr
    refine p_go (pc := 10) (congrArg Value.int er3) (p_runV hF hK hW (c_M_isTransaction l D X ad ca a2 S _) cd_M_isTransaction gw_1121 tm1 rfl rfl ⟨Nat.le_of_ble_eq_true rfl, Nat.le_of_ble_eq_true rfl⟩ ⟨Nat.zero_le _, Nat.zero_le _⟩ rfl rfl hl.1 (Nat.le_of_ble_eq_true rfl) d_M_submit_10) ?_
    refine lv_if_ne (pc := 13) (tgt := 20) hx hb d_M_submit_13 (by decide) (fun c4 => ?_) (fun c4 => ?_)
    · have hk := hk.2 c4
      have hr := (if_neg c4).symm.trans hr
      refine lv_aload_n (pc := 20) hx hb d_M_submit_20 rfl (lv_at hl 0 rfl) ?_
      refine z_get (pc := 21) (v := .ref (ad (11, 0, 0))) hF hK.1 hW tm1 rfl rfl in_M 16 (by decide) gw_900 rfl rfl d_M_submit_21 ?_
      refine lv_iload_n (pc := 24) hx hb d_M_submit_24 rfl (lv_at hl 1 rfl) ?_
      have b5 := hk.1
      have hk := hk.2
      refine z_zald (pc := 25) (v := S.1 11 0 0 a1.toNatClampNeg) hF hK.1 hW tm11 2 rfl rfl b5 rfl d_M_submit_25 ?_
      refine lv_if_ne (pc := 26) (tgt := 33) hx hb d_M_submit_26 (by decide) (fun c6 => ?_) (fun c6 => ?_)
      · have hk := hk.2 c6
        have hr := (if_neg c6).symm.trans hr
        refine lv_iconst (pc := 33) (v := 0) hx hb d_M_submit_33 (by decide) ?_
        exact w_M_submit_34 a1 a2 hy hA S (0 : Int32) hk hr _ _ _ hW (lv_sub hl [0, 1, 2] rfl)
      · have hk := hk.1 c6
        have hr := (if_pos c6).symm.trans hr
        refine lv_iconst (pc := 29) (v := 2) hx hb d_M_submit_29 (by decide) ?_
        refine lv_goto (pc := 30) (tgt := 34) hx hb d_M_submit_30 (by decide) ?_
        exact w_M_submit_34 a1 a2 hy hA S (2 : Int32) hk hr _ _ _ hW (lv_sub hl [0, 1, 2] rfl)
    · have hk := hk.1 c4
      have hr := (if_pos c4).symm.trans hr
      exact w_M_submit_16 a1 a2 hy hA S hk hr _ _ _ hW (lv_sub hl [0, 1, 2] rfl)
