theorem d_M_comes_0 : decode b_M_comes 0 = .ok (.iload_n 3, 1) := by decide +kernel
theorem d_M_comes_1 : decode b_M_comes 1 = .ok (.ifCond .eq 22, 3) := by decide +kernel
theorem d_M_comes_4 : decode b_M_comes 4 = .ok (.aload_n 0, 1) := by decide +kernel
theorem d_M_comes_5 : decode b_M_comes 5 = .ok (.getfield 67, 3) := by decide +kernel
theorem d_M_comes_8 : decode b_M_comes 8 = .ok (.bipush 100, 2) := by decide +kernel
theorem d_M_comes_10 : decode b_M_comes 10 = .ok (.iload_n 1, 1) := by decide +kernel
theorem d_M_comes_11 : decode b_M_comes 11 = .ok (.imul, 1) := by decide +kernel
theorem d_M_comes_12 : decode b_M_comes 12 = .ok (.aload_n 0, 1) := by decide +kernel
theorem d_M_comes_13 : decode b_M_comes 13 = .ok (.getfield 33, 3) := by decide +kernel
theorem d_M_comes_16 : decode b_M_comes 16 = .ok (.iload_n 3, 1) := by decide +kernel
theorem d_M_comes_17 : decode b_M_comes 17 = .ok (.iaload, 1) := by decide +kernel
theorem d_M_comes_18 : decode b_M_comes 18 = .ok (.iadd, 1) := by decide +kernel
theorem d_M_comes_19 : decode b_M_comes 19 = .ok (.baload, 1) := by decide +kernel
theorem d_M_comes_20 : decode b_M_comes 20 = .ok (.ifCond .eq 18, 3) := by decide +kernel
theorem d_M_comes_23 : decode b_M_comes 23 = .ok (.aload_n 0, 1) := by decide +kernel
theorem d_M_comes_24 : decode b_M_comes 24 = .ok (.getfield 67, 3) := by decide +kernel
theorem d_M_comes_27 : decode b_M_comes 27 = .ok (.bipush 100, 2) := by decide +kernel
theorem d_M_comes_29 : decode b_M_comes 29 = .ok (.iload_n 1, 1) := by decide +kernel
theorem d_M_comes_30 : decode b_M_comes 30 = .ok (.imul, 1) := by decide +kernel
theorem d_M_comes_31 : decode b_M_comes 31 = .ok (.iload_n 3, 1) := by decide +kernel
theorem d_M_comes_32 : decode b_M_comes 32 = .ok (.iadd, 1) := by decide +kernel
theorem d_M_comes_33 : decode b_M_comes 33 = .ok (.iconst 1, 1) := by decide +kernel
theorem d_M_comes_34 : decode b_M_comes 34 = .ok (.bastore, 1) := by decide +kernel
theorem d_M_comes_35 : decode b_M_comes 35 = .ok (.goto 17, 3) := by decide +kernel
theorem d_M_comes_38 : decode b_M_comes 38 = .ok (.aload_n 0, 1) := by decide +kernel
theorem d_M_comes_39 : decode b_M_comes 39 = .ok (.iload_n 1, 1) := by decide +kernel
theorem d_M_comes_40 : decode b_M_comes 40 = .ok (.iload_n 2, 1) := by decide +kernel
theorem d_M_comes_41 : decode b_M_comes 41 = .ok (.iconst 4, 1) := by decide +kernel
theorem d_M_comes_42 : decode b_M_comes 42 = .ok (.aload_n 0, 1) := by decide +kernel
theorem d_M_comes_43 : decode b_M_comes 43 = .ok (.getfield 33, 3) := by decide +kernel
theorem d_M_comes_46 : decode b_M_comes 46 = .ok (.iload_n 3, 1) := by decide +kernel
theorem d_M_comes_47 : decode b_M_comes 47 = .ok (.iaload, 1) := by decide +kernel
theorem d_M_comes_48 : decode b_M_comes 48 = .ok (.iconst 0, 1) := by decide +kernel
theorem d_M_comes_49 : decode b_M_comes 49 = .ok (.invokevirtual 201, 3) := by decide +kernel
theorem d_M_comes_52 : decode b_M_comes 52 = .ok (.return_, 1) := by decide +kernel
def f_M_comes_23 (a1 : Int32) (a2 : Int32) (a3 : Int32) (S : St)  : St :=
  lt (si S 19 0 0 ((((100 : Int32) * a1) + a3).toNatClampNeg) (1 : Int32)) fun (S10 : St) =>
  S10
def ok_M_comes_23 (a1 : Int32) (a2 : Int32) (a3 : Int32) (S : St)  : Prop :=
  (vp_in (((100 : Int32) * a1) + a3) 400) ∧ (
    True)
set_option maxHeartbeats 4000000 in
set_option maxRecDepth 100000 in
theorem w_M_comes_23 {l : Launch} {D : va_G} {X : va_W} {ad : N3 → Nat} {ca : Nat → ClassId} (a1 : Int32) (a2 : Int32) (a3 : Int32)  {p : Program} {e : Env} {s : State} {m : MethodId} {below : List Frame} {meth : Method} {c : Code} {A : Nat → Prop} (hy : Hy p s m ([.ref (ad (1, 0, 0)), .int a1, .int a2, .int a3] : List Value).toArray meth c b_M_comes 4 none R_M GG D clM (tysM ca) nwM) (hA : ∀ q, s.heap.size ≤ q → A q) {res : St} : ∀  (S : St)  , ok_M_comes_23 a1 a2 a3 S → f_M_comes_23 a1 a2 a3 S = res → ∀ (H : Heap) (locs : List Loc) (ls : Array Slot), Wd D clM A s.heap (zw X ad TM (cfM ad ca) S) H locs → lv_has ls 4 [(0, .ref (ad (1, 0, 0))), (1, .int a1), (3, .int a3)] → W p l e { frames := 1, cells := 0, slots := 0, locals := 27 } s m ([.ref (ad (1, 0, 0)), .int a1, .int a2, .int a3] : List Value).toArray below meth c H locs 0 0 (MQ below (eV D clM X ad TM (cfM ad ca) A res) ([.ref (ad (1, 0, 0)), .int a1, .int a2, .int a3] : List Value).toArray s 0 0 A) (F0 m 23 ls []) := by
  have hF := hy.1
  have hx := hF.1
  have hb := hF.2.1
  have hK := hy.2.2.2
  intro S hk hr H locs ls hW hl
  refine lv_aload_n (pc := 23) hx hb d_M_comes_23 rfl (lv_at hl 0 rfl) ?_
  refine z_get (pc := 24) (v := .ref (ad (19, 0, 0))) hF hK.1 hW tm1 rfl rfl in_M 24 (by decide) gw_908 rfl rfl d_M_comes_24 ?_
  refine lv_bipush (pc := 27) (v := 100) hx hb d_M_comes_27 (by decide) ?_
  refine lv_iload_n (pc := 29) hx hb d_M_comes_29 rfl (lv_at hl 1 rfl) ?_
  refine lv_imul (pc := 30) hx hb d_M_comes_30 ?_
  refine lv_iload_n (pc := 31) hx hb d_M_comes_31 rfl (lv_at hl 2 rfl) ?_
  refine lv_iadd (pc := 32) hx hb d_M_comes_32 ?_
  refine lv_iconst (pc := 33) (v := 1) hx hb d_M_comes_33 (by decide) ?_
  have b9 := hk.1
  have hk := hk.2
  obtain ⟨S10, eS10⟩ : ∃ z : St, z = si S 19 0 0 ((((100 : Int32) * a1) + a3).toNatClampNeg) (1 : Int32) := ⟨_, rfl⟩
  have hr := lt_e eS10 hr
  refine z_zast (pc := 34) (S' := S10) hF hK.1 hW tm19 2 rfl rfl b9 (zs_si eS10 rfl) (zs_sio eS10) d_M_comes_34 (fun H locs (hW : Wd D clM A s.heap (zw X ad TM (cfM ad ca) S10) H locs) => ?_)
  refine lv_goto (pc := 35) (tgt := 52) hx hb d_M_comes_35 (by decide) ?_
  exact z_vret hy hW hr.symm d_M_comes_52
def f_M_comes (a1 : Int32) (a2 : Int32) (a3 : Int32) (S : St) : St :=
  if a3 = 0 then
    f_M_comes_23 a1 a2 a3 S
  else
    if (S.1 19 0 0 (((100 : Int32) * a1) + (S.1 8 0 0 a3.toNatClampNeg)).toNatClampNeg) = 0 then
      lt (f_M_send a1 a2 (4 : Int32) (S.1 8 0 0 a3.toNatClampNeg) (0 : Int32) S) fun (S8 : St) =>
      S8
    else
      f_M_comes_23 a1 a2 a3 S
def ok_M_comes (a1 : Int32) (a2 : Int32) (a3 : Int32) (S : St) : Prop :=
  (a3 = 0 → (
    ok_M_comes_23 a1 a2 a3 S)) ∧ (¬ (a3 = 0) → (
    (vp_in a3 100) ∧ (
      (vp_in (((100 : Int32) * a1) + (S.1 8 0 0 a3.toNatClampNeg)) 400) ∧ (
        ((S.1 19 0 0 (((100 : Int32) * a1) + (S.1 8 0 0 a3.toNatClampNeg)).toNatClampNeg) = 0 → (
          (vp_in a3 100) ∧ (
            (ok_M_send a1 a2 (4 : Int32) (S.1 8 0 0 a3.toNatClampNeg) (0 : Int32) S) ∧ (
              True)))) ∧ (¬ ((S.1 19 0 0 (((100 : Int32) * a1) + (S.1 8 0 0 a3.toNatClampNeg)).toNatClampNeg) = 0) → (
          ok_M_comes_23 a1 a2 a3 S))))))
set_option maxHeartbeats 4000000 in
set_option maxRecDepth 100000 in
theorem c_M_comes (l : Launch) (D : va_G) (X : va_W) (ad : N3 → Nat) (ca : Nat → ClassId) (a1 : Int32) (a2 : Int32) (a3 : Int32)  (S : St) (hk : ok_M_comes a1 a2 a3 S) : cV l GG D clM (tysM ca) nwM X ad TM (cfM ad ca) y_M_comes b_M_comes 4 1 27 [.ref (ad (1, 0, 0)), .int a1, .int a2, .int a3] S (f_M_comes a1 a2 a3 S) := by
  generalize hr : f_M_comes a1 a2 a3 S = res
  refine zV_of pn_M (Nat.le_of_ble_eq_true rfl) (fun p e s m below meth c A ls hy hW hA hl => ?_)
  have hF := hy.1
  have hx := hF.1
  have hb := hF.2.1
  have hK := hy.2.2.2
  have hl : lv_has ls 4 [(0, .ref (ad (1, 0, 0))), (1, .int a1), (2, .int a2), (3, .int a3)] := hl
  refine lv_iload_n (pc := 0) hx hb d_M_comes_0 rfl (lv_at hl 3 rfl) ?_
  refine lv_if_eq (pc := 1) (tgt := 23) hx hb d_M_comes_1 (by decide) (fun c1 => ?_) (fun c1 => ?_)
  · have hk := hk.1 c1
    have hr := (if_pos c1).symm.trans hr
    exact w_M_comes_23 a1 a2 a3 hy hA S hk hr _ _ _ hW (lv_sub hl [0, 1, 3] rfl)
  · have hk := hk.2 c1
    have hr := (if_neg c1).symm.trans hr
    refine lv_aload_n (pc := 4) hx hb d_M_comes_4 rfl (lv_at hl 0 rfl) ?_
    refine z_get (pc := 5) (v := .ref (ad (19, 0, 0))) hF hK.1 hW tm1 rfl rfl in_M 24 (by decide) gw_908 rfl rfl d_M_comes_5 ?_
    refine lv_bipush (pc := 8) (v := 100) hx hb d_M_comes_8 (by decide) ?_
    refine lv_iload_n (pc := 10) hx hb d_M_comes_10 rfl (lv_at hl 1 rfl) ?_
    refine lv_imul (pc := 11) hx hb d_M_comes_11 ?_
    refine lv_aload_n (pc := 12) hx hb d_M_comes_12 rfl (lv_at hl 0 rfl) ?_
    refine z_get (pc := 13) (v := .ref (ad (8, 0, 0))) hF hK.1 hW tm1 rfl rfl in_M 13 (by decide) gw_897 rfl rfl d_M_comes_13 ?_
    refine lv_iload_n (pc := 16) hx hb d_M_comes_16 rfl (lv_at hl 3 rfl) ?_
    have b2 := hk.1
    have hk := hk.2
    refine z_iald (pc := 17) (v := S.1 8 0 0 a3.toNatClampNeg) hF hK.1 hW tm8 0 rfl rfl b2 rfl d_M_comes_17 ?_
    refine lv_iadd (pc := 18) hx hb d_M_comes_18 ?_
    have b3 := hk.1
    have hk := hk.2
    refine z_zald (pc := 19) (v := S.1 19 0 0 (((100 : Int32) * a1) + (S.1 8 0 0 a3.toNatClampNeg)).toNatClampNeg) hF hK.1 hW tm19 2 rfl rfl b3 rfl d_M_comes_19 ?_
    refine lv_if_eq (pc := 20) (tgt := 38) hx hb d_M_comes_20 (by decide) (fun c4 => ?_) (fun c4 => ?_)
    · have hk := hk.1 c4
      have hr := (if_pos c4).symm.trans hr
      refine lv_aload_n (pc := 38) hx hb d_M_comes_38 rfl (lv_at hl 0 rfl) ?_
      refine lv_iload_n (pc := 39) hx hb d_M_comes_39 rfl (lv_at hl 1 rfl) ?_
      refine lv_iload_n (pc := 40) hx hb d_M_comes_40 rfl (lv_at hl 2 rfl) ?_
      refine lv_iconst (pc := 41) (v := 4) hx hb d_M_comes_41 (by decide) ?_
      refine lv_aload_n (pc := 42) hx hb d_M_comes_42 rfl (lv_at hl 0 rfl) ?_
      refine z_get (pc := 43) (v := .ref (ad (8, 0, 0))) hF hK.1 hW tm1 rfl rfl in_M 13 (by decide) gw_897 rfl rfl d_M_comes_43 ?_
      refine lv_iload_n (pc := 46) hx hb d_M_comes_46 rfl (lv_at hl 3 rfl) ?_
      have b5 := hk.1
      have hk := hk.2
      refine z_iald (pc := 47) (v := S.1 8 0 0 a3.toNatClampNeg) hF hK.1 hW tm8 0 rfl rfl b5 rfl d_M_comes_47 ?_
      refine lv_iconst (pc := 48) (v := 0) hx hb d_M_comes_48 (by decide) ?_
      have o6 := hk.1
      have hk := hk.2
      obtain ⟨S8, eS8⟩ : ∃ z : St, z = f_M_send a1 a2 (4 : Int32) (S.1 8 0 0 a3.toNatClampNeg) (0 : Int32) S := ⟨_, rfl⟩
      have hr := lt_e eS8 hr
      refine z_goV (pc := 49) hW hA eS8 (z_runV hF hK hW (c_M_send l D X ad ca a1 a2 (4 : Int32) (S.1 8 0 0 a3.toNatClampNeg) (0 : Int32) S o6 _) cd_M_send gw_1033 tm1 rfl rfl ⟨Nat.le_of_ble_eq_true rfl, Nat.le_of_ble_eq_true rfl⟩ ⟨Nat.zero_le _, Nat.zero_le _⟩ rfl rfl hl.1 (Nat.le_of_ble_eq_true rfl) d_M_comes_49) (fun H locs (hW : Wd D clM A s.heap (zw X ad TM (cfM ad ca) S8) H locs) => ?_)
      exact z_vret hy hW hr.symm d_M_comes_52
    · have hk := hk.2 c4
      have hr := (if_neg c4).symm.trans hr
      exact w_M_comes_23 a1 a2 a3 hy hA S hk hr _ _ _ hW (lv_sub hl [0, 1, 3] rfl)
theorem d_M_deliver_0 : decode b_M_deliver 0 = .ok (.aload_n 0, 1) := by decide +kernel
theorem d_M_deliver_1 : decode b_M_deliver 1 = .ok (.iload_n 1, 1) := by decide +kernel
theorem d_M_deliver_2 : decode b_M_deliver 2 = .ok (.invokestatic 231, 3) := by decide +kernel
theorem d_M_deliver_5 : decode b_M_deliver 5 = .ok (.ifCond .ne 7, 3) := by decide +kernel
theorem d_M_deliver_8 : decode b_M_deliver 8 = .ok (.iconst 1, 1) := by decide +kernel
theorem d_M_deliver_9 : decode b_M_deliver 9 = .ok (.goto 17, 3) := by decide +kernel
theorem d_M_deliver_12 : decode b_M_deliver 12 = .ok (.aload_n 0, 1) := by decide +kernel
theorem d_M_deliver_13 : decode b_M_deliver 13 = .ok (.getfield 94, 3) := by decide +kernel
theorem d_M_deliver_16 : decode b_M_deliver 16 = .ok (.iload_n 1, 1) := by decide +kernel
theorem d_M_deliver_17 : decode b_M_deliver 17 = .ok (.iaload, 1) := by decide +kernel
theorem d_M_deliver_18 : decode b_M_deliver 18 = .ok (.ifCond .ne 7, 3) := by decide +kernel
theorem d_M_deliver_21 : decode b_M_deliver 21 = .ok (.iconst 2, 1) := by decide +kernel
theorem d_M_deliver_22 : decode b_M_deliver 22 = .ok (.goto 4, 3) := by decide +kernel
theorem d_M_deliver_25 : decode b_M_deliver 25 = .ok (.iconst 0, 1) := by decide +kernel
theorem d_M_deliver_26 : decode b_M_deliver 26 = .ok (.putfield 141, 3) := by decide +kernel
theorem d_M_deliver_29 : decode b_M_deliver 29 = .ok (.aload_n 0, 1) := by decide +kernel
theorem d_M_deliver_30 : decode b_M_deliver 30 = .ok (.getfield 141, 3) := by decide +kernel
theorem d_M_deliver_33 : decode b_M_deliver 33 = .ok (.ifCond .le 5, 3) := by decide +kernel
theorem d_M_deliver_36 : decode b_M_deliver 36 = .ok (.iconst 0, 1) := by decide +kernel
theorem d_M_deliver_37 : decode b_M_deliver 37 = .ok (.ireturn, 1) := by decide +kernel
theorem d_M_deliver_38 : decode b_M_deliver 38 = .ok (.bipush 16, 2) := by decide +kernel
theorem d_M_deliver_40 : decode b_M_deliver 40 = .ok (.iload_n 1, 1) := by decide +kernel
theorem d_M_deliver_41 : decode b_M_deliver 41 = .ok (.imul, 1) := by decide +kernel
theorem d_M_deliver_42 : decode b_M_deliver 42 = .ok (.istore_n 2, 1) := by decide +kernel
theorem d_M_deliver_43 : decode b_M_deliver 43 = .ok (.aload_n 0, 1) := by decide +kernel
theorem d_M_deliver_44 : decode b_M_deliver 44 = .ok (.getfield 97, 3) := by decide +kernel
theorem d_M_deliver_47 : decode b_M_deliver 47 = .ok (.iload_n 2, 1) := by decide +kernel
theorem d_M_deliver_48 : decode b_M_deliver 48 = .ok (.iaload, 1) := by decide +kernel
theorem d_M_deliver_49 : decode b_M_deliver 49 = .ok (.istore_n 3, 1) := by decide +kernel
theorem d_M_deliver_50 : decode b_M_deliver 50 = .ok (.aload_n 0, 1) := by decide +kernel
theorem d_M_deliver_51 : decode b_M_deliver 51 = .ok (.getfield 100, 3) := by decide +kernel
theorem d_M_deliver_54 : decode b_M_deliver 54 = .ok (.iload_n 2, 1) := by decide +kernel
theorem d_M_deliver_55 : decode b_M_deliver 55 = .ok (.iaload, 1) := by decide +kernel
theorem d_M_deliver_56 : decode b_M_deliver 56 = .ok (.istore 4, 2) := by decide +kernel
theorem d_M_deliver_58 : decode b_M_deliver 58 = .ok (.aload_n 0, 1) := by decide +kernel
theorem d_M_deliver_59 : decode b_M_deliver 59 = .ok (.getfield 103, 3) := by decide +kernel
theorem d_M_deliver_62 : decode b_M_deliver 62 = .ok (.iload_n 2, 1) := by decide +kernel
theorem d_M_deliver_63 : decode b_M_deliver 63 = .ok (.iaload, 1) := by decide +kernel
theorem d_M_deliver_64 : decode b_M_deliver 64 = .ok (.istore 5, 2) := by decide +kernel
theorem d_M_deliver_66 : decode b_M_deliver 66 = .ok (.aload_n 0, 1) := by decide +kernel
theorem d_M_deliver_67 : decode b_M_deliver 67 = .ok (.getfield 106, 3) := by decide +kernel
theorem d_M_deliver_70 : decode b_M_deliver 70 = .ok (.iload_n 2, 1) := by decide +kernel
theorem d_M_deliver_71 : decode b_M_deliver 71 = .ok (.iaload, 1) := by decide +kernel
theorem d_M_deliver_72 : decode b_M_deliver 72 = .ok (.istore 6, 2) := by decide +kernel
theorem d_M_deliver_74 : decode b_M_deliver 74 = .ok (.aload_n 0, 1) := by decide +kernel
theorem d_M_deliver_75 : decode b_M_deliver 75 = .ok (.aload_n 0, 1) := by decide +kernel
theorem d_M_deliver_76 : decode b_M_deliver 76 = .ok (.getfield 109, 3) := by decide +kernel
theorem d_M_deliver_79 : decode b_M_deliver 79 = .ok (.iload_n 2, 1) := by decide +kernel
theorem d_M_deliver_80 : decode b_M_deliver 80 = .ok (.iaload, 1) := by decide +kernel
theorem d_M_deliver_81 : decode b_M_deliver 81 = .ok (.putfield 167, 3) := by decide +kernel
theorem d_M_deliver_84 : decode b_M_deliver 84 = .ok (.iconst 0, 1) := by decide +kernel
theorem d_M_deliver_85 : decode b_M_deliver 85 = .ok (.istore 7, 2) := by decide +kernel
theorem d_M_deliver_87 : decode b_M_deliver 87 = .ok (.iload 7, 2) := by decide +kernel
theorem d_M_deliver_89 : decode b_M_deliver 89 = .ok (.bipush 11, 2) := by decide +kernel
theorem d_M_deliver_91 : decode b_M_deliver 91 = .ok (.if_icmp .ge 28, 3) := by decide +kernel
theorem d_M_deliver_94 : decode b_M_deliver 94 = .ok (.aload_n 0, 1) := by decide +kernel
theorem d_M_deliver_95 : decode b_M_deliver 95 = .ok (.getfield 115, 3) := by decide +kernel
theorem d_M_deliver_98 : decode b_M_deliver 98 = .ok (.iload 7, 2) := by decide +kernel
theorem d_M_deliver_100 : decode b_M_deliver 100 = .ok (.aload_n 0, 1) := by decide +kernel
theorem d_M_deliver_101 : decode b_M_deliver 101 = .ok (.getfield 112, 3) := by decide +kernel
theorem d_M_deliver_104 : decode b_M_deliver 104 = .ok (.bipush 11, 2) := by decide +kernel
theorem d_M_deliver_106 : decode b_M_deliver 106 = .ok (.iload_n 2, 1) := by decide +kernel
theorem d_M_deliver_107 : decode b_M_deliver 107 = .ok (.imul, 1) := by decide +kernel
theorem d_M_deliver_108 : decode b_M_deliver 108 = .ok (.iload 7, 2) := by decide +kernel
theorem d_M_deliver_110 : decode b_M_deliver 110 = .ok (.iadd, 1) := by decide +kernel
theorem d_M_deliver_111 : decode b_M_deliver 111 = .ok (.laload, 1) := by decide +kernel
theorem d_M_deliver_112 : decode b_M_deliver 112 = .ok (.lastore, 1) := by decide +kernel
theorem d_M_deliver_113 : decode b_M_deliver 113 = .ok (.iinc 7 1, 3) := by decide +kernel
theorem d_M_deliver_116 : decode b_M_deliver 116 = .ok (.goto (-29), 3) := by decide +kernel
theorem d_M_deliver_119 : decode b_M_deliver 119 = .ok (.aload_n 0, 1) := by decide +kernel
theorem d_M_deliver_120 : decode b_M_deliver 120 = .ok (.iload_n 1, 1) := by decide +kernel
theorem d_M_deliver_121 : decode b_M_deliver 121 = .ok (.invokevirtual 235, 3) := by decide +kernel
theorem d_M_deliver_124 : decode b_M_deliver 124 = .ok (.aload_n 0, 1) := by decide +kernel
theorem d_M_deliver_125 : decode b_M_deliver 125 = .ok (.getfield 43, 3) := by decide +kernel
theorem d_M_deliver_128 : decode b_M_deliver 128 = .ok (.iload_n 1, 1) := by decide +kernel
theorem d_M_deliver_129 : decode b_M_deliver 129 = .ok (.baload, 1) := by decide +kernel
theorem d_M_deliver_130 : decode b_M_deliver 130 = .ok (.ifCond .ne 5, 3) := by decide +kernel
theorem d_M_deliver_133 : decode b_M_deliver 133 = .ok (.iload_n 3, 1) := by decide +kernel
theorem d_M_deliver_134 : decode b_M_deliver 134 = .ok (.ireturn, 1) := by decide +kernel
theorem d_M_deliver_135 : decode b_M_deliver 135 = .ok (.iload_n 3, 1) := by decide +kernel
theorem d_M_deliver_136 : decode b_M_deliver 136 = .ok (.iconst 4, 1) := by decide +kernel
theorem d_M_deliver_137 : decode b_M_deliver 137 = .ok (.if_icmp .ne 32, 3) := by decide +kernel
theorem d_M_deliver_140 : decode b_M_deliver 140 = .ok (.aload_n 0, 1) := by decide +kernel
theorem d_M_deliver_141 : decode b_M_deliver 141 = .ok (.getfield 67, 3) := by decide +kernel
theorem d_M_deliver_144 : decode b_M_deliver 144 = .ok (.bipush 100, 2) := by decide +kernel
theorem d_M_deliver_146 : decode b_M_deliver 146 = .ok (.iload_n 1, 1) := by decide +kernel
theorem d_M_deliver_147 : decode b_M_deliver 147 = .ok (.imul, 1) := by decide +kernel
theorem d_M_deliver_148 : decode b_M_deliver 148 = .ok (.iload 5, 2) := by decide +kernel
theorem d_M_deliver_150 : decode b_M_deliver 150 = .ok (.iadd, 1) := by decide +kernel
theorem d_M_deliver_151 : decode b_M_deliver 151 = .ok (.baload, 1) := by decide +kernel
theorem d_M_deliver_152 : decode b_M_deliver 152 = .ok (.ifCond .eq 117, 3) := by decide +kernel
theorem d_M_deliver_155 : decode b_M_deliver 155 = .ok (.aload_n 0, 1) := by decide +kernel
theorem d_M_deliver_156 : decode b_M_deliver 156 = .ok (.iload_n 1, 1) := by decide +kernel
theorem d_M_deliver_157 : decode b_M_deliver 157 = .ok (.iload 4, 2) := by decide +kernel
theorem d_M_deliver_159 : decode b_M_deliver 159 = .ok (.iconst 5, 1) := by decide +kernel
theorem d_M_deliver_160 : decode b_M_deliver 160 = .ok (.iload 5, 2) := by decide +kernel
theorem d_M_deliver_162 : decode b_M_deliver 162 = .ok (.iconst 0, 1) := by decide +kernel
theorem d_M_deliver_163 : decode b_M_deliver 163 = .ok (.invokevirtual 201, 3) := by decide +kernel
theorem d_M_deliver_166 : decode b_M_deliver 166 = .ok (.goto 103, 3) := by decide +kernel
theorem d_M_deliver_169 : decode b_M_deliver 169 = .ok (.iload_n 3, 1) := by decide +kernel
theorem d_M_deliver_170 : decode b_M_deliver 170 = .ok (.iconst 5, 1) := by decide +kernel
theorem d_M_deliver_171 : decode b_M_deliver 171 = .ok (.if_icmp .ne 15, 3) := by decide +kernel
theorem d_M_deliver_174 : decode b_M_deliver 174 = .ok (.aload_n 0, 1) := by decide +kernel
theorem d_M_deliver_175 : decode b_M_deliver 175 = .ok (.iload_n 1, 1) := by decide +kernel
theorem d_M_deliver_176 : decode b_M_deliver 176 = .ok (.iload 4, 2) := by decide +kernel
theorem d_M_deliver_178 : decode b_M_deliver 178 = .ok (.iload 5, 2) := by decide +kernel
theorem d_M_deliver_180 : decode b_M_deliver 180 = .ok (.invokevirtual 238, 3) := by decide +kernel
theorem d_M_deliver_183 : decode b_M_deliver 183 = .ok (.goto 86, 3) := by decide +kernel
theorem d_M_deliver_186 : decode b_M_deliver 186 = .ok (.aload_n 0, 1) := by decide +kernel
theorem d_M_deliver_187 : decode b_M_deliver 187 = .ok (.iload 4, 2) := by decide +kernel
theorem d_M_deliver_189 : decode b_M_deliver 189 = .ok (.aload_n 0, 1) := by decide +kernel
theorem d_M_deliver_190 : decode b_M_deliver 190 = .ok (.iload_n 3, 1) := by decide +kernel
theorem d_M_deliver_191 : decode b_M_deliver 191 = .ok (.iload 6, 2) := by decide +kernel
theorem d_M_deliver_193 : decode b_M_deliver 193 = .ok (.iload 5, 2) := by decide +kernel
theorem d_M_deliver_195 : decode b_M_deliver 195 = .ok (.invokevirtual 194, 3) := by decide +kernel
theorem d_M_deliver_198 : decode b_M_deliver 198 = .ok (.invokevirtual 242, 3) := by decide +kernel
theorem d_M_deliver_201 : decode b_M_deliver 201 = .ok (.ifCond .eq 68, 3) := by decide +kernel
theorem d_M_deliver_204 : decode b_M_deliver 204 = .ok (.iload_n 3, 1) := by decide +kernel
theorem d_M_deliver_205 : decode b_M_deliver 205 = .ok (.iconst 1, 1) := by decide +kernel
theorem d_M_deliver_206 : decode b_M_deliver 206 = .ok (.if_icmp .ne 30, 3) := by decide +kernel
theorem d_M_deliver_209 : decode b_M_deliver 209 = .ok (.aload_n 0, 1) := by decide +kernel
theorem d_M_deliver_210 : decode b_M_deliver 210 = .ok (.getfield 30, 3) := by decide +kernel
theorem d_M_deliver_213 : decode b_M_deliver 213 = .ok (.iload 5, 2) := by decide +kernel
theorem d_M_deliver_215 : decode b_M_deliver 215 = .ok (.iaload, 1) := by decide +kernel
theorem d_M_deliver_216 : decode b_M_deliver 216 = .ok (.invokestatic 220, 3) := by decide +kernel
theorem d_M_deliver_219 : decode b_M_deliver 219 = .ok (.iload 4, 2) := by decide +kernel
theorem d_M_deliver_221 : decode b_M_deliver 221 = .ok (.if_icmp .ne 15, 3) := by decide +kernel
theorem d_M_deliver_224 : decode b_M_deliver 224 = .ok (.aload_n 0, 1) := by decide +kernel
theorem d_M_deliver_225 : decode b_M_deliver 225 = .ok (.iload_n 1, 1) := by decide +kernel
theorem d_M_deliver_226 : decode b_M_deliver 226 = .ok (.iload 4, 2) := by decide +kernel
theorem d_M_deliver_228 : decode b_M_deliver 228 = .ok (.iload 5, 2) := by decide +kernel
theorem d_M_deliver_230 : decode b_M_deliver 230 = .ok (.invokevirtual 245, 3) := by decide +kernel
theorem d_M_deliver_233 : decode b_M_deliver 233 = .ok (.goto 36, 3) := by decide +kernel
theorem d_M_deliver_236 : decode b_M_deliver 236 = .ok (.iload_n 3, 1) := by decide +kernel
theorem d_M_deliver_237 : decode b_M_deliver 237 = .ok (.iconst 2, 1) := by decide +kernel
theorem d_M_deliver_238 : decode b_M_deliver 238 = .ok (.if_icmp .ne 15, 3) := by decide +kernel
theorem d_M_deliver_241 : decode b_M_deliver 241 = .ok (.aload_n 0, 1) := by decide +kernel
theorem d_M_deliver_242 : decode b_M_deliver 242 = .ok (.iload_n 1, 1) := by decide +kernel
theorem d_M_deliver_243 : decode b_M_deliver 243 = .ok (.iload 4, 2) := by decide +kernel
theorem d_M_deliver_245 : decode b_M_deliver 245 = .ok (.iload 5, 2) := by decide +kernel
theorem d_M_deliver_247 : decode b_M_deliver 247 = .ok (.invokevirtual 248, 3) := by decide +kernel
theorem d_M_deliver_250 : decode b_M_deliver 250 = .ok (.goto 19, 3) := by decide +kernel
theorem d_M_deliver_253 : decode b_M_deliver 253 = .ok (.iload_n 3, 1) := by decide +kernel
theorem d_M_deliver_254 : decode b_M_deliver 254 = .ok (.iconst 3, 1) := by decide +kernel
theorem d_M_deliver_255 : decode b_M_deliver 255 = .ok (.if_icmp .ne 14, 3) := by decide +kernel
theorem d_M_deliver_258 : decode b_M_deliver 258 = .ok (.aload_n 0, 1) := by decide +kernel
theorem d_M_deliver_259 : decode b_M_deliver 259 = .ok (.iload_n 1, 1) := by decide +kernel
theorem d_M_deliver_260 : decode b_M_deliver 260 = .ok (.iload 4, 2) := by decide +kernel
theorem d_M_deliver_262 : decode b_M_deliver 262 = .ok (.iload 6, 2) := by decide +kernel
theorem d_M_deliver_264 : decode b_M_deliver 264 = .ok (.iload 5, 2) := by decide +kernel
theorem d_M_deliver_266 : decode b_M_deliver 266 = .ok (.invokevirtual 251, 3) := by decide +kernel
theorem d_M_deliver_269 : decode b_M_deliver 269 = .ok (.iload_n 3, 1) := by decide +kernel
theorem d_M_deliver_270 : decode b_M_deliver 270 = .ok (.ireturn, 1) := by decide +kernel
def f_M_deliver_236 (a1 : Int32) (S : St) (l3 : Int32) (l4 : Int32) (l5 : Int32) (l6 : Int32) : Int32 × St :=
  if l3 = (2 : Int32) then
    lt (f_M_vote a1 l4 l5 S) fun (S50 : St) =>
    (l3, S50)
  else
    if l3 = (3 : Int32) then
      lt (f_M_timeout a1 l4 l6 l5 S) fun (S47 : St) =>
      (l3, S47)
    else
      (l3, S)
def ok_M_deliver_236 (a1 : Int32) (S : St) (l3 : Int32) (l4 : Int32) (l5 : Int32) (l6 : Int32) : Prop :=
  (l3 = (2 : Int32) → (
    (ok_M_vote a1 l4 l5 S) ∧ (
      True))) ∧ (¬ (l3 = (2 : Int32)) → (
    (l3 = (3 : Int32) → (
      (ok_M_timeout a1 l4 l6 l5 S) ∧ (
        True))) ∧ (¬ (l3 = (3 : Int32)) → (
      True))))
set_option maxHeartbeats 4000000 in
set_option maxRecDepth 100000 in
theorem w_M_deliver_236 {l : Launch} {D : va_G} {X : va_W} {ad : N3 → Nat} {ca : Nat → ClassId} (a1 : Int32)  {p : Program} {e : Env} {s : State} {m : MethodId} {below : List Frame} {meth : Method} {c : Code} {A : Nat → Prop} (hy : Hy p s m ([.ref (ad (1, 0, 0)), .int a1] : List Value).toArray meth c b_M_deliver 8 (some .int) R_M GG D clM (tysM ca) nwM) (hA : ∀ q, s.heap.size ≤ q → A q) {res : Int32 × St} : ∀  (S : St) (l3 : Int32) (l4 : Int32) (l5 : Int32) (l6 : Int32) , ok_M_deliver_236 a1 S l3 l4 l5 l6 → f_M_deliver_236 a1 S l3 l4 l5 l6 = res → ∀ (H : Heap) (locs : List Loc) (ls : Array Slot), Wd D clM A s.heap (zw X ad TM (cfM ad ca) S) H locs → lv_has ls 8 [(0, .ref (ad (1, 0, 0))), (1, .int a1), (3, .int l3), (4, .int l4), (5, .int l5), (6, .int l6)] → W p l e { frames := 6, cells := 0, slots := 0, locals := 147 } s m ([.ref (ad (1, 0, 0)), .int a1] : List Value).toArray below meth c H locs 0 0 (MQ below (eI D clM X ad TM (cfM ad ca) A res) ([.ref (ad (1, 0, 0)), .int a1] : List Value).toArray s 0 0 A) (F0 m 236 ls []) := by
  have hF := hy.1
  have hx := hF.1
  have hb := hF.2.1
  have hK := hy.2.2.2
  intro S l3 l4 l5 l6 hk hr H locs ls hW hl
  refine lv_iload_n (pc := 236) hx hb d_M_deliver_236 rfl (lv_at hl 2 rfl) ?_
  refine lv_iconst (pc := 237) (v := 2) hx hb d_M_deliver_237 (by decide) ?_
  refine lv_icmp_ne (pc := 238) (tgt := 253) hx hb d_M_deliver_238 (by decide) (fun c43 => ?_) (fun c43 => ?_)
  · have hk := hk.2 c43
    have hr := (if_neg c43).symm.trans hr
    refine lv_iload_n (pc := 253) hx hb d_M_deliver_253 rfl (lv_at hl 2 rfl) ?_
    refine lv_iconst (pc := 254) (v := 3) hx hb d_M_deliver_254 (by decide) ?_
    refine lv_icmp_ne (pc := 255) (tgt := 269) hx hb d_M_deliver_255 (by decide) (fun c44 => ?_) (fun c44 => ?_)
    · have hk := hk.2 c44
      have hr := (if_neg c44).symm.trans hr
      refine lv_iload_n (pc := 269) hx hb d_M_deliver_269 rfl (lv_at hl 2 rfl) ?_
      exact z_iret (v := l3) hy hW hr.symm d_M_deliver_270
    · have hk := hk.1 c44
      have hr := (if_pos c44).symm.trans hr
      refine lv_aload_n (pc := 258) hx hb d_M_deliver_258 rfl (lv_at hl 0 rfl) ?_
      refine lv_iload_n (pc := 259) hx hb d_M_deliver_259 rfl (lv_at hl 1 rfl) ?_
      refine lv_iload (pc := 260) hx hb d_M_deliver_260 (lv_at hl 3 rfl) ?_
      refine lv_iload (pc := 262) hx hb d_M_deliver_262 (lv_at hl 5 rfl) ?_
      refine lv_iload (pc := 264) hx hb d_M_deliver_264 (lv_at hl 4 rfl) ?_
      have o45 := hk.1
      have hk := hk.2
      obtain ⟨S47, eS47⟩ : ∃ z : St, z = f_M_timeout a1 l4 l6 l5 S := ⟨_, rfl⟩
      have hr := lt_e eS47 hr
      refine z_goV (pc := 266) hW hA eS47 (z_runV hF hK hW (c_M_timeout l D X ad ca a1 l4 l6 l5 S o45 _) cd_M_timeout gw_1109 tm1 rfl rfl ⟨Nat.le_of_ble_eq_true rfl, Nat.le_of_ble_eq_true rfl⟩ ⟨Nat.zero_le _, Nat.zero_le _⟩ rfl rfl hl.1 (Nat.le_of_ble_eq_true rfl) d_M_deliver_266) (fun H locs (hW : Wd D clM A s.heap (zw X ad TM (cfM ad ca) S47) H locs) => ?_)
      refine lv_iload_n (pc := 269) hx hb d_M_deliver_269 rfl (lv_at hl 2 rfl) ?_
      exact z_iret (v := l3) hy hW hr.symm d_M_deliver_270
  · have hk := hk.1 c43
    have hr := (if_pos c43).symm.trans hr
    refine lv_aload_n (pc := 241) hx hb d_M_deliver_241 rfl (lv_at hl 0 rfl) ?_
    refine lv_iload_n (pc := 242) hx hb d_M_deliver_242 rfl (lv_at hl 1 rfl) ?_
    refine lv_iload (pc := 243) hx hb d_M_deliver_243 (lv_at hl 3 rfl) ?_
    refine lv_iload (pc := 245) hx hb d_M_deliver_245 (lv_at hl 4 rfl) ?_
    have o48 := hk.1
    have hk := hk.2
    obtain ⟨S50, eS50⟩ : ∃ z : St, z = f_M_vote a1 l4 l5 S := ⟨_, rfl⟩
    have hr := lt_e eS50 hr
    refine z_goV (pc := 247) hW hA eS50 (z_runV hF hK hW (c_M_vote l D X ad ca a1 l4 l5 S o48 _) cd_M_vote gw_1090 tm1 rfl rfl ⟨Nat.le_of_ble_eq_true rfl, Nat.le_of_ble_eq_true rfl⟩ ⟨Nat.zero_le _, Nat.zero_le _⟩ rfl rfl hl.1 (Nat.le_of_ble_eq_true rfl) d_M_deliver_247) (fun H locs (hW : Wd D clM A s.heap (zw X ad TM (cfM ad ca) S50) H locs) => ?_)
    refine lv_goto (pc := 250) (tgt := 269) hx hb d_M_deliver_250 (by decide) ?_
    refine lv_iload_n (pc := 269) hx hb d_M_deliver_269 rfl (lv_at hl 2 rfl) ?_
    exact z_iret (v := l3) hy hW hr.symm d_M_deliver_270
def f_M_deliver_87 (a1 : Int32) : Nat → St → Int32 → Int32 → Int32 → Int32 → Int32 → Int32 → Int32 × St
  | 0, S, _, _, _, _, _, _ => (0, S)
  | n + 1, S, l2, l3, l4, l5, l6, l7 =>
    if (11 : Int32) ≤ l7 then
      lt (f_M_land a1 S) fun (S16 : St) =>
      if (S16.1 11 0 0 a1.toNatClampNeg) = 0 then
        (l3, S16)
      else
        if l3 = (4 : Int32) then
          if (S16.1 19 0 0 (((100 : Int32) * a1) + l5).toNatClampNeg) = 0 then
            (l3, S16)
          else
            lt (f_M_send a1 l4 (5 : Int32) l5 (0 : Int32) S16) fun (S39 : St) =>
            (l3, S39)
        else
          if l3 = (5 : Int32) then
            lt (f_M_comes a1 l4 l5 S16) fun (S34 : St) =>
            (l3, S34)
          else
            lt (f_M_meant l3 l6 l5 S16) fun (r21 : Int64 × St) =>
            lt (f_M_good l4 r21.1 r21.2) fun (r23 : Int32 × St) =>
            if r23.1 = 0 then
              (l3, r23.2)
            else
              if l3 = (1 : Int32) then
                lt (f_M_leader (r23.2.1 7 0 0 l5.toNatClampNeg) r23.2) fun (r27 : Int32) =>
                if r27 = l4 then
                  lt (f_M_proposal a1 l4 l5 r23.2) fun (S31 : St) =>
                  (l3, S31)
                else
                  f_M_deliver_236 a1 r23.2 l3 l4 l5 l6
              else
                f_M_deliver_236 a1 r23.2 l3 l4 l5 l6
    else
      lt (sl S 35 0 0 (l7.toNatClampNeg) (S.2.1 34 0 0 (((11 : Int32) * l2) + l7).toNatClampNeg)) fun (S42 : St) =>
      f_M_deliver_87 a1 n S42 l2 l3 l4 l5 l6 (l7 + (1 : Int32))
def ok_M_deliver_87 (a1 : Int32) : Nat → St → Int32 → Int32 → Int32 → Int32 → Int32 → Int32 → Prop
  | 0, _, _, _, _, _, _, _ => False
  | n + 1, S, l2, l3, l4, l5, l6, l7 =>
    ((11 : Int32) ≤ l7 → (
      (ok_M_land a1 S) ∧ (
        lt (f_M_land a1 S) fun (S16 : St) =>
        (vp_in a1 4) ∧ (
          ((S16.1 11 0 0 a1.toNatClampNeg) = 0 → (
            True)) ∧ (¬ ((S16.1 11 0 0 a1.toNatClampNeg) = 0) → (
            (l3 = (4 : Int32) → (
              (vp_in (((100 : Int32) * a1) + l5) 400) ∧ (
                ((S16.1 19 0 0 (((100 : Int32) * a1) + l5).toNatClampNeg) = 0 → (
                  True)) ∧ (¬ ((S16.1 19 0 0 (((100 : Int32) * a1) + l5).toNatClampNeg) = 0) → (
                  (ok_M_send a1 l4 (5 : Int32) l5 (0 : Int32) S16) ∧ (
                    True)))))) ∧ (¬ (l3 = (4 : Int32)) → (
              (l3 = (5 : Int32) → (
                (ok_M_comes a1 l4 l5 S16) ∧ (
                  True))) ∧ (¬ (l3 = (5 : Int32)) → (
                lt (f_M_meant l3 l6 l5 S16) fun (r21 : Int64 × St) =>
                (ok_M_good l4 r21.1 r21.2) ∧ (
                  lt (f_M_good l4 r21.1 r21.2) fun (r23 : Int32 × St) =>
                  (r23.1 = 0 → (
                    True)) ∧ (¬ (r23.1 = 0) → (
                    (l3 = (1 : Int32) → (
                      (vp_in l5 100) ∧ (
                        lt (f_M_leader (r23.2.1 7 0 0 l5.toNatClampNeg) r23.2) fun (r27 : Int32) =>
                        (r27 = l4 → (
                          (ok_M_proposal a1 l4 l5 r23.2) ∧ (
                            True))) ∧ (¬ (r27 = l4) → (
                          ok_M_deliver_236 a1 r23.2 l3 l4 l5 l6))))) ∧ (¬ (l3 = (1 : Int32)) → (
                      ok_M_deliver_236 a1 r23.2 l3 l4 l5 l6))))))))))))))) ∧ (¬ ((11 : Int32) ≤ l7) → (
      (vp_in (((11 : Int32) * l2) + l7) 704) ∧ (
        (vp_in l7 11) ∧ (
          lt (sl S 35 0 0 (l7.toNatClampNeg) (S.2.1 34 0 0 (((11 : Int32) * l2) + l7).toNatClampNeg)) fun (S42 : St) =>
          ok_M_deliver_87 a1 n S42 l2 l3 l4 l5 l6 (l7 + (1 : Int32))))))
set_option maxHeartbeats 4000000 in
set_option maxRecDepth 100000 in
theorem w_M_deliver_87 {l : Launch} {D : va_G} {X : va_W} {ad : N3 → Nat} {ca : Nat → ClassId} (a1 : Int32)  {p : Program} {e : Env} {s : State} {m : MethodId} {below : List Frame} {meth : Method} {c : Code} {A : Nat → Prop} (hy : Hy p s m ([.ref (ad (1, 0, 0)), .int a1] : List Value).toArray meth c b_M_deliver 8 (some .int) R_M GG D clM (tysM ca) nwM) (hA : ∀ q, s.heap.size ≤ q → A q) {res : Int32 × St} : ∀ (n : Nat) (S : St) (l2 : Int32) (l3 : Int32) (l4 : Int32) (l5 : Int32) (l6 : Int32) (l7 : Int32) , ok_M_deliver_87 a1 n S l2 l3 l4 l5 l6 l7 → f_M_deliver_87 a1 n S l2 l3 l4 l5 l6 l7 = res → ∀ (H : Heap) (locs : List Loc) (ls : Array Slot), Wd D clM A s.heap (zw X ad TM (cfM ad ca) S) H locs → lv_has ls 8 [(0, .ref (ad (1, 0, 0))), (1, .int a1), (2, .int l2), (3, .int l3), (4, .int l4), (5, .int l5), (6, .int l6), (7, .int l7)] → W p l e { frames := 6, cells := 0, slots := 0, locals := 147 } s m ([.ref (ad (1, 0, 0)), .int a1] : List Value).toArray below meth c H locs 0 0 (MQ below (eI D clM X ad TM (cfM ad ca) A res) ([.ref (ad (1, 0, 0)), .int a1] : List Value).toArray s 0 0 A) (F0 m 87 ls []) := by
  have hF := hy.1
  have hx := hF.1
  have hb := hF.2.1
  have hK := hy.2.2.2
  intro n
  induction n with
  | zero =>
    intro S l2 l3 l4 l5 l6 l7 hk
    exact hk.elim
  | succ n ih =>
    intro S l2 l3 l4 l5 l6 l7 hk hr H locs ls hW hl
    refine lv_iload (pc := 87) hx hb d_M_deliver_87 (lv_at hl 7 rfl) ?_
    refine lv_bipush (pc := 89) (v := 11) hx hb d_M_deliver_89 (by decide) ?_
    refine lv_icmp_ge (pc := 91) (tgt := 119) hx hb d_M_deliver_91 (by decide) (fun c13 => ?_) (fun c13 => ?_)
    · have hk := hk.1 c13
      have hr := (if_pos c13).symm.trans hr
      refine lv_aload_n (pc := 119) hx hb d_M_deliver_119 rfl (lv_at hl 0 rfl) ?_
      refine lv_iload_n (pc := 120) hx hb d_M_deliver_120 rfl (lv_at hl 1 rfl) ?_
      have o14 := hk.1
      have hk := hk.2
      obtain ⟨S16, eS16⟩ : ∃ z : St, z = f_M_land a1 S := ⟨_, rfl⟩
      have hk := lt_p eS16 hk
      have hr := lt_e eS16 hr
      refine z_goV (pc := 121) hW hA eS16 (z_runV hF hK hW (c_M_land l D X ad ca a1 S o14 _) cd_M_land gw_1025 tm1 rfl rfl ⟨Nat.le_of_ble_eq_true rfl, Nat.le_of_ble_eq_true rfl⟩ ⟨Nat.zero_le _, Nat.zero_le _⟩ rfl rfl hl.1 (Nat.le_of_ble_eq_true rfl) d_M_deliver_121) (fun H locs (hW : Wd D clM A s.heap (zw X ad TM (cfM ad ca) S16) H locs) => ?_)
      refine lv_aload_n (pc := 124) hx hb d_M_deliver_124 rfl (lv_at hl 0 rfl) ?_
      refine z_get (pc := 125) (v := .ref (ad (11, 0, 0))) hF hK.1 hW tm1 rfl rfl in_M 16 (by decide) gw_900 rfl rfl d_M_deliver_125 ?_
      refine lv_iload_n (pc := 128) hx hb d_M_deliver_128 rfl (lv_at hl 1 rfl) ?_
      have b17 := hk.1
      have hk := hk.2
      refine z_zald (pc := 129) (v := S16.1 11 0 0 a1.toNatClampNeg) hF hK.1 hW tm11 2 rfl rfl b17 rfl d_M_deliver_129 ?_
      refine lv_if_ne (pc := 130) (tgt := 135) hx hb d_M_deliver_130 (by decide) (fun c18 => ?_) (fun c18 => ?_)
      · have hk := hk.2 c18
        have hr := (if_neg c18).symm.trans hr
        refine lv_iload_n (pc := 135) hx hb d_M_deliver_135 rfl (lv_at hl 3 rfl) ?_
        refine lv_iconst (pc := 136) (v := 4) hx hb d_M_deliver_136 (by decide) ?_
        refine lv_icmp_ne (pc := 137) (tgt := 169) hx hb d_M_deliver_137 (by decide) (fun c19 => ?_) (fun c19 => ?_)
        · have hk := hk.2 c19
          have hr := (if_neg c19).symm.trans hr
          refine lv_iload_n (pc := 169) hx hb d_M_deliver_169 rfl (lv_at hl 3 rfl) ?_
          refine lv_iconst (pc := 170) (v := 5) hx hb d_M_deliver_170 (by decide) ?_
          refine lv_icmp_ne (pc := 171) (tgt := 186) hx hb d_M_deliver_171 (by decide) (fun c20 => ?_) (fun c20 => ?_)
          · have hk := hk.2 c20
            have hr := (if_neg c20).symm.trans hr
            refine lv_aload_n (pc := 186) hx hb d_M_deliver_186 rfl (lv_at hl 0 rfl) ?_
            refine lv_iload (pc := 187) hx hb d_M_deliver_187 (lv_at hl 4 rfl) ?_
            refine lv_aload_n (pc := 189) hx hb d_M_deliver_189 rfl (lv_at hl 0 rfl) ?_
            refine lv_iload_n (pc := 190) hx hb d_M_deliver_190 rfl (lv_at hl 3 rfl) ?_
            refine lv_iload (pc := 191) hx hb d_M_deliver_191 (lv_at hl 6 rfl) ?_
            refine lv_iload (pc := 193) hx hb d_M_deliver_193 (lv_at hl 5 rfl) ?_
            obtain ⟨r21, er21⟩ : ∃ z : Int64 × St, z = f_M_meant l3 l6 l5 S16 := ⟨_, rfl⟩
            have hk := lt_p er21 hk
            have hr := lt_e er21 hr
            refine z_goL (pc := 195) hW hA (show (r21.1, r21.2) = _ from er21) (z_runV hF hK hW (c_M_meant l D X ad ca l3 l6 l5 S16 _) cd_M_meant gw_1041 tm1 rfl rfl ⟨Nat.le_of_ble_eq_true rfl, Nat.le_of_ble_eq_true rfl⟩ ⟨Nat.zero_le _, Nat.zero_le _⟩ rfl rfl hl.1 (Nat.le_of_ble_eq_true rfl) d_M_deliver_195) (fun H locs (hW : Wd D clM A s.heap (zw X ad TM (cfM ad ca) r21.2) H locs) => ?_)
            have o22 := hk.1
            have hk := hk.2
            obtain ⟨r23, er23⟩ : ∃ z : Int32 × St, z = f_M_good l4 r21.1 r21.2 := ⟨_, rfl⟩
            have hk := lt_p er23 hk
            have hr := lt_e er23 hr
            refine z_goI (pc := 198) hW hA (show (r23.1, r23.2) = _ from er23) (z_runV hF hK hW (c_M_good l D X ad ca l4 r21.1 r21.2 o22 _) cd_M_good gw_1050 tm1 rfl rfl ⟨Nat.le_of_ble_eq_true rfl, Nat.le_of_ble_eq_true rfl⟩ ⟨Nat.zero_le _, Nat.zero_le _⟩ rfl rfl hl.1 (Nat.le_of_ble_eq_true rfl) d_M_deliver_198) (fun H locs (hW : Wd D clM A s.heap (zw X ad TM (cfM ad ca) r23.2) H locs) => ?_)
            refine lv_if_eq (pc := 201) (tgt := 269) hx hb d_M_deliver_201 (by decide) (fun c24 => ?_) (fun c24 => ?_)
            · have hk := hk.1 c24
              have hr := (if_pos c24).symm.trans hr
              refine lv_iload_n (pc := 269) hx hb d_M_deliver_269 rfl (lv_at hl 3 rfl) ?_
              exact z_iret (v := l3) hy hW hr.symm d_M_deliver_270
            · have hk := hk.2 c24
              have hr := (if_neg c24).symm.trans hr
              refine lv_iload_n (pc := 204) hx hb d_M_deliver_204 rfl (lv_at hl 3 rfl) ?_
              refine lv_iconst (pc := 205) (v := 1) hx hb d_M_deliver_205 (by decide) ?_
              refine lv_icmp_ne (pc := 206) (tgt := 236) hx hb d_M_deliver_206 (by decide) (fun c25 => ?_) (fun c25 => ?_)
              · have hk := hk.2 c25
                have hr := (if_neg c25).symm.trans hr
                exact w_M_deliver_236 a1 hy hA r23.2 l3 l4 l5 l6 hk hr _ _ _ hW (lv_sub hl [0, 1, 3, 4, 5, 6] rfl)
              · have hk := hk.1 c25
                have hr := (if_pos c25).symm.trans hr
                refine lv_aload_n (pc := 209) hx hb d_M_deliver_209 rfl (lv_at hl 0 rfl) ?_
                refine z_get (pc := 210) (v := .ref (ad (7, 0, 0))) hF hK.1 hW tm1 rfl rfl in_M 12 (by decide) gw_896 rfl rfl d_M_deliver_210 ?_
                refine lv_iload (pc := 213) hx hb d_M_deliver_213 (lv_at hl 5 rfl) ?_
                have b26 := hk.1
                have hk := hk.2
                refine z_iald (pc := 215) (v := r23.2.1 7 0 0 l5.toNatClampNeg) hF hK.1 hW tm7 0 rfl rfl b26 rfl d_M_deliver_215 ?_
                obtain ⟨r27, er27⟩ : ∃ z : Int32, z = f_M_leader (r23.2.1 7 0 0 l5.toNatClampNeg) r23.2 := ⟨_, rfl⟩
                have hk := lt_p er27 hk
                have hr := lt_e er27 hr
                refine p_go (pc := 216) (congrArg Value.int er27) (p_runS hF hK hW (c_M_leader l D X ad ca (r23.2.1 7 0 0 l5.toNatClampNeg) r23.2 _) cd_M_leader gw_1059 ⟨Nat.le_of_ble_eq_true rfl, Nat.le_of_ble_eq_true rfl⟩ ⟨Nat.zero_le _, Nat.zero_le _⟩ rfl rfl hl.1 (Nat.le_of_ble_eq_true rfl) d_M_deliver_216) ?_
                refine lv_iload (pc := 219) hx hb d_M_deliver_219 (lv_at hl 4 rfl) ?_
                refine lv_icmp_ne (pc := 221) (tgt := 236) hx hb d_M_deliver_221 (by decide) (fun c28 => ?_) (fun c28 => ?_)
                · have hk := hk.2 c28
                  have hr := (if_neg c28).symm.trans hr
                  exact w_M_deliver_236 a1 hy hA r23.2 l3 l4 l5 l6 hk hr _ _ _ hW (lv_sub hl [0, 1, 3, 4, 5, 6] rfl)
                · have hk := hk.1 c28
                  have hr := (if_pos c28).symm.trans hr
                  refine lv_aload_n (pc := 224) hx hb d_M_deliver_224 rfl (lv_at hl 0 rfl) ?_
                  refine lv_iload_n (pc := 225) hx hb d_M_deliver_225 rfl (lv_at hl 1 rfl) ?_
                  refine lv_iload (pc := 226) hx hb d_M_deliver_226 (lv_at hl 4 rfl) ?_
                  refine lv_iload (pc := 228) hx hb d_M_deliver_228 (lv_at hl 5 rfl) ?_
                  have o29 := hk.1
                  have hk := hk.2
                  obtain ⟨S31, eS31⟩ : ∃ z : St, z = f_M_proposal a1 l4 l5 r23.2 := ⟨_, rfl⟩
                  have hr := lt_e eS31 hr
                  refine z_goV (pc := 230) hW hA eS31 (z_runV hF hK hW (c_M_proposal l D X ad ca a1 l4 l5 r23.2 o29 _) cd_M_proposal gw_1062 tm1 rfl rfl ⟨Nat.le_of_ble_eq_true rfl, Nat.le_of_ble_eq_true rfl⟩ ⟨Nat.zero_le _, Nat.zero_le _⟩ rfl rfl hl.1 (Nat.le_of_ble_eq_true rfl) d_M_deliver_230) (fun H locs (hW : Wd D clM A s.heap (zw X ad TM (cfM ad ca) S31) H locs) => ?_)
                  refine lv_goto (pc := 233) (tgt := 269) hx hb d_M_deliver_233 (by decide) ?_
                  refine lv_iload_n (pc := 269) hx hb d_M_deliver_269 rfl (lv_at hl 3 rfl) ?_
                  exact z_iret (v := l3) hy hW hr.symm d_M_deliver_270
          · have hk := hk.1 c20
            have hr := (if_pos c20).symm.trans hr
            refine lv_aload_n (pc := 174) hx hb d_M_deliver_174 rfl (lv_at hl 0 rfl) ?_
            refine lv_iload_n (pc := 175) hx hb d_M_deliver_175 rfl (lv_at hl 1 rfl) ?_
            refine lv_iload (pc := 176) hx hb d_M_deliver_176 (lv_at hl 4 rfl) ?_
            refine lv_iload (pc := 178) hx hb d_M_deliver_178 (lv_at hl 5 rfl) ?_
            have o32 := hk.1
            have hk := hk.2
            obtain ⟨S34, eS34⟩ : ∃ z : St, z = f_M_comes a1 l4 l5 S16 := ⟨_, rfl⟩
            have hr := lt_e eS34 hr
            refine z_goV (pc := 180) hW hA eS34 (z_runV hF hK hW (c_M_comes l D X ad ca a1 l4 l5 S16 o32 _) cd_M_comes gw_1037 tm1 rfl rfl ⟨Nat.le_of_ble_eq_true rfl, Nat.le_of_ble_eq_true rfl⟩ ⟨Nat.zero_le _, Nat.zero_le _⟩ rfl rfl hl.1 (Nat.le_of_ble_eq_true rfl) d_M_deliver_180) (fun H locs (hW : Wd D clM A s.heap (zw X ad TM (cfM ad ca) S34) H locs) => ?_)
            refine lv_goto (pc := 183) (tgt := 269) hx hb d_M_deliver_183 (by decide) ?_
            refine lv_iload_n (pc := 269) hx hb d_M_deliver_269 rfl (lv_at hl 3 rfl) ?_
            exact z_iret (v := l3) hy hW hr.symm d_M_deliver_270
        · have hk := hk.1 c19
          have hr := (if_pos c19).symm.trans hr
          refine lv_aload_n (pc := 140) hx hb d_M_deliver_140 rfl (lv_at hl 0 rfl) ?_
          refine z_get (pc := 141) (v := .ref (ad (19, 0, 0))) hF hK.1 hW tm1 rfl rfl in_M 24 (by decide) gw_908 rfl rfl d_M_deliver_141 ?_
          refine lv_bipush (pc := 144) (v := 100) hx hb d_M_deliver_144 (by decide) ?_
          refine lv_iload_n (pc := 146) hx hb d_M_deliver_146 rfl (lv_at hl 1 rfl) ?_
          refine lv_imul (pc := 147) hx hb d_M_deliver_147 ?_
          refine lv_iload (pc := 148) hx hb d_M_deliver_148 (lv_at hl 5 rfl) ?_
          refine lv_iadd (pc := 150) hx hb d_M_deliver_150 ?_
          have b35 := hk.1
          have hk := hk.2
          refine z_zald (pc := 151) (v := S16.1 19 0 0 (((100 : Int32) * a1) + l5).toNatClampNeg) hF hK.1 hW tm19 2 rfl rfl b35 rfl d_M_deliver_151 ?_
          refine lv_if_eq (pc := 152) (tgt := 269) hx hb d_M_deliver_152 (by decide) (fun c36 => ?_) (fun c36 => ?_)
          · have hk := hk.1 c36
            have hr := (if_pos c36).symm.trans hr
            refine lv_iload_n (pc := 269) hx hb d_M_deliver_269 rfl (lv_at hl 3 rfl) ?_
            exact z_iret (v := l3) hy hW hr.symm d_M_deliver_270
          · have hk := hk.2 c36
            have hr := (if_neg c36).symm.trans hr
            refine lv_aload_n (pc := 155) hx hb d_M_deliver_155 rfl (lv_at hl 0 rfl) ?_
            refine lv_iload_n (pc := 156) hx hb d_M_deliver_156 rfl (lv_at hl 1 rfl) ?_
            refine lv_iload (pc := 157) hx hb d_M_deliver_157 (lv_at hl 4 rfl) ?_
            refine lv_iconst (pc := 159) (v := 5) hx hb d_M_deliver_159 (by decide) ?_
            refine lv_iload (pc := 160) hx hb d_M_deliver_160 (lv_at hl 5 rfl) ?_
            refine lv_iconst (pc := 162) (v := 0) hx hb d_M_deliver_162 (by decide) ?_
            have o37 := hk.1
            have hk := hk.2
            obtain ⟨S39, eS39⟩ : ∃ z : St, z = f_M_send a1 l4 (5 : Int32) l5 (0 : Int32) S16 := ⟨_, rfl⟩
            have hr := lt_e eS39 hr
            refine z_goV (pc := 163) hW hA eS39 (z_runV hF hK hW (c_M_send l D X ad ca a1 l4 (5 : Int32) l5 (0 : Int32) S16 o37 _) cd_M_send gw_1033 tm1 rfl rfl ⟨Nat.le_of_ble_eq_true rfl, Nat.le_of_ble_eq_true rfl⟩ ⟨Nat.zero_le _, Nat.zero_le _⟩ rfl rfl hl.1 (Nat.le_of_ble_eq_true rfl) d_M_deliver_163) (fun H locs (hW : Wd D clM A s.heap (zw X ad TM (cfM ad ca) S39) H locs) => ?_)
            refine lv_goto (pc := 166) (tgt := 269) hx hb d_M_deliver_166 (by decide) ?_
            refine lv_iload_n (pc := 269) hx hb d_M_deliver_269 rfl (lv_at hl 3 rfl) ?_
            exact z_iret (v := l3) hy hW hr.symm d_M_deliver_270
      · have hk := hk.1 c18
        have hr := (if_pos c18).symm.trans hr
        refine lv_iload_n (pc := 133) hx hb d_M_deliver_133 rfl (lv_at hl 3 rfl) ?_
        exact z_iret (v := l3) hy hW hr.symm d_M_deliver_134
    · have hk := hk.2 c13
      have hr := (if_neg c13).symm.trans hr
      refine lv_aload_n (pc := 94) hx hb d_M_deliver_94 rfl (lv_at hl 0 rfl) ?_
      refine z_get (pc := 95) (v := .ref (ad (35, 0, 0))) hF hK.1 hW tm1 rfl rfl in_M 41 (by decide) gw_925 rfl rfl d_M_deliver_95 ?_
      refine lv_iload (pc := 98) hx hb d_M_deliver_98 (lv_at hl 7 rfl) ?_
      refine lv_aload_n (pc := 100) hx hb d_M_deliver_100 rfl (lv_at hl 0 rfl) ?_
      refine z_get (pc := 101) (v := .ref (ad (34, 0, 0))) hF hK.1 hW tm1 rfl rfl in_M 39 (by decide) gw_923 rfl rfl d_M_deliver_101 ?_
      refine lv_bipush (pc := 104) (v := 11) hx hb d_M_deliver_104 (by decide) ?_
      refine lv_iload_n (pc := 106) hx hb d_M_deliver_106 rfl (lv_at hl 2 rfl) ?_
      refine lv_imul (pc := 107) hx hb d_M_deliver_107 ?_
      refine lv_iload (pc := 108) hx hb d_M_deliver_108 (lv_at hl 7 rfl) ?_
      refine lv_iadd (pc := 110) hx hb d_M_deliver_110 ?_
      have b40 := hk.1
      have hk := hk.2
      refine z_lald (pc := 111) (v := S.2.1 34 0 0 (((11 : Int32) * l2) + l7).toNatClampNeg) hF hK.1 hW tm34 1 rfl rfl b40 rfl d_M_deliver_111 ?_
      have b41 := hk.1
      have hk := hk.2
      obtain ⟨S42, eS42⟩ : ∃ z : St, z = sl S 35 0 0 (l7.toNatClampNeg) (S.2.1 34 0 0 (((11 : Int32) * l2) + l7).toNatClampNeg) := ⟨_, rfl⟩
      have hk := lt_p eS42 hk
      have hr := lt_e eS42 hr
      refine z_last (pc := 112) (S' := S42) hF hK.1 hW tm35 1 rfl rfl b41 (zs_sl eS42 rfl) (zs_slo eS42) d_M_deliver_112 (fun H locs (hW : Wd D clM A s.heap (zw X ad TM (cfM ad ca) S42) H locs) => ?_)
      refine lv_iinc (pc := 113) (v := l7 + (1 : Int32)) (lv' := [(7, .int (l7 + (1 : Int32))), (0, .ref (ad (1, 0, 0))), (1, .int a1), (2, .int l2), (3, .int l3), (4, .int l4), (5, .int l5), (6, .int l6)]) (k := 7) hx hb d_M_deliver_113 hl rfl (z_inc (by decide)) (by decide) rfl (fun ls hl => ?_)
      refine lv_goto (pc := 116) (tgt := 87) hx hb d_M_deliver_116 (by decide) ?_
      exact ih S42 l2 l3 l4 l5 l6 (l7 + (1 : Int32)) hk hr _ _ _ hW (lv_sub hl [1, 2, 3, 4, 5, 6, 7, 0] rfl)
def f_M_deliver_26 (a1 : Int32) (S : St) (t0 : Int32) : Int32 × St :=
  lt (si S 1 0 0 1 t0) fun (S5 : St) =>
  if (S5.1 1 0 0 1) ≤ 0 then
    lt (si S5 1 0 0 40 (S5.1 33 0 0 ((16 : Int32) * a1).toNatClampNeg)) fun (S12 : St) =>
    f_M_deliver_87 a1 200 S12 ((16 : Int32) * a1) (S5.1 29 0 0 ((16 : Int32) * a1).toNatClampNeg) (S5.1 30 0 0 ((16 : Int32) * a1).toNatClampNeg) (S5.1 31 0 0 ((16 : Int32) * a1).toNatClampNeg) (S5.1 32 0 0 ((16 : Int32) * a1).toNatClampNeg) (0 : Int32)
  else
    ((0 : Int32), S5)
def ok_M_deliver_26 (a1 : Int32) (S : St) (t0 : Int32) : Prop :=
  lt (si S 1 0 0 1 t0) fun (S5 : St) =>
  ((S5.1 1 0 0 1) ≤ 0 → (
    (vp_in ((16 : Int32) * a1) 64) ∧ (
      (vp_in ((16 : Int32) * a1) 64) ∧ (
        (vp_in ((16 : Int32) * a1) 64) ∧ (
          (vp_in ((16 : Int32) * a1) 64) ∧ (
            (vp_in ((16 : Int32) * a1) 64) ∧ (
              lt (si S5 1 0 0 40 (S5.1 33 0 0 ((16 : Int32) * a1).toNatClampNeg)) fun (S12 : St) =>
              ok_M_deliver_87 a1 200 S12 ((16 : Int32) * a1) (S5.1 29 0 0 ((16 : Int32) * a1).toNatClampNeg) (S5.1 30 0 0 ((16 : Int32) * a1).toNatClampNeg) (S5.1 31 0 0 ((16 : Int32) * a1).toNatClampNeg) (S5.1 32 0 0 ((16 : Int32) * a1).toNatClampNeg) (0 : Int32)))))))) ∧ (¬ ((S5.1 1 0 0 1) ≤ 0) → (
    True))
set_option maxHeartbeats 4000000 in
set_option maxRecDepth 100000 in
theorem w_M_deliver_26 {l : Launch} {D : va_G} {X : va_W} {ad : N3 → Nat} {ca : Nat → ClassId} (a1 : Int32)  {p : Program} {e : Env} {s : State} {m : MethodId} {below : List Frame} {meth : Method} {c : Code} {A : Nat → Prop} (hy : Hy p s m ([.ref (ad (1, 0, 0)), .int a1] : List Value).toArray meth c b_M_deliver 8 (some .int) R_M GG D clM (tysM ca) nwM) (hA : ∀ q, s.heap.size ≤ q → A q) {res : Int32 × St} : ∀  (S : St) (t0 : Int32) , ok_M_deliver_26 a1 S t0 → f_M_deliver_26 a1 S t0 = res → ∀ (H : Heap) (locs : List Loc) (ls : Array Slot), Wd D clM A s.heap (zw X ad TM (cfM ad ca) S) H locs → lv_has ls 8 [(0, .ref (ad (1, 0, 0))), (1, .int a1)] → W p l e { frames := 6, cells := 0, slots := 0, locals := 147 } s m ([.ref (ad (1, 0, 0)), .int a1] : List Value).toArray below meth c H locs 0 0 (MQ below (eI D clM X ad TM (cfM ad ca) A res) ([.ref (ad (1, 0, 0)), .int a1] : List Value).toArray s 0 0 A) (F0 m 26 ls [.int t0, .ref (ad (1, 0, 0))]) := by
  have hF := hy.1
  have hx := hF.1
  have hb := hF.2.1
  have hK := hy.2.2.2
  intro S t0 hk hr H locs ls hW hl
  obtain ⟨S5, eS5⟩ : ∃ z : St, z = si S 1 0 0 1 t0 := ⟨_, rfl⟩
  have hk := lt_p eS5 hk
  have hr := lt_e eS5 hr
  refine z_put (pc := 26) (S' := S5) hF hK.1 hW tm1 rfl rfl in_M t_M tyo_M nmo_M 1 (by decide) gw_885 rfl rfl rfl rfl rfl (Nat.le_of_ble_eq_true rfl) (zs_si eS5 rfl) (zs_sio eS5) d_M_deliver_26 (fun H locs (hW : Wd D clM A s.heap (zw X ad TM (cfM ad ca) S5) H locs) => ?_)
  refine lv_aload_n (pc := 29) hx hb d_M_deliver_29 rfl (lv_at hl 0 rfl) ?_
  refine z_get (pc := 30) (v := .int (S5.1 1 0 0 1)) hF hK.1 hW tm1 rfl rfl in_M 1 (by decide) gw_885 rfl rfl d_M_deliver_30 ?_
  refine lv_if_le (pc := 33) (tgt := 38) hx hb d_M_deliver_33 (by decide) (fun c6 => ?_) (fun c6 => ?_)
  · have hk := hk.1 c6
    have hr := (if_pos c6).symm.trans hr
    refine lv_bipush (pc := 38) (v := 16) hx hb d_M_deliver_38 (by decide) ?_
    refine lv_iload_n (pc := 40) hx hb d_M_deliver_40 rfl (lv_at hl 1 rfl) ?_
    refine lv_imul (pc := 41) hx hb d_M_deliver_41 ?_
    refine lv_istore_n (pc := 42) (lv' := [(2, .int ((16 : Int32) * a1)), (0, .ref (ad (1, 0, 0))), (1, .int a1)]) hx hb d_M_deliver_42 rfl hl (by decide) rfl (fun ls hl => ?_)
    refine lv_aload_n (pc := 43) hx hb d_M_deliver_43 rfl (lv_at hl 1 rfl) ?_
    refine z_get (pc := 44) (v := .ref (ad (29, 0, 0))) hF hK.1 hW tm1 rfl rfl in_M 34 (by decide) gw_918 rfl rfl d_M_deliver_44 ?_
    refine lv_iload_n (pc := 47) hx hb d_M_deliver_47 rfl (lv_at hl 0 rfl) ?_
    have b7 := hk.1
    have hk := hk.2
    refine z_iald (pc := 48) (v := S5.1 29 0 0 ((16 : Int32) * a1).toNatClampNeg) hF hK.1 hW tm29 0 rfl rfl b7 rfl d_M_deliver_48 ?_
    refine lv_istore_n (pc := 49) (lv' := [(3, .int (S5.1 29 0 0 ((16 : Int32) * a1).toNatClampNeg)), (2, .int ((16 : Int32) * a1)), (0, .ref (ad (1, 0, 0))), (1, .int a1)]) hx hb d_M_deliver_49 rfl hl (by decide) rfl (fun ls hl => ?_)
    refine lv_aload_n (pc := 50) hx hb d_M_deliver_50 rfl (lv_at hl 2 rfl) ?_
    refine z_get (pc := 51) (v := .ref (ad (30, 0, 0))) hF hK.1 hW tm1 rfl rfl in_M 35 (by decide) gw_919 rfl rfl d_M_deliver_51 ?_
    refine lv_iload_n (pc := 54) hx hb d_M_deliver_54 rfl (lv_at hl 1 rfl) ?_
    have b8 := hk.1
    have hk := hk.2
    refine z_iald (pc := 55) (v := S5.1 30 0 0 ((16 : Int32) * a1).toNatClampNeg) hF hK.1 hW tm30 0 rfl rfl b8 rfl d_M_deliver_55 ?_
    refine lv_istore (pc := 56) (lv' := [(4, .int (S5.1 30 0 0 ((16 : Int32) * a1).toNatClampNeg)), (3, .int (S5.1 29 0 0 ((16 : Int32) * a1).toNatClampNeg)), (2, .int ((16 : Int32) * a1)), (0, .ref (ad (1, 0, 0))), (1, .int a1)]) hx hb d_M_deliver_56 hl (by decide) rfl (fun ls hl => ?_)
    refine lv_aload_n (pc := 58) hx hb d_M_deliver_58 rfl (lv_at hl 3 rfl) ?_
    refine z_get (pc := 59) (v := .ref (ad (31, 0, 0))) hF hK.1 hW tm1 rfl rfl in_M 36 (by decide) gw_920 rfl rfl d_M_deliver_59 ?_
    refine lv_iload_n (pc := 62) hx hb d_M_deliver_62 rfl (lv_at hl 2 rfl) ?_
    have b9 := hk.1
    have hk := hk.2
    refine z_iald (pc := 63) (v := S5.1 31 0 0 ((16 : Int32) * a1).toNatClampNeg) hF hK.1 hW tm31 0 rfl rfl b9 rfl d_M_deliver_63 ?_
    refine lv_istore (pc := 64) (lv' := [(5, .int (S5.1 31 0 0 ((16 : Int32) * a1).toNatClampNeg)), (4, .int (S5.1 30 0 0 ((16 : Int32) * a1).toNatClampNeg)), (3, .int (S5.1 29 0 0 ((16 : Int32) * a1).toNatClampNeg)), (2, .int ((16 : Int32) * a1)), (0, .ref (ad (1, 0, 0))), (1, .int a1)]) hx hb d_M_deliver_64 hl (by decide) rfl (fun ls hl => ?_)
    refine lv_aload_n (pc := 66) hx hb d_M_deliver_66 rfl (lv_at hl 4 rfl) ?_
    refine z_get (pc := 67) (v := .ref (ad (32, 0, 0))) hF hK.1 hW tm1 rfl rfl in_M 37 (by decide) gw_921 rfl rfl d_M_deliver_67 ?_
    refine lv_iload_n (pc := 70) hx hb d_M_deliver_70 rfl (lv_at hl 3 rfl) ?_
    have b10 := hk.1
    have hk := hk.2
    refine z_iald (pc := 71) (v := S5.1 32 0 0 ((16 : Int32) * a1).toNatClampNeg) hF hK.1 hW tm32 0 rfl rfl b10 rfl d_M_deliver_71 ?_
    refine lv_istore (pc := 72) (lv' := [(6, .int (S5.1 32 0 0 ((16 : Int32) * a1).toNatClampNeg)), (5, .int (S5.1 31 0 0 ((16 : Int32) * a1).toNatClampNeg)), (4, .int (S5.1 30 0 0 ((16 : Int32) * a1).toNatClampNeg)), (3, .int (S5.1 29 0 0 ((16 : Int32) * a1).toNatClampNeg)), (2, .int ((16 : Int32) * a1)), (0, .ref (ad (1, 0, 0))), (1, .int a1)]) hx hb d_M_deliver_72 hl (by decide) rfl (fun ls hl => ?_)
    refine lv_aload_n (pc := 74) hx hb d_M_deliver_74 rfl (lv_at hl 5 rfl) ?_
    refine lv_aload_n (pc := 75) hx hb d_M_deliver_75 rfl (lv_at hl 5 rfl) ?_
    refine z_get (pc := 76) (v := .ref (ad (33, 0, 0))) hF hK.1 hW tm1 rfl rfl in_M 38 (by decide) gw_922 rfl rfl d_M_deliver_76 ?_
    refine lv_iload_n (pc := 79) hx hb d_M_deliver_79 rfl (lv_at hl 4 rfl) ?_
    have b11 := hk.1
    have hk := hk.2
    refine z_iald (pc := 80) (v := S5.1 33 0 0 ((16 : Int32) * a1).toNatClampNeg) hF hK.1 hW tm33 0 rfl rfl b11 rfl d_M_deliver_80 ?_
    obtain ⟨S12, eS12⟩ : ∃ z : St, z = si S5 1 0 0 40 (S5.1 33 0 0 ((16 : Int32) * a1).toNatClampNeg) := ⟨_, rfl⟩
    have hk := lt_p eS12 hk
    have hr := lt_e eS12 hr
    refine z_put (pc := 81) (S' := S12) hF hK.1 hW tm1 rfl rfl in_M t_M tyo_M nmo_M 40 (by decide) gw_924 rfl rfl rfl rfl rfl (Nat.le_of_ble_eq_true rfl) (zs_si eS12 rfl) (zs_sio eS12) d_M_deliver_81 (fun H locs (hW : Wd D clM A s.heap (zw X ad TM (cfM ad ca) S12) H locs) => ?_)
    refine lv_iconst (pc := 84) (v := 0) hx hb d_M_deliver_84 (by decide) ?_
    refine lv_istore (pc := 85) (lv' := [(7, .int (0 : Int32)), (6, .int (S5.1 32 0 0 ((16 : Int32) * a1).toNatClampNeg)), (5, .int (S5.1 31 0 0 ((16 : Int32) * a1).toNatClampNeg)), (4, .int (S5.1 30 0 0 ((16 : Int32) * a1).toNatClampNeg)), (3, .int (S5.1 29 0 0 ((16 : Int32) * a1).toNatClampNeg)), (2, .int ((16 : Int32) * a1)), (0, .ref (ad (1, 0, 0))), (1, .int a1)]) hx hb d_M_deliver_85 hl (by decide) rfl (fun ls hl => ?_)
    exact w_M_deliver_87 a1 hy hA 200 S12 ((16 : Int32) * a1) (S5.1 29 0 0 ((16 : Int32) * a1).toNatClampNeg) (S5.1 30 0 0 ((16 : Int32) * a1).toNatClampNeg) (S5.1 31 0 0 ((16 : Int32) * a1).toNatClampNeg) (S5.1 32 0 0 ((16 : Int32) * a1).toNatClampNeg) (0 : Int32) hk hr _ _ _ hW (lv_sub hl [6, 7, 5, 4, 3, 2, 1, 0] rfl)
  · have hk := hk.2 c6
    have hr := (if_neg c6).symm.trans hr
    refine lv_iconst (pc := 36) (v := 0) hx hb d_M_deliver_36 (by decide) ?_
    exact z_iret (v := (0 : Int32)) hy hW hr.symm d_M_deliver_37
def f_M_deliver (a1 : Int32) (S : St) : Int32 × St :=
  lt (f_M_isNode a1 S) fun (r1 : Int32) =>
  if r1 = 0 then
    f_M_deliver_26 a1 S (1 : Int32)
  else
    if (S.1 28 0 0 a1.toNatClampNeg) = 0 then
      f_M_deliver_26 a1 S (2 : Int32)
    else
      f_M_deliver_26 a1 S (0 : Int32)
def ok_M_deliver (a1 : Int32) (S : St) : Prop :=
  lt (f_M_isNode a1 S) fun (r1 : Int32) =>
  (r1 = 0 → (
    ok_M_deliver_26 a1 S (1 : Int32))) ∧ (¬ (r1 = 0) → (
    (vp_in a1 4) ∧ (
      ((S.1 28 0 0 a1.toNatClampNeg) = 0 → (
        ok_M_deliver_26 a1 S (2 : Int32))) ∧ (¬ ((S.1 28 0 0 a1.toNatClampNeg) = 0) → (
        ok_M_deliver_26 a1 S (0 : Int32))))))
set_option maxHeartbeats 4000000 in
set_option maxRecDepth 100000 in
theorem c_M_deliver (l : Launch) (D : va_G) (X : va_W) (ad : N3 → Nat) (ca : Nat → ClassId) (a1 : Int32)  (S : St) (hk : ok_M_deliver a1 S) : cI l GG D clM (tysM ca) nwM X ad TM (cfM ad ca) y_M_deliver b_M_deliver 8 .int 6 147 [.ref (ad (1, 0, 0)), .int a1] S (f_M_deliver a1 S) := by
  generalize hr : f_M_deliver a1 S = res
  refine zI_of pn_M (Nat.le_of_ble_eq_true rfl) (fun p e s m below meth c A ls hy hW hA hl => ?_)
  have hF := hy.1
  have hx := hF.1
  have hb := hF.2.1
  have hK := hy.2.2.2
  have hl : lv_has ls 8 [(0, .ref (ad (1, 0, 0))), (1, .int a1)] := hl
  refine lv_aload_n (pc := 0) hx hb d_M_deliver_0 rfl (lv_at hl 0 rfl) ?_
  refine lv_iload_n (pc := 1) hx hb d_M_deliver_1 rfl (lv_at hl 1 rfl) ?_
  obtain ⟨r1, er1⟩ : ∃ z : Int32, z = f_M_isNode a1 S := ⟨_, rfl⟩
  have hk := lt_p er1 hk
  have hr := lt_e er1 hr
  refine p_go (pc := 2) (congrArg Value.int er1) (p_runS hF hK hW (c_M_isNode l D X ad ca a1 S _) cd_M_isNode gw_1022 ⟨Nat.le_of_ble_eq_true rfl, Nat.le_of_ble_eq_true rfl⟩ ⟨Nat.zero_le _, Nat.zero_le _⟩ rfl rfl hl.1 (Nat.le_of_ble_eq_true rfl) d_M_deliver_2) ?_
  refine lv_if_ne (pc := 5) (tgt := 12) hx hb d_M_deliver_5 (by decide) (fun c2 => ?_) (fun c2 => ?_)
  · have hk := hk.2 c2
    have hr := (if_neg c2).symm.trans hr
    refine lv_aload_n (pc := 12) hx hb d_M_deliver_12 rfl (lv_at hl 0 rfl) ?_
    refine z_get (pc := 13) (v := .ref (ad (28, 0, 0))) hF hK.1 hW tm1 rfl rfl in_M 33 (by decide) gw_917 rfl rfl d_M_deliver_13 ?_
    refine lv_iload_n (pc := 16) hx hb d_M_deliver_16 rfl (lv_at hl 1 rfl) ?_
    have b3 := hk.1
    have hk := hk.2
    refine z_iald (pc := 17) (v := S.1 28 0 0 a1.toNatClampNeg) hF hK.1 hW tm28 0 rfl rfl b3 rfl d_M_deliver_17 ?_
    refine lv_if_ne (pc := 18) (tgt := 25) hx hb d_M_deliver_18 (by decide) (fun c4 => ?_) (fun c4 => ?_)
    · have hk := hk.2 c4
      have hr := (if_neg c4).symm.trans hr
      refine lv_iconst (pc := 25) (v := 0) hx hb d_M_deliver_25 (by decide) ?_
      exact w_M_deliver_26 a1 hy hA S (0 : Int32) hk hr _ _ _ hW (lv_sub hl [0, 1] rfl)
    · have hk := hk.1 c4
      have hr := (if_pos c4).symm.trans hr
      refine lv_iconst (pc := 21) (v := 2) hx hb d_M_deliver_21 (by decide) ?_
      refine lv_goto (pc := 22) (tgt := 26) hx hb d_M_deliver_22 (by decide) ?_
      exact w_M_deliver_26 a1 hy hA S (2 : Int32) hk hr _ _ _ hW (lv_sub hl [0, 1] rfl)
  · have hk := hk.1 c2
    have hr := (if_pos c2).symm.trans hr
    refine lv_iconst (pc := 8) (v := 1) hx hb d_M_deliver_8 (by decide) ?_
    refine lv_goto (pc := 9) (tgt := 26) hx hb d_M_deliver_9 (by decide) ?_
    exact w_M_deliver_26 a1 hy hA S (1 : Int32) hk hr _ _ _ hW (lv_sub hl [0, 1] rfl)
