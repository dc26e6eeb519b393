theorem d_Transactions_carryOut_0 : decode b_Transactions_carryOut 0 = .ok (.aload_n 0, 1) := by decide +kernel
theorem d_Transactions_carryOut_1 : decode b_Transactions_carryOut 1 = .ok (.iload_n 1, 1) := by decide +kernel
theorem d_Transactions_carryOut_2 : decode b_Transactions_carryOut 2 = .ok (.invokevirtual 28, 3) := by decide +kernel
theorem d_Transactions_carryOut_5 : decode b_Transactions_carryOut 5 = .ok (.ifCond .eq 31, 3) := by decide +kernel
theorem d_Transactions_carryOut_8 : decode b_Transactions_carryOut 8 = .ok (.aload_n 2, 1) := by decide +kernel
theorem d_Transactions_carryOut_9 : decode b_Transactions_carryOut 9 = .ok (.aload_n 0, 1) := by decide +kernel
theorem d_Transactions_carryOut_10 : decode b_Transactions_carryOut 10 = .ok (.getfield 9, 3) := by decide +kernel
theorem d_Transactions_carryOut_13 : decode b_Transactions_carryOut 13 = .ok (.iload_n 1, 1) := by decide +kernel
theorem d_Transactions_carryOut_14 : decode b_Transactions_carryOut 14 = .ok (.iaload, 1) := by decide +kernel
theorem d_Transactions_carryOut_15 : decode b_Transactions_carryOut 15 = .ok (.aload_n 0, 1) := by decide +kernel
theorem d_Transactions_carryOut_16 : decode b_Transactions_carryOut 16 = .ok (.getfield 15, 3) := by decide +kernel
theorem d_Transactions_carryOut_19 : decode b_Transactions_carryOut 19 = .ok (.iload_n 1, 1) := by decide +kernel
theorem d_Transactions_carryOut_20 : decode b_Transactions_carryOut 20 = .ok (.iaload, 1) := by decide +kernel
theorem d_Transactions_carryOut_21 : decode b_Transactions_carryOut 21 = .ok (.aload_n 0, 1) := by decide +kernel
theorem d_Transactions_carryOut_22 : decode b_Transactions_carryOut 22 = .ok (.getfield 18, 3) := by decide +kernel
theorem d_Transactions_carryOut_25 : decode b_Transactions_carryOut 25 = .ok (.iload_n 1, 1) := by decide +kernel
theorem d_Transactions_carryOut_26 : decode b_Transactions_carryOut 26 = .ok (.iaload, 1) := by decide +kernel
theorem d_Transactions_carryOut_27 : decode b_Transactions_carryOut 27 = .ok (.aload_n 0, 1) := by decide +kernel
theorem d_Transactions_carryOut_28 : decode b_Transactions_carryOut 28 = .ok (.getfield 21, 3) := by decide +kernel
theorem d_Transactions_carryOut_31 : decode b_Transactions_carryOut 31 = .ok (.iload_n 1, 1) := by decide +kernel
theorem d_Transactions_carryOut_32 : decode b_Transactions_carryOut 32 = .ok (.iaload, 1) := by decide +kernel
theorem d_Transactions_carryOut_33 : decode b_Transactions_carryOut 33 = .ok (.invokevirtual 32, 3) := by decide +kernel
theorem d_Transactions_carryOut_36 : decode b_Transactions_carryOut 36 = .ok (.return_, 1) := by decide +kernel
def f_Transactions_carryOut (a1 : Int32) (i2 : Nat) (S : St) : St :=
  lt (f_Transactions_exists a1 S) fun (r1 : Int32) =>
  if r1 = 0 then
    S
  else
    lt (f_Accounts_move i2 (S.1 25 0 0 a1.toNatClampNeg) (S.1 26 0 0 a1.toNatClampNeg) (S.1 27 0 0 a1.toNatClampNeg) (S.1 28 0 0 a1.toNatClampNeg) S) fun (S9 : St) =>
    S9
def ok_Transactions_carryOut (a1 : Int32) (i2 : Nat) (S : St) : Prop :=
  lt (f_Transactions_exists a1 S) fun (r1 : Int32) =>
  (r1 = 0 → (
    True)) ∧ (¬ (r1 = 0) → (
    (vp_in a1 40) ∧ (
      (vp_in a1 40) ∧ (
        (vp_in a1 40) ∧ (
          (vp_in a1 40) ∧ (
            (ok_Accounts_move i2 (S.1 25 0 0 a1.toNatClampNeg) (S.1 26 0 0 a1.toNatClampNeg) (S.1 27 0 0 a1.toNatClampNeg) (S.1 28 0 0 a1.toNatClampNeg) S) ∧ (
              True)))))))
set_option maxHeartbeats 4000000 in
set_option maxRecDepth 100000 in
theorem c_Transactions_carryOut (l : Launch) (D : va_G) (X : va_W) (ad : N3 → Nat) (ca : Nat → ClassId) (a1 : Int32) (i2 : Nat) (h2 : i2 < 4) (S : St) (hk : ok_Transactions_carryOut a1 i2 S) : cV l GG D clQ (tysQ ca) nwQ X ad TQ (cfQ ad ca) y_Transactions_carryOut b_Transactions_carryOut 3 2 44 [.ref (ad (24, 0, 0)), .int a1, .ref (ad (7, i2, 0))] S (f_Transactions_carryOut a1 i2 S) := by
  generalize hr : f_Transactions_carryOut a1 i2 S = res
  refine zV_of pn_Transactions (Nat.le_of_ble_eq_true rfl) (fun p e s m below meth c A ls hy hW hA hl => ?_)
  have hF := hy.1
  have hx := hF.1
  have hb := hF.2.1
  have hK := hy.2.2.2
  have hl : lv_has ls 3 [(0, .ref (ad (24, 0, 0))), (1, .int a1), (2, .ref (ad (7, i2, 0)))] := hl
  refine lv_aload_n (pc := 0) hx hb d_Transactions_carryOut_0 rfl (lv_at hl 0 rfl) ?_
  refine lv_iload_n (pc := 1) hx hb d_Transactions_carryOut_1 rfl (lv_at hl 1 rfl) ?_
  obtain ⟨r1, er1⟩ : ∃ z : Int32, z = f_Transactions_exists a1 S := ⟨_, rfl⟩
  have hk := lt_p er1 hk
  have hr := lt_e er1 hr
  refine p_go (pc := 2) (congrArg Value.int er1) (p_runV hF hK hW (c_Transactions_exists l D X ad ca a1 S _) cd_Transactions_exists gw_720 tq24 rfl rfl ⟨Nat.le_of_ble_eq_true rfl, Nat.le_of_ble_eq_true rfl⟩ ⟨Nat.zero_le _, Nat.zero_le _⟩ rfl rfl hl.1 (Nat.le_of_ble_eq_true rfl) d_Transactions_carryOut_2) ?_
  refine lv_if_eq (pc := 5) (tgt := 36) hx hb d_Transactions_carryOut_5 (by decide) (fun c2 => ?_) (fun c2 => ?_)
  · have hk := hk.1 c2
    have hr := (if_pos c2).symm.trans hr
    exact z_vret hy hW hr.symm d_Transactions_carryOut_36
  · have hk := hk.2 c2
    have hr := (if_neg c2).symm.trans hr
    refine lv_aload_n (pc := 8) hx hb d_Transactions_carryOut_8 rfl (lv_at hl 2 rfl) ?_
    refine lv_aload_n (pc := 9) hx hb d_Transactions_carryOut_9 rfl (lv_at hl 0 rfl) ?_
    refine z_get (pc := 10) (v := .ref (ad (25, 0, 0))) hF hK.1 hW tq24 rfl rfl in_Transactions 0 (by decide) gw_113 rfl rfl d_Transactions_carryOut_10 ?_
    refine lv_iload_n (pc := 13) hx hb d_Transactions_carryOut_13 rfl (lv_at hl 1 rfl) ?_
    have b3 := hk.1
    have hk := hk.2
    refine z_iald (pc := 14) (v := S.1 25 0 0 a1.toNatClampNeg) hF hK.1 hW tq25 0 rfl rfl b3 rfl d_Transactions_carryOut_14 ?_
    refine lv_aload_n (pc := 15) hx hb d_Transactions_carryOut_15 rfl (lv_at hl 0 rfl) ?_
    refine z_get (pc := 16) (v := .ref (ad (26, 0, 0))) hF hK.1 hW tq24 rfl rfl in_Transactions 1 (by decide) gw_114 rfl rfl d_Transactions_carryOut_16 ?_
    refine lv_iload_n (pc := 19) hx hb d_Transactions_carryOut_19 rfl (lv_at hl 1 rfl) ?_
    have b4 := hk.1
    have hk := hk.2
    refine z_iald (pc := 20) (v := S.1 26 0 0 a1.toNatClampNeg) hF hK.1 hW tq26 0 rfl rfl b4 rfl d_Transactions_carryOut_20 ?_
    refine lv_aload_n (pc := 21) hx hb d_Transactions_carryOut_21 rfl (lv_at hl 0 rfl) ?_
    refine z_get (pc := 22) (v := .ref (ad (27, 0, 0))) hF hK.1 hW tq24 rfl rfl in_Transactions 2 (by decide) gw_115 rfl rfl d_Transactions_carryOut_22 ?_
    refine lv_iload_n (pc := 25) hx hb d_Transactions_carryOut_25 rfl (lv_at hl 1 rfl) ?_
    have b5 := hk.1
    have hk := hk.2
    refine z_iald (pc := 26) (v := S.1 27 0 0 a1.toNatClampNeg) hF hK.1 hW tq27 0 rfl rfl b5 rfl d_Transactions_carryOut_26 ?_
    refine lv_aload_n (pc := 27) hx hb d_Transactions_carryOut_27 rfl (lv_at hl 0 rfl) ?_
    refine z_get (pc := 28) (v := .ref (ad (28, 0, 0))) hF hK.1 hW tq24 rfl rfl in_Transactions 3 (by decide) gw_116 rfl rfl d_Transactions_carryOut_28 ?_
    refine lv_iload_n (pc := 31) hx hb d_Transactions_carryOut_31 rfl (lv_at hl 1 rfl) ?_
    have b6 := hk.1
    have hk := hk.2
    refine z_iald (pc := 32) (v := S.1 28 0 0 a1.toNatClampNeg) hF hK.1 hW tq28 0 rfl rfl b6 rfl d_Transactions_carryOut_32 ?_
    have o7 := hk.1
    have hk := hk.2
    obtain ⟨S9, eS9⟩ : ∃ z : St, z = f_Accounts_move i2 (S.1 25 0 0 a1.toNatClampNeg) (S.1 26 0 0 a1.toNatClampNeg) (S.1 27 0 0 a1.toNatClampNeg) (S.1 28 0 0 a1.toNatClampNeg) S := ⟨_, rfl⟩
    have hr := lt_e eS9 hr
    refine z_goV (pc := 33) hW hA eS9 (z_runV hF hK hW (c_Accounts_move l D X ad ca i2 (S.1 25 0 0 a1.toNatClampNeg) (S.1 26 0 0 a1.toNatClampNeg) (S.1 27 0 0 a1.toNatClampNeg) (S.1 28 0 0 a1.toNatClampNeg) h2 S o7 _) cd_Accounts_move gw_721 (tq7 h2) rfl rfl ⟨Nat.le_of_ble_eq_true rfl, Nat.le_of_ble_eq_true rfl⟩ ⟨Nat.zero_le _, Nat.zero_le _⟩ rfl rfl hl.1 (Nat.le_of_ble_eq_true rfl) d_Transactions_carryOut_33) (fun H locs (hW : Wd D clQ A s.heap (zw X ad TQ (cfQ ad ca) S9) H locs) => ?_)
    exact z_vret hy hW hr.symm d_Transactions_carryOut_36
theorem d_QC_commitUpTo_0 : decode b_QC_commitUpTo 0 = .ok (.aload_n 0, 1) := by decide +kernel
theorem d_QC_commitUpTo_1 : decode b_QC_commitUpTo 1 = .ok (.getfield 18, 3) := by decide +kernel
theorem d_QC_commitUpTo_4 : decode b_QC_commitUpTo 4 = .ok (.iload_n 2, 1) := by decide +kernel
theorem d_QC_commitUpTo_5 : decode b_QC_commitUpTo 5 = .ok (.aload_n 1, 1) := by decide +kernel
theorem d_QC_commitUpTo_6 : decode b_QC_commitUpTo 6 = .ok (.invokevirtual 379, 3) := by decide +kernel
theorem d_QC_commitUpTo_9 : decode b_QC_commitUpTo 9 = .ok (.invokevirtual 383, 3) := by decide +kernel
theorem d_QC_commitUpTo_12 : decode b_QC_commitUpTo 12 = .ok (.istore_n 3, 1) := by decide +kernel
theorem d_QC_commitUpTo_13 : decode b_QC_commitUpTo 13 = .ok (.aload_n 1, 1) := by decide +kernel
theorem d_QC_commitUpTo_14 : decode b_QC_commitUpTo 14 = .ok (.getfield 260, 3) := by decide +kernel
theorem d_QC_commitUpTo_17 : decode b_QC_commitUpTo 17 = .ok (.istore 4, 2) := by decide +kernel
theorem d_QC_commitUpTo_19 : decode b_QC_commitUpTo 19 = .ok (.iload_n 3, 1) := by decide +kernel
theorem d_QC_commitUpTo_20 : decode b_QC_commitUpTo 20 = .ok (.iconst (-1), 1) := by decide +kernel
theorem d_QC_commitUpTo_21 : decode b_QC_commitUpTo 21 = .ok (.if_icmp .eq 12, 3) := by decide +kernel
theorem d_QC_commitUpTo_24 : decode b_QC_commitUpTo 24 = .ok (.iload 4, 2) := by decide +kernel
theorem d_QC_commitUpTo_26 : decode b_QC_commitUpTo 26 = .ok (.iload_n 3, 1) := by decide +kernel
theorem d_QC_commitUpTo_27 : decode b_QC_commitUpTo 27 = .ok (.iadd, 1) := by decide +kernel
theorem d_QC_commitUpTo_28 : decode b_QC_commitUpTo 28 = .ok (.bipush 100, 2) := by decide +kernel
theorem d_QC_commitUpTo_30 : decode b_QC_commitUpTo 30 = .ok (.if_icmp .le 4, 3) := by decide +kernel
theorem d_QC_commitUpTo_33 : decode b_QC_commitUpTo 33 = .ok (.return_, 1) := by decide +kernel
theorem d_QC_commitUpTo_34 : decode b_QC_commitUpTo 34 = .ok (.iload_n 2, 1) := by decide +kernel
theorem d_QC_commitUpTo_35 : decode b_QC_commitUpTo 35 = .ok (.istore 5, 2) := by decide +kernel
theorem d_QC_commitUpTo_37 : decode b_QC_commitUpTo 37 = .ok (.iload 4, 2) := by decide +kernel
theorem d_QC_commitUpTo_39 : decode b_QC_commitUpTo 39 = .ok (.iload_n 3, 1) := by decide +kernel
theorem d_QC_commitUpTo_40 : decode b_QC_commitUpTo 40 = .ok (.iadd, 1) := by decide +kernel
theorem d_QC_commitUpTo_41 : decode b_QC_commitUpTo 41 = .ok (.iconst 1, 1) := by decide +kernel
theorem d_QC_commitUpTo_42 : decode b_QC_commitUpTo 42 = .ok (.isub, 1) := by decide +kernel
theorem d_QC_commitUpTo_43 : decode b_QC_commitUpTo 43 = .ok (.istore 6, 2) := by decide +kernel
theorem d_QC_commitUpTo_45 : decode b_QC_commitUpTo 45 = .ok (.iload 6, 2) := by decide +kernel
theorem d_QC_commitUpTo_47 : decode b_QC_commitUpTo 47 = .ok (.iload 4, 2) := by decide +kernel
theorem d_QC_commitUpTo_49 : decode b_QC_commitUpTo 49 = .ok (.if_icmp .lt 29, 3) := by decide +kernel
theorem d_QC_commitUpTo_52 : decode b_QC_commitUpTo 52 = .ok (.aload_n 1, 1) := by decide +kernel
theorem d_QC_commitUpTo_53 : decode b_QC_commitUpTo 53 = .ok (.getfield 386, 3) := by decide +kernel
theorem d_QC_commitUpTo_56 : decode b_QC_commitUpTo 56 = .ok (.iload 6, 2) := by decide +kernel
theorem d_QC_commitUpTo_58 : decode b_QC_commitUpTo 58 = .ok (.iload 5, 2) := by decide +kernel
theorem d_QC_commitUpTo_60 : decode b_QC_commitUpTo 60 = .ok (.iastore, 1) := by decide +kernel
theorem d_QC_commitUpTo_61 : decode b_QC_commitUpTo 61 = .ok (.aload_n 0, 1) := by decide +kernel
theorem d_QC_commitUpTo_62 : decode b_QC_commitUpTo 62 = .ok (.getfield 18, 3) := by decide +kernel
theorem d_QC_commitUpTo_65 : decode b_QC_commitUpTo 65 = .ok (.iload 5, 2) := by decide +kernel
theorem d_QC_commitUpTo_67 : decode b_QC_commitUpTo 67 = .ok (.invokevirtual 285, 3) := by decide +kernel
theorem d_QC_commitUpTo_70 : decode b_QC_commitUpTo 70 = .ok (.istore 5, 2) := by decide +kernel
theorem d_QC_commitUpTo_72 : decode b_QC_commitUpTo 72 = .ok (.iinc 6 (-1), 3) := by decide +kernel
theorem d_QC_commitUpTo_75 : decode b_QC_commitUpTo 75 = .ok (.goto (-30), 3) := by decide +kernel
theorem d_QC_commitUpTo_78 : decode b_QC_commitUpTo 78 = .ok (.aload_n 1, 1) := by decide +kernel
theorem d_QC_commitUpTo_79 : decode b_QC_commitUpTo 79 = .ok (.iload 4, 2) := by decide +kernel
theorem d_QC_commitUpTo_81 : decode b_QC_commitUpTo 81 = .ok (.iload_n 3, 1) := by decide +kernel
theorem d_QC_commitUpTo_82 : decode b_QC_commitUpTo 82 = .ok (.iadd, 1) := by decide +kernel
theorem d_QC_commitUpTo_83 : decode b_QC_commitUpTo 83 = .ok (.putfield 260, 3) := by decide +kernel
theorem d_QC_commitUpTo_86 : decode b_QC_commitUpTo 86 = .ok (.iload 4, 2) := by decide +kernel
theorem d_QC_commitUpTo_88 : decode b_QC_commitUpTo 88 = .ok (.istore 6, 2) := by decide +kernel
theorem d_QC_commitUpTo_90 : decode b_QC_commitUpTo 90 = .ok (.iload 6, 2) := by decide +kernel
theorem d_QC_commitUpTo_92 : decode b_QC_commitUpTo 92 = .ok (.iload 4, 2) := by decide +kernel
theorem d_QC_commitUpTo_94 : decode b_QC_commitUpTo 94 = .ok (.iload_n 3, 1) := by decide +kernel
theorem d_QC_commitUpTo_95 : decode b_QC_commitUpTo 95 = .ok (.iadd, 1) := by decide +kernel
theorem d_QC_commitUpTo_96 : decode b_QC_commitUpTo 96 = .ok (.if_icmp .ge 34, 3) := by decide +kernel
theorem d_QC_commitUpTo_99 : decode b_QC_commitUpTo 99 = .ok (.aload_n 0, 1) := by decide +kernel
theorem d_QC_commitUpTo_100 : decode b_QC_commitUpTo 100 = .ok (.getfield 25, 3) := by decide +kernel
theorem d_QC_commitUpTo_103 : decode b_QC_commitUpTo 103 = .ok (.aload_n 0, 1) := by decide +kernel
theorem d_QC_commitUpTo_104 : decode b_QC_commitUpTo 104 = .ok (.getfield 18, 3) := by decide +kernel
theorem d_QC_commitUpTo_107 : decode b_QC_commitUpTo 107 = .ok (.aload_n 1, 1) := by decide +kernel
theorem d_QC_commitUpTo_108 : decode b_QC_commitUpTo 108 = .ok (.getfield 386, 3) := by decide +kernel
theorem d_QC_commitUpTo_111 : decode b_QC_commitUpTo 111 = .ok (.iload 6, 2) := by decide +kernel
theorem d_QC_commitUpTo_113 : decode b_QC_commitUpTo 113 = .ok (.iaload, 1) := by decide +kernel
theorem d_QC_commitUpTo_114 : decode b_QC_commitUpTo 114 = .ok (.invokevirtual 288, 3) := by decide +kernel
theorem d_QC_commitUpTo_117 : decode b_QC_commitUpTo 117 = .ok (.aload_n 1, 1) := by decide +kernel
theorem d_QC_commitUpTo_118 : decode b_QC_commitUpTo 118 = .ok (.getfield 272, 3) := by decide +kernel
theorem d_QC_commitUpTo_121 : decode b_QC_commitUpTo 121 = .ok (.invokevirtual 389, 3) := by decide +kernel
theorem d_QC_commitUpTo_124 : decode b_QC_commitUpTo 124 = .ok (.iinc 6 1, 3) := by decide +kernel
theorem d_QC_commitUpTo_127 : decode b_QC_commitUpTo 127 = .ok (.goto (-37), 3) := by decide +kernel
theorem d_QC_commitUpTo_130 : decode b_QC_commitUpTo 130 = .ok (.return_, 1) := by decide +kernel
def f_QC_commitUpTo_90 (i1 : Nat) (a2 : Int32) : Nat → St → Int32 → Int32 → Int32 → St
  | 0, S, _, _, _ => S
  | n + 1, S, l3, l4, l6 =>
    if (l4 + l3) ≤ l6 then
      S
    else
      lt (f_Blocks_transactionOf (S.1 6 i1 0 l6.toNatClampNeg) S) fun (r16 : Int32) =>
      lt (f_Transactions_carryOut r16 i1 S) fun (S19 : St) =>
      f_QC_commitUpTo_90 i1 a2 n S19 l3 l4 (l6 + (1 : Int32))
def ok_QC_commitUpTo_90 (i1 : Nat) (a2 : Int32) : Nat → St → Int32 → Int32 → Int32 → Prop
  | 0, _, _, _, _ => False
  | n + 1, S, l3, l4, l6 =>
    ((l4 + l3) ≤ l6 → (
      True)) ∧ (¬ ((l4 + l3) ≤ l6) → (
      (vp_in l6 100) ∧ (
        (ok_Blocks_transactionOf (S.1 6 i1 0 l6.toNatClampNeg) S) ∧ (
          lt (f_Blocks_transactionOf (S.1 6 i1 0 l6.toNatClampNeg) S) fun (r16 : Int32) =>
          (ok_Transactions_carryOut r16 i1 S) ∧ (
            lt (f_Transactions_carryOut r16 i1 S) fun (S19 : St) =>
            ok_QC_commitUpTo_90 i1 a2 n S19 l3 l4 (l6 + (1 : Int32)))))))
set_option maxHeartbeats 4000000 in
set_option maxRecDepth 100000 in
theorem w_QC_commitUpTo_90 {l : Launch} {D : va_G} {X : va_W} {ad : N3 → Nat} {ca : Nat → ClassId} (i1 : Nat) (a2 : Int32) (h1 : i1 < 4) {p : Program} {e : Env} {s : State} {m : MethodId} {below : List Frame} {meth : Method} {c : Code} {A : Nat → Prop} (hy : Hy p s m ([.ref (ad (1, 0, 0)), .ref (ad (4, i1, 0)), .int a2] : List Value).toArray meth c b_QC_commitUpTo 7 none R_QC GG D clQ (tysQ ca) nwQ) (hA : ∀ q, s.heap.size ≤ q → A q) {res : St} : ∀ (n : Nat) (S : St) (l3 : Int32) (l4 : Int32) (l6 : Int32) , ok_QC_commitUpTo_90 i1 a2 n S l3 l4 l6 → f_QC_commitUpTo_90 i1 a2 n S l3 l4 l6 = res → ∀ (H : Heap) (locs : List Loc) (ls : Array Slot), Wd D clQ A s.heap (zw X ad TQ (cfQ ad ca) S) H locs → lv_has ls 7 [(0, .ref (ad (1, 0, 0))), (1, .ref (ad (4, i1, 0))), (3, .int l3), (4, .int l4), (6, .int l6)] → W p l e { frames := 3, cells := 0, slots := 0, locals := 66 } s m ([.ref (ad (1, 0, 0)), .ref (ad (4, i1, 0)), .int a2] : List Value).toArray below meth c H locs 0 0 (MQ below (eV D clQ X ad TQ (cfQ ad ca) A res) ([.ref (ad (1, 0, 0)), .ref (ad (4, i1, 0)), .int a2] : List Value).toArray s 0 0 A) (F0 m 90 ls []) := by
  have hF := hy.1
  have hx := hF.1
  have hb := hF.2.1
  have hK := hy.2.2.2
  intro n
  induction n with
  | zero =>
    intro S l3 l4 l6 hk
    exact hk.elim
  | succ n ih =>
    intro S l3 l4 l6 hk hr H locs ls hW hl
    refine lv_iload (pc := 90) hx hb d_QC_commitUpTo_90 (lv_at hl 4 rfl) ?_
    refine lv_iload (pc := 92) hx hb d_QC_commitUpTo_92 (lv_at hl 3 rfl) ?_
    refine lv_iload_n (pc := 94) hx hb d_QC_commitUpTo_94 rfl (lv_at hl 2 rfl) ?_
    refine lv_iadd (pc := 95) hx hb d_QC_commitUpTo_95 ?_
    refine lv_icmp_ge (pc := 96) (tgt := 130) hx hb d_QC_commitUpTo_96 (by decide) (fun c13 => ?_) (fun c13 => ?_)
    · have hk := hk.1 c13
      have hr := (if_pos c13).symm.trans hr
      exact z_vret hy hW hr.symm d_QC_commitUpTo_130
    · have hk := hk.2 c13
      have hr := (if_neg c13).symm.trans hr
      refine lv_aload_n (pc := 99) hx hb d_QC_commitUpTo_99 rfl (lv_at hl 0 rfl) ?_
      refine z_get (pc := 100) (v := .ref (ad (24, 0, 0))) hF hK.1 hW tq1 rfl rfl in_QC 2 (by decide) gw_346 rfl rfl d_QC_commitUpTo_100 ?_
      refine lv_aload_n (pc := 103) hx hb d_QC_commitUpTo_103 rfl (lv_at hl 0 rfl) ?_
      refine z_get (pc := 104) (v := .ref (ad (19, 0, 0))) hF hK.1 hW tq1 rfl rfl in_QC 1 (by decide) gw_345 rfl rfl d_QC_commitUpTo_104 ?_
      refine lv_aload_n (pc := 107) hx hb d_QC_commitUpTo_107 rfl (lv_at hl 1 rfl) ?_
      refine z_get (pc := 108) (v := .ref (ad (6, i1, 0))) hF hK.1 hW (tq4 h1) rfl rfl in_Store 1 (by decide) gw_266 rfl rfl d_QC_commitUpTo_108 ?_
      refine lv_iload (pc := 111) hx hb d_QC_commitUpTo_111 (lv_at hl 4 rfl) ?_
      have b14 := hk.1
      have hk := hk.2
      refine z_iald (pc := 113) (v := S.1 6 i1 0 l6.toNatClampNeg) hF hK.1 hW (tq6 h1) 0 rfl rfl b14 rfl d_QC_commitUpTo_113 ?_
      have o15 := hk.1
      have hk := hk.2
      obtain ⟨r16, er16⟩ : ∃ z : Int32, z = f_Blocks_transactionOf (S.1 6 i1 0 l6.toNatClampNeg) S := ⟨_, rfl⟩
      have hk := lt_p er16 hk
      have hr := lt_e er16 hr
      refine p_go (pc := 114) (congrArg Value.int er16) (p_runV hF hK hW (c_Blocks_transactionOf l D X ad ca (S.1 6 i1 0 l6.toNatClampNeg) S o15 _) cd_Blocks_transactionOf gw_465 tq19 rfl rfl ⟨Nat.le_of_ble_eq_true rfl, Nat.le_of_ble_eq_true rfl⟩ ⟨Nat.zero_le _, Nat.zero_le _⟩ rfl rfl hl.1 (Nat.le_of_ble_eq_true rfl) d_QC_commitUpTo_114) ?_
      refine lv_aload_n (pc := 117) hx hb d_QC_commitUpTo_117 rfl (lv_at hl 1 rfl) ?_
      refine z_get (pc := 118) (v := .ref (ad (7, i1, 0))) hF hK.1 hW (tq4 h1) rfl rfl in_Store 2 (by decide) gw_268 rfl rfl d_QC_commitUpTo_118 ?_
      have o17 := hk.1
      have hk := hk.2
      obtain ⟨S19, eS19⟩ : ∃ z : St, z = f_Transactions_carryOut r16 i1 S := ⟨_, rfl⟩
      have hk := lt_p eS19 hk
      have hr := lt_e eS19 hr
      refine z_goV (pc := 121) hW hA eS19 (z_runV hF hK hW (c_Transactions_carryOut l D X ad ca r16 i1 h1 S o17 _) cd_Transactions_carryOut gw_716 tq24 rfl rfl ⟨Nat.le_of_ble_eq_true rfl, Nat.le_of_ble_eq_true rfl⟩ ⟨Nat.zero_le _, Nat.zero_le _⟩ rfl rfl hl.1 (Nat.le_of_ble_eq_true rfl) d_QC_commitUpTo_121) (fun H locs (hW : Wd D clQ A s.heap (zw X ad TQ (cfQ ad ca) S19) H locs) => ?_)
      refine lv_iinc (pc := 124) (v := l6 + (1 : Int32)) (lv' := [(6, .int (l6 + (1 : Int32))), (0, .ref (ad (1, 0, 0))), (1, .ref (ad (4, i1, 0))), (3, .int l3), (4, .int l4)]) (k := 4) hx hb d_QC_commitUpTo_124 hl rfl (z_inc (by decide)) (by decide) rfl (fun ls hl => ?_)
      refine lv_goto (pc := 127) (tgt := 90) hx hb d_QC_commitUpTo_127 (by decide) ?_
      exact ih S19 l3 l4 (l6 + (1 : Int32)) hk hr _ _ _ hW (lv_sub hl [1, 2, 3, 4, 0] rfl)
def f_QC_commitUpTo_45 (i1 : Nat) (a2 : Int32) : Nat → St → Int32 → Int32 → Int32 → Int32 → St
  | 0, S, _, _, _, _ => S
  | n + 1, S, l3, l4, l5, l6 =>
    if l6 < l4 then
      lt (si S 4 i1 0 5 (l4 + l3)) fun (S8 : St) =>
      f_QC_commitUpTo_90 i1 a2 200 S8 l3 l4 l4
    else
      lt (si S 6 i1 0 (l6.toNatClampNeg) l5) fun (S10 : St) =>
      lt (f_Blocks_parentOf l5 S10) fun (r12 : Int32) =>
      f_QC_commitUpTo_45 i1 a2 n S10 l3 l4 r12 (l6 + (-1 : Int32))
def ok_QC_commitUpTo_45 (i1 : Nat) (a2 : Int32) : Nat → St → Int32 → Int32 → Int32 → Int32 → Prop
  | 0, _, _, _, _, _ => False
  | n + 1, S, l3, l4, l5, l6 =>
    (l6 < l4 → (
      lt (si S 4 i1 0 5 (l4 + l3)) fun (S8 : St) =>
      ok_QC_commitUpTo_90 i1 a2 200 S8 l3 l4 l4)) ∧ (¬ (l6 < l4) → (
      (vp_in l6 100) ∧ (
        lt (si S 6 i1 0 (l6.toNatClampNeg) l5) fun (S10 : St) =>
        (ok_Blocks_parentOf l5 S10) ∧ (
          lt (f_Blocks_parentOf l5 S10) fun (r12 : Int32) =>
          ok_QC_commitUpTo_45 i1 a2 n S10 l3 l4 r12 (l6 + (-1 : Int32))))))
set_option maxHeartbeats 4000000 in
set_option maxRecDepth 100000 in
theorem w_QC_commitUpTo_45 {l : Launch} {D : va_G} {X : va_W} {ad : N3 → Nat} {ca : Nat → ClassId} (i1 : Nat) (a2 : Int32) (h1 : i1 < 4) {p : Program} {e : Env} {s : State} {m : MethodId} {below : List Frame} {meth : Method} {c : Code} {A : Nat → Prop} (hy : Hy p s m ([.ref (ad (1, 0, 0)), .ref (ad (4, i1, 0)), .int a2] : List Value).toArray meth c b_QC_commitUpTo 7 none R_QC GG D clQ (tysQ ca) nwQ) (hA : ∀ q, s.heap.size ≤ q → A q) {res : St} : ∀ (n : Nat) (S : St) (l3 : Int32) (l4 : Int32) (l5 : Int32) (l6 : Int32) , ok_QC_commitUpTo_45 i1 a2 n S l3 l4 l5 l6 → f_QC_commitUpTo_45 i1 a2 n S l3 l4 l5 l6 = res → ∀ (H : Heap) (locs : List Loc) (ls : Array Slot), Wd D clQ A s.heap (zw X ad TQ (cfQ ad ca) S) H locs → lv_has ls 7 [(0, .ref (ad (1, 0, 0))), (1, .ref (ad (4, i1, 0))), (3, .int l3), (4, .int l4), (5, .int l5), (6, .int l6)] → W p l e { frames := 3, cells := 0, slots := 0, locals := 66 } s m ([.ref (ad (1, 0, 0)), .ref (ad (4, i1, 0)), .int a2] : List Value).toArray below meth c H locs 0 0 (MQ below (eV D clQ X ad TQ (cfQ ad ca) A res) ([.ref (ad (1, 0, 0)), .ref (ad (4, i1, 0)), .int a2] : List Value).toArray s 0 0 A) (F0 m 45 ls []) := by
  have hF := hy.1
  have hx := hF.1
  have hb := hF.2.1
  have hK := hy.2.2.2
  intro n
  induction n with
  | zero =>
    intro S l3 l4 l5 l6 hk
    exact hk.elim
  | succ n ih =>
    intro S l3 l4 l5 l6 hk hr H locs ls hW hl
    refine lv_iload (pc := 45) hx hb d_QC_commitUpTo_45 (lv_at hl 5 rfl) ?_
    refine lv_iload (pc := 47) hx hb d_QC_commitUpTo_47 (lv_at hl 3 rfl) ?_
    refine lv_icmp_lt (pc := 49) (tgt := 78) hx hb d_QC_commitUpTo_49 (by decide) (fun c7 => ?_) (fun c7 => ?_)
    · have hk := hk.1 c7
      have hr := (if_pos c7).symm.trans hr
      refine lv_aload_n (pc := 78) hx hb d_QC_commitUpTo_78 rfl (lv_at hl 1 rfl) ?_
      refine lv_iload (pc := 79) hx hb d_QC_commitUpTo_79 (lv_at hl 3 rfl) ?_
      refine lv_iload_n (pc := 81) hx hb d_QC_commitUpTo_81 rfl (lv_at hl 2 rfl) ?_
      refine lv_iadd (pc := 82) hx hb d_QC_commitUpTo_82 ?_
      obtain ⟨S8, eS8⟩ : ∃ z : St, z = si S 4 i1 0 5 (l4 + l3) := ⟨_, rfl⟩
      have hk := lt_p eS8 hk
      have hr := lt_e eS8 hr
      refine z_put (pc := 83) (S' := S8) hF hK.1 hW (tq4 h1) rfl rfl in_Store t_Store tyo_Store nmo_Store 5 (by decide) gw_274 rfl rfl rfl rfl rfl (Nat.le_of_ble_eq_true rfl) (zs_si eS8 rfl) (zs_sio eS8) d_QC_commitUpTo_83 (fun H locs (hW : Wd D clQ A s.heap (zw X ad TQ (cfQ ad ca) S8) H locs) => ?_)
      refine lv_iload (pc := 86) hx hb d_QC_commitUpTo_86 (lv_at hl 3 rfl) ?_
      refine lv_istore (pc := 88) (lv' := [(6, .int l4), (0, .ref (ad (1, 0, 0))), (1, .ref (ad (4, i1, 0))), (3, .int l3), (4, .int l4), (5, .int l5)]) hx hb d_QC_commitUpTo_88 hl (by decide) rfl (fun ls hl => ?_)
      exact w_QC_commitUpTo_90 i1 a2 h1 hy hA 200 S8 l3 l4 l4 hk hr _ _ _ hW (lv_sub hl [1, 2, 3, 4, 0] rfl)
    · have hk := hk.2 c7
      have hr := (if_neg c7).symm.trans hr
      refine lv_aload_n (pc := 52) hx hb d_QC_commitUpTo_52 rfl (lv_at hl 1 rfl) ?_
      refine z_get (pc := 53) (v := .ref (ad (6, i1, 0))) hF hK.1 hW (tq4 h1) rfl rfl in_Store 1 (by decide) gw_266 rfl rfl d_QC_commitUpTo_53 ?_
      refine lv_iload (pc := 56) hx hb d_QC_commitUpTo_56 (lv_at hl 5 rfl) ?_
      refine lv_iload (pc := 58) hx hb d_QC_commitUpTo_58 (lv_at hl 4 rfl) ?_
      have b9 := hk.1
      have hk := hk.2
      obtain ⟨S10, eS10⟩ : ∃ z : St, z = si S 6 i1 0 (l6.toNatClampNeg) l5 := ⟨_, rfl⟩
      have hk := lt_p eS10 hk
      have hr := lt_e eS10 hr
      refine z_iast (pc := 60) (S' := S10) hF hK.1 hW (tq6 h1) 0 rfl rfl b9 (zs_si eS10 rfl) (zs_sio eS10) d_QC_commitUpTo_60 (fun H locs (hW : Wd D clQ A s.heap (zw X ad TQ (cfQ ad ca) S10) H locs) => ?_)
      refine lv_aload_n (pc := 61) hx hb d_QC_commitUpTo_61 rfl (lv_at hl 0 rfl) ?_
      refine z_get (pc := 62) (v := .ref (ad (19, 0, 0))) hF hK.1 hW tq1 rfl rfl in_QC 1 (by decide) gw_345 rfl rfl d_QC_commitUpTo_62 ?_
      refine lv_iload (pc := 65) hx hb d_QC_commitUpTo_65 (lv_at hl 4 rfl) ?_
      have o11 := hk.1
      have hk := hk.2
      obtain ⟨r12, er12⟩ : ∃ z : Int32, z = f_Blocks_parentOf l5 S10 := ⟨_, rfl⟩
      have hk := lt_p er12 hk
      have hr := lt_e er12 hr
      refine p_go (pc := 67) (congrArg Value.int er12) (p_runV hF hK hW (c_Blocks_parentOf l D X ad ca l5 S10 o11 _) cd_Blocks_parentOf gw_461 tq19 rfl rfl ⟨Nat.le_of_ble_eq_true rfl, Nat.le_of_ble_eq_true rfl⟩ ⟨Nat.zero_le _, Nat.zero_le _⟩ rfl rfl hl.1 (Nat.le_of_ble_eq_true rfl) d_QC_commitUpTo_67) ?_
      refine lv_istore (pc := 70) (lv' := [(5, .int r12), (0, .ref (ad (1, 0, 0))), (1, .ref (ad (4, i1, 0))), (3, .int l3), (4, .int l4), (6, .int l6)]) hx hb d_QC_commitUpTo_70 hl (by decide) rfl (fun ls hl => ?_)
      refine lv_iinc (pc := 72) (v := l6 + (-1 : Int32)) (lv' := [(6, .int (l6 + (-1 : Int32))), (5, .int r12), (0, .ref (ad (1, 0, 0))), (1, .ref (ad (4, i1, 0))), (3, .int l3), (4, .int l4)]) (k := 5) hx hb d_QC_commitUpTo_72 hl rfl (z_inc (by decide)) (by decide) rfl (fun ls hl => ?_)
      refine lv_goto (pc := 75) (tgt := 45) hx hb d_QC_commitUpTo_75 (by decide) ?_
      exact ih S10 l3 l4 r12 (l6 + (-1 : Int32)) hk hr _ _ _ hW (lv_sub hl [2, 3, 4, 5, 1, 0] rfl)
def f_QC_commitUpTo (i1 : Nat) (a2 : Int32) (S : St) : St :=
  lt (f_Store_lastLogged i1 S) fun (r2 : Int32) =>
  lt (f_Blocks_stepsDown a2 r2 S) fun (r4 : Int32) =>
  if r4 = (-1 : Int32) then
    S
  else
    if ((S.1 4 i1 0 5) + r4) ≤ (100 : Int32) then
      f_QC_commitUpTo_45 i1 a2 200 S r4 (S.1 4 i1 0 5) a2 (((S.1 4 i1 0 5) + r4) - (1 : Int32))
    else
      S
def ok_QC_commitUpTo (i1 : Nat) (a2 : Int32) (S : St) : Prop :=
  (ok_Store_lastLogged i1 S) ∧ (
    lt (f_Store_lastLogged i1 S) fun (r2 : Int32) =>
    (ok_Blocks_stepsDown a2 r2 S) ∧ (
      lt (f_Blocks_stepsDown a2 r2 S) fun (r4 : Int32) =>
      (r4 = (-1 : Int32) → (
        True)) ∧ (¬ (r4 = (-1 : Int32)) → (
        (((S.1 4 i1 0 5) + r4) ≤ (100 : Int32) → (
          ok_QC_commitUpTo_45 i1 a2 200 S r4 (S.1 4 i1 0 5) a2 (((S.1 4 i1 0 5) + r4) - (1 : Int32)))) ∧ (¬ (((S.1 4 i1 0 5) + r4) ≤ (100 : Int32)) → (
          True))))))
set_option maxHeartbeats 4000000 in
set_option maxRecDepth 100000 in
theorem c_QC_commitUpTo (l : Launch) (D : va_G) (X : va_W) (ad : N3 → Nat) (ca : Nat → ClassId) (i1 : Nat) (a2 : Int32) (h1 : i1 < 4) (S : St) (hk : ok_QC_commitUpTo i1 a2 S) : cV l GG D clQ (tysQ ca) nwQ X ad TQ (cfQ ad ca) y_QC_commitUpTo b_QC_commitUpTo 7 3 66 [.ref (ad (1, 0, 0)), .ref (ad (4, i1, 0)), .int a2] S (f_QC_commitUpTo i1 a2 S) := by
  generalize hr : f_QC_commitUpTo i1 a2 S = res
  refine zV_of pn_QC (Nat.le_of_ble_eq_true rfl) (fun p e s m below meth c A ls hy hW hA hl => ?_)
  have hF := hy.1
  have hx := hF.1
  have hb := hF.2.1
  have hK := hy.2.2.2
  have hl : lv_has ls 7 [(0, .ref (ad (1, 0, 0))), (1, .ref (ad (4, i1, 0))), (2, .int a2)] := hl
  refine lv_aload_n (pc := 0) hx hb d_QC_commitUpTo_0 rfl (lv_at hl 0 rfl) ?_
  refine z_get (pc := 1) (v := .ref (ad (19, 0, 0))) hF hK.1 hW tq1 rfl rfl in_QC 1 (by decide) gw_345 rfl rfl d_QC_commitUpTo_1 ?_
  refine lv_iload_n (pc := 4) hx hb d_QC_commitUpTo_4 rfl (lv_at hl 2 rfl) ?_
  refine lv_aload_n (pc := 5) hx hb d_QC_commitUpTo_5 rfl (lv_at hl 1 rfl) ?_
  have o1 := hk.1
  have hk := hk.2
  obtain ⟨r2, er2⟩ : ∃ z : Int32, z = f_Store_lastLogged i1 S := ⟨_, rfl⟩
  have hk := lt_p er2 hk
  have hr := lt_e er2 hr
  refine p_go (pc := 6) (congrArg Value.int er2) (p_runV hF hK hW (c_Store_lastLogged l D X ad ca i1 h1 S o1 _) cd_Store_lastLogged gw_707 (tq4 h1) rfl rfl ⟨Nat.le_of_ble_eq_true rfl, Nat.le_of_ble_eq_true rfl⟩ ⟨Nat.zero_le _, Nat.zero_le _⟩ rfl rfl hl.1 (Nat.le_of_ble_eq_true rfl) d_QC_commitUpTo_6) ?_
  have o3 := hk.1
  have hk := hk.2
  obtain ⟨r4, er4⟩ : ∃ z : Int32, z = f_Blocks_stepsDown a2 r2 S := ⟨_, rfl⟩
  have hk := lt_p er4 hk
  have hr := lt_e er4 hr
  refine p_go (pc := 9) (congrArg Value.int er4) (p_runV hF hK hW (c_Blocks_stepsDown l D X ad ca a2 r2 S o3 _) cd_Blocks_stepsDown gw_712 tq19 rfl rfl ⟨Nat.le_of_ble_eq_true rfl, Nat.le_of_ble_eq_true rfl⟩ ⟨Nat.zero_le _, Nat.zero_le _⟩ rfl rfl hl.1 (Nat.le_of_ble_eq_true rfl) d_QC_commitUpTo_9) ?_
  refine lv_istore_n (pc := 12) (lv' := [(3, .int r4), (0, .ref (ad (1, 0, 0))), (1, .ref (ad (4, i1, 0))), (2, .int a2)]) hx hb d_QC_commitUpTo_12 rfl hl (by decide) rfl (fun ls hl => ?_)
  refine lv_aload_n (pc := 13) hx hb d_QC_commitUpTo_13 rfl (lv_at hl 2 rfl) ?_
  refine z_get (pc := 14) (v := .int (S.1 4 i1 0 5)) hF hK.1 hW (tq4 h1) rfl rfl in_Store 5 (by decide) gw_274 rfl rfl d_QC_commitUpTo_14 ?_
  refine lv_istore (pc := 17) (lv' := [(4, .int (S.1 4 i1 0 5)), (3, .int r4), (0, .ref (ad (1, 0, 0))), (1, .ref (ad (4, i1, 0))), (2, .int a2)]) hx hb d_QC_commitUpTo_17 hl (by decide) rfl (fun ls hl => ?_)
  refine lv_iload_n (pc := 19) hx hb d_QC_commitUpTo_19 rfl (lv_at hl 1 rfl) ?_
  refine lv_iconst (pc := 20) (v := -1) hx hb d_QC_commitUpTo_20 (by decide) ?_
  refine lv_icmp_eq (pc := 21) (tgt := 33) hx hb d_QC_commitUpTo_21 (by decide) (fun c5 => ?_) (fun c5 => ?_)
  · have hk := hk.1 c5
    have hr := (if_pos c5).symm.trans hr
    exact z_vret hy hW hr.symm d_QC_commitUpTo_33
  · have hk := hk.2 c5
    have hr := (if_neg c5).symm.trans hr
    refine lv_iload (pc := 24) hx hb d_QC_commitUpTo_24 (lv_at hl 0 rfl) ?_
    refine lv_iload_n (pc := 26) hx hb d_QC_commitUpTo_26 rfl (lv_at hl 1 rfl) ?_
    refine lv_iadd (pc := 27) hx hb d_QC_commitUpTo_27 ?_
    refine lv_bipush (pc := 28) (v := 100) hx hb d_QC_commitUpTo_28 (by decide) ?_
    refine lv_icmp_le (pc := 30) (tgt := 34) hx hb d_QC_commitUpTo_30 (by decide) (fun c6 => ?_) (fun c6 => ?_)
    · have hk := hk.1 c6
      have hr := (if_pos c6).symm.trans hr
      refine lv_iload_n (pc := 34) hx hb d_QC_commitUpTo_34 rfl (lv_at hl 4 rfl) ?_
      refine lv_istore (pc := 35) (lv' := [(5, .int a2), (4, .int (S.1 4 i1 0 5)), (3, .int r4), (0, .ref (ad (1, 0, 0))), (1, .ref (ad (4, i1, 0))), (2, .int a2)]) hx hb d_QC_commitUpTo_35 hl (by decide) rfl (fun ls hl => ?_)
      refine lv_iload (pc := 37) hx hb d_QC_commitUpTo_37 (lv_at hl 1 rfl) ?_
      refine lv_iload_n (pc := 39) hx hb d_QC_commitUpTo_39 rfl (lv_at hl 2 rfl) ?_
      refine lv_iadd (pc := 40) hx hb d_QC_commitUpTo_40 ?_
      refine lv_iconst (pc := 41) (v := 1) hx hb d_QC_commitUpTo_41 (by decide) ?_
      refine lv_isub (pc := 42) hx hb d_QC_commitUpTo_42 ?_
      refine lv_istore (pc := 43) (lv' := [(6, .int (((S.1 4 i1 0 5) + r4) - (1 : Int32))), (5, .int a2), (4, .int (S.1 4 i1 0 5)), (3, .int r4), (0, .ref (ad (1, 0, 0))), (1, .ref (ad (4, i1, 0))), (2, .int a2)]) hx hb d_QC_commitUpTo_43 hl (by decide) rfl (fun ls hl => ?_)
      exact w_QC_commitUpTo_45 i1 a2 h1 hy hA 200 S r4 (S.1 4 i1 0 5) a2 (((S.1 4 i1 0 5) + r4) - (1 : Int32)) hk hr _ _ _ hW (lv_sub hl [4, 5, 3, 2, 1, 0] rfl)
    · have hk := hk.2 c6
      have hr := (if_neg c6).symm.trans hr
      exact z_vret hy hW hr.symm d_QC_commitUpTo_33
theorem d_QC_takeAsCertified_0 : decode b_QC_takeAsCertified 0 = .ok (.aload_n 0, 1) := by decide +kernel
theorem d_QC_takeAsCertified_1 : decode b_QC_takeAsCertified 1 = .ok (.aload_n 1, 1) := by decide +kernel
theorem d_QC_takeAsCertified_2 : decode b_QC_takeAsCertified 2 = .ok (.iload_n 2, 1) := by decide +kernel
theorem d_QC_takeAsCertified_3 : decode b_QC_takeAsCertified 3 = .ok (.invokevirtual 323, 3) := by decide +kernel
theorem d_QC_takeAsCertified_6 : decode b_QC_takeAsCertified 6 = .ok (.aload_n 0, 1) := by decide +kernel
theorem d_QC_takeAsCertified_7 : decode b_QC_takeAsCertified 7 = .ok (.getfield 18, 3) := by decide +kernel
theorem d_QC_takeAsCertified_10 : decode b_QC_takeAsCertified 10 = .ok (.iload_n 2, 1) := by decide +kernel
theorem d_QC_takeAsCertified_11 : decode b_QC_takeAsCertified 11 = .ok (.invokevirtual 285, 3) := by decide +kernel
theorem d_QC_takeAsCertified_14 : decode b_QC_takeAsCertified 14 = .ok (.istore_n 3, 1) := by decide +kernel
theorem d_QC_takeAsCertified_15 : decode b_QC_takeAsCertified 15 = .ok (.iload_n 3, 1) := by decide +kernel
theorem d_QC_takeAsCertified_16 : decode b_QC_takeAsCertified 16 = .ok (.iconst (-1), 1) := by decide +kernel
theorem d_QC_takeAsCertified_17 : decode b_QC_takeAsCertified 17 = .ok (.if_icmp .ne 4, 3) := by decide +kernel
theorem d_QC_takeAsCertified_20 : decode b_QC_takeAsCertified 20 = .ok (.return_, 1) := by decide +kernel
theorem d_QC_takeAsCertified_21 : decode b_QC_takeAsCertified 21 = .ok (.aload_n 0, 1) := by decide +kernel
theorem d_QC_takeAsCertified_22 : decode b_QC_takeAsCertified 22 = .ok (.getfield 18, 3) := by decide +kernel
theorem d_QC_takeAsCertified_25 : decode b_QC_takeAsCertified 25 = .ok (.iload_n 3, 1) := by decide +kernel
theorem d_QC_takeAsCertified_26 : decode b_QC_takeAsCertified 26 = .ok (.aload_n 1, 1) := by decide +kernel
theorem d_QC_takeAsCertified_27 : decode b_QC_takeAsCertified 27 = .ok (.getfield 179, 3) := by decide +kernel
theorem d_QC_takeAsCertified_30 : decode b_QC_takeAsCertified 30 = .ok (.getfield 254, 3) := by decide +kernel
theorem d_QC_takeAsCertified_33 : decode b_QC_takeAsCertified 33 = .ok (.invokevirtual 302, 3) := by decide +kernel
theorem d_QC_takeAsCertified_36 : decode b_QC_takeAsCertified 36 = .ok (.ifCond .eq 11, 3) := by decide +kernel
theorem d_QC_takeAsCertified_39 : decode b_QC_takeAsCertified 39 = .ok (.aload_n 1, 1) := by decide +kernel
theorem d_QC_takeAsCertified_40 : decode b_QC_takeAsCertified 40 = .ok (.getfield 179, 3) := by decide +kernel
theorem d_QC_takeAsCertified_43 : decode b_QC_takeAsCertified 43 = .ok (.iload_n 3, 1) := by decide +kernel
theorem d_QC_takeAsCertified_44 : decode b_QC_takeAsCertified 44 = .ok (.putfield 254, 3) := by decide +kernel
theorem d_QC_takeAsCertified_47 : decode b_QC_takeAsCertified 47 = .ok (.aload_n 0, 1) := by decide +kernel
theorem d_QC_takeAsCertified_48 : decode b_QC_takeAsCertified 48 = .ok (.getfield 18, 3) := by decide +kernel
theorem d_QC_takeAsCertified_51 : decode b_QC_takeAsCertified 51 = .ok (.iload_n 3, 1) := by decide +kernel
theorem d_QC_takeAsCertified_52 : decode b_QC_takeAsCertified 52 = .ok (.invokevirtual 285, 3) := by decide +kernel
theorem d_QC_takeAsCertified_55 : decode b_QC_takeAsCertified 55 = .ok (.istore 4, 2) := by decide +kernel
theorem d_QC_takeAsCertified_57 : decode b_QC_takeAsCertified 57 = .ok (.iload 4, 2) := by decide +kernel
theorem d_QC_takeAsCertified_59 : decode b_QC_takeAsCertified 59 = .ok (.iconst (-1), 1) := by decide +kernel
theorem d_QC_takeAsCertified_60 : decode b_QC_takeAsCertified 60 = .ok (.if_icmp .eq 38, 3) := by decide +kernel
theorem d_QC_takeAsCertified_63 : decode b_QC_takeAsCertified 63 = .ok (.aload_n 0, 1) := by decide +kernel
theorem d_QC_takeAsCertified_64 : decode b_QC_takeAsCertified 64 = .ok (.getfield 18, 3) := by decide +kernel
theorem d_QC_takeAsCertified_67 : decode b_QC_takeAsCertified 67 = .ok (.iload_n 2, 1) := by decide +kernel
theorem d_QC_takeAsCertified_68 : decode b_QC_takeAsCertified 68 = .ok (.iload_n 3, 1) := by decide +kernel
theorem d_QC_takeAsCertified_69 : decode b_QC_takeAsCertified 69 = .ok (.invokevirtual 326, 3) := by decide +kernel
theorem d_QC_takeAsCertified_72 : decode b_QC_takeAsCertified 72 = .ok (.ifCond .eq 26, 3) := by decide +kernel
theorem d_QC_takeAsCertified_75 : decode b_QC_takeAsCertified 75 = .ok (.aload_n 0, 1) := by decide +kernel
theorem d_QC_takeAsCertified_76 : decode b_QC_takeAsCertified 76 = .ok (.getfield 18, 3) := by decide +kernel
theorem d_QC_takeAsCertified_79 : decode b_QC_takeAsCertified 79 = .ok (.iload_n 3, 1) := by decide +kernel
theorem d_QC_takeAsCertified_80 : decode b_QC_takeAsCertified 80 = .ok (.iload 4, 2) := by decide +kernel
theorem d_QC_takeAsCertified_82 : decode b_QC_takeAsCertified 82 = .ok (.invokevirtual 326, 3) := by decide +kernel
theorem d_QC_takeAsCertified_85 : decode b_QC_takeAsCertified 85 = .ok (.ifCond .eq 13, 3) := by decide +kernel
theorem d_QC_takeAsCertified_88 : decode b_QC_takeAsCertified 88 = .ok (.aload_n 0, 1) := by decide +kernel
theorem d_QC_takeAsCertified_89 : decode b_QC_takeAsCertified 89 = .ok (.aload_n 1, 1) := by decide +kernel
theorem d_QC_takeAsCertified_90 : decode b_QC_takeAsCertified 90 = .ok (.getfield 179, 3) := by decide +kernel
theorem d_QC_takeAsCertified_93 : decode b_QC_takeAsCertified 93 = .ok (.iload 4, 2) := by decide +kernel
theorem d_QC_takeAsCertified_95 : decode b_QC_takeAsCertified 95 = .ok (.invokevirtual 329, 3) := by decide +kernel
theorem d_QC_takeAsCertified_98 : decode b_QC_takeAsCertified 98 = .ok (.return_, 1) := by decide +kernel
def f_QC_takeAsCertified_47 (i1 : Nat) (a2 : Int32) (S : St) (l3 : Int32) : St :=
  lt (f_Blocks_parentOf l3 S) fun (r12 : Int32) =>
  if r12 = (-1 : Int32) then
    S
  else
    lt (f_Blocks_isNextView a2 l3 S) fun (r15 : Int32) =>
    if r15 = 0 then
      S
    else
      lt (f_Blocks_isNextView l3 r12 S) fun (r18 : Int32) =>
      if r18 = 0 then
        S
      else
        lt (f_QC_commitUpTo i1 r12 S) fun (S22 : St) =>
        S22
def ok_QC_takeAsCertified_47 (i1 : Nat) (a2 : Int32) (S : St) (l3 : Int32) : Prop :=
  (ok_Blocks_parentOf l3 S) ∧ (
    lt (f_Blocks_parentOf l3 S) fun (r12 : Int32) =>
    (r12 = (-1 : Int32) → (
      True)) ∧ (¬ (r12 = (-1 : Int32)) → (
      (ok_Blocks_isNextView a2 l3 S) ∧ (
        lt (f_Blocks_isNextView a2 l3 S) fun (r15 : Int32) =>
        (r15 = 0 → (
          True)) ∧ (¬ (r15 = 0) → (
          (ok_Blocks_isNextView l3 r12 S) ∧ (
            lt (f_Blocks_isNextView l3 r12 S) fun (r18 : Int32) =>
            (r18 = 0 → (
              True)) ∧ (¬ (r18 = 0) → (
              (ok_QC_commitUpTo i1 r12 S) ∧ (
                True))))))))))
set_option maxHeartbeats 4000000 in
set_option maxRecDepth 100000 in
theorem w_QC_takeAsCertified_47 {l : Launch} {D : va_G} {X : va_W} {ad : N3 → Nat} {ca : Nat → ClassId} (i1 : Nat) (a2 : Int32) (h1 : i1 < 4) {p : Program} {e : Env} {s : State} {m : MethodId} {below : List Frame} {meth : Method} {c : Code} {A : Nat → Prop} (hy : Hy p s m ([.ref (ad (1, 0, 0)), .ref (ad (3, i1, 0)), .int a2] : List Value).toArray meth c b_QC_takeAsCertified 5 none R_QC GG D clQ (tysQ ca) nwQ) (hA : ∀ q, s.heap.size ≤ q → A q) {res : St} : ∀  (S : St) (l3 : Int32) , ok_QC_takeAsCertified_47 i1 a2 S l3 → f_QC_takeAsCertified_47 i1 a2 S l3 = res → ∀ (H : Heap) (locs : List Loc) (ls : Array Slot), Wd D clQ A s.heap (zw X ad TQ (cfQ ad ca) S) H locs → lv_has ls 5 [(0, .ref (ad (1, 0, 0))), (1, .ref (ad (3, i1, 0))), (2, .int a2), (3, .int l3)] → W p l e { frames := 4, cells := 0, slots := 0, locals := 92 } s m ([.ref (ad (1, 0, 0)), .ref (ad (3, i1, 0)), .int a2] : List Value).toArray below meth c H locs 0 0 (MQ below (eV D clQ X ad TQ (cfQ ad ca) A res) ([.ref (ad (1, 0, 0)), .ref (ad (3, i1, 0)), .int a2] : List Value).toArray s 0 0 A) (F0 m 47 ls []) := by
  have hF := hy.1
  have hx := hF.1
  have hb := hF.2.1
  have hK := hy.2.2.2
  intro S l3 hk hr H locs ls hW hl
  refine lv_aload_n (pc := 47) hx hb d_QC_takeAsCertified_47 rfl (lv_at hl 0 rfl) ?_
  refine z_get (pc := 48) (v := .ref (ad (19, 0, 0))) hF hK.1 hW tq1 rfl rfl in_QC 1 (by decide) gw_345 rfl rfl d_QC_takeAsCertified_48 ?_
  refine lv_iload_n (pc := 51) hx hb d_QC_takeAsCertified_51 rfl (lv_at hl 3 rfl) ?_
  have o11 := hk.1
  have hk := hk.2
  obtain ⟨r12, er12⟩ : ∃ z : Int32, z = f_Blocks_parentOf l3 S := ⟨_, rfl⟩
  have hk := lt_p er12 hk
  have hr := lt_e er12 hr
  refine p_go (pc := 52) (congrArg Value.int er12) (p_runV hF hK hW (c_Blocks_parentOf l D X ad ca l3 S o11 _) cd_Blocks_parentOf gw_461 tq19 rfl rfl ⟨Nat.le_of_ble_eq_true rfl, Nat.le_of_ble_eq_true rfl⟩ ⟨Nat.zero_le _, Nat.zero_le _⟩ rfl rfl hl.1 (Nat.le_of_ble_eq_true rfl) d_QC_takeAsCertified_52) ?_
  refine lv_istore (pc := 55) (lv' := [(4, .int r12), (0, .ref (ad (1, 0, 0))), (1, .ref (ad (3, i1, 0))), (2, .int a2), (3, .int l3)]) hx hb d_QC_takeAsCertified_55 hl (by decide) rfl (fun ls hl => ?_)
  refine lv_iload (pc := 57) hx hb d_QC_takeAsCertified_57 (lv_at hl 0 rfl) ?_
  refine lv_iconst (pc := 59) (v := -1) hx hb d_QC_takeAsCertified_59 (by decide) ?_
  refine lv_icmp_eq (pc := 60) (tgt := 98) hx hb d_QC_takeAsCertified_60 (by decide) (fun c13 => ?_) (fun c13 => ?_)
  · have hk := hk.1 c13
    have hr := (if_pos c13).symm.trans hr
    exact z_vret hy hW hr.symm d_QC_takeAsCertified_98
  · have hk := hk.2 c13
    have hr := (if_neg c13).symm.trans hr
    refine lv_aload_n (pc := 63) hx hb d_QC_takeAsCertified_63 rfl (lv_at hl 1 rfl) ?_
    refine z_get (pc := 64) (v := .ref (ad (19, 0, 0))) hF hK.1 hW tq1 rfl rfl in_QC 1 (by decide) gw_345 rfl rfl d_QC_takeAsCertified_64 ?_
    refine lv_iload_n (pc := 67) hx hb d_QC_takeAsCertified_67 rfl (lv_at hl 3 rfl) ?_
    refine lv_iload_n (pc := 68) hx hb d_QC_takeAsCertified_68 rfl (lv_at hl 4 rfl) ?_
    have o14 := hk.1
    have hk := hk.2
    obtain ⟨r15, er15⟩ : ∃ z : Int32, z = f_Blocks_isNextView a2 l3 S := ⟨_, rfl⟩
    have hk := lt_p er15 hk
    have hr := lt_e er15 hr
    refine p_go (pc := 69) (congrArg Value.int er15) (p_runV hF hK hW (c_Blocks_isNextView l D X ad ca a2 l3 S o14 _) cd_Blocks_isNextView gw_699 tq19 rfl rfl ⟨Nat.le_of_ble_eq_true rfl, Nat.le_of_ble_eq_true rfl⟩ ⟨Nat.zero_le _, Nat.zero_le _⟩ rfl rfl hl.1 (Nat.le_of_ble_eq_true rfl) d_QC_takeAsCertified_69) ?_
    refine lv_if_eq (pc := 72) (tgt := 98) hx hb d_QC_takeAsCertified_72 (by decide) (fun c16 => ?_) (fun c16 => ?_)
    · have hk := hk.1 c16
      have hr := (if_pos c16).symm.trans hr
      exact z_vret hy hW hr.symm d_QC_takeAsCertified_98
    · have hk := hk.2 c16
      have hr := (if_neg c16).symm.trans hr
      refine lv_aload_n (pc := 75) hx hb d_QC_takeAsCertified_75 rfl (lv_at hl 1 rfl) ?_
      refine z_get (pc := 76) (v := .ref (ad (19, 0, 0))) hF hK.1 hW tq1 rfl rfl in_QC 1 (by decide) gw_345 rfl rfl d_QC_takeAsCertified_76 ?_
      refine lv_iload_n (pc := 79) hx hb d_QC_takeAsCertified_79 rfl (lv_at hl 4 rfl) ?_
      refine lv_iload (pc := 80) hx hb d_QC_takeAsCertified_80 (lv_at hl 0 rfl) ?_
      have o17 := hk.1
      have hk := hk.2
      obtain ⟨r18, er18⟩ : ∃ z : Int32, z = f_Blocks_isNextView l3 r12 S := ⟨_, rfl⟩
      have hk := lt_p er18 hk
      have hr := lt_e er18 hr
      refine p_go (pc := 82) (congrArg Value.int er18) (p_runV hF hK hW (c_Blocks_isNextView l D X ad ca l3 r12 S o17 _) cd_Blocks_isNextView gw_699 tq19 rfl rfl ⟨Nat.le_of_ble_eq_true rfl, Nat.le_of_ble_eq_true rfl⟩ ⟨Nat.zero_le _, Nat.zero_le _⟩ rfl rfl hl.1 (Nat.le_of_ble_eq_true rfl) d_QC_takeAsCertified_82) ?_
      refine lv_if_eq (pc := 85) (tgt := 98) hx hb d_QC_takeAsCertified_85 (by decide) (fun c19 => ?_) (fun c19 => ?_)
      · have hk := hk.1 c19
        have hr := (if_pos c19).symm.trans hr
        exact z_vret hy hW hr.symm d_QC_takeAsCertified_98
      · have hk := hk.2 c19
        have hr := (if_neg c19).symm.trans hr
        refine lv_aload_n (pc := 88) hx hb d_QC_takeAsCertified_88 rfl (lv_at hl 1 rfl) ?_
        refine lv_aload_n (pc := 89) hx hb d_QC_takeAsCertified_89 rfl (lv_at hl 2 rfl) ?_
        refine z_get (pc := 90) (v := .ref (ad (4, i1, 0))) hF hK.1 hW (tq3 h1) rfl rfl in_Node 1 (by decide) gw_298 rfl rfl d_QC_takeAsCertified_90 ?_
        refine lv_iload (pc := 93) hx hb d_QC_takeAsCertified_93 (lv_at hl 0 rfl) ?_
        have o20 := hk.1
        have hk := hk.2
        obtain ⟨S22, eS22⟩ : ∃ z : St, z = f_QC_commitUpTo i1 r12 S := ⟨_, rfl⟩
        have hr := lt_e eS22 hr
        refine z_goV (pc := 95) hW hA eS22 (z_runV hF hK hW (c_QC_commitUpTo l D X ad ca i1 r12 h1 S o20 _) cd_QC_commitUpTo gw_703 tq1 rfl rfl ⟨Nat.le_of_ble_eq_true rfl, Nat.le_of_ble_eq_true rfl⟩ ⟨Nat.zero_le _, Nat.zero_le _⟩ rfl rfl hl.1 (Nat.le_of_ble_eq_true rfl) d_QC_takeAsCertified_95) (fun H locs (hW : Wd D clQ A s.heap (zw X ad TQ (cfQ ad ca) S22) H locs) => ?_)
        exact z_vret hy hW hr.symm d_QC_takeAsCertified_98
def f_QC_takeAsCertified (i1 : Nat) (a2 : Int32) (S : St) : St :=
  lt (f_QC_raiseHigh i1 a2 S) fun (S3 : St) =>
  lt (f_Blocks_parentOf a2 S3) fun (r5 : Int32) =>
  if r5 = (-1 : Int32) then
    S3
  else
    lt (f_Blocks_isAbove r5 (S3.1 4 i1 0 7) S3) fun (r8 : Int32) =>
    if r8 = 0 then
      f_QC_takeAsCertified_47 i1 a2 S3 r5
    else
      lt (si S3 4 i1 0 7 r5) fun (S10 : St) =>
      f_QC_takeAsCertified_47 i1 a2 S10 r5
def ok_QC_takeAsCertified (i1 : Nat) (a2 : Int32) (S : St) : Prop :=
  (ok_QC_raiseHigh i1 a2 S) ∧ (
    lt (f_QC_raiseHigh i1 a2 S) fun (S3 : St) =>
    (ok_Blocks_parentOf a2 S3) ∧ (
      lt (f_Blocks_parentOf a2 S3) fun (r5 : Int32) =>
      (r5 = (-1 : Int32) → (
        True)) ∧ (¬ (r5 = (-1 : Int32)) → (
        (ok_Blocks_isAbove r5 (S3.1 4 i1 0 7) S3) ∧ (
          lt (f_Blocks_isAbove r5 (S3.1 4 i1 0 7) S3) fun (r8 : Int32) =>
          (r8 = 0 → (
            ok_QC_takeAsCertified_47 i1 a2 S3 r5)) ∧ (¬ (r8 = 0) → (
            lt (si S3 4 i1 0 7 r5) fun (S10 : St) =>
            ok_QC_takeAsCertified_47 i1 a2 S10 r5)))))))
set_option maxHeartbeats 4000000 in
set_option maxRecDepth 100000 in
theorem c_QC_takeAsCertified (l : Launch) (D : va_G) (X : va_W) (ad : N3 → Nat) (ca : Nat → ClassId) (i1 : Nat) (a2 : Int32) (h1 : i1 < 4) (S : St) (hk : ok_QC_takeAsCertified i1 a2 S) : cV l GG D clQ (tysQ ca) nwQ X ad TQ (cfQ ad ca) y_QC_takeAsCertified b_QC_takeAsCertified 5 4 92 [.ref (ad (1, 0, 0)), .ref (ad (3, i1, 0)), .int a2] S (f_QC_takeAsCertified i1 a2 S) := by
  generalize hr : f_QC_takeAsCertified i1 a2 S = res
  refine zV_of pn_QC (Nat.le_of_ble_eq_true rfl) (fun p e s m below meth c A ls hy hW hA hl => ?_)
  have hF := hy.1
  have hx := hF.1
  have hb := hF.2.1
  have hK := hy.2.2.2
  have hl : lv_has ls 5 [(0, .ref (ad (1, 0, 0))), (1, .ref (ad (3, i1, 0))), (2, .int a2)] := hl
  refine lv_aload_n (pc := 0) hx hb d_QC_takeAsCertified_0 rfl (lv_at hl 0 rfl) ?_
  refine lv_aload_n (pc := 1) hx hb d_QC_takeAsCertified_1 rfl (lv_at hl 1 rfl) ?_
  refine lv_iload_n (pc := 2) hx hb d_QC_takeAsCertified_2 rfl (lv_at hl 2 rfl) ?_
  have o1 := hk.1
  have hk := hk.2
  obtain ⟨S3, eS3⟩ : ∃ z : St, z = f_QC_raiseHigh i1 a2 S := ⟨_, rfl⟩
  have hk := lt_p eS3 hk
  have hr := lt_e eS3 hr
  refine z_goV (pc := 3) hW hA eS3 (z_runV hF hK hW (c_QC_raiseHigh l D X ad ca i1 a2 h1 S o1 _) cd_QC_raiseHigh gw_690 tq1 rfl rfl ⟨Nat.le_of_ble_eq_true rfl, Nat.le_of_ble_eq_true rfl⟩ ⟨Nat.zero_le _, Nat.zero_le _⟩ rfl rfl hl.1 (Nat.le_of_ble_eq_true rfl) d_QC_takeAsCertified_3) (fun H locs (hW : Wd D clQ A s.heap (zw X ad TQ (cfQ ad ca) S3) H locs) => ?_)
  refine lv_aload_n (pc := 6) hx hb d_QC_takeAsCertified_6 rfl (lv_at hl 0 rfl) ?_
  refine z_get (pc := 7) (v := .ref (ad (19, 0, 0))) hF hK.1 hW tq1 rfl rfl in_QC 1 (by decide) gw_345 rfl rfl d_QC_takeAsCertified_7 ?_
  refine lv_iload_n (pc := 10) hx hb d_QC_takeAsCertified_10 rfl (lv_at hl 2 rfl) ?_
  have o4 := hk.1
  have hk := hk.2
  obtain ⟨r5, er5⟩ : ∃ z : Int32, z = f_Blocks_parentOf a2 S3 := ⟨_, rfl⟩
  have hk := lt_p er5 hk
  have hr := lt_e er5 hr
  refine p_go (pc := 11) (congrArg Value.int er5) (p_runV hF hK hW (c_Blocks_parentOf l D X ad ca a2 S3 o4 _) cd_Blocks_parentOf gw_461 tq19 rfl rfl ⟨Nat.le_of_ble_eq_true rfl, Nat.le_of_ble_eq_true rfl⟩ ⟨Nat.zero_le _, Nat.zero_le _⟩ rfl rfl hl.1 (Nat.le_of_ble_eq_true rfl) d_QC_takeAsCertified_11) ?_
  refine lv_istore_n (pc := 14) (lv' := [(3, .int r5), (0, .ref (ad (1, 0, 0))), (1, .ref (ad (3, i1, 0))), (2, .int a2)]) hx hb d_QC_takeAsCertified_14 rfl hl (by decide) rfl (fun ls hl => ?_)
  refine lv_iload_n (pc := 15) hx hb d_QC_takeAsCertified_15 rfl (lv_at hl 0 rfl) ?_
  refine lv_iconst (pc := 16) (v := -1) hx hb d_QC_takeAsCertified_16 (by decide) ?_
  refine lv_icmp_ne (pc := 17) (tgt := 21) hx hb d_QC_takeAsCertified_17 (by decide) (fun c6 => ?_) (fun c6 => ?_)
  · have hk := hk.2 c6
    have hr := (if_neg c6).symm.trans hr
    refine lv_aload_n (pc := 21) hx hb d_QC_takeAsCertified_21 rfl (lv_at hl 1 rfl) ?_
    refine z_get (pc := 22) (v := .ref (ad (19, 0, 0))) hF hK.1 hW tq1 rfl rfl in_QC 1 (by decide) gw_345 rfl rfl d_QC_takeAsCertified_22 ?_
    refine lv_iload_n (pc := 25) hx hb d_QC_takeAsCertified_25 rfl (lv_at hl 0 rfl) ?_
    refine lv_aload_n (pc := 26) hx hb d_QC_takeAsCertified_26 rfl (lv_at hl 2 rfl) ?_
    refine z_get (pc := 27) (v := .ref (ad (4, i1, 0))) hF hK.1 hW (tq3 h1) rfl rfl in_Node 1 (by decide) gw_298 rfl rfl d_QC_takeAsCertified_27 ?_
    refine z_get (pc := 30) (v := .int (S3.1 4 i1 0 7)) hF hK.1 hW (tq4 h1) rfl rfl in_Store 7 (by decide) gw_277 rfl rfl d_QC_takeAsCertified_30 ?_
    have o7 := hk.1
    have hk := hk.2
    obtain ⟨r8, er8⟩ : ∃ z : Int32, z = f_Blocks_isAbove r5 (S3.1 4 i1 0 7) S3 := ⟨_, rfl⟩
    have hk := lt_p er8 hk
    have hr := lt_e er8 hr
    refine p_go (pc := 33) (congrArg Value.int er8) (p_runV hF hK hW (c_Blocks_isAbove l D X ad ca r5 (S3.1 4 i1 0 7) S3 o7 _) cd_Blocks_isAbove gw_694 tq19 rfl rfl ⟨Nat.le_of_ble_eq_true rfl, Nat.le_of_ble_eq_true rfl⟩ ⟨Nat.zero_le _, Nat.zero_le _⟩ rfl rfl hl.1 (Nat.le_of_ble_eq_true rfl) d_QC_takeAsCertified_33) ?_
    refine lv_if_eq (pc := 36) (tgt := 47) hx hb d_QC_takeAsCertified_36 (by decide) (fun c9 => ?_) (fun c9 => ?_)
    · have hk := hk.1 c9
      have hr := (if_pos c9).symm.trans hr
      exact w_QC_takeAsCertified_47 i1 a2 h1 hy hA S3 r5 hk hr _ _ _ hW (lv_sub hl [1, 2, 3, 0] rfl)
    · have hk := hk.2 c9
      have hr := (if_neg c9).symm.trans hr
      refine lv_aload_n (pc := 39) hx hb d_QC_takeAsCertified_39 rfl (lv_at hl 2 rfl) ?_
      refine z_get (pc := 40) (v := .ref (ad (4, i1, 0))) hF hK.1 hW (tq3 h1) rfl rfl in_Node 1 (by decide) gw_298 rfl rfl d_QC_takeAsCertified_40 ?_
      refine lv_iload_n (pc := 43) hx hb d_QC_takeAsCertified_43 rfl (lv_at hl 0 rfl) ?_
      obtain ⟨S10, eS10⟩ : ∃ z : St, z = si S3 4 i1 0 7 r5 := ⟨_, rfl⟩
      have hk := lt_p eS10 hk
      have hr := lt_e eS10 hr
      refine z_put (pc := 44) (S' := S10) hF hK.1 hW (tq4 h1) rfl rfl in_Store t_Store tyo_Store nmo_Store 7 (by decide) gw_277 rfl rfl rfl rfl rfl (Nat.le_of_ble_eq_true rfl) (zs_si eS10 rfl) (zs_sio eS10) d_QC_takeAsCertified_44 (fun H locs (hW : Wd D clQ A s.heap (zw X ad TQ (cfQ ad ca) S10) H locs) => ?_)
      exact w_QC_takeAsCertified_47 i1 a2 h1 hy hA S10 r5 hk hr _ _ _ hW (lv_sub hl [1, 2, 3, 0] rfl)
  · have hk := hk.1 c6
    have hr := (if_pos c6).symm.trans hr
    exact z_vret hy hW hr.symm d_QC_takeAsCertified_20
