theorem d_Fold_pair_0 : decode b_Fold_pair 0 = .ok (.ldc2_w 13, 3) := by decide +kernel
theorem d_Fold_pair_3 : decode b_Fold_pair 3 = .ok (.lload_n 0, 1) := by decide +kernel
theorem d_Fold_pair_4 : decode b_Fold_pair 4 = .ok (.invokestatic 15, 3) := by decide +kernel
theorem d_Fold_pair_7 : decode b_Fold_pair 7 = .ok (.lload_n 2, 1) := by decide +kernel
theorem d_Fold_pair_8 : decode b_Fold_pair 8 = .ok (.invokestatic 15, 3) := by decide +kernel
theorem d_Fold_pair_11 : decode b_Fold_pair 11 = .ok (.invokestatic 19, 3) := by decide +kernel
theorem d_Fold_pair_14 : decode b_Fold_pair 14 = .ok (.lreturn, 1) := by decide +kernel
def f_Fold_pair (a0 : Int64) (a2 : Int64) (S : St) : Int64 :=
  lt (f_Fold_absorb (-7046029254386353131 : Int64) a0 S) fun (r1 : Int64) =>
  lt (f_Fold_absorb r1 a2 S) fun (r2 : Int64) =>
  lt (f_Fold_finish r2 S) fun (r3 : Int64) =>
  r3
set_option maxHeartbeats 4000000 in
set_option maxRecDepth 100000 in
theorem c_Fold_pair (l : Launch) (D : va_G) (X : va_W) (ad : N3 → Nat) (ca : Nat → ClassId) (a0 : Int64) (a2 : Int64)  (S : St) : cL l GG D clQ (tysQ ca) nwQ X ad TQ (cfQ ad ca) y_Fold_pair b_Fold_pair 4 .long 1 25 [.long a0, .long a2] S ((f_Fold_pair a0 a2 S), S) := by
  generalize hr : f_Fold_pair a0 a2 S = res
  refine zL_of pn_Fold (Nat.le_of_ble_eq_true rfl) (fun p e s m below meth c A ls hy hW hA hl => ?_)
  have hF := hy.1
  have hx := hF.1
  have hb := hF.2.1
  have hK := hy.2.2.2
  have hl : lv_has ls 4 [(0, .long a0), (2, .long a2)] := hl
  refine lv_ldc2 (pc := 0) hx hb hF.2.2.2.1 (hF.2.2.2.2 _ gw_243) d_Fold_pair_0 ?_
  refine lv_lload_n (pc := 3) hx hb d_Fold_pair_3 rfl (lv_at hl 0 rfl) ?_
  obtain ⟨r1, er1⟩ : ∃ z : Int64, z = f_Fold_absorb (-7046029254386353131 : Int64) a0 S := ⟨_, rfl⟩
  have hr := lt_e er1 hr
  refine z_goL (pc := 4) hW hA (congrArg (fun q => (q, S)) er1) (z_runS hF hK hW (c_Fold_absorb l D X ad ca (-7046029254386353131 : Int64) a0 S _) cd_Fold_absorb gw_244 ⟨Nat.le_of_ble_eq_true rfl, Nat.le_of_ble_eq_true rfl⟩ ⟨Nat.zero_le _, Nat.zero_le _⟩ rfl rfl hl.1 (Nat.le_of_ble_eq_true rfl) d_Fold_pair_4) (fun H locs (hW : Wd D clQ A s.heap (zw X ad TQ (cfQ ad ca) S) H locs) => ?_)
  refine lv_lload_n (pc := 7) hx hb d_Fold_pair_7 rfl (lv_at hl 1 rfl) ?_
  obtain ⟨r2, er2⟩ : ∃ z : Int64, z = f_Fold_absorb r1 a2 S := ⟨_, rfl⟩
  have hr := lt_e er2 hr
  refine z_goL (pc := 8) hW hA (congrArg (fun q => (q, S)) er2) (z_runS hF hK hW (c_Fold_absorb l D X ad ca r1 a2 S _) cd_Fold_absorb gw_244 ⟨Nat.le_of_ble_eq_true rfl, Nat.le_of_ble_eq_true rfl⟩ ⟨Nat.zero_le _, Nat.zero_le _⟩ rfl rfl hl.1 (Nat.le_of_ble_eq_true rfl) d_Fold_pair_8) (fun H locs (hW : Wd D clQ A s.heap (zw X ad TQ (cfQ ad ca) S) H locs) => ?_)
  obtain ⟨r3, er3⟩ : ∃ z : Int64, z = f_Fold_finish r2 S := ⟨_, rfl⟩
  have hr := lt_e er3 hr
  refine z_goL (pc := 11) hW hA (congrArg (fun q => (q, S)) er3) (z_runS hF hK hW (c_Fold_finish l D X ad ca r2 S _) cd_Fold_finish gw_246 ⟨Nat.le_of_ble_eq_true rfl, Nat.le_of_ble_eq_true rfl⟩ ⟨Nat.zero_le _, Nat.zero_le _⟩ rfl rfl hl.1 (Nat.le_of_ble_eq_true rfl) d_Fold_pair_11) (fun H locs (hW : Wd D clQ A s.heap (zw X ad TQ (cfQ ad ca) S) H locs) => ?_)
  exact z_lret (v := r3) hy hW (congrArg (fun z => (z, S)) hr.symm) d_Fold_pair_14
theorem d_KeyTree_isGood_0 : decode b_KeyTree_isGood 0 = .ok (.aload_n 1, 1) := by decide +kernel
theorem d_KeyTree_isGood_1 : decode b_KeyTree_isGood 1 = .ok (.invokevirtual 44, 3) := by decide +kernel
theorem d_KeyTree_isGood_4 : decode b_KeyTree_isGood 4 = .ok (.invokestatic 48, 3) := by decide +kernel
theorem d_KeyTree_isGood_7 : decode b_KeyTree_isGood 7 = .ok (.istore_n 2, 1) := by decide +kernel
theorem d_KeyTree_isGood_8 : decode b_KeyTree_isGood 8 = .ok (.ldc2_w 67, 3) := by decide +kernel
theorem d_KeyTree_isGood_11 : decode b_KeyTree_isGood 11 = .ok (.lstore_n 3, 1) := by decide +kernel
theorem d_KeyTree_isGood_12 : decode b_KeyTree_isGood 12 = .ok (.iconst 0, 1) := by decide +kernel
theorem d_KeyTree_isGood_13 : decode b_KeyTree_isGood 13 = .ok (.istore 5, 2) := by decide +kernel
theorem d_KeyTree_isGood_15 : decode b_KeyTree_isGood 15 = .ok (.iload 5, 2) := by decide +kernel
theorem d_KeyTree_isGood_17 : decode b_KeyTree_isGood 17 = .ok (.bipush 6, 2) := by decide +kernel
theorem d_KeyTree_isGood_19 : decode b_KeyTree_isGood 19 = .ok (.if_icmp .ge 33, 3) := by decide +kernel
theorem d_KeyTree_isGood_22 : decode b_KeyTree_isGood 22 = .ok (.lload_n 3, 1) := by decide +kernel
theorem d_KeyTree_isGood_23 : decode b_KeyTree_isGood 23 = .ok (.aload_n 1, 1) := by decide +kernel
theorem d_KeyTree_isGood_24 : decode b_KeyTree_isGood 24 = .ok (.getfield 52, 3) := by decide +kernel
theorem d_KeyTree_isGood_27 : decode b_KeyTree_isGood 27 = .ok (.iload 5, 2) := by decide +kernel
theorem d_KeyTree_isGood_29 : decode b_KeyTree_isGood 29 = .ok (.laload, 1) := by decide +kernel
theorem d_KeyTree_isGood_30 : decode b_KeyTree_isGood 30 = .ok (.bipush 15, 2) := by decide +kernel
theorem d_KeyTree_isGood_32 : decode b_KeyTree_isGood 32 = .ok (.iload_n 2, 1) := by decide +kernel
theorem d_KeyTree_isGood_33 : decode b_KeyTree_isGood 33 = .ok (.iload 5, 2) := by decide +kernel
theorem d_KeyTree_isGood_35 : decode b_KeyTree_isGood 35 = .ok (.invokestatic 59, 3) := by decide +kernel
theorem d_KeyTree_isGood_38 : decode b_KeyTree_isGood 38 = .ok (.isub, 1) := by decide +kernel
theorem d_KeyTree_isGood_39 : decode b_KeyTree_isGood 39 = .ok (.invokestatic 63, 3) := by decide +kernel
theorem d_KeyTree_isGood_42 : decode b_KeyTree_isGood 42 = .ok (.invokestatic 69, 3) := by decide +kernel
theorem d_KeyTree_isGood_45 : decode b_KeyTree_isGood 45 = .ok (.lstore_n 3, 1) := by decide +kernel
theorem d_KeyTree_isGood_46 : decode b_KeyTree_isGood 46 = .ok (.iinc 5 1, 3) := by decide +kernel
theorem d_KeyTree_isGood_49 : decode b_KeyTree_isGood 49 = .ok (.goto (-34), 3) := by decide +kernel
theorem d_KeyTree_isGood_52 : decode b_KeyTree_isGood 52 = .ok (.lload_n 3, 1) := by decide +kernel
theorem d_KeyTree_isGood_53 : decode b_KeyTree_isGood 53 = .ok (.invokestatic 72, 3) := by decide +kernel
theorem d_KeyTree_isGood_56 : decode b_KeyTree_isGood 56 = .ok (.lstore_n 3, 1) := by decide +kernel
theorem d_KeyTree_isGood_57 : decode b_KeyTree_isGood 57 = .ok (.bipush 32, 2) := by decide +kernel
theorem d_KeyTree_isGood_59 : decode b_KeyTree_isGood 59 = .ok (.aload_n 1, 1) := by decide +kernel
theorem d_KeyTree_isGood_60 : decode b_KeyTree_isGood 60 = .ok (.getfield 39, 3) := by decide +kernel
theorem d_KeyTree_isGood_63 : decode b_KeyTree_isGood 63 = .ok (.iadd, 1) := by decide +kernel
theorem d_KeyTree_isGood_64 : decode b_KeyTree_isGood 64 = .ok (.istore 5, 2) := by decide +kernel
theorem d_KeyTree_isGood_66 : decode b_KeyTree_isGood 66 = .ok (.iconst 0, 1) := by decide +kernel
theorem d_KeyTree_isGood_67 : decode b_KeyTree_isGood 67 = .ok (.istore 6, 2) := by decide +kernel
theorem d_KeyTree_isGood_69 : decode b_KeyTree_isGood 69 = .ok (.iload 6, 2) := by decide +kernel
theorem d_KeyTree_isGood_71 : decode b_KeyTree_isGood 71 = .ok (.iconst 5, 1) := by decide +kernel
theorem d_KeyTree_isGood_72 : decode b_KeyTree_isGood 72 = .ok (.if_icmp .ge 50, 3) := by decide +kernel
theorem d_KeyTree_isGood_75 : decode b_KeyTree_isGood 75 = .ok (.aload_n 1, 1) := by decide +kernel
theorem d_KeyTree_isGood_76 : decode b_KeyTree_isGood 76 = .ok (.getfield 52, 3) := by decide +kernel
theorem d_KeyTree_isGood_79 : decode b_KeyTree_isGood 79 = .ok (.bipush 6, 2) := by decide +kernel
theorem d_KeyTree_isGood_81 : decode b_KeyTree_isGood 81 = .ok (.iload 6, 2) := by decide +kernel
theorem d_KeyTree_isGood_83 : decode b_KeyTree_isGood 83 = .ok (.iadd, 1) := by decide +kernel
theorem d_KeyTree_isGood_84 : decode b_KeyTree_isGood 84 = .ok (.laload, 1) := by decide +kernel
theorem d_KeyTree_isGood_85 : decode b_KeyTree_isGood 85 = .ok (.lstore 7, 2) := by decide +kernel
theorem d_KeyTree_isGood_87 : decode b_KeyTree_isGood 87 = .ok (.iload 5, 2) := by decide +kernel
theorem d_KeyTree_isGood_89 : decode b_KeyTree_isGood 89 = .ok (.iconst 1, 1) := by decide +kernel
theorem d_KeyTree_isGood_90 : decode b_KeyTree_isGood 90 = .ok (.iand, 1) := by decide +kernel
theorem d_KeyTree_isGood_91 : decode b_KeyTree_isGood 91 = .ok (.ifCond .ne 12, 3) := by decide +kernel
theorem d_KeyTree_isGood_94 : decode b_KeyTree_isGood 94 = .ok (.lload_n 3, 1) := by decide +kernel
theorem d_KeyTree_isGood_95 : decode b_KeyTree_isGood 95 = .ok (.lload 7, 2) := by decide +kernel
theorem d_KeyTree_isGood_97 : decode b_KeyTree_isGood 97 = .ok (.invokestatic 26, 3) := by decide +kernel
theorem d_KeyTree_isGood_100 : decode b_KeyTree_isGood 100 = .ok (.goto 9, 3) := by decide +kernel
theorem d_KeyTree_isGood_103 : decode b_KeyTree_isGood 103 = .ok (.lload 7, 2) := by decide +kernel
theorem d_KeyTree_isGood_105 : decode b_KeyTree_isGood 105 = .ok (.lload_n 3, 1) := by decide +kernel
theorem d_KeyTree_isGood_106 : decode b_KeyTree_isGood 106 = .ok (.invokestatic 26, 3) := by decide +kernel
theorem d_KeyTree_isGood_109 : decode b_KeyTree_isGood 109 = .ok (.lstore_n 3, 1) := by decide +kernel
theorem d_KeyTree_isGood_110 : decode b_KeyTree_isGood 110 = .ok (.iload 5, 2) := by decide +kernel
theorem d_KeyTree_isGood_112 : decode b_KeyTree_isGood 112 = .ok (.iconst 1, 1) := by decide +kernel
theorem d_KeyTree_isGood_113 : decode b_KeyTree_isGood 113 = .ok (.ishr, 1) := by decide +kernel
theorem d_KeyTree_isGood_114 : decode b_KeyTree_isGood 114 = .ok (.istore 5, 2) := by decide +kernel
theorem d_KeyTree_isGood_116 : decode b_KeyTree_isGood 116 = .ok (.iinc 6 1, 3) := by decide +kernel
theorem d_KeyTree_isGood_119 : decode b_KeyTree_isGood 119 = .ok (.goto (-50), 3) := by decide +kernel
theorem d_KeyTree_isGood_122 : decode b_KeyTree_isGood 122 = .ok (.lload_n 3, 1) := by decide +kernel
theorem d_KeyTree_isGood_123 : decode b_KeyTree_isGood 123 = .ok (.aload_n 0, 1) := by decide +kernel
theorem d_KeyTree_isGood_124 : decode b_KeyTree_isGood 124 = .ok (.invokevirtual 76, 3) := by decide +kernel
theorem d_KeyTree_isGood_127 : decode b_KeyTree_isGood 127 = .ok (.lcmp, 1) := by decide +kernel
theorem d_KeyTree_isGood_128 : decode b_KeyTree_isGood 128 = .ok (.ifCond .ne 7, 3) := by decide +kernel
theorem d_KeyTree_isGood_131 : decode b_KeyTree_isGood 131 = .ok (.iconst 1, 1) := by decide +kernel
theorem d_KeyTree_isGood_132 : decode b_KeyTree_isGood 132 = .ok (.goto 4, 3) := by decide +kernel
theorem d_KeyTree_isGood_135 : decode b_KeyTree_isGood 135 = .ok (.iconst 0, 1) := by decide +kernel
theorem d_KeyTree_isGood_136 : decode b_KeyTree_isGood 136 = .ok (.ireturn, 1) := by decide +kernel
def f_KeyTree_isGood_69 (i0 : Nat) (i1 : Nat) (j1 : Nat) : Nat → St → Int64 → Int32 → Int32 → Int32
  | 0, _, _, _, _ => 0
  | n + 1, S, l3, l5, l6 =>
    if (5 : Int32) ≤ l6 then
      lt (f_KeyTree_top i0 S) fun (r13 : Int64) =>
      if (lg_cmp l3 r13) = 0 then
        (1 : Int32)
      else
        (0 : Int32)
    else
      if (l5 &&& (1 : Int32)) = 0 then
        lt (f_Fold_pair l3 (S.2.1 15 i1 j1 ((6 : Int32) + l6).toNatClampNeg) S) fun (r18 : Int64) =>
        f_KeyTree_isGood_69 i0 i1 j1 n S r18 (l5 >>> ((1 : Int32) &&& 31)) (l6 + (1 : Int32))
      else
        lt (f_Fold_pair (S.2.1 15 i1 j1 ((6 : Int32) + l6).toNatClampNeg) l3 S) fun (r17 : Int64) =>
        f_KeyTree_isGood_69 i0 i1 j1 n S r17 (l5 >>> ((1 : Int32) &&& 31)) (l6 + (1 : Int32))
def ok_KeyTree_isGood_69 (i0 : Nat) (i1 : Nat) (j1 : Nat) : Nat → St → Int64 → Int32 → Int32 → Prop
  | 0, _, _, _, _ => False
  | n + 1, S, l3, l5, l6 =>
    ((5 : Int32) ≤ l6 → (
      True)) ∧ (¬ ((5 : Int32) ≤ l6) → (
      (vp_in ((6 : Int32) + l6) 11) ∧ (
        ((l5 &&& (1 : Int32)) = 0 → (
          lt (f_Fold_pair l3 (S.2.1 15 i1 j1 ((6 : Int32) + l6).toNatClampNeg) S) fun (r18 : Int64) =>
          ok_KeyTree_isGood_69 i0 i1 j1 n S r18 (l5 >>> ((1 : Int32) &&& 31)) (l6 + (1 : Int32)))) ∧ (¬ ((l5 &&& (1 : Int32)) = 0) → (
          lt (f_Fold_pair (S.2.1 15 i1 j1 ((6 : Int32) + l6).toNatClampNeg) l3 S) fun (r17 : Int64) =>
          ok_KeyTree_isGood_69 i0 i1 j1 n S r17 (l5 >>> ((1 : Int32) &&& 31)) (l6 + (1 : Int32)))))))
set_option maxHeartbeats 4000000 in
set_option maxRecDepth 100000 in
theorem w_KeyTree_isGood_69 {l : Launch} {D : va_G} {X : va_W} {ad : N3 → Nat} {ca : Nat → ClassId} (i0 : Nat) (i1 : Nat) (j1 : Nat) (h0 : i0 < 4) (h1 : inM i1 j1) (S : St) {p : Program} {e : Env} {s : State} {m : MethodId} {below : List Frame} {meth : Method} {c : Code} {A : Nat → Prop} (hy : Hy p s m ([.ref (ad (10, i0, 0)), .ref (ad (14, i1, j1))] : List Value).toArray meth c b_KeyTree_isGood 9 (some .boolean) R_KeyTree GG D clQ (tysQ ca) nwQ) (hA : ∀ q, s.heap.size ≤ q → A q) {res : Int32} : ∀ (n : Nat) (l3 : Int64) (l5 : Int32) (l6 : Int32) , ok_KeyTree_isGood_69 i0 i1 j1 n S l3 l5 l6 → f_KeyTree_isGood_69 i0 i1 j1 n S l3 l5 l6 = res → ∀ (H : Heap) (locs : List Loc) (ls : Array Slot), Wd D clQ A s.heap (zw X ad TQ (cfQ ad ca) S) H locs → lv_has ls 9 [(0, .ref (ad (10, i0, 0))), (1, .ref (ad (14, i1, j1))), (3, .long l3), (5, .int l5), (6, .int l6)] → W p l e { frames := 2, cells := 0, slots := 0, locals := 50 } s m ([.ref (ad (10, i0, 0)), .ref (ad (14, i1, j1))] : List Value).toArray below meth c H locs 0 0 (MQ below (eI D clQ X ad TQ (cfQ ad ca) A (res, S)) ([.ref (ad (10, i0, 0)), .ref (ad (14, i1, j1))] : List Value).toArray s 0 0 A) (F0 m 69 ls []) := by
  have hF := hy.1
  have hx := hF.1
  have hb := hF.2.1
  have hK := hy.2.2.2
  intro n
  induction n with
  | zero =>
    intro l3 l5 l6 hk
    exact hk.elim
  | succ n ih =>
    intro l3 l5 l6 hk hr H locs ls hW hl
    refine lv_iload (pc := 69) hx hb d_KeyTree_isGood_69 (lv_at hl 4 rfl) ?_
    refine lv_iconst (pc := 71) (v := 5) hx hb d_KeyTree_isGood_71 (by decide) ?_
    refine lv_icmp_ge (pc := 72) (tgt := 122) hx hb d_KeyTree_isGood_72 (by decide) (fun c12 => ?_) (fun c12 => ?_)
    · have hk := hk.1 c12
      have hr := (if_pos c12).symm.trans hr
      refine lv_lload_n (pc := 122) hx hb d_KeyTree_isGood_122 rfl (lv_at hl 2 rfl) ?_
      refine lv_aload_n (pc := 123) hx hb d_KeyTree_isGood_123 rfl (lv_at hl 0 rfl) ?_
      obtain ⟨r13, er13⟩ : ∃ z : Int64, z = f_KeyTree_top i0 S := ⟨_, rfl⟩
      have hr := lt_e er13 hr
      refine z_goL (pc := 124) hW hA (congrArg (fun q => (q, S)) er13) (z_runV hF hK hW (c_KeyTree_top l D X ad ca i0 h0 S _) cd_KeyTree_top gw_677 (tq10 h0) rfl rfl ⟨Nat.le_of_ble_eq_true rfl, Nat.le_of_ble_eq_true rfl⟩ ⟨Nat.zero_le _, Nat.zero_le _⟩ rfl rfl hl.1 (Nat.le_of_ble_eq_true rfl) d_KeyTree_isGood_124) (fun H locs (hW : Wd D clQ A s.heap (zw X ad TQ (cfQ ad ca) S) H locs) => ?_)
      refine W.lcmp (pc := 127) hx hb d_KeyTree_isGood_127 ?_
      refine lv_if_ne (pc := 128) (tgt := 135) hx hb d_KeyTree_isGood_128 (by decide) (fun c14 => ?_) (fun c14 => ?_)
      · have hr := (if_neg c14).symm.trans hr
        refine lv_iconst (pc := 135) (v := 0) hx hb d_KeyTree_isGood_135 (by decide) ?_
        exact z_zret (v := (0 : Int32)) hy hW rfl (congrArg (fun z => (z, S)) hr.symm) d_KeyTree_isGood_136
      · have hr := (if_pos c14).symm.trans hr
        refine lv_iconst (pc := 131) (v := 1) hx hb d_KeyTree_isGood_131 (by decide) ?_
        refine lv_goto (pc := 132) (tgt := 136) hx hb d_KeyTree_isGood_132 (by decide) ?_
        exact z_zret (v := (1 : Int32)) hy hW rfl (congrArg (fun z => (z, S)) hr.symm) d_KeyTree_isGood_136
    · have hk := hk.2 c12
      have hr := (if_neg c12).symm.trans hr
      refine lv_aload_n (pc := 75) hx hb d_KeyTree_isGood_75 rfl (lv_at hl 1 rfl) ?_
      refine z_get (pc := 76) (v := .ref (ad (15, i1, j1))) hF hK.1 hW (tq14 h1) rfl rfl in_Message 0 (by decide) gw_137 rfl rfl d_KeyTree_isGood_76 ?_
      refine lv_bipush (pc := 79) (v := 6) hx hb d_KeyTree_isGood_79 (by decide) ?_
      refine lv_iload (pc := 81) hx hb d_KeyTree_isGood_81 (lv_at hl 4 rfl) ?_
      refine lv_iadd (pc := 83) hx hb d_KeyTree_isGood_83 ?_
      have b15 := hk.1
      have hk := hk.2
      refine z_lald (pc := 84) (v := S.2.1 15 i1 j1 ((6 : Int32) + l6).toNatClampNeg) hF hK.1 hW (tq15 h1) 1 rfl rfl b15 rfl d_KeyTree_isGood_84 ?_
      refine lv_lstore (pc := 85) (lv' := [(7, .long (S.2.1 15 i1 j1 ((6 : Int32) + l6).toNatClampNeg)), (0, .ref (ad (10, i0, 0))), (1, .ref (ad (14, i1, j1))), (3, .long l3), (5, .int l5), (6, .int l6)]) hx hb d_KeyTree_isGood_85 hl (by decide) rfl (fun ls hl => ?_)
      refine lv_iload (pc := 87) hx hb d_KeyTree_isGood_87 (lv_at hl 4 rfl) ?_
      refine lv_iconst (pc := 89) (v := 1) hx hb d_KeyTree_isGood_89 (by decide) ?_
      refine lv_iand (pc := 90) hx hb d_KeyTree_isGood_90 ?_
      refine lv_if_ne (pc := 91) (tgt := 103) hx hb d_KeyTree_isGood_91 (by decide) (fun c16 => ?_) (fun c16 => ?_)
      · have hk := hk.2 c16
        have hr := (if_neg c16).symm.trans hr
        refine lv_lload (pc := 103) hx hb d_KeyTree_isGood_103 (lv_at hl 0 rfl) ?_
        refine lv_lload_n (pc := 105) hx hb d_KeyTree_isGood_105 rfl (lv_at hl 3 rfl) ?_
        obtain ⟨r17, er17⟩ : ∃ z : Int64, z = f_Fold_pair (S.2.1 15 i1 j1 ((6 : Int32) + l6).toNatClampNeg) l3 S := ⟨_, rfl⟩
        have hk := lt_p er17 hk
        have hr := lt_e er17 hr
        refine z_goL (pc := 106) hW hA (congrArg (fun q => (q, S)) er17) (z_runS hF hK hW (c_Fold_pair l D X ad ca (S.2.1 15 i1 j1 ((6 : Int32) + l6).toNatClampNeg) l3 S _) cd_Fold_pair gw_247 ⟨Nat.le_of_ble_eq_true rfl, Nat.le_of_ble_eq_true rfl⟩ ⟨Nat.zero_le _, Nat.zero_le _⟩ rfl rfl hl.1 (Nat.le_of_ble_eq_true rfl) d_KeyTree_isGood_106) (fun H locs (hW : Wd D clQ A s.heap (zw X ad TQ (cfQ ad ca) S) H locs) => ?_)
        refine lv_lstore_n (pc := 109) (lv' := [(3, .long r17), (7, .long (S.2.1 15 i1 j1 ((6 : Int32) + l6).toNatClampNeg)), (0, .ref (ad (10, i0, 0))), (1, .ref (ad (14, i1, j1))), (5, .int l5), (6, .int l6)]) hx hb d_KeyTree_isGood_109 rfl hl (by decide) rfl (fun ls hl => ?_)
        refine lv_iload (pc := 110) hx hb d_KeyTree_isGood_110 (lv_at hl 4 rfl) ?_
        refine lv_iconst (pc := 112) (v := 1) hx hb d_KeyTree_isGood_112 (by decide) ?_
        refine lv_ishr (pc := 113) hx hb d_KeyTree_isGood_113 ?_
        refine lv_istore (pc := 114) (lv' := [(5, .int (l5 >>> ((1 : Int32) &&& 31))), (3, .long r17), (7, .long (S.2.1 15 i1 j1 ((6 : Int32) + l6).toNatClampNeg)), (0, .ref (ad (10, i0, 0))), (1, .ref (ad (14, i1, j1))), (6, .int l6)]) hx hb d_KeyTree_isGood_114 hl (by decide) rfl (fun ls hl => ?_)
        refine lv_iinc (pc := 116) (v := l6 + (1 : Int32)) (lv' := [(6, .int (l6 + (1 : Int32))), (5, .int (l5 >>> ((1 : Int32) &&& 31))), (3, .long r17), (7, .long (S.2.1 15 i1 j1 ((6 : Int32) + l6).toNatClampNeg)), (0, .ref (ad (10, i0, 0))), (1, .ref (ad (14, i1, j1)))]) (k := 5) hx hb d_KeyTree_isGood_116 hl rfl (z_inc (by decide)) (by decide) rfl (fun ls hl => ?_)
        refine lv_goto (pc := 119) (tgt := 69) hx hb d_KeyTree_isGood_119 (by decide) ?_
        exact ih r17 (l5 >>> ((1 : Int32) &&& 31)) (l6 + (1 : Int32)) hk hr _ _ _ hW (lv_sub hl [4, 5, 2, 1, 0] rfl)
      · have hk := hk.1 c16
        have hr := (if_pos c16).symm.trans hr
        refine lv_lload_n (pc := 94) hx hb d_KeyTree_isGood_94 rfl (lv_at hl 3 rfl) ?_
        refine lv_lload (pc := 95) hx hb d_KeyTree_isGood_95 (lv_at hl 0 rfl) ?_
        obtain ⟨r18, er18⟩ : ∃ z : Int64, z = f_Fold_pair l3 (S.2.1 15 i1 j1 ((6 : Int32) + l6).toNatClampNeg) S := ⟨_, rfl⟩
        have hk := lt_p er18 hk
        have hr := lt_e er18 hr
        refine z_goL (pc := 97) hW hA (congrArg (fun q => (q, S)) er18) (z_runS hF hK hW (c_Fold_pair l D X ad ca l3 (S.2.1 15 i1 j1 ((6 : Int32) + l6).toNatClampNeg) S _) cd_Fold_pair gw_247 ⟨Nat.le_of_ble_eq_true rfl, Nat.le_of_ble_eq_true rfl⟩ ⟨Nat.zero_le _, Nat.zero_le _⟩ rfl rfl hl.1 (Nat.le_of_ble_eq_true rfl) d_KeyTree_isGood_97) (fun H locs (hW : Wd D clQ A s.heap (zw X ad TQ (cfQ ad ca) S) H locs) => ?_)
        refine lv_goto (pc := 100) (tgt := 109) hx hb d_KeyTree_isGood_100 (by decide) ?_
        refine lv_lstore_n (pc := 109) (lv' := [(3, .long r18), (7, .long (S.2.1 15 i1 j1 ((6 : Int32) + l6).toNatClampNeg)), (0, .ref (ad (10, i0, 0))), (1, .ref (ad (14, i1, j1))), (5, .int l5), (6, .int l6)]) hx hb d_KeyTree_isGood_109 rfl hl (by decide) rfl (fun ls hl => ?_)
        refine lv_iload (pc := 110) hx hb d_KeyTree_isGood_110 (lv_at hl 4 rfl) ?_
        refine lv_iconst (pc := 112) (v := 1) hx hb d_KeyTree_isGood_112 (by decide) ?_
        refine lv_ishr (pc := 113) hx hb d_KeyTree_isGood_113 ?_
        refine lv_istore (pc := 114) (lv' := [(5, .int (l5 >>> ((1 : Int32) &&& 31))), (3, .long r18), (7, .long (S.2.1 15 i1 j1 ((6 : Int32) + l6).toNatClampNeg)), (0, .ref (ad (10, i0, 0))), (1, .ref (ad (14, i1, j1))), (6, .int l6)]) hx hb d_KeyTree_isGood_114 hl (by decide) rfl (fun ls hl => ?_)
        refine lv_iinc (pc := 116) (v := l6 + (1 : Int32)) (lv' := [(6, .int (l6 + (1 : Int32))), (5, .int (l5 >>> ((1 : Int32) &&& 31))), (3, .long r18), (7, .long (S.2.1 15 i1 j1 ((6 : Int32) + l6).toNatClampNeg)), (0, .ref (ad (10, i0, 0))), (1, .ref (ad (14, i1, j1)))]) (k := 5) hx hb d_KeyTree_isGood_116 hl rfl (z_inc (by decide)) (by decide) rfl (fun ls hl => ?_)
        refine lv_goto (pc := 119) (tgt := 69) hx hb d_KeyTree_isGood_119 (by decide) ?_
        exact ih r18 (l5 >>> ((1 : Int32) &&& 31)) (l6 + (1 : Int32)) hk hr _ _ _ hW (lv_sub hl [4, 5, 2, 1, 0] rfl)
def f_KeyTree_isGood_15 (i0 : Nat) (i1 : Nat) (j1 : Nat) : Nat → St → Int32 → Int64 → Int32 → Int32
  | 0, _, _, _, _ => 0
  | n + 1, S, l2, l3, l5 =>
    if (6 : Int32) ≤ l5 then
      lt (f_Fold_finish l3 S) fun (r6 : Int64) =>
      f_KeyTree_isGood_69 i0 i1 j1 200 S r6 ((32 : Int32) + (S.1 14 i1 j1 5)) (0 : Int32)
    else
      lt (f_KeyTree_digit l2 l5 S) fun (r8 : Int32) =>
      lt (f_Fold_afterSteps (S.2.1 15 i1 j1 l5.toNatClampNeg) ((15 : Int32) - r8) S) fun (r10 : Int64) =>
      lt (f_Fold_absorb l3 r10 S) fun (r11 : Int64) =>
      f_KeyTree_isGood_15 i0 i1 j1 n S l2 r11 (l5 + (1 : Int32))
def ok_KeyTree_isGood_15 (i0 : Nat) (i1 : Nat) (j1 : Nat) : Nat → St → Int32 → Int64 → Int32 → Prop
  | 0, _, _, _, _ => False
  | n + 1, S, l2, l3, l5 =>
    ((6 : Int32) ≤ l5 → (
      lt (f_Fold_finish l3 S) fun (r6 : Int64) =>
      ok_KeyTree_isGood_69 i0 i1 j1 200 S r6 ((32 : Int32) + (S.1 14 i1 j1 5)) (0 : Int32))) ∧ (¬ ((6 : Int32) ≤ l5) → (
      (vp_in l5 11) ∧ (
        lt (f_KeyTree_digit l2 l5 S) fun (r8 : Int32) =>
        (ok_Fold_afterSteps (S.2.1 15 i1 j1 l5.toNatClampNeg) ((15 : Int32) - r8) S) ∧ (
          lt (f_Fold_afterSteps (S.2.1 15 i1 j1 l5.toNatClampNeg) ((15 : Int32) - r8) S) fun (r10 : Int64) =>
          lt (f_Fold_absorb l3 r10 S) fun (r11 : Int64) =>
          ok_KeyTree_isGood_15 i0 i1 j1 n S l2 r11 (l5 + (1 : Int32))))))
set_option maxHeartbeats 4000000 in
set_option maxRecDepth 100000 in
theorem w_KeyTree_isGood_15 {l : Launch} {D : va_G} {X : va_W} {ad : N3 → Nat} {ca : Nat → ClassId} (i0 : Nat) (i1 : Nat) (j1 : Nat) (h0 : i0 < 4) (h1 : inM i1 j1) (S : St) {p : Program} {e : Env} {s : State} {m : MethodId} {below : List Frame} {meth : Method} {c : Code} {A : Nat → Prop} (hy : Hy p s m ([.ref (ad (10, i0, 0)), .ref (ad (14, i1, j1))] : List Value).toArray meth c b_KeyTree_isGood 9 (some .boolean) R_KeyTree GG D clQ (tysQ ca) nwQ) (hA : ∀ q, s.heap.size ≤ q → A q) {res : Int32} : ∀ (n : Nat) (l2 : Int32) (l3 : Int64) (l5 : Int32) , ok_KeyTree_isGood_15 i0 i1 j1 n S l2 l3 l5 → f_KeyTree_isGood_15 i0 i1 j1 n S l2 l3 l5 = res → ∀ (H : Heap) (locs : List Loc) (ls : Array Slot), Wd D clQ A s.heap (zw X ad TQ (cfQ ad ca) S) H locs → lv_has ls 9 [(0, .ref (ad (10, i0, 0))), (1, .ref (ad (14, i1, j1))), (2, .int l2), (3, .long l3), (5, .int l5)] → W p l e { frames := 2, cells := 0, slots := 0, locals := 50 } s m ([.ref (ad (10, i0, 0)), .ref (ad (14, i1, j1))] : List Value).toArray below meth c H locs 0 0 (MQ below (eI D clQ X ad TQ (cfQ ad ca) A (res, S)) ([.ref (ad (10, i0, 0)), .ref (ad (14, i1, j1))] : List Value).toArray s 0 0 A) (F0 m 15 ls []) := by
  have hF := hy.1
  have hx := hF.1
  have hb := hF.2.1
  have hK := hy.2.2.2
  intro n
  induction n with
  | zero =>
    intro l2 l3 l5 hk
    exact hk.elim
  | succ n ih =>
    intro l2 l3 l5 hk hr H locs ls hW hl
    refine lv_iload (pc := 15) hx hb d_KeyTree_isGood_15 (lv_at hl 4 rfl) ?_
    refine lv_bipush (pc := 17) (v := 6) hx hb d_KeyTree_isGood_17 (by decide) ?_
    refine lv_icmp_ge (pc := 19) (tgt := 52) hx hb d_KeyTree_isGood_19 (by decide) (fun c5 => ?_) (fun c5 => ?_)
    · have hk := hk.1 c5
      have hr := (if_pos c5).symm.trans hr
      refine lv_lload_n (pc := 52) hx hb d_KeyTree_isGood_52 rfl (lv_at hl 3 rfl) ?_
      obtain ⟨r6, er6⟩ : ∃ z : Int64, z = f_Fold_finish l3 S := ⟨_, rfl⟩
      have hk := lt_p er6 hk
      have hr := lt_e er6 hr
      refine z_goL (pc := 53) hW hA (congrArg (fun q => (q, S)) er6) (z_runS hF hK hW (c_Fold_finish l D X ad ca l3 S _) cd_Fold_finish gw_236 ⟨Nat.le_of_ble_eq_true rfl, Nat.le_of_ble_eq_true rfl⟩ ⟨Nat.zero_le _, Nat.zero_le _⟩ rfl rfl hl.1 (Nat.le_of_ble_eq_true rfl) d_KeyTree_isGood_53) (fun H locs (hW : Wd D clQ A s.heap (zw X ad TQ (cfQ ad ca) S) H locs) => ?_)
      refine lv_lstore_n (pc := 56) (lv' := [(3, .long r6), (0, .ref (ad (10, i0, 0))), (1, .ref (ad (14, i1, j1))), (2, .int l2), (5, .int l5)]) hx hb d_KeyTree_isGood_56 rfl hl (by decide) rfl (fun ls hl => ?_)
      refine lv_bipush (pc := 57) (v := 32) hx hb d_KeyTree_isGood_57 (by decide) ?_
      refine lv_aload_n (pc := 59) hx hb d_KeyTree_isGood_59 rfl (lv_at hl 2 rfl) ?_
      refine z_get (pc := 60) (v := .int (S.1 14 i1 j1 5)) hF hK.1 hW (tq14 h1) rfl rfl in_Message 5 (by decide) gw_148 rfl rfl d_KeyTree_isGood_60 ?_
      refine lv_iadd (pc := 63) hx hb d_KeyTree_isGood_63 ?_
      refine lv_istore (pc := 64) (lv' := [(5, .int ((32 : Int32) + (S.1 14 i1 j1 5))), (3, .long r6), (0, .ref (ad (10, i0, 0))), (1, .ref (ad (14, i1, j1))), (2, .int l2)]) hx hb d_KeyTree_isGood_64 hl (by decide) rfl (fun ls hl => ?_)
      refine lv_iconst (pc := 66) (v := 0) hx hb d_KeyTree_isGood_66 (by decide) ?_
      refine lv_istore (pc := 67) (lv' := [(6, .int (0 : Int32)), (5, .int ((32 : Int32) + (S.1 14 i1 j1 5))), (3, .long r6), (0, .ref (ad (10, i0, 0))), (1, .ref (ad (14, i1, j1))), (2, .int l2)]) hx hb d_KeyTree_isGood_67 hl (by decide) rfl (fun ls hl => ?_)
      exact w_KeyTree_isGood_69 i0 i1 j1 h0 h1 S hy hA 200 r6 ((32 : Int32) + (S.1 14 i1 j1 5)) (0 : Int32) hk hr _ _ _ hW (lv_sub hl [3, 4, 2, 1, 0] rfl)
    · have hk := hk.2 c5
      have hr := (if_neg c5).symm.trans hr
      refine lv_lload_n (pc := 22) hx hb d_KeyTree_isGood_22 rfl (lv_at hl 3 rfl) ?_
      refine lv_aload_n (pc := 23) hx hb d_KeyTree_isGood_23 rfl (lv_at hl 1 rfl) ?_
      refine z_get (pc := 24) (v := .ref (ad (15, i1, j1))) hF hK.1 hW (tq14 h1) rfl rfl in_Message 0 (by decide) gw_137 rfl rfl d_KeyTree_isGood_24 ?_
      refine lv_iload (pc := 27) hx hb d_KeyTree_isGood_27 (lv_at hl 4 rfl) ?_
      have b7 := hk.1
      have hk := hk.2
      refine z_lald (pc := 29) (v := S.2.1 15 i1 j1 l5.toNatClampNeg) hF hK.1 hW (tq15 h1) 1 rfl rfl b7 rfl d_KeyTree_isGood_29 ?_
      refine lv_bipush (pc := 30) (v := 15) hx hb d_KeyTree_isGood_30 (by decide) ?_
      refine lv_iload_n (pc := 32) hx hb d_KeyTree_isGood_32 rfl (lv_at hl 2 rfl) ?_
      refine lv_iload (pc := 33) hx hb d_KeyTree_isGood_33 (lv_at hl 4 rfl) ?_
      obtain ⟨r8, er8⟩ : ∃ z : Int32, z = f_KeyTree_digit l2 l5 S := ⟨_, rfl⟩
      have hk := lt_p er8 hk
      have hr := lt_e er8 hr
      refine z_goI (pc := 35) hW hA (congrArg (fun q => (q, S)) er8) (z_runS hF hK hW (c_KeyTree_digit l D X ad ca l2 l5 S _) cd_KeyTree_digit gw_404 ⟨Nat.le_of_ble_eq_true rfl, Nat.le_of_ble_eq_true rfl⟩ ⟨Nat.zero_le _, Nat.zero_le _⟩ rfl rfl hl.1 (Nat.le_of_ble_eq_true rfl) d_KeyTree_isGood_35) (fun H locs (hW : Wd D clQ A s.heap (zw X ad TQ (cfQ ad ca) S) H locs) => ?_)
      refine lv_isub (pc := 38) hx hb d_KeyTree_isGood_38 ?_
      have o9 := hk.1
      have hk := hk.2
      obtain ⟨r10, er10⟩ : ∃ z : Int64, z = f_Fold_afterSteps (S.2.1 15 i1 j1 l5.toNatClampNeg) ((15 : Int32) - r8) S := ⟨_, rfl⟩
      have hk := lt_p er10 hk
      have hr := lt_e er10 hr
      refine z_goL (pc := 39) hW hA (congrArg (fun q => (q, S)) er10) (z_runS hF hK hW (c_Fold_afterSteps l D X ad ca (S.2.1 15 i1 j1 l5.toNatClampNeg) ((15 : Int32) - r8) S o9 _) cd_Fold_afterSteps gw_240 ⟨Nat.le_of_ble_eq_true rfl, Nat.le_of_ble_eq_true rfl⟩ ⟨Nat.zero_le _, Nat.zero_le _⟩ rfl rfl hl.1 (Nat.le_of_ble_eq_true rfl) d_KeyTree_isGood_39) (fun H locs (hW : Wd D clQ A s.heap (zw X ad TQ (cfQ ad ca) S) H locs) => ?_)
      obtain ⟨r11, er11⟩ : ∃ z : Int64, z = f_Fold_absorb l3 r10 S := ⟨_, rfl⟩
      have hk := lt_p er11 hk
      have hr := lt_e er11 hr
      refine z_goL (pc := 42) hW hA (congrArg (fun q => (q, S)) er11) (z_runS hF hK hW (c_Fold_absorb l D X ad ca l3 r10 S _) cd_Fold_absorb gw_232 ⟨Nat.le_of_ble_eq_true rfl, Nat.le_of_ble_eq_true rfl⟩ ⟨Nat.zero_le _, Nat.zero_le _⟩ rfl rfl hl.1 (Nat.le_of_ble_eq_true rfl) d_KeyTree_isGood_42) (fun H locs (hW : Wd D clQ A s.heap (zw X ad TQ (cfQ ad ca) S) H locs) => ?_)
      refine lv_lstore_n (pc := 45) (lv' := [(3, .long r11), (0, .ref (ad (10, i0, 0))), (1, .ref (ad (14, i1, j1))), (2, .int l2), (5, .int l5)]) hx hb d_KeyTree_isGood_45 rfl hl (by decide) rfl (fun ls hl => ?_)
      refine lv_iinc (pc := 46) (v := l5 + (1 : Int32)) (lv' := [(5, .int (l5 + (1 : Int32))), (3, .long r11), (0, .ref (ad (10, i0, 0))), (1, .ref (ad (14, i1, j1))), (2, .int l2)]) (k := 4) hx hb d_KeyTree_isGood_46 hl rfl (z_inc (by decide)) (by decide) rfl (fun ls hl => ?_)
      refine lv_goto (pc := 49) (tgt := 15) hx hb d_KeyTree_isGood_49 (by decide) ?_
      exact ih l2 r11 (l5 + (1 : Int32)) hk hr _ _ _ hW (lv_sub hl [2, 3, 4, 1, 0] rfl)
def f_KeyTree_isGood (i0 : Nat) (i1 : Nat) (j1 : Nat) (S : St) : Int32 :=
  lt (f_Message_meaning i1 j1 S) fun (r2 : Int64) =>
  lt (f_KeyTree_digitsOf r2 S) fun (r4 : Int32) =>
  f_KeyTree_isGood_15 i0 i1 j1 200 S r4 (-7046029254386353131 : Int64) (0 : Int32)
def ok_KeyTree_isGood (i0 : Nat) (i1 : Nat) (j1 : Nat) (S : St) : Prop :=
  (ok_Message_meaning i1 j1 S) ∧ (
    lt (f_Message_meaning i1 j1 S) fun (r2 : Int64) =>
    (ok_KeyTree_digitsOf r2 S) ∧ (
      lt (f_KeyTree_digitsOf r2 S) fun (r4 : Int32) =>
      ok_KeyTree_isGood_15 i0 i1 j1 200 S r4 (-7046029254386353131 : Int64) (0 : Int32)))
set_option maxHeartbeats 4000000 in
set_option maxRecDepth 100000 in
theorem c_KeyTree_isGood (l : Launch) (D : va_G) (X : va_W) (ad : N3 → Nat) (ca : Nat → ClassId) (i0 : Nat) (i1 : Nat) (j1 : Nat) (h0 : i0 < 4) (h1 : inM i1 j1) (S : St) (hk : ok_KeyTree_isGood i0 i1 j1 S) : cI l GG D clQ (tysQ ca) nwQ X ad TQ (cfQ ad ca) y_KeyTree_isGood b_KeyTree_isGood 9 .boolean 2 50 [.ref (ad (10, i0, 0)), .ref (ad (14, i1, j1))] S ((f_KeyTree_isGood i0 i1 j1 S), S) := by
  generalize hr : f_KeyTree_isGood i0 i1 j1 S = res
  refine zI_of pn_KeyTree (Nat.le_of_ble_eq_true rfl) (fun p e s m below meth c A ls hy hW hA hl => ?_)
  have hF := hy.1
  have hx := hF.1
  have hb := hF.2.1
  have hK := hy.2.2.2
  have hl : lv_has ls 9 [(0, .ref (ad (10, i0, 0))), (1, .ref (ad (14, i1, j1)))] := hl
  refine lv_aload_n (pc := 0) hx hb d_KeyTree_isGood_0 rfl (lv_at hl 1 rfl) ?_
  have o1 := hk.1
  have hk := hk.2
  obtain ⟨r2, er2⟩ : ∃ z : Int64, z = f_Message_meaning i1 j1 S := ⟨_, rfl⟩
  have hk := lt_p er2 hk
  have hr := lt_e er2 hr
  refine z_goL (pc := 1) hW hA (congrArg (fun q => (q, S)) er2) (z_runV hF hK hW (c_Message_meaning l D X ad ca i1 j1 h1 S o1 _) cd_Message_meaning gw_393 (tq14 h1) rfl rfl ⟨Nat.le_of_ble_eq_true rfl, Nat.le_of_ble_eq_true rfl⟩ ⟨Nat.zero_le _, Nat.zero_le _⟩ rfl rfl hl.1 (Nat.le_of_ble_eq_true rfl) d_KeyTree_isGood_1) (fun H locs (hW : Wd D clQ A s.heap (zw X ad TQ (cfQ ad ca) S) H locs) => ?_)
  have o3 := hk.1
  have hk := hk.2
  obtain ⟨r4, er4⟩ : ∃ z : Int32, z = f_KeyTree_digitsOf r2 S := ⟨_, rfl⟩
  have hk := lt_p er4 hk
  have hr := lt_e er4 hr
  refine z_goI (pc := 4) hW hA (congrArg (fun q => (q, S)) er4) (z_runS hF hK hW (c_KeyTree_digitsOf l D X ad ca r2 S o3 _) cd_KeyTree_digitsOf gw_400 ⟨Nat.le_of_ble_eq_true rfl, Nat.le_of_ble_eq_true rfl⟩ ⟨Nat.zero_le _, Nat.zero_le _⟩ rfl rfl hl.1 (Nat.le_of_ble_eq_true rfl) d_KeyTree_isGood_4) (fun H locs (hW : Wd D clQ A s.heap (zw X ad TQ (cfQ ad ca) S) H locs) => ?_)
  refine lv_istore_n (pc := 7) (lv' := [(2, .int r4), (0, .ref (ad (10, i0, 0))), (1, .ref (ad (14, i1, j1)))]) hx hb d_KeyTree_isGood_7 rfl hl (by decide) rfl (fun ls hl => ?_)
  refine lv_ldc2 (pc := 8) hx hb hF.2.2.2.1 (hF.2.2.2.2 _ gw_228) d_KeyTree_isGood_8 ?_
  refine lv_lstore_n (pc := 11) (lv' := [(3, .long (-7046029254386353131 : Int64)), (2, .int r4), (0, .ref (ad (10, i0, 0))), (1, .ref (ad (14, i1, j1)))]) hx hb d_KeyTree_isGood_11 rfl hl (by decide) rfl (fun ls hl => ?_)
  refine lv_iconst (pc := 12) (v := 0) hx hb d_KeyTree_isGood_12 (by decide) ?_
  refine lv_istore (pc := 13) (lv' := [(5, .int (0 : Int32)), (3, .long (-7046029254386353131 : Int64)), (2, .int r4), (0, .ref (ad (10, i0, 0))), (1, .ref (ad (14, i1, j1)))]) hx hb d_KeyTree_isGood_13 hl (by decide) rfl (fun ls hl => ?_)
  exact w_KeyTree_isGood_15 i0 i1 j1 h0 h1 S hy hA 200 r4 (-7046029254386353131 : Int64) (0 : Int32) hk hr _ _ _ hW (lv_sub hl [3, 4, 2, 1, 0] rfl)
