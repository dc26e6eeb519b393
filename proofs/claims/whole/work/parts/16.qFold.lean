theorem d_Fold_pair_0 : decode b_Fold_pair 0 = .ok (.ldc2_w 13, 3) := by decide +kernel
theorem d_Fold_pair_3 : decode b_Fold_pair 3 = .ok (.lload_n 0, 1) := by decide +kernel
theorem d_Fold_pair_4 : decode b_Fold_pair 4 = .ok (.invokestatic 15, 3) := by decide +kernel
theorem d_Fold_pair_7 : decode b_Fold_pair 7 = .ok (.lload_n 2, 1) := by decide +kernel
theorem d_Fold_pair_8 : decode b_Fold_pair 8 = .ok (.invokestatic 15, 3) := by decide +kernel
theorem d_Fold_pair_11 : decode b_Fold_pair 11 = .ok (.invokestatic 19, 3) := by decide +kernel
theorem d_Fold_pair_14 : decode b_Fold_pair 14 = .ok (.lreturn, 1) := by decide +kernel
def f_Fold_pair (a0 : Int64) (a2 : Int64) (S : St) : Int64 :=
  lt (f_Fold_absorb (-7046029254386353131 : Int64) a0 S) fun (r1 : Int64) =>
  lt (f_Fold_absorb r1 a2 S) fun (r2 : Int64) =>
  lt (f_Fold_finish r2 S) fun (r3 : Int64) =>
  r3
set_option maxHeartbeats 4000000 in
set_option maxRecDepth 100000 in
theorem c_Fold_pair (l : Launch) (D : va_G) (X : va_W) (ad : N3 → Nat) (ca : Nat → ClassId) (a0 : Int64) (a2 : Int64)  (S : St) : cP l GG D clQ (tysQ ca) nwQ (zw X ad TQ (cfQ ad ca) S) y_Fold_pair b_Fold_pair 4 .long 1 25 [.long a0, .long a2] (.long (f_Fold_pair a0 a2 S)) := by
  generalize hr : f_Fold_pair a0 a2 S = res
  refine zP_of pn_Fold (Nat.le_of_ble_eq_true rfl) (fun p e s m below meth c ls hy hW hl => ?_)
  have hF := hy.1
  have hx := hF.1
  have hb := hF.2.1
  have hK := hy.2.2.2
  have hl : lv_has ls 4 [(0, .long a0), (2, .long a2)] := hl
  refine lv_ldc2 (pc := 0) hx hb hF.2.2.2.1 (hF.2.2.2.2 _ gw_243) d_Fold_pair_0 ?_
  refine lv_lload_n (pc := 3) hx hb d_Fold_pair_3 rfl (lv_at hl 0 rfl) ?_
  obtain ⟨r1, er1⟩ : ∃ z : Int64, z = f_Fold_absorb (-7046029254386353131 : Int64) a0 S := ⟨_, rfl⟩
  have hr := lt_e er1 hr
  refine p_go (pc := 4) (congrArg Value.long er1) (p_runS hF hK hW (c_Fold_absorb l D X ad ca (-7046029254386353131 : Int64) a0 S _) cd_Fold_absorb gw_244 ⟨Nat.le_of_ble_eq_true rfl, Nat.le_of_ble_eq_true rfl⟩ ⟨Nat.zero_le _, Nat.zero_le _⟩ rfl rfl hl.1 (Nat.le_of_ble_eq_true rfl) d_Fold_pair_4) ?_
  refine lv_lload_n (pc := 7) hx hb d_Fold_pair_7 rfl (lv_at hl 1 rfl) ?_
  obtain ⟨r2, er2⟩ : ∃ z : Int64, z = f_Fold_absorb r1 a2 S := ⟨_, rfl⟩
  have hr := lt_e er2 hr
  refine p_go (pc := 8) (congrArg Value.long er2) (p_runS hF hK hW (c_Fold_absorb l D X ad ca r1 a2 S _) cd_Fold_absorb gw_244 ⟨Nat.le_of_ble_eq_true rfl, Nat.le_of_ble_eq_true rfl⟩ ⟨Nat.zero_le _, Nat.zero_le _⟩ rfl rfl hl.1 (Nat.le_of_ble_eq_true rfl) d_Fold_pair_8) ?_
  obtain ⟨r3, er3⟩ : ∃ z : Int64, z = f_Fold_finish r2 S := ⟨_, rfl⟩
  have hr := lt_e er3 hr
  refine p_go (pc := 11) (congrArg Value.long er3) (p_runS hF hK hW (c_Fold_finish l D X ad ca r2 S _) cd_Fold_finish gw_246 ⟨Nat.le_of_ble_eq_true rfl, Nat.le_of_ble_eq_true rfl⟩ ⟨Nat.zero_le _, Nat.zero_le _⟩ rfl rfl hl.1 (Nat.le_of_ble_eq_true rfl) d_Fold_pair_11) ?_
  exact p_lret (v := r3) hy hr d_Fold_pair_14
theorem d_KeyTree_isGood_0 : decode b_KeyTree_isGood 0 = .ok (.aload_n 1, 1) := by decide +kernel
theorem d_KeyTree_isGood_1 : decode b_KeyTree_isGood 1 = .ok (.invokevirtual 44, 3) := by decide +kernel
theorem d_KeyTree_isGood_4 : decode b_KeyTree_isGood 4 = .ok (.invokestatic 48, 3) := by decide +kernel
theorem d_KeyTree_isGood_7 : decode b_KeyTree_isGood 7 = .ok (.istore_n 2, 1) := by decide +kernel
theorem d_KeyTree_isGood_8 : decode b_KeyTree_isGood 8 = .ok (.ldc2_w 67, 3) := by decide +kernel
theorem d_KeyTree_isGood_11 : decode b_KeyTree_isGood 11 = .ok (.lstore_n 3, 1) := by decide +kernel
theorem d_KeyTree_isGood_12 : decode b_KeyTree_isGood 12 = .ok (.iconst 0, 1) := by decide +kernel
theorem d_KeyTree_isGood_13 : decode b_KeyTree_isGood 13 = .ok (.istore 5, 2) := by decide +kernel
theorem d_KeyTree_isGood_15 : decode b_KeyTree_isGood 15 = .ok (.iload 5, 2) := by decide +kernel
theorem d_KeyTree_isGood_17 : decode b_KeyTree_isGood 17 = .ok (.bipush 6, 2) := by decide +kernel
theorem d_KeyTree_isGood_19 : decode b_KeyTree_isGood 19 = .ok (.if_icmp .ge 33, 3) := by decide +kernel
theorem d_KeyTree_isGood_22 : decode b_KeyTree_isGood 22 = .ok (.lload_n 3, 1) := by decide +kernel
theorem d_KeyTree_isGood_23 : decode b_KeyTree_isGood 23 = .ok (.aload_n 1, 1) := by decide +kernel
theorem d_KeyTree_isGood_24 : decode b_KeyTree_isGood 24 = .ok (.getfield 52, 3) := by decide +kernel
theorem d_KeyTree_isGood_27 : decode b_KeyTree_isGood 27 = .ok (.iload 5, 2) := by decide +kernel
theorem d_KeyTree_isGood_29 : decode b_KeyTree_isGood 29 = .ok (.laload, 1) := by decide +kernel
theorem d_KeyTree_isGood_30 : decode b_KeyTree_isGood 30 = .ok (.bipush 15, 2) := by decide +kernel
theorem d_KeyTree_isGood_32 : decode b_KeyTree_isGood 32 = .ok (.iload_n 2, 1) := by decide +kernel
theorem d_KeyTree_isGood_33 : decode b_KeyTree_isGood 33 = .ok (.iload 5, 2) := by decide +kernel
theorem d_KeyTree_isGood_35 : decode b_KeyTree_isGood 35 = .ok (.invokestatic 59, 3) := by decide +kernel
theorem d_KeyTree_isGood_38 : decode b_KeyTree_isGood 38 = .ok (.isub, 1) := by decide +kernel
theorem d_KeyTree_isGood_39 : decode b_KeyTree_isGood 39 = .ok (.invokestatic 63, 3) := by decide +kernel
theorem d_KeyTree_isGood_42 : decode b_KeyTree_isGood 42 = .ok (.invokestatic 69, 3) := by decide +kernel
theorem d_KeyTree_isGood_45 : decode b_KeyTree_isGood 45 = .ok (.lstore_n 3, 1) := by decide +kernel
theorem d_KeyTree_isGood_46 : decode b_KeyTree_isGood 46 = .ok (.iinc 5 1, 3) := by decide +kernel
theorem d_KeyTree_isGood_49 : decode b_KeyTree_isGood 49 = .ok (.goto (-34), 3) := by decide +kernel
theorem d_KeyTree_isGood_52 : decode b_KeyTree_isGood 52 = .ok (.lload_n 3, 1) := by decide +kernel
theorem d_KeyTree_isGood_53 : decode b_KeyTree_isGood 53 = .ok (.invokestatic 72, 3) := by decide +kernel
theorem d_KeyTree_isGood_56 : decode b_KeyTree_isGood 56 = .ok (.lstore_n 3, 1) := by decide +kernel
theorem d_KeyTree_isGood_57 : decode b_KeyTree_isGood 57 = .ok (.bipush 32, 2) := by decide +kernel
theorem d_KeyTree_isGood_59 : decode b_KeyTree_isGood 59 = .ok (.aload_n 1, 1) := by decide +kernel
theorem d_KeyTree_isGood_60 : decode b_KeyTree_isGood 60 = .ok (.getfield 39, 3) := by decide +kernel
theorem d_KeyTree_isGood_63 : decode b_KeyTree_isGood 63 = .ok (.iadd, 1) := by decide +kernel
theorem d_KeyTree_isGood_64 : decode b_KeyTree_isGood 64 = .ok (.istore 5, 2) := by decide +kernel
theorem d_KeyTree_isGood_66 : decode b_KeyTree_isGood 66 = .ok (.iconst 0, 1) := by decide +kernel
theorem d_KeyTree_isGood_67 : decode b_KeyTree_isGood 67 = .ok (.istore 6, 2) := by decide +kernel
theorem d_KeyTree_isGood_69 : decode b_KeyTree_isGood 69 = .ok (.iload 6, 2) := by decide +kernel
theorem d_KeyTree_isGood_71 : decode b_KeyTree_isGood 71 = .ok (.iconst 5, 1) := by decide +kernel
theorem d_KeyTree_isGood_72 : decode b_KeyTree_isGood 72 = .ok (.if_icmp .ge 50, 3) := by decide +kernel
theorem d_KeyTree_isGood_75 : decode b_KeyTree_isGood 75 = .ok (.aload_n 1, 1) := by decide +kernel
theorem d_KeyTree_isGood_76 : decode b_KeyTree_isGood 76 = .ok (.getfield 52, 3) := by decide +kernel
theorem d_KeyTree_isGood_79 : decode b_KeyTree_isGood 79 = .ok (.bipush 6, 2) := by decide +kernel
theorem d_KeyTree_isGood_81 : decode b_KeyTree_isGood 81 = .ok (.iload 6, 2) := by decide +kernel
theorem d_KeyTree_isGood_83 : decode b_KeyTree_isGood 83 = .ok (.iadd, 1) := by decide +kernel
theorem d_KeyTree_isGood_84 : decode b_KeyTree_isGood 84 = .ok (.laload, 1) := by decide +kernel
theorem d_KeyTree_isGood_85 : decode b_KeyTree_isGood 85 = .ok (.lstore 7, 2) := by decide +kernel
theorem d_KeyTree_isGood_87 : decode b_KeyTree_isGood 87 = .ok (.iload 5, 2) := by decide +kernel
theorem d_KeyTree_isGood_89 : decode b_KeyTree_isGood 89 = .ok (.iconst 1, 1) := by decide +kernel
theorem d_KeyTree_isGood_90 : decode b_KeyTree_isGood 90 = .ok (.iand, 1) := by decide +kernel
theorem d_KeyTree_isGood_91 : decode b_KeyTree_isGood 91 = .ok (.ifCond .ne 12, 3) := by decide +kernel
theorem d_KeyTree_isGood_94 : decode b_KeyTree_isGood 94 = .ok (.lload_n 3, 1) := by decide +kernel
theorem d_KeyTree_isGood_95 : decode b_KeyTree_isGood 95 = .ok (.lload 7, 2) := by decide +kernel
theorem d_KeyTree_isGood_97 : decode b_KeyTree_isGood 97 = .ok (.invokestatic 26, 3) := by decide +kernel
theorem d_KeyTree_isGood_100 : decode b_KeyTree_isGood 100 = .ok (.goto 9, 3) := by decide +kernel
theorem d_KeyTree_isGood_103 : decode b_KeyTree_isGood 103 = .ok (.lload 7, 2) := by decide +kernel
theorem d_KeyTree_isGood_105 : decode b_KeyTree_isGood 105 = .ok (.lload_n 3, 1) := by decide +kernel
theorem d_KeyTree_isGood_106 : decode b_KeyTree_isGood 106 = .ok (.invokestatic 26, 3) := by decide +kernel
theorem d_KeyTree_isGood_109 : decode b_KeyTree_isGood 109 = .ok (.lstore_n 3, 1) := by decide +kernel
theorem d_KeyTree_isGood_110 : decode b_KeyTree_isGood 110 = .ok (.iload 5, 2) := by decide +kernel
theorem d_KeyTree_isGood_112 : decode b_KeyTree_isGood 112 = .ok (.iconst 1, 1) := by decide +kernel
theorem d_KeyTree_isGood_113 : decode b_KeyTree_isGood 113 = .ok (.ishr, 1) := by decide +kernel
theorem d_KeyTree_isGood_114 : decode b_KeyTree_isGood 114 = .ok (.istore 5, 2) := by decide +kernel
theorem d_KeyTree_isGood_116 : decode b_KeyTree_isGood 116 = .ok (.iinc 6 1, 3) := by decide +kernel
theorem d_KeyTree_isGood_119 : decode b_KeyTree_isGood 119 = .ok (.goto (-50), 3) := by decide +kernel
theorem d_KeyTree_isGood_122 : decode b_KeyTree_isGood 122 = .ok (.lload_n 3, 1) := by decide +kernel
theorem d_KeyTree_isGood_123 : decode b_KeyTree_isGood 123 = .ok (.aload_n 0, 1) := by decide +kernel
theorem d_KeyTree_isGood_124 : decode b_KeyTree_isGood 124 = .ok (.invokevirtual 76, 3) := by decide +kernel
theorem d_KeyTree_isGood_127 : decode b_KeyTree_isGood 127 = .ok (.lcmp, 1) := by decide +kernel
theorem d_KeyTree_isGood_128 : decode b_KeyTree_isGood 128 = .ok (.ifCond .ne 7, 3) := by decide +kernel
theorem d_KeyTree_isGood_131 : decode b_KeyTree_isGood 131 = .ok (.iconst 1, 1) := by decide +kernel
theorem d_KeyTree_isGood_132 : decode b_KeyTree_isGood 132 = .ok (.goto 4, 3) := by decide +kernel
theorem d_KeyTree_isGood_135 : decode b_KeyTree_isGood 135 = .ok (.iconst 0, 1) := by decide +kernel
theorem d_KeyTree_isGood_136 : decode b_KeyTree_isGood 136 = .ok (.ireturn, 1) := by decide +kernel
def f_KeyTree_isGood_69 (i0 : Nat) (i1 : Nat) (j1 : Nat) : Nat → St → Int64 → Int32 → Int32 → Int32
  | 0, _, _, _, _ => 0
  | n + 1, S, l3, l5, l6 =>
    if (5 : Int32) ≤ l6 then
      lt (f_KeyTree_top i0 S) fun (r13 : Int64) =>
      if (lg_cmp l3 r13) = 0 then
        (1 : Int32)
      else
        (0 : Int32)
    else
      if (l5 &&& (1 : Int32)) = 0 then
        lt (f_Fold_pair l3 (S.2.1 15 i1 j1 ((6 : Int32) + l6).toNatClampNeg) S) fun (r18 : Int64) =>
        f_KeyTree_isGood_69 i0 i1 j1 n S r18 (l5 >>> ((1 : Int32) &&& 31)) (l6 + (1 : Int32))
      else
        lt (f_Fold_pair (S.2.1 15 i1 j1 ((6 : Int32) + l6).toNatClampNeg) l3 S) fun (r17 : Int64) =>
        f_KeyTree_isGood_69 i0 i1 j1 n S r17 (l5 >>> ((1 : Int32) &&& 31)) (l6 + (1 : Int32))
def ok_KeyTree_isGood_69 (i0 : Nat) (i1 : Nat) (j1 : Nat) : Nat → St → Int64 → Int32 → Int32 → Prop
  | 0, _, _, _, _ => False
  | n + 1, S, l3, l5, l6 =>
    ((5 : Int32) ≤ l6 → (
      True)) ∧ (¬ ((5 : Int32) ≤ l6) → (
      (vp_in ((6 : Int32) + l6) 11) ∧ (
        ((l5 &&& (1 : Int32)) = 0 → (
          lt (f_Fold_pair l3 (S.2.1 15 i1 j1 ((6 : Int32) + l6).toNatClampNeg) S) fun (r18 : Int64) =>
          ok_KeyTree_isGood_69 i0 i1 j1 n S r18 (l5 >>> ((1 : Int32) &&& 31)) (l6 + (1 : Int32)))) ∧ (¬ ((l5 &&& (1 : Int32)) = 0) → (
          lt (f_Fold_pair (S.2.1 15 i1 j1 ((6 : Int32) + l6).toNatClampNeg) l3 S) fun (r17 : Int64) =>
          ok_KeyTree_isGood_69 i0 i1 j1 n S r17 (l5 >>> ((1 : Int32) &&& 31)) (l6 + (1 : Int32)))))))
set_option maxHeartbeats 4000000 in
set_option maxRecDepth 100000 in
theorem w_KeyTree_isGood_69 {l : Launch} {D : va_G} {X : va_W} {ad : N3 → Nat} {ca : Nat → ClassId} (i0 : Nat) (i1 : Nat) (j1 : Nat) (h0 : i0 < 4) (h1 : inM i1 j1) (S : St) {p : Program} {e : Env} {s : State} {m : MethodId} {below : List Frame} {meth : Method} {c : Code} (hy : Hy p s m ([.ref (ad (10, i0, 0)), .ref (ad (14, i1, j1))] : List Value).toArray meth c b_KeyTree_isGood 9 (some .boolean) R_KeyTree GG D clQ (tysQ ca) nwQ) (hW : Wd D clQ (fun _ => True) s.heap (zw X ad TQ (cfQ ad ca) S) s.heap []) {res : Int32} : ∀ (n : Nat) (l3 : Int64) (l5 : Int32) (l6 : Int32) , ok_KeyTree_isGood_69 i0 i1 j1 n S l3 l5 l6 → f_KeyTree_isGood_69 i0 i1 j1 n S l3 l5 l6 = res → ∀ (ls : Array Slot), lv_has ls 9 [(0, .ref (ad (10, i0, 0))), (1, .ref (ad (14, i1, j1))), (3, .long l3), (5, .int l5), (6, .int l6)] → W p l e { frames := 2, cells := 0, slots := 0, locals := 50 } s m ([.ref (ad (10, i0, 0)), .ref (ad (14, i1, j1))] : List Value).toArray below meth c s.heap [] 0 0 (MQ below (eP (.int res)) ([.ref (ad (10, i0, 0)), .ref (ad (14, i1, j1))] : List Value).toArray s 0 0 nof) (F0 m 69 ls []) := by
  have hF := hy.1
  have hx := hF.1
  have hb := hF.2.1
  have hK := hy.2.2.2
  intro n
  induction n with
  | zero =>
    intro l3 l5 l6 hk
    exact hk.elim
  | succ n ih =>
    intro l3 l5 l6 hk hr ls hl
    refine lv_iload (pc := 69) hx hb d_KeyTree_isGood_69 (lv_at hl 4 rfl) ?_
    refine lv_iconst (pc := 71) (v := 5) hx hb d_KeyTree_isGood_71 (by decide) ?_
    refine lv_icmp_ge (pc := 72) (tgt := 122) hx hb d_KeyTree_isGood_72 (by decide) (fun c12 => ?_) (fun c12 => ?_)
    · have hk := hk.1 c12
      have hr := (if_pos c12).symm.trans hr
      refine lv_lload_n (pc := 122) hx hb d_KeyTree_isGood_122 rfl (lv_at hl 2 rfl) ?_
      refine lv_aload_n (pc := 123) hx hb d_KeyTree_isGood_123 rfl (lv_at hl 0 rfl) ?_
      obtain ⟨r13, er13⟩ : ∃ z : Int64, z = f_KeyTree_top i0 S := ⟨_, rfl⟩
      have hr := lt_e er13 hr
      refine p_go (pc := 124) (congrArg Value.long er13) (p_runV hF hK hW (c_KeyTree_top l D X ad ca i0 h0 S _) cd_KeyTree_top gw_677 (tq10 h0) rfl rfl ⟨Nat.le_of_ble_eq_true rfl, Nat.le_of_ble_eq_true rfl⟩ ⟨Nat.zero_le _, Nat.zero_le _⟩ rfl rfl hl.1 (Nat.le_of_ble_eq_true rfl) d_KeyTree_isGood_124) ?_
      refine W.lcmp (pc := 127) hx hb d_KeyTree_isGood_127 ?_
      refine lv_if_ne (pc := 128) (tgt := 135) hx hb d_KeyTree_isGood_128 (by decide) (fun c14 => ?_) (fun c14 => ?_)
      · have hr := (if_neg c14).symm.trans hr
        refine lv_iconst (pc := 135) (v := 0) hx hb d_KeyTree_isGood_135 (by decide) ?_
        exact p_zret (v := (0 : Int32)) hy rfl hr d_KeyTree_isGood_136
      · have hr := (if_pos c14).symm.trans hr
        refine lv_iconst (pc := 131) (v := 1) hx hb d_KeyTree_isGood_131 (by decide) ?_
        refine lv_goto (pc := 132) (tgt := 136) hx hb d_KeyTree_isGood_132 (by decide) ?_
        exact p_zret (v := (1 : Int32)) hy rfl hr d_KeyTree_isGood_136
    · have hk := hk.2 c12
      have hr := (if_neg c12).symm.trans hr
      refine lv_aload_n (pc := 75) hx hb d_KeyTree_isGood_75 rfl (lv_at hl 1 rfl) ?_
      refine z_get (pc := 76) (v := .ref (ad (15, i1, j1))) hF hK.1 hW (tq14 h1) rfl rfl in_Message 0 (by decide) gw_137 rfl rfl d_KeyTree_isGood_76 ?_
      refine lv_bipush (pc := 79) (v := 6) hx hb d_KeyTree_isGood_79 (by decide) ?_
      refine lv_iload (pc := 81) hx hb d_KeyTree_isGood_81 (lv_at hl 4 rfl) ?_
      refine lv_iadd (pc := 83) hx hb d_KeyTree_isGood_83 ?_
      have b15 := hk.1
      have hk := hk.2
      refine z_lald (pc := 84) (v := S.2.1 15 i1 j1 ((6 : Int32) + l6).toNatClampNeg) hF hK.1 hW (tq15 h1) 1 rfl rfl b15 rfl d_KeyTree_isGood_84 ?_
      refine lv_lstore (pc := 85) (lv' := [(7, .long (S.2.1 15 i1 j1 ((6 : Int32) + l6).toNatClampNeg)), (0, .ref (ad (10, i0, 0))), (1, .ref (ad (14, i1, j1))), (3, .long l3), (5, .int l5), (6, .int l6)]) hx hb d_KeyTree_isGood_85 hl (by decide) rfl (fun ls hl => ?_)
      refine lv_iload (pc := 87) hx hb d_KeyTree_isGood_87 (lv_at hl 4 rfl) ?_
      refine lv_iconst (pc := 89) (v := 1) hx hb d_KeyTree_isGood_89 (by decide) ?_
      refine lv_iand (pc := 90) hx hb d_KeyTree_isGood_90 ?_
      refine lv_if_ne (pc := 91) (tgt := 103) hx hb d_KeyTree_isGood_91 (by decide) (fun c16 => ?_) (fun c16 => ?_)
      · have hk := hk.2 c16
        have hr := (if_neg c16).symm.trans hr
        refine lv_lload (pc := 103) hx hb d_KeyTree_isGood_103 (lv_at hl 0 rfl) ?_
        refine lv_lload_n (pc := 105) hx hb d_KeyTree_isGood_105 rfl (lv_at hl 3 rfl) ?_
        obtain ⟨r17, er17⟩ : ∃ z : Int64, z = f_Fold_pair (S.2.1 15 i1 j1 ((6 : Int32) + l6).toNatClampNeg) l3 S := ⟨_, rfl⟩
        have hk := lt_p er17 hk
        have hr := lt_e er17 hr
        refine p_go (pc := 106) (congrArg Value.long er17) (p_runS hF hK hW (c_Fold_pair l D X ad ca (S.2.1 15 i1 j1 ((6 : Int32) + l6).toNatClampNeg) l3 S _) cd_Fold_pair gw_247 ⟨Nat.le_of_ble_eq_true rfl, Nat.le_of_ble_eq_true rfl⟩ ⟨Nat.zero_le _, Nat.zero_le _⟩ rfl rfl hl.1 (Nat.le_of_ble_eq_true rfl) d_KeyTree_isGood_106) ?_
        refine lv_lstore_n (pc := 109) (lv' := [(3, .long r17), (7, .long (S.2.1 15 i1 j1 ((6 : Int32) + l6).toNatClampNeg)), (0, .ref (ad (10, i0, 0))), (1, .ref (ad (14, i1, j1))), (5, .int l5), (6, .int l6)]) hx hb d_KeyTree_isGood_109 rfl hl (by decide) rfl (fun ls hl => ?_)
        refine lv_iload (pc := 110) hx hb d_KeyTree_isGood_110 (lv_at hl 4 rfl) ?_
        refine lv_iconst (pc := 112) (v := 1) hx hb d_KeyTree_isGood_112 (by decide) ?_
        refine lv_ishr (pc := 113) hx hb d_KeyTree_isGood_113 ?_
        refine lv_istore (pc := 114) (lv' := [(5, .int (l5 >>> ((1 : Int32) &&& 31))), (3, .long r17), (7, .long (S.2.1 15 i1 j1 ((6 : Int32) + l6).toNatClampNeg)), (0, .ref (ad (10, i0, 0))), (1, .ref (ad (14, i1, j1))), (6, .int l6)]) hx hb d_KeyTree_isGood_114 hl (by decide) rfl (fun ls hl => ?_)
        refine lv_iinc (pc := 116) (v := l6 + (1 : Int32)) (lv' := [(6, .int (l6 + (1 : Int32))), (5, .int (l5 >>> ((1 : Int32) &&& 31))), (3, .long r17), (7, .long (S.2.1 15 i1 j1 ((6 : Int32) + l6).toNatClampNeg)), (0, .ref (ad (10, i0, 0))), (1, .ref (ad (14, i1, j1)))]) (k := 5) hx hb d_KeyTree_isGood_116 hl rfl (z_inc (by decide)) (by decide) rfl (fun ls hl => ?_)
        refine lv_goto (pc := 119) (tgt := 69) hx hb d_KeyTree_isGood_119 (by decide) ?_
        exact ih r17 (l5 >>> ((1 : Int32) &&& 31)) (l6 + (1 : Int32)) hk hr _ (lv_sub hl [4, 5, 2, 1, 0] rfl)
      · have hk := hk.1 c16
        have hr := (if_pos c16).symm.trans hr
        refine lv_lload_n (pc := 94) hx hb d_KeyTree_isGood_94 rfl (lv_at hl 3 rfl) ?_
        refine lv_lload (pc := 95) hx hb d_KeyTree_isGood_95 (lv_at hl 0 rfl) ?_
        obtain ⟨r18, er18⟩ : ∃ z : Int64, z = f_Fold_pair l3 (S.2.1 15 i1 j1 ((6 : Int32) + l6).toNatClampNeg) S := ⟨_, rfl⟩
        have hk := lt_p er18 hk
        have hr := lt_e er18 hr
        refine p_go (pc := 97) (congrArg Value.long er18) (p_runS hF hK hW (c_Fold_pair l D X ad ca l3 (S.2.1 15 i1 j1 ((6 : Int32) + l6).toNatClampNeg) S _) cd_Fold_pair gw_247 ⟨Nat.le_of_ble_eq_true rfl, Nat.le_of_ble_eq_true rfl⟩ ⟨Nat.zero_le _, Nat.zero_le _⟩ rfl rfl hl.1 (Nat.le_of_ble_eq_true rfl) d_KeyTree_isGood_97) ?_
        refine lv_goto (pc := 100) (tgt := 109) hx hb d_KeyTree_isGood_100 (by decide) ?_
        refine lv_lstore_n (pc := 109) (lv' := [(3, .long r18), (7, .long (S.2.1 15 i1 j1 ((6 : Int32) + l6).toNatClampNeg)), (0, .ref (ad (10, i0, 0))), (1, .ref (ad (14, i1, j1))), (5, .int l5), (6, .int l6)]) hx hb d_KeyTree_isGood_109 rfl hl (by decide) rfl (fun ls hl => ?_)
        refine lv_iload (pc := 110) hx hb d_KeyTree_isGood_110 (lv_at hl 4 rfl) ?_
        refine lv_iconst (pc := 112) (v := 1) hx hb d_KeyTree_isGood_112 (by decide) ?_
        refine lv_ishr (pc := 113) hx hb d_KeyTree_isGood_113 ?_
        refine lv_istore (pc := 114) (lv' := [(5, .int (l5 >>> ((1 : Int32) &&& 31))), (3, .long r18), (7, .long (S.2.1 15 i1 j1 ((6 : Int32) + l6).toNatClampNeg)), (0, .ref (ad (10, i0, 0))), (1, .ref (ad (14, i1, j1))), (6, .int l6)]) hx hb d_KeyTree_isGood_114 hl (by decide) rfl (fun ls hl => ?_)
        refine lv_iinc (pc := 116) (v := l6 + (1 : Int32)) (lv' := [(6, .int (l6 + (1 : Int32))), (5, .int (l5 >>> ((1 : Int32) &&& 31))), (3, .long r18), (7, .long (S.2.1 15 i1 j1 ((6 : Int32) + l6).toNatClampNeg)), (0, .ref (ad (10, i0, 0))), (1, .ref (ad (14, i1, j1)))]) (k := 5) hx hb d_KeyTree_isGood_116 hl rfl (z_inc (by decide)) (by decide) rfl (fun ls hl => ?_)
        refine lv_goto (pc := 119) (tgt := 69) hx hb d_KeyTree_isGood_119 (by decide) ?_
        exact ih r18 (l5 >>> ((1 : Int32) &&& 31)) (l6 + (1 : Int32)) hk hr _ (lv_sub hl [4, 5, 2, 1, 0] rfl)
def f_KeyTree_isGood_15 (i0 : Nat) (i1 : Nat) (j1 : Nat) : Nat → St → Int32 → Int64 → Int32 → Int32
  | 0, _, _, _, _ => 0
  | n + 1, S, l2, l3, l5 =>
    if (6 : Int32) ≤ l5 then
      lt (f_Fold_finish l3 S) fun (r6 : Int64) =>
      f_KeyTree_isGood_69 i0 i1 j1 200 S r6 ((32 : Int32) + (S.1 14 i1 j1 5)) (0 : Int32)
    else
      lt (f_KeyTree_digit l2 l5 S) fun (r8 : Int32) =>
      lt (f_Fold_afterSteps (S.2.1 15 i1 j1 l5.toNatClampNeg) ((15 : Int32) - r8) S) fun (r10 : Int64) =>
      lt (f_Fold_absorb l3 r10 S) fun (r11 : Int64) =>
      f_KeyTree_isGood_15 i0 i1 j1 n S l2 r11 (l5 + (1 : Int32))
def ok_KeyTree_isGood_15 (i0 : Nat) (i1 : Nat) (j1 : Nat) : Nat → St → Int32 → Int64 → Int32 → Prop
  | 0, _, _, _, _ => False
  | n + 1, S, l2, l3, l5 =>
    ((6 : Int32) ≤ l5 → (
      lt (f_Fold_finish l3 S) fun (r6 : Int64) =>
      ok_KeyTree_isGood_69 i0 i1 j1 200 S r6 ((32 : Int32) + (S.1 14 i1 j1 5)) (0 : Int32))) ∧ (¬ ((6 : Int32) ≤ l5) → (
      (vp_in l5 11) ∧ (
        lt (f_KeyTree_digit l2 l5 S) fun (r8 : Int32) =>
        (ok_Fold_afterSteps (S.2.1 15 i1 j1 l5.toNatClampNeg) ((15 : Int32) - r8) S) ∧ (
          lt (f_Fold_afterSteps (S.2.1 15 i1 j1 l5.toNatClampNeg) ((15 : Int32) - r8) S) fun (r10 : Int64) =>
          lt (f_Fold_absorb l3 r10 S) fun (r11 : Int64) =>
          ok_KeyTree_isGood_15 i0 i1 j1 n S l2 r11 (l5 + (1 : Int32))))))
set_option maxHeartbeats 4000000 in
set_option maxRecDepth 100000 in
theorem w_KeyTree_isGood_15 {l : Launch} {D : va_G} {X : va_W} {ad : N3 → Nat} {ca : Nat → ClassId} (i0 : Nat) (i1 : Nat) (j1 : Nat) (h0 : i0 < 4) (h1 : inM i1 j1) (S : St) {p : Program} {e : Env} {s : State} {m : MethodId} {below : List Frame} {meth : Method} {c : Code} (hy : Hy p s m ([.ref (ad (10, i0, 0)), .ref (ad (14, i1, j1))] : List Value).toArray meth c b_KeyTree_isGood 9 (some .boolean) R_KeyTree GG D clQ (tysQ ca) nwQ) (hW : Wd D clQ (fun _ => True) s.heap (zw X ad TQ (cfQ ad ca) S) s.heap []) {res : Int32} : ∀ (n : Nat) (l2 : Int32) (l3 : Int64) (l5 : Int32) , ok_KeyTree_isGood_15 i0 i1 j1 n S l2 l3 l5 → f_KeyTree_isGood_15 i0 i1 j1 n S l2 l3 l5 = res → ∀ (ls : Array Slot), lv_has ls 9 [(0, .ref (ad (10, i0, 0))), (1, .ref (ad (14, i1, j1))), (2, .int l2), (3, .long l3), (5, .int l5)] → W p l e { frames := 2, cells := 0, slots := 0, locals := 50 } s m ([.ref (ad (10, i0, 0)), .ref (ad (14, i1, j1))] : List Value).toArray below meth c s.heap [] 0 0 (MQ below (eP (.int res)) ([.ref (ad (10, i0, 0)), .ref (ad (14, i1, j1))] : List Value).toArray s 0 0 nof) (F0 m 15 ls []) := by
  have hF := hy.1
  have hx := hF.1
  have hb := hF.2.1
  have hK := hy.2.2.2
  intro n
  induction n with
  | zero =>
    intro l2 l3 l5 hk
    exact hk.elim
  | succ n ih =>
    intro l2 l3 l5 hk hr ls hl
    refine lv_iload (pc := 15) hx hb d_KeyTree_isGood_15 (lv_at hl 4 rfl) ?_
    refine lv_bipush (pc := 17) (v := 6) hx hb d_KeyTree_isGood_17 (by decide) ?_
    refine lv_icmp_ge (pc := 19) (tgt := 52) hx hb d_KeyTree_isGood_19 (by decide) (fun c5 => ?_) (fun c5 => ?_)
    · have hk := hk.1 c5
      have hr := (if_pos c5).symm.trans hr
      refine lv_lload_n (pc := 52) hx hb d_KeyTree_isGood_52 rfl (lv_at hl 3 rfl) ?_
      obtain ⟨r6, er6⟩ : ∃ z : Int64, z = f_Fold_finish l3 S := ⟨_, rfl⟩
      have hk := lt_p er6 hk
      have hr := lt_e er6 hr
      refine p_go (pc := 53) (congrArg Value.long er6) (p_runS hF hK hW (c_Fold_finish l D X ad ca l3 S _) cd_Fold_finish gw_236 ⟨Nat.le_of_ble_eq_true rfl, Nat.le_of_ble_eq_true rfl⟩ ⟨Nat.zero_le _, Nat.zero_le _⟩ rfl rfl hl.1 (Nat.le_of_ble_eq_true rfl) d_KeyTree_isGood_53) ?_
      refine lv_lstore_n (pc := 56) (lv' := [(3, .long r6), (0, .ref (ad (10, i0, 0))), (1, .ref (ad (14, i1, j1))), (2, .int l2), (5, .int l5)]) hx hb d_KeyTree_isGood_56 rfl hl (by decide) rfl (fun ls hl => ?_)
      refine lv_bipush (pc := 57) (v := 32) hx hb d_KeyTree_isGood_57 (by decide) ?_
      refine lv_aload_n (pc := 59) hx hb d_KeyTree_isGood_59 rfl (lv_at hl 2 rfl) ?_
      refine z_get (pc := 60) (v := .int (S.1 14 i1 j1 5)) hF hK.1 hW (tq14 h1) rfl rfl in_Message 5 (by decide) gw_148 rfl rfl d_KeyTree_isGood_60 ?_
      refine lv_iadd (pc := 63) hx hb d_KeyTree_isGood_63 ?_
      refine lv_istore (pc := 64) (lv' := [(5, .int ((32 : Int32) + (S.1 14 i1 j1 5))), (3, .long r6), (0, .ref (ad (10, i0, 0))), (1, .ref (ad (14, i1, j1))), (2, .int l2)]) hx hb d_KeyTree_isGood_64 hl (by decide) rfl (fun ls hl => ?_)
      refine lv_iconst (pc := 66) (v := 0) hx hb d_KeyTree_isGood_66 (by decide) ?_
      refine lv_istore (pc := 67) (lv' := [(6, .int (0 : Int32)), (5, .int ((32 : Int32) + (S.1 14 i1 j1 5))), (3, .long r6), (0, .ref (ad (10, i0, 0))), (1, .ref (ad (14, i1, j1))), (2, .int l2)]) hx hb d_KeyTree_isGood_67 hl (by decide) rfl (fun ls hl => ?_)
      exact w_KeyTree_isGood_69 i0 i1 j1 h0 h1 S hy hW 200 r6 ((32 : Int32) + (S.1 14 i1 j1 5)) (0 : Int32) hk hr _ (lv_sub hl [3, 4, 2, 1, 0] rfl)
    · have hk := hk.2 c5
      have hr := (if_neg c5).symm.trans hr
      refine lv_lload_n (pc := 22) hx hb d_KeyTree_isGood_22 rfl (lv_at hl 3 rfl) ?_
      refine lv_aload_n (pc := 23) hx hb d_KeyTree_isGood_23 rfl (lv_at hl 1 rfl) ?_
      refine z_get (pc := 24) (v := .ref (ad (15, i1, j1))) hF hK.1 hW (tq14 h1) rfl rfl in_Message 0 (by decide) gw_137 rfl rfl d_KeyTree_isGood_24 ?_
      refine lv_iload (pc := 27) hx hb d_KeyTree_isGood_27 (lv_at hl 4 rfl) ?_
      have b7 := hk.1
      have hk := hk.2
      refine z_lald (pc := 29) (v := S.2.1 15 i1 j1 l5.toNatClampNeg) hF hK.1 hW (tq15 h1) 1 rfl rfl b7 rfl d_KeyTree_isGood_29 ?_
      refine lv_bipush (pc := 30) (v := 15) hx hb d_KeyTree_isGood_30 (by decide) ?_
      refine lv_iload_n (pc := 32) hx hb d_KeyTree_isGood_32 rfl (lv_at hl 2 rfl) ?_
      refine lv_iload (pc := 33) hx hb d_KeyTree_isGood_33 (lv_at hl 4 rfl) ?_
      obtain ⟨r8, er8⟩ : ∃ z : Int32, z = f_KeyTree_digit l2 l5 S := ⟨_, rfl⟩
      have hk := lt_p er8 hk
      have hr := lt_e er8 hr
      refine p_go (pc := 35) (congrArg Value.int er8) (p_runS hF hK hW (c_KeyTree_digit l D X ad ca l2 l5 S _) cd_KeyTree_digit gw_404 ⟨Nat.le_of_ble_eq_true rfl, Nat.le_of_ble_eq_true rfl⟩ ⟨Nat.zero_le _, Nat.zero_le _⟩ rfl rfl hl.1 (Nat.le_of_ble_eq_true rfl) d_KeyTree_isGood_35) ?_
      refine lv_isub (pc := 38) hx hb d_KeyTree_isGood_38 ?_
      have o9 := hk.1
      have hk := hk.2
      obtain ⟨r10, er10⟩ : ∃ z : Int64, z = f_Fold_afterSteps (S.2.1 15 i1 j1 l5.toNatClampNeg) ((15 : Int32) - r8) S := ⟨_, rfl⟩
      have hk := lt_p er10 hk
      have hr := lt_e er10 hr
      refine p_go (pc := 39) (congrArg Value.long er10) (p_runS hF hK hW (c_Fold_afterSteps l D X ad ca (S.2.1 15 i1 j1 l5.toNatClampNeg) ((15 : Int32) - r8) S o9 _) cd_Fold_afterSteps gw_240 ⟨Nat.le_of_ble_eq_true rfl, Nat.le_of_ble_eq_true rfl⟩ ⟨Nat.zero_le _, Nat.zero_le _⟩ rfl rfl hl.1 (Nat.le_of_ble_eq_true rfl) d_KeyTree_isGood_39) ?_
      obtain ⟨r11, er11⟩ : ∃ z : Int64, z = f_Fold_absorb l3 r10 S := ⟨_, rfl⟩
      have hk := lt_p er11 hk
      have hr := lt_e er11 hr
      refine p_go (pc := 42) (congrArg Value.long er11) (p_runS hF hK hW (c_Fold_absorb l D X ad ca l3 r10 S _) cd_Fold_absorb gw_232 ⟨Nat.le_of_ble_eq_true rfl, Nat.le_of_ble_eq_true rfl⟩ ⟨Nat.zero_le _, Nat.zero_le _⟩ rfl rfl hl.1 (Nat.le_of_ble_eq_true rfl) d_KeyTree_isGood_42) ?_
      refine lv_lstore_n (pc := 45) (lv' := [(3, .long r11), (0, .ref (ad (10, i0, 0))), (1, .ref (ad (14, i1, j1))), (2, .int l2), (5, .int l5)]) hx hb d_KeyTree_isGood_45 rfl hl (by decide) rfl (fun ls hl => ?_)
      refine lv_iinc (pc := 46) (v := l5 + (1 : Int32)) (lv' := [(5, .int (l5 + (1 : Int32))), (3, .long r11), (0, .ref (ad (10, i0, 0))), (1, .ref (ad (14, i1, j1))), (2, .int l2)]) (k := 4) hx hb d_KeyTree_isGood_46 hl rfl (z_inc (by decide)) (by decide) rfl (fun ls hl => ?_)
      refine lv_goto (pc := 49) (tgt := 15) hx hb d_KeyTree_isGood_49 (by decide) ?_
      exact ih l2 r11 (l5 + (1 : Int32)) hk hr _ (lv_sub hl [2, 3, 4, 1, 0] rfl)
def f_KeyTree_isGood (i0 : Nat) (i1 : Nat) (j1 : Nat) (S : St) : Int32 :=
  lt (f_Message_meaning i1 j1 S) fun (r2 : Int64) =>
  lt (f_KeyTree_digitsOf r2 S) fun (r4 : Int32) =>
  f_KeyTree_isGood_15 i0 i1 j1 200 S r4 (-7046029254386353131 : Int64) (0 : Int32)
def ok_KeyTree_isGood (i0 : Nat) (i1 : Nat) (j1 : Nat) (S : St) : Prop :=
  (ok_Message_meaning i1 j1 S) ∧ (
    lt (f_Message_meaning i1 j1 S) fun (r2 : Int64) =>
    (ok_KeyTree_digitsOf r2 S) ∧ (
      lt (f_KeyTree_digitsOf r2 S) fun (r4 : Int32) =>
      ok_KeyTree_isGood_15 i0 i1 j1 200 S r4 (-7046029254386353131 : Int64) (0 : Int32)))
set_option maxHeartbeats 4000000 in
set_option maxRecDepth 100000 in
theorem c_KeyTree_isGood (l : Launch) (D : va_G) (X : va_W) (ad : N3 → Nat) (ca : Nat → ClassId) (i0 : Nat) (i1 : Nat) (j1 : Nat) (h0 : i0 < 4) (h1 : inM i1 j1) (S : St) (hk : ok_KeyTree_isGood i0 i1 j1 S) : cP l GG D clQ (tysQ ca) nwQ (zw X ad TQ (cfQ ad ca) S) y_KeyTree_isGood b_KeyTree_isGood 9 .boolean 2 50 [.ref (ad (10, i0, 0)), .ref (ad (14, i1, j1))] (.int (f_KeyTree_isGood i0 i1 j1 S)) := by
  generalize hr : f_KeyTree_isGood i0 i1 j1 S = res
  refine zP_of pn_KeyTree (Nat.le_of_ble_eq_true rfl) (fun p e s m below meth c ls hy hW hl => ?_)
  have hF := hy.1
  have hx := hF.1
  have hb := hF.2.1
  have hK := hy.2.2.2
  have hl : lv_has ls 9 [(0, .ref (ad (10, i0, 0))), (1, .ref (ad (14, i1, j1)))] := hl
  refine lv_aload_n (pc := 0) hx hb d_KeyTree_isGood_0 rfl (lv_at hl 1 rfl) ?_
  have o1 := hk.1
  have hk := hk.2
  obtain ⟨r2, er2⟩ : ∃ z : Int64, z = f_Message_meaning i1 j1 S := ⟨_, rfl⟩
  have hk := lt_p er2 hk
  have hr := lt_e er2 hr
  refine p_go (pc := 1) (congrArg Value.long er2) (p_runV hF hK hW (c_Message_meaning l D X ad ca i1 j1 h1 S o1 _) cd_Message_meaning gw_393 (tq14 h1) rfl rfl ⟨Nat.le_of_ble_eq_true rfl, Nat.le_of_ble_eq_true rfl⟩ ⟨Nat.zero_le _, Nat.zero_le _⟩ rfl rfl hl.1 (Nat.le_of_ble_eq_true rfl) d_KeyTree_isGood_1) ?_
  have o3 := hk.1
  have hk := hk.2
  obtain ⟨r4, er4⟩ : ∃ z : Int32, z = f_KeyTree_digitsOf r2 S := ⟨_, rfl⟩
  have hk := lt_p er4 hk
  have hr := lt_e er4 hr
  refine p_go (pc := 4) (congrArg Value.int er4) (p_runS hF hK hW (c_KeyTree_digitsOf l D X ad ca r2 S o3 _) cd_KeyTree_digitsOf gw_400 ⟨Nat.le_of_ble_eq_true rfl, Nat.le_of_ble_eq_true rfl⟩ ⟨Nat.zero_le _, Nat.zero_le _⟩ rfl rfl hl.1 (Nat.le_of_ble_eq_true rfl) d_KeyTree_isGood_4) ?_
  refine lv_istore_n (pc := 7) (lv' := [(2, .int r4), (0, .ref (ad (10, i0, 0))), (1, .ref (ad (14, i1, j1)))]) hx hb d_KeyTree_isGood_7 rfl hl (by decide) rfl (fun ls hl => ?_)
  refine lv_ldc2 (pc := 8) hx hb hF.2.2.2.1 (hF.2.2.2.2 _ gw_228) d_KeyTree_isGood_8 ?_
  refine lv_lstore_n (pc := 11) (lv' := [(3, .long (-7046029254386353131 : Int64)), (2, .int r4), (0, .ref (ad (10, i0, 0))), (1, .ref (ad (14, i1, j1)))]) hx hb d_KeyTree_isGood_11 rfl hl (by decide) rfl (fun ls hl => ?_)
  refine lv_iconst (pc := 12) (v := 0) hx hb d_KeyTree_isGood_12 (by decide) ?_
  refine lv_istore (pc := 13) (lv' := [(5, .int (0 : Int32)), (3, .long (-7046029254386353131 : Int64)), (2, .int r4), (0, .ref (ad (10, i0, 0))), (1, .ref (ad (14, i1, j1)))]) hx hb d_KeyTree_isGood_13 hl (by decide) rfl (fun ls hl => ?_)
  exact w_KeyTree_isGood_15 i0 i1 j1 h0 h1 S hy hW 200 r4 (-7046029254386353131 : Int64) (0 : Int32) hk hr _ (lv_sub hl [3, 4, 2, 1, 0] rfl)
theorem d_QC_isHeard_0 : decode b_QC_isHeard 0 = .ok (.aload_n 1, 1) := by decide +kernel
theorem d_QC_isHeard_1 : decode b_QC_isHeard 1 = .ok (.getfield 123, 3) := by decide +kernel
theorem d_QC_isHeard_4 : decode b_QC_isHeard 4 = .ok (.iconst 4, 1) := by decide +kernel
theorem d_QC_isHeard_5 : decode b_QC_isHeard 5 = .ok (.if_icmp .eq 11, 3) := by decide +kernel
theorem d_QC_isHeard_8 : decode b_QC_isHeard 8 = .ok (.aload_n 1, 1) := by decide +kernel
theorem d_QC_isHeard_9 : decode b_QC_isHeard 9 = .ok (.getfield 123, 3) := by decide +kernel
theorem d_QC_isHeard_12 : decode b_QC_isHeard 12 = .ok (.iconst 5, 1) := by decide +kernel
theorem d_QC_isHeard_13 : decode b_QC_isHeard 13 = .ok (.if_icmp .ne 5, 3) := by decide +kernel
theorem d_QC_isHeard_16 : decode b_QC_isHeard 16 = .ok (.iconst 1, 1) := by decide +kernel
theorem d_QC_isHeard_17 : decode b_QC_isHeard 17 = .ok (.ireturn, 1) := by decide +kernel
theorem d_QC_isHeard_18 : decode b_QC_isHeard 18 = .ok (.aload_n 1, 1) := by decide +kernel
theorem d_QC_isHeard_19 : decode b_QC_isHeard 19 = .ok (.getfield 123, 3) := by decide +kernel
theorem d_QC_isHeard_22 : decode b_QC_isHeard 22 = .ok (.iconst 1, 1) := by decide +kernel
theorem d_QC_isHeard_23 : decode b_QC_isHeard 23 = .ok (.if_icmp .ne 26, 3) := by decide +kernel
theorem d_QC_isHeard_26 : decode b_QC_isHeard 26 = .ok (.aload_n 0, 1) := by decide +kernel
theorem d_QC_isHeard_27 : decode b_QC_isHeard 27 = .ok (.getfield 18, 3) := by decide +kernel
theorem d_QC_isHeard_30 : decode b_QC_isHeard 30 = .ok (.aload_n 1, 1) := by decide +kernel
theorem d_QC_isHeard_31 : decode b_QC_isHeard 31 = .ok (.getfield 129, 3) := by decide +kernel
theorem d_QC_isHeard_34 : decode b_QC_isHeard 34 = .ok (.invokevirtual 203, 3) := by decide +kernel
theorem d_QC_isHeard_37 : decode b_QC_isHeard 37 = .ok (.invokestatic 173, 3) := by decide +kernel
theorem d_QC_isHeard_40 : decode b_QC_isHeard 40 = .ok (.aload_n 1, 1) := by decide +kernel
theorem d_QC_isHeard_41 : decode b_QC_isHeard 41 = .ok (.getfield 126, 3) := by decide +kernel
theorem d_QC_isHeard_44 : decode b_QC_isHeard 44 = .ok (.if_icmp .eq 5, 3) := by decide +kernel
theorem d_QC_isHeard_47 : decode b_QC_isHeard 47 = .ok (.iconst 0, 1) := by decide +kernel
theorem d_QC_isHeard_48 : decode b_QC_isHeard 48 = .ok (.ireturn, 1) := by decide +kernel
theorem d_QC_isHeard_49 : decode b_QC_isHeard 49 = .ok (.aload_n 1, 1) := by decide +kernel
theorem d_QC_isHeard_50 : decode b_QC_isHeard 50 = .ok (.getfield 126, 3) := by decide +kernel
theorem d_QC_isHeard_53 : decode b_QC_isHeard 53 = .ok (.invokestatic 68, 3) := by decide +kernel
theorem d_QC_isHeard_56 : decode b_QC_isHeard 56 = .ok (.ifCond .eq 29, 3) := by decide +kernel
theorem d_QC_isHeard_59 : decode b_QC_isHeard 59 = .ok (.aload_n 0, 1) := by decide +kernel
theorem d_QC_isHeard_60 : decode b_QC_isHeard 60 = .ok (.getfield 11, 3) := by decide +kernel
theorem d_QC_isHeard_63 : decode b_QC_isHeard 63 = .ok (.aload_n 1, 1) := by decide +kernel
theorem d_QC_isHeard_64 : decode b_QC_isHeard 64 = .ok (.getfield 126, 3) := by decide +kernel
theorem d_QC_isHeard_67 : decode b_QC_isHeard 67 = .ok (.aaload, 1) := by decide +kernel
theorem d_QC_isHeard_68 : decode b_QC_isHeard 68 = .ok (.getfield 179, 3) := by decide +kernel
theorem d_QC_isHeard_71 : decode b_QC_isHeard 71 = .ok (.getfield 183, 3) := by decide +kernel
theorem d_QC_isHeard_74 : decode b_QC_isHeard 74 = .ok (.aload_n 1, 1) := by decide +kernel
theorem d_QC_isHeard_75 : decode b_QC_isHeard 75 = .ok (.invokevirtual 306, 3) := by decide +kernel
theorem d_QC_isHeard_78 : decode b_QC_isHeard 78 = .ok (.ifCond .eq 7, 3) := by decide +kernel
theorem d_QC_isHeard_81 : decode b_QC_isHeard 81 = .ok (.iconst 1, 1) := by decide +kernel
theorem d_QC_isHeard_82 : decode b_QC_isHeard 82 = .ok (.goto 4, 3) := by decide +kernel
theorem d_QC_isHeard_85 : decode b_QC_isHeard 85 = .ok (.iconst 0, 1) := by decide +kernel
theorem d_QC_isHeard_86 : decode b_QC_isHeard 86 = .ok (.ireturn, 1) := by decide +kernel
def f_QC_isHeard_49 (i1 : Nat) (j1 : Nat) (S : St)  : Int32 :=
  lt (f_QC_isNode (S.1 14 i1 j1 2) S) fun (r8 : Int32) =>
  if r8 = 0 then
    (0 : Int32)
  else
    lt (f_KeyTree_isGood ((S.1 14 i1 j1 2).toNatClampNeg) i1 j1 S) fun (r12 : Int32) =>
    if r12 = 0 then
      (0 : Int32)
    else
      (1 : Int32)
def ok_QC_isHeard_49 (i1 : Nat) (j1 : Nat) (S : St)  : Prop :=
  lt (f_QC_isNode (S.1 14 i1 j1 2) S) fun (r8 : Int32) =>
  (r8 = 0 → (
    True)) ∧ (¬ (r8 = 0) → (
    (vp_in (S.1 14 i1 j1 2) 4) ∧ (
      (ok_KeyTree_isGood ((S.1 14 i1 j1 2).toNatClampNeg) i1 j1 S) ∧ (
        True))))
set_option maxHeartbeats 4000000 in
set_option maxRecDepth 100000 in
theorem w_QC_isHeard_49 {l : Launch} {D : va_G} {X : va_W} {ad : N3 → Nat} {ca : Nat → ClassId} (i1 : Nat) (j1 : Nat) (h1 : inM i1 j1) (S : St) {p : Program} {e : Env} {s : State} {m : MethodId} {below : List Frame} {meth : Method} {c : Code} (hy : Hy p s m ([.ref (ad (1, 0, 0)), .ref (ad (14, i1, j1))] : List Value).toArray meth c b_QC_isHeard 2 (some .boolean) R_QC GG D clQ (tysQ ca) nwQ) (hW : Wd D clQ (fun _ => True) s.heap (zw X ad TQ (cfQ ad ca) S) s.heap []) {res : Int32} : ok_QC_isHeard_49 i1 j1 S → f_QC_isHeard_49 i1 j1 S = res → ∀ (ls : Array Slot), lv_has ls 2 [(0, .ref (ad (1, 0, 0))), (1, .ref (ad (14, i1, j1)))] → W p l e { frames := 3, cells := 0, slots := 0, locals := 78 } s m ([.ref (ad (1, 0, 0)), .ref (ad (14, i1, j1))] : List Value).toArray below meth c s.heap [] 0 0 (MQ below (eP (.int res)) ([.ref (ad (1, 0, 0)), .ref (ad (14, i1, j1))] : List Value).toArray s 0 0 nof) (F0 m 49 ls []) := by
  have hF := hy.1
  have hx := hF.1
  have hb := hF.2.1
  have hK := hy.2.2.2
  intro  hk hr ls hl
  refine lv_aload_n (pc := 49) hx hb d_QC_isHeard_49 rfl (lv_at hl 1 rfl) ?_
  refine z_get (pc := 50) (v := .int (S.1 14 i1 j1 2)) hF hK.1 hW (tq14 h1) rfl rfl in_Message 2 (by decide) gw_142 rfl rfl d_QC_isHeard_50 ?_
  obtain ⟨r8, er8⟩ : ∃ z : Int32, z = f_QC_isNode (S.1 14 i1 j1 2) S := ⟨_, rfl⟩
  have hk := lt_p er8 hk
  have hr := lt_e er8 hr
  refine p_go (pc := 53) (congrArg Value.int er8) (p_runS hF hK hW (c_QC_isNode l D X ad ca (S.1 14 i1 j1 2) S _) cd_QC_isNode gw_430 ⟨Nat.le_of_ble_eq_true rfl, Nat.le_of_ble_eq_true rfl⟩ ⟨Nat.zero_le _, Nat.zero_le _⟩ rfl rfl hl.1 (Nat.le_of_ble_eq_true rfl) d_QC_isHeard_53) ?_
  refine lv_if_eq (pc := 56) (tgt := 85) hx hb d_QC_isHeard_56 (by decide) (fun c9 => ?_) (fun c9 => ?_)
  · have hk := hk.1 c9
    have hr := (if_pos c9).symm.trans hr
    refine lv_iconst (pc := 85) (v := 0) hx hb d_QC_isHeard_85 (by decide) ?_
    exact p_zret (v := (0 : Int32)) hy rfl hr d_QC_isHeard_86
  · have hk := hk.2 c9
    have hr := (if_neg c9).symm.trans hr
    refine lv_aload_n (pc := 59) hx hb d_QC_isHeard_59 rfl (lv_at hl 0 rfl) ?_
    refine z_get (pc := 60) (v := .ref (ad (2, 0, 0))) hF hK.1 hW tq1 rfl rfl in_QC 0 (by decide) gw_344 rfl rfl d_QC_isHeard_60 ?_
    refine lv_aload_n (pc := 63) hx hb d_QC_isHeard_63 rfl (lv_at hl 1 rfl) ?_
    refine z_get (pc := 64) (v := .int (S.1 14 i1 j1 2)) hF hK.1 hW (tq14 h1) rfl rfl in_Message 2 (by decide) gw_142 rfl rfl d_QC_isHeard_64 ?_
    have b10 := hk.1
    have hk := hk.2
    refine z_aald (pc := 67) (q := ad (3, ((S.1 14 i1 j1 2).toNatClampNeg), 0)) hF hK.1 hW tq2 3 rfl rfl b10 rfl d_QC_isHeard_67 ?_
    refine z_get (pc := 68) (v := .ref (ad (4, ((S.1 14 i1 j1 2).toNatClampNeg), 0))) hF hK.1 hW (tq3 (vin4 b10)) rfl rfl in_Node 1 (by decide) gw_298 rfl rfl d_QC_isHeard_68 ?_
    refine z_get (pc := 71) (v := .ref (ad (10, ((S.1 14 i1 j1 2).toNatClampNeg), 0))) hF hK.1 hW (tq4 (vin4 b10)) rfl rfl in_Store 3 (by decide) gw_270 rfl rfl d_QC_isHeard_71 ?_
    refine lv_aload_n (pc := 74) hx hb d_QC_isHeard_74 rfl (lv_at hl 1 rfl) ?_
    have o11 := hk.1
    have hk := hk.2
    obtain ⟨r12, er12⟩ : ∃ z : Int32, z = f_KeyTree_isGood ((S.1 14 i1 j1 2).toNatClampNeg) i1 j1 S := ⟨_, rfl⟩
    have hr := lt_e er12 hr
    refine p_go (pc := 75) (congrArg Value.int er12) (p_runV hF hK hW (c_KeyTree_isGood l D X ad ca ((S.1 14 i1 j1 2).toNatClampNeg) i1 j1 (vin4 b10) h1 S o11 _) cd_KeyTree_isGood gw_673 (tq10 (vin4 b10)) rfl rfl ⟨Nat.le_of_ble_eq_true rfl, Nat.le_of_ble_eq_true rfl⟩ ⟨Nat.zero_le _, Nat.zero_le _⟩ rfl rfl hl.1 (Nat.le_of_ble_eq_true rfl) d_QC_isHeard_75) ?_
    refine lv_if_eq (pc := 78) (tgt := 85) hx hb d_QC_isHeard_78 (by decide) (fun c13 => ?_) (fun c13 => ?_)
    · have hr := (if_pos c13).symm.trans hr
      refine lv_iconst (pc := 85) (v := 0) hx hb d_QC_isHeard_85 (by decide) ?_
      exact p_zret (v := (0 : Int32)) hy rfl hr d_QC_isHeard_86
    · have hr := (if_neg c13).symm.trans hr
      refine lv_iconst (pc := 81) (v := 1) hx hb d_QC_isHeard_81 (by decide) ?_
      refine lv_goto (pc := 82) (tgt := 86) hx hb d_QC_isHeard_82 (by decide) ?_
      exact p_zret (v := (1 : Int32)) hy rfl hr d_QC_isHeard_86
def f_QC_isHeard (i1 : Nat) (j1 : Nat) (S : St) : Int32 :=
  if (S.1 14 i1 j1 1) = (4 : Int32) then
    (1 : Int32)
  else
    if (S.1 14 i1 j1 1) = (5 : Int32) then
      (1 : Int32)
    else
      if (S.1 14 i1 j1 1) = (1 : Int32) then
        lt (f_Blocks_viewOf (S.1 14 i1 j1 3) S) fun (r5 : Int32) =>
        lt (f_QC_leaderOf r5 S) fun (r6 : Int32) =>
        if r6 = (S.1 14 i1 j1 2) then
          f_QC_isHeard_49 i1 j1 S
        else
          (0 : Int32)
      else
        f_QC_isHeard_49 i1 j1 S
def ok_QC_isHeard (i1 : Nat) (j1 : Nat) (S : St) : Prop :=
  ((S.1 14 i1 j1 1) = (4 : Int32) → (
    True)) ∧ (¬ ((S.1 14 i1 j1 1) = (4 : Int32)) → (
    ((S.1 14 i1 j1 1) = (5 : Int32) → (
      True)) ∧ (¬ ((S.1 14 i1 j1 1) = (5 : Int32)) → (
      ((S.1 14 i1 j1 1) = (1 : Int32) → (
        (ok_Blocks_viewOf (S.1 14 i1 j1 3) S) ∧ (
          lt (f_Blocks_viewOf (S.1 14 i1 j1 3) S) fun (r5 : Int32) =>
          lt (f_QC_leaderOf r5 S) fun (r6 : Int32) =>
          (r6 = (S.1 14 i1 j1 2) → (
            ok_QC_isHeard_49 i1 j1 S)) ∧ (¬ (r6 = (S.1 14 i1 j1 2)) → (
            True))))) ∧ (¬ ((S.1 14 i1 j1 1) = (1 : Int32)) → (
        ok_QC_isHeard_49 i1 j1 S))))))
set_option maxHeartbeats 4000000 in
set_option maxRecDepth 100000 in
theorem c_QC_isHeard (l : Launch) (D : va_G) (X : va_W) (ad : N3 → Nat) (ca : Nat → ClassId) (i1 : Nat) (j1 : Nat) (h1 : inM i1 j1) (S : St) (hk : ok_QC_isHeard i1 j1 S) : cP l GG D clQ (tysQ ca) nwQ (zw X ad TQ (cfQ ad ca) S) y_QC_isHeard b_QC_isHeard 2 .boolean 3 78 [.ref (ad (1, 0, 0)), .ref (ad (14, i1, j1))] (.int (f_QC_isHeard i1 j1 S)) := by
  generalize hr : f_QC_isHeard i1 j1 S = res
  refine zP_of pn_QC (Nat.le_of_ble_eq_true rfl) (fun p e s m below meth c ls hy hW hl => ?_)
  have hF := hy.1
  have hx := hF.1
  have hb := hF.2.1
  have hK := hy.2.2.2
  have hl : lv_has ls 2 [(0, .ref (ad (1, 0, 0))), (1, .ref (ad (14, i1, j1)))] := hl
  refine lv_aload_n (pc := 0) hx hb d_QC_isHeard_0 rfl (lv_at hl 1 rfl) ?_
  refine z_get (pc := 1) (v := .int (S.1 14 i1 j1 1)) hF hK.1 hW (tq14 h1) rfl rfl in_Message 1 (by decide) gw_140 rfl rfl d_QC_isHeard_1 ?_
  refine lv_iconst (pc := 4) (v := 4) hx hb d_QC_isHeard_4 (by decide) ?_
  refine lv_icmp_eq (pc := 5) (tgt := 16) hx hb d_QC_isHeard_5 (by decide) (fun c1 => ?_) (fun c1 => ?_)
  · have hk := hk.1 c1
    have hr := (if_pos c1).symm.trans hr
    refine lv_iconst (pc := 16) (v := 1) hx hb d_QC_isHeard_16 (by decide) ?_
    exact p_zret (v := (1 : Int32)) hy rfl hr d_QC_isHeard_17
  · have hk := hk.2 c1
    have hr := (if_neg c1).symm.trans hr
    refine lv_aload_n (pc := 8) hx hb d_QC_isHeard_8 rfl (lv_at hl 1 rfl) ?_
    refine z_get (pc := 9) (v := .int (S.1 14 i1 j1 1)) hF hK.1 hW (tq14 h1) rfl rfl in_Message 1 (by decide) gw_140 rfl rfl d_QC_isHeard_9 ?_
    refine lv_iconst (pc := 12) (v := 5) hx hb d_QC_isHeard_12 (by decide) ?_
    refine lv_icmp_ne (pc := 13) (tgt := 18) hx hb d_QC_isHeard_13 (by decide) (fun c2 => ?_) (fun c2 => ?_)
    · have hk := hk.2 c2
      have hr := (if_neg c2).symm.trans hr
      refine lv_aload_n (pc := 18) hx hb d_QC_isHeard_18 rfl (lv_at hl 1 rfl) ?_
      refine z_get (pc := 19) (v := .int (S.1 14 i1 j1 1)) hF hK.1 hW (tq14 h1) rfl rfl in_Message 1 (by decide) gw_140 rfl rfl d_QC_isHeard_19 ?_
      refine lv_iconst (pc := 22) (v := 1) hx hb d_QC_isHeard_22 (by decide) ?_
      refine lv_icmp_ne (pc := 23) (tgt := 49) hx hb d_QC_isHeard_23 (by decide) (fun c3 => ?_) (fun c3 => ?_)
      · have hk := hk.2 c3
        have hr := (if_neg c3).symm.trans hr
        exact w_QC_isHeard_49 i1 j1 h1 S hy hW  hk hr _ (lv_sub hl [0, 1] rfl)
      · have hk := hk.1 c3
        have hr := (if_pos c3).symm.trans hr
        refine lv_aload_n (pc := 26) hx hb d_QC_isHeard_26 rfl (lv_at hl 0 rfl) ?_
        refine z_get (pc := 27) (v := .ref (ad (19, 0, 0))) hF hK.1 hW tq1 rfl rfl in_QC 1 (by decide) gw_345 rfl rfl d_QC_isHeard_27 ?_
        refine lv_aload_n (pc := 30) hx hb d_QC_isHeard_30 rfl (lv_at hl 1 rfl) ?_
        refine z_get (pc := 31) (v := .int (S.1 14 i1 j1 3)) hF hK.1 hW (tq14 h1) rfl rfl in_Message 3 (by decide) gw_144 rfl rfl d_QC_isHeard_31 ?_
        have o4 := hk.1
        have hk := hk.2
        obtain ⟨r5, er5⟩ : ∃ z : Int32, z = f_Blocks_viewOf (S.1 14 i1 j1 3) S := ⟨_, rfl⟩
        have hk := lt_p er5 hk
        have hr := lt_e er5 hr
        refine p_go (pc := 34) (congrArg Value.int er5) (p_runV hF hK hW (c_Blocks_viewOf l D X ad ca (S.1 14 i1 j1 3) S o4 _) cd_Blocks_viewOf gw_456 tq19 rfl rfl ⟨Nat.le_of_ble_eq_true rfl, Nat.le_of_ble_eq_true rfl⟩ ⟨Nat.zero_le _, Nat.zero_le _⟩ rfl rfl hl.1 (Nat.le_of_ble_eq_true rfl) d_QC_isHeard_34) ?_
        obtain ⟨r6, er6⟩ : ∃ z : Int32, z = f_QC_leaderOf r5 S := ⟨_, rfl⟩
        have hk := lt_p er6 hk
        have hr := lt_e er6 hr
        refine p_go (pc := 37) (congrArg Value.int er6) (p_runS hF hK hW (c_QC_leaderOf l D X ad ca r5 S _) cd_QC_leaderOf gw_670 ⟨Nat.le_of_ble_eq_true rfl, Nat.le_of_ble_eq_true rfl⟩ ⟨Nat.zero_le _, Nat.zero_le _⟩ rfl rfl hl.1 (Nat.le_of_ble_eq_true rfl) d_QC_isHeard_37) ?_
        refine lv_aload_n (pc := 40) hx hb d_QC_isHeard_40 rfl (lv_at hl 1 rfl) ?_
        refine z_get (pc := 41) (v := .int (S.1 14 i1 j1 2)) hF hK.1 hW (tq14 h1) rfl rfl in_Message 2 (by decide) gw_142 rfl rfl d_QC_isHeard_41 ?_
        refine lv_icmp_eq (pc := 44) (tgt := 49) hx hb d_QC_isHeard_44 (by decide) (fun c7 => ?_) (fun c7 => ?_)
        · have hk := hk.1 c7
          have hr := (if_pos c7).symm.trans hr
          exact w_QC_isHeard_49 i1 j1 h1 S hy hW  hk hr _ (lv_sub hl [0, 1] rfl)
        · have hk := hk.2 c7
          have hr := (if_neg c7).symm.trans hr
          refine lv_iconst (pc := 47) (v := 0) hx hb d_QC_isHeard_47 (by decide) ?_
          exact p_zret (v := (0 : Int32)) hy rfl hr d_QC_isHeard_48
    · have hk := hk.1 c2
      have hr := (if_pos c2).symm.trans hr
      refine lv_iconst (pc := 16) (v := 1) hx hb d_QC_isHeard_16 (by decide) ?_
      exact p_zret (v := (1 : Int32)) hy rfl hr d_QC_isHeard_17
theorem d_QC_sendUnsigned_0 : decode b_QC_sendUnsigned 0 = .ok (.aload_n 0, 1) := by decide +kernel
theorem d_QC_sendUnsigned_1 : decode b_QC_sendUnsigned 1 = .ok (.getfield 32, 3) := by decide +kernel
theorem d_QC_sendUnsigned_4 : decode b_QC_sendUnsigned 4 = .ok (.iload_n 2, 1) := by decide +kernel
theorem d_QC_sendUnsigned_5 : decode b_QC_sendUnsigned 5 = .ok (.aload_n 1, 1) := by decide +kernel
theorem d_QC_sendUnsigned_6 : decode b_QC_sendUnsigned 6 = .ok (.getfield 339, 3) := by decide +kernel
theorem d_QC_sendUnsigned_9 : decode b_QC_sendUnsigned 9 = .ok (.iload_n 3, 1) := by decide +kernel
theorem d_QC_sendUnsigned_10 : decode b_QC_sendUnsigned 10 = .ok (.iconst 0, 1) := by decide +kernel
theorem d_QC_sendUnsigned_11 : decode b_QC_sendUnsigned 11 = .ok (.invokevirtual 393, 3) := by decide +kernel
theorem d_QC_sendUnsigned_14 : decode b_QC_sendUnsigned 14 = .ok (.iload 4, 2) := by decide +kernel
theorem d_QC_sendUnsigned_16 : decode b_QC_sendUnsigned 16 = .ok (.invokestatic 68, 3) := by decide +kernel
theorem d_QC_sendUnsigned_19 : decode b_QC_sendUnsigned 19 = .ok (.ifCond .eq 20, 3) := by decide +kernel
theorem d_QC_sendUnsigned_22 : decode b_QC_sendUnsigned 22 = .ok (.aload_n 0, 1) := by decide +kernel
theorem d_QC_sendUnsigned_23 : decode b_QC_sendUnsigned 23 = .ok (.getfield 11, 3) := by decide +kernel
theorem d_QC_sendUnsigned_26 : decode b_QC_sendUnsigned 26 = .ok (.iload 4, 2) := by decide +kernel
theorem d_QC_sendUnsigned_28 : decode b_QC_sendUnsigned 28 = .ok (.aaload, 1) := by decide +kernel
theorem d_QC_sendUnsigned_29 : decode b_QC_sendUnsigned 29 = .ok (.getfield 99, 3) := by decide +kernel
theorem d_QC_sendUnsigned_32 : decode b_QC_sendUnsigned 32 = .ok (.aload_n 0, 1) := by decide +kernel
theorem d_QC_sendUnsigned_33 : decode b_QC_sendUnsigned 33 = .ok (.getfield 32, 3) := by decide +kernel
theorem d_QC_sendUnsigned_36 : decode b_QC_sendUnsigned 36 = .ok (.invokevirtual 157, 3) := by decide +kernel
theorem d_QC_sendUnsigned_39 : decode b_QC_sendUnsigned 39 = .ok (.return_, 1) := by decide +kernel
def f_QC_sendUnsigned (i1 : Nat) (a2 : Int32) (a3 : Int32) (a4 : Int32) (S : St) : St :=
  lt (f_Message_write 4 0 a2 (S.1 3 i1 0 0) a3 (0 : Int32) S) fun (S2 : St) =>
  lt (f_QC_isNode a4 S2) fun (r3 : Int32) =>
  if r3 = 0 then
    S2
  else
    lt (f_Inbox_add (a4.toNatClampNeg) 4 0 S2) fun (S8 : St) =>
    S8
def ok_QC_sendUnsigned (i1 : Nat) (a2 : Int32) (a3 : Int32) (a4 : Int32) (S : St) : Prop :=
  lt (f_Message_write 4 0 a2 (S.1 3 i1 0 0) a3 (0 : Int32) S) fun (S2 : St) =>
  lt (f_QC_isNode a4 S2) fun (r3 : Int32) =>
  (r3 = 0 → (
    True)) ∧ (¬ (r3 = 0) → (
    (vp_in a4 4) ∧ (
      (ok_Inbox_add (a4.toNatClampNeg) 4 0 S2) ∧ (
        True))))
set_option maxHeartbeats 4000000 in
set_option maxRecDepth 100000 in
theorem c_QC_sendUnsigned (l : Launch) (D : va_G) (X : va_W) (ad : N3 → Nat) (ca : Nat → ClassId) (i1 : Nat) (a2 : Int32) (a3 : Int32) (a4 : Int32) (h1 : i1 < 4) (S : St) (hk : ok_QC_sendUnsigned i1 a2 a3 a4 S) : cV l GG D clQ (tysQ ca) nwQ X ad TQ (cfQ ad ca) y_QC_sendUnsigned b_QC_sendUnsigned 5 3 122 [.ref (ad (1, 0, 0)), .ref (ad (3, i1, 0)), .int a2, .int a3, .int a4] S (f_QC_sendUnsigned i1 a2 a3 a4 S) := by
  generalize hr : f_QC_sendUnsigned i1 a2 a3 a4 S = res
  refine zV_of pn_QC (Nat.le_of_ble_eq_true rfl) (fun p e s m below meth c A ls hy hW hA hl => ?_)
  have hF := hy.1
  have hx := hF.1
  have hb := hF.2.1
  have hK := hy.2.2.2
  have hl : lv_has ls 5 [(0, .ref (ad (1, 0, 0))), (1, .ref (ad (3, i1, 0))), (2, .int a2), (3, .int a3), (4, .int a4)] := hl
  refine lv_aload_n (pc := 0) hx hb d_QC_sendUnsigned_0 rfl (lv_at hl 0 rfl) ?_
  refine z_get (pc := 1) (v := .ref (ad (14, 4, 0))) hF hK.1 hW tq1 rfl rfl in_QC 3 (by decide) gw_347 rfl rfl d_QC_sendUnsigned_1 ?_
  refine lv_iload_n (pc := 4) hx hb d_QC_sendUnsigned_4 rfl (lv_at hl 2 rfl) ?_
  refine lv_aload_n (pc := 5) hx hb d_QC_sendUnsigned_5 rfl (lv_at hl 1 rfl) ?_
  refine z_get (pc := 6) (v := .int (S.1 3 i1 0 0)) hF hK.1 hW (tq3 h1) rfl rfl in_Node 0 (by decide) gw_296 rfl rfl d_QC_sendUnsigned_6 ?_
  refine lv_iload_n (pc := 9) hx hb d_QC_sendUnsigned_9 rfl (lv_at hl 3 rfl) ?_
  refine lv_iconst (pc := 10) (v := 0) hx hb d_QC_sendUnsigned_10 (by decide) ?_
  obtain ⟨S2, eS2⟩ : ∃ z : St, z = f_Message_write 4 0 a2 (S.1 3 i1 0 0) a3 (0 : Int32) S := ⟨_, rfl⟩
  have hk := lt_p eS2 hk
  have hr := lt_e eS2 hr
  refine z_goV (pc := 11) hW hA eS2 (z_runV hF hK hW (c_Message_write l D X ad ca 4 0 a2 (S.1 3 i1 0 0) a3 (0 : Int32) inM_D S _) cd_Message_write gw_381 (tq14 inM_D) rfl rfl ⟨Nat.le_of_ble_eq_true rfl, Nat.le_of_ble_eq_true rfl⟩ ⟨Nat.zero_le _, Nat.zero_le _⟩ rfl rfl hl.1 (Nat.le_of_ble_eq_true rfl) d_QC_sendUnsigned_11) (fun H locs (hW : Wd D clQ A s.heap (zw X ad TQ (cfQ ad ca) S2) H locs) => ?_)
  refine lv_iload (pc := 14) hx hb d_QC_sendUnsigned_14 (lv_at hl 4 rfl) ?_
  obtain ⟨r3, er3⟩ : ∃ z : Int32, z = f_QC_isNode a4 S2 := ⟨_, rfl⟩
  have hk := lt_p er3 hk
  have hr := lt_e er3 hr
  refine p_go (pc := 16) (congrArg Value.int er3) (p_runS hF hK hW (c_QC_isNode l D X ad ca a4 S2 _) cd_QC_isNode gw_430 ⟨Nat.le_of_ble_eq_true rfl, Nat.le_of_ble_eq_true rfl⟩ ⟨Nat.zero_le _, Nat.zero_le _⟩ rfl rfl hl.1 (Nat.le_of_ble_eq_true rfl) d_QC_sendUnsigned_16) ?_
  refine lv_if_eq (pc := 19) (tgt := 39) hx hb d_QC_sendUnsigned_19 (by decide) (fun c4 => ?_) (fun c4 => ?_)
  · have hk := hk.1 c4
    have hr := (if_pos c4).symm.trans hr
    exact z_vret hy hW hr.symm d_QC_sendUnsigned_39
  · have hk := hk.2 c4
    have hr := (if_neg c4).symm.trans hr
    refine lv_aload_n (pc := 22) hx hb d_QC_sendUnsigned_22 rfl (lv_at hl 0 rfl) ?_
    refine z_get (pc := 23) (v := .ref (ad (2, 0, 0))) hF hK.1 hW tq1 rfl rfl in_QC 0 (by decide) gw_344 rfl rfl d_QC_sendUnsigned_23 ?_
    refine lv_iload (pc := 26) hx hb d_QC_sendUnsigned_26 (lv_at hl 4 rfl) ?_
    have b5 := hk.1
    have hk := hk.2
    refine z_aald (pc := 28) (q := ad (3, (a4.toNatClampNeg), 0)) hF hK.1 hW tq2 3 rfl rfl b5 rfl d_QC_sendUnsigned_28 ?_
    refine z_get (pc := 29) (v := .ref (ad (12, (a4.toNatClampNeg), 0))) hF hK.1 hW (tq3 (vin4 b5)) rfl rfl in_Node 2 (by decide) gw_300 rfl rfl d_QC_sendUnsigned_29 ?_
    refine lv_aload_n (pc := 32) hx hb d_QC_sendUnsigned_32 rfl (lv_at hl 0 rfl) ?_
    refine z_get (pc := 33) (v := .ref (ad (14, 4, 0))) hF hK.1 hW tq1 rfl rfl in_QC 3 (by decide) gw_347 rfl rfl d_QC_sendUnsigned_33 ?_
    have o6 := hk.1
    have hk := hk.2
    obtain ⟨S8, eS8⟩ : ∃ z : St, z = f_Inbox_add (a4.toNatClampNeg) 4 0 S2 := ⟨_, rfl⟩
    have hr := lt_e eS8 hr
    refine z_goV (pc := 36) hW hA eS8 (z_runV hF hK hW (c_Inbox_add l D X ad ca (a4.toNatClampNeg) 4 0 (vin4 b5) inM_D S2 o6 _) cd_Inbox_add gw_411 (tq12 (vin4 b5)) rfl rfl ⟨Nat.le_of_ble_eq_true rfl, Nat.le_of_ble_eq_true rfl⟩ ⟨Nat.zero_le _, Nat.zero_le _⟩ rfl rfl hl.1 (Nat.le_of_ble_eq_true rfl) d_QC_sendUnsigned_36) (fun H locs (hW : Wd D clQ A s.heap (zw X ad TQ (cfQ ad ca) S8) H locs) => ?_)
    exact z_vret hy hW hr.symm d_QC_sendUnsigned_39
