set_option maxHeartbeats 4000000 in
set_option maxRecDepth 100000 in
theorem cn_Fold_absorb (l : Launch) (D : va_G) (X : va_W) (ad : N3 → Nat) (ca : Nat → ClassId) (a0 : Int64) (a2 : Int64)  (S : St) : cP l GG D clQ (tysQ ca) nwN (zw X ad ([] : List N3) (cfQ ad ca) S) y_Fold_absorb b_Fold_absorb 6 .long 0 0 [.long a0, .long a2] (.long (f_Fold_absorb a0 a2 S)) := by
  generalize hr : f_Fold_absorb a0 a2 S = res
  refine zP_of pn_Fold (Nat.le_of_ble_eq_true rfl) (fun p e s m below meth c ls hy hW hl => ?_)
  have hF := hy.1
  have hx := hF.1
  have hb := hF.2.1
  have hK := hy.2.2.2
  have hl : lv_has ls 6 [(0, .long a0), (2, .long a2)] := hl
  refine lv_lload_n (pc := 0) hx hb d_Fold_absorb_0 rfl (lv_at hl 0 rfl) ?_
  refine lv_lload_n (pc := 1) hx hb d_Fold_absorb_1 rfl (lv_at hl 1 rfl) ?_
  refine lv_lxor (pc := 2) hx hb d_Fold_absorb_2 ?_
  refine lv_ldc2 (pc := 3) hx hb hF.2.2.2.1 (hF.2.2.2.2 _ gw_235) d_Fold_absorb_3 ?_
  refine lv_lmul (pc := 6) hx hb d_Fold_absorb_6 ?_
  refine lv_lstore (pc := 7) (lv' := [(4, .long ((a0 ^^^ a2) * (-4417276706812531889 : Int64))), (0, .long a0), (2, .long a2)]) hx hb d_Fold_absorb_7 hl (by decide) rfl (fun ls hl => ?_)
  refine lv_lload (pc := 9) hx hb d_Fold_absorb_9 (lv_at hl 0 rfl) ?_
  refine lv_lload (pc := 11) hx hb d_Fold_absorb_11 (lv_at hl 0 rfl) ?_
  refine lv_bipush (pc := 13) (v := 29) hx hb d_Fold_absorb_13 (by decide) ?_
  refine lv_lushr (pc := 15) hx hb d_Fold_absorb_15 rfl ?_
  refine lv_lxor (pc := 16) hx hb d_Fold_absorb_16 ?_
  exact p_lret (v := ((a0 ^^^ a2) * (-4417276706812531889 : Int64)) ^^^ ((((a0 ^^^ a2) * (-4417276706812531889 : Int64)).toUInt64 >>> ((29 : Int32).toInt64.toUInt64 &&& Int64.toUInt64 63)).toInt64)) hy hr d_Fold_absorb_17
set_option maxHeartbeats 4000000 in
set_option maxRecDepth 100000 in
theorem cn_Fold_finish (l : Launch) (D : va_G) (X : va_W) (ad : N3 → Nat) (ca : Nat → ClassId) (a0 : Int64)  (S : St) : cP l GG D clQ (tysQ ca) nwN (zw X ad ([] : List N3) (cfQ ad ca) S) y_Fold_finish b_Fold_finish 4 .long 0 0 [.long a0] (.long (f_Fold_finish a0 S)) := by
  generalize hr : f_Fold_finish a0 S = res
  refine zP_of pn_Fold (Nat.le_of_ble_eq_true rfl) (fun p e s m below meth c ls hy hW hl => ?_)
  have hF := hy.1
  have hx := hF.1
  have hb := hF.2.1
  have hK := hy.2.2.2
  have hl : lv_has ls 4 [(0, .long a0)] := hl
  refine lv_lload_n (pc := 0) hx hb d_Fold_finish_0 rfl (lv_at hl 0 rfl) ?_
  refine lv_ldc2 (pc := 1) hx hb hF.2.2.2.1 (hF.2.2.2.2 _ gw_239) d_Fold_finish_1 ?_
  refine lv_lmul (pc := 4) hx hb d_Fold_finish_4 ?_
  refine lv_lstore_n (pc := 5) (lv' := [(2, .long (a0 * (1609587929392839161 : Int64))), (0, .long a0)]) hx hb d_Fold_finish_5 rfl hl (by decide) rfl (fun ls hl => ?_)
  refine lv_lload_n (pc := 6) hx hb d_Fold_finish_6 rfl (lv_at hl 0 rfl) ?_
  refine lv_lload_n (pc := 7) hx hb d_Fold_finish_7 rfl (lv_at hl 0 rfl) ?_
  refine lv_bipush (pc := 8) (v := 32) hx hb d_Fold_finish_8 (by decide) ?_
  refine lv_lushr (pc := 10) hx hb d_Fold_finish_10 rfl ?_
  refine lv_lxor (pc := 11) hx hb d_Fold_finish_11 ?_
  exact p_lret (v := (a0 * (1609587929392839161 : Int64)) ^^^ (((a0 * (1609587929392839161 : Int64)).toUInt64 >>> ((32 : Int32).toInt64.toUInt64 &&& Int64.toUInt64 63)).toInt64)) hy hr d_Fold_finish_12
set_option maxHeartbeats 4000000 in
set_option maxRecDepth 100000 in
theorem cn_KeyTree_secretOf (l : Launch) (D : va_G) (X : va_W) (ad : N3 → Nat) (ca : Nat → ClassId) (a0 : Int32) (a1 : Int32) (a2 : Int32) (a3 : Int32)  (S : St) : cP l GG D clQ (tysQ ca) nwN (zw X ad ([] : List N3) (cfQ ad ca) S) y_KeyTree_secretOf b_KeyTree_secretOf 6 .long 1 25 [.int a0, .int a1, .int a2, .int a3] (.long (f_KeyTree_secretOf a0 a1 a2 a3 S)) := by
  generalize hr : f_KeyTree_secretOf a0 a1 a2 a3 S = res
  refine zP_of pn_KeyTree (Nat.le_of_ble_eq_true rfl) (fun p e s m below meth c ls hy hW hl => ?_)
  have hF := hy.1
  have hx := hF.1
  have hb := hF.2.1
  have hK := hy.2.2.2
  have hl : lv_has ls 6 [(0, .int a0), (1, .int a1), (2, .int a2), (3, .int a3)] := hl
  refine lv_ldc2 (pc := 0) hx hb hF.2.2.2.1 (hF.2.2.2.2 _ gw_228) d_KeyTree_secretOf_0 ?_
  refine lv_iload_n (pc := 3) hx hb d_KeyTree_secretOf_3 rfl (lv_at hl 0 rfl) ?_
  refine lv_i2l (pc := 4) hx hb d_KeyTree_secretOf_4 rfl ?_
  obtain ⟨r1, er1⟩ : ∃ z : Int64, z = f_Fold_absorb (-7046029254386353131 : Int64) a0.toInt64 S := ⟨_, rfl⟩
  have hr := lt_e er1 hr
  refine p_go (pc := 5) (congrArg Value.long er1) (p_runS hF hK hW (cn_Fold_absorb l D X ad ca (-7046029254386353131 : Int64) a0.toInt64 S _) cd_Fold_absorb gw_232 ⟨Nat.le_of_ble_eq_true rfl, Nat.le_of_ble_eq_true rfl⟩ ⟨Nat.zero_le _, Nat.zero_le _⟩ rfl rfl hl.1 (Nat.le_of_ble_eq_true rfl) d_KeyTree_secretOf_5) ?_
  refine lv_iload_n (pc := 8) hx hb d_KeyTree_secretOf_8 rfl (lv_at hl 1 rfl) ?_
  refine lv_i2l (pc := 9) hx hb d_KeyTree_secretOf_9 rfl ?_
  obtain ⟨r2, er2⟩ : ∃ z : Int64, z = f_Fold_absorb r1 a1.toInt64 S := ⟨_, rfl⟩
  have hr := lt_e er2 hr
  refine p_go (pc := 10) (congrArg Value.long er2) (p_runS hF hK hW (cn_Fold_absorb l D X ad ca r1 a1.toInt64 S _) cd_Fold_absorb gw_232 ⟨Nat.le_of_ble_eq_true rfl, Nat.le_of_ble_eq_true rfl⟩ ⟨Nat.zero_le _, Nat.zero_le _⟩ rfl rfl hl.1 (Nat.le_of_ble_eq_true rfl) d_KeyTree_secretOf_10) ?_
  refine lv_lstore (pc := 13) (lv' := [(4, .long r2), (0, .int a0), (1, .int a1), (2, .int a2), (3, .int a3)]) hx hb d_KeyTree_secretOf_13 hl (by decide) rfl (fun ls hl => ?_)
  refine lv_lload (pc := 15) hx hb d_KeyTree_secretOf_15 (lv_at hl 0 rfl) ?_
  refine lv_iload_n (pc := 17) hx hb d_KeyTree_secretOf_17 rfl (lv_at hl 3 rfl) ?_
  refine lv_i2l (pc := 18) hx hb d_KeyTree_secretOf_18 rfl ?_
  obtain ⟨r3, er3⟩ : ∃ z : Int64, z = f_Fold_absorb r2 a2.toInt64 S := ⟨_, rfl⟩
  have hr := lt_e er3 hr
  refine p_go (pc := 19) (congrArg Value.long er3) (p_runS hF hK hW (cn_Fold_absorb l D X ad ca r2 a2.toInt64 S _) cd_Fold_absorb gw_232 ⟨Nat.le_of_ble_eq_true rfl, Nat.le_of_ble_eq_true rfl⟩ ⟨Nat.zero_le _, Nat.zero_le _⟩ rfl rfl hl.1 (Nat.le_of_ble_eq_true rfl) d_KeyTree_secretOf_19) ?_
  refine lv_iload_n (pc := 22) hx hb d_KeyTree_secretOf_22 rfl (lv_at hl 4 rfl) ?_
  refine lv_i2l (pc := 23) hx hb d_KeyTree_secretOf_23 rfl ?_
  obtain ⟨r4, er4⟩ : ∃ z : Int64, z = f_Fold_absorb r3 a3.toInt64 S := ⟨_, rfl⟩
  have hr := lt_e er4 hr
  refine p_go (pc := 24) (congrArg Value.long er4) (p_runS hF hK hW (cn_Fold_absorb l D X ad ca r3 a3.toInt64 S _) cd_Fold_absorb gw_232 ⟨Nat.le_of_ble_eq_true rfl, Nat.le_of_ble_eq_true rfl⟩ ⟨Nat.zero_le _, Nat.zero_le _⟩ rfl rfl hl.1 (Nat.le_of_ble_eq_true rfl) d_KeyTree_secretOf_24) ?_
  obtain ⟨r5, er5⟩ : ∃ z : Int64, z = f_Fold_finish r4 S := ⟨_, rfl⟩
  have hr := lt_e er5 hr
  refine p_go (pc := 27) (congrArg Value.long er5) (p_runS hF hK hW (cn_Fold_finish l D X ad ca r4 S _) cd_Fold_finish gw_236 ⟨Nat.le_of_ble_eq_true rfl, Nat.le_of_ble_eq_true rfl⟩ ⟨Nat.zero_le _, Nat.zero_le _⟩ rfl rfl hl.1 (Nat.le_of_ble_eq_true rfl) d_KeyTree_secretOf_27) ?_
  exact p_lret (v := r5) hy hr d_KeyTree_secretOf_30
set_option maxHeartbeats 4000000 in
set_option maxRecDepth 100000 in
theorem wn_Fold_afterSteps_5 {l : Launch} {D : va_G} {X : va_W} {ad : N3 → Nat} {ca : Nat → ClassId} (a0 : Int64) (a2 : Int32)  (S : St) {p : Program} {e : Env} {s : State} {m : MethodId} {below : List Frame} {meth : Method} {c : Code} (hy : Hy p s m ([.long a0, .int a2] : List Value).toArray meth c b_Fold_afterSteps 6 (some .long) R_Fold GG D clQ (tysQ ca) nwN) (hW : Wd D clQ (fun _ => True) s.heap (zw X ad ([] : List N3) (cfQ ad ca) S) s.heap []) {res : Int64} : ∀ (n : Nat) (l3 : Int64) (l5 : Int32) , ok_Fold_afterSteps_5 a0 a2 n S l3 l5 → f_Fold_afterSteps_5 a0 a2 n S l3 l5 = res → ∀ (ls : Array Slot), lv_has ls 6 [(2, .int a2), (3, .long l3), (5, .int l5)] → W p l e { frames := 1, cells := 0, slots := 0, locals := 25 } s m ([.long a0, .int a2] : List Value).toArray below meth c s.heap [] 0 0 (MQ below (eP (.long res)) ([.long a0, .int a2] : List Value).toArray s 0 0 nof) (F0 m 5 ls []) := by
  have hF := hy.1
  have hx := hF.1
  have hb := hF.2.1
  have hK := hy.2.2.2
  intro n
  induction n with
  | zero =>
    intro l3 l5 hk
    exact hk.elim
  | succ n ih =>
    intro l3 l5 hk hr ls hl
    refine lv_iload (pc := 5) hx hb d_Fold_afterSteps_5 (lv_at hl 2 rfl) ?_
    refine lv_iload_n (pc := 7) hx hb d_Fold_afterSteps_7 rfl (lv_at hl 0 rfl) ?_
    refine lv_icmp_ge (pc := 8) (tgt := 34) hx hb d_Fold_afterSteps_8 (by decide) (fun c1 => ?_) (fun c1 => ?_)
    · have hk := hk.1 c1
      have hr := (if_pos c1).symm.trans hr
      refine lv_lload_n (pc := 34) hx hb d_Fold_afterSteps_34 rfl (lv_at hl 1 rfl) ?_
      exact p_lret (v := l3) hy hr d_Fold_afterSteps_35
    · have hk := hk.2 c1
      have hr := (if_neg c1).symm.trans hr
      refine lv_ldc2 (pc := 11) hx hb hF.2.2.2.1 (hF.2.2.2.2 _ gw_243) d_Fold_afterSteps_11 ?_
      refine lv_lload_n (pc := 14) hx hb d_Fold_afterSteps_14 rfl (lv_at hl 1 rfl) ?_
      obtain ⟨r2, er2⟩ : ∃ z : Int64, z = f_Fold_absorb (-7046029254386353131 : Int64) l3 S := ⟨_, rfl⟩
      have hk := lt_p er2 hk
      have hr := lt_e er2 hr
      refine p_go (pc := 15) (congrArg Value.long er2) (p_runS hF hK hW (cn_Fold_absorb l D X ad ca (-7046029254386353131 : Int64) l3 S _) cd_Fold_absorb gw_244 ⟨Nat.le_of_ble_eq_true rfl, Nat.le_of_ble_eq_true rfl⟩ ⟨Nat.zero_le _, Nat.zero_le _⟩ rfl rfl hl.1 (Nat.le_of_ble_eq_true rfl) d_Fold_afterSteps_15) ?_
      refine lv_ldc2 (pc := 18) hx hb hF.2.2.2.1 (hF.2.2.2.2 _ gw_245) d_Fold_afterSteps_18 ?_
      obtain ⟨r3, er3⟩ : ∃ z : Int64, z = f_Fold_absorb r2 (77 : Int64) S := ⟨_, rfl⟩
      have hk := lt_p er3 hk
      have hr := lt_e er3 hr
      refine p_go (pc := 21) (congrArg Value.long er3) (p_runS hF hK hW (cn_Fold_absorb l D X ad ca r2 (77 : Int64) S _) cd_Fold_absorb gw_244 ⟨Nat.le_of_ble_eq_true rfl, Nat.le_of_ble_eq_true rfl⟩ ⟨Nat.zero_le _, Nat.zero_le _⟩ rfl rfl hl.1 (Nat.le_of_ble_eq_true rfl) d_Fold_afterSteps_21) ?_
      obtain ⟨r4, er4⟩ : ∃ z : Int64, z = f_Fold_finish r3 S := ⟨_, rfl⟩
      have hk := lt_p er4 hk
      have hr := lt_e er4 hr
      refine p_go (pc := 24) (congrArg Value.long er4) (p_runS hF hK hW (cn_Fold_finish l D X ad ca r3 S _) cd_Fold_finish gw_246 ⟨Nat.le_of_ble_eq_true rfl, Nat.le_of_ble_eq_true rfl⟩ ⟨Nat.zero_le _, Nat.zero_le _⟩ rfl rfl hl.1 (Nat.le_of_ble_eq_true rfl) d_Fold_afterSteps_24) ?_
      refine lv_lstore_n (pc := 27) (lv' := [(3, .long r4), (2, .int a2), (5, .int l5)]) hx hb d_Fold_afterSteps_27 rfl hl (by decide) rfl (fun ls hl => ?_)
      refine lv_iinc (pc := 28) (v := l5 + (1 : Int32)) (lv' := [(5, .int (l5 + (1 : Int32))), (3, .long r4), (2, .int a2)]) (k := 2) hx hb d_Fold_afterSteps_28 hl rfl (z_inc (by decide)) (by decide) rfl (fun ls hl => ?_)
      refine lv_goto (pc := 31) (tgt := 5) hx hb d_Fold_afterSteps_31 (by decide) ?_
      exact ih r4 (l5 + (1 : Int32)) hk hr _ (lv_sub hl [2, 1, 0] rfl)
set_option maxHeartbeats 4000000 in
set_option maxRecDepth 100000 in
theorem cn_Fold_afterSteps (l : Launch) (D : va_G) (X : va_W) (ad : N3 → Nat) (ca : Nat → ClassId) (a0 : Int64) (a2 : Int32)  (S : St) (hk : ok_Fold_afterSteps a0 a2 S) : cP l GG D clQ (tysQ ca) nwN (zw X ad ([] : List N3) (cfQ ad ca) S) y_Fold_afterSteps b_Fold_afterSteps 6 .long 1 25 [.long a0, .int a2] (.long (f_Fold_afterSteps a0 a2 S)) := by
  generalize hr : f_Fold_afterSteps a0 a2 S = res
  refine zP_of pn_Fold (Nat.le_of_ble_eq_true rfl) (fun p e s m below meth c ls hy hW hl => ?_)
  have hF := hy.1
  have hx := hF.1
  have hb := hF.2.1
  have hK := hy.2.2.2
  have hl : lv_has ls 6 [(0, .long a0), (2, .int a2)] := hl
  refine lv_lload_n (pc := 0) hx hb d_Fold_afterSteps_0 rfl (lv_at hl 0 rfl) ?_
  refine lv_lstore_n (pc := 1) (lv' := [(3, .long a0), (0, .long a0), (2, .int a2)]) hx hb d_Fold_afterSteps_1 rfl hl (by decide) rfl (fun ls hl => ?_)
  refine lv_iconst (pc := 2) (v := 0) hx hb d_Fold_afterSteps_2 (by decide) ?_
  refine lv_istore (pc := 3) (lv' := [(5, .int (0 : Int32)), (3, .long a0), (0, .long a0), (2, .int a2)]) hx hb d_Fold_afterSteps_3 hl (by decide) rfl (fun ls hl => ?_)
  exact wn_Fold_afterSteps_5 a0 a2 S hy hW 200 a0 (0 : Int32) hk hr _ (lv_sub hl [3, 1, 0] rfl)
set_option maxHeartbeats 4000000 in
set_option maxRecDepth 100000 in
theorem cn_Fold_pair (l : Launch) (D : va_G) (X : va_W) (ad : N3 → Nat) (ca : Nat → ClassId) (a0 : Int64) (a2 : Int64)  (S : St) : cP l GG D clQ (tysQ ca) nwN (zw X ad ([] : List N3) (cfQ ad ca) S) y_Fold_pair b_Fold_pair 4 .long 1 25 [.long a0, .long a2] (.long (f_Fold_pair a0 a2 S)) := by
  generalize hr : f_Fold_pair a0 a2 S = res
  refine zP_of pn_Fold (Nat.le_of_ble_eq_true rfl) (fun p e s m below meth c ls hy hW hl => ?_)
  have hF := hy.1
  have hx := hF.1
  have hb := hF.2.1
  have hK := hy.2.2.2
  have hl : lv_has ls 4 [(0, .long a0), (2, .long a2)] := hl
  refine lv_ldc2 (pc := 0) hx hb hF.2.2.2.1 (hF.2.2.2.2 _ gw_243) d_Fold_pair_0 ?_
  refine lv_lload_n (pc := 3) hx hb d_Fold_pair_3 rfl (lv_at hl 0 rfl) ?_
  obtain ⟨r1, er1⟩ : ∃ z : Int64, z = f_Fold_absorb (-7046029254386353131 : Int64) a0 S := ⟨_, rfl⟩
  have hr := lt_e er1 hr
  refine p_go (pc := 4) (congrArg Value.long er1) (p_runS hF hK hW (cn_Fold_absorb l D X ad ca (-7046029254386353131 : Int64) a0 S _) cd_Fold_absorb gw_244 ⟨Nat.le_of_ble_eq_true rfl, Nat.le_of_ble_eq_true rfl⟩ ⟨Nat.zero_le _, Nat.zero_le _⟩ rfl rfl hl.1 (Nat.le_of_ble_eq_true rfl) d_Fold_pair_4) ?_
  refine lv_lload_n (pc := 7) hx hb d_Fold_pair_7 rfl (lv_at hl 1 rfl) ?_
  obtain ⟨r2, er2⟩ : ∃ z : Int64, z = f_Fold_absorb r1 a2 S := ⟨_, rfl⟩
  have hr := lt_e er2 hr
  refine p_go (pc := 8) (congrArg Value.long er2) (p_runS hF hK hW (cn_Fold_absorb l D X ad ca r1 a2 S _) cd_Fold_absorb gw_244 ⟨Nat.le_of_ble_eq_true rfl, Nat.le_of_ble_eq_true rfl⟩ ⟨Nat.zero_le _, Nat.zero_le _⟩ rfl rfl hl.1 (Nat.le_of_ble_eq_true rfl) d_Fold_pair_8) ?_
  obtain ⟨r3, er3⟩ : ∃ z : Int64, z = f_Fold_finish r2 S := ⟨_, rfl⟩
  have hr := lt_e er3 hr
  refine p_go (pc := 11) (congrArg Value.long er3) (p_runS hF hK hW (cn_Fold_finish l D X ad ca r2 S _) cd_Fold_finish gw_246 ⟨Nat.le_of_ble_eq_true rfl, Nat.le_of_ble_eq_true rfl⟩ ⟨Nat.zero_le _, Nat.zero_le _⟩ rfl rfl hl.1 (Nat.le_of_ble_eq_true rfl) d_Fold_pair_11) ?_
  exact p_lret (v := r3) hy hr d_Fold_pair_14
set_option maxHeartbeats 4000000 in
set_option maxRecDepth 100000 in
theorem wn_KeyTree_leafOf_7 {l : Launch} {D : va_G} {X : va_W} {ad : N3 → Nat} {ca : Nat → ClassId} (a0 : Int32) (a1 : Int32) (a2 : Int32)  (S : St) {p : Program} {e : Env} {s : State} {m : MethodId} {below : List Frame} {meth : Method} {c : Code} (hy : Hy p s m ([.int a0, .int a1, .int a2] : List Value).toArray meth c b_KeyTree_leafOf 6 (some .long) R_KeyTree GG D clQ (tysQ ca) nwN) (hW : Wd D clQ (fun _ => True) s.heap (zw X ad ([] : List N3) (cfQ ad ca) S) s.heap []) {res : Int64} : ∀ (n : Nat) (l3 : Int64) (l5 : Int32) , ok_KeyTree_leafOf_7 a0 a1 a2 n S l3 l5 → f_KeyTree_leafOf_7 a0 a1 a2 n S l3 l5 = res → ∀ (ls : Array Slot), lv_has ls 6 [(0, .int a0), (1, .int a1), (2, .int a2), (3, .long l3), (5, .int l5)] → W p l e { frames := 2, cells := 0, slots := 0, locals := 50 } s m ([.int a0, .int a1, .int a2] : List Value).toArray below meth c s.heap [] 0 0 (MQ below (eP (.long res)) ([.int a0, .int a1, .int a2] : List Value).toArray s 0 0 nof) (F0 m 7 ls []) := by
  have hF := hy.1
  have hx := hF.1
  have hb := hF.2.1
  have hK := hy.2.2.2
  intro n
  induction n with
  | zero =>
    intro l3 l5 hk
    exact hk.elim
  | succ n ih =>
    intro l3 l5 hk hr ls hl
    refine lv_iload (pc := 7) hx hb d_KeyTree_leafOf_7 (lv_at hl 4 rfl) ?_
    refine lv_bipush (pc := 9) (v := 6) hx hb d_KeyTree_leafOf_9 (by decide) ?_
    refine lv_icmp_ge (pc := 11) (tgt := 38) hx hb d_KeyTree_leafOf_11 (by decide) (fun c1 => ?_) (fun c1 => ?_)
    · have hk := hk.1 c1
      have hr := (if_pos c1).symm.trans hr
      refine lv_lload_n (pc := 38) hx hb d_KeyTree_leafOf_38 rfl (lv_at hl 3 rfl) ?_
      obtain ⟨r2, er2⟩ : ∃ z : Int64, z = f_Fold_finish l3 S := ⟨_, rfl⟩
      have hr := lt_e er2 hr
      refine p_go (pc := 39) (congrArg Value.long er2) (p_runS hF hK hW (cn_Fold_finish l D X ad ca l3 S _) cd_Fold_finish gw_236 ⟨Nat.le_of_ble_eq_true rfl, Nat.le_of_ble_eq_true rfl⟩ ⟨Nat.zero_le _, Nat.zero_le _⟩ rfl rfl hl.1 (Nat.le_of_ble_eq_true rfl) d_KeyTree_leafOf_39) ?_
      exact p_lret (v := r2) hy hr d_KeyTree_leafOf_42
    · have hk := hk.2 c1
      have hr := (if_neg c1).symm.trans hr
      refine lv_lload_n (pc := 14) hx hb d_KeyTree_leafOf_14 rfl (lv_at hl 3 rfl) ?_
      refine lv_iload_n (pc := 15) hx hb d_KeyTree_leafOf_15 rfl (lv_at hl 0 rfl) ?_
      refine lv_iload_n (pc := 16) hx hb d_KeyTree_leafOf_16 rfl (lv_at hl 1 rfl) ?_
      refine lv_iload_n (pc := 17) hx hb d_KeyTree_leafOf_17 rfl (lv_at hl 2 rfl) ?_
      refine lv_iload (pc := 18) hx hb d_KeyTree_leafOf_18 (lv_at hl 4 rfl) ?_
      obtain ⟨r3, er3⟩ : ∃ z : Int64, z = f_KeyTree_secretOf a0 a1 a2 l5 S := ⟨_, rfl⟩
      have hk := lt_p er3 hk
      have hr := lt_e er3 hr
      refine p_go (pc := 20) (congrArg Value.long er3) (p_runS hF hK hW (cn_KeyTree_secretOf l D X ad ca a0 a1 a2 l5 S _) cd_KeyTree_secretOf gw_229 ⟨Nat.le_of_ble_eq_true rfl, Nat.le_of_ble_eq_true rfl⟩ ⟨Nat.zero_le _, Nat.zero_le _⟩ rfl rfl hl.1 (Nat.le_of_ble_eq_true rfl) d_KeyTree_leafOf_20) ?_
      refine lv_bipush (pc := 23) (v := 15) hx hb d_KeyTree_leafOf_23 (by decide) ?_
      have o4 := hk.1
      have hk := hk.2
      obtain ⟨r5, er5⟩ : ∃ z : Int64, z = f_Fold_afterSteps r3 (15 : Int32) S := ⟨_, rfl⟩
      have hk := lt_p er5 hk
      have hr := lt_e er5 hr
      refine p_go (pc := 25) (congrArg Value.long er5) (p_runS hF hK hW (cn_Fold_afterSteps l D X ad ca r3 (15 : Int32) S o4 _) cd_Fold_afterSteps gw_240 ⟨Nat.le_of_ble_eq_true rfl, Nat.le_of_ble_eq_true rfl⟩ ⟨Nat.zero_le _, Nat.zero_le _⟩ rfl rfl hl.1 (Nat.le_of_ble_eq_true rfl) d_KeyTree_leafOf_25) ?_
      obtain ⟨r6, er6⟩ : ∃ z : Int64, z = f_Fold_absorb l3 r5 S := ⟨_, rfl⟩
      have hk := lt_p er6 hk
      have hr := lt_e er6 hr
      refine p_go (pc := 28) (congrArg Value.long er6) (p_runS hF hK hW (cn_Fold_absorb l D X ad ca l3 r5 S _) cd_Fold_absorb gw_232 ⟨Nat.le_of_ble_eq_true rfl, Nat.le_of_ble_eq_true rfl⟩ ⟨Nat.zero_le _, Nat.zero_le _⟩ rfl rfl hl.1 (Nat.le_of_ble_eq_true rfl) d_KeyTree_leafOf_28) ?_
      refine lv_lstore_n (pc := 31) (lv' := [(3, .long r6), (0, .int a0), (1, .int a1), (2, .int a2), (5, .int l5)]) hx hb d_KeyTree_leafOf_31 rfl hl (by decide) rfl (fun ls hl => ?_)
      refine lv_iinc (pc := 32) (v := l5 + (1 : Int32)) (lv' := [(5, .int (l5 + (1 : Int32))), (3, .long r6), (0, .int a0), (1, .int a1), (2, .int a2)]) (k := 4) hx hb d_KeyTree_leafOf_32 hl rfl (z_inc (by decide)) (by decide) rfl (fun ls hl => ?_)
      refine lv_goto (pc := 35) (tgt := 7) hx hb d_KeyTree_leafOf_35 (by decide) ?_
      exact ih r6 (l5 + (1 : Int32)) hk hr _ (lv_sub hl [2, 3, 4, 1, 0] rfl)
set_option maxHeartbeats 4000000 in
set_option maxRecDepth 100000 in
theorem cn_KeyTree_leafOf (l : Launch) (D : va_G) (X : va_W) (ad : N3 → Nat) (ca : Nat → ClassId) (a0 : Int32) (a1 : Int32) (a2 : Int32)  (S : St) (hk : ok_KeyTree_leafOf a0 a1 a2 S) : cP l GG D clQ (tysQ ca) nwN (zw X ad ([] : List N3) (cfQ ad ca) S) y_KeyTree_leafOf b_KeyTree_leafOf 6 .long 2 50 [.int a0, .int a1, .int a2] (.long (f_KeyTree_leafOf a0 a1 a2 S)) := by
  generalize hr : f_KeyTree_leafOf a0 a1 a2 S = res
  refine zP_of pn_KeyTree (Nat.le_of_ble_eq_true rfl) (fun p e s m below meth c ls hy hW hl => ?_)
  have hF := hy.1
  have hx := hF.1
  have hb := hF.2.1
  have hK := hy.2.2.2
  have hl : lv_has ls 6 [(0, .int a0), (1, .int a1), (2, .int a2)] := hl
  refine lv_ldc2 (pc := 0) hx hb hF.2.2.2.1 (hF.2.2.2.2 _ gw_228) d_KeyTree_leafOf_0 ?_
  refine lv_lstore_n (pc := 3) (lv' := [(3, .long (-7046029254386353131 : Int64)), (0, .int a0), (1, .int a1), (2, .int a2)]) hx hb d_KeyTree_leafOf_3 rfl hl (by decide) rfl (fun ls hl => ?_)
  refine lv_iconst (pc := 4) (v := 0) hx hb d_KeyTree_leafOf_4 (by decide) ?_
  refine lv_istore (pc := 5) (lv' := [(5, .int (0 : Int32)), (3, .long (-7046029254386353131 : Int64)), (0, .int a0), (1, .int a1), (2, .int a2)]) hx hb d_KeyTree_leafOf_5 hl (by decide) rfl (fun ls hl => ?_)
  exact wn_KeyTree_leafOf_7 a0 a1 a2 S hy hW 200 (-7046029254386353131 : Int64) (0 : Int32) hk hr _ (lv_sub hl [2, 3, 4, 1, 0] rfl)
section NPS
variable {p : Program} {l : Launch} {e : Env} {R : Room} {s : State} {m : MethodId} {args : Array Value} {below : List Frame} {meth : Method} {c : Code} {H : Heap} {locs : List Loc} {cells slots : Nat} {Q : State → Prop}
variable {cc : ByteArray} {pc nL : Nat} {ls : Array Slot} {rest st0 : List Value} {D : va_G} {cl : List vw_C} {A : Nat → Prop} {tys : List (ClassId × FieldType)} {NW : List (String × Nat × MethodName × String)} {H0 : Heap} {ws : va_W} {G : List Cond} {own : String}
variable {y : MethodName} {b : ByteArray} {n np index fr lo : Nat} {ret : FieldType} {As : List Value}
theorem n_pS {v : Value} (hF : CallFix p m c cc nL s args G own) (hK : zK D cl tys NW s) (hW : Wd D cl A H0 ws H locs) (hM : cP l G D cl tys NW ws y b n ret fr lo As v) (cd : cdS G y b n (some ret) np) (hlink : Cond.methodLink own index y ∈ G)
    (hR : fr + 1 ≤ R.frames ∧ 8 + (n + 11) + lo ≤ R.locals) (hcs : cells ≤ R.cells ∧ slots ≤ R.slots) (hst : st0 = As.reverse ++ rest) (hnp : As.length = np) (hsz : ls.size = nL) (hroom : (rest.map fun v => v.category).sum ≤ 8) (hdg : decode cc pc = .ok (.invokestatic index, 3))
    (kk : W p l e R s m args below meth c H locs cells slots Q (F0 m (pc + 3) ls (v :: rest))) : W p l e R s m args below meth c H locs cells slots Q (F0 m pc ls st0) :=
  p_go rfl (va_runS (As := As) (rest := rest) hF (hM H.size) (va_cwS np hF.2.2.2.2 (cd.good hlink) rfl rfl rfl cd.2.2.2.1 hR) ⟨zPre.blind, zPre.at hW.1 hW.2.1 hK⟩ rfl hnp hsz hst (lv_room hroom) hdg hcs) kk
end NPS
theorem hCh_s (f : Nat → Int64) (n c : Nat) (h : Int64) : hCh f (n + 1) c h = hCh f n (c + 1) (hA h (f c)) := by
  unfold hCh
  rfl
theorem hCh_0 (f : Nat → Int64) (c : Nat) (h : Int64) : hCh f 0 c h = h := rfl
theorem q_leaf_l (a0 a1 a2 : Int32) (S : St) (n : Nat) : ∀ (c : Nat) (h : Int64), c ≤ 6 → 6 - c < n → f_KeyTree_leafOf_7 a0 a1 a2 n S h (nI c) = hE (hCh (fun c => hIt 15 (hSec a0.toInt64 a1 a2 (nI c))) (6 - c) c h) ∧ ok_KeyTree_leafOf_7 a0 a1 a2 n S h (nI c) := by
  induction n with
  | zero => exact fun c h _ q => absurd q (Nat.not_lt_zero _)
  | succ n ih =>
    intro c h hc q
    rw [f_KeyTree_leafOf_7, ok_KeyTree_leafOf_7]
    have e6 : ((6 : Int32) ≤ nI c) ↔ 6 ≤ c := nI_leI (a := 6) (by decide) (by omega)
    by_cases h6 : 6 ≤ c
    · rw [if_pos (e6.mpr h6), show 6 - c = 0 by omega, hCh_0]
      exact ⟨rfl, fun _ => trivial, fun z => absurd (e6.mpr h6) z⟩
    · rw [if_neg (fun z => h6 (e6.mp z)), show 6 - c = (6 - (c + 1)) + 1 by omega, hCh_s]
      have e15 : (15 : Int32) = nI 15 := rfl
      have ih2 := ih (c + 1) (hA h (hIt 15 (hSec a0.toInt64 a1 a2 (nI c)))) (by omega) (by omega)
      simp only [lt, q_secret, e15, q_after _ S (show (15 : Nat) < 200 by decide), q_absorb, nI_s]
      exact ⟨ih2.1, fun z => absurd (e6.mp z) h6, fun _ => ⟨q_after_ok _ _ (by decide), ih2.2⟩⟩
theorem q_leaf (sd : Int32) (i k : Nat) (S : St) : f_KeyTree_leafOf sd (nI i) (nI k) S = tEnds sd i k := by
  unfold f_KeyTree_leafOf tEnds
  exact (q_leaf_l sd (nI i) (nI k) S 200 0 hS (by decide) (by decide)).1
theorem q_leaf_ok (sd : Int32) (i k : Nat) (S : St) : ok_KeyTree_leafOf sd (nI i) (nI k) S := (q_leaf_l sd (nI i) (nI k) S 200 0 hS (by decide) (by decide)).2
theorem nI_down (n : Nat) : nI (n + 1) + Int32.ofInt (-1) = nI n := by
  have h1 : Int32.ofInt (-1) = -(1 : Int32) := by decide
  rw [h1, ← Int32.sub_eq_add_neg]
  exact nI_pred n
theorem nI_m (a b : Nat) : nI a * nI b = nI (a * b) := (Int32.ofNat_mul a b).symm
theorem cn_leaf (l : Launch) (D : va_G) (ca : Nat → ClassId) (ws : va_W) (sd : Int32) (i k : Nat) : cP l GG D clQ (tysQ ca) nwN ws y_KeyTree_leafOf b_KeyTree_leafOf 6 .long 2 50 [.int sd, .int (nI i), .int (nI k)] (.long (tEnds sd i k)) := by
  have h := cn_KeyTree_leafOf l D ws (fun _ => 0) ca sd (nI i) (nI k) (S0q 0) (q_leaf_ok sd i k _)
  rw [zw_nil, q_leaf] at h
  exact h
theorem cn_pair (l : Launch) (D : va_G) (ca : Nat → ClassId) (ws : va_W) (a b : Int64) : cP l GG D clQ (tysQ ca) nwN ws y_Fold_pair b_Fold_pair 4 .long 1 25 [.long a, .long b] (.long (h2 a b)) := by
  have h := cn_Fold_pair l D ws (fun _ => 0) ca a b (S0q 0)
  rw [zw_nil, q_pair] at h
  exact h
def ktW (b0 : Nat) (ca : Nat → ClassId) (B : va_W) (sd : Int32) (i : Nat) (g : Nat → Int64) : va_W := (adQ b0 (11, i, 0), .inl (ca 1, 64, .inr (.inl g))) :: (adQ b0 (10, i, 0), .inr (4, [.ref (adQ b0 (11, i, 0)), .int sd, .int (nI i), .int 0])) :: B
section KT
variable {p : Program} {l : Launch} {e : Env} {R : Room} {s : State} {m : MethodId} {below : List Frame} {meth : Method} {c : Code} {cells slots : Nat} {Q : State → Prop} {D : va_G} {ca : Nat → ClassId} {A : Nat → Prop} {B : va_W} {b0 i : Nat} {sd : Int32} {args : Array Value}
set_option maxHeartbeats 4000000 in
set_option maxRecDepth 100000 in
theorem w_KT_24 (hy : Hy p s m args meth c b_KeyTree_init 4 none R_KeyTree GG D clQ (tysQ ca) nwN) (hA : ∀ q, s.heap.size ≤ q → A q) (hR : 3 ≤ R.frames ∧ 75 ≤ R.locals) (hcs : cells ≤ R.cells ∧ slots ≤ R.slots) (n : Nat) : ∀ (k : Nat) (g : Nat → Int64), k + n = 32 → ∀ (H : Heap) (locs : List Loc) (ls : Array Slot), Wd D clQ A s.heap (ktW b0 ca B sd i g) H locs → lv_has ls 4 [(3, .int (nI k)), (0, .ref (adQ b0 (10, i, 0))), (1, .int sd), (2, .int (nI i))] →
    (∀ (H : Heap) (locs : List Loc) (ls : Array Slot), Wd D clQ A s.heap (ktW b0 ca B sd i (tLeaf (tEnds sd i) n k g)) H locs → lv_has ls 4 [(3, .int (nI 32)), (0, .ref (adQ b0 (10, i, 0))), (1, .int sd), (2, .int (nI i))] → W p l e R s m args below meth c H locs cells slots Q (F0 m 51 ls [])) → W p l e R s m args below meth c H locs cells slots Q (F0 m 24 ls []) := by
  have hF := hy.1
  have hx := hF.1
  have hb := hF.2.1
  have hK := hy.2.2.2
  induction n with
  | zero =>
    intro k g hk H locs ls hW hl kk
    obtain rfl : k = 32 := by omega
    refine lv_iload_n (pc := 24) hx hb d_KeyTree_init_24 rfl (lv_at hl 0 rfl) ?_
    refine lv_bipush (pc := 25) (v := 32) hx hb d_KeyTree_init_25 (by decide) ?_
    refine lv_icmp_ge (pc := 27) (tgt := 51) hx hb d_KeyTree_init_27 (by decide) (fun _ => ?_) (fun c1 => absurd (show (32 : Int32) ≤ nI 32 by decide) c1)
    exact kk H locs ls hW hl
  | succ n ih =>
    intro k g hk H locs ls hW hl kk
    have hlt : k < 32 := by omega
    refine lv_iload_n (pc := 24) hx hb d_KeyTree_init_24 rfl (lv_at hl 0 rfl) ?_
    refine lv_bipush (pc := 25) (v := 32) hx hb d_KeyTree_init_25 (by decide) ?_
    refine lv_icmp_ge (pc := 27) (tgt := 51) hx hb d_KeyTree_init_27 (by decide) (fun c1 => absurd ((nI_leI (a := 32) (by decide) (by omega)).mp c1) (by omega)) (fun _ => ?_)
    refine lv_aload_n (pc := 30) hx hb d_KeyTree_init_30 rfl (lv_at hl 1 rfl) ?_
    refine n_get (pc := 31) (v := .ref (adQ b0 (11, i, 0))) hF hK.1 hW 1 rfl rfl in_KeyTree 0 (by decide) gw_250 rfl rfl d_KeyTree_init_31 ?_
    refine lv_bipush (pc := 34) (v := 32) hx hb d_KeyTree_init_34 (by decide) ?_
    refine lv_iload_n (pc := 36) hx hb d_KeyTree_init_36 rfl (lv_at hl 0 rfl) ?_
    refine lv_iadd (pc := 37) hx hb d_KeyTree_init_37 ?_
    refine lv_iload_n (pc := 38) hx hb d_KeyTree_init_38 rfl (lv_at hl 2 rfl) ?_
    refine lv_iload_n (pc := 39) hx hb d_KeyTree_init_39 rfl (lv_at hl 3 rfl) ?_
    refine lv_iload_n (pc := 40) hx hb d_KeyTree_init_40 rfl (lv_at hl 0 rfl) ?_
    refine n_pS (pc := 41) hF hK hW (cn_leaf l D ca _ sd i k) cd_KeyTree_leafOf gw_225 ⟨hR.1, by omega⟩ hcs rfl rfl hl.1 (Nat.le_of_ble_eq_true rfl) d_KeyTree_init_41 ?_
    have ei : ((32 : Int32) + nI k).toNatClampNeg = 32 + k := by
      rw [show (32 : Int32) = nI 32 from rfl, nI_add, nI_clamp (by omega)]
    refine n_last (pc := 44) hF hK.1 hW 0 1 rfl rfl (fun z => by
      rcases z with z | z
      · rw [show (32 : Int32) = nI 32 from rfl, nI_add] at z
        exact nI_pos (by omega) z
      · rw [ei] at z
        omega) d_KeyTree_init_44 (fun H locs hW => ?_)
    rw [ei] at hW
    have hW : Wd D clQ A s.heap (ktW b0 ca B sd i (vp_updL g (32 + k) (tEnds sd i k))) H locs := hW
    refine lv_iinc (pc := 45) (v := nI (k + 1)) (lv' := [(3, .int (nI (k + 1))), (0, .ref (adQ b0 (10, i, 0))), (1, .int sd), (2, .int (nI i))]) (k := 0) hx hb d_KeyTree_init_45 hl rfl (nI_s k) (by decide) rfl (fun ls hl => ?_)
    refine lv_goto (pc := 48) (tgt := 24) hx hb d_KeyTree_init_48 (by decide) ?_
    exact ih (k + 1) _ (by omega) H locs ls hW hl kk
set_option maxHeartbeats 4000000 in
set_option maxRecDepth 100000 in
theorem w_KT_54 (hy : Hy p s m args meth c b_KeyTree_init 4 none R_KeyTree GG D clQ (tysQ ca) nwN) (hA : ∀ q, s.heap.size ≤ q → A q) (hR : 3 ≤ R.frames ∧ 75 ≤ R.locals) (hcs : cells ≤ R.cells ∧ slots ≤ R.slots) (n : Nat) : ∀ (g : Nat → Int64), n ≤ 31 → ∀ (H : Heap) (locs : List Loc) (ls : Array Slot), Wd D clQ A s.heap (ktW b0 ca B sd i g) H locs → lv_has ls 4 [(3, .int (nI n)), (0, .ref (adQ b0 (10, i, 0))), (1, .int sd), (2, .int (nI i))] →
    (∀ (H : Heap) (locs : List Loc) (ls : Array Slot), Wd D clQ A s.heap (ktW b0 ca B sd i (tKnot n g)) H locs → W p l e R s m args below meth c H locs cells slots Q (F0 m 91 ls [])) → W p l e R s m args below meth c H locs cells slots Q (F0 m 54 ls []) := by
  have hF := hy.1
  have hx := hF.1
  have hb := hF.2.1
  have hK := hy.2.2.2
  induction n with
  | zero =>
    intro g _ H locs ls hW hl kk
    refine lv_iload_n (pc := 54) hx hb d_KeyTree_init_54 rfl (lv_at hl 0 rfl) ?_
    refine lv_if_le (pc := 55) (tgt := 91) hx hb d_KeyTree_init_55 (by decide) (fun _ => ?_) (fun c1 => absurd (show nI 0 ≤ 0 by decide) c1)
    exact kk H locs ls hW
  | succ n ih =>
    intro g hn H locs ls hW hl kk
    refine lv_iload_n (pc := 54) hx hb d_KeyTree_init_54 rfl (lv_at hl 0 rfl) ?_
    refine lv_if_le (pc := 55) (tgt := 91) hx hb d_KeyTree_init_55 (by decide) (fun c1 => absurd c1 (nI_nle (by omega) (by omega))) (fun _ => ?_)
    have e2 : (2 : Int32) * nI (n + 1) = nI (2 * (n + 1)) := nI_m 2 (n + 1)
    have e3 : nI (2 * (n + 1)) + (1 : Int32) = nI (2 * (n + 1) + 1) := nI_s _
    have hin : ∀ q, q < 64 → vp_in (nI q) 64 := fun q hq => nI_in hq (by decide)
    refine lv_aload_n (pc := 58) hx hb d_KeyTree_init_58 rfl (lv_at hl 1 rfl) ?_
    refine n_get (pc := 59) (v := .ref (adQ b0 (11, i, 0))) hF hK.1 hW 1 rfl rfl in_KeyTree 0 (by decide) gw_250 rfl rfl d_KeyTree_init_59 ?_
    refine lv_iload_n (pc := 62) hx hb d_KeyTree_init_62 rfl (lv_at hl 0 rfl) ?_
    refine lv_aload_n (pc := 63) hx hb d_KeyTree_init_63 rfl (lv_at hl 1 rfl) ?_
    refine n_get (pc := 64) (v := .ref (adQ b0 (11, i, 0))) hF hK.1 hW 1 rfl rfl in_KeyTree 0 (by decide) gw_250 rfl rfl d_KeyTree_init_64 ?_
    refine lv_iconst (pc := 67) (v := 2) hx hb d_KeyTree_init_67 (by decide) ?_
    refine lv_iload_n (pc := 68) hx hb d_KeyTree_init_68 rfl (lv_at hl 0 rfl) ?_
    refine lv_imul (pc := 69) hx hb d_KeyTree_init_69 ?_
    rw [e2]
    refine n_lald (pc := 70) (v := g (2 * (n + 1))) hF hK.1 hW 0 1 rfl rfl (hin _ (by omega)) (by rw [nI_clamp (by omega)]) d_KeyTree_init_70 ?_
    refine lv_aload_n (pc := 71) hx hb d_KeyTree_init_71 rfl (lv_at hl 1 rfl) ?_
    refine n_get (pc := 72) (v := .ref (adQ b0 (11, i, 0))) hF hK.1 hW 1 rfl rfl in_KeyTree 0 (by decide) gw_250 rfl rfl d_KeyTree_init_72 ?_
    refine lv_iconst (pc := 75) (v := 2) hx hb d_KeyTree_init_75 (by decide) ?_
    refine lv_iload_n (pc := 76) hx hb d_KeyTree_init_76 rfl (lv_at hl 0 rfl) ?_
    refine lv_imul (pc := 77) hx hb d_KeyTree_init_77 ?_
    refine lv_iconst (pc := 78) (v := 1) hx hb d_KeyTree_init_78 (by decide) ?_
    refine lv_iadd (pc := 79) hx hb d_KeyTree_init_79 ?_
    rw [e2, e3]
    refine n_lald (pc := 80) (v := g (2 * (n + 1) + 1)) hF hK.1 hW 0 1 rfl rfl (hin _ (by omega)) (by rw [nI_clamp (by omega)]) d_KeyTree_init_80 ?_
    refine n_pS (pc := 81) hF hK hW (cn_pair l D ca _ _ _) cd_Fold_pair gw_247 ⟨by omega, by omega⟩ hcs rfl rfl hl.1 (Nat.le_of_ble_eq_true rfl) d_KeyTree_init_81 ?_
    refine n_last (pc := 84) hF hK.1 hW 0 1 rfl rfl (hin _ (by omega)) d_KeyTree_init_84 (fun H locs hW => ?_)
    rw [nI_clamp (show n + 1 < 2 ^ 31 by omega)] at hW
    have hW : Wd D clQ A s.heap (ktW b0 ca B sd i (vp_updL g (n + 1) (h2 (g (2 * (n + 1))) (g (2 * (n + 1) + 1))))) H locs := hW
    refine lv_iinc (pc := 85) (v := nI n) (lv' := [(3, .int (nI n)), (0, .ref (adQ b0 (10, i, 0))), (1, .int sd), (2, .int (nI i))]) (k := 0) hx hb d_KeyTree_init_85 hl rfl (nI_down n) (by decide) rfl (fun ls hl => ?_)
    refine lv_goto (pc := 88) (tgt := 54) hx hb d_KeyTree_init_88 (by decide) ?_
    exact ih _ (by omega) H locs ls hW hl kk
end KT
set_option maxHeartbeats 4000000 in
set_option maxRecDepth 100000 in
theorem c_n_KeyTree (l : Launch) (D : va_G) (ca : Nat → ClassId) (b0 : Nat) (sd : Int32) (i : Nat) (h : i < 4) : cN l GG D clQ (tysQ ca) nwN aoN (adQ b0) (cfQ (adQ b0) ca) (S0q sd) y_KeyTree_init b_KeyTree_init 4 3 75 1 64 ((adQ b0) (10, i, 0), .inr (4, [.null, .int 0, .int 0, .int 0])) ((adQ b0) (10, i, 0) + 1) [.ref ((adQ b0) (10, i, 0)), .int sd, .int (nI i)] [(11, i, 0), (10, i, 0)] := by
  refine n_of pn_KeyTree rfl (Nat.le_of_ble_eq_true rfl) (fun B p e s m below meth c A ls hy hO hni hs hW hA hl => ?_)
  have hF := hy.1
  have hx := hF.1
  have hb := hF.2.1
  have hK := hy.2.2.2
  have hl : lv_has ls 4 [(0, .ref ((adQ b0) (10, i, 0))), (1, .int sd), (2, .int (nI i))] := hl
  have hW : Wd D clQ A s.heap (((adQ b0) (10, i, 0), .inr (4, [.null, .int 0, .int 0, .int 0])) :: zw B (adQ b0) [] (cfQ (adQ b0) ca) (S0q sd)) s.heap [] := by rw [zw_nil]; exact hW
  refine lv_aload_n (pc := 0) hx hb d_KeyTree_init_0 rfl (lv_at hl 0 rfl) ?_
  refine n_objInit (pc := 1) hF gw_224 gw_78 gw_79 hl.1 (Nat.le_of_ble_eq_true rfl) (Nat.le_of_ble_eq_true rfl) d_KeyTree_init_1 ?_
  refine lv_aload_n (pc := 4) hx hb d_KeyTree_init_4 rfl (lv_at hl 0 rfl) ?_
  refine lv_bipush (pc := 5) (v := 64) hx hb d_KeyTree_init_5 (by decide) ?_
  refine n_here (h := (adQ b0) (11, i, 0)) hW (by (try simp only [hs, ad_10, ad_11]) <;> omega) (Or.inl (by (try simp only [hs, ad_10, ad_11]) <;> omega)) (fun hh => ?_)
  refine n_newa (pc := 7) hF hK.1 hW hA hh (ty := .long) rfl gw_163 1 (cA := ca 1) rfl (fun C h => nomatch h) (a0 := (64, .inr (.inl (fun _ => 0)))) rfl (by decide) (by decide) (by decide) (Nat.le_of_ble_eq_true rfl) (Nat.le_of_ble_eq_true rfl) d_KeyTree_init_7 (fun H hz hW => ?_)
  have hW : Wd D clQ A s.heap (((adQ b0) (11, i, 0), .inl (ca 1, 64, .inr (.inl (fun _ => 0)))) :: ((adQ b0) (10, i, 0), .inr (4, [.null, .int 0, .int 0, .int 0])) :: zw B (adQ b0) [] (cfQ (adQ b0) ca) (S0q sd)) H [] := hW
  refine n_putF (pc := 9) hF hni hK.1 hW 1 rfl rfl in_KeyTree t_KeyTree tyo_KeyTree nmo_KeyTree 0 (by decide) gw_250 rfl rfl rfl rfl rfl rfl (Nat.le_of_ble_eq_true rfl) d_KeyTree_init_9 (fun H locs hW => ?_)
  have hW : Wd D clQ A s.heap (((adQ b0) (11, i, 0), .inl (ca 1, 64, .inr (.inl (fun _ => 0)))) :: ((adQ b0) (10, i, 0), .inr (4, [.ref ((adQ b0) (11, i, 0)), .int 0, .int 0, .int 0])) :: zw B (adQ b0) [] (cfQ (adQ b0) ca) (S0q sd)) H locs := hW
  refine lv_aload_n (pc := 12) hx hb d_KeyTree_init_12 rfl (lv_at hl 0 rfl) ?_
  refine lv_iload_n (pc := 13) hx hb d_KeyTree_init_13 rfl (lv_at hl 1 rfl) ?_
  refine n_putF (pc := 14) hF hni hK.1 hW 1 rfl rfl in_KeyTree t_KeyTree tyo_KeyTree nmo_KeyTree 1 (by decide) gw_251 rfl rfl rfl rfl rfl rfl (Nat.le_of_ble_eq_true rfl) d_KeyTree_init_14 (fun H locs hW => ?_)
  have hW : Wd D clQ A s.heap (((adQ b0) (11, i, 0), .inl (ca 1, 64, .inr (.inl (fun _ => 0)))) :: ((adQ b0) (10, i, 0), .inr (4, [.ref ((adQ b0) (11, i, 0)), .int sd, .int 0, .int 0])) :: zw B (adQ b0) [] (cfQ (adQ b0) ca) (S0q sd)) H locs := hW
  refine lv_aload_n (pc := 17) hx hb d_KeyTree_init_17 rfl (lv_at hl 0 rfl) ?_
  refine lv_iload_n (pc := 18) hx hb d_KeyTree_init_18 rfl (lv_at hl 2 rfl) ?_
  refine n_putF (pc := 19) hF hni hK.1 hW 1 rfl rfl in_KeyTree t_KeyTree tyo_KeyTree nmo_KeyTree 2 (by decide) gw_252 rfl rfl rfl rfl rfl rfl (Nat.le_of_ble_eq_true rfl) d_KeyTree_init_19 (fun H locs hW => ?_)
  have hW : Wd D clQ A s.heap (((adQ b0) (11, i, 0), .inl (ca 1, 64, .inr (.inl (fun _ => 0)))) :: ((adQ b0) (10, i, 0), .inr (4, [.ref ((adQ b0) (11, i, 0)), .int sd, .int (nI i), .int 0])) :: zw B (adQ b0) [] (cfQ (adQ b0) ca) (S0q sd)) H locs := hW
  refine lv_iconst (pc := 22) (v := 0) hx hb d_KeyTree_init_22 (by decide) ?_
  refine lv_istore_n (pc := 23) (lv' := [(3, .int (nI 0)), (0, .ref ((adQ b0) (10, i, 0))), (1, .int sd), (2, .int (nI i))]) hx hb d_KeyTree_init_23 rfl hl (by decide) rfl (fun ls hl => ?_)
  refine w_KT_24 (b0 := b0) (sd := sd) (i := i) hy hA ⟨Nat.le_of_ble_eq_true rfl, Nat.le_of_ble_eq_true rfl⟩ ⟨Nat.le_of_ble_eq_true rfl, Nat.le_of_ble_eq_true rfl⟩ 32 0 (fun _ => 0) rfl _ _ ls hW hl (fun H locs ls hW hl => ?_)
  refine lv_bipush (pc := 51) (v := 31) hx hb d_KeyTree_init_51 (by decide) ?_
  refine lv_istore_n (pc := 53) (lv' := [(3, .int (nI 31)), (0, .ref ((adQ b0) (10, i, 0))), (1, .int sd), (2, .int (nI i))]) hx hb d_KeyTree_init_53 rfl hl (by decide) rfl (fun ls hl => ?_)
  refine w_KT_54 (b0 := b0) (sd := sd) (i := i) hy hA ⟨Nat.le_of_ble_eq_true rfl, Nat.le_of_ble_eq_true rfl⟩ ⟨Nat.le_of_ble_eq_true rfl, Nat.le_of_ble_eq_true rfl⟩ 31 _ (Nat.le_refl _) _ _ ls hW hl (fun H locs ls hW => ?_)
  have hW : Wd D clQ A s.heap ([((adQ b0) (10, i, 0), .inr (4, [.ref ((adQ b0) (11, i, 0)), .int sd, .int (nI i), .int 0]))] ++ zw B (adQ b0) [(11, i, 0)] (cfQ (adQ b0) ca) (S0q sd)) H locs := n_fin (t := (11, i, 0)) (T := []) (R2 := [((adQ b0) (10, i, 0), .inr (4, [.ref ((adQ b0) (11, i, 0)), .int sd, .int (nI i), .int 0]))]) hW (fun h => h)
  have hW : Wd D clQ A s.heap (zw B (adQ b0) [(11, i, 0), (10, i, 0)] (cfQ (adQ b0) ca) (S0q sd)) H locs := n_fin (t := (10, i, 0)) (T := [(11, i, 0)]) (R2 := []) hW (fun h => h)
  exact n_vret hy hW (Nat.le_of_ble_eq_true rfl) (Nat.le_of_ble_eq_true rfl) d_KeyTree_init_91
