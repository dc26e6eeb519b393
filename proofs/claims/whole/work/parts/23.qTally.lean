theorem d_Tally_empty_0 : decode b_Tally_empty 0 = .ok (.iconst 0, 1) := by decide +kernel
theorem d_Tally_empty_1 : decode b_Tally_empty 1 = .ok (.istore_n 1, 1) := by decide +kernel
theorem d_Tally_empty_2 : decode b_Tally_empty 2 = .ok (.iload_n 1, 1) := by decide +kernel
theorem d_Tally_empty_3 : decode b_Tally_empty 3 = .ok (.aload_n 0, 1) := by decide +kernel
theorem d_Tally_empty_4 : decode b_Tally_empty 4 = .ok (.getfield 7, 3) := by decide +kernel
theorem d_Tally_empty_7 : decode b_Tally_empty 7 = .ok (.arraylength, 1) := by decide +kernel
theorem d_Tally_empty_8 : decode b_Tally_empty 8 = .ok (.if_icmp .ge 16, 3) := by decide +kernel
theorem d_Tally_empty_11 : decode b_Tally_empty 11 = .ok (.aload_n 0, 1) := by decide +kernel
theorem d_Tally_empty_12 : decode b_Tally_empty 12 = .ok (.getfield 7, 3) := by decide +kernel
theorem d_Tally_empty_15 : decode b_Tally_empty 15 = .ok (.iload_n 1, 1) := by decide +kernel
theorem d_Tally_empty_16 : decode b_Tally_empty 16 = .ok (.iconst 0, 1) := by decide +kernel
theorem d_Tally_empty_17 : decode b_Tally_empty 17 = .ok (.iastore, 1) := by decide +kernel
theorem d_Tally_empty_18 : decode b_Tally_empty 18 = .ok (.iinc 1 1, 3) := by decide +kernel
theorem d_Tally_empty_21 : decode b_Tally_empty 21 = .ok (.goto (-19), 3) := by decide +kernel
theorem d_Tally_empty_24 : decode b_Tally_empty 24 = .ok (.return_, 1) := by decide +kernel
def f_Tally_empty_2 (i0 : Nat) (j0 : Nat) : Nat → St → Int32 → St
  | 0, S, _ => S
  | n + 1, S, l1 =>
    if (Int32.ofNat (tlen j0)) ≤ l1 then
      S
    else
      lt (si S 17 i0 j0 (l1.toNatClampNeg) (0 : Int32)) fun (S3 : St) =>
      f_Tally_empty_2 i0 j0 n S3 (l1 + (1 : Int32))
def ok_Tally_empty_2 (i0 : Nat) (j0 : Nat) : Nat → St → Int32 → Prop
  | 0, _, _ => False
  | n + 1, S, l1 =>
    ((Int32.ofNat (tlen j0)) ≤ l1 → (
      True)) ∧ (¬ ((Int32.ofNat (tlen j0)) ≤ l1) → (
      (vp_in l1 (tlen j0)) ∧ (
        lt (si S 17 i0 j0 (l1.toNatClampNeg) (0 : Int32)) fun (S3 : St) =>
        ok_Tally_empty_2 i0 j0 n S3 (l1 + (1 : Int32)))))
set_option maxHeartbeats 4000000 in
set_option maxRecDepth 100000 in
theorem w_Tally_empty_2 {l : Launch} {D : va_G} {X : va_W} {ad : N3 → Nat} {ca : Nat → ClassId} (i0 : Nat) (j0 : Nat) (h0 : inT i0 j0) {p : Program} {e : Env} {s : State} {m : MethodId} {below : List Frame} {meth : Method} {c : Code} {A : Nat → Prop} (hy : Hy p s m ([.ref (ad (16, i0, j0))] : List Value).toArray meth c b_Tally_empty 2 none R_Tally GG D clQ (tysQ ca) nwQ) (hA : ∀ q, s.heap.size ≤ q → A q) {res : St} : ∀ (n : Nat) (S : St) (l1 : Int32) , ok_Tally_empty_2 i0 j0 n S l1 → f_Tally_empty_2 i0 j0 n S l1 = res → ∀ (H : Heap) (locs : List Loc) (ls : Array Slot), Wd D clQ A s.heap (zw X ad TQ (cfQ ad ca) S) H locs → lv_has ls 2 [(0, .ref (ad (16, i0, j0))), (1, .int l1)] → W p l e { frames := 0, cells := 0, slots := 0, locals := 0 } s m ([.ref (ad (16, i0, j0))] : List Value).toArray below meth c H locs 0 0 (MQ below (eV D clQ X ad TQ (cfQ ad ca) A res) ([.ref (ad (16, i0, j0))] : List Value).toArray s 0 0 A) (F0 m 2 ls []) := by
  have hF := hy.1
  have hx := hF.1
  have hb := hF.2.1
  have hK := hy.2.2.2
  intro n
  induction n with
  | zero =>
    intro S l1 hk
    exact hk.elim
  | succ n ih =>
    intro S l1 hk hr H locs ls hW hl
    refine lv_iload_n (pc := 2) hx hb d_Tally_empty_2 rfl (lv_at hl 1 rfl) ?_
    refine lv_aload_n (pc := 3) hx hb d_Tally_empty_3 rfl (lv_at hl 0 rfl) ?_
    refine z_get (pc := 4) (v := .ref (ad (17, i0, j0))) hF hK.1 hW (tq16 h0) rfl rfl in_Tally 0 (by decide) gw_194 rfl rfl d_Tally_empty_4 ?_
    refine z_alen (pc := 7) (v := Int32.ofNat (tlen j0)) hF hK.1 hW (tq17 h0) 0 rfl rfl rfl d_Tally_empty_7 ?_
    refine lv_icmp_ge (pc := 8) (tgt := 24) hx hb d_Tally_empty_8 (by decide) (fun c1 => ?_) (fun c1 => ?_)
    · have hk := hk.1 c1
      have hr := (if_pos c1).symm.trans hr
      exact z_vret hy hW hr.symm d_Tally_empty_24
    · have hk := hk.2 c1
      have hr := (if_neg c1).symm.trans hr
      refine lv_aload_n (pc := 11) hx hb d_Tally_empty_11 rfl (lv_at hl 0 rfl) ?_
      refine z_get (pc := 12) (v := .ref (ad (17, i0, j0))) hF hK.1 hW (tq16 h0) rfl rfl in_Tally 0 (by decide) gw_194 rfl rfl d_Tally_empty_12 ?_
      refine lv_iload_n (pc := 15) hx hb d_Tally_empty_15 rfl (lv_at hl 1 rfl) ?_
      refine lv_iconst (pc := 16) (v := 0) hx hb d_Tally_empty_16 (by decide) ?_
      have b2 := hk.1
      have hk := hk.2
      obtain ⟨S3, eS3⟩ : ∃ z : St, z = si S 17 i0 j0 (l1.toNatClampNeg) (0 : Int32) := ⟨_, rfl⟩
      have hk := lt_p eS3 hk
      have hr := lt_e eS3 hr
      refine z_iast (pc := 17) (S' := S3) hF hK.1 hW (tq17 h0) 0 rfl rfl b2 (zs_si eS3 rfl) (zs_sio eS3) d_Tally_empty_17 (fun H locs (hW : Wd D clQ A s.heap (zw X ad TQ (cfQ ad ca) S3) H locs) => ?_)
      refine lv_iinc (pc := 18) (v := l1 + (1 : Int32)) (lv' := [(1, .int (l1 + (1 : Int32))), (0, .ref (ad (16, i0, j0)))]) (k := 1) hx hb d_Tally_empty_18 hl rfl (z_inc (by decide)) (by decide) rfl (fun ls hl => ?_)
      refine lv_goto (pc := 21) (tgt := 2) hx hb d_Tally_empty_21 (by decide) ?_
      exact ih S3 (l1 + (1 : Int32)) hk hr _ _ _ hW (lv_sub hl [1, 0] rfl)
def f_Tally_empty (i0 : Nat) (j0 : Nat) (S : St) : St :=
  f_Tally_empty_2 i0 j0 200 S (0 : Int32)
def ok_Tally_empty (i0 : Nat) (j0 : Nat) (S : St) : Prop :=
  ok_Tally_empty_2 i0 j0 200 S (0 : Int32)
set_option maxHeartbeats 4000000 in
set_option maxRecDepth 100000 in
theorem c_Tally_empty (l : Launch) (D : va_G) (X : va_W) (ad : N3 → Nat) (ca : Nat → ClassId) (i0 : Nat) (j0 : Nat) (h0 : inT i0 j0) (S : St) (hk : ok_Tally_empty i0 j0 S) : cV l GG D clQ (tysQ ca) nwQ X ad TQ (cfQ ad ca) y_Tally_empty b_Tally_empty 2 0 0 [.ref (ad (16, i0, j0))] S (f_Tally_empty i0 j0 S) := by
  generalize hr : f_Tally_empty i0 j0 S = res
  refine zV_of pn_Tally (Nat.le_of_ble_eq_true rfl) (fun p e s m below meth c A ls hy hW hA hl => ?_)
  have hF := hy.1
  have hx := hF.1
  have hb := hF.2.1
  have hK := hy.2.2.2
  have hl : lv_has ls 2 [(0, .ref (ad (16, i0, j0)))] := hl
  refine lv_iconst (pc := 0) (v := 0) hx hb d_Tally_empty_0 (by decide) ?_
  refine lv_istore_n (pc := 1) (lv' := [(1, .int (0 : Int32)), (0, .ref (ad (16, i0, j0)))]) hx hb d_Tally_empty_1 rfl hl (by decide) rfl (fun ls hl => ?_)
  exact w_Tally_empty_2 i0 j0 h0 hy hA 200 S (0 : Int32) hk hr _ _ _ hW (lv_sub hl [1, 0] rfl)
theorem d_Node_fall_0 : decode b_Node_fall 0 = .ok (.aload_n 0, 1) := by decide +kernel
theorem d_Node_fall_1 : decode b_Node_fall 1 = .ok (.iconst 0, 1) := by decide +kernel
theorem d_Node_fall_2 : decode b_Node_fall 2 = .ok (.putfield 34, 3) := by decide +kernel
theorem d_Node_fall_5 : decode b_Node_fall 5 = .ok (.aload_n 0, 1) := by decide +kernel
theorem d_Node_fall_6 : decode b_Node_fall 6 = .ok (.getfield 12, 3) := by decide +kernel
theorem d_Node_fall_9 : decode b_Node_fall 9 = .ok (.iconst 0, 1) := by decide +kernel
theorem d_Node_fall_10 : decode b_Node_fall 10 = .ok (.putfield 63, 3) := by decide +kernel
theorem d_Node_fall_13 : decode b_Node_fall 13 = .ok (.aload_n 0, 1) := by decide +kernel
theorem d_Node_fall_14 : decode b_Node_fall 14 = .ok (.getfield 23, 3) := by decide +kernel
theorem d_Node_fall_17 : decode b_Node_fall 17 = .ok (.invokevirtual 66, 3) := by decide +kernel
theorem d_Node_fall_20 : decode b_Node_fall 20 = .ok (.aload_n 0, 1) := by decide +kernel
theorem d_Node_fall_21 : decode b_Node_fall 21 = .ok (.getfield 27, 3) := by decide +kernel
theorem d_Node_fall_24 : decode b_Node_fall 24 = .ok (.invokevirtual 66, 3) := by decide +kernel
theorem d_Node_fall_27 : decode b_Node_fall 27 = .ok (.aload_n 0, 1) := by decide +kernel
theorem d_Node_fall_28 : decode b_Node_fall 28 = .ok (.iconst 0, 1) := by decide +kernel
theorem d_Node_fall_29 : decode b_Node_fall 29 = .ok (.putfield 60, 3) := by decide +kernel
theorem d_Node_fall_32 : decode b_Node_fall 32 = .ok (.return_, 1) := by decide +kernel
def f_Node_fall (i0 : Nat) (S : St) : St :=
  lt (si S 3 i0 0 7 (0 : Int32)) fun (S1 : St) =>
  lt (si S1 12 i0 0 1 (0 : Int32)) fun (S2 : St) =>
  lt (f_Tally_empty i0 0 S2) fun (S5 : St) =>
  lt (f_Tally_empty i0 1 S5) fun (S8 : St) =>
  lt (si S8 3 i0 0 6 (0 : Int32)) fun (S9 : St) =>
  S9
def ok_Node_fall (i0 : Nat) (S : St) : Prop :=
  lt (si S 3 i0 0 7 (0 : Int32)) fun (S1 : St) =>
  lt (si S1 12 i0 0 1 (0 : Int32)) fun (S2 : St) =>
  (ok_Tally_empty i0 0 S2) ∧ (
    lt (f_Tally_empty i0 0 S2) fun (S5 : St) =>
    (ok_Tally_empty i0 1 S5) ∧ (
      True))
set_option maxHeartbeats 4000000 in
set_option maxRecDepth 100000 in
theorem c_Node_fall (l : Launch) (D : va_G) (X : va_W) (ad : N3 → Nat) (ca : Nat → ClassId) (i0 : Nat) (h0 : i0 < 4) (S : St) (hk : ok_Node_fall i0 S) : cV l GG D clQ (tysQ ca) nwQ X ad TQ (cfQ ad ca) y_Node_fall b_Node_fall 1 1 21 [.ref (ad (3, i0, 0))] S (f_Node_fall i0 S) := by
  generalize hr : f_Node_fall i0 S = res
  refine zV_of pn_Node (Nat.le_of_ble_eq_true rfl) (fun p e s m below meth c A ls hy hW hA hl => ?_)
  have hF := hy.1
  have hx := hF.1
  have hb := hF.2.1
  have hK := hy.2.2.2
  have hl : lv_has ls 1 [(0, .ref (ad (3, i0, 0)))] := hl
  refine lv_aload_n (pc := 0) hx hb d_Node_fall_0 rfl (lv_at hl 0 rfl) ?_
  refine lv_iconst (pc := 1) (v := 0) hx hb d_Node_fall_1 (by decide) ?_
  obtain ⟨S1, eS1⟩ : ∃ z : St, z = si S 3 i0 0 7 (0 : Int32) := ⟨_, rfl⟩
  have hk := lt_p eS1 hk
  have hr := lt_e eS1 hr
  refine z_put (pc := 2) (S' := S1) hF hK.1 hW (tq3 h0) rfl rfl in_Node t_Node tyo_Node nmo_Node 7 (by decide) gw_309 rfl rfl rfl rfl rfl (Nat.le_of_ble_eq_true rfl) (zs_si eS1 rfl) (zs_sio eS1) d_Node_fall_2 (fun H locs (hW : Wd D clQ A s.heap (zw X ad TQ (cfQ ad ca) S1) H locs) => ?_)
  refine lv_aload_n (pc := 5) hx hb d_Node_fall_5 rfl (lv_at hl 0 rfl) ?_
  refine z_get (pc := 6) (v := .ref (ad (12, i0, 0))) hF hK.1 hW (tq3 h0) rfl rfl in_Node 2 (by decide) gw_299 rfl rfl d_Node_fall_6 ?_
  refine lv_iconst (pc := 9) (v := 0) hx hb d_Node_fall_9 (by decide) ?_
  obtain ⟨S2, eS2⟩ : ∃ z : St, z = si S1 12 i0 0 1 (0 : Int32) := ⟨_, rfl⟩
  have hk := lt_p eS2 hk
  have hr := lt_e eS2 hr
  refine z_put (pc := 10) (S' := S2) hF hK.1 hW (tq12 h0) rfl rfl in_Inbox t_Inbox tyo_Inbox nmo_Inbox 1 (by decide) gw_181 rfl rfl rfl rfl rfl (Nat.le_of_ble_eq_true rfl) (zs_si eS2 rfl) (zs_sio eS2) d_Node_fall_10 (fun H locs (hW : Wd D clQ A s.heap (zw X ad TQ (cfQ ad ca) S2) H locs) => ?_)
  refine lv_aload_n (pc := 13) hx hb d_Node_fall_13 rfl (lv_at hl 0 rfl) ?_
  refine z_get (pc := 14) (v := .ref (ad (16, i0, 0))) hF hK.1 hW (tq3 h0) rfl rfl in_Node 3 (by decide) gw_301 rfl rfl d_Node_fall_14 ?_
  have o3 := hk.1
  have hk := hk.2
  obtain ⟨S5, eS5⟩ : ∃ z : St, z = f_Tally_empty i0 0 S2 := ⟨_, rfl⟩
  have hk := lt_p eS5 hk
  have hr := lt_e eS5 hr
  refine z_goV (pc := 17) hW hA eS5 (z_runV hF hK hW (c_Tally_empty l D X ad ca i0 0 (⟨h0, by decide⟩) S2 o3 _) cd_Tally_empty gw_824 (tq16 (⟨h0, by decide⟩)) rfl rfl ⟨Nat.le_of_ble_eq_true rfl, Nat.le_of_ble_eq_true rfl⟩ ⟨Nat.zero_le _, Nat.zero_le _⟩ rfl rfl hl.1 (Nat.le_of_ble_eq_true rfl) d_Node_fall_17) (fun H locs (hW : Wd D clQ A s.heap (zw X ad TQ (cfQ ad ca) S5) H locs) => ?_)
  refine lv_aload_n (pc := 20) hx hb d_Node_fall_20 rfl (lv_at hl 0 rfl) ?_
  refine z_get (pc := 21) (v := .ref (ad (16, i0, 1))) hF hK.1 hW (tq3 h0) rfl rfl in_Node 4 (by decide) gw_303 rfl rfl d_Node_fall_21 ?_
  have o6 := hk.1
  have hk := hk.2
  obtain ⟨S8, eS8⟩ : ∃ z : St, z = f_Tally_empty i0 1 S5 := ⟨_, rfl⟩
  have hr := lt_e eS8 hr
  refine z_goV (pc := 24) hW hA eS8 (z_runV hF hK hW (c_Tally_empty l D X ad ca i0 1 (⟨h0, by decide⟩) S5 o6 _) cd_Tally_empty gw_824 (tq16 (⟨h0, by decide⟩)) rfl rfl ⟨Nat.le_of_ble_eq_true rfl, Nat.le_of_ble_eq_true rfl⟩ ⟨Nat.zero_le _, Nat.zero_le _⟩ rfl rfl hl.1 (Nat.le_of_ble_eq_true rfl) d_Node_fall_24) (fun H locs (hW : Wd D clQ A s.heap (zw X ad TQ (cfQ ad ca) S8) H locs) => ?_)
  refine lv_aload_n (pc := 27) hx hb d_Node_fall_27 rfl (lv_at hl 0 rfl) ?_
  refine lv_iconst (pc := 28) (v := 0) hx hb d_Node_fall_28 (by decide) ?_
  obtain ⟨S9, eS9⟩ : ∃ z : St, z = si S8 3 i0 0 6 (0 : Int32) := ⟨_, rfl⟩
  have hr := lt_e eS9 hr
  refine z_put (pc := 29) (S' := S9) hF hK.1 hW (tq3 h0) rfl rfl in_Node t_Node tyo_Node nmo_Node 6 (by decide) gw_307 rfl rfl rfl rfl rfl (Nat.le_of_ble_eq_true rfl) (zs_si eS9 rfl) (zs_sio eS9) d_Node_fall_29 (fun H locs (hW : Wd D clQ A s.heap (zw X ad TQ (cfQ ad ca) S9) H locs) => ?_)
  exact z_vret hy hW hr.symm d_Node_fall_32
theorem d_Node_rise_0 : decode b_Node_rise 0 = .ok (.aload_n 0, 1) := by decide +kernel
theorem d_Node_rise_1 : decode b_Node_rise 1 = .ok (.iconst 1, 1) := by decide +kernel
theorem d_Node_rise_2 : decode b_Node_rise 2 = .ok (.putfield 34, 3) := by decide +kernel
theorem d_Node_rise_5 : decode b_Node_rise 5 = .ok (.aload_n 0, 1) := by decide +kernel
theorem d_Node_rise_6 : decode b_Node_rise 6 = .ok (.iload_n 1, 1) := by decide +kernel
theorem d_Node_rise_7 : decode b_Node_rise 7 = .ok (.putfield 69, 3) := by decide +kernel
theorem d_Node_rise_10 : decode b_Node_rise 10 = .ok (.aload_n 0, 1) := by decide +kernel
theorem d_Node_rise_11 : decode b_Node_rise 11 = .ok (.bipush 6, 2) := by decide +kernel
theorem d_Node_rise_13 : decode b_Node_rise 13 = .ok (.putfield 45, 3) := by decide +kernel
theorem d_Node_rise_16 : decode b_Node_rise 16 = .ok (.aload_n 0, 1) := by decide +kernel
theorem d_Node_rise_17 : decode b_Node_rise 17 = .ok (.aload_n 0, 1) := by decide +kernel
theorem d_Node_rise_18 : decode b_Node_rise 18 = .ok (.getfield 56, 3) := by decide +kernel
theorem d_Node_rise_21 : decode b_Node_rise 21 = .ok (.getfield 72, 3) := by decide +kernel
theorem d_Node_rise_24 : decode b_Node_rise 24 = .ok (.iconst 1, 1) := by decide +kernel
theorem d_Node_rise_25 : decode b_Node_rise 25 = .ok (.invokestatic 75, 3) := by decide +kernel
theorem d_Node_rise_28 : decode b_Node_rise 28 = .ok (.invokevirtual 81, 3) := by decide +kernel
theorem d_Node_rise_31 : decode b_Node_rise 31 = .ok (.return_, 1) := by decide +kernel
def f_Node_rise (i0 : Nat) (a1 : Int32) (S : St) : St :=
  lt (si S 3 i0 0 7 (1 : Int32)) fun (S1 : St) =>
  lt (si S1 3 i0 0 11 a1) fun (S2 : St) =>
  lt (si S2 3 i0 0 10 (6 : Int32)) fun (S3 : St) =>
  lt (f_Node_enter i0 (if S3.1 4 i0 0 6 < (1 : Int32) then (1 : Int32) else S3.1 4 i0 0 6) S3) fun (S5 : St) =>
  S5
set_option maxHeartbeats 4000000 in
set_option maxRecDepth 100000 in
theorem c_Node_rise (l : Launch) (D : va_G) (X : va_W) (ad : N3 → Nat) (ca : Nat → ClassId) (i0 : Nat) (a1 : Int32) (h0 : i0 < 4) (S : St) : cV l GG D clQ (tysQ ca) nwQ X ad TQ (cfQ ad ca) y_Node_rise b_Node_rise 2 1 40 [.ref (ad (3, i0, 0)), .int a1] S (f_Node_rise i0 a1 S) := by
  generalize hr : f_Node_rise i0 a1 S = res
  refine zV_of pn_Node (Nat.le_of_ble_eq_true rfl) (fun p e s m below meth c A ls hy hW hA hl => ?_)
  have hF := hy.1
  have hx := hF.1
  have hb := hF.2.1
  have hK := hy.2.2.2
  have hl : lv_has ls 2 [(0, .ref (ad (3, i0, 0))), (1, .int a1)] := hl
  refine lv_aload_n (pc := 0) hx hb d_Node_rise_0 rfl (lv_at hl 0 rfl) ?_
  refine lv_iconst (pc := 1) (v := 1) hx hb d_Node_rise_1 (by decide) ?_
  obtain ⟨S1, eS1⟩ : ∃ z : St, z = si S 3 i0 0 7 (1 : Int32) := ⟨_, rfl⟩
  have hr := lt_e eS1 hr
  refine z_put (pc := 2) (S' := S1) hF hK.1 hW (tq3 h0) rfl rfl in_Node t_Node tyo_Node nmo_Node 7 (by decide) gw_309 rfl rfl rfl rfl rfl (Nat.le_of_ble_eq_true rfl) (zs_si eS1 rfl) (zs_sio eS1) d_Node_rise_2 (fun H locs (hW : Wd D clQ A s.heap (zw X ad TQ (cfQ ad ca) S1) H locs) => ?_)
  refine lv_aload_n (pc := 5) hx hb d_Node_rise_5 rfl (lv_at hl 0 rfl) ?_
  refine lv_iload_n (pc := 6) hx hb d_Node_rise_6 rfl (lv_at hl 1 rfl) ?_
  obtain ⟨S2, eS2⟩ : ∃ z : St, z = si S1 3 i0 0 11 a1 := ⟨_, rfl⟩
  have hr := lt_e eS2 hr
  refine z_put (pc := 7) (S' := S2) hF hK.1 hW (tq3 h0) rfl rfl in_Node t_Node tyo_Node nmo_Node 11 (by decide) gw_317 rfl rfl rfl rfl rfl (Nat.le_of_ble_eq_true rfl) (zs_si eS2 rfl) (zs_sio eS2) d_Node_rise_7 (fun H locs (hW : Wd D clQ A s.heap (zw X ad TQ (cfQ ad ca) S2) H locs) => ?_)
  refine lv_aload_n (pc := 10) hx hb d_Node_rise_10 rfl (lv_at hl 0 rfl) ?_
  refine lv_bipush (pc := 11) (v := 6) hx hb d_Node_rise_11 (by decide) ?_
  obtain ⟨S3, eS3⟩ : ∃ z : St, z = si S2 3 i0 0 10 (6 : Int32) := ⟨_, rfl⟩
  have hr := lt_e eS3 hr
  refine z_put (pc := 13) (S' := S3) hF hK.1 hW (tq3 h0) rfl rfl in_Node t_Node tyo_Node nmo_Node 10 (by decide) gw_315 rfl rfl rfl rfl rfl (Nat.le_of_ble_eq_true rfl) (zs_si eS3 rfl) (zs_sio eS3) d_Node_rise_13 (fun H locs (hW : Wd D clQ A s.heap (zw X ad TQ (cfQ ad ca) S3) H locs) => ?_)
  refine lv_aload_n (pc := 16) hx hb d_Node_rise_16 rfl (lv_at hl 0 rfl) ?_
  refine lv_aload_n (pc := 17) hx hb d_Node_rise_17 rfl (lv_at hl 0 rfl) ?_
  refine z_get (pc := 18) (v := .ref (ad (4, i0, 0))) hF hK.1 hW (tq3 h0) rfl rfl in_Node 1 (by decide) gw_297 rfl rfl d_Node_rise_18 ?_
  refine z_get (pc := 21) (v := .int (S3.1 4 i0 0 6)) hF hK.1 hW (tq4 h0) rfl rfl in_Store 6 (by decide) gw_275 rfl rfl d_Node_rise_21 ?_
  refine lv_iconst (pc := 24) (v := 1) hx hb d_Node_rise_24 (by decide) ?_
  refine va_mmax (pc := 25) hx hb (by rw [hF.2.2.1, hl.1]) hF.2.2.2.1 (hF.2.2.2.2 _ gw_844) (hF.2.2.2.2 _ gw_375) (hF.2.2.2.2 _ gw_71) (hF.2.2.2.2 _ gw_376) (Nat.le_of_ble_eq_true rfl) (Nat.le_of_ble_eq_true rfl) (Nat.zero_le _) (Nat.zero_le _) d_Node_rise_25 ?_
  obtain ⟨S5, eS5⟩ : ∃ z : St, z = f_Node_enter i0 (if S3.1 4 i0 0 6 < (1 : Int32) then (1 : Int32) else S3.1 4 i0 0 6) S3 := ⟨_, rfl⟩
  have hr := lt_e eS5 hr
  refine z_goV (pc := 28) hW hA eS5 (z_runV hF hK hW (c_Node_enter l D X ad ca i0 (if S3.1 4 i0 0 6 < (1 : Int32) then (1 : Int32) else S3.1 4 i0 0 6) h0 S3 _) cd_Node_enter gw_845 (tq3 h0) rfl rfl ⟨Nat.le_of_ble_eq_true rfl, Nat.le_of_ble_eq_true rfl⟩ ⟨Nat.zero_le _, Nat.zero_le _⟩ rfl rfl hl.1 (Nat.le_of_ble_eq_true rfl) d_Node_rise_28) (fun H locs (hW : Wd D clQ A s.heap (zw X ad TQ (cfQ ad ca) S5) H locs) => ?_)
  exact z_vret hy hW hr.symm d_Node_rise_31
theorem d_Transactions_add_0 : decode b_Transactions_add 0 = .ok (.aload_n 0, 1) := by decide +kernel
theorem d_Transactions_add_1 : decode b_Transactions_add 1 = .ok (.getfield 24, 3) := by decide +kernel
theorem d_Transactions_add_4 : decode b_Transactions_add 4 = .ok (.bipush 40, 2) := by decide +kernel
theorem d_Transactions_add_6 : decode b_Transactions_add 6 = .ok (.if_icmp .lt 5, 3) := by decide +kernel
theorem d_Transactions_add_9 : decode b_Transactions_add 9 = .ok (.iconst (-1), 1) := by decide +kernel
theorem d_Transactions_add_10 : decode b_Transactions_add 10 = .ok (.ireturn, 1) := by decide +kernel
theorem d_Transactions_add_11 : decode b_Transactions_add 11 = .ok (.aload_n 0, 1) := by decide +kernel
theorem d_Transactions_add_12 : decode b_Transactions_add 12 = .ok (.getfield 9, 3) := by decide +kernel
theorem d_Transactions_add_15 : decode b_Transactions_add 15 = .ok (.aload_n 0, 1) := by decide +kernel
theorem d_Transactions_add_16 : decode b_Transactions_add 16 = .ok (.getfield 24, 3) := by decide +kernel
theorem d_Transactions_add_19 : decode b_Transactions_add 19 = .ok (.iload_n 1, 1) := by decide +kernel
theorem d_Transactions_add_20 : decode b_Transactions_add 20 = .ok (.iastore, 1) := by decide +kernel
theorem d_Transactions_add_21 : decode b_Transactions_add 21 = .ok (.aload_n 0, 1) := by decide +kernel
theorem d_Transactions_add_22 : decode b_Transactions_add 22 = .ok (.getfield 15, 3) := by decide +kernel
theorem d_Transactions_add_25 : decode b_Transactions_add 25 = .ok (.aload_n 0, 1) := by decide +kernel
theorem d_Transactions_add_26 : decode b_Transactions_add 26 = .ok (.getfield 24, 3) := by decide +kernel
theorem d_Transactions_add_29 : decode b_Transactions_add 29 = .ok (.iload_n 2, 1) := by decide +kernel
theorem d_Transactions_add_30 : decode b_Transactions_add 30 = .ok (.iastore, 1) := by decide +kernel
theorem d_Transactions_add_31 : decode b_Transactions_add 31 = .ok (.aload_n 0, 1) := by decide +kernel
theorem d_Transactions_add_32 : decode b_Transactions_add 32 = .ok (.getfield 18, 3) := by decide +kernel
theorem d_Transactions_add_35 : decode b_Transactions_add 35 = .ok (.aload_n 0, 1) := by decide +kernel
theorem d_Transactions_add_36 : decode b_Transactions_add 36 = .ok (.getfield 24, 3) := by decide +kernel
theorem d_Transactions_add_39 : decode b_Transactions_add 39 = .ok (.iload_n 3, 1) := by decide +kernel
theorem d_Transactions_add_40 : decode b_Transactions_add 40 = .ok (.iastore, 1) := by decide +kernel
theorem d_Transactions_add_41 : decode b_Transactions_add 41 = .ok (.aload_n 0, 1) := by decide +kernel
theorem d_Transactions_add_42 : decode b_Transactions_add 42 = .ok (.getfield 21, 3) := by decide +kernel
theorem d_Transactions_add_45 : decode b_Transactions_add 45 = .ok (.aload_n 0, 1) := by decide +kernel
theorem d_Transactions_add_46 : decode b_Transactions_add 46 = .ok (.getfield 24, 3) := by decide +kernel
theorem d_Transactions_add_49 : decode b_Transactions_add 49 = .ok (.iload 4, 2) := by decide +kernel
theorem d_Transactions_add_51 : decode b_Transactions_add 51 = .ok (.iastore, 1) := by decide +kernel
theorem d_Transactions_add_52 : decode b_Transactions_add 52 = .ok (.aload_n 0, 1) := by decide +kernel
theorem d_Transactions_add_53 : decode b_Transactions_add 53 = .ok (.dup, 1) := by decide +kernel
theorem d_Transactions_add_54 : decode b_Transactions_add 54 = .ok (.getfield 24, 3) := by decide +kernel
theorem d_Transactions_add_57 : decode b_Transactions_add 57 = .ok (.iconst 1, 1) := by decide +kernel
theorem d_Transactions_add_58 : decode b_Transactions_add 58 = .ok (.iadd, 1) := by decide +kernel
theorem d_Transactions_add_59 : decode b_Transactions_add 59 = .ok (.putfield 24, 3) := by decide +kernel
theorem d_Transactions_add_62 : decode b_Transactions_add 62 = .ok (.aload_n 0, 1) := by decide +kernel
theorem d_Transactions_add_63 : decode b_Transactions_add 63 = .ok (.getfield 24, 3) := by decide +kernel
theorem d_Transactions_add_66 : decode b_Transactions_add 66 = .ok (.iconst 1, 1) := by decide +kernel
theorem d_Transactions_add_67 : decode b_Transactions_add 67 = .ok (.isub, 1) := by decide +kernel
theorem d_Transactions_add_68 : decode b_Transactions_add 68 = .ok (.ireturn, 1) := by decide +kernel
def f_Transactions_add (a1 : Int32) (a2 : Int32) (a3 : Int32) (a4 : Int32) (S : St) : Int32 × St :=
  if (S.1 24 0 0 4) < (40 : Int32) then
    lt (si S 25 0 0 ((S.1 24 0 0 4).toNatClampNeg) a1) fun (S3 : St) =>
    lt (si S3 26 0 0 ((S3.1 24 0 0 4).toNatClampNeg) a2) fun (S5 : St) =>
    lt (si S5 27 0 0 ((S5.1 24 0 0 4).toNatClampNeg) a3) fun (S7 : St) =>
    lt (si S7 28 0 0 ((S7.1 24 0 0 4).toNatClampNeg) a4) fun (S9 : St) =>
    lt (si S9 24 0 0 4 ((S9.1 24 0 0 4) + (1 : Int32))) fun (S10 : St) =>
    ((S10.1 24 0 0 4) - (1 : Int32), S10)
  else
    ((-1 : Int32), S)
def ok_Transactions_add (a1 : Int32) (a2 : Int32) (a3 : Int32) (a4 : Int32) (S : St) : Prop :=
  ((S.1 24 0 0 4) < (40 : Int32) → (
    (vp_in (S.1 24 0 0 4) 40) ∧ (
      lt (si S 25 0 0 ((S.1 24 0 0 4).toNatClampNeg) a1) fun (S3 : St) =>
      (vp_in (S3.1 24 0 0 4) 40) ∧ (
        lt (si S3 26 0 0 ((S3.1 24 0 0 4).toNatClampNeg) a2) fun (S5 : St) =>
        (vp_in (S5.1 24 0 0 4) 40) ∧ (
          lt (si S5 27 0 0 ((S5.1 24 0 0 4).toNatClampNeg) a3) fun (S7 : St) =>
          (vp_in (S7.1 24 0 0 4) 40) ∧ (
            True)))))) ∧ (¬ ((S.1 24 0 0 4) < (40 : Int32)) → (
    True))
set_option maxHeartbeats 4000000 in
set_option maxRecDepth 100000 in
theorem c_Transactions_add (l : Launch) (D : va_G) (X : va_W) (ad : N3 → Nat) (ca : Nat → ClassId) (a1 : Int32) (a2 : Int32) (a3 : Int32) (a4 : Int32)  (S : St) (hk : ok_Transactions_add a1 a2 a3 a4 S) : cI l GG D clQ (tysQ ca) nwQ X ad TQ (cfQ ad ca) y_Transactions_add b_Transactions_add 5 .int 0 0 [.ref (ad (24, 0, 0)), .int a1, .int a2, .int a3, .int a4] S (f_Transactions_add a1 a2 a3 a4 S) := by
  generalize hr : f_Transactions_add a1 a2 a3 a4 S = res
  refine zI_of pn_Transactions (Nat.le_of_ble_eq_true rfl) (fun p e s m below meth c A ls hy hW hA hl => ?_)
  have hF := hy.1
  have hx := hF.1
  have hb := hF.2.1
  have hK := hy.2.2.2
  have hl : lv_has ls 5 [(0, .ref (ad (24, 0, 0))), (1, .int a1), (2, .int a2), (3, .int a3), (4, .int a4)] := hl
  refine lv_aload_n (pc := 0) hx hb d_Transactions_add_0 rfl (lv_at hl 0 rfl) ?_
  refine z_get (pc := 1) (v := .int (S.1 24 0 0 4)) hF hK.1 hW tq24 rfl rfl in_Transactions 4 (by decide) gw_117 rfl rfl d_Transactions_add_1 ?_
  refine lv_bipush (pc := 4) (v := 40) hx hb d_Transactions_add_4 (by decide) ?_
  refine lv_icmp_lt (pc := 6) (tgt := 11) hx hb d_Transactions_add_6 (by decide) (fun c1 => ?_) (fun c1 => ?_)
  · have hk := hk.1 c1
    have hr := (if_pos c1).symm.trans hr
    refine lv_aload_n (pc := 11) hx hb d_Transactions_add_11 rfl (lv_at hl 0 rfl) ?_
    refine z_get (pc := 12) (v := .ref (ad (25, 0, 0))) hF hK.1 hW tq24 rfl rfl in_Transactions 0 (by decide) gw_113 rfl rfl d_Transactions_add_12 ?_
    refine lv_aload_n (pc := 15) hx hb d_Transactions_add_15 rfl (lv_at hl 0 rfl) ?_
    refine z_get (pc := 16) (v := .int (S.1 24 0 0 4)) hF hK.1 hW tq24 rfl rfl in_Transactions 4 (by decide) gw_117 rfl rfl d_Transactions_add_16 ?_
    refine lv_iload_n (pc := 19) hx hb d_Transactions_add_19 rfl (lv_at hl 1 rfl) ?_
    have b2 := hk.1
    have hk := hk.2
    obtain ⟨S3, eS3⟩ : ∃ z : St, z = si S 25 0 0 ((S.1 24 0 0 4).toNatClampNeg) a1 := ⟨_, rfl⟩
    have hk := lt_p eS3 hk
    have hr := lt_e eS3 hr
    refine z_iast (pc := 20) (S' := S3) hF hK.1 hW tq25 0 rfl rfl b2 (zs_si eS3 rfl) (zs_sio eS3) d_Transactions_add_20 (fun H locs (hW : Wd D clQ A s.heap (zw X ad TQ (cfQ ad ca) S3) H locs) => ?_)
    refine lv_aload_n (pc := 21) hx hb d_Transactions_add_21 rfl (lv_at hl 0 rfl) ?_
    refine z_get (pc := 22) (v := .ref (ad (26, 0, 0))) hF hK.1 hW tq24 rfl rfl in_Transactions 1 (by decide) gw_114 rfl rfl d_Transactions_add_22 ?_
    refine lv_aload_n (pc := 25) hx hb d_Transactions_add_25 rfl (lv_at hl 0 rfl) ?_
    refine z_get (pc := 26) (v := .int (S3.1 24 0 0 4)) hF hK.1 hW tq24 rfl rfl in_Transactions 4 (by decide) gw_117 rfl rfl d_Transactions_add_26 ?_
    refine lv_iload_n (pc := 29) hx hb d_Transactions_add_29 rfl (lv_at hl 2 rfl) ?_
    have b4 := hk.1
    have hk := hk.2
    obtain ⟨S5, eS5⟩ : ∃ z : St, z = si S3 26 0 0 ((S3.1 24 0 0 4).toNatClampNeg) a2 := ⟨_, rfl⟩
    have hk := lt_p eS5 hk
    have hr := lt_e eS5 hr
    refine z_iast (pc := 30) (S' := S5) hF hK.1 hW tq26 0 rfl rfl b4 (zs_si eS5 rfl) (zs_sio eS5) d_Transactions_add_30 (fun H locs (hW : Wd D clQ A s.heap (zw X ad TQ (cfQ ad ca) S5) H locs) => ?_)
    refine lv_aload_n (pc := 31) hx hb d_Transactions_add_31 rfl (lv_at hl 0 rfl) ?_
    refine z_get (pc := 32) (v := .ref (ad (27, 0, 0))) hF hK.1 hW tq24 rfl rfl in_Transactions 2 (by decide) gw_115 rfl rfl d_Transactions_add_32 ?_
    refine lv_aload_n (pc := 35) hx hb d_Transactions_add_35 rfl (lv_at hl 0 rfl) ?_
    refine z_get (pc := 36) (v := .int (S5.1 24 0 0 4)) hF hK.1 hW tq24 rfl rfl in_Transactions 4 (by decide) gw_117 rfl rfl d_Transactions_add_36 ?_
    refine lv_iload_n (pc := 39) hx hb d_Transactions_add_39 rfl (lv_at hl 3 rfl) ?_
    have b6 := hk.1
    have hk := hk.2
    obtain ⟨S7, eS7⟩ : ∃ z : St, z = si S5 27 0 0 ((S5.1 24 0 0 4).toNatClampNeg) a3 := ⟨_, rfl⟩
    have hk := lt_p eS7 hk
    have hr := lt_e eS7 hr
    refine z_iast (pc := 40) (S' := S7) hF hK.1 hW tq27 0 rfl rfl b6 (zs_si eS7 rfl) (zs_sio eS7) d_Transactions_add_40 (fun H locs (hW : Wd D clQ A s.heap (zw X ad TQ (cfQ ad ca) S7) H locs) => ?_)
    refine lv_aload_n (pc := 41) hx hb d_Transactions_add_41 rfl (lv_at hl 0 rfl) ?_
    refine z_get (pc := 42) (v := .ref (ad (28, 0, 0))) hF hK.1 hW tq24 rfl rfl in_Transactions 3 (by decide) gw_116 rfl rfl d_Transactions_add_42 ?_
    refine lv_aload_n (pc := 45) hx hb d_Transactions_add_45 rfl (lv_at hl 0 rfl) ?_
    refine z_get (pc := 46) (v := .int (S7.1 24 0 0 4)) hF hK.1 hW tq24 rfl rfl in_Transactions 4 (by decide) gw_117 rfl rfl d_Transactions_add_46 ?_
    refine lv_iload (pc := 49) hx hb d_Transactions_add_49 (lv_at hl 4 rfl) ?_
    have b8 := hk.1
    have hk := hk.2
    obtain ⟨S9, eS9⟩ : ∃ z : St, z = si S7 28 0 0 ((S7.1 24 0 0 4).toNatClampNeg) a4 := ⟨_, rfl⟩
    have hr := lt_e eS9 hr
    refine z_iast (pc := 51) (S' := S9) hF hK.1 hW tq28 0 rfl rfl b8 (zs_si eS9 rfl) (zs_sio eS9) d_Transactions_add_51 (fun H locs (hW : Wd D clQ A s.heap (zw X ad TQ (cfQ ad ca) S9) H locs) => ?_)
    refine lv_aload_n (pc := 52) hx hb d_Transactions_add_52 rfl (lv_at hl 0 rfl) ?_
    refine lv_dup (pc := 53) hx hb d_Transactions_add_53 rfl ?_
    refine z_get (pc := 54) (v := .int (S9.1 24 0 0 4)) hF hK.1 hW tq24 rfl rfl in_Transactions 4 (by decide) gw_117 rfl rfl d_Transactions_add_54 ?_
    refine lv_iconst (pc := 57) (v := 1) hx hb d_Transactions_add_57 (by decide) ?_
    refine lv_iadd (pc := 58) hx hb d_Transactions_add_58 ?_
    obtain ⟨S10, eS10⟩ : ∃ z : St, z = si S9 24 0 0 4 ((S9.1 24 0 0 4) + (1 : Int32)) := ⟨_, rfl⟩
    have hr := lt_e eS10 hr
    refine z_put (pc := 59) (S' := S10) hF hK.1 hW tq24 rfl rfl in_Transactions t_Transactions tyo_Transactions nmo_Transactions 4 (by decide) gw_117 rfl rfl rfl rfl rfl (Nat.le_of_ble_eq_true rfl) (zs_si eS10 rfl) (zs_sio eS10) d_Transactions_add_59 (fun H locs (hW : Wd D clQ A s.heap (zw X ad TQ (cfQ ad ca) S10) H locs) => ?_)
    refine lv_aload_n (pc := 62) hx hb d_Transactions_add_62 rfl (lv_at hl 0 rfl) ?_
    refine z_get (pc := 63) (v := .int (S10.1 24 0 0 4)) hF hK.1 hW tq24 rfl rfl in_Transactions 4 (by decide) gw_117 rfl rfl d_Transactions_add_63 ?_
    refine lv_iconst (pc := 66) (v := 1) hx hb d_Transactions_add_66 (by decide) ?_
    refine lv_isub (pc := 67) hx hb d_Transactions_add_67 ?_
    exact z_iret (v := (S10.1 24 0 0 4) - (1 : Int32)) hy hW hr.symm d_Transactions_add_68
  · have hk := hk.2 c1
    have hr := (if_neg c1).symm.trans hr
    refine lv_iconst (pc := 9) (v := -1) hx hb d_Transactions_add_9 (by decide) ?_
    exact z_iret (v := (-1 : Int32)) hy hW hr.symm d_Transactions_add_10
