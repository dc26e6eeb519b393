theorem d_Inbox_first_0 : decode b_Inbox_first 0 = .ok (.aload_n 0, 1) := by decide +kernel
theorem d_Inbox_first_1 : decode b_Inbox_first 1 = .ok (.getfield 11, 3) := by decide +kernel
theorem d_Inbox_first_4 : decode b_Inbox_first 4 = .ok (.iconst 0, 1) := by decide +kernel
theorem d_Inbox_first_5 : decode b_Inbox_first 5 = .ok (.aaload, 1) := by decide +kernel
theorem d_Inbox_first_6 : decode b_Inbox_first 6 = .ok (.areturn, 1) := by decide +kernel
def f_Inbox_first (i0 : Nat) (S : St) : Nat :=
  (S.2.2 13 i0 0 0)
def ok_Inbox_first (i0 : Nat) (S : St) : Prop :=
  ((S.2.2 13 i0 0 0) < 16) ∧ (
    True)
set_option maxHeartbeats 4000000 in
set_option maxRecDepth 100000 in
theorem c_Inbox_first (l : Launch) (D : va_G) (X : va_W) (ad : N3 → Nat) (ca : Nat → ClassId) (i0 : Nat) (h0 : i0 < 4) (S : St) (hk : ok_Inbox_first i0 S) : cP l GG D clQ (tysQ ca) nwQ (zw X ad TQ (cfQ ad ca) S) y_Inbox_first b_Inbox_first 1 (.object "QuorumChain$Message") 0 0 [.ref (ad (12, i0, 0))] (.ref (ad (14, i0, (f_Inbox_first i0 S)))) := by
  generalize hr : f_Inbox_first i0 S = res
  refine zP_of pn_Inbox (Nat.le_of_ble_eq_true rfl) (fun p e s m below meth c ls hy hW hl => ?_)
  have hF := hy.1
  have hx := hF.1
  have hb := hF.2.1
  have hK := hy.2.2.2
  have hl : lv_has ls 1 [(0, .ref (ad (12, i0, 0)))] := hl
  refine lv_aload_n (pc := 0) hx hb d_Inbox_first_0 rfl (lv_at hl 0 rfl) ?_
  refine z_get (pc := 1) (v := .ref (ad (13, i0, 0))) hF hK.1 hW (tq12 h0) rfl rfl in_Inbox 0 (by decide) gw_178 rfl rfl d_Inbox_first_1 ?_
  refine lv_iconst (pc := 4) (v := 0) hx hb d_Inbox_first_4 (by decide) ?_
  have b1 : vp_in (0 : Int32) 16 := by unfold vp_in; decide
  have b2 := hk.1
  have hk := hk.2
  refine z_aald (pc := 5) (q := ad (14, i0, (S.2.2 13 i0 0 0))) hF hK.1 hW (tq13 h0) 4 rfl rfl b1 rfl d_Inbox_first_5 ?_
  exact p_aret (q := ad (14, i0, (S.2.2 13 i0 0 0))) hy (congrArg (fun z => Value.ref (ad (14, i0, z))) hr) d_Inbox_first_6
theorem d_Inbox_moveFirstBehind_0 : decode b_Inbox_moveFirstBehind 0 = .ok (.aload_n 0, 1) := by decide +kernel
theorem d_Inbox_moveFirstBehind_1 : decode b_Inbox_moveFirstBehind 1 = .ok (.getfield 11, 3) := by decide +kernel
theorem d_Inbox_moveFirstBehind_4 : decode b_Inbox_moveFirstBehind 4 = .ok (.iconst 0, 1) := by decide +kernel
theorem d_Inbox_moveFirstBehind_5 : decode b_Inbox_moveFirstBehind 5 = .ok (.aaload, 1) := by decide +kernel
theorem d_Inbox_moveFirstBehind_6 : decode b_Inbox_moveFirstBehind 6 = .ok (.astore_n 1, 1) := by decide +kernel
theorem d_Inbox_moveFirstBehind_7 : decode b_Inbox_moveFirstBehind 7 = .ok (.iconst 1, 1) := by decide +kernel
theorem d_Inbox_moveFirstBehind_8 : decode b_Inbox_moveFirstBehind 8 = .ok (.istore_n 2, 1) := by decide +kernel
theorem d_Inbox_moveFirstBehind_9 : decode b_Inbox_moveFirstBehind 9 = .ok (.iload_n 2, 1) := by decide +kernel
theorem d_Inbox_moveFirstBehind_10 : decode b_Inbox_moveFirstBehind 10 = .ok (.aload_n 0, 1) := by decide +kernel
theorem d_Inbox_moveFirstBehind_11 : decode b_Inbox_moveFirstBehind 11 = .ok (.getfield 18, 3) := by decide +kernel
theorem d_Inbox_moveFirstBehind_14 : decode b_Inbox_moveFirstBehind 14 = .ok (.if_icmp .ge 30, 3) := by decide +kernel
theorem d_Inbox_moveFirstBehind_17 : decode b_Inbox_moveFirstBehind 17 = .ok (.aload_n 0, 1) := by decide +kernel
theorem d_Inbox_moveFirstBehind_18 : decode b_Inbox_moveFirstBehind 18 = .ok (.getfield 11, 3) := by decide +kernel
theorem d_Inbox_moveFirstBehind_21 : decode b_Inbox_moveFirstBehind 21 = .ok (.iload_n 2, 1) := by decide +kernel
theorem d_Inbox_moveFirstBehind_22 : decode b_Inbox_moveFirstBehind 22 = .ok (.iconst 1, 1) := by decide +kernel
theorem d_Inbox_moveFirstBehind_23 : decode b_Inbox_moveFirstBehind 23 = .ok (.isub, 1) := by decide +kernel
theorem d_Inbox_moveFirstBehind_24 : decode b_Inbox_moveFirstBehind 24 = .ok (.aload_n 0, 1) := by decide +kernel
theorem d_Inbox_moveFirstBehind_25 : decode b_Inbox_moveFirstBehind 25 = .ok (.getfield 11, 3) := by decide +kernel
theorem d_Inbox_moveFirstBehind_28 : decode b_Inbox_moveFirstBehind 28 = .ok (.iload_n 2, 1) := by decide +kernel
theorem d_Inbox_moveFirstBehind_29 : decode b_Inbox_moveFirstBehind 29 = .ok (.aaload, 1) := by decide +kernel
theorem d_Inbox_moveFirstBehind_30 : decode b_Inbox_moveFirstBehind 30 = .ok (.aastore, 1) := by decide +kernel
theorem d_Inbox_moveFirstBehind_31 : decode b_Inbox_moveFirstBehind 31 = .ok (.aload_n 0, 1) := by decide +kernel
theorem d_Inbox_moveFirstBehind_32 : decode b_Inbox_moveFirstBehind 32 = .ok (.getfield 11, 3) := by decide +kernel
theorem d_Inbox_moveFirstBehind_35 : decode b_Inbox_moveFirstBehind 35 = .ok (.iload_n 2, 1) := by decide +kernel
theorem d_Inbox_moveFirstBehind_36 : decode b_Inbox_moveFirstBehind 36 = .ok (.aload_n 1, 1) := by decide +kernel
theorem d_Inbox_moveFirstBehind_37 : decode b_Inbox_moveFirstBehind 37 = .ok (.aastore, 1) := by decide +kernel
theorem d_Inbox_moveFirstBehind_38 : decode b_Inbox_moveFirstBehind 38 = .ok (.iinc 2 1, 3) := by decide +kernel
theorem d_Inbox_moveFirstBehind_41 : decode b_Inbox_moveFirstBehind 41 = .ok (.goto (-32), 3) := by decide +kernel
theorem d_Inbox_moveFirstBehind_44 : decode b_Inbox_moveFirstBehind 44 = .ok (.return_, 1) := by decide +kernel
def f_Inbox_moveFirstBehind_9 (i0 : Nat) : Nat → St → Nat → Int32 → St
  | 0, S, _, _ => S
  | n + 1, S, l1j, l2 =>
    if (S.1 12 i0 0 1) ≤ l2 then
      S
    else
      lt (sp S 13 i0 0 ((l2 - (1 : Int32)).toNatClampNeg) (S.2.2 13 i0 0 (l2.toNatClampNeg))) fun (S7 : St) =>
      lt (sp S7 13 i0 0 (l2.toNatClampNeg) l1j) fun (S9 : St) =>
      f_Inbox_moveFirstBehind_9 i0 n S9 l1j (l2 + (1 : Int32))
def ok_Inbox_moveFirstBehind_9 (i0 : Nat) : Nat → St → Nat → Int32 → Prop
  | 0, _, _, _ => False
  | n + 1, S, l1j, l2 =>
    ((S.1 12 i0 0 1) ≤ l2 → (
      True)) ∧ (¬ ((S.1 12 i0 0 1) ≤ l2) → (
      (vp_in l2 16) ∧ (
        ((S.2.2 13 i0 0 (l2.toNatClampNeg)) < 16) ∧ (
          (vp_in (l2 - (1 : Int32)) 16) ∧ (
            lt (sp S 13 i0 0 ((l2 - (1 : Int32)).toNatClampNeg) (S.2.2 13 i0 0 (l2.toNatClampNeg))) fun (S7 : St) =>
            (vp_in l2 16) ∧ (
              lt (sp S7 13 i0 0 (l2.toNatClampNeg) l1j) fun (S9 : St) =>
              ok_Inbox_moveFirstBehind_9 i0 n S9 l1j (l2 + (1 : Int32))))))))
set_option maxHeartbeats 4000000 in
set_option maxRecDepth 100000 in
theorem w_Inbox_moveFirstBehind_9 {l : Launch} {D : va_G} {X : va_W} {ad : N3 → Nat} {ca : Nat → ClassId} (i0 : Nat) (h0 : i0 < 4) {p : Program} {e : Env} {s : State} {m : MethodId} {below : List Frame} {meth : Method} {c : Code} {A : Nat → Prop} (hy : Hy p s m ([.ref (ad (12, i0, 0))] : List Value).toArray meth c b_Inbox_moveFirstBehind 3 none R_Inbox GG D clQ (tysQ ca) nwQ) (hA : ∀ q, s.heap.size ≤ q → A q) {res : St} : ∀ (n : Nat) (S : St) (l1j : Nat) (l2 : Int32) (gl1 : inM i0 l1j), ok_Inbox_moveFirstBehind_9 i0 n S l1j l2 → f_Inbox_moveFirstBehind_9 i0 n S l1j l2 = res → ∀ (H : Heap) (locs : List Loc) (ls : Array Slot), Wd D clQ A s.heap (zw X ad TQ (cfQ ad ca) S) H locs → lv_has ls 3 [(0, .ref (ad (12, i0, 0))), (1, .ref (ad (14, i0, l1j))), (2, .int l2)] → W p l e { frames := 0, cells := 0, slots := 0, locals := 0 } s m ([.ref (ad (12, i0, 0))] : List Value).toArray below meth c H locs 0 0 (MQ below (eV D clQ X ad TQ (cfQ ad ca) A res) ([.ref (ad (12, i0, 0))] : List Value).toArray s 0 0 A) (F0 m 9 ls []) := by
  have hF := hy.1
  have hx := hF.1
  have hb := hF.2.1
  have hK := hy.2.2.2
  intro n
  induction n with
  | zero =>
    intro S l1j l2 gl1 hk
    exact hk.elim
  | succ n ih =>
    intro S l1j l2 gl1 hk hr H locs ls hW hl
    refine lv_iload_n (pc := 9) hx hb d_Inbox_moveFirstBehind_9 rfl (lv_at hl 2 rfl) ?_
    refine lv_aload_n (pc := 10) hx hb d_Inbox_moveFirstBehind_10 rfl (lv_at hl 0 rfl) ?_
    refine z_get (pc := 11) (v := .int (S.1 12 i0 0 1)) hF hK.1 hW (tq12 h0) rfl rfl in_Inbox 1 (by decide) gw_180 rfl rfl d_Inbox_moveFirstBehind_11 ?_
    refine lv_icmp_ge (pc := 14) (tgt := 44) hx hb d_Inbox_moveFirstBehind_14 (by decide) (fun c3 => ?_) (fun c3 => ?_)
    · have hk := hk.1 c3
      have hr := (if_pos c3).symm.trans hr
      exact z_vret hy hW hr.symm d_Inbox_moveFirstBehind_44
    · have hk := hk.2 c3
      have hr := (if_neg c3).symm.trans hr
      refine lv_aload_n (pc := 17) hx hb d_Inbox_moveFirstBehind_17 rfl (lv_at hl 0 rfl) ?_
      refine z_get (pc := 18) (v := .ref (ad (13, i0, 0))) hF hK.1 hW (tq12 h0) rfl rfl in_Inbox 0 (by decide) gw_178 rfl rfl d_Inbox_moveFirstBehind_18 ?_
      refine lv_iload_n (pc := 21) hx hb d_Inbox_moveFirstBehind_21 rfl (lv_at hl 2 rfl) ?_
      refine lv_iconst (pc := 22) (v := 1) hx hb d_Inbox_moveFirstBehind_22 (by decide) ?_
      refine lv_isub (pc := 23) hx hb d_Inbox_moveFirstBehind_23 ?_
      refine lv_aload_n (pc := 24) hx hb d_Inbox_moveFirstBehind_24 rfl (lv_at hl 0 rfl) ?_
      refine z_get (pc := 25) (v := .ref (ad (13, i0, 0))) hF hK.1 hW (tq12 h0) rfl rfl in_Inbox 0 (by decide) gw_178 rfl rfl d_Inbox_moveFirstBehind_25 ?_
      refine lv_iload_n (pc := 28) hx hb d_Inbox_moveFirstBehind_28 rfl (lv_at hl 2 rfl) ?_
      have b4 := hk.1
      have hk := hk.2
      have b5 := hk.1
      have hk := hk.2
      refine z_aald (pc := 29) (q := ad (14, i0, (S.2.2 13 i0 0 (l2.toNatClampNeg)))) hF hK.1 hW (tq13 h0) 4 rfl rfl b4 rfl d_Inbox_moveFirstBehind_29 ?_
      have b6 := hk.1
      have hk := hk.2
      obtain ⟨S7, eS7⟩ : ∃ z : St, z = sp S 13 i0 0 ((l2 - (1 : Int32)).toNatClampNeg) (S.2.2 13 i0 0 (l2.toNatClampNeg)) := ⟨_, rfl⟩
      have hk := lt_p eS7 hk
      have hr := lt_e eS7 hr
      refine z_aast (pc := 30) (S' := S7) hF hK.1 hW (tq13 h0) (tq14 (Or.inl ⟨h0, b5⟩)) 4 6 rfl rfl rfl rfl b6 (zs_sp eS7 cfQ_row) (zs_spo eS7) d_Inbox_moveFirstBehind_30 (fun H locs (hW : Wd D clQ A s.heap (zw X ad TQ (cfQ ad ca) S7) H locs) => ?_)
      refine lv_aload_n (pc := 31) hx hb d_Inbox_moveFirstBehind_31 rfl (lv_at hl 0 rfl) ?_
      refine z_get (pc := 32) (v := .ref (ad (13, i0, 0))) hF hK.1 hW (tq12 h0) rfl rfl in_Inbox 0 (by decide) gw_178 rfl rfl d_Inbox_moveFirstBehind_32 ?_
      refine lv_iload_n (pc := 35) hx hb d_Inbox_moveFirstBehind_35 rfl (lv_at hl 2 rfl) ?_
      refine lv_aload_n (pc := 36) hx hb d_Inbox_moveFirstBehind_36 rfl (lv_at hl 1 rfl) ?_
      have b8 := hk.1
      have hk := hk.2
      obtain ⟨S9, eS9⟩ : ∃ z : St, z = sp S7 13 i0 0 (l2.toNatClampNeg) l1j := ⟨_, rfl⟩
      have hk := lt_p eS9 hk
      have hr := lt_e eS9 hr
      refine z_aast (pc := 37) (S' := S9) hF hK.1 hW (tq13 h0) (tq14 gl1) 4 6 rfl rfl rfl rfl b8 (zs_sp eS9 cfQ_row) (zs_spo eS9) d_Inbox_moveFirstBehind_37 (fun H locs (hW : Wd D clQ A s.heap (zw X ad TQ (cfQ ad ca) S9) H locs) => ?_)
      refine lv_iinc (pc := 38) (v := l2 + (1 : Int32)) (lv' := [(2, .int (l2 + (1 : Int32))), (0, .ref (ad (12, i0, 0))), (1, .ref (ad (14, i0, l1j)))]) (k := 2) hx hb d_Inbox_moveFirstBehind_38 hl rfl (z_inc (by decide)) (by decide) rfl (fun ls hl => ?_)
      refine lv_goto (pc := 41) (tgt := 9) hx hb d_Inbox_moveFirstBehind_41 (by decide) ?_
      exact ih S9 l1j (l2 + (1 : Int32)) gl1 hk hr _ _ _ hW (lv_sub hl [1, 2, 0] rfl)
def f_Inbox_moveFirstBehind (i0 : Nat) (S : St) : St :=
  f_Inbox_moveFirstBehind_9 i0 200 S (S.2.2 13 i0 0 0) (1 : Int32)
def ok_Inbox_moveFirstBehind (i0 : Nat) (S : St) : Prop :=
  ((S.2.2 13 i0 0 0) < 16) ∧ (
    ok_Inbox_moveFirstBehind_9 i0 200 S (S.2.2 13 i0 0 0) (1 : Int32))
set_option maxHeartbeats 4000000 in
set_option maxRecDepth 100000 in
theorem c_Inbox_moveFirstBehind (l : Launch) (D : va_G) (X : va_W) (ad : N3 → Nat) (ca : Nat → ClassId) (i0 : Nat) (h0 : i0 < 4) (S : St) (hk : ok_Inbox_moveFirstBehind i0 S) : cV l GG D clQ (tysQ ca) nwQ X ad TQ (cfQ ad ca) y_Inbox_moveFirstBehind b_Inbox_moveFirstBehind 3 0 0 [.ref (ad (12, i0, 0))] S (f_Inbox_moveFirstBehind i0 S) := by
  generalize hr : f_Inbox_moveFirstBehind i0 S = res
  refine zV_of pn_Inbox (Nat.le_of_ble_eq_true rfl) (fun p e s m below meth c A ls hy hW hA hl => ?_)
  have hF := hy.1
  have hx := hF.1
  have hb := hF.2.1
  have hK := hy.2.2.2
  have hl : lv_has ls 3 [(0, .ref (ad (12, i0, 0)))] := hl
  refine lv_aload_n (pc := 0) hx hb d_Inbox_moveFirstBehind_0 rfl (lv_at hl 0 rfl) ?_
  refine z_get (pc := 1) (v := .ref (ad (13, i0, 0))) hF hK.1 hW (tq12 h0) rfl rfl in_Inbox 0 (by decide) gw_178 rfl rfl d_Inbox_moveFirstBehind_1 ?_
  refine lv_iconst (pc := 4) (v := 0) hx hb d_Inbox_moveFirstBehind_4 (by decide) ?_
  have b1 : vp_in (0 : Int32) 16 := by unfold vp_in; decide
  have b2 := hk.1
  have hk := hk.2
  refine z_aald (pc := 5) (q := ad (14, i0, (S.2.2 13 i0 0 0))) hF hK.1 hW (tq13 h0) 4 rfl rfl b1 rfl d_Inbox_moveFirstBehind_5 ?_
  refine lv_astore_n (pc := 6) (lv' := [(1, .ref (ad (14, i0, (S.2.2 13 i0 0 0)))), (0, .ref (ad (12, i0, 0)))]) hx hb d_Inbox_moveFirstBehind_6 rfl hl (by decide) rfl (fun ls hl => ?_)
  refine lv_iconst (pc := 7) (v := 1) hx hb d_Inbox_moveFirstBehind_7 (by decide) ?_
  refine lv_istore_n (pc := 8) (lv' := [(2, .int (1 : Int32)), (1, .ref (ad (14, i0, (S.2.2 13 i0 0 0)))), (0, .ref (ad (12, i0, 0)))]) hx hb d_Inbox_moveFirstBehind_8 rfl hl (by decide) rfl (fun ls hl => ?_)
  exact w_Inbox_moveFirstBehind_9 i0 h0 hy hA 200 S (S.2.2 13 i0 0 0) (1 : Int32) (Or.inl ⟨h0, b2⟩) hk hr _ _ _ hW (lv_sub hl [2, 1, 0] rfl)
theorem d_Inbox_dropFirst_0 : decode b_Inbox_dropFirst 0 = .ok (.aload_n 0, 1) := by decide +kernel
theorem d_Inbox_dropFirst_1 : decode b_Inbox_dropFirst 1 = .ok (.getfield 18, 3) := by decide +kernel
theorem d_Inbox_dropFirst_4 : decode b_Inbox_dropFirst 4 = .ok (.ifCond .le 17, 3) := by decide +kernel
theorem d_Inbox_dropFirst_7 : decode b_Inbox_dropFirst 7 = .ok (.aload_n 0, 1) := by decide +kernel
theorem d_Inbox_dropFirst_8 : decode b_Inbox_dropFirst 8 = .ok (.invokevirtual 26, 3) := by decide +kernel
theorem d_Inbox_dropFirst_11 : decode b_Inbox_dropFirst 11 = .ok (.aload_n 0, 1) := by decide +kernel
theorem d_Inbox_dropFirst_12 : decode b_Inbox_dropFirst 12 = .ok (.dup, 1) := by decide +kernel
theorem d_Inbox_dropFirst_13 : decode b_Inbox_dropFirst 13 = .ok (.getfield 18, 3) := by decide +kernel
theorem d_Inbox_dropFirst_16 : decode b_Inbox_dropFirst 16 = .ok (.iconst 1, 1) := by decide +kernel
theorem d_Inbox_dropFirst_17 : decode b_Inbox_dropFirst 17 = .ok (.isub, 1) := by decide +kernel
theorem d_Inbox_dropFirst_18 : decode b_Inbox_dropFirst 18 = .ok (.putfield 18, 3) := by decide +kernel
theorem d_Inbox_dropFirst_21 : decode b_Inbox_dropFirst 21 = .ok (.return_, 1) := by decide +kernel
def f_Inbox_dropFirst (i0 : Nat) (S : St) : St :=
  if (S.1 12 i0 0 1) ≤ 0 then
    S
  else
    lt (f_Inbox_moveFirstBehind i0 S) fun (S4 : St) =>
    lt (si S4 12 i0 0 1 ((S4.1 12 i0 0 1) - (1 : Int32))) fun (S5 : St) =>
    S5
def ok_Inbox_dropFirst (i0 : Nat) (S : St) : Prop :=
  ((S.1 12 i0 0 1) ≤ 0 → (
    True)) ∧ (¬ ((S.1 12 i0 0 1) ≤ 0) → (
    (ok_Inbox_moveFirstBehind i0 S) ∧ (
      True)))
set_option maxHeartbeats 4000000 in
set_option maxRecDepth 100000 in
theorem c_Inbox_dropFirst (l : Launch) (D : va_G) (X : va_W) (ad : N3 → Nat) (ca : Nat → ClassId) (i0 : Nat) (h0 : i0 < 4) (S : St) (hk : ok_Inbox_dropFirst i0 S) : cV l GG D clQ (tysQ ca) nwQ X ad TQ (cfQ ad ca) y_Inbox_dropFirst b_Inbox_dropFirst 1 1 22 [.ref (ad (12, i0, 0))] S (f_Inbox_dropFirst i0 S) := by
  generalize hr : f_Inbox_dropFirst i0 S = res
  refine zV_of pn_Inbox (Nat.le_of_ble_eq_true rfl) (fun p e s m below meth c A ls hy hW hA hl => ?_)
  have hF := hy.1
  have hx := hF.1
  have hb := hF.2.1
  have hK := hy.2.2.2
  have hl : lv_has ls 1 [(0, .ref (ad (12, i0, 0)))] := hl
  refine lv_aload_n (pc := 0) hx hb d_Inbox_dropFirst_0 rfl (lv_at hl 0 rfl) ?_
  refine z_get (pc := 1) (v := .int (S.1 12 i0 0 1)) hF hK.1 hW (tq12 h0) rfl rfl in_Inbox 1 (by decide) gw_180 rfl rfl d_Inbox_dropFirst_1 ?_
  refine lv_if_le (pc := 4) (tgt := 21) hx hb d_Inbox_dropFirst_4 (by decide) (fun c1 => ?_) (fun c1 => ?_)
  · have hk := hk.1 c1
    have hr := (if_pos c1).symm.trans hr
    exact z_vret hy hW hr.symm d_Inbox_dropFirst_21
  · have hk := hk.2 c1
    have hr := (if_neg c1).symm.trans hr
    refine lv_aload_n (pc := 7) hx hb d_Inbox_dropFirst_7 rfl (lv_at hl 0 rfl) ?_
    have o2 := hk.1
    have hk := hk.2
    obtain ⟨S4, eS4⟩ : ∃ z : St, z = f_Inbox_moveFirstBehind i0 S := ⟨_, rfl⟩
    have hr := lt_e eS4 hr
    refine z_goV (pc := 8) hW hA eS4 (z_runV hF hK hW (c_Inbox_moveFirstBehind l D X ad ca i0 h0 S o2 _) cd_Inbox_moveFirstBehind gw_662 (tq12 h0) rfl rfl ⟨Nat.le_of_ble_eq_true rfl, Nat.le_of_ble_eq_true rfl⟩ ⟨Nat.zero_le _, Nat.zero_le _⟩ rfl rfl hl.1 (Nat.le_of_ble_eq_true rfl) d_Inbox_dropFirst_8) (fun H locs (hW : Wd D clQ A s.heap (zw X ad TQ (cfQ ad ca) S4) H locs) => ?_)
    refine lv_aload_n (pc := 11) hx hb d_Inbox_dropFirst_11 rfl (lv_at hl 0 rfl) ?_
    refine lv_dup (pc := 12) hx hb d_Inbox_dropFirst_12 rfl ?_
    refine z_get (pc := 13) (v := .int (S4.1 12 i0 0 1)) hF hK.1 hW (tq12 h0) rfl rfl in_Inbox 1 (by decide) gw_180 rfl rfl d_Inbox_dropFirst_13 ?_
    refine lv_iconst (pc := 16) (v := 1) hx hb d_Inbox_dropFirst_16 (by decide) ?_
    refine lv_isub (pc := 17) hx hb d_Inbox_dropFirst_17 ?_
    obtain ⟨S5, eS5⟩ : ∃ z : St, z = si S4 12 i0 0 1 ((S4.1 12 i0 0 1) - (1 : Int32)) := ⟨_, rfl⟩
    have hr := lt_e eS5 hr
    refine z_put (pc := 18) (S' := S5) hF hK.1 hW (tq12 h0) rfl rfl in_Inbox t_Inbox tyo_Inbox nmo_Inbox 1 (by decide) gw_180 rfl rfl rfl rfl rfl (Nat.le_of_ble_eq_true rfl) (zs_si eS5 rfl) (zs_sio eS5) d_Inbox_dropFirst_18 (fun H locs (hW : Wd D clQ A s.heap (zw X ad TQ (cfQ ad ca) S5) H locs) => ?_)
    exact z_vret hy hW hr.symm d_Inbox_dropFirst_21
theorem d_KeyTree_leafOf_0 : decode b_KeyTree_leafOf 0 = .ok (.ldc2_w 67, 3) := by decide +kernel
theorem d_KeyTree_leafOf_3 : decode b_KeyTree_leafOf 3 = .ok (.lstore_n 3, 1) := by decide +kernel
theorem d_KeyTree_leafOf_4 : decode b_KeyTree_leafOf 4 = .ok (.iconst 0, 1) := by decide +kernel
theorem d_KeyTree_leafOf_5 : decode b_KeyTree_leafOf 5 = .ok (.istore 5, 2) := by decide +kernel
theorem d_KeyTree_leafOf_7 : decode b_KeyTree_leafOf 7 = .ok (.iload 5, 2) := by decide +kernel
theorem d_KeyTree_leafOf_9 : decode b_KeyTree_leafOf 9 = .ok (.bipush 6, 2) := by decide +kernel
theorem d_KeyTree_leafOf_11 : decode b_KeyTree_leafOf 11 = .ok (.if_icmp .ge 27, 3) := by decide +kernel
theorem d_KeyTree_leafOf_14 : decode b_KeyTree_leafOf 14 = .ok (.lload_n 3, 1) := by decide +kernel
theorem d_KeyTree_leafOf_15 : decode b_KeyTree_leafOf 15 = .ok (.iload_n 0, 1) := by decide +kernel
theorem d_KeyTree_leafOf_16 : decode b_KeyTree_leafOf 16 = .ok (.iload_n 1, 1) := by decide +kernel
theorem d_KeyTree_leafOf_17 : decode b_KeyTree_leafOf 17 = .ok (.iload_n 2, 1) := by decide +kernel
theorem d_KeyTree_leafOf_18 : decode b_KeyTree_leafOf 18 = .ok (.iload 5, 2) := by decide +kernel
theorem d_KeyTree_leafOf_20 : decode b_KeyTree_leafOf 20 = .ok (.invokestatic 55, 3) := by decide +kernel
theorem d_KeyTree_leafOf_23 : decode b_KeyTree_leafOf 23 = .ok (.bipush 15, 2) := by decide +kernel
theorem d_KeyTree_leafOf_25 : decode b_KeyTree_leafOf 25 = .ok (.invokestatic 63, 3) := by decide +kernel
theorem d_KeyTree_leafOf_28 : decode b_KeyTree_leafOf 28 = .ok (.invokestatic 69, 3) := by decide +kernel
theorem d_KeyTree_leafOf_31 : decode b_KeyTree_leafOf 31 = .ok (.lstore_n 3, 1) := by decide +kernel
theorem d_KeyTree_leafOf_32 : decode b_KeyTree_leafOf 32 = .ok (.iinc 5 1, 3) := by decide +kernel
theorem d_KeyTree_leafOf_35 : decode b_KeyTree_leafOf 35 = .ok (.goto (-28), 3) := by decide +kernel
theorem d_KeyTree_leafOf_38 : decode b_KeyTree_leafOf 38 = .ok (.lload_n 3, 1) := by decide +kernel
theorem d_KeyTree_leafOf_39 : decode b_KeyTree_leafOf 39 = .ok (.invokestatic 72, 3) := by decide +kernel
theorem d_KeyTree_leafOf_42 : decode b_KeyTree_leafOf 42 = .ok (.lreturn, 1) := by decide +kernel
def f_KeyTree_leafOf_7 (a0 : Int32) (a1 : Int32) (a2 : Int32) : Nat → St → Int64 → Int32 → Int64
  | 0, _, _, _ => 0
  | n + 1, S, l3, l5 =>
    if (6 : Int32) ≤ l5 then
      lt (f_Fold_finish l3 S) fun (r2 : Int64) =>
      r2
    else
      lt (f_KeyTree_secretOf a0 a1 a2 l5 S) fun (r3 : Int64) =>
      lt (f_Fold_afterSteps r3 (15 : Int32) S) fun (r5 : Int64) =>
      lt (f_Fold_absorb l3 r5 S) fun (r6 : Int64) =>
      f_KeyTree_leafOf_7 a0 a1 a2 n S r6 (l5 + (1 : Int32))
def ok_KeyTree_leafOf_7 (a0 : Int32) (a1 : Int32) (a2 : Int32) : Nat → St → Int64 → Int32 → Prop
  | 0, _, _, _ => False
  | n + 1, S, l3, l5 =>
    ((6 : Int32) ≤ l5 → (
      True)) ∧ (¬ ((6 : Int32) ≤ l5) → (
      lt (f_KeyTree_secretOf a0 a1 a2 l5 S) fun (r3 : Int64) =>
      (ok_Fold_afterSteps r3 (15 : Int32) S) ∧ (
        lt (f_Fold_afterSteps r3 (15 : Int32) S) fun (r5 : Int64) =>
        lt (f_Fold_absorb l3 r5 S) fun (r6 : Int64) =>
        ok_KeyTree_leafOf_7 a0 a1 a2 n S r6 (l5 + (1 : Int32)))))
set_option maxHeartbeats 4000000 in
set_option maxRecDepth 100000 in
theorem w_KeyTree_leafOf_7 {l : Launch} {D : va_G} {X : va_W} {ad : N3 → Nat} {ca : Nat → ClassId} (a0 : Int32) (a1 : Int32) (a2 : Int32)  (S : St) {p : Program} {e : Env} {s : State} {m : MethodId} {below : List Frame} {meth : Method} {c : Code} (hy : Hy p s m ([.int a0, .int a1, .int a2] : List Value).toArray meth c b_KeyTree_leafOf 6 (some .long) R_KeyTree GG D clQ (tysQ ca) nwQ) (hW : Wd D clQ (fun _ => True) s.heap (zw X ad TQ (cfQ ad ca) S) s.heap []) {res : Int64} : ∀ (n : Nat) (l3 : Int64) (l5 : Int32) , ok_KeyTree_leafOf_7 a0 a1 a2 n S l3 l5 → f_KeyTree_leafOf_7 a0 a1 a2 n S l3 l5 = res → ∀ (ls : Array Slot), lv_has ls 6 [(0, .int a0), (1, .int a1), (2, .int a2), (3, .long l3), (5, .int l5)] → W p l e { frames := 2, cells := 0, slots := 0, locals := 50 } s m ([.int a0, .int a1, .int a2] : List Value).toArray below meth c s.heap [] 0 0 (MQ below (eP (.long res)) ([.int a0, .int a1, .int a2] : List Value).toArray s 0 0 nof) (F0 m 7 ls []) := by
  have hF := hy.1
  have hx := hF.1
  have hb := hF.2.1
  have hK := hy.2.2.2
  intro n
  induction n with
  | zero =>
    intro l3 l5 hk
    exact hk.elim
  | succ n ih =>
    intro l3 l5 hk hr ls hl
    refine lv_iload (pc := 7) hx hb d_KeyTree_leafOf_7 (lv_at hl 4 rfl) ?_
    refine lv_bipush (pc := 9) (v := 6) hx hb d_KeyTree_leafOf_9 (by decide) ?_
    refine lv_icmp_ge (pc := 11) (tgt := 38) hx hb d_KeyTree_leafOf_11 (by decide) (fun c1 => ?_) (fun c1 => ?_)
    · have hk := hk.1 c1
      have hr := (if_pos c1).symm.trans hr
      refine lv_lload_n (pc := 38) hx hb d_KeyTree_leafOf_38 rfl (lv_at hl 3 rfl) ?_
      obtain ⟨r2, er2⟩ : ∃ z : Int64, z = f_Fold_finish l3 S := ⟨_, rfl⟩
      have hr := lt_e er2 hr
      refine p_go (pc := 39) (congrArg Value.long er2) (p_runS hF hK hW (c_Fold_finish l D X ad ca l3 S _) cd_Fold_finish gw_236 ⟨Nat.le_of_ble_eq_true rfl, Nat.le_of_ble_eq_true rfl⟩ ⟨Nat.zero_le _, Nat.zero_le _⟩ rfl rfl hl.1 (Nat.le_of_ble_eq_true rfl) d_KeyTree_leafOf_39) ?_
      exact p_lret (v := r2) hy hr d_KeyTree_leafOf_42
    · have hk := hk.2 c1
      have hr := (if_neg c1).symm.trans hr
      refine lv_lload_n (pc := 14) hx hb d_KeyTree_leafOf_14 rfl (lv_at hl 3 rfl) ?_
      refine lv_iload_n (pc := 15) hx hb d_KeyTree_leafOf_15 rfl (lv_at hl 0 rfl) ?_
      refine lv_iload_n (pc := 16) hx hb d_KeyTree_leafOf_16 rfl (lv_at hl 1 rfl) ?_
      refine lv_iload_n (pc := 17) hx hb d_KeyTree_leafOf_17 rfl (lv_at hl 2 rfl) ?_
      refine lv_iload (pc := 18) hx hb d_KeyTree_leafOf_18 (lv_at hl 4 rfl) ?_
      obtain ⟨r3, er3⟩ : ∃ z : Int64, z = f_KeyTree_secretOf a0 a1 a2 l5 S := ⟨_, rfl⟩
      have hk := lt_p er3 hk
      have hr := lt_e er3 hr
      refine p_go (pc := 20) (congrArg Value.long er3) (p_runS hF hK hW (c_KeyTree_secretOf l D X ad ca a0 a1 a2 l5 S _) cd_KeyTree_secretOf gw_229 ⟨Nat.le_of_ble_eq_true rfl, Nat.le_of_ble_eq_true rfl⟩ ⟨Nat.zero_le _, Nat.zero_le _⟩ rfl rfl hl.1 (Nat.le_of_ble_eq_true rfl) d_KeyTree_leafOf_20) ?_
      refine lv_bipush (pc := 23) (v := 15) hx hb d_KeyTree_leafOf_23 (by decide) ?_
      have o4 := hk.1
      have hk := hk.2
      obtain ⟨r5, er5⟩ : ∃ z : Int64, z = f_Fold_afterSteps r3 (15 : Int32) S := ⟨_, rfl⟩
      have hk := lt_p er5 hk
      have hr := lt_e er5 hr
      refine p_go (pc := 25) (congrArg Value.long er5) (p_runS hF hK hW (c_Fold_afterSteps l D X ad ca r3 (15 : Int32) S o4 _) cd_Fold_afterSteps gw_240 ⟨Nat.le_of_ble_eq_true rfl, Nat.le_of_ble_eq_true rfl⟩ ⟨Nat.zero_le _, Nat.zero_le _⟩ rfl rfl hl.1 (Nat.le_of_ble_eq_true rfl) d_KeyTree_leafOf_25) ?_
      obtain ⟨r6, er6⟩ : ∃ z : Int64, z = f_Fold_absorb l3 r5 S := ⟨_, rfl⟩
      have hk := lt_p er6 hk
      have hr := lt_e er6 hr
      refine p_go (pc := 28) (congrArg Value.long er6) (p_runS hF hK hW (c_Fold_absorb l D X ad ca l3 r5 S _) cd_Fold_absorb gw_232 ⟨Nat.le_of_ble_eq_true rfl, Nat.le_of_ble_eq_true rfl⟩ ⟨Nat.zero_le _, Nat.zero_le _⟩ rfl rfl hl.1 (Nat.le_of_ble_eq_true rfl) d_KeyTree_leafOf_28) ?_
      refine lv_lstore_n (pc := 31) (lv' := [(3, .long r6), (0, .int a0), (1, .int a1), (2, .int a2), (5, .int l5)]) hx hb d_KeyTree_leafOf_31 rfl hl (by decide) rfl (fun ls hl => ?_)
      refine lv_iinc (pc := 32) (v := l5 + (1 : Int32)) (lv' := [(5, .int (l5 + (1 : Int32))), (3, .long r6), (0, .int a0), (1, .int a1), (2, .int a2)]) (k := 4) hx hb d_KeyTree_leafOf_32 hl rfl (z_inc (by decide)) (by decide) rfl (fun ls hl => ?_)
      refine lv_goto (pc := 35) (tgt := 7) hx hb d_KeyTree_leafOf_35 (by decide) ?_
      exact ih r6 (l5 + (1 : Int32)) hk hr _ (lv_sub hl [2, 3, 4, 1, 0] rfl)
def f_KeyTree_leafOf (a0 : Int32) (a1 : Int32) (a2 : Int32) (S : St) : Int64 :=
  f_KeyTree_leafOf_7 a0 a1 a2 200 S (-7046029254386353131 : Int64) (0 : Int32)
def ok_KeyTree_leafOf (a0 : Int32) (a1 : Int32) (a2 : Int32) (S : St) : Prop :=
  ok_KeyTree_leafOf_7 a0 a1 a2 200 S (-7046029254386353131 : Int64) (0 : Int32)
set_option maxHeartbeats 4000000 in
set_option maxRecDepth 100000 in
theorem c_KeyTree_leafOf (l : Launch) (D : va_G) (X : va_W) (ad : N3 → Nat) (ca : Nat → ClassId) (a0 : Int32) (a1 : Int32) (a2 : Int32)  (S : St) (hk : ok_KeyTree_leafOf a0 a1 a2 S) : cP l GG D clQ (tysQ ca) nwQ (zw X ad TQ (cfQ ad ca) S) y_KeyTree_leafOf b_KeyTree_leafOf 6 .long 2 50 [.int a0, .int a1, .int a2] (.long (f_KeyTree_leafOf a0 a1 a2 S)) := by
  generalize hr : f_KeyTree_leafOf a0 a1 a2 S = res
  refine zP_of pn_KeyTree (Nat.le_of_ble_eq_true rfl) (fun p e s m below meth c ls hy hW hl => ?_)
  have hF := hy.1
  have hx := hF.1
  have hb := hF.2.1
  have hK := hy.2.2.2
  have hl : lv_has ls 6 [(0, .int a0), (1, .int a1), (2, .int a2)] := hl
  refine lv_ldc2 (pc := 0) hx hb hF.2.2.2.1 (hF.2.2.2.2 _ gw_228) d_KeyTree_leafOf_0 ?_
  refine lv_lstore_n (pc := 3) (lv' := [(3, .long (-7046029254386353131 : Int64)), (0, .int a0), (1, .int a1), (2, .int a2)]) hx hb d_KeyTree_leafOf_3 rfl hl (by decide) rfl (fun ls hl => ?_)
  refine lv_iconst (pc := 4) (v := 0) hx hb d_KeyTree_leafOf_4 (by decide) ?_
  refine lv_istore (pc := 5) (lv' := [(5, .int (0 : Int32)), (3, .long (-7046029254386353131 : Int64)), (0, .int a0), (1, .int a1), (2, .int a2)]) hx hb d_KeyTree_leafOf_5 hl (by decide) rfl (fun ls hl => ?_)
  exact w_KeyTree_leafOf_7 a0 a1 a2 S hy hW 200 (-7046029254386353131 : Int64) (0 : Int32) hk hr _ (lv_sub hl [2, 3, 4, 1, 0] rfl)
theorem d_Node_addToPool_0 : decode b_Node_addToPool 0 = .ok (.iconst 0, 1) := by decide +kernel
theorem d_Node_addToPool_1 : decode b_Node_addToPool 1 = .ok (.istore_n 2, 1) := by decide +kernel
theorem d_Node_addToPool_2 : decode b_Node_addToPool 2 = .ok (.iload_n 2, 1) := by decide +kernel
theorem d_Node_addToPool_3 : decode b_Node_addToPool 3 = .ok (.aload_n 0, 1) := by decide +kernel
theorem d_Node_addToPool_4 : decode b_Node_addToPool 4 = .ok (.getfield 60, 3) := by decide +kernel
theorem d_Node_addToPool_7 : decode b_Node_addToPool 7 = .ok (.if_icmp .ge 21, 3) := by decide +kernel
theorem d_Node_addToPool_10 : decode b_Node_addToPool 10 = .ok (.aload_n 0, 1) := by decide +kernel
theorem d_Node_addToPool_11 : decode b_Node_addToPool 11 = .ok (.getfield 30, 3) := by decide +kernel
theorem d_Node_addToPool_14 : decode b_Node_addToPool 14 = .ok (.iload_n 2, 1) := by decide +kernel
theorem d_Node_addToPool_15 : decode b_Node_addToPool 15 = .ok (.iaload, 1) := by decide +kernel
theorem d_Node_addToPool_16 : decode b_Node_addToPool 16 = .ok (.iload_n 1, 1) := by decide +kernel
theorem d_Node_addToPool_17 : decode b_Node_addToPool 17 = .ok (.if_icmp .ne 5, 3) := by decide +kernel
theorem d_Node_addToPool_20 : decode b_Node_addToPool 20 = .ok (.iconst 0, 1) := by decide +kernel
theorem d_Node_addToPool_21 : decode b_Node_addToPool 21 = .ok (.ireturn, 1) := by decide +kernel
theorem d_Node_addToPool_22 : decode b_Node_addToPool 22 = .ok (.iinc 2 1, 3) := by decide +kernel
theorem d_Node_addToPool_25 : decode b_Node_addToPool 25 = .ok (.goto (-23), 3) := by decide +kernel
theorem d_Node_addToPool_28 : decode b_Node_addToPool 28 = .ok (.aload_n 0, 1) := by decide +kernel
theorem d_Node_addToPool_29 : decode b_Node_addToPool 29 = .ok (.getfield 60, 3) := by decide +kernel
theorem d_Node_addToPool_32 : decode b_Node_addToPool 32 = .ok (.bipush 40, 2) := by decide +kernel
theorem d_Node_addToPool_34 : decode b_Node_addToPool 34 = .ok (.if_icmp .lt 5, 3) := by decide +kernel
theorem d_Node_addToPool_37 : decode b_Node_addToPool 37 = .ok (.iconst 0, 1) := by decide +kernel
theorem d_Node_addToPool_38 : decode b_Node_addToPool 38 = .ok (.ireturn, 1) := by decide +kernel
theorem d_Node_addToPool_39 : decode b_Node_addToPool 39 = .ok (.aload_n 0, 1) := by decide +kernel
theorem d_Node_addToPool_40 : decode b_Node_addToPool 40 = .ok (.getfield 30, 3) := by decide +kernel
theorem d_Node_addToPool_43 : decode b_Node_addToPool 43 = .ok (.aload_n 0, 1) := by decide +kernel
theorem d_Node_addToPool_44 : decode b_Node_addToPool 44 = .ok (.getfield 60, 3) := by decide +kernel
theorem d_Node_addToPool_47 : decode b_Node_addToPool 47 = .ok (.iload_n 1, 1) := by decide +kernel
theorem d_Node_addToPool_48 : decode b_Node_addToPool 48 = .ok (.iastore, 1) := by decide +kernel
theorem d_Node_addToPool_49 : decode b_Node_addToPool 49 = .ok (.aload_n 0, 1) := by decide +kernel
theorem d_Node_addToPool_50 : decode b_Node_addToPool 50 = .ok (.dup, 1) := by decide +kernel
theorem d_Node_addToPool_51 : decode b_Node_addToPool 51 = .ok (.getfield 60, 3) := by decide +kernel
theorem d_Node_addToPool_54 : decode b_Node_addToPool 54 = .ok (.iconst 1, 1) := by decide +kernel
theorem d_Node_addToPool_55 : decode b_Node_addToPool 55 = .ok (.iadd, 1) := by decide +kernel
theorem d_Node_addToPool_56 : decode b_Node_addToPool 56 = .ok (.putfield 60, 3) := by decide +kernel
theorem d_Node_addToPool_59 : decode b_Node_addToPool 59 = .ok (.iconst 1, 1) := by decide +kernel
theorem d_Node_addToPool_60 : decode b_Node_addToPool 60 = .ok (.ireturn, 1) := by decide +kernel
def f_Node_addToPool_2 (i0 : Nat) (a1 : Int32) : Nat → St → Int32 → Int32 × St
  | 0, S, _ => (0, S)
  | n + 1, S, l2 =>
    if (S.1 3 i0 0 6) ≤ l2 then
      if (S.1 3 i0 0 6) < (40 : Int32) then
        lt (si S 18 i0 0 ((S.1 3 i0 0 6).toNatClampNeg) a1) fun (S4 : St) =>
        lt (si S4 3 i0 0 6 ((S4.1 3 i0 0 6) + (1 : Int32))) fun (S5 : St) =>
        ((1 : Int32), S5)
      else
        ((0 : Int32), S)
    else
      if (S.1 18 i0 0 l2.toNatClampNeg) = a1 then
        ((0 : Int32), S)
      else
        f_Node_addToPool_2 i0 a1 n S (l2 + (1 : Int32))
def ok_Node_addToPool_2 (i0 : Nat) (a1 : Int32) : Nat → St → Int32 → Prop
  | 0, _, _ => False
  | n + 1, S, l2 =>
    ((S.1 3 i0 0 6) ≤ l2 → (
      ((S.1 3 i0 0 6) < (40 : Int32) → (
        (vp_in (S.1 3 i0 0 6) 40) ∧ (
          True))) ∧ (¬ ((S.1 3 i0 0 6) < (40 : Int32)) → (
        True)))) ∧ (¬ ((S.1 3 i0 0 6) ≤ l2) → (
      (vp_in l2 40) ∧ (
        ((S.1 18 i0 0 l2.toNatClampNeg) = a1 → (
          True)) ∧ (¬ ((S.1 18 i0 0 l2.toNatClampNeg) = a1) → (
          ok_Node_addToPool_2 i0 a1 n S (l2 + (1 : Int32)))))))
set_option maxHeartbeats 4000000 in
set_option maxRecDepth 100000 in
theorem w_Node_addToPool_2 {l : Launch} {D : va_G} {X : va_W} {ad : N3 → Nat} {ca : Nat → ClassId} (i0 : Nat) (a1 : Int32) (h0 : i0 < 4) {p : Program} {e : Env} {s : State} {m : MethodId} {below : List Frame} {meth : Method} {c : Code} {A : Nat → Prop} (hy : Hy p s m ([.ref (ad (3, i0, 0)), .int a1] : List Value).toArray meth c b_Node_addToPool 3 (some .boolean) R_Node GG D clQ (tysQ ca) nwQ) (hA : ∀ q, s.heap.size ≤ q → A q) {res : Int32 × St} : ∀ (n : Nat) (S : St) (l2 : Int32) , ok_Node_addToPool_2 i0 a1 n S l2 → f_Node_addToPool_2 i0 a1 n S l2 = res → ∀ (H : Heap) (locs : List Loc) (ls : Array Slot), Wd D clQ A s.heap (zw X ad TQ (cfQ ad ca) S) H locs → lv_has ls 3 [(0, .ref (ad (3, i0, 0))), (1, .int a1), (2, .int l2)] → W p l e { frames := 0, cells := 0, slots := 0, locals := 0 } s m ([.ref (ad (3, i0, 0)), .int a1] : List Value).toArray below meth c H locs 0 0 (MQ below (eI D clQ X ad TQ (cfQ ad ca) A res) ([.ref (ad (3, i0, 0)), .int a1] : List Value).toArray s 0 0 A) (F0 m 2 ls []) := by
  have hF := hy.1
  have hx := hF.1
  have hb := hF.2.1
  have hK := hy.2.2.2
  intro n
  induction n with
  | zero =>
    intro S l2 hk
    exact hk.elim
  | succ n ih =>
    intro S l2 hk hr H locs ls hW hl
    refine lv_iload_n (pc := 2) hx hb d_Node_addToPool_2 rfl (lv_at hl 2 rfl) ?_
    refine lv_aload_n (pc := 3) hx hb d_Node_addToPool_3 rfl (lv_at hl 0 rfl) ?_
    refine z_get (pc := 4) (v := .int (S.1 3 i0 0 6)) hF hK.1 hW (tq3 h0) rfl rfl in_Node 6 (by decide) gw_307 rfl rfl d_Node_addToPool_4 ?_
    refine lv_icmp_ge (pc := 7) (tgt := 28) hx hb d_Node_addToPool_7 (by decide) (fun c1 => ?_) (fun c1 => ?_)
    · have hk := hk.1 c1
      have hr := (if_pos c1).symm.trans hr
      refine lv_aload_n (pc := 28) hx hb d_Node_addToPool_28 rfl (lv_at hl 0 rfl) ?_
      refine z_get (pc := 29) (v := .int (S.1 3 i0 0 6)) hF hK.1 hW (tq3 h0) rfl rfl in_Node 6 (by decide) gw_307 rfl rfl d_Node_addToPool_29 ?_
      refine lv_bipush (pc := 32) (v := 40) hx hb d_Node_addToPool_32 (by decide) ?_
      refine lv_icmp_lt (pc := 34) (tgt := 39) hx hb d_Node_addToPool_34 (by decide) (fun c2 => ?_) (fun c2 => ?_)
      · have hk := hk.1 c2
        have hr := (if_pos c2).symm.trans hr
        refine lv_aload_n (pc := 39) hx hb d_Node_addToPool_39 rfl (lv_at hl 0 rfl) ?_
        refine z_get (pc := 40) (v := .ref (ad (18, i0, 0))) hF hK.1 hW (tq3 h0) rfl rfl in_Node 5 (by decide) gw_305 rfl rfl d_Node_addToPool_40 ?_
        refine lv_aload_n (pc := 43) hx hb d_Node_addToPool_43 rfl (lv_at hl 0 rfl) ?_
        refine z_get (pc := 44) (v := .int (S.1 3 i0 0 6)) hF hK.1 hW (tq3 h0) rfl rfl in_Node 6 (by decide) gw_307 rfl rfl d_Node_addToPool_44 ?_
        refine lv_iload_n (pc := 47) hx hb d_Node_addToPool_47 rfl (lv_at hl 1 rfl) ?_
        have b3 := hk.1
        have hk := hk.2
        obtain ⟨S4, eS4⟩ : ∃ z : St, z = si S 18 i0 0 ((S.1 3 i0 0 6).toNatClampNeg) a1 := ⟨_, rfl⟩
        have hr := lt_e eS4 hr
        refine z_iast (pc := 48) (S' := S4) hF hK.1 hW (tq18 h0) 0 rfl rfl b3 (zs_si eS4 rfl) (zs_sio eS4) d_Node_addToPool_48 (fun H locs (hW : Wd D clQ A s.heap (zw X ad TQ (cfQ ad ca) S4) H locs) => ?_)
        refine lv_aload_n (pc := 49) hx hb d_Node_addToPool_49 rfl (lv_at hl 0 rfl) ?_
        refine lv_dup (pc := 50) hx hb d_Node_addToPool_50 rfl ?_
        refine z_get (pc := 51) (v := .int (S4.1 3 i0 0 6)) hF hK.1 hW (tq3 h0) rfl rfl in_Node 6 (by decide) gw_307 rfl rfl d_Node_addToPool_51 ?_
        refine lv_iconst (pc := 54) (v := 1) hx hb d_Node_addToPool_54 (by decide) ?_
        refine lv_iadd (pc := 55) hx hb d_Node_addToPool_55 ?_
        obtain ⟨S5, eS5⟩ : ∃ z : St, z = si S4 3 i0 0 6 ((S4.1 3 i0 0 6) + (1 : Int32)) := ⟨_, rfl⟩
        have hr := lt_e eS5 hr
        refine z_put (pc := 56) (S' := S5) hF hK.1 hW (tq3 h0) rfl rfl in_Node t_Node tyo_Node nmo_Node 6 (by decide) gw_307 rfl rfl rfl rfl rfl (Nat.le_of_ble_eq_true rfl) (zs_si eS5 rfl) (zs_sio eS5) d_Node_addToPool_56 (fun H locs (hW : Wd D clQ A s.heap (zw X ad TQ (cfQ ad ca) S5) H locs) => ?_)
        refine lv_iconst (pc := 59) (v := 1) hx hb d_Node_addToPool_59 (by decide) ?_
        exact z_zret (v := (1 : Int32)) hy hW rfl hr.symm d_Node_addToPool_60
      · have hk := hk.2 c2
        have hr := (if_neg c2).symm.trans hr
        refine lv_iconst (pc := 37) (v := 0) hx hb d_Node_addToPool_37 (by decide) ?_
        exact z_zret (v := (0 : Int32)) hy hW rfl hr.symm d_Node_addToPool_38
    · have hk := hk.2 c1
      have hr := (if_neg c1).symm.trans hr
      refine lv_aload_n (pc := 10) hx hb d_Node_addToPool_10 rfl (lv_at hl 0 rfl) ?_
      refine z_get (pc := 11) (v := .ref (ad (18, i0, 0))) hF hK.1 hW (tq3 h0) rfl rfl in_Node 5 (by decide) gw_305 rfl rfl d_Node_addToPool_11 ?_
      refine lv_iload_n (pc := 14) hx hb d_Node_addToPool_14 rfl (lv_at hl 2 rfl) ?_
      have b6 := hk.1
      have hk := hk.2
      refine z_iald (pc := 15) (v := S.1 18 i0 0 l2.toNatClampNeg) hF hK.1 hW (tq18 h0) 0 rfl rfl b6 rfl d_Node_addToPool_15 ?_
      refine lv_iload_n (pc := 16) hx hb d_Node_addToPool_16 rfl (lv_at hl 1 rfl) ?_
      refine lv_icmp_ne (pc := 17) (tgt := 22) hx hb d_Node_addToPool_17 (by decide) (fun c7 => ?_) (fun c7 => ?_)
      · have hk := hk.2 c7
        have hr := (if_neg c7).symm.trans hr
        refine lv_iinc (pc := 22) (v := l2 + (1 : Int32)) (lv' := [(2, .int (l2 + (1 : Int32))), (0, .ref (ad (3, i0, 0))), (1, .int a1)]) (k := 2) hx hb d_Node_addToPool_22 hl rfl (z_inc (by decide)) (by decide) rfl (fun ls hl => ?_)
        refine lv_goto (pc := 25) (tgt := 2) hx hb d_Node_addToPool_25 (by decide) ?_
        exact ih S (l2 + (1 : Int32)) hk hr _ _ _ hW (lv_sub hl [1, 2, 0] rfl)
      · have hk := hk.1 c7
        have hr := (if_pos c7).symm.trans hr
        refine lv_iconst (pc := 20) (v := 0) hx hb d_Node_addToPool_20 (by decide) ?_
        exact z_zret (v := (0 : Int32)) hy hW rfl hr.symm d_Node_addToPool_21
def f_Node_addToPool (i0 : Nat) (a1 : Int32) (S : St) : Int32 × St :=
  f_Node_addToPool_2 i0 a1 200 S (0 : Int32)
def ok_Node_addToPool (i0 : Nat) (a1 : Int32) (S : St) : Prop :=
  ok_Node_addToPool_2 i0 a1 200 S (0 : Int32)
set_option maxHeartbeats 4000000 in
set_option maxRecDepth 100000 in
theorem c_Node_addToPool (l : Launch) (D : va_G) (X : va_W) (ad : N3 → Nat) (ca : Nat → ClassId) (i0 : Nat) (a1 : Int32) (h0 : i0 < 4) (S : St) (hk : ok_Node_addToPool i0 a1 S) : cI l GG D clQ (tysQ ca) nwQ X ad TQ (cfQ ad ca) y_Node_addToPool b_Node_addToPool 3 .boolean 0 0 [.ref (ad (3, i0, 0)), .int a1] S (f_Node_addToPool i0 a1 S) := by
  generalize hr : f_Node_addToPool i0 a1 S = res
  refine zI_of pn_Node (Nat.le_of_ble_eq_true rfl) (fun p e s m below meth c A ls hy hW hA hl => ?_)
  have hF := hy.1
  have hx := hF.1
  have hb := hF.2.1
  have hK := hy.2.2.2
  have hl : lv_has ls 3 [(0, .ref (ad (3, i0, 0))), (1, .int a1)] := hl
  refine lv_iconst (pc := 0) (v := 0) hx hb d_Node_addToPool_0 (by decide) ?_
  refine lv_istore_n (pc := 1) (lv' := [(2, .int (0 : Int32)), (0, .ref (ad (3, i0, 0))), (1, .int a1)]) hx hb d_Node_addToPool_1 rfl hl (by decide) rfl (fun ls hl => ?_)
  exact w_Node_addToPool_2 i0 a1 h0 hy hA 200 S (0 : Int32) hk hr _ _ _ hW (lv_sub hl [1, 2, 0] rfl)
