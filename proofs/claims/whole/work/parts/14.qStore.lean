theorem d_Store_hasBlock_0 : decode b_Store_hasBlock 0 = .ok (.iload_n 1, 1) := by decide +kernel
theorem d_Store_hasBlock_1 : decode b_Store_hasBlock 1 = .ok (.ifCond .lt 22, 3) := by decide +kernel
theorem d_Store_hasBlock_4 : decode b_Store_hasBlock 4 = .ok (.iload_n 1, 1) := by decide +kernel
theorem d_Store_hasBlock_5 : decode b_Store_hasBlock 5 = .ok (.bipush 100, 2) := by decide +kernel
theorem d_Store_hasBlock_7 : decode b_Store_hasBlock 7 = .ok (.if_icmp .ge 16, 3) := by decide +kernel
theorem d_Store_hasBlock_10 : decode b_Store_hasBlock 10 = .ok (.aload_n 0, 1) := by decide +kernel
theorem d_Store_hasBlock_11 : decode b_Store_hasBlock 11 = .ok (.getfield 9, 3) := by decide +kernel
theorem d_Store_hasBlock_14 : decode b_Store_hasBlock 14 = .ok (.iload_n 1, 1) := by decide +kernel
theorem d_Store_hasBlock_15 : decode b_Store_hasBlock 15 = .ok (.baload, 1) := by decide +kernel
theorem d_Store_hasBlock_16 : decode b_Store_hasBlock 16 = .ok (.ifCond .eq 7, 3) := by decide +kernel
theorem d_Store_hasBlock_19 : decode b_Store_hasBlock 19 = .ok (.iconst 1, 1) := by decide +kernel
theorem d_Store_hasBlock_20 : decode b_Store_hasBlock 20 = .ok (.goto 4, 3) := by decide +kernel
theorem d_Store_hasBlock_23 : decode b_Store_hasBlock 23 = .ok (.iconst 0, 1) := by decide +kernel
theorem d_Store_hasBlock_24 : decode b_Store_hasBlock 24 = .ok (.ireturn, 1) := by decide +kernel
def f_Store_hasBlock (i0 : Nat) (a1 : Int32) (S : St) : Int32 :=
  if a1 < 0 then
    (0 : Int32)
  else
    if (100 : Int32) ≤ a1 then
      (0 : Int32)
    else
      if (S.1 5 i0 0 a1.toNatClampNeg) = 0 then
        (0 : Int32)
      else
        (1 : Int32)
def ok_Store_hasBlock (i0 : Nat) (a1 : Int32) (S : St) : Prop :=
  (a1 < 0 → (
    True)) ∧ (¬ (a1 < 0) → (
    ((100 : Int32) ≤ a1 → (
      True)) ∧ (¬ ((100 : Int32) ≤ a1) → (
      (vp_in a1 100) ∧ (
        True)))))
set_option maxHeartbeats 4000000 in
set_option maxRecDepth 100000 in
theorem c_Store_hasBlock (l : Launch) (D : va_G) (X : va_W) (ad : N3 → Nat) (ca : Nat → ClassId) (i0 : Nat) (a1 : Int32) (h0 : i0 < 4) (S : St) (hk : ok_Store_hasBlock i0 a1 S) : cP l GG D clQ (tysQ ca) nwQ (zw X ad TQ (cfQ ad ca) S) y_Store_hasBlock b_Store_hasBlock 2 .boolean 0 0 [.ref (ad (4, i0, 0)), .int a1] (.int (f_Store_hasBlock i0 a1 S)) := by
  generalize hr : f_Store_hasBlock i0 a1 S = res
  refine zP_of pn_Store (Nat.le_of_ble_eq_true rfl) (fun p e s m below meth c ls hy hW hl => ?_)
  have hF := hy.1
  have hx := hF.1
  have hb := hF.2.1
  have hK := hy.2.2.2
  have hl : lv_has ls 2 [(0, .ref (ad (4, i0, 0))), (1, .int a1)] := hl
  refine lv_iload_n (pc := 0) hx hb d_Store_hasBlock_0 rfl (lv_at hl 1 rfl) ?_
  refine lv_if_lt (pc := 1) (tgt := 23) hx hb d_Store_hasBlock_1 (by decide) (fun c1 => ?_) (fun c1 => ?_)
  · have hk := hk.1 c1
    have hr := (if_pos c1).symm.trans hr
    refine lv_iconst (pc := 23) (v := 0) hx hb d_Store_hasBlock_23 (by decide) ?_
    exact p_zret (v := (0 : Int32)) hy rfl hr d_Store_hasBlock_24
  · have hk := hk.2 c1
    have hr := (if_neg c1).symm.trans hr
    refine lv_iload_n (pc := 4) hx hb d_Store_hasBlock_4 rfl (lv_at hl 1 rfl) ?_
    refine lv_bipush (pc := 5) (v := 100) hx hb d_Store_hasBlock_5 (by decide) ?_
    refine lv_icmp_ge (pc := 7) (tgt := 23) hx hb d_Store_hasBlock_7 (by decide) (fun c2 => ?_) (fun c2 => ?_)
    · have hk := hk.1 c2
      have hr := (if_pos c2).symm.trans hr
      refine lv_iconst (pc := 23) (v := 0) hx hb d_Store_hasBlock_23 (by decide) ?_
      exact p_zret (v := (0 : Int32)) hy rfl hr d_Store_hasBlock_24
    · have hk := hk.2 c2
      have hr := (if_neg c2).symm.trans hr
      refine lv_aload_n (pc := 10) hx hb d_Store_hasBlock_10 rfl (lv_at hl 0 rfl) ?_
      refine z_get (pc := 11) (v := .ref (ad (5, i0, 0))) hF hK.1 hW (tq4 h0) rfl rfl in_Store 0 (by decide) gw_264 rfl rfl d_Store_hasBlock_11 ?_
      refine lv_iload_n (pc := 14) hx hb d_Store_hasBlock_14 rfl (lv_at hl 1 rfl) ?_
      have b3 := hk.1
      have hk := hk.2
      refine z_zald (pc := 15) (v := S.1 5 i0 0 a1.toNatClampNeg) hF hK.1 hW (tq5 h0) 2 rfl rfl b3 rfl d_Store_hasBlock_15 ?_
      refine lv_if_eq (pc := 16) (tgt := 23) hx hb d_Store_hasBlock_16 (by decide) (fun c4 => ?_) (fun c4 => ?_)
      · have hr := (if_pos c4).symm.trans hr
        refine lv_iconst (pc := 23) (v := 0) hx hb d_Store_hasBlock_23 (by decide) ?_
        exact p_zret (v := (0 : Int32)) hy rfl hr d_Store_hasBlock_24
      · have hr := (if_neg c4).symm.trans hr
        refine lv_iconst (pc := 19) (v := 1) hx hb d_Store_hasBlock_19 (by decide) ?_
        refine lv_goto (pc := 20) (tgt := 24) hx hb d_Store_hasBlock_20 (by decide) ?_
        exact p_zret (v := (1 : Int32)) hy rfl hr d_Store_hasBlock_24
theorem d_QC_nodesThatHave_0 : decode b_QC_nodesThatHave 0 = .ok (.iconst 0, 1) := by decide +kernel
theorem d_QC_nodesThatHave_1 : decode b_QC_nodesThatHave 1 = .ok (.istore_n 2, 1) := by decide +kernel
theorem d_QC_nodesThatHave_2 : decode b_QC_nodesThatHave 2 = .ok (.iconst 0, 1) := by decide +kernel
theorem d_QC_nodesThatHave_3 : decode b_QC_nodesThatHave 3 = .ok (.istore_n 3, 1) := by decide +kernel
theorem d_QC_nodesThatHave_4 : decode b_QC_nodesThatHave 4 = .ok (.iload_n 3, 1) := by decide +kernel
theorem d_QC_nodesThatHave_5 : decode b_QC_nodesThatHave 5 = .ok (.iconst 4, 1) := by decide +kernel
theorem d_QC_nodesThatHave_6 : decode b_QC_nodesThatHave 6 = .ok (.if_icmp .ge 31, 3) := by decide +kernel
theorem d_QC_nodesThatHave_9 : decode b_QC_nodesThatHave 9 = .ok (.aload_n 0, 1) := by decide +kernel
theorem d_QC_nodesThatHave_10 : decode b_QC_nodesThatHave 10 = .ok (.getfield 11, 3) := by decide +kernel
theorem d_QC_nodesThatHave_13 : decode b_QC_nodesThatHave 13 = .ok (.iload_n 3, 1) := by decide +kernel
theorem d_QC_nodesThatHave_14 : decode b_QC_nodesThatHave 14 = .ok (.aaload, 1) := by decide +kernel
theorem d_QC_nodesThatHave_15 : decode b_QC_nodesThatHave 15 = .ok (.getfield 179, 3) := by decide +kernel
theorem d_QC_nodesThatHave_18 : decode b_QC_nodesThatHave 18 = .ok (.iload_n 1, 1) := by decide +kernel
theorem d_QC_nodesThatHave_19 : decode b_QC_nodesThatHave 19 = .ok (.invokevirtual 195, 3) := by decide +kernel
theorem d_QC_nodesThatHave_22 : decode b_QC_nodesThatHave 22 = .ok (.ifCond .eq 9, 3) := by decide +kernel
theorem d_QC_nodesThatHave_25 : decode b_QC_nodesThatHave 25 = .ok (.iload_n 2, 1) := by decide +kernel
theorem d_QC_nodesThatHave_26 : decode b_QC_nodesThatHave 26 = .ok (.iconst 1, 1) := by decide +kernel
theorem d_QC_nodesThatHave_27 : decode b_QC_nodesThatHave 27 = .ok (.iload_n 3, 1) := by decide +kernel
theorem d_QC_nodesThatHave_28 : decode b_QC_nodesThatHave 28 = .ok (.ishl, 1) := by decide +kernel
theorem d_QC_nodesThatHave_29 : decode b_QC_nodesThatHave 29 = .ok (.ior, 1) := by decide +kernel
theorem d_QC_nodesThatHave_30 : decode b_QC_nodesThatHave 30 = .ok (.istore_n 2, 1) := by decide +kernel
theorem d_QC_nodesThatHave_31 : decode b_QC_nodesThatHave 31 = .ok (.iinc 3 1, 3) := by decide +kernel
theorem d_QC_nodesThatHave_34 : decode b_QC_nodesThatHave 34 = .ok (.goto (-30), 3) := by decide +kernel
theorem d_QC_nodesThatHave_37 : decode b_QC_nodesThatHave 37 = .ok (.iload_n 2, 1) := by decide +kernel
theorem d_QC_nodesThatHave_38 : decode b_QC_nodesThatHave 38 = .ok (.ireturn, 1) := by decide +kernel
def f_QC_nodesThatHave_4 (a1 : Int32) : Nat → St → Int32 → Int32 → Int32
  | 0, _, _, _ => 0
  | n + 1, S, l2, l3 =>
    if (4 : Int32) ≤ l3 then
      l2
    else
      lt (f_Store_hasBlock (l3.toNatClampNeg) a1 S) fun (r4 : Int32) =>
      if r4 = 0 then
        f_QC_nodesThatHave_4 a1 n S l2 (l3 + (1 : Int32))
      else
        f_QC_nodesThatHave_4 a1 n S (l2 ||| ((1 : Int32) <<< (l3 &&& 31))) (l3 + (1 : Int32))
def ok_QC_nodesThatHave_4 (a1 : Int32) : Nat → St → Int32 → Int32 → Prop
  | 0, _, _, _ => False
  | n + 1, S, l2, l3 =>
    ((4 : Int32) ≤ l3 → (
      True)) ∧ (¬ ((4 : Int32) ≤ l3) → (
      (vp_in l3 4) ∧ (
        (ok_Store_hasBlock (l3.toNatClampNeg) a1 S) ∧ (
          lt (f_Store_hasBlock (l3.toNatClampNeg) a1 S) fun (r4 : Int32) =>
          (r4 = 0 → (
            ok_QC_nodesThatHave_4 a1 n S l2 (l3 + (1 : Int32)))) ∧ (¬ (r4 = 0) → (
            ok_QC_nodesThatHave_4 a1 n S (l2 ||| ((1 : Int32) <<< (l3 &&& 31))) (l3 + (1 : Int32))))))))
set_option maxHeartbeats 4000000 in
set_option maxRecDepth 100000 in
theorem w_QC_nodesThatHave_4 {l : Launch} {D : va_G} {X : va_W} {ad : N3 → Nat} {ca : Nat → ClassId} (a1 : Int32)  (S : St) {p : Program} {e : Env} {s : State} {m : MethodId} {below : List Frame} {meth : Method} {c : Code} (hy : Hy p s m ([.ref (ad (1, 0, 0)), .int a1] : List Value).toArray meth c b_QC_nodesThatHave 4 (some .int) R_QC GG D clQ (tysQ ca) nwQ) (hW : Wd D clQ (fun _ => True) s.heap (zw X ad TQ (cfQ ad ca) S) s.heap []) {res : Int32} : ∀ (n : Nat) (l2 : Int32) (l3 : Int32) , ok_QC_nodesThatHave_4 a1 n S l2 l3 → f_QC_nodesThatHave_4 a1 n S l2 l3 = res → ∀ (ls : Array Slot), lv_has ls 4 [(0, .ref (ad (1, 0, 0))), (1, .int a1), (2, .int l2), (3, .int l3)] → W p l e { frames := 1, cells := 0, slots := 0, locals := 21 } s m ([.ref (ad (1, 0, 0)), .int a1] : List Value).toArray below meth c s.heap [] 0 0 (MQ below (eP (.int res)) ([.ref (ad (1, 0, 0)), .int a1] : List Value).toArray s 0 0 nof) (F0 m 4 ls []) := by
  have hF := hy.1
  have hx := hF.1
  have hb := hF.2.1
  have hK := hy.2.2.2
  intro n
  induction n with
  | zero =>
    intro l2 l3 hk
    exact hk.elim
  | succ n ih =>
    intro l2 l3 hk hr ls hl
    refine lv_iload_n (pc := 4) hx hb d_QC_nodesThatHave_4 rfl (lv_at hl 3 rfl) ?_
    refine lv_iconst (pc := 5) (v := 4) hx hb d_QC_nodesThatHave_5 (by decide) ?_
    refine lv_icmp_ge (pc := 6) (tgt := 37) hx hb d_QC_nodesThatHave_6 (by decide) (fun c1 => ?_) (fun c1 => ?_)
    · have hk := hk.1 c1
      have hr := (if_pos c1).symm.trans hr
      refine lv_iload_n (pc := 37) hx hb d_QC_nodesThatHave_37 rfl (lv_at hl 2 rfl) ?_
      exact p_iret (v := l2) hy hr d_QC_nodesThatHave_38
    · have hk := hk.2 c1
      have hr := (if_neg c1).symm.trans hr
      refine lv_aload_n (pc := 9) hx hb d_QC_nodesThatHave_9 rfl (lv_at hl 0 rfl) ?_
      refine z_get (pc := 10) (v := .ref (ad (2, 0, 0))) hF hK.1 hW tq1 rfl rfl in_QC 0 (by decide) gw_344 rfl rfl d_QC_nodesThatHave_10 ?_
      refine lv_iload_n (pc := 13) hx hb d_QC_nodesThatHave_13 rfl (lv_at hl 3 rfl) ?_
      have b2 := hk.1
      have hk := hk.2
      refine z_aald (pc := 14) (q := ad (3, (l3.toNatClampNeg), 0)) hF hK.1 hW tq2 3 rfl rfl b2 rfl d_QC_nodesThatHave_14 ?_
      refine z_get (pc := 15) (v := .ref (ad (4, (l3.toNatClampNeg), 0))) hF hK.1 hW (tq3 (vin4 b2)) rfl rfl in_Node 1 (by decide) gw_298 rfl rfl d_QC_nodesThatHave_15 ?_
      refine lv_iload_n (pc := 18) hx hb d_QC_nodesThatHave_18 rfl (lv_at hl 1 rfl) ?_
      have o3 := hk.1
      have hk := hk.2
      obtain ⟨r4, er4⟩ : ∃ z : Int32, z = f_Store_hasBlock (l3.toNatClampNeg) a1 S := ⟨_, rfl⟩
      have hk := lt_p er4 hk
      have hr := lt_e er4 hr
      refine p_go (pc := 19) (congrArg Value.int er4) (p_runV hF hK hW (c_Store_hasBlock l D X ad ca (l3.toNatClampNeg) a1 (vin4 b2) S o3 _) cd_Store_hasBlock gw_477 (tq4 (vin4 b2)) rfl rfl ⟨Nat.le_of_ble_eq_true rfl, Nat.le_of_ble_eq_true rfl⟩ ⟨Nat.zero_le _, Nat.zero_le _⟩ rfl rfl hl.1 (Nat.le_of_ble_eq_true rfl) d_QC_nodesThatHave_19) ?_
      refine lv_if_eq (pc := 22) (tgt := 31) hx hb d_QC_nodesThatHave_22 (by decide) (fun c5 => ?_) (fun c5 => ?_)
      · have hk := hk.1 c5
        have hr := (if_pos c5).symm.trans hr
        refine lv_iinc (pc := 31) (v := l3 + (1 : Int32)) (lv' := [(3, .int (l3 + (1 : Int32))), (0, .ref (ad (1, 0, 0))), (1, .int a1), (2, .int l2)]) (k := 3) hx hb d_QC_nodesThatHave_31 hl rfl (z_inc (by decide)) (by decide) rfl (fun ls hl => ?_)
        refine lv_goto (pc := 34) (tgt := 4) hx hb d_QC_nodesThatHave_34 (by decide) ?_
        exact ih l2 (l3 + (1 : Int32)) hk hr _ (lv_sub hl [1, 2, 3, 0] rfl)
      · have hk := hk.2 c5
        have hr := (if_neg c5).symm.trans hr
        refine lv_iload_n (pc := 25) hx hb d_QC_nodesThatHave_25 rfl (lv_at hl 2 rfl) ?_
        refine lv_iconst (pc := 26) (v := 1) hx hb d_QC_nodesThatHave_26 (by decide) ?_
        refine lv_iload_n (pc := 27) hx hb d_QC_nodesThatHave_27 rfl (lv_at hl 3 rfl) ?_
        refine lv_ishl (pc := 28) hx hb d_QC_nodesThatHave_28 ?_
        refine lv_ior (pc := 29) hx hb d_QC_nodesThatHave_29 ?_
        refine lv_istore_n (pc := 30) (lv' := [(2, .int (l2 ||| ((1 : Int32) <<< (l3 &&& 31)))), (0, .ref (ad (1, 0, 0))), (1, .int a1), (3, .int l3)]) hx hb d_QC_nodesThatHave_30 rfl hl (by decide) rfl (fun ls hl => ?_)
        refine lv_iinc (pc := 31) (v := l3 + (1 : Int32)) (lv' := [(3, .int (l3 + (1 : Int32))), (2, .int (l2 ||| ((1 : Int32) <<< (l3 &&& 31)))), (0, .ref (ad (1, 0, 0))), (1, .int a1)]) (k := 3) hx hb d_QC_nodesThatHave_31 hl rfl (z_inc (by decide)) (by decide) rfl (fun ls hl => ?_)
        refine lv_goto (pc := 34) (tgt := 4) hx hb d_QC_nodesThatHave_34 (by decide) ?_
        exact ih (l2 ||| ((1 : Int32) <<< (l3 &&& 31))) (l3 + (1 : Int32)) hk hr _ (lv_sub hl [2, 3, 1, 0] rfl)
def f_QC_nodesThatHave (a1 : Int32) (S : St) : Int32 :=
  f_QC_nodesThatHave_4 a1 200 S (0 : Int32) (0 : Int32)
def ok_QC_nodesThatHave (a1 : Int32) (S : St) : Prop :=
  ok_QC_nodesThatHave_4 a1 200 S (0 : Int32) (0 : Int32)
set_option maxHeartbeats 4000000 in
set_option maxRecDepth 100000 in
theorem c_QC_nodesThatHave (l : Launch) (D : va_G) (X : va_W) (ad : N3 → Nat) (ca : Nat → ClassId) (a1 : Int32)  (S : St) (hk : ok_QC_nodesThatHave a1 S) : cP l GG D clQ (tysQ ca) nwQ (zw X ad TQ (cfQ ad ca) S) y_QC_nodesThatHave b_QC_nodesThatHave 4 .int 1 21 [.ref (ad (1, 0, 0)), .int a1] (.int (f_QC_nodesThatHave a1 S)) := by
  generalize hr : f_QC_nodesThatHave a1 S = res
  refine zP_of pn_QC (Nat.le_of_ble_eq_true rfl) (fun p e s m below meth c ls hy hW hl => ?_)
  have hF := hy.1
  have hx := hF.1
  have hb := hF.2.1
  have hK := hy.2.2.2
  have hl : lv_has ls 4 [(0, .ref (ad (1, 0, 0))), (1, .int a1)] := hl
  refine lv_iconst (pc := 0) (v := 0) hx hb d_QC_nodesThatHave_0 (by decide) ?_
  refine lv_istore_n (pc := 1) (lv' := [(2, .int (0 : Int32)), (0, .ref (ad (1, 0, 0))), (1, .int a1)]) hx hb d_QC_nodesThatHave_1 rfl hl (by decide) rfl (fun ls hl => ?_)
  refine lv_iconst (pc := 2) (v := 0) hx hb d_QC_nodesThatHave_2 (by decide) ?_
  refine lv_istore_n (pc := 3) (lv' := [(3, .int (0 : Int32)), (2, .int (0 : Int32)), (0, .ref (ad (1, 0, 0))), (1, .int a1)]) hx hb d_QC_nodesThatHave_3 rfl hl (by decide) rfl (fun ls hl => ?_)
  exact w_QC_nodesThatHave_4 a1 S hy hW 200 (0 : Int32) (0 : Int32) hk hr _ (lv_sub hl [2, 3, 1, 0] rfl)
theorem d_QC_block_0 : decode b_QC_block 0 = .ok (.aload_n 0, 1) := by decide +kernel
theorem d_QC_block_1 : decode b_QC_block 1 = .ok (.getfield 18, 3) := by decide +kernel
theorem d_QC_block_4 : decode b_QC_block 4 = .ok (.iload_n 1, 1) := by decide +kernel
theorem d_QC_block_5 : decode b_QC_block 5 = .ok (.invokevirtual 170, 3) := by decide +kernel
theorem d_QC_block_8 : decode b_QC_block 8 = .ok (.ifCond .ne 5, 3) := by decide +kernel
theorem d_QC_block_11 : decode b_QC_block 11 = .ok (.iconst (-1), 1) := by decide +kernel
theorem d_QC_block_12 : decode b_QC_block 12 = .ok (.ireturn, 1) := by decide +kernel
theorem d_QC_block_13 : decode b_QC_block 13 = .ok (.iload_n 2, 1) := by decide +kernel
theorem d_QC_block_14 : decode b_QC_block 14 = .ok (.tableswitch 84 0 4 #[34, 43, 52, 61, 78], 34) := by decide +kernel
theorem d_QC_block_48 : decode b_QC_block 48 = .ok (.aload_n 0, 1) := by decide +kernel
theorem d_QC_block_49 : decode b_QC_block 49 = .ok (.getfield 18, 3) := by decide +kernel
theorem d_QC_block_52 : decode b_QC_block 52 = .ok (.iload_n 1, 1) := by decide +kernel
theorem d_QC_block_53 : decode b_QC_block 53 = .ok (.invokevirtual 203, 3) := by decide +kernel
theorem d_QC_block_56 : decode b_QC_block 56 = .ok (.ireturn, 1) := by decide +kernel
theorem d_QC_block_57 : decode b_QC_block 57 = .ok (.aload_n 0, 1) := by decide +kernel
theorem d_QC_block_58 : decode b_QC_block 58 = .ok (.getfield 18, 3) := by decide +kernel
theorem d_QC_block_61 : decode b_QC_block 61 = .ok (.iload_n 1, 1) := by decide +kernel
theorem d_QC_block_62 : decode b_QC_block 62 = .ok (.invokevirtual 285, 3) := by decide +kernel
theorem d_QC_block_65 : decode b_QC_block 65 = .ok (.ireturn, 1) := by decide +kernel
theorem d_QC_block_66 : decode b_QC_block 66 = .ok (.aload_n 0, 1) := by decide +kernel
theorem d_QC_block_67 : decode b_QC_block 67 = .ok (.getfield 18, 3) := by decide +kernel
theorem d_QC_block_70 : decode b_QC_block 70 = .ok (.iload_n 1, 1) := by decide +kernel
theorem d_QC_block_71 : decode b_QC_block 71 = .ok (.invokevirtual 288, 3) := by decide +kernel
theorem d_QC_block_74 : decode b_QC_block 74 = .ok (.ireturn, 1) := by decide +kernel
theorem d_QC_block_75 : decode b_QC_block 75 = .ok (.aload_n 0, 1) := by decide +kernel
theorem d_QC_block_76 : decode b_QC_block 76 = .ok (.getfield 18, 3) := by decide +kernel
theorem d_QC_block_79 : decode b_QC_block 79 = .ok (.iload_n 1, 1) := by decide +kernel
theorem d_QC_block_80 : decode b_QC_block 80 = .ok (.invokevirtual 200, 3) := by decide +kernel
theorem d_QC_block_83 : decode b_QC_block 83 = .ok (.ifCond .eq 7, 3) := by decide +kernel
theorem d_QC_block_86 : decode b_QC_block 86 = .ok (.iconst 1, 1) := by decide +kernel
theorem d_QC_block_87 : decode b_QC_block 87 = .ok (.goto 4, 3) := by decide +kernel
theorem d_QC_block_90 : decode b_QC_block 90 = .ok (.iconst 0, 1) := by decide +kernel
theorem d_QC_block_91 : decode b_QC_block 91 = .ok (.ireturn, 1) := by decide +kernel
theorem d_QC_block_92 : decode b_QC_block 92 = .ok (.aload_n 0, 1) := by decide +kernel
theorem d_QC_block_93 : decode b_QC_block 93 = .ok (.iload_n 1, 1) := by decide +kernel
theorem d_QC_block_94 : decode b_QC_block 94 = .ok (.invokevirtual 291, 3) := by decide +kernel
theorem d_QC_block_97 : decode b_QC_block 97 = .ok (.ireturn, 1) := by decide +kernel
theorem d_QC_block_98 : decode b_QC_block 98 = .ok (.iconst (-1), 1) := by decide +kernel
theorem d_QC_block_99 : decode b_QC_block 99 = .ok (.ireturn, 1) := by decide +kernel
def f_QC_block (a1 : Int32) (a2 : Int32) (S : St) : Int32 :=
  lt (f_Blocks_exists a1 S) fun (r1 : Int32) =>
  if r1 = 0 then
    (-1 : Int32)
  else
    if a2 = (0 : Int32) then
      lt (f_Blocks_viewOf a1 S) fun (r5 : Int32) =>
      r5
    else
      if a2 = (1 : Int32) then
        lt (f_Blocks_parentOf a1 S) fun (r8 : Int32) =>
        r8
      else
        if a2 = (2 : Int32) then
          lt (f_Blocks_transactionOf a1 S) fun (r11 : Int32) =>
          r11
        else
          if a2 = (3 : Int32) then
            lt (f_Blocks_isCertified a1 S) fun (r14 : Int32) =>
            if r14 = 0 then
              (0 : Int32)
            else
              (1 : Int32)
          else
            if a2 = (4 : Int32) then
              lt (f_QC_nodesThatHave a1 S) fun (r18 : Int32) =>
              r18
            else
              (-1 : Int32)
def ok_QC_block (a1 : Int32) (a2 : Int32) (S : St) : Prop :=
  lt (f_Blocks_exists a1 S) fun (r1 : Int32) =>
  (r1 = 0 → (
    True)) ∧ (¬ (r1 = 0) → (
    (a2 = (0 : Int32) → (
      (ok_Blocks_viewOf a1 S) ∧ (
        True))) ∧ (¬ (a2 = (0 : Int32)) → (
      (a2 = (1 : Int32) → (
        (ok_Blocks_parentOf a1 S) ∧ (
          True))) ∧ (¬ (a2 = (1 : Int32)) → (
        (a2 = (2 : Int32) → (
          (ok_Blocks_transactionOf a1 S) ∧ (
            True))) ∧ (¬ (a2 = (2 : Int32)) → (
          (a2 = (3 : Int32) → (
            (ok_Blocks_isCertified a1 S) ∧ (
              True))) ∧ (¬ (a2 = (3 : Int32)) → (
            (a2 = (4 : Int32) → (
              (ok_QC_nodesThatHave a1 S) ∧ (
                True))) ∧ (¬ (a2 = (4 : Int32)) → (
              True))))))))))))
set_option maxHeartbeats 4000000 in
set_option maxRecDepth 100000 in
theorem c_QC_block (l : Launch) (D : va_G) (X : va_W) (ad : N3 → Nat) (ca : Nat → ClassId) (a1 : Int32) (a2 : Int32)  (S : St) (hk : ok_QC_block a1 a2 S) : cP l GG D clQ (tysQ ca) nwQ (zw X ad TQ (cfQ ad ca) S) y_QC_block b_QC_block 3 .int 2 44 [.ref (ad (1, 0, 0)), .int a1, .int a2] (.int (f_QC_block a1 a2 S)) := by
  generalize hr : f_QC_block a1 a2 S = res
  refine zP_of pn_QC (Nat.le_of_ble_eq_true rfl) (fun p e s m below meth c ls hy hW hl => ?_)
  have hF := hy.1
  have hx := hF.1
  have hb := hF.2.1
  have hK := hy.2.2.2
  have hl : lv_has ls 3 [(0, .ref (ad (1, 0, 0))), (1, .int a1), (2, .int a2)] := hl
  refine lv_aload_n (pc := 0) hx hb d_QC_block_0 rfl (lv_at hl 0 rfl) ?_
  refine z_get (pc := 1) (v := .ref (ad (19, 0, 0))) hF hK.1 hW tq1 rfl rfl in_QC 1 (by decide) gw_345 rfl rfl d_QC_block_1 ?_
  refine lv_iload_n (pc := 4) hx hb d_QC_block_4 rfl (lv_at hl 1 rfl) ?_
  obtain ⟨r1, er1⟩ : ∃ z : Int32, z = f_Blocks_exists a1 S := ⟨_, rfl⟩
  have hk := lt_p er1 hk
  have hr := lt_e er1 hr
  refine p_go (pc := 5) (congrArg Value.int er1) (p_runV hF hK hW (c_Blocks_exists l D X ad ca a1 S _) cd_Blocks_exists gw_452 tq19 rfl rfl ⟨Nat.le_of_ble_eq_true rfl, Nat.le_of_ble_eq_true rfl⟩ ⟨Nat.zero_le _, Nat.zero_le _⟩ rfl rfl hl.1 (Nat.le_of_ble_eq_true rfl) d_QC_block_5) ?_
  refine lv_if_ne (pc := 8) (tgt := 13) hx hb d_QC_block_8 (by decide) (fun c2 => ?_) (fun c2 => ?_)
  · have hk := hk.2 c2
    have hr := (if_neg c2).symm.trans hr
    refine lv_iload_n (pc := 13) hx hb d_QC_block_13 rfl (lv_at hl 2 rfl) ?_
    by_cases c3 : a2 = (0 : Int32)
    · have hk := hk.1 c3
      have hr := (if_pos c3).symm.trans hr
      refine lv_tableIn (pc := 14) (tgt := 48) (off := 34) hx hb d_QC_block_14 (by (rw [c3]) <;> decide) (by (rw [c3]) <;> decide) (by (rw [c3]) <;> rfl) (by decide) ?_
      refine lv_aload_n (pc := 48) hx hb d_QC_block_48 rfl (lv_at hl 0 rfl) ?_
      refine z_get (pc := 49) (v := .ref (ad (19, 0, 0))) hF hK.1 hW tq1 rfl rfl in_QC 1 (by decide) gw_345 rfl rfl d_QC_block_49 ?_
      refine lv_iload_n (pc := 52) hx hb d_QC_block_52 rfl (lv_at hl 1 rfl) ?_
      have o4 := hk.1
      have hk := hk.2
      obtain ⟨r5, er5⟩ : ∃ z : Int32, z = f_Blocks_viewOf a1 S := ⟨_, rfl⟩
      have hr := lt_e er5 hr
      refine p_go (pc := 53) (congrArg Value.int er5) (p_runV hF hK hW (c_Blocks_viewOf l D X ad ca a1 S o4 _) cd_Blocks_viewOf gw_456 tq19 rfl rfl ⟨Nat.le_of_ble_eq_true rfl, Nat.le_of_ble_eq_true rfl⟩ ⟨Nat.zero_le _, Nat.zero_le _⟩ rfl rfl hl.1 (Nat.le_of_ble_eq_true rfl) d_QC_block_53) ?_
      exact p_iret (v := r5) hy hr d_QC_block_56
    · have hk := hk.2 c3
      have hr := (if_neg c3).symm.trans hr
      by_cases c6 : a2 = (1 : Int32)
      · have hk := hk.1 c6
        have hr := (if_pos c6).symm.trans hr
        refine lv_tableIn (pc := 14) (tgt := 57) (off := 43) hx hb d_QC_block_14 (by (rw [c6]) <;> decide) (by (rw [c6]) <;> decide) (by (rw [c6]) <;> rfl) (by decide) ?_
        refine lv_aload_n (pc := 57) hx hb d_QC_block_57 rfl (lv_at hl 0 rfl) ?_
        refine z_get (pc := 58) (v := .ref (ad (19, 0, 0))) hF hK.1 hW tq1 rfl rfl in_QC 1 (by decide) gw_345 rfl rfl d_QC_block_58 ?_
        refine lv_iload_n (pc := 61) hx hb d_QC_block_61 rfl (lv_at hl 1 rfl) ?_
        have o7 := hk.1
        have hk := hk.2
        obtain ⟨r8, er8⟩ : ∃ z : Int32, z = f_Blocks_parentOf a1 S := ⟨_, rfl⟩
        have hr := lt_e er8 hr
        refine p_go (pc := 62) (congrArg Value.int er8) (p_runV hF hK hW (c_Blocks_parentOf l D X ad ca a1 S o7 _) cd_Blocks_parentOf gw_461 tq19 rfl rfl ⟨Nat.le_of_ble_eq_true rfl, Nat.le_of_ble_eq_true rfl⟩ ⟨Nat.zero_le _, Nat.zero_le _⟩ rfl rfl hl.1 (Nat.le_of_ble_eq_true rfl) d_QC_block_62) ?_
        exact p_iret (v := r8) hy hr d_QC_block_65
      · have hk := hk.2 c6
        have hr := (if_neg c6).symm.trans hr
        by_cases c9 : a2 = (2 : Int32)
        · have hk := hk.1 c9
          have hr := (if_pos c9).symm.trans hr
          refine lv_tableIn (pc := 14) (tgt := 66) (off := 52) hx hb d_QC_block_14 (by (rw [c9]) <;> decide) (by (rw [c9]) <;> decide) (by (rw [c9]) <;> rfl) (by decide) ?_
          refine lv_aload_n (pc := 66) hx hb d_QC_block_66 rfl (lv_at hl 0 rfl) ?_
          refine z_get (pc := 67) (v := .ref (ad (19, 0, 0))) hF hK.1 hW tq1 rfl rfl in_QC 1 (by decide) gw_345 rfl rfl d_QC_block_67 ?_
          refine lv_iload_n (pc := 70) hx hb d_QC_block_70 rfl (lv_at hl 1 rfl) ?_
          have o10 := hk.1
          have hk := hk.2
          obtain ⟨r11, er11⟩ : ∃ z : Int32, z = f_Blocks_transactionOf a1 S := ⟨_, rfl⟩
          have hr := lt_e er11 hr
          refine p_go (pc := 71) (congrArg Value.int er11) (p_runV hF hK hW (c_Blocks_transactionOf l D X ad ca a1 S o10 _) cd_Blocks_transactionOf gw_465 tq19 rfl rfl ⟨Nat.le_of_ble_eq_true rfl, Nat.le_of_ble_eq_true rfl⟩ ⟨Nat.zero_le _, Nat.zero_le _⟩ rfl rfl hl.1 (Nat.le_of_ble_eq_true rfl) d_QC_block_71) ?_
          exact p_iret (v := r11) hy hr d_QC_block_74
        · have hk := hk.2 c9
          have hr := (if_neg c9).symm.trans hr
          by_cases c12 : a2 = (3 : Int32)
          · have hk := hk.1 c12
            have hr := (if_pos c12).symm.trans hr
            refine lv_tableIn (pc := 14) (tgt := 75) (off := 61) hx hb d_QC_block_14 (by (rw [c12]) <;> decide) (by (rw [c12]) <;> decide) (by (rw [c12]) <;> rfl) (by decide) ?_
            refine lv_aload_n (pc := 75) hx hb d_QC_block_75 rfl (lv_at hl 0 rfl) ?_
            refine z_get (pc := 76) (v := .ref (ad (19, 0, 0))) hF hK.1 hW tq1 rfl rfl in_QC 1 (by decide) gw_345 rfl rfl d_QC_block_76 ?_
            refine lv_iload_n (pc := 79) hx hb d_QC_block_79 rfl (lv_at hl 1 rfl) ?_
            have o13 := hk.1
            have hk := hk.2
            obtain ⟨r14, er14⟩ : ∃ z : Int32, z = f_Blocks_isCertified a1 S := ⟨_, rfl⟩
            have hr := lt_e er14 hr
            refine p_go (pc := 80) (congrArg Value.int er14) (p_runV hF hK hW (c_Blocks_isCertified l D X ad ca a1 S o13 _) cd_Blocks_isCertified gw_469 tq19 rfl rfl ⟨Nat.le_of_ble_eq_true rfl, Nat.le_of_ble_eq_true rfl⟩ ⟨Nat.zero_le _, Nat.zero_le _⟩ rfl rfl hl.1 (Nat.le_of_ble_eq_true rfl) d_QC_block_80) ?_
            refine lv_if_eq (pc := 83) (tgt := 90) hx hb d_QC_block_83 (by decide) (fun c15 => ?_) (fun c15 => ?_)
            · have hr := (if_pos c15).symm.trans hr
              refine lv_iconst (pc := 90) (v := 0) hx hb d_QC_block_90 (by decide) ?_
              exact p_iret (v := (0 : Int32)) hy hr d_QC_block_91
            · have hr := (if_neg c15).symm.trans hr
              refine lv_iconst (pc := 86) (v := 1) hx hb d_QC_block_86 (by decide) ?_
              refine lv_goto (pc := 87) (tgt := 91) hx hb d_QC_block_87 (by decide) ?_
              exact p_iret (v := (1 : Int32)) hy hr d_QC_block_91
          · have hk := hk.2 c12
            have hr := (if_neg c12).symm.trans hr
            by_cases c16 : a2 = (4 : Int32)
            · have hk := hk.1 c16
              have hr := (if_pos c16).symm.trans hr
              refine lv_tableIn (pc := 14) (tgt := 92) (off := 78) hx hb d_QC_block_14 (by (rw [c16]) <;> decide) (by (rw [c16]) <;> decide) (by (rw [c16]) <;> rfl) (by decide) ?_
              refine lv_aload_n (pc := 92) hx hb d_QC_block_92 rfl (lv_at hl 0 rfl) ?_
              refine lv_iload_n (pc := 93) hx hb d_QC_block_93 rfl (lv_at hl 1 rfl) ?_
              have o17 := hk.1
              have hk := hk.2
              obtain ⟨r18, er18⟩ : ∃ z : Int32, z = f_QC_nodesThatHave a1 S := ⟨_, rfl⟩
              have hr := lt_e er18 hr
              refine p_go (pc := 94) (congrArg Value.int er18) (p_runV hF hK hW (c_QC_nodesThatHave l D X ad ca a1 S o17 _) cd_QC_nodesThatHave gw_473 tq1 rfl rfl ⟨Nat.le_of_ble_eq_true rfl, Nat.le_of_ble_eq_true rfl⟩ ⟨Nat.zero_le _, Nat.zero_le _⟩ rfl rfl hl.1 (Nat.le_of_ble_eq_true rfl) d_QC_block_94) ?_
              exact p_iret (v := r18) hy hr d_QC_block_97
            · have hk := hk.2 c16
              have hr := (if_neg c16).symm.trans hr
              have ho : a2.toInt < (0 : Int) ∨ (4 : Int) < a2.toInt := z_swl (0) (4) (fun k h1 h2 => by
                rcases (show k = 0 ∨ k = 1 ∨ k = 2 ∨ k = 3 ∨ k = 4 by omega) with rfl | rfl | rfl | rfl | rfl
                · exact lv_neT c3 (by decide)
                · exact lv_neT c6 (by decide)
                · exact lv_neT c9 (by decide)
                · exact lv_neT c12 (by decide)
                · exact lv_neT c16 (by decide))
              refine lv_tableOut (pc := 14) (tgt := 98) hx hb d_QC_block_14 ho (by decide) ?_
              refine lv_iconst (pc := 98) (v := -1) hx hb d_QC_block_98 (by decide) ?_
              exact p_iret (v := (-1 : Int32)) hy hr d_QC_block_99
  · have hk := hk.1 c2
    have hr := (if_pos c2).symm.trans hr
    refine lv_iconst (pc := 11) (v := -1) hx hb d_QC_block_11 (by decide) ?_
    exact p_iret (v := (-1 : Int32)) hy hr d_QC_block_12
theorem d_QC_message_0 : decode b_QC_message 0 = .ok (.iload_n 1, 1) := by decide +kernel
theorem d_QC_message_1 : decode b_QC_message 1 = .ok (.invokestatic 68, 3) := by decide +kernel
theorem d_QC_message_4 : decode b_QC_message 4 = .ok (.ifCond .eq 23, 3) := by decide +kernel
theorem d_QC_message_7 : decode b_QC_message 7 = .ok (.iload_n 2, 1) := by decide +kernel
theorem d_QC_message_8 : decode b_QC_message 8 = .ok (.ifCond .lt 19, 3) := by decide +kernel
theorem d_QC_message_11 : decode b_QC_message 11 = .ok (.iload_n 2, 1) := by decide +kernel
theorem d_QC_message_12 : decode b_QC_message 12 = .ok (.aload_n 0, 1) := by decide +kernel
theorem d_QC_message_13 : decode b_QC_message 13 = .ok (.getfield 11, 3) := by decide +kernel
theorem d_QC_message_16 : decode b_QC_message 16 = .ok (.iload_n 1, 1) := by decide +kernel
theorem d_QC_message_17 : decode b_QC_message 17 = .ok (.aaload, 1) := by decide +kernel
theorem d_QC_message_18 : decode b_QC_message 18 = .ok (.getfield 99, 3) := by decide +kernel
theorem d_QC_message_21 : decode b_QC_message 21 = .ok (.getfield 103, 3) := by decide +kernel
theorem d_QC_message_24 : decode b_QC_message 24 = .ok (.if_icmp .lt 5, 3) := by decide +kernel
theorem d_QC_message_27 : decode b_QC_message 27 = .ok (.iconst (-1), 1) := by decide +kernel
theorem d_QC_message_28 : decode b_QC_message 28 = .ok (.ireturn, 1) := by decide +kernel
theorem d_QC_message_29 : decode b_QC_message 29 = .ok (.aload_n 0, 1) := by decide +kernel
theorem d_QC_message_30 : decode b_QC_message 30 = .ok (.getfield 11, 3) := by decide +kernel
theorem d_QC_message_33 : decode b_QC_message 33 = .ok (.iload_n 1, 1) := by decide +kernel
theorem d_QC_message_34 : decode b_QC_message 34 = .ok (.aaload, 1) := by decide +kernel
theorem d_QC_message_35 : decode b_QC_message 35 = .ok (.getfield 99, 3) := by decide +kernel
theorem d_QC_message_38 : decode b_QC_message 38 = .ok (.getfield 294, 3) := by decide +kernel
theorem d_QC_message_41 : decode b_QC_message 41 = .ok (.iload_n 2, 1) := by decide +kernel
theorem d_QC_message_42 : decode b_QC_message 42 = .ok (.aaload, 1) := by decide +kernel
theorem d_QC_message_43 : decode b_QC_message 43 = .ok (.astore 4, 2) := by decide +kernel
theorem d_QC_message_45 : decode b_QC_message 45 = .ok (.iload_n 3, 1) := by decide +kernel
theorem d_QC_message_46 : decode b_QC_message 46 = .ok (.tableswitch 64 0 4 #[34, 40, 46, 52, 58], 34) := by decide +kernel
theorem d_QC_message_80 : decode b_QC_message 80 = .ok (.aload 4, 2) := by decide +kernel
theorem d_QC_message_82 : decode b_QC_message 82 = .ok (.getfield 123, 3) := by decide +kernel
theorem d_QC_message_85 : decode b_QC_message 85 = .ok (.ireturn, 1) := by decide +kernel
theorem d_QC_message_86 : decode b_QC_message 86 = .ok (.aload 4, 2) := by decide +kernel
theorem d_QC_message_88 : decode b_QC_message 88 = .ok (.getfield 126, 3) := by decide +kernel
theorem d_QC_message_91 : decode b_QC_message 91 = .ok (.ireturn, 1) := by decide +kernel
theorem d_QC_message_92 : decode b_QC_message 92 = .ok (.aload 4, 2) := by decide +kernel
theorem d_QC_message_94 : decode b_QC_message 94 = .ok (.getfield 129, 3) := by decide +kernel
theorem d_QC_message_97 : decode b_QC_message 97 = .ok (.ireturn, 1) := by decide +kernel
theorem d_QC_message_98 : decode b_QC_message 98 = .ok (.aload 4, 2) := by decide +kernel
theorem d_QC_message_100 : decode b_QC_message 100 = .ok (.getfield 139, 3) := by decide +kernel
theorem d_QC_message_103 : decode b_QC_message 103 = .ok (.ireturn, 1) := by decide +kernel
theorem d_QC_message_104 : decode b_QC_message 104 = .ok (.aload 4, 2) := by decide +kernel
theorem d_QC_message_106 : decode b_QC_message 106 = .ok (.getfield 161, 3) := by decide +kernel
theorem d_QC_message_109 : decode b_QC_message 109 = .ok (.ireturn, 1) := by decide +kernel
theorem d_QC_message_110 : decode b_QC_message 110 = .ok (.iconst (-1), 1) := by decide +kernel
theorem d_QC_message_111 : decode b_QC_message 111 = .ok (.ireturn, 1) := by decide +kernel
def f_QC_message (a1 : Int32) (a2 : Int32) (a3 : Int32) (S : St) : Int32 :=
  lt (f_QC_isNode a1 S) fun (r1 : Int32) =>
  if r1 = 0 then
    (-1 : Int32)
  else
    if a2 < 0 then
      (-1 : Int32)
    else
      if a2 < (S.1 12 (a1.toNatClampNeg) 0 1) then
        if a3 = (0 : Int32) then
          S.1 14 (a1.toNatClampNeg) (S.2.2 13 (a1.toNatClampNeg) 0 (a2.toNatClampNeg)) 1
        else
          if a3 = (1 : Int32) then
            S.1 14 (a1.toNatClampNeg) (S.2.2 13 (a1.toNatClampNeg) 0 (a2.toNatClampNeg)) 2
          else
            if a3 = (2 : Int32) then
              S.1 14 (a1.toNatClampNeg) (S.2.2 13 (a1.toNatClampNeg) 0 (a2.toNatClampNeg)) 3
            else
              if a3 = (3 : Int32) then
                S.1 14 (a1.toNatClampNeg) (S.2.2 13 (a1.toNatClampNeg) 0 (a2.toNatClampNeg)) 4
              else
                if a3 = (4 : Int32) then
                  S.1 14 (a1.toNatClampNeg) (S.2.2 13 (a1.toNatClampNeg) 0 (a2.toNatClampNeg)) 5
                else
                  (-1 : Int32)
      else
        (-1 : Int32)
def ok_QC_message (a1 : Int32) (a2 : Int32) (a3 : Int32) (S : St) : Prop :=
  lt (f_QC_isNode a1 S) fun (r1 : Int32) =>
  (r1 = 0 → (
    True)) ∧ (¬ (r1 = 0) → (
    (a2 < 0 → (
      True)) ∧ (¬ (a2 < 0) → (
      (vp_in a1 4) ∧ (
        (a2 < (S.1 12 (a1.toNatClampNeg) 0 1) → (
          (vp_in a1 4) ∧ (
            (vp_in a2 16) ∧ (
              ((S.2.2 13 (a1.toNatClampNeg) 0 (a2.toNatClampNeg)) < 16) ∧ (
                True))))) ∧ (¬ (a2 < (S.1 12 (a1.toNatClampNeg) 0 1)) → (
          True)))))))
set_option maxHeartbeats 4000000 in
set_option maxRecDepth 100000 in
theorem c_QC_message (l : Launch) (D : va_G) (X : va_W) (ad : N3 → Nat) (ca : Nat → ClassId) (a1 : Int32) (a2 : Int32) (a3 : Int32)  (S : St) (hk : ok_QC_message a1 a2 a3 S) : cP l GG D clQ (tysQ ca) nwQ (zw X ad TQ (cfQ ad ca) S) y_QC_message b_QC_message 5 .int 1 20 [.ref (ad (1, 0, 0)), .int a1, .int a2, .int a3] (.int (f_QC_message a1 a2 a3 S)) := by
  generalize hr : f_QC_message a1 a2 a3 S = res
  refine zP_of pn_QC (Nat.le_of_ble_eq_true rfl) (fun p e s m below meth c ls hy hW hl => ?_)
  have hF := hy.1
  have hx := hF.1
  have hb := hF.2.1
  have hK := hy.2.2.2
  have hl : lv_has ls 5 [(0, .ref (ad (1, 0, 0))), (1, .int a1), (2, .int a2), (3, .int a3)] := hl
  refine lv_iload_n (pc := 0) hx hb d_QC_message_0 rfl (lv_at hl 1 rfl) ?_
  obtain ⟨r1, er1⟩ : ∃ z : Int32, z = f_QC_isNode a1 S := ⟨_, rfl⟩
  have hk := lt_p er1 hk
  have hr := lt_e er1 hr
  refine p_go (pc := 1) (congrArg Value.int er1) (p_runS hF hK hW (c_QC_isNode l D X ad ca a1 S _) cd_QC_isNode gw_430 ⟨Nat.le_of_ble_eq_true rfl, Nat.le_of_ble_eq_true rfl⟩ ⟨Nat.zero_le _, Nat.zero_le _⟩ rfl rfl hl.1 (Nat.le_of_ble_eq_true rfl) d_QC_message_1) ?_
  refine lv_if_eq (pc := 4) (tgt := 27) hx hb d_QC_message_4 (by decide) (fun c2 => ?_) (fun c2 => ?_)
  · have hk := hk.1 c2
    have hr := (if_pos c2).symm.trans hr
    refine lv_iconst (pc := 27) (v := -1) hx hb d_QC_message_27 (by decide) ?_
    exact p_iret (v := (-1 : Int32)) hy hr d_QC_message_28
  · have hk := hk.2 c2
    have hr := (if_neg c2).symm.trans hr
    refine lv_iload_n (pc := 7) hx hb d_QC_message_7 rfl (lv_at hl 2 rfl) ?_
    refine lv_if_lt (pc := 8) (tgt := 27) hx hb d_QC_message_8 (by decide) (fun c3 => ?_) (fun c3 => ?_)
    · have hk := hk.1 c3
      have hr := (if_pos c3).symm.trans hr
      refine lv_iconst (pc := 27) (v := -1) hx hb d_QC_message_27 (by decide) ?_
      exact p_iret (v := (-1 : Int32)) hy hr d_QC_message_28
    · have hk := hk.2 c3
      have hr := (if_neg c3).symm.trans hr
      refine lv_iload_n (pc := 11) hx hb d_QC_message_11 rfl (lv_at hl 2 rfl) ?_
      refine lv_aload_n (pc := 12) hx hb d_QC_message_12 rfl (lv_at hl 0 rfl) ?_
      refine z_get (pc := 13) (v := .ref (ad (2, 0, 0))) hF hK.1 hW tq1 rfl rfl in_QC 0 (by decide) gw_344 rfl rfl d_QC_message_13 ?_
      refine lv_iload_n (pc := 16) hx hb d_QC_message_16 rfl (lv_at hl 1 rfl) ?_
      have b4 := hk.1
      have hk := hk.2
      refine z_aald (pc := 17) (q := ad (3, (a1.toNatClampNeg), 0)) hF hK.1 hW tq2 3 rfl rfl b4 rfl d_QC_message_17 ?_
      refine z_get (pc := 18) (v := .ref (ad (12, (a1.toNatClampNeg), 0))) hF hK.1 hW (tq3 (vin4 b4)) rfl rfl in_Node 2 (by decide) gw_300 rfl rfl d_QC_message_18 ?_
      refine z_get (pc := 21) (v := .int (S.1 12 (a1.toNatClampNeg) 0 1)) hF hK.1 hW (tq12 (vin4 b4)) rfl rfl in_Inbox 1 (by decide) gw_182 rfl rfl d_QC_message_21 ?_
      refine lv_icmp_lt (pc := 24) (tgt := 29) hx hb d_QC_message_24 (by decide) (fun c5 => ?_) (fun c5 => ?_)
      · have hk := hk.1 c5
        have hr := (if_pos c5).symm.trans hr
        refine lv_aload_n (pc := 29) hx hb d_QC_message_29 rfl (lv_at hl 0 rfl) ?_
        refine z_get (pc := 30) (v := .ref (ad (2, 0, 0))) hF hK.1 hW tq1 rfl rfl in_QC 0 (by decide) gw_344 rfl rfl d_QC_message_30 ?_
        refine lv_iload_n (pc := 33) hx hb d_QC_message_33 rfl (lv_at hl 1 rfl) ?_
        have b6 := hk.1
        have hk := hk.2
        refine z_aald (pc := 34) (q := ad (3, (a1.toNatClampNeg), 0)) hF hK.1 hW tq2 3 rfl rfl b6 rfl d_QC_message_34 ?_
        refine z_get (pc := 35) (v := .ref (ad (12, (a1.toNatClampNeg), 0))) hF hK.1 hW (tq3 (vin4 b6)) rfl rfl in_Node 2 (by decide) gw_300 rfl rfl d_QC_message_35 ?_
        refine z_get (pc := 38) (v := .ref (ad (13, (a1.toNatClampNeg), 0))) hF hK.1 hW (tq12 (vin4 b6)) rfl rfl in_Inbox 0 (by decide) gw_179 rfl rfl d_QC_message_38 ?_
        refine lv_iload_n (pc := 41) hx hb d_QC_message_41 rfl (lv_at hl 2 rfl) ?_
        have b7 := hk.1
        have hk := hk.2
        have b8 := hk.1
        have hk := hk.2
        refine z_aald (pc := 42) (q := ad (14, (a1.toNatClampNeg), (S.2.2 13 (a1.toNatClampNeg) 0 (a2.toNatClampNeg)))) hF hK.1 hW (tq13 (vin4 b6)) 4 rfl rfl b7 rfl d_QC_message_42 ?_
        refine lv_astore (pc := 43) (lv' := [(4, .ref (ad (14, (a1.toNatClampNeg), (S.2.2 13 (a1.toNatClampNeg) 0 (a2.toNatClampNeg))))), (0, .ref (ad (1, 0, 0))), (1, .int a1), (2, .int a2), (3, .int a3)]) hx hb d_QC_message_43 hl (by decide) rfl (fun ls hl => ?_)
        refine lv_iload_n (pc := 45) hx hb d_QC_message_45 rfl (lv_at hl 4 rfl) ?_
        by_cases c9 : a3 = (0 : Int32)
        · have hr := (if_pos c9).symm.trans hr
          refine lv_tableIn (pc := 46) (tgt := 80) (off := 34) hx hb d_QC_message_46 (by (rw [c9]) <;> decide) (by (rw [c9]) <;> decide) (by (rw [c9]) <;> rfl) (by decide) ?_
          refine lv_aload (pc := 80) hx hb d_QC_message_80 (lv_at hl 0 rfl) ?_
          refine z_get (pc := 82) (v := .int (S.1 14 (a1.toNatClampNeg) (S.2.2 13 (a1.toNatClampNeg) 0 (a2.toNatClampNeg)) 1)) hF hK.1 hW (tq14 (Or.inl ⟨(vin4 b6), b8⟩)) rfl rfl in_Message 1 (by decide) gw_140 rfl rfl d_QC_message_82 ?_
          exact p_iret (v := S.1 14 (a1.toNatClampNeg) (S.2.2 13 (a1.toNatClampNeg) 0 (a2.toNatClampNeg)) 1) hy hr d_QC_message_85
        · have hr := (if_neg c9).symm.trans hr
          by_cases c10 : a3 = (1 : Int32)
          · have hr := (if_pos c10).symm.trans hr
            refine lv_tableIn (pc := 46) (tgt := 86) (off := 40) hx hb d_QC_message_46 (by (rw [c10]) <;> decide) (by (rw [c10]) <;> decide) (by (rw [c10]) <;> rfl) (by decide) ?_
            refine lv_aload (pc := 86) hx hb d_QC_message_86 (lv_at hl 0 rfl) ?_
            refine z_get (pc := 88) (v := .int (S.1 14 (a1.toNatClampNeg) (S.2.2 13 (a1.toNatClampNeg) 0 (a2.toNatClampNeg)) 2)) hF hK.1 hW (tq14 (Or.inl ⟨(vin4 b6), b8⟩)) rfl rfl in_Message 2 (by decide) gw_142 rfl rfl d_QC_message_88 ?_
            exact p_iret (v := S.1 14 (a1.toNatClampNeg) (S.2.2 13 (a1.toNatClampNeg) 0 (a2.toNatClampNeg)) 2) hy hr d_QC_message_91
          · have hr := (if_neg c10).symm.trans hr
            by_cases c11 : a3 = (2 : Int32)
            · have hr := (if_pos c11).symm.trans hr
              refine lv_tableIn (pc := 46) (tgt := 92) (off := 46) hx hb d_QC_message_46 (by (rw [c11]) <;> decide) (by (rw [c11]) <;> decide) (by (rw [c11]) <;> rfl) (by decide) ?_
              refine lv_aload (pc := 92) hx hb d_QC_message_92 (lv_at hl 0 rfl) ?_
              refine z_get (pc := 94) (v := .int (S.1 14 (a1.toNatClampNeg) (S.2.2 13 (a1.toNatClampNeg) 0 (a2.toNatClampNeg)) 3)) hF hK.1 hW (tq14 (Or.inl ⟨(vin4 b6), b8⟩)) rfl rfl in_Message 3 (by decide) gw_144 rfl rfl d_QC_message_94 ?_
              exact p_iret (v := S.1 14 (a1.toNatClampNeg) (S.2.2 13 (a1.toNatClampNeg) 0 (a2.toNatClampNeg)) 3) hy hr d_QC_message_97
            · have hr := (if_neg c11).symm.trans hr
              by_cases c12 : a3 = (3 : Int32)
              · have hr := (if_pos c12).symm.trans hr
                refine lv_tableIn (pc := 46) (tgt := 98) (off := 52) hx hb d_QC_message_46 (by (rw [c12]) <;> decide) (by (rw [c12]) <;> decide) (by (rw [c12]) <;> rfl) (by decide) ?_
                refine lv_aload (pc := 98) hx hb d_QC_message_98 (lv_at hl 0 rfl) ?_
                refine z_get (pc := 100) (v := .int (S.1 14 (a1.toNatClampNeg) (S.2.2 13 (a1.toNatClampNeg) 0 (a2.toNatClampNeg)) 4)) hF hK.1 hW (tq14 (Or.inl ⟨(vin4 b6), b8⟩)) rfl rfl in_Message 4 (by decide) gw_146 rfl rfl d_QC_message_100 ?_
                exact p_iret (v := S.1 14 (a1.toNatClampNeg) (S.2.2 13 (a1.toNatClampNeg) 0 (a2.toNatClampNeg)) 4) hy hr d_QC_message_103
              · have hr := (if_neg c12).symm.trans hr
                by_cases c13 : a3 = (4 : Int32)
                · have hr := (if_pos c13).symm.trans hr
                  refine lv_tableIn (pc := 46) (tgt := 104) (off := 58) hx hb d_QC_message_46 (by (rw [c13]) <;> decide) (by (rw [c13]) <;> decide) (by (rw [c13]) <;> rfl) (by decide) ?_
                  refine lv_aload (pc := 104) hx hb d_QC_message_104 (lv_at hl 0 rfl) ?_
                  refine z_get (pc := 106) (v := .int (S.1 14 (a1.toNatClampNeg) (S.2.2 13 (a1.toNatClampNeg) 0 (a2.toNatClampNeg)) 5)) hF hK.1 hW (tq14 (Or.inl ⟨(vin4 b6), b8⟩)) rfl rfl in_Message 5 (by decide) gw_149 rfl rfl d_QC_message_106 ?_
                  exact p_iret (v := S.1 14 (a1.toNatClampNeg) (S.2.2 13 (a1.toNatClampNeg) 0 (a2.toNatClampNeg)) 5) hy hr d_QC_message_109
                · have hr := (if_neg c13).symm.trans hr
                  have ho : a3.toInt < (0 : Int) ∨ (4 : Int) < a3.toInt := z_swl (0) (4) (fun k h1 h2 => by
                    rcases (show k = 0 ∨ k = 1 ∨ k = 2 ∨ k = 3 ∨ k = 4 by omega) with rfl | rfl | rfl | rfl | rfl
                    · exact lv_neT c9 (by decide)
                    · exact lv_neT c10 (by decide)
                    · exact lv_neT c11 (by decide)
                    · exact lv_neT c12 (by decide)
                    · exact lv_neT c13 (by decide))
                  refine lv_tableOut (pc := 46) (tgt := 110) hx hb d_QC_message_46 ho (by decide) ?_
                  refine lv_iconst (pc := 110) (v := -1) hx hb d_QC_message_110 (by decide) ?_
                  exact p_iret (v := (-1 : Int32)) hy hr d_QC_message_111
      · have hk := hk.2 c5
        have hr := (if_neg c5).symm.trans hr
        refine lv_iconst (pc := 27) (v := -1) hx hb d_QC_message_27 (by decide) ?_
        exact p_iret (v := (-1 : Int32)) hy hr d_QC_message_28
