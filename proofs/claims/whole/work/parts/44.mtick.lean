theorem d_M_tick_0 : decode b_M_tick 0 = .ok (.aload_n 0, 1) := by decide +kernel
theorem d_M_tick_1 : decode b_M_tick 1 = .ok (.iconst 0, 1) := by decide +kernel
theorem d_M_tick_2 : decode b_M_tick 2 = .ok (.putfield 141, 3) := by decide +kernel
theorem d_M_tick_5 : decode b_M_tick 5 = .ok (.aload_n 0, 1) := by decide +kernel
theorem d_M_tick_6 : decode b_M_tick 6 = .ok (.dup, 1) := by decide +kernel
theorem d_M_tick_7 : decode b_M_tick 7 = .ok (.getfield 265, 3) := by decide +kernel
theorem d_M_tick_10 : decode b_M_tick 10 = .ok (.iconst 1, 1) := by decide +kernel
theorem d_M_tick_11 : decode b_M_tick 11 = .ok (.iadd, 1) := by decide +kernel
theorem d_M_tick_12 : decode b_M_tick 12 = .ok (.putfield 265, 3) := by decide +kernel
theorem d_M_tick_15 : decode b_M_tick 15 = .ok (.iconst 0, 1) := by decide +kernel
theorem d_M_tick_16 : decode b_M_tick 16 = .ok (.istore_n 1, 1) := by decide +kernel
theorem d_M_tick_17 : decode b_M_tick 17 = .ok (.iload_n 1, 1) := by decide +kernel
theorem d_M_tick_18 : decode b_M_tick 18 = .ok (.iconst 4, 1) := by decide +kernel
theorem d_M_tick_19 : decode b_M_tick 19 = .ok (.if_icmp .ge 23, 3) := by decide +kernel
theorem d_M_tick_22 : decode b_M_tick 22 = .ok (.aload_n 0, 1) := by decide +kernel
theorem d_M_tick_23 : decode b_M_tick 23 = .ok (.getfield 43, 3) := by decide +kernel
theorem d_M_tick_26 : decode b_M_tick 26 = .ok (.iload_n 1, 1) := by decide +kernel
theorem d_M_tick_27 : decode b_M_tick 27 = .ok (.baload, 1) := by decide +kernel
theorem d_M_tick_28 : decode b_M_tick 28 = .ok (.ifCond .eq 8, 3) := by decide +kernel
theorem d_M_tick_31 : decode b_M_tick 31 = .ok (.aload_n 0, 1) := by decide +kernel
theorem d_M_tick_32 : decode b_M_tick 32 = .ok (.iload_n 1, 1) := by decide +kernel
theorem d_M_tick_33 : decode b_M_tick 33 = .ok (.invokevirtual 268, 3) := by decide +kernel
theorem d_M_tick_36 : decode b_M_tick 36 = .ok (.iinc 1 1, 3) := by decide +kernel
theorem d_M_tick_39 : decode b_M_tick 39 = .ok (.goto (-22), 3) := by decide +kernel
theorem d_M_tick_42 : decode b_M_tick 42 = .ok (.aload_n 0, 1) := by decide +kernel
theorem d_M_tick_43 : decode b_M_tick 43 = .ok (.getfield 265, 3) := by decide +kernel
theorem d_M_tick_46 : decode b_M_tick 46 = .ok (.ireturn, 1) := by decide +kernel
def f_M_tick_17  : Nat → St → Int32 → Int32 × St
  | 0, S, _ => (0, S)
  | n + 1, S, l1 =>
    if (4 : Int32) ≤ l1 then
      (S.1 1 0 0 2, S)
    else
      if (S.1 11 0 0 l1.toNatClampNeg) = 0 then
        f_M_tick_17 n S (l1 + (1 : Int32))
      else
        lt (f_M_beats l1 S) fun (S8 : St) =>
        f_M_tick_17 n S8 (l1 + (1 : Int32))
def ok_M_tick_17  : Nat → St → Int32 → Prop
  | 0, _, _ => False
  | n + 1, S, l1 =>
    ((4 : Int32) ≤ l1 → (
      True)) ∧ (¬ ((4 : Int32) ≤ l1) → (
      (vp_in l1 4) ∧ (
        ((S.1 11 0 0 l1.toNatClampNeg) = 0 → (
          ok_M_tick_17 n S (l1 + (1 : Int32)))) ∧ (¬ ((S.1 11 0 0 l1.toNatClampNeg) = 0) → (
          (ok_M_beats l1 S) ∧ (
            lt (f_M_beats l1 S) fun (S8 : St) =>
            ok_M_tick_17 n S8 (l1 + (1 : Int32))))))))
set_option maxHeartbeats 4000000 in
set_option maxRecDepth 100000 in
theorem w_M_tick_17 {l : Launch} {D : va_G} {X : va_W} {ad : N3 → Nat} {ca : Nat → ClassId}   {p : Program} {e : Env} {s : State} {m : MethodId} {below : List Frame} {meth : Method} {c : Code} {A : Nat → Prop} (hy : Hy p s m ([.ref (ad (1, 0, 0))] : List Value).toArray meth c b_M_tick 2 (some .int) R_M GG D clM (tysM ca) nwM) (hA : ∀ q, s.heap.size ≤ q → A q) {res : Int32 × St} : ∀ (n : Nat) (S : St) (l1 : Int32) , ok_M_tick_17 n S l1 → f_M_tick_17 n S l1 = res → ∀ (H : Heap) (locs : List Loc) (ls : Array Slot), Wd D clM A s.heap (zw X ad TM (cfM ad ca) S) H locs → lv_has ls 2 [(0, .ref (ad (1, 0, 0))), (1, .int l1)] → W p l e { frames := 5, cells := 0, slots := 0, locals := 120 } s m ([.ref (ad (1, 0, 0))] : List Value).toArray below meth c H locs 0 0 (MQ below (eI D clM X ad TM (cfM ad ca) A res) ([.ref (ad (1, 0, 0))] : List Value).toArray s 0 0 A) (F0 m 17 ls []) := by
  have hF := hy.1
  have hx := hF.1
  have hb := hF.2.1
  have hK := hy.2.2.2
  intro n
  induction n with
  | zero =>
    intro S l1 hk
    exact hk.elim
  | succ n ih =>
    intro S l1 hk hr H locs ls hW hl
    refine lv_iload_n (pc := 17) hx hb d_M_tick_17 rfl (lv_at hl 1 rfl) ?_
    refine lv_iconst (pc := 18) (v := 4) hx hb d_M_tick_18 (by decide) ?_
    refine lv_icmp_ge (pc := 19) (tgt := 42) hx hb d_M_tick_19 (by decide) (fun c3 => ?_) (fun c3 => ?_)
    · have hk := hk.1 c3
      have hr := (if_pos c3).symm.trans hr
      refine lv_aload_n (pc := 42) hx hb d_M_tick_42 rfl (lv_at hl 0 rfl) ?_
      refine z_get (pc := 43) (v := .int (S.1 1 0 0 2)) hF hK.1 hW tm1 rfl rfl in_M 2 (by decide) gw_886 rfl rfl d_M_tick_43 ?_
      exact z_iret (v := S.1 1 0 0 2) hy hW hr.symm d_M_tick_46
    · have hk := hk.2 c3
      have hr := (if_neg c3).symm.trans hr
      refine lv_aload_n (pc := 22) hx hb d_M_tick_22 rfl (lv_at hl 0 rfl) ?_
      refine z_get (pc := 23) (v := .ref (ad (11, 0, 0))) hF hK.1 hW tm1 rfl rfl in_M 16 (by decide) gw_900 rfl rfl d_M_tick_23 ?_
      refine lv_iload_n (pc := 26) hx hb d_M_tick_26 rfl (lv_at hl 1 rfl) ?_
      have b4 := hk.1
      have hk := hk.2
      refine z_zald (pc := 27) (v := S.1 11 0 0 l1.toNatClampNeg) hF hK.1 hW tm11 2 rfl rfl b4 rfl d_M_tick_27 ?_
      refine lv_if_eq (pc := 28) (tgt := 36) hx hb d_M_tick_28 (by decide) (fun c5 => ?_) (fun c5 => ?_)
      · have hk := hk.1 c5
        have hr := (if_pos c5).symm.trans hr
        refine lv_iinc (pc := 36) (v := l1 + (1 : Int32)) (lv' := [(1, .int (l1 + (1 : Int32))), (0, .ref (ad (1, 0, 0)))]) (k := 1) hx hb d_M_tick_36 hl rfl (z_inc (by decide)) (by decide) rfl (fun ls hl => ?_)
        refine lv_goto (pc := 39) (tgt := 17) hx hb d_M_tick_39 (by decide) ?_
        exact ih S (l1 + (1 : Int32)) hk hr _ _ _ hW (lv_sub hl [1, 0] rfl)
      · have hk := hk.2 c5
        have hr := (if_neg c5).symm.trans hr
        refine lv_aload_n (pc := 31) hx hb d_M_tick_31 rfl (lv_at hl 0 rfl) ?_
        refine lv_iload_n (pc := 32) hx hb d_M_tick_32 rfl (lv_at hl 1 rfl) ?_
        have o6 := hk.1
        have hk := hk.2
        obtain ⟨S8, eS8⟩ : ∃ z : St, z = f_M_beats l1 S := ⟨_, rfl⟩
        have hk := lt_p eS8 hk
        have hr := lt_e eS8 hr
        refine z_goV (pc := 33) hW hA eS8 (z_runV hF hK hW (c_M_beats l D X ad ca l1 S o6 _) cd_M_beats gw_1153 tm1 rfl rfl ⟨Nat.le_of_ble_eq_true rfl, Nat.le_of_ble_eq_true rfl⟩ ⟨Nat.zero_le _, Nat.zero_le _⟩ rfl rfl hl.1 (Nat.le_of_ble_eq_true rfl) d_M_tick_33) (fun H locs (hW : Wd D clM A s.heap (zw X ad TM (cfM ad ca) S8) H locs) => ?_)
        refine lv_iinc (pc := 36) (v := l1 + (1 : Int32)) (lv' := [(1, .int (l1 + (1 : Int32))), (0, .ref (ad (1, 0, 0)))]) (k := 1) hx hb d_M_tick_36 hl rfl (z_inc (by decide)) (by decide) rfl (fun ls hl => ?_)
        refine lv_goto (pc := 39) (tgt := 17) hx hb d_M_tick_39 (by decide) ?_
        exact ih S8 (l1 + (1 : Int32)) hk hr _ _ _ hW (lv_sub hl [1, 0] rfl)
def f_M_tick  (S : St) : Int32 × St :=
  lt (si S 1 0 0 1 (0 : Int32)) fun (S1 : St) =>
  lt (si S1 1 0 0 2 ((S1.1 1 0 0 2) + (1 : Int32))) fun (S2 : St) =>
  f_M_tick_17 200 S2 (0 : Int32)
def ok_M_tick  (S : St) : Prop :=
  lt (si S 1 0 0 1 (0 : Int32)) fun (S1 : St) =>
  lt (si S1 1 0 0 2 ((S1.1 1 0 0 2) + (1 : Int32))) fun (S2 : St) =>
  ok_M_tick_17 200 S2 (0 : Int32)
set_option maxHeartbeats 4000000 in
set_option maxRecDepth 100000 in
theorem c_M_tick (l : Launch) (D : va_G) (X : va_W) (ad : N3 → Nat) (ca : Nat → ClassId)   (S : St) (hk : ok_M_tick S) : cI l GG D clM (tysM ca) nwM X ad TM (cfM ad ca) y_M_tick b_M_tick 2 .int 5 120 [.ref (ad (1, 0, 0))] S (f_M_tick S) := by
  generalize hr : f_M_tick S = res
  refine zI_of pn_M (Nat.le_of_ble_eq_true rfl) (fun p e s m below meth c A ls hy hW hA hl => ?_)
  have hF := hy.1
  have hx := hF.1
  have hb := hF.2.1
  have hK := hy.2.2.2
  have hl : lv_has ls 2 [(0, .ref (ad (1, 0, 0)))] := hl
  refine lv_aload_n (pc := 0) hx hb d_M_tick_0 rfl (lv_at hl 0 rfl) ?_
  refine lv_iconst (pc := 1) (v := 0) hx hb d_M_tick_1 (by decide) ?_
  obtain ⟨S1, eS1⟩ : ∃ z : St, z = si S 1 0 0 1 (0 : Int32) := ⟨_, rfl⟩
  have hk := lt_p eS1 hk
  have hr := lt_e eS1 hr
  refine z_put (pc := 2) (S' := S1) hF hK.1 hW tm1 rfl rfl in_M t_M tyo_M nmo_M 1 (by decide) gw_885 rfl rfl rfl rfl rfl (Nat.le_of_ble_eq_true rfl) (zs_si eS1 rfl) (zs_sio eS1) d_M_tick_2 (fun H locs (hW : Wd D clM A s.heap (zw X ad TM (cfM ad ca) S1) H locs) => ?_)
  refine lv_aload_n (pc := 5) hx hb d_M_tick_5 rfl (lv_at hl 0 rfl) ?_
  refine lv_dup (pc := 6) hx hb d_M_tick_6 rfl ?_
  refine z_get (pc := 7) (v := .int (S1.1 1 0 0 2)) hF hK.1 hW tm1 rfl rfl in_M 2 (by decide) gw_886 rfl rfl d_M_tick_7 ?_
  refine lv_iconst (pc := 10) (v := 1) hx hb d_M_tick_10 (by decide) ?_
  refine lv_iadd (pc := 11) hx hb d_M_tick_11 ?_
  obtain ⟨S2, eS2⟩ : ∃ z : St, z = si S1 1 0 0 2 ((S1.1 1 0 0 2) + (1 : Int32)) := ⟨_, rfl⟩
  have hk := lt_p eS2 hk
  have hr := lt_e eS2 hr
  refine z_put (pc := 12) (S' := S2) hF hK.1 hW tm1 rfl rfl in_M t_M tyo_M nmo_M 2 (by decide) gw_886 rfl rfl rfl rfl rfl (Nat.le_of_ble_eq_true rfl) (zs_si eS2 rfl) (zs_sio eS2) d_M_tick_12 (fun H locs (hW : Wd D clM A s.heap (zw X ad TM (cfM ad ca) S2) H locs) => ?_)
  refine lv_iconst (pc := 15) (v := 0) hx hb d_M_tick_15 (by decide) ?_
  refine lv_istore_n (pc := 16) (lv' := [(1, .int (0 : Int32)), (0, .ref (ad (1, 0, 0)))]) hx hb d_M_tick_16 rfl hl (by decide) rfl (fun ls hl => ?_)
  exact w_M_tick_17  hy hA 200 S2 (0 : Int32) hk hr _ _ _ hW (lv_sub hl [1, 0] rfl)
theorem d_M_crash_0 : decode b_M_crash 0 = .ok (.aload_n 0, 1) := by decide +kernel
theorem d_M_crash_1 : decode b_M_crash 1 = .ok (.iload_n 1, 1) := by decide +kernel
theorem d_M_crash_2 : decode b_M_crash 2 = .ok (.invokestatic 231, 3) := by decide +kernel
theorem d_M_crash_5 : decode b_M_crash 5 = .ok (.ifCond .ne 7, 3) := by decide +kernel
theorem d_M_crash_8 : decode b_M_crash 8 = .ok (.iconst 1, 1) := by decide +kernel
theorem d_M_crash_9 : decode b_M_crash 9 = .ok (.goto 17, 3) := by decide +kernel
theorem d_M_crash_12 : decode b_M_crash 12 = .ok (.aload_n 0, 1) := by decide +kernel
theorem d_M_crash_13 : decode b_M_crash 13 = .ok (.getfield 43, 3) := by decide +kernel
theorem d_M_crash_16 : decode b_M_crash 16 = .ok (.iload_n 1, 1) := by decide +kernel
theorem d_M_crash_17 : decode b_M_crash 17 = .ok (.baload, 1) := by decide +kernel
theorem d_M_crash_18 : decode b_M_crash 18 = .ok (.ifCond .ne 7, 3) := by decide +kernel
theorem d_M_crash_21 : decode b_M_crash 21 = .ok (.iconst 2, 1) := by decide +kernel
theorem d_M_crash_22 : decode b_M_crash 22 = .ok (.goto 4, 3) := by decide +kernel
theorem d_M_crash_25 : decode b_M_crash 25 = .ok (.iconst 0, 1) := by decide +kernel
theorem d_M_crash_26 : decode b_M_crash 26 = .ok (.putfield 141, 3) := by decide +kernel
theorem d_M_crash_29 : decode b_M_crash 29 = .ok (.aload_n 0, 1) := by decide +kernel
theorem d_M_crash_30 : decode b_M_crash 30 = .ok (.getfield 141, 3) := by decide +kernel
theorem d_M_crash_33 : decode b_M_crash 33 = .ok (.ifCond .le 5, 3) := by decide +kernel
theorem d_M_crash_36 : decode b_M_crash 36 = .ok (.iconst 0, 1) := by decide +kernel
theorem d_M_crash_37 : decode b_M_crash 37 = .ok (.ireturn, 1) := by decide +kernel
theorem d_M_crash_38 : decode b_M_crash 38 = .ok (.aload_n 0, 1) := by decide +kernel
theorem d_M_crash_39 : decode b_M_crash 39 = .ok (.getfield 43, 3) := by decide +kernel
theorem d_M_crash_42 : decode b_M_crash 42 = .ok (.iload_n 1, 1) := by decide +kernel
theorem d_M_crash_43 : decode b_M_crash 43 = .ok (.iconst 0, 1) := by decide +kernel
theorem d_M_crash_44 : decode b_M_crash 44 = .ok (.bastore, 1) := by decide +kernel
theorem d_M_crash_45 : decode b_M_crash 45 = .ok (.aload_n 0, 1) := by decide +kernel
theorem d_M_crash_46 : decode b_M_crash 46 = .ok (.getfield 94, 3) := by decide +kernel
theorem d_M_crash_49 : decode b_M_crash 49 = .ok (.iload_n 1, 1) := by decide +kernel
theorem d_M_crash_50 : decode b_M_crash 50 = .ok (.iconst 0, 1) := by decide +kernel
theorem d_M_crash_51 : decode b_M_crash 51 = .ok (.iastore, 1) := by decide +kernel
theorem d_M_crash_52 : decode b_M_crash 52 = .ok (.aload_n 0, 1) := by decide +kernel
theorem d_M_crash_53 : decode b_M_crash 53 = .ok (.getfield 76, 3) := by decide +kernel
theorem d_M_crash_56 : decode b_M_crash 56 = .ok (.iload_n 1, 1) := by decide +kernel
theorem d_M_crash_57 : decode b_M_crash 57 = .ok (.iconst 0, 1) := by decide +kernel
theorem d_M_crash_58 : decode b_M_crash 58 = .ok (.iastore, 1) := by decide +kernel
theorem d_M_crash_59 : decode b_M_crash 59 = .ok (.iconst 0, 1) := by decide +kernel
theorem d_M_crash_60 : decode b_M_crash 60 = .ok (.istore_n 2, 1) := by decide +kernel
theorem d_M_crash_61 : decode b_M_crash 61 = .ok (.iload_n 2, 1) := by decide +kernel
theorem d_M_crash_62 : decode b_M_crash 62 = .ok (.bipush 100, 2) := by decide +kernel
theorem d_M_crash_64 : decode b_M_crash 64 = .ok (.if_icmp .ge 21, 3) := by decide +kernel
theorem d_M_crash_67 : decode b_M_crash 67 = .ok (.aload_n 0, 1) := by decide +kernel
theorem d_M_crash_68 : decode b_M_crash 68 = .ok (.getfield 70, 3) := by decide +kernel
theorem d_M_crash_71 : decode b_M_crash 71 = .ok (.bipush 100, 2) := by decide +kernel
theorem d_M_crash_73 : decode b_M_crash 73 = .ok (.iload_n 1, 1) := by decide +kernel
theorem d_M_crash_74 : decode b_M_crash 74 = .ok (.imul, 1) := by decide +kernel
theorem d_M_crash_75 : decode b_M_crash 75 = .ok (.iload_n 2, 1) := by decide +kernel
theorem d_M_crash_76 : decode b_M_crash 76 = .ok (.iadd, 1) := by decide +kernel
theorem d_M_crash_77 : decode b_M_crash 77 = .ok (.iconst 0, 1) := by decide +kernel
theorem d_M_crash_78 : decode b_M_crash 78 = .ok (.iastore, 1) := by decide +kernel
theorem d_M_crash_79 : decode b_M_crash 79 = .ok (.iinc 2 1, 3) := by decide +kernel
theorem d_M_crash_82 : decode b_M_crash 82 = .ok (.goto (-21), 3) := by decide +kernel
theorem d_M_crash_85 : decode b_M_crash 85 = .ok (.iconst 0, 1) := by decide +kernel
theorem d_M_crash_86 : decode b_M_crash 86 = .ok (.istore_n 2, 1) := by decide +kernel
theorem d_M_crash_87 : decode b_M_crash 87 = .ok (.iload_n 2, 1) := by decide +kernel
theorem d_M_crash_88 : decode b_M_crash 88 = .ok (.sipush 200, 3) := by decide +kernel
theorem d_M_crash_91 : decode b_M_crash 91 = .ok (.if_icmp .ge 22, 3) := by decide +kernel
theorem d_M_crash_94 : decode b_M_crash 94 = .ok (.aload_n 0, 1) := by decide +kernel
theorem d_M_crash_95 : decode b_M_crash 95 = .ok (.getfield 73, 3) := by decide +kernel
theorem d_M_crash_98 : decode b_M_crash 98 = .ok (.sipush 200, 3) := by decide +kernel
theorem d_M_crash_101 : decode b_M_crash 101 = .ok (.iload_n 1, 1) := by decide +kernel
theorem d_M_crash_102 : decode b_M_crash 102 = .ok (.imul, 1) := by decide +kernel
theorem d_M_crash_103 : decode b_M_crash 103 = .ok (.iload_n 2, 1) := by decide +kernel
theorem d_M_crash_104 : decode b_M_crash 104 = .ok (.iadd, 1) := by decide +kernel
theorem d_M_crash_105 : decode b_M_crash 105 = .ok (.iconst 0, 1) := by decide +kernel
theorem d_M_crash_106 : decode b_M_crash 106 = .ok (.iastore, 1) := by decide +kernel
theorem d_M_crash_107 : decode b_M_crash 107 = .ok (.iinc 2 1, 3) := by decide +kernel
theorem d_M_crash_110 : decode b_M_crash 110 = .ok (.goto (-23), 3) := by decide +kernel
theorem d_M_crash_113 : decode b_M_crash 113 = .ok (.iconst 1, 1) := by decide +kernel
theorem d_M_crash_114 : decode b_M_crash 114 = .ok (.ireturn, 1) := by decide +kernel
def f_M_crash_87 (a1 : Int32) : Nat → St → Int32 → Int32 × St
  | 0, S, _ => (0, S)
  | n + 1, S, l2 =>
    if (200 : Int32) ≤ l2 then
      ((1 : Int32), S)
    else
      lt (si S 21 0 0 ((((200 : Int32) * a1) + l2).toNatClampNeg) (0 : Int32)) fun (S18 : St) =>
      f_M_crash_87 a1 n S18 (l2 + (1 : Int32))
def ok_M_crash_87 (a1 : Int32) : Nat → St → Int32 → Prop
  | 0, _, _ => False
  | n + 1, S, l2 =>
    ((200 : Int32) ≤ l2 → (
      True)) ∧ (¬ ((200 : Int32) ≤ l2) → (
      (vp_in (((200 : Int32) * a1) + l2) 800) ∧ (
        lt (si S 21 0 0 ((((200 : Int32) * a1) + l2).toNatClampNeg) (0 : Int32)) fun (S18 : St) =>
        ok_M_crash_87 a1 n S18 (l2 + (1 : Int32)))))
set_option maxHeartbeats 4000000 in
set_option maxRecDepth 100000 in
theorem w_M_crash_87 {l : Launch} {D : va_G} {X : va_W} {ad : N3 → Nat} {ca : Nat → ClassId} (a1 : Int32)  {p : Program} {e : Env} {s : State} {m : MethodId} {below : List Frame} {meth : Method} {c : Code} {A : Nat → Prop} (hy : Hy p s m ([.ref (ad (1, 0, 0)), .int a1] : List Value).toArray meth c b_M_crash 3 (some .boolean) R_M GG D clM (tysM ca) nwM) (hA : ∀ q, s.heap.size ≤ q → A q) {res : Int32 × St} : ∀ (n : Nat) (S : St) (l2 : Int32) , ok_M_crash_87 a1 n S l2 → f_M_crash_87 a1 n S l2 = res → ∀ (H : Heap) (locs : List Loc) (ls : Array Slot), Wd D clM A s.heap (zw X ad TM (cfM ad ca) S) H locs → lv_has ls 3 [(0, .ref (ad (1, 0, 0))), (1, .int a1), (2, .int l2)] → W p l e { frames := 1, cells := 0, slots := 0, locals := 20 } s m ([.ref (ad (1, 0, 0)), .int a1] : List Value).toArray below meth c H locs 0 0 (MQ below (eI D clM X ad TM (cfM ad ca) A res) ([.ref (ad (1, 0, 0)), .int a1] : List Value).toArray s 0 0 A) (F0 m 87 ls []) := by
  have hF := hy.1
  have hx := hF.1
  have hb := hF.2.1
  have hK := hy.2.2.2
  intro n
  induction n with
  | zero =>
    intro S l2 hk
    exact hk.elim
  | succ n ih =>
    intro S l2 hk hr H locs ls hW hl
    refine lv_iload_n (pc := 87) hx hb d_M_crash_87 rfl (lv_at hl 2 rfl) ?_
    refine lv_sipush (pc := 88) (v := 200) hx hb d_M_crash_88 (by decide) ?_
    refine lv_icmp_ge (pc := 91) (tgt := 113) hx hb d_M_crash_91 (by decide) (fun c16 => ?_) (fun c16 => ?_)
    · have hk := hk.1 c16
      have hr := (if_pos c16).symm.trans hr
      refine lv_iconst (pc := 113) (v := 1) hx hb d_M_crash_113 (by decide) ?_
      exact z_zret (v := (1 : Int32)) hy hW rfl hr.symm d_M_crash_114
    · have hk := hk.2 c16
      have hr := (if_neg c16).symm.trans hr
      refine lv_aload_n (pc := 94) hx hb d_M_crash_94 rfl (lv_at hl 0 rfl) ?_
      refine z_get (pc := 95) (v := .ref (ad (21, 0, 0))) hF hK.1 hW tm1 rfl rfl in_M 26 (by decide) gw_910 rfl rfl d_M_crash_95 ?_
      refine lv_sipush (pc := 98) (v := 200) hx hb d_M_crash_98 (by decide) ?_
      refine lv_iload_n (pc := 101) hx hb d_M_crash_101 rfl (lv_at hl 1 rfl) ?_
      refine lv_imul (pc := 102) hx hb d_M_crash_102 ?_
      refine lv_iload_n (pc := 103) hx hb d_M_crash_103 rfl (lv_at hl 2 rfl) ?_
      refine lv_iadd (pc := 104) hx hb d_M_crash_104 ?_
      refine lv_iconst (pc := 105) (v := 0) hx hb d_M_crash_105 (by decide) ?_
      have b17 := hk.1
      have hk := hk.2
      obtain ⟨S18, eS18⟩ : ∃ z : St, z = si S 21 0 0 ((((200 : Int32) * a1) + l2).toNatClampNeg) (0 : Int32) := ⟨_, rfl⟩
      have hk := lt_p eS18 hk
      have hr := lt_e eS18 hr
      refine z_iast (pc := 106) (S' := S18) hF hK.1 hW tm21 0 rfl rfl b17 (zs_si eS18 rfl) (zs_sio eS18) d_M_crash_106 (fun H locs (hW : Wd D clM A s.heap (zw X ad TM (cfM ad ca) S18) H locs) => ?_)
      refine lv_iinc (pc := 107) (v := l2 + (1 : Int32)) (lv' := [(2, .int (l2 + (1 : Int32))), (0, .ref (ad (1, 0, 0))), (1, .int a1)]) (k := 2) hx hb d_M_crash_107 hl rfl (z_inc (by decide)) (by decide) rfl (fun ls hl => ?_)
      refine lv_goto (pc := 110) (tgt := 87) hx hb d_M_crash_110 (by decide) ?_
      exact ih S18 (l2 + (1 : Int32)) hk hr _ _ _ hW (lv_sub hl [1, 2, 0] rfl)
def f_M_crash_61 (a1 : Int32) : Nat → St → Int32 → Int32 × St
  | 0, S, _ => (0, S)
  | n + 1, S, l2 =>
    if (100 : Int32) ≤ l2 then
      f_M_crash_87 a1 300 S (0 : Int32)
    else
      lt (si S 20 0 0 ((((100 : Int32) * a1) + l2).toNatClampNeg) (0 : Int32)) fun (S15 : St) =>
      f_M_crash_61 a1 n S15 (l2 + (1 : Int32))
def ok_M_crash_61 (a1 : Int32) : Nat → St → Int32 → Prop
  | 0, _, _ => False
  | n + 1, S, l2 =>
    ((100 : Int32) ≤ l2 → (
      ok_M_crash_87 a1 300 S (0 : Int32))) ∧ (¬ ((100 : Int32) ≤ l2) → (
      (vp_in (((100 : Int32) * a1) + l2) 400) ∧ (
        lt (si S 20 0 0 ((((100 : Int32) * a1) + l2).toNatClampNeg) (0 : Int32)) fun (S15 : St) =>
        ok_M_crash_61 a1 n S15 (l2 + (1 : Int32)))))
set_option maxHeartbeats 4000000 in
set_option maxRecDepth 100000 in
theorem w_M_crash_61 {l : Launch} {D : va_G} {X : va_W} {ad : N3 → Nat} {ca : Nat → ClassId} (a1 : Int32)  {p : Program} {e : Env} {s : State} {m : MethodId} {below : List Frame} {meth : Method} {c : Code} {A : Nat → Prop} (hy : Hy p s m ([.ref (ad (1, 0, 0)), .int a1] : List Value).toArray meth c b_M_crash 3 (some .boolean) R_M GG D clM (tysM ca) nwM) (hA : ∀ q, s.heap.size ≤ q → A q) {res : Int32 × St} : ∀ (n : Nat) (S : St) (l2 : Int32) , ok_M_crash_61 a1 n S l2 → f_M_crash_61 a1 n S l2 = res → ∀ (H : Heap) (locs : List Loc) (ls : Array Slot), Wd D clM A s.heap (zw X ad TM (cfM ad ca) S) H locs → lv_has ls 3 [(0, .ref (ad (1, 0, 0))), (1, .int a1), (2, .int l2)] → W p l e { frames := 1, cells := 0, slots := 0, locals := 20 } s m ([.ref (ad (1, 0, 0)), .int a1] : List Value).toArray below meth c H locs 0 0 (MQ below (eI D clM X ad TM (cfM ad ca) A res) ([.ref (ad (1, 0, 0)), .int a1] : List Value).toArray s 0 0 A) (F0 m 61 ls []) := by
  have hF := hy.1
  have hx := hF.1
  have hb := hF.2.1
  have hK := hy.2.2.2
  intro n
  induction n with
  | zero =>
    intro S l2 hk
    exact hk.elim
  | succ n ih =>
    intro S l2 hk hr H locs ls hW hl
    refine lv_iload_n (pc := 61) hx hb d_M_crash_61 rfl (lv_at hl 2 rfl) ?_
    refine lv_bipush (pc := 62) (v := 100) hx hb d_M_crash_62 (by decide) ?_
    refine lv_icmp_ge (pc := 64) (tgt := 85) hx hb d_M_crash_64 (by decide) (fun c13 => ?_) (fun c13 => ?_)
    · have hk := hk.1 c13
      have hr := (if_pos c13).symm.trans hr
      refine lv_iconst (pc := 85) (v := 0) hx hb d_M_crash_85 (by decide) ?_
      refine lv_istore_n (pc := 86) (lv' := [(2, .int (0 : Int32)), (0, .ref (ad (1, 0, 0))), (1, .int a1)]) hx hb d_M_crash_86 rfl hl (by decide) rfl (fun ls hl => ?_)
      exact w_M_crash_87 a1 hy hA 300 S (0 : Int32) hk hr _ _ _ hW (lv_sub hl [1, 2, 0] rfl)
    · have hk := hk.2 c13
      have hr := (if_neg c13).symm.trans hr
      refine lv_aload_n (pc := 67) hx hb d_M_crash_67 rfl (lv_at hl 0 rfl) ?_
      refine z_get (pc := 68) (v := .ref (ad (20, 0, 0))) hF hK.1 hW tm1 rfl rfl in_M 25 (by decide) gw_909 rfl rfl d_M_crash_68 ?_
      refine lv_bipush (pc := 71) (v := 100) hx hb d_M_crash_71 (by decide) ?_
      refine lv_iload_n (pc := 73) hx hb d_M_crash_73 rfl (lv_at hl 1 rfl) ?_
      refine lv_imul (pc := 74) hx hb d_M_crash_74 ?_
      refine lv_iload_n (pc := 75) hx hb d_M_crash_75 rfl (lv_at hl 2 rfl) ?_
      refine lv_iadd (pc := 76) hx hb d_M_crash_76 ?_
      refine lv_iconst (pc := 77) (v := 0) hx hb d_M_crash_77 (by decide) ?_
      have b14 := hk.1
      have hk := hk.2
      obtain ⟨S15, eS15⟩ : ∃ z : St, z = si S 20 0 0 ((((100 : Int32) * a1) + l2).toNatClampNeg) (0 : Int32) := ⟨_, rfl⟩
      have hk := lt_p eS15 hk
      have hr := lt_e eS15 hr
      refine z_iast (pc := 78) (S' := S15) hF hK.1 hW tm20 0 rfl rfl b14 (zs_si eS15 rfl) (zs_sio eS15) d_M_crash_78 (fun H locs (hW : Wd D clM A s.heap (zw X ad TM (cfM ad ca) S15) H locs) => ?_)
      refine lv_iinc (pc := 79) (v := l2 + (1 : Int32)) (lv' := [(2, .int (l2 + (1 : Int32))), (0, .ref (ad (1, 0, 0))), (1, .int a1)]) (k := 2) hx hb d_M_crash_79 hl rfl (z_inc (by decide)) (by decide) rfl (fun ls hl => ?_)
      refine lv_goto (pc := 82) (tgt := 61) hx hb d_M_crash_82 (by decide) ?_
      exact ih S15 (l2 + (1 : Int32)) hk hr _ _ _ hW (lv_sub hl [1, 2, 0] rfl)
def f_M_crash_26 (a1 : Int32) (S : St) (t0 : Int32) : Int32 × St :=
  lt (si S 1 0 0 1 t0) fun (S5 : St) =>
  if (S5.1 1 0 0 1) ≤ 0 then
    lt (si S5 11 0 0 (a1.toNatClampNeg) (0 : Int32)) fun (S8 : St) =>
    lt (si S8 28 0 0 (a1.toNatClampNeg) (0 : Int32)) fun (S10 : St) =>
    lt (si S10 22 0 0 (a1.toNatClampNeg) (0 : Int32)) fun (S12 : St) =>
    f_M_crash_61 a1 300 S12 (0 : Int32)
  else
    ((0 : Int32), S5)
def ok_M_crash_26 (a1 : Int32) (S : St) (t0 : Int32) : Prop :=
  lt (si S 1 0 0 1 t0) fun (S5 : St) =>
  ((S5.1 1 0 0 1) ≤ 0 → (
    (vp_in a1 4) ∧ (
      lt (si S5 11 0 0 (a1.toNatClampNeg) (0 : Int32)) fun (S8 : St) =>
      (vp_in a1 4) ∧ (
        lt (si S8 28 0 0 (a1.toNatClampNeg) (0 : Int32)) fun (S10 : St) =>
        (vp_in a1 4) ∧ (
          lt (si S10 22 0 0 (a1.toNatClampNeg) (0 : Int32)) fun (S12 : St) =>
          ok_M_crash_61 a1 300 S12 (0 : Int32)))))) ∧ (¬ ((S5.1 1 0 0 1) ≤ 0) → (
    True))
set_option maxHeartbeats 4000000 in
set_option maxRecDepth 100000 in
theorem w_M_crash_26 {l : Launch} {D : va_G} {X : va_W} {ad : N3 → Nat} {ca : Nat → ClassId} (a1 : Int32)  {p : Program} {e : Env} {s : State} {m : MethodId} {below : List Frame} {meth : Method} {c : Code} {A : Nat → Prop} (hy : Hy p s m ([.ref (ad (1, 0, 0)), .int a1] : List Value).toArray meth c b_M_crash 3 (some .boolean) R_M GG D clM (tysM ca) nwM) (hA : ∀ q, s.heap.size ≤ q → A q) {res : Int32 × St} : ∀  (S : St) (t0 : Int32) , ok_M_crash_26 a1 S t0 → f_M_crash_26 a1 S t0 = res → ∀ (H : Heap) (locs : List Loc) (ls : Array Slot), Wd D clM A s.heap (zw X ad TM (cfM ad ca) S) H locs → lv_has ls 3 [(0, .ref (ad (1, 0, 0))), (1, .int a1)] → W p l e { frames := 1, cells := 0, slots := 0, locals := 20 } s m ([.ref (ad (1, 0, 0)), .int a1] : List Value).toArray below meth c H locs 0 0 (MQ below (eI D clM X ad TM (cfM ad ca) A res) ([.ref (ad (1, 0, 0)), .int a1] : List Value).toArray s 0 0 A) (F0 m 26 ls [.int t0, .ref (ad (1, 0, 0))]) := by
  have hF := hy.1
  have hx := hF.1
  have hb := hF.2.1
  have hK := hy.2.2.2
  intro S t0 hk hr H locs ls hW hl
  obtain ⟨S5, eS5⟩ : ∃ z : St, z = si S 1 0 0 1 t0 := ⟨_, rfl⟩
  have hk := lt_p eS5 hk
  have hr := lt_e eS5 hr
  refine z_put (pc := 26) (S' := S5) hF hK.1 hW tm1 rfl rfl in_M t_M tyo_M nmo_M 1 (by decide) gw_885 rfl rfl rfl rfl rfl (Nat.le_of_ble_eq_true rfl) (zs_si eS5 rfl) (zs_sio eS5) d_M_crash_26 (fun H locs (hW : Wd D clM A s.heap (zw X ad TM (cfM ad ca) S5) H locs) => ?_)
  refine lv_aload_n (pc := 29) hx hb d_M_crash_29 rfl (lv_at hl 0 rfl) ?_
  refine z_get (pc := 30) (v := .int (S5.1 1 0 0 1)) hF hK.1 hW tm1 rfl rfl in_M 1 (by decide) gw_885 rfl rfl d_M_crash_30 ?_
  refine lv_if_le (pc := 33) (tgt := 38) hx hb d_M_crash_33 (by decide) (fun c6 => ?_) (fun c6 => ?_)
  · have hk := hk.1 c6
    have hr := (if_pos c6).symm.trans hr
    refine lv_aload_n (pc := 38) hx hb d_M_crash_38 rfl (lv_at hl 0 rfl) ?_
    refine z_get (pc := 39) (v := .ref (ad (11, 0, 0))) hF hK.1 hW tm1 rfl rfl in_M 16 (by decide) gw_900 rfl rfl d_M_crash_39 ?_
    refine lv_iload_n (pc := 42) hx hb d_M_crash_42 rfl (lv_at hl 1 rfl) ?_
    refine lv_iconst (pc := 43) (v := 0) hx hb d_M_crash_43 (by decide) ?_
    have b7 := hk.1
    have hk := hk.2
    obtain ⟨S8, eS8⟩ : ∃ z : St, z = si S5 11 0 0 (a1.toNatClampNeg) (0 : Int32) := ⟨_, rfl⟩
    have hk := lt_p eS8 hk
    have hr := lt_e eS8 hr
    refine z_zast (pc := 44) (S' := S8) hF hK.1 hW tm11 2 rfl rfl b7 (zs_si eS8 rfl) (zs_sio eS8) d_M_crash_44 (fun H locs (hW : Wd D clM A s.heap (zw X ad TM (cfM ad ca) S8) H locs) => ?_)
    refine lv_aload_n (pc := 45) hx hb d_M_crash_45 rfl (lv_at hl 0 rfl) ?_
    refine z_get (pc := 46) (v := .ref (ad (28, 0, 0))) hF hK.1 hW tm1 rfl rfl in_M 33 (by decide) gw_917 rfl rfl d_M_crash_46 ?_
    refine lv_iload_n (pc := 49) hx hb d_M_crash_49 rfl (lv_at hl 1 rfl) ?_
    refine lv_iconst (pc := 50) (v := 0) hx hb d_M_crash_50 (by decide) ?_
    have b9 := hk.1
    have hk := hk.2
    obtain ⟨S10, eS10⟩ : ∃ z : St, z = si S8 28 0 0 (a1.toNatClampNeg) (0 : Int32) := ⟨_, rfl⟩
    have hk := lt_p eS10 hk
    have hr := lt_e eS10 hr
    refine z_iast (pc := 51) (S' := S10) hF hK.1 hW tm28 0 rfl rfl b9 (zs_si eS10 rfl) (zs_sio eS10) d_M_crash_51 (fun H locs (hW : Wd D clM A s.heap (zw X ad TM (cfM ad ca) S10) H locs) => ?_)
    refine lv_aload_n (pc := 52) hx hb d_M_crash_52 rfl (lv_at hl 0 rfl) ?_
    refine z_get (pc := 53) (v := .ref (ad (22, 0, 0))) hF hK.1 hW tm1 rfl rfl in_M 27 (by decide) gw_911 rfl rfl d_M_crash_53 ?_
    refine lv_iload_n (pc := 56) hx hb d_M_crash_56 rfl (lv_at hl 1 rfl) ?_
    refine lv_iconst (pc := 57) (v := 0) hx hb d_M_crash_57 (by decide) ?_
    have b11 := hk.1
    have hk := hk.2
    obtain ⟨S12, eS12⟩ : ∃ z : St, z = si S10 22 0 0 (a1.toNatClampNeg) (0 : Int32) := ⟨_, rfl⟩
    have hk := lt_p eS12 hk
    have hr := lt_e eS12 hr
    refine z_iast (pc := 58) (S' := S12) hF hK.1 hW tm22 0 rfl rfl b11 (zs_si eS12 rfl) (zs_sio eS12) d_M_crash_58 (fun H locs (hW : Wd D clM A s.heap (zw X ad TM (cfM ad ca) S12) H locs) => ?_)
    refine lv_iconst (pc := 59) (v := 0) hx hb d_M_crash_59 (by decide) ?_
    refine lv_istore_n (pc := 60) (lv' := [(2, .int (0 : Int32)), (0, .ref (ad (1, 0, 0))), (1, .int a1)]) hx hb d_M_crash_60 rfl hl (by decide) rfl (fun ls hl => ?_)
    exact w_M_crash_61 a1 hy hA 300 S12 (0 : Int32) hk hr _ _ _ hW (lv_sub hl [1, 2, 0] rfl)
  · have hk := hk.2 c6
    have hr := (if_neg c6).symm.trans hr
    refine lv_iconst (pc := 36) (v := 0) hx hb d_M_crash_36 (by decide) ?_
    exact z_zret (v := (0 : Int32)) hy hW rfl hr.symm d_M_crash_37
def f_M_crash (a1 : Int32) (S : St) : Int32 × St :=
  lt (f_M_isNode a1 S) fun (r1 : Int32) =>
  if r1 = 0 then
    f_M_crash_26 a1 S (1 : Int32)
  else
    if (S.1 11 0 0 a1.toNatClampNeg) = 0 then
      f_M_crash_26 a1 S (2 : Int32)
    else
      f_M_crash_26 a1 S (0 : Int32)
def ok_M_crash (a1 : Int32) (S : St) : Prop :=
  lt (f_M_isNode a1 S) fun (r1 : Int32) =>
  (r1 = 0 → (
    ok_M_crash_26 a1 S (1 : Int32))) ∧ (¬ (r1 = 0) → (
    (vp_in a1 4) ∧ (
      ((S.1 11 0 0 a1.toNatClampNeg) = 0 → (
        ok_M_crash_26 a1 S (2 : Int32))) ∧ (¬ ((S.1 11 0 0 a1.toNatClampNeg) = 0) → (
        ok_M_crash_26 a1 S (0 : Int32))))))
set_option maxHeartbeats 4000000 in
set_option maxRecDepth 100000 in
theorem c_M_crash (l : Launch) (D : va_G) (X : va_W) (ad : N3 → Nat) (ca : Nat → ClassId) (a1 : Int32)  (S : St) (hk : ok_M_crash a1 S) : cI l GG D clM (tysM ca) nwM X ad TM (cfM ad ca) y_M_crash b_M_crash 3 .boolean 1 20 [.ref (ad (1, 0, 0)), .int a1] S (f_M_crash a1 S) := by
  generalize hr : f_M_crash a1 S = res
  refine zI_of pn_M (Nat.le_of_ble_eq_true rfl) (fun p e s m below meth c A ls hy hW hA hl => ?_)
  have hF := hy.1
  have hx := hF.1
  have hb := hF.2.1
  have hK := hy.2.2.2
  have hl : lv_has ls 3 [(0, .ref (ad (1, 0, 0))), (1, .int a1)] := hl
  refine lv_aload_n (pc := 0) hx hb d_M_crash_0 rfl (lv_at hl 0 rfl) ?_
  refine lv_iload_n (pc := 1) hx hb d_M_crash_1 rfl (lv_at hl 1 rfl) ?_
  obtain ⟨r1, er1⟩ : ∃ z : Int32, z = f_M_isNode a1 S := ⟨_, rfl⟩
  have hk := lt_p er1 hk
  have hr := lt_e er1 hr
  refine p_go (pc := 2) (congrArg Value.int er1) (p_runS hF hK hW (c_M_isNode l D X ad ca a1 S _) cd_M_isNode gw_1022 ⟨Nat.le_of_ble_eq_true rfl, Nat.le_of_ble_eq_true rfl⟩ ⟨Nat.zero_le _, Nat.zero_le _⟩ rfl rfl hl.1 (Nat.le_of_ble_eq_true rfl) d_M_crash_2) ?_
  refine lv_if_ne (pc := 5) (tgt := 12) hx hb d_M_crash_5 (by decide) (fun c2 => ?_) (fun c2 => ?_)
  · have hk := hk.2 c2
    have hr := (if_neg c2).symm.trans hr
    refine lv_aload_n (pc := 12) hx hb d_M_crash_12 rfl (lv_at hl 0 rfl) ?_
    refine z_get (pc := 13) (v := .ref (ad (11, 0, 0))) hF hK.1 hW tm1 rfl rfl in_M 16 (by decide) gw_900 rfl rfl d_M_crash_13 ?_
    refine lv_iload_n (pc := 16) hx hb d_M_crash_16 rfl (lv_at hl 1 rfl) ?_
    have b3 := hk.1
    have hk := hk.2
    refine z_zald (pc := 17) (v := S.1 11 0 0 a1.toNatClampNeg) hF hK.1 hW tm11 2 rfl rfl b3 rfl d_M_crash_17 ?_
    refine lv_if_ne (pc := 18) (tgt := 25) hx hb d_M_crash_18 (by decide) (fun c4 => ?_) (fun c4 => ?_)
    · have hk := hk.2 c4
      have hr := (if_neg c4).symm.trans hr
      refine lv_iconst (pc := 25) (v := 0) hx hb d_M_crash_25 (by decide) ?_
      exact w_M_crash_26 a1 hy hA S (0 : Int32) hk hr _ _ _ hW (lv_sub hl [0, 1] rfl)
    · have hk := hk.1 c4
      have hr := (if_pos c4).symm.trans hr
      refine lv_iconst (pc := 21) (v := 2) hx hb d_M_crash_21 (by decide) ?_
      refine lv_goto (pc := 22) (tgt := 26) hx hb d_M_crash_22 (by decide) ?_
      exact w_M_crash_26 a1 hy hA S (2 : Int32) hk hr _ _ _ hW (lv_sub hl [0, 1] rfl)
  · have hk := hk.1 c2
    have hr := (if_pos c2).symm.trans hr
    refine lv_iconst (pc := 8) (v := 1) hx hb d_M_crash_8 (by decide) ?_
    refine lv_goto (pc := 9) (tgt := 26) hx hb d_M_crash_9 (by decide) ?_
    exact w_M_crash_26 a1 hy hA S (1 : Int32) hk hr _ _ _ hW (lv_sub hl [0, 1] rfl)
