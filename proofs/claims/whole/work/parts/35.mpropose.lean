theorem d_M_propose_0 : decode b_M_propose 0 = .ok (.aload_n 0, 1) := by decide +kernel
theorem d_M_propose_1 : decode b_M_propose 1 = .ok (.getfield 26, 3) := by decide +kernel
theorem d_M_propose_4 : decode b_M_propose 4 = .ok (.bipush 100, 2) := by decide +kernel
theorem d_M_propose_6 : decode b_M_propose 6 = .ok (.if_icmp .ne 4, 3) := by decide +kernel
theorem d_M_propose_9 : decode b_M_propose 9 = .ok (.return_, 1) := by decide +kernel
theorem d_M_propose_10 : decode b_M_propose 10 = .ok (.iconst (-1), 1) := by decide +kernel
theorem d_M_propose_11 : decode b_M_propose 11 = .ok (.istore_n 2, 1) := by decide +kernel
theorem d_M_propose_12 : decode b_M_propose 12 = .ok (.aload_n 0, 1) := by decide +kernel
theorem d_M_propose_13 : decode b_M_propose 13 = .ok (.getfield 76, 3) := by decide +kernel
theorem d_M_propose_16 : decode b_M_propose 16 = .ok (.iload_n 1, 1) := by decide +kernel
theorem d_M_propose_17 : decode b_M_propose 17 = .ok (.iaload, 1) := by decide +kernel
theorem d_M_propose_18 : decode b_M_propose 18 = .ok (.iconst 1, 1) := by decide +kernel
theorem d_M_propose_19 : decode b_M_propose 19 = .ok (.isub, 1) := by decide +kernel
theorem d_M_propose_20 : decode b_M_propose 20 = .ok (.istore_n 3, 1) := by decide +kernel
theorem d_M_propose_21 : decode b_M_propose 21 = .ok (.iload_n 3, 1) := by decide +kernel
theorem d_M_propose_22 : decode b_M_propose 22 = .ok (.ifCond .lt 53, 3) := by decide +kernel
theorem d_M_propose_25 : decode b_M_propose 25 = .ok (.aload_n 0, 1) := by decide +kernel
theorem d_M_propose_26 : decode b_M_propose 26 = .ok (.aload_n 0, 1) := by decide +kernel
theorem d_M_propose_27 : decode b_M_propose 27 = .ok (.getfield 79, 3) := by decide +kernel
theorem d_M_propose_30 : decode b_M_propose 30 = .ok (.bipush 40, 2) := by decide +kernel
theorem d_M_propose_32 : decode b_M_propose 32 = .ok (.iload_n 1, 1) := by decide +kernel
theorem d_M_propose_33 : decode b_M_propose 33 = .ok (.imul, 1) := by decide +kernel
theorem d_M_propose_34 : decode b_M_propose 34 = .ok (.iload_n 3, 1) := by decide +kernel
theorem d_M_propose_35 : decode b_M_propose 35 = .ok (.iadd, 1) := by decide +kernel
theorem d_M_propose_36 : decode b_M_propose 36 = .ok (.iaload, 1) := by decide +kernel
theorem d_M_propose_37 : decode b_M_propose 37 = .ok (.aload_n 0, 1) := by decide +kernel
theorem d_M_propose_38 : decode b_M_propose 38 = .ok (.getfield 55, 3) := by decide +kernel
theorem d_M_propose_41 : decode b_M_propose 41 = .ok (.iload_n 1, 1) := by decide +kernel
theorem d_M_propose_42 : decode b_M_propose 42 = .ok (.iaload, 1) := by decide +kernel
theorem d_M_propose_43 : decode b_M_propose 43 = .ok (.invokevirtual 186, 3) := by decide +kernel
theorem d_M_propose_46 : decode b_M_propose 46 = .ok (.istore 4, 2) := by decide +kernel
theorem d_M_propose_48 : decode b_M_propose 48 = .ok (.iload 4, 2) := by decide +kernel
theorem d_M_propose_50 : decode b_M_propose 50 = .ok (.ifCond .eq 7, 3) := by decide +kernel
theorem d_M_propose_53 : decode b_M_propose 53 = .ok (.iload_n 2, 1) := by decide +kernel
theorem d_M_propose_54 : decode b_M_propose 54 = .ok (.goto 14, 3) := by decide +kernel
theorem d_M_propose_57 : decode b_M_propose 57 = .ok (.aload_n 0, 1) := by decide +kernel
theorem d_M_propose_58 : decode b_M_propose 58 = .ok (.getfield 79, 3) := by decide +kernel
theorem d_M_propose_61 : decode b_M_propose 61 = .ok (.bipush 40, 2) := by decide +kernel
theorem d_M_propose_63 : decode b_M_propose 63 = .ok (.iload_n 1, 1) := by decide +kernel
theorem d_M_propose_64 : decode b_M_propose 64 = .ok (.imul, 1) := by decide +kernel
theorem d_M_propose_65 : decode b_M_propose 65 = .ok (.iload_n 3, 1) := by decide +kernel
theorem d_M_propose_66 : decode b_M_propose 66 = .ok (.iadd, 1) := by decide +kernel
theorem d_M_propose_67 : decode b_M_propose 67 = .ok (.iaload, 1) := by decide +kernel
theorem d_M_propose_68 : decode b_M_propose 68 = .ok (.istore_n 2, 1) := by decide +kernel
theorem d_M_propose_69 : decode b_M_propose 69 = .ok (.iinc 3 (-1), 3) := by decide +kernel
theorem d_M_propose_72 : decode b_M_propose 72 = .ok (.goto (-51), 3) := by decide +kernel
theorem d_M_propose_75 : decode b_M_propose 75 = .ok (.aload_n 0, 1) := by decide +kernel
theorem d_M_propose_76 : decode b_M_propose 76 = .ok (.iload_n 1, 1) := by decide +kernel
theorem d_M_propose_77 : decode b_M_propose 77 = .ok (.aload_n 0, 1) := by decide +kernel
theorem d_M_propose_78 : decode b_M_propose 78 = .ok (.getfield 46, 3) := by decide +kernel
theorem d_M_propose_81 : decode b_M_propose 81 = .ok (.iload_n 1, 1) := by decide +kernel
theorem d_M_propose_82 : decode b_M_propose 82 = .ok (.iaload, 1) := by decide +kernel
theorem d_M_propose_83 : decode b_M_propose 83 = .ok (.aload_n 0, 1) := by decide +kernel
theorem d_M_propose_84 : decode b_M_propose 84 = .ok (.getfield 55, 3) := by decide +kernel
theorem d_M_propose_87 : decode b_M_propose 87 = .ok (.iload_n 1, 1) := by decide +kernel
theorem d_M_propose_88 : decode b_M_propose 88 = .ok (.iaload, 1) := by decide +kernel
theorem d_M_propose_89 : decode b_M_propose 89 = .ok (.iload_n 2, 1) := by decide +kernel
theorem d_M_propose_90 : decode b_M_propose 90 = .ok (.invokevirtual 190, 3) := by decide +kernel
theorem d_M_propose_93 : decode b_M_propose 93 = .ok (.istore_n 3, 1) := by decide +kernel
theorem d_M_propose_94 : decode b_M_propose 94 = .ok (.aload_n 0, 1) := by decide +kernel
theorem d_M_propose_95 : decode b_M_propose 95 = .ok (.iload_n 1, 1) := by decide +kernel
theorem d_M_propose_96 : decode b_M_propose 96 = .ok (.aload_n 0, 1) := by decide +kernel
theorem d_M_propose_97 : decode b_M_propose 97 = .ok (.iconst 1, 1) := by decide +kernel
theorem d_M_propose_98 : decode b_M_propose 98 = .ok (.iconst 0, 1) := by decide +kernel
theorem d_M_propose_99 : decode b_M_propose 99 = .ok (.iload_n 3, 1) := by decide +kernel
theorem d_M_propose_100 : decode b_M_propose 100 = .ok (.invokevirtual 194, 3) := by decide +kernel
theorem d_M_propose_103 : decode b_M_propose 103 = .ok (.invokevirtual 197, 3) := by decide +kernel
theorem d_M_propose_106 : decode b_M_propose 106 = .ok (.ifCond .eq 28, 3) := by decide +kernel
theorem d_M_propose_109 : decode b_M_propose 109 = .ok (.iconst 0, 1) := by decide +kernel
theorem d_M_propose_110 : decode b_M_propose 110 = .ok (.istore 4, 2) := by decide +kernel
theorem d_M_propose_112 : decode b_M_propose 112 = .ok (.iload 4, 2) := by decide +kernel
theorem d_M_propose_114 : decode b_M_propose 114 = .ok (.iconst 4, 1) := by decide +kernel
theorem d_M_propose_115 : decode b_M_propose 115 = .ok (.if_icmp .ge 19, 3) := by decide +kernel
theorem d_M_propose_118 : decode b_M_propose 118 = .ok (.aload_n 0, 1) := by decide +kernel
theorem d_M_propose_119 : decode b_M_propose 119 = .ok (.iload_n 1, 1) := by decide +kernel
theorem d_M_propose_120 : decode b_M_propose 120 = .ok (.iload 4, 2) := by decide +kernel
theorem d_M_propose_122 : decode b_M_propose 122 = .ok (.iconst 1, 1) := by decide +kernel
theorem d_M_propose_123 : decode b_M_propose 123 = .ok (.iload_n 3, 1) := by decide +kernel
theorem d_M_propose_124 : decode b_M_propose 124 = .ok (.iconst 0, 1) := by decide +kernel
theorem d_M_propose_125 : decode b_M_propose 125 = .ok (.invokevirtual 201, 3) := by decide +kernel
theorem d_M_propose_128 : decode b_M_propose 128 = .ok (.iinc 4 1, 3) := by decide +kernel
theorem d_M_propose_131 : decode b_M_propose 131 = .ok (.goto (-19), 3) := by decide +kernel
theorem d_M_propose_134 : decode b_M_propose 134 = .ok (.return_, 1) := by decide +kernel
def f_M_propose_112 (a1 : Int32) : Nat → St → Int32 → Int32 → St
  | 0, S, _, _ => S
  | n + 1, S, l3, l4 =>
    if (4 : Int32) ≤ l4 then
      S
    else
      lt (f_M_send a1 l4 (1 : Int32) l3 (0 : Int32) S) fun (S21 : St) =>
      f_M_propose_112 a1 n S21 l3 (l4 + (1 : Int32))
def ok_M_propose_112 (a1 : Int32) : Nat → St → Int32 → Int32 → Prop
  | 0, _, _, _ => False
  | n + 1, S, l3, l4 =>
    ((4 : Int32) ≤ l4 → (
      True)) ∧ (¬ ((4 : Int32) ≤ l4) → (
      (ok_M_send a1 l4 (1 : Int32) l3 (0 : Int32) S) ∧ (
        lt (f_M_send a1 l4 (1 : Int32) l3 (0 : Int32) S) fun (S21 : St) =>
        ok_M_propose_112 a1 n S21 l3 (l4 + (1 : Int32)))))
set_option maxHeartbeats 4000000 in
set_option maxRecDepth 100000 in
theorem w_M_propose_112 {l : Launch} {D : va_G} {X : va_W} {ad : N3 → Nat} {ca : Nat → ClassId} (a1 : Int32)  {p : Program} {e : Env} {s : State} {m : MethodId} {below : List Frame} {meth : Method} {c : Code} {A : Nat → Prop} (hy : Hy p s m ([.ref (ad (1, 0, 0)), .int a1] : List Value).toArray meth c b_M_propose 5 none R_M GG D clM (tysM ca) nwM) (hA : ∀ q, s.heap.size ≤ q → A q) {res : St} : ∀ (n : Nat) (S : St) (l3 : Int32) (l4 : Int32) , ok_M_propose_112 a1 n S l3 l4 → f_M_propose_112 a1 n S l3 l4 = res → ∀ (H : Heap) (locs : List Loc) (ls : Array Slot), Wd D clM A s.heap (zw X ad TM (cfM ad ca) S) H locs → lv_has ls 5 [(0, .ref (ad (1, 0, 0))), (1, .int a1), (3, .int l3), (4, .int l4)] → W p l e { frames := 4, cells := 0, slots := 0, locals := 98 } s m ([.ref (ad (1, 0, 0)), .int a1] : List Value).toArray below meth c H locs 0 0 (MQ below (eV D clM X ad TM (cfM ad ca) A res) ([.ref (ad (1, 0, 0)), .int a1] : List Value).toArray s 0 0 A) (F0 m 112 ls []) := by
  have hF := hy.1
  have hx := hF.1
  have hb := hF.2.1
  have hK := hy.2.2.2
  intro n
  induction n with
  | zero =>
    intro S l3 l4 hk
    exact hk.elim
  | succ n ih =>
    intro S l3 l4 hk hr H locs ls hW hl
    refine lv_iload (pc := 112) hx hb d_M_propose_112 (lv_at hl 3 rfl) ?_
    refine lv_iconst (pc := 114) (v := 4) hx hb d_M_propose_114 (by decide) ?_
    refine lv_icmp_ge (pc := 115) (tgt := 134) hx hb d_M_propose_115 (by decide) (fun c18 => ?_) (fun c18 => ?_)
    · have hk := hk.1 c18
      have hr := (if_pos c18).symm.trans hr
      exact z_vret hy hW hr.symm d_M_propose_134
    · have hk := hk.2 c18
      have hr := (if_neg c18).symm.trans hr
      refine lv_aload_n (pc := 118) hx hb d_M_propose_118 rfl (lv_at hl 0 rfl) ?_
      refine lv_iload_n (pc := 119) hx hb d_M_propose_119 rfl (lv_at hl 1 rfl) ?_
      refine lv_iload (pc := 120) hx hb d_M_propose_120 (lv_at hl 3 rfl) ?_
      refine lv_iconst (pc := 122) (v := 1) hx hb d_M_propose_122 (by decide) ?_
      refine lv_iload_n (pc := 123) hx hb d_M_propose_123 rfl (lv_at hl 2 rfl) ?_
      refine lv_iconst (pc := 124) (v := 0) hx hb d_M_propose_124 (by decide) ?_
      have o19 := hk.1
      have hk := hk.2
      obtain ⟨S21, eS21⟩ : ∃ z : St, z = f_M_send a1 l4 (1 : Int32) l3 (0 : Int32) S := ⟨_, rfl⟩
      have hk := lt_p eS21 hk
      have hr := lt_e eS21 hr
      refine z_goV (pc := 125) hW hA eS21 (z_runV hF hK hW (c_M_send l D X ad ca a1 l4 (1 : Int32) l3 (0 : Int32) S o19 _) cd_M_send gw_1033 tm1 rfl rfl ⟨Nat.le_of_ble_eq_true rfl, Nat.le_of_ble_eq_true rfl⟩ ⟨Nat.zero_le _, Nat.zero_le _⟩ rfl rfl hl.1 (Nat.le_of_ble_eq_true rfl) d_M_propose_125) (fun H locs (hW : Wd D clM A s.heap (zw X ad TM (cfM ad ca) S21) H locs) => ?_)
      refine lv_iinc (pc := 128) (v := l4 + (1 : Int32)) (lv' := [(4, .int (l4 + (1 : Int32))), (0, .ref (ad (1, 0, 0))), (1, .int a1), (3, .int l3)]) (k := 3) hx hb d_M_propose_128 hl rfl (z_inc (by decide)) (by decide) rfl (fun ls hl => ?_)
      refine lv_goto (pc := 131) (tgt := 112) hx hb d_M_propose_131 (by decide) ?_
      exact ih S21 l3 (l4 + (1 : Int32)) hk hr _ _ _ hW (lv_sub hl [1, 2, 3, 0] rfl)
def f_M_propose_21 (a1 : Int32) : Nat → St → Int32 → Int32 → St
  | 0, S, _, _ => S
  | n + 1, S, l2, l3 =>
    if l3 < 0 then
      lt (f_M_newBlock a1 (S.1 12 0 0 a1.toNatClampNeg) (S.1 15 0 0 a1.toNatClampNeg) l2 S) fun (r7 : Int32 × St) =>
      lt (f_M_meant (1 : Int32) (0 : Int32) r7.1 r7.2) fun (r8 : Int64 × St) =>
      lt (f_M_signs a1 r8.1 r8.2) fun (r10 : Int32 × St) =>
      if r10.1 = 0 then
        r10.2
      else
        f_M_propose_112 a1 200 r10.2 r7.1 (0 : Int32)
    else
      lt (f_M_inChain (S.1 23 0 0 (((40 : Int32) * a1) + l3).toNatClampNeg) (S.1 15 0 0 a1.toNatClampNeg) S) fun (r15 : Int32) =>
      if r15 = 0 then
        f_M_propose_21 a1 n S (S.1 23 0 0 (((40 : Int32) * a1) + l3).toNatClampNeg) (l3 + (-1 : Int32))
      else
        f_M_propose_21 a1 n S l2 (l3 + (-1 : Int32))
def ok_M_propose_21 (a1 : Int32) : Nat → St → Int32 → Int32 → Prop
  | 0, _, _, _ => False
  | n + 1, S, l2, l3 =>
    (l3 < 0 → (
      (vp_in a1 4) ∧ (
        (vp_in a1 4) ∧ (
          (ok_M_newBlock a1 (S.1 12 0 0 a1.toNatClampNeg) (S.1 15 0 0 a1.toNatClampNeg) l2 S) ∧ (
            lt (f_M_newBlock a1 (S.1 12 0 0 a1.toNatClampNeg) (S.1 15 0 0 a1.toNatClampNeg) l2 S) fun (r7 : Int32 × St) =>
            lt (f_M_meant (1 : Int32) (0 : Int32) r7.1 r7.2) fun (r8 : Int64 × St) =>
            (ok_M_signs a1 r8.1 r8.2) ∧ (
              lt (f_M_signs a1 r8.1 r8.2) fun (r10 : Int32 × St) =>
              (r10.1 = 0 → (
                True)) ∧ (¬ (r10.1 = 0) → (
                ok_M_propose_112 a1 200 r10.2 r7.1 (0 : Int32))))))))) ∧ (¬ (l3 < 0) → (
      (vp_in (((40 : Int32) * a1) + l3) 160) ∧ (
        (vp_in a1 4) ∧ (
          (ok_M_inChain (S.1 23 0 0 (((40 : Int32) * a1) + l3).toNatClampNeg) (S.1 15 0 0 a1.toNatClampNeg) S) ∧ (
            lt (f_M_inChain (S.1 23 0 0 (((40 : Int32) * a1) + l3).toNatClampNeg) (S.1 15 0 0 a1.toNatClampNeg) S) fun (r15 : Int32) =>
            (r15 = 0 → (
              (vp_in (((40 : Int32) * a1) + l3) 160) ∧ (
                ok_M_propose_21 a1 n S (S.1 23 0 0 (((40 : Int32) * a1) + l3).toNatClampNeg) (l3 + (-1 : Int32))))) ∧ (¬ (r15 = 0) → (
              ok_M_propose_21 a1 n S l2 (l3 + (-1 : Int32)))))))))
set_option maxHeartbeats 4000000 in
set_option maxRecDepth 100000 in
theorem w_M_propose_21 {l : Launch} {D : va_G} {X : va_W} {ad : N3 → Nat} {ca : Nat → ClassId} (a1 : Int32)  {p : Program} {e : Env} {s : State} {m : MethodId} {below : List Frame} {meth : Method} {c : Code} {A : Nat → Prop} (hy : Hy p s m ([.ref (ad (1, 0, 0)), .int a1] : List Value).toArray meth c b_M_propose 5 none R_M GG D clM (tysM ca) nwM) (hA : ∀ q, s.heap.size ≤ q → A q) {res : St} : ∀ (n : Nat) (S : St) (l2 : Int32) (l3 : Int32) , ok_M_propose_21 a1 n S l2 l3 → f_M_propose_21 a1 n S l2 l3 = res → ∀ (H : Heap) (locs : List Loc) (ls : Array Slot), Wd D clM A s.heap (zw X ad TM (cfM ad ca) S) H locs → lv_has ls 5 [(0, .ref (ad (1, 0, 0))), (1, .int a1), (2, .int l2), (3, .int l3)] → W p l e { frames := 4, cells := 0, slots := 0, locals := 98 } s m ([.ref (ad (1, 0, 0)), .int a1] : List Value).toArray below meth c H locs 0 0 (MQ below (eV D clM X ad TM (cfM ad ca) A res) ([.ref (ad (1, 0, 0)), .int a1] : List Value).toArray s 0 0 A) (F0 m 21 ls []) := by
  have hF := hy.1
  have hx := hF.1
  have hb := hF.2.1
  have hK := hy.2.2.2
  intro n
  induction n with
  | zero =>
    intro S l2 l3 hk
    exact hk.elim
  | succ n ih =>
    intro S l2 l3 hk hr H locs ls hW hl
    refine lv_iload_n (pc := 21) hx hb d_M_propose_21 rfl (lv_at hl 3 rfl) ?_
    refine lv_if_lt (pc := 22) (tgt := 75) hx hb d_M_propose_22 (by decide) (fun c3 => ?_) (fun c3 => ?_)
    · have hk := hk.1 c3
      have hr := (if_pos c3).symm.trans hr
      refine lv_aload_n (pc := 75) hx hb d_M_propose_75 rfl (lv_at hl 0 rfl) ?_
      refine lv_iload_n (pc := 76) hx hb d_M_propose_76 rfl (lv_at hl 1 rfl) ?_
      refine lv_aload_n (pc := 77) hx hb d_M_propose_77 rfl (lv_at hl 0 rfl) ?_
      refine z_get (pc := 78) (v := .ref (ad (12, 0, 0))) hF hK.1 hW tm1 rfl rfl in_M 17 (by decide) gw_901 rfl rfl d_M_propose_78 ?_
      refine lv_iload_n (pc := 81) hx hb d_M_propose_81 rfl (lv_at hl 1 rfl) ?_
      have b4 := hk.1
      have hk := hk.2
      refine z_iald (pc := 82) (v := S.1 12 0 0 a1.toNatClampNeg) hF hK.1 hW tm12 0 rfl rfl b4 rfl d_M_propose_82 ?_
      refine lv_aload_n (pc := 83) hx hb d_M_propose_83 rfl (lv_at hl 0 rfl) ?_
      refine z_get (pc := 84) (v := .ref (ad (15, 0, 0))) hF hK.1 hW tm1 rfl rfl in_M 20 (by decide) gw_904 rfl rfl d_M_propose_84 ?_
      refine lv_iload_n (pc := 87) hx hb d_M_propose_87 rfl (lv_at hl 1 rfl) ?_
      have b5 := hk.1
      have hk := hk.2
      refine z_iald (pc := 88) (v := S.1 15 0 0 a1.toNatClampNeg) hF hK.1 hW tm15 0 rfl rfl b5 rfl d_M_propose_88 ?_
      refine lv_iload_n (pc := 89) hx hb d_M_propose_89 rfl (lv_at hl 2 rfl) ?_
      have o6 := hk.1
      have hk := hk.2
      obtain ⟨r7, er7⟩ : ∃ z : Int32 × St, z = f_M_newBlock a1 (S.1 12 0 0 a1.toNatClampNeg) (S.1 15 0 0 a1.toNatClampNeg) l2 S := ⟨_, rfl⟩
      have hk := lt_p er7 hk
      have hr := lt_e er7 hr
      refine z_goI (pc := 90) hW hA (show (r7.1, r7.2) = _ from er7) (z_runV hF hK hW (c_M_newBlock l D X ad ca a1 (S.1 12 0 0 a1.toNatClampNeg) (S.1 15 0 0 a1.toNatClampNeg) l2 S o6 _) cd_M_newBlock gw_1105 tm1 rfl rfl ⟨Nat.le_of_ble_eq_true rfl, Nat.le_of_ble_eq_true rfl⟩ ⟨Nat.zero_le _, Nat.zero_le _⟩ rfl rfl hl.1 (Nat.le_of_ble_eq_true rfl) d_M_propose_90) (fun H locs (hW : Wd D clM A s.heap (zw X ad TM (cfM ad ca) r7.2) H locs) => ?_)
      refine lv_istore_n (pc := 93) (lv' := [(3, .int r7.1), (0, .ref (ad (1, 0, 0))), (1, .int a1), (2, .int l2)]) hx hb d_M_propose_93 rfl hl (by decide) rfl (fun ls hl => ?_)
      refine lv_aload_n (pc := 94) hx hb d_M_propose_94 rfl (lv_at hl 1 rfl) ?_
      refine lv_iload_n (pc := 95) hx hb d_M_propose_95 rfl (lv_at hl 2 rfl) ?_
      refine lv_aload_n (pc := 96) hx hb d_M_propose_96 rfl (lv_at hl 1 rfl) ?_
      refine lv_iconst (pc := 97) (v := 1) hx hb d_M_propose_97 (by decide) ?_
      refine lv_iconst (pc := 98) (v := 0) hx hb d_M_propose_98 (by decide) ?_
      refine lv_iload_n (pc := 99) hx hb d_M_propose_99 rfl (lv_at hl 0 rfl) ?_
      obtain ⟨r8, er8⟩ : ∃ z : Int64 × St, z = f_M_meant (1 : Int32) (0 : Int32) r7.1 r7.2 := ⟨_, rfl⟩
      have hk := lt_p er8 hk
      have hr := lt_e er8 hr
      refine z_goL (pc := 100) hW hA (show (r8.1, r8.2) = _ from er8) (z_runV hF hK hW (c_M_meant l D X ad ca (1 : Int32) (0 : Int32) r7.1 r7.2 _) cd_M_meant gw_1041 tm1 rfl rfl ⟨Nat.le_of_ble_eq_true rfl, Nat.le_of_ble_eq_true rfl⟩ ⟨Nat.zero_le _, Nat.zero_le _⟩ rfl rfl hl.1 (Nat.le_of_ble_eq_true rfl) d_M_propose_100) (fun H locs (hW : Wd D clM A s.heap (zw X ad TM (cfM ad ca) r8.2) H locs) => ?_)
      have o9 := hk.1
      have hk := hk.2
      obtain ⟨r10, er10⟩ : ∃ z : Int32 × St, z = f_M_signs a1 r8.1 r8.2 := ⟨_, rfl⟩
      have hk := lt_p er10 hk
      have hr := lt_e er10 hr
      refine z_goI (pc := 103) hW hA (show (r10.1, r10.2) = _ from er10) (z_runV hF hK hW (c_M_signs l D X ad ca a1 r8.1 r8.2 o9 _) cd_M_signs gw_1086 tm1 rfl rfl ⟨Nat.le_of_ble_eq_true rfl, Nat.le_of_ble_eq_true rfl⟩ ⟨Nat.zero_le _, Nat.zero_le _⟩ rfl rfl hl.1 (Nat.le_of_ble_eq_true rfl) d_M_propose_103) (fun H locs (hW : Wd D clM A s.heap (zw X ad TM (cfM ad ca) r10.2) H locs) => ?_)
      refine lv_if_eq (pc := 106) (tgt := 134) hx hb d_M_propose_106 (by decide) (fun c11 => ?_) (fun c11 => ?_)
      · have hk := hk.1 c11
        have hr := (if_pos c11).symm.trans hr
        exact z_vret hy hW hr.symm d_M_propose_134
      · have hk := hk.2 c11
        have hr := (if_neg c11).symm.trans hr
        refine lv_iconst (pc := 109) (v := 0) hx hb d_M_propose_109 (by decide) ?_
        refine lv_istore (pc := 110) (lv' := [(4, .int (0 : Int32)), (3, .int r7.1), (0, .ref (ad (1, 0, 0))), (1, .int a1), (2, .int l2)]) hx hb d_M_propose_110 hl (by decide) rfl (fun ls hl => ?_)
        exact w_M_propose_112 a1 hy hA 200 r10.2 r7.1 (0 : Int32) hk hr _ _ _ hW (lv_sub hl [2, 3, 1, 0] rfl)
    · have hk := hk.2 c3
      have hr := (if_neg c3).symm.trans hr
      refine lv_aload_n (pc := 25) hx hb d_M_propose_25 rfl (lv_at hl 0 rfl) ?_
      refine lv_aload_n (pc := 26) hx hb d_M_propose_26 rfl (lv_at hl 0 rfl) ?_
      refine z_get (pc := 27) (v := .ref (ad (23, 0, 0))) hF hK.1 hW tm1 rfl rfl in_M 28 (by decide) gw_912 rfl rfl d_M_propose_27 ?_
      refine lv_bipush (pc := 30) (v := 40) hx hb d_M_propose_30 (by decide) ?_
      refine lv_iload_n (pc := 32) hx hb d_M_propose_32 rfl (lv_at hl 1 rfl) ?_
      refine lv_imul (pc := 33) hx hb d_M_propose_33 ?_
      refine lv_iload_n (pc := 34) hx hb d_M_propose_34 rfl (lv_at hl 3 rfl) ?_
      refine lv_iadd (pc := 35) hx hb d_M_propose_35 ?_
      have b12 := hk.1
      have hk := hk.2
      refine z_iald (pc := 36) (v := S.1 23 0 0 (((40 : Int32) * a1) + l3).toNatClampNeg) hF hK.1 hW tm23 0 rfl rfl b12 rfl d_M_propose_36 ?_
      refine lv_aload_n (pc := 37) hx hb d_M_propose_37 rfl (lv_at hl 0 rfl) ?_
      refine z_get (pc := 38) (v := .ref (ad (15, 0, 0))) hF hK.1 hW tm1 rfl rfl in_M 20 (by decide) gw_904 rfl rfl d_M_propose_38 ?_
      refine lv_iload_n (pc := 41) hx hb d_M_propose_41 rfl (lv_at hl 1 rfl) ?_
      have b13 := hk.1
      have hk := hk.2
      refine z_iald (pc := 42) (v := S.1 15 0 0 a1.toNatClampNeg) hF hK.1 hW tm15 0 rfl rfl b13 rfl d_M_propose_42 ?_
      have o14 := hk.1
      have hk := hk.2
      obtain ⟨r15, er15⟩ : ∃ z : Int32, z = f_M_inChain (S.1 23 0 0 (((40 : Int32) * a1) + l3).toNatClampNeg) (S.1 15 0 0 a1.toNatClampNeg) S := ⟨_, rfl⟩
      have hk := lt_p er15 hk
      have hr := lt_e er15 hr
      refine p_go (pc := 43) (congrArg Value.int er15) (p_runV hF hK hW (c_M_inChain l D X ad ca (S.1 23 0 0 (((40 : Int32) * a1) + l3).toNatClampNeg) (S.1 15 0 0 a1.toNatClampNeg) S o14 _) cd_M_inChain gw_1101 tm1 rfl rfl ⟨Nat.le_of_ble_eq_true rfl, Nat.le_of_ble_eq_true rfl⟩ ⟨Nat.zero_le _, Nat.zero_le _⟩ rfl rfl hl.1 (Nat.le_of_ble_eq_true rfl) d_M_propose_43) ?_
      refine lv_istore (pc := 46) (lv' := [(4, .int r15), (0, .ref (ad (1, 0, 0))), (1, .int a1), (2, .int l2), (3, .int l3)]) hx hb d_M_propose_46 hl (by decide) rfl (fun ls hl => ?_)
      refine lv_iload (pc := 48) hx hb d_M_propose_48 (lv_at hl 0 rfl) ?_
      refine lv_if_eq (pc := 50) (tgt := 57) hx hb d_M_propose_50 (by decide) (fun c16 => ?_) (fun c16 => ?_)
      · have hk := hk.1 c16
        have hr := (if_pos c16).symm.trans hr
        refine lv_aload_n (pc := 57) hx hb d_M_propose_57 rfl (lv_at hl 1 rfl) ?_
        refine z_get (pc := 58) (v := .ref (ad (23, 0, 0))) hF hK.1 hW tm1 rfl rfl in_M 28 (by decide) gw_912 rfl rfl d_M_propose_58 ?_
        refine lv_bipush (pc := 61) (v := 40) hx hb d_M_propose_61 (by decide) ?_
        refine lv_iload_n (pc := 63) hx hb d_M_propose_63 rfl (lv_at hl 2 rfl) ?_
        refine lv_imul (pc := 64) hx hb d_M_propose_64 ?_
        refine lv_iload_n (pc := 65) hx hb d_M_propose_65 rfl (lv_at hl 4 rfl) ?_
        refine lv_iadd (pc := 66) hx hb d_M_propose_66 ?_
        have b17 := hk.1
        have hk := hk.2
        refine z_iald (pc := 67) (v := S.1 23 0 0 (((40 : Int32) * a1) + l3).toNatClampNeg) hF hK.1 hW tm23 0 rfl rfl b17 rfl d_M_propose_67 ?_
        refine lv_istore_n (pc := 68) (lv' := [(2, .int (S.1 23 0 0 (((40 : Int32) * a1) + l3).toNatClampNeg)), (4, .int r15), (0, .ref (ad (1, 0, 0))), (1, .int a1), (3, .int l3)]) hx hb d_M_propose_68 rfl hl (by decide) rfl (fun ls hl => ?_)
        refine lv_iinc (pc := 69) (v := l3 + (-1 : Int32)) (lv' := [(3, .int (l3 + (-1 : Int32))), (2, .int (S.1 23 0 0 (((40 : Int32) * a1) + l3).toNatClampNeg)), (4, .int r15), (0, .ref (ad (1, 0, 0))), (1, .int a1)]) (k := 4) hx hb d_M_propose_69 hl rfl (z_inc (by decide)) (by decide) rfl (fun ls hl => ?_)
        refine lv_goto (pc := 72) (tgt := 21) hx hb d_M_propose_72 (by decide) ?_
        exact ih S (S.1 23 0 0 (((40 : Int32) * a1) + l3).toNatClampNeg) (l3 + (-1 : Int32)) hk hr _ _ _ hW (lv_sub hl [3, 4, 1, 0] rfl)
      · have hk := hk.2 c16
        have hr := (if_neg c16).symm.trans hr
        refine lv_iload_n (pc := 53) hx hb d_M_propose_53 rfl (lv_at hl 3 rfl) ?_
        refine lv_goto (pc := 54) (tgt := 68) hx hb d_M_propose_54 (by decide) ?_
        refine lv_istore_n (pc := 68) (lv' := [(2, .int l2), (4, .int r15), (0, .ref (ad (1, 0, 0))), (1, .int a1), (3, .int l3)]) hx hb d_M_propose_68 rfl hl (by decide) rfl (fun ls hl => ?_)
        refine lv_iinc (pc := 69) (v := l3 + (-1 : Int32)) (lv' := [(3, .int (l3 + (-1 : Int32))), (2, .int l2), (4, .int r15), (0, .ref (ad (1, 0, 0))), (1, .int a1)]) (k := 4) hx hb d_M_propose_69 hl rfl (z_inc (by decide)) (by decide) rfl (fun ls hl => ?_)
        refine lv_goto (pc := 72) (tgt := 21) hx hb d_M_propose_72 (by decide) ?_
        exact ih S l2 (l3 + (-1 : Int32)) hk hr _ _ _ hW (lv_sub hl [3, 4, 1, 0] rfl)
def f_M_propose (a1 : Int32) (S : St) : St :=
  if (S.1 1 0 0 11) = (100 : Int32) then
    S
  else
    f_M_propose_21 a1 200 S (-1 : Int32) ((S.1 22 0 0 a1.toNatClampNeg) - (1 : Int32))
def ok_M_propose (a1 : Int32) (S : St) : Prop :=
  ((S.1 1 0 0 11) = (100 : Int32) → (
    True)) ∧ (¬ ((S.1 1 0 0 11) = (100 : Int32)) → (
    (vp_in a1 4) ∧ (
      ok_M_propose_21 a1 200 S (-1 : Int32) ((S.1 22 0 0 a1.toNatClampNeg) - (1 : Int32)))))
set_option maxHeartbeats 4000000 in
set_option maxRecDepth 100000 in
theorem c_M_propose (l : Launch) (D : va_G) (X : va_W) (ad : N3 → Nat) (ca : Nat → ClassId) (a1 : Int32)  (S : St) (hk : ok_M_propose a1 S) : cV l GG D clM (tysM ca) nwM X ad TM (cfM ad ca) y_M_propose b_M_propose 5 4 98 [.ref (ad (1, 0, 0)), .int a1] S (f_M_propose a1 S) := by
  generalize hr : f_M_propose a1 S = res
  refine zV_of pn_M (Nat.le_of_ble_eq_true rfl) (fun p e s m below meth c A ls hy hW hA hl => ?_)
  have hF := hy.1
  have hx := hF.1
  have hb := hF.2.1
  have hK := hy.2.2.2
  have hl : lv_has ls 5 [(0, .ref (ad (1, 0, 0))), (1, .int a1)] := hl
  refine lv_aload_n (pc := 0) hx hb d_M_propose_0 rfl (lv_at hl 0 rfl) ?_
  refine z_get (pc := 1) (v := .int (S.1 1 0 0 11)) hF hK.1 hW tm1 rfl rfl in_M 11 (by decide) gw_895 rfl rfl d_M_propose_1 ?_
  refine lv_bipush (pc := 4) (v := 100) hx hb d_M_propose_4 (by decide) ?_
  refine lv_icmp_ne (pc := 6) (tgt := 10) hx hb d_M_propose_6 (by decide) (fun c1 => ?_) (fun c1 => ?_)
  · have hk := hk.2 c1
    have hr := (if_neg c1).symm.trans hr
    refine lv_iconst (pc := 10) (v := -1) hx hb d_M_propose_10 (by decide) ?_
    refine lv_istore_n (pc := 11) (lv' := [(2, .int (-1 : Int32)), (0, .ref (ad (1, 0, 0))), (1, .int a1)]) hx hb d_M_propose_11 rfl hl (by decide) rfl (fun ls hl => ?_)
    refine lv_aload_n (pc := 12) hx hb d_M_propose_12 rfl (lv_at hl 1 rfl) ?_
    refine z_get (pc := 13) (v := .ref (ad (22, 0, 0))) hF hK.1 hW tm1 rfl rfl in_M 27 (by decide) gw_911 rfl rfl d_M_propose_13 ?_
    refine lv_iload_n (pc := 16) hx hb d_M_propose_16 rfl (lv_at hl 2 rfl) ?_
    have b2 := hk.1
    have hk := hk.2
    refine z_iald (pc := 17) (v := S.1 22 0 0 a1.toNatClampNeg) hF hK.1 hW tm22 0 rfl rfl b2 rfl d_M_propose_17 ?_
    refine lv_iconst (pc := 18) (v := 1) hx hb d_M_propose_18 (by decide) ?_
    refine lv_isub (pc := 19) hx hb d_M_propose_19 ?_
    refine lv_istore_n (pc := 20) (lv' := [(3, .int ((S.1 22 0 0 a1.toNatClampNeg) - (1 : Int32))), (2, .int (-1 : Int32)), (0, .ref (ad (1, 0, 0))), (1, .int a1)]) hx hb d_M_propose_20 rfl hl (by decide) rfl (fun ls hl => ?_)
    exact w_M_propose_21 a1 hy hA 200 S (-1 : Int32) ((S.1 22 0 0 a1.toNatClampNeg) - (1 : Int32)) hk hr _ _ _ hW (lv_sub hl [2, 3, 1, 0] rfl)
  · have hk := hk.1 c1
    have hr := (if_pos c1).symm.trans hr
    exact z_vret hy hW hr.symm d_M_propose_9
theorem d_M_carryOut_0 : decode b_M_carryOut 0 = .ok (.iconst 4, 1) := by decide +kernel
theorem d_M_carryOut_1 : decode b_M_carryOut 1 = .ok (.iload_n 1, 1) := by decide +kernel
theorem d_M_carryOut_2 : decode b_M_carryOut 2 = .ok (.imul, 1) := by decide +kernel
theorem d_M_carryOut_3 : decode b_M_carryOut 3 = .ok (.aload_n 0, 1) := by decide +kernel
theorem d_M_carryOut_4 : decode b_M_carryOut 4 = .ok (.getfield 13, 3) := by decide +kernel
theorem d_M_carryOut_7 : decode b_M_carryOut 7 = .ok (.iload_n 2, 1) := by decide +kernel
theorem d_M_carryOut_8 : decode b_M_carryOut 8 = .ok (.iaload, 1) := by decide +kernel
theorem d_M_carryOut_9 : decode b_M_carryOut 9 = .ok (.iadd, 1) := by decide +kernel
theorem d_M_carryOut_10 : decode b_M_carryOut 10 = .ok (.istore_n 3, 1) := by decide +kernel
theorem d_M_carryOut_11 : decode b_M_carryOut 11 = .ok (.aload_n 0, 1) := by decide +kernel
theorem d_M_carryOut_12 : decode b_M_carryOut 12 = .ok (.getfield 91, 3) := by decide +kernel
theorem d_M_carryOut_15 : decode b_M_carryOut 15 = .ok (.iload_n 3, 1) := by decide +kernel
theorem d_M_carryOut_16 : decode b_M_carryOut 16 = .ok (.iaload, 1) := by decide +kernel
theorem d_M_carryOut_17 : decode b_M_carryOut 17 = .ok (.aload_n 0, 1) := by decide +kernel
theorem d_M_carryOut_18 : decode b_M_carryOut 18 = .ok (.getfield 23, 3) := by decide +kernel
theorem d_M_carryOut_21 : decode b_M_carryOut 21 = .ok (.iload_n 2, 1) := by decide +kernel
theorem d_M_carryOut_22 : decode b_M_carryOut 22 = .ok (.iaload, 1) := by decide +kernel
theorem d_M_carryOut_23 : decode b_M_carryOut 23 = .ok (.if_icmp .ne 67, 3) := by decide +kernel
theorem d_M_carryOut_26 : decode b_M_carryOut 26 = .ok (.aload_n 0, 1) := by decide +kernel
theorem d_M_carryOut_27 : decode b_M_carryOut 27 = .ok (.getfield 88, 3) := by decide +kernel
theorem d_M_carryOut_30 : decode b_M_carryOut 30 = .ok (.iload_n 3, 1) := by decide +kernel
theorem d_M_carryOut_31 : decode b_M_carryOut 31 = .ok (.iaload, 1) := by decide +kernel
theorem d_M_carryOut_32 : decode b_M_carryOut 32 = .ok (.aload_n 0, 1) := by decide +kernel
theorem d_M_carryOut_33 : decode b_M_carryOut 33 = .ok (.getfield 20, 3) := by decide +kernel
theorem d_M_carryOut_36 : decode b_M_carryOut 36 = .ok (.iload_n 2, 1) := by decide +kernel
theorem d_M_carryOut_37 : decode b_M_carryOut 37 = .ok (.iaload, 1) := by decide +kernel
theorem d_M_carryOut_38 : decode b_M_carryOut 38 = .ok (.if_icmp .lt 52, 3) := by decide +kernel
theorem d_M_carryOut_41 : decode b_M_carryOut 41 = .ok (.aload_n 0, 1) := by decide +kernel
theorem d_M_carryOut_42 : decode b_M_carryOut 42 = .ok (.getfield 88, 3) := by decide +kernel
theorem d_M_carryOut_45 : decode b_M_carryOut 45 = .ok (.iload_n 3, 1) := by decide +kernel
theorem d_M_carryOut_46 : decode b_M_carryOut 46 = .ok (.dup2, 1) := by decide +kernel
theorem d_M_carryOut_47 : decode b_M_carryOut 47 = .ok (.iaload, 1) := by decide +kernel
theorem d_M_carryOut_48 : decode b_M_carryOut 48 = .ok (.aload_n 0, 1) := by decide +kernel
theorem d_M_carryOut_49 : decode b_M_carryOut 49 = .ok (.getfield 20, 3) := by decide +kernel
theorem d_M_carryOut_52 : decode b_M_carryOut 52 = .ok (.iload_n 2, 1) := by decide +kernel
theorem d_M_carryOut_53 : decode b_M_carryOut 53 = .ok (.iaload, 1) := by decide +kernel
theorem d_M_carryOut_54 : decode b_M_carryOut 54 = .ok (.isub, 1) := by decide +kernel
theorem d_M_carryOut_55 : decode b_M_carryOut 55 = .ok (.iastore, 1) := by decide +kernel
theorem d_M_carryOut_56 : decode b_M_carryOut 56 = .ok (.aload_n 0, 1) := by decide +kernel
theorem d_M_carryOut_57 : decode b_M_carryOut 57 = .ok (.getfield 88, 3) := by decide +kernel
theorem d_M_carryOut_60 : decode b_M_carryOut 60 = .ok (.iconst 4, 1) := by decide +kernel
theorem d_M_carryOut_61 : decode b_M_carryOut 61 = .ok (.iload_n 1, 1) := by decide +kernel
theorem d_M_carryOut_62 : decode b_M_carryOut 62 = .ok (.imul, 1) := by decide +kernel
theorem d_M_carryOut_63 : decode b_M_carryOut 63 = .ok (.aload_n 0, 1) := by decide +kernel
theorem d_M_carryOut_64 : decode b_M_carryOut 64 = .ok (.getfield 17, 3) := by decide +kernel
theorem d_M_carryOut_67 : decode b_M_carryOut 67 = .ok (.iload_n 2, 1) := by decide +kernel
theorem d_M_carryOut_68 : decode b_M_carryOut 68 = .ok (.iaload, 1) := by decide +kernel
theorem d_M_carryOut_69 : decode b_M_carryOut 69 = .ok (.iadd, 1) := by decide +kernel
theorem d_M_carryOut_70 : decode b_M_carryOut 70 = .ok (.dup2, 1) := by decide +kernel
theorem d_M_carryOut_71 : decode b_M_carryOut 71 = .ok (.iaload, 1) := by decide +kernel
theorem d_M_carryOut_72 : decode b_M_carryOut 72 = .ok (.aload_n 0, 1) := by decide +kernel
theorem d_M_carryOut_73 : decode b_M_carryOut 73 = .ok (.getfield 20, 3) := by decide +kernel
theorem d_M_carryOut_76 : decode b_M_carryOut 76 = .ok (.iload_n 2, 1) := by decide +kernel
theorem d_M_carryOut_77 : decode b_M_carryOut 77 = .ok (.iaload, 1) := by decide +kernel
theorem d_M_carryOut_78 : decode b_M_carryOut 78 = .ok (.iadd, 1) := by decide +kernel
theorem d_M_carryOut_79 : decode b_M_carryOut 79 = .ok (.iastore, 1) := by decide +kernel
theorem d_M_carryOut_80 : decode b_M_carryOut 80 = .ok (.aload_n 0, 1) := by decide +kernel
theorem d_M_carryOut_81 : decode b_M_carryOut 81 = .ok (.getfield 91, 3) := by decide +kernel
theorem d_M_carryOut_84 : decode b_M_carryOut 84 = .ok (.iload_n 3, 1) := by decide +kernel
theorem d_M_carryOut_85 : decode b_M_carryOut 85 = .ok (.dup2, 1) := by decide +kernel
theorem d_M_carryOut_86 : decode b_M_carryOut 86 = .ok (.iaload, 1) := by decide +kernel
theorem d_M_carryOut_87 : decode b_M_carryOut 87 = .ok (.iconst 1, 1) := by decide +kernel
theorem d_M_carryOut_88 : decode b_M_carryOut 88 = .ok (.iadd, 1) := by decide +kernel
theorem d_M_carryOut_89 : decode b_M_carryOut 89 = .ok (.iastore, 1) := by decide +kernel
theorem d_M_carryOut_90 : decode b_M_carryOut 90 = .ok (.return_, 1) := by decide +kernel
def f_M_carryOut (a1 : Int32) (a2 : Int32) (S : St) : St :=
  if (S.1 27 0 0 (((4 : Int32) * a1) + (S.1 3 0 0 a2.toNatClampNeg)).toNatClampNeg) = (S.1 6 0 0 a2.toNatClampNeg) then
    if (S.1 26 0 0 (((4 : Int32) * a1) + (S.1 3 0 0 a2.toNatClampNeg)).toNatClampNeg) < (S.1 5 0 0 a2.toNatClampNeg) then
      S
    else
      lt (si S 26 0 0 ((((4 : Int32) * a1) + (S.1 3 0 0 a2.toNatClampNeg)).toNatClampNeg) ((S.1 26 0 0 (((4 : Int32) * a1) + (S.1 3 0 0 a2.toNatClampNeg)).toNatClampNeg) - (S.1 5 0 0 a2.toNatClampNeg))) fun (S11 : St) =>
      lt (si S11 26 0 0 ((((4 : Int32) * a1) + (S11.1 4 0 0 a2.toNatClampNeg)).toNatClampNeg) ((S11.1 26 0 0 (((4 : Int32) * a1) + (S11.1 4 0 0 a2.toNatClampNeg)).toNatClampNeg) + (S11.1 5 0 0 a2.toNatClampNeg))) fun (S16 : St) =>
      lt (si S16 27 0 0 ((((4 : Int32) * a1) + (S.1 3 0 0 a2.toNatClampNeg)).toNatClampNeg) ((S16.1 27 0 0 (((4 : Int32) * a1) + (S.1 3 0 0 a2.toNatClampNeg)).toNatClampNeg) + (1 : Int32))) fun (S19 : St) =>
      S19
  else
    S
def ok_M_carryOut (a1 : Int32) (a2 : Int32) (S : St) : Prop :=
  (vp_in a2 40) ∧ (
    (vp_in (((4 : Int32) * a1) + (S.1 3 0 0 a2.toNatClampNeg)) 16) ∧ (
      (vp_in a2 40) ∧ (
        ((S.1 27 0 0 (((4 : Int32) * a1) + (S.1 3 0 0 a2.toNatClampNeg)).toNatClampNeg) = (S.1 6 0 0 a2.toNatClampNeg) → (
          (vp_in (((4 : Int32) * a1) + (S.1 3 0 0 a2.toNatClampNeg)) 16) ∧ (
            (vp_in a2 40) ∧ (
              ((S.1 26 0 0 (((4 : Int32) * a1) + (S.1 3 0 0 a2.toNatClampNeg)).toNatClampNeg) < (S.1 5 0 0 a2.toNatClampNeg) → (
                True)) ∧ (¬ ((S.1 26 0 0 (((4 : Int32) * a1) + (S.1 3 0 0 a2.toNatClampNeg)).toNatClampNeg) < (S.1 5 0 0 a2.toNatClampNeg)) → (
                (vp_in (((4 : Int32) * a1) + (S.1 3 0 0 a2.toNatClampNeg)) 16) ∧ (
                  (vp_in a2 40) ∧ (
                    (vp_in (((4 : Int32) * a1) + (S.1 3 0 0 a2.toNatClampNeg)) 16) ∧ (
                      lt (si S 26 0 0 ((((4 : Int32) * a1) + (S.1 3 0 0 a2.toNatClampNeg)).toNatClampNeg) ((S.1 26 0 0 (((4 : Int32) * a1) + (S.1 3 0 0 a2.toNatClampNeg)).toNatClampNeg) - (S.1 5 0 0 a2.toNatClampNeg))) fun (S11 : St) =>
                      (vp_in a2 40) ∧ (
                        (vp_in (((4 : Int32) * a1) + (S11.1 4 0 0 a2.toNatClampNeg)) 16) ∧ (
                          (vp_in a2 40) ∧ (
                            (vp_in (((4 : Int32) * a1) + (S11.1 4 0 0 a2.toNatClampNeg)) 16) ∧ (
                              lt (si S11 26 0 0 ((((4 : Int32) * a1) + (S11.1 4 0 0 a2.toNatClampNeg)).toNatClampNeg) ((S11.1 26 0 0 (((4 : Int32) * a1) + (S11.1 4 0 0 a2.toNatClampNeg)).toNatClampNeg) + (S11.1 5 0 0 a2.toNatClampNeg))) fun (S16 : St) =>
                              (vp_in (((4 : Int32) * a1) + (S.1 3 0 0 a2.toNatClampNeg)) 16) ∧ (
                                (vp_in (((4 : Int32) * a1) + (S.1 3 0 0 a2.toNatClampNeg)) 16) ∧ (
                                  True))))))))))))))) ∧ (¬ ((S.1 27 0 0 (((4 : Int32) * a1) + (S.1 3 0 0 a2.toNatClampNeg)).toNatClampNeg) = (S.1 6 0 0 a2.toNatClampNeg)) → (
          True)))))
set_option maxHeartbeats 4000000 in
set_option maxRecDepth 100000 in
theorem c_M_carryOut (l : Launch) (D : va_G) (X : va_W) (ad : N3 → Nat) (ca : Nat → ClassId) (a1 : Int32) (a2 : Int32)  (S : St) (hk : ok_M_carryOut a1 a2 S) : cV l GG D clM (tysM ca) nwM X ad TM (cfM ad ca) y_M_carryOut b_M_carryOut 4 0 0 [.ref (ad (1, 0, 0)), .int a1, .int a2] S (f_M_carryOut a1 a2 S) := by
  generalize hr : f_M_carryOut a1 a2 S = res
  refine zV_of pn_M (Nat.le_of_ble_eq_true rfl) (fun p e s m below meth c A ls hy hW hA hl => ?_)
  have hF := hy.1
  have hx := hF.1
  have hb := hF.2.1
  have hK := hy.2.2.2
  have hl : lv_has ls 4 [(0, .ref (ad (1, 0, 0))), (1, .int a1), (2, .int a2)] := hl
  refine lv_iconst (pc := 0) (v := 4) hx hb d_M_carryOut_0 (by decide) ?_
  refine lv_iload_n (pc := 1) hx hb d_M_carryOut_1 rfl (lv_at hl 1 rfl) ?_
  refine lv_imul (pc := 2) hx hb d_M_carryOut_2 ?_
  refine lv_aload_n (pc := 3) hx hb d_M_carryOut_3 rfl (lv_at hl 0 rfl) ?_
  refine z_get (pc := 4) (v := .ref (ad (3, 0, 0))) hF hK.1 hW tm1 rfl rfl in_M 7 (by decide) gw_891 rfl rfl d_M_carryOut_4 ?_
  refine lv_iload_n (pc := 7) hx hb d_M_carryOut_7 rfl (lv_at hl 2 rfl) ?_
  have b1 := hk.1
  have hk := hk.2
  refine z_iald (pc := 8) (v := S.1 3 0 0 a2.toNatClampNeg) hF hK.1 hW tm3 0 rfl rfl b1 rfl d_M_carryOut_8 ?_
  refine lv_iadd (pc := 9) hx hb d_M_carryOut_9 ?_
  refine lv_istore_n (pc := 10) (lv' := [(3, .int (((4 : Int32) * a1) + (S.1 3 0 0 a2.toNatClampNeg))), (0, .ref (ad (1, 0, 0))), (1, .int a1), (2, .int a2)]) hx hb d_M_carryOut_10 rfl hl (by decide) rfl (fun ls hl => ?_)
  refine lv_aload_n (pc := 11) hx hb d_M_carryOut_11 rfl (lv_at hl 1 rfl) ?_
  refine z_get (pc := 12) (v := .ref (ad (27, 0, 0))) hF hK.1 hW tm1 rfl rfl in_M 32 (by decide) gw_916 rfl rfl d_M_carryOut_12 ?_
  refine lv_iload_n (pc := 15) hx hb d_M_carryOut_15 rfl (lv_at hl 0 rfl) ?_
  have b2 := hk.1
  have hk := hk.2
  refine z_iald (pc := 16) (v := S.1 27 0 0 (((4 : Int32) * a1) + (S.1 3 0 0 a2.toNatClampNeg)).toNatClampNeg) hF hK.1 hW tm27 0 rfl rfl b2 rfl d_M_carryOut_16 ?_
  refine lv_aload_n (pc := 17) hx hb d_M_carryOut_17 rfl (lv_at hl 1 rfl) ?_
  refine z_get (pc := 18) (v := .ref (ad (6, 0, 0))) hF hK.1 hW tm1 rfl rfl in_M 10 (by decide) gw_894 rfl rfl d_M_carryOut_18 ?_
  refine lv_iload_n (pc := 21) hx hb d_M_carryOut_21 rfl (lv_at hl 3 rfl) ?_
  have b3 := hk.1
  have hk := hk.2
  refine z_iald (pc := 22) (v := S.1 6 0 0 a2.toNatClampNeg) hF hK.1 hW tm6 0 rfl rfl b3 rfl d_M_carryOut_22 ?_
  refine lv_icmp_ne (pc := 23) (tgt := 90) hx hb d_M_carryOut_23 (by decide) (fun c4 => ?_) (fun c4 => ?_)
  · have hk := hk.2 c4
    have hr := (if_neg c4).symm.trans hr
    exact z_vret hy hW hr.symm d_M_carryOut_90
  · have hk := hk.1 c4
    have hr := (if_pos c4).symm.trans hr
    refine lv_aload_n (pc := 26) hx hb d_M_carryOut_26 rfl (lv_at hl 1 rfl) ?_
    refine z_get (pc := 27) (v := .ref (ad (26, 0, 0))) hF hK.1 hW tm1 rfl rfl in_M 31 (by decide) gw_915 rfl rfl d_M_carryOut_27 ?_
    refine lv_iload_n (pc := 30) hx hb d_M_carryOut_30 rfl (lv_at hl 0 rfl) ?_
    have b5 := hk.1
    have hk := hk.2
    refine z_iald (pc := 31) (v := S.1 26 0 0 (((4 : Int32) * a1) + (S.1 3 0 0 a2.toNatClampNeg)).toNatClampNeg) hF hK.1 hW tm26 0 rfl rfl b5 rfl d_M_carryOut_31 ?_
    refine lv_aload_n (pc := 32) hx hb d_M_carryOut_32 rfl (lv_at hl 1 rfl) ?_
    refine z_get (pc := 33) (v := .ref (ad (5, 0, 0))) hF hK.1 hW tm1 rfl rfl in_M 9 (by decide) gw_893 rfl rfl d_M_carryOut_33 ?_
    refine lv_iload_n (pc := 36) hx hb d_M_carryOut_36 rfl (lv_at hl 3 rfl) ?_
    have b6 := hk.1
    have hk := hk.2
    refine z_iald (pc := 37) (v := S.1 5 0 0 a2.toNatClampNeg) hF hK.1 hW tm5 0 rfl rfl b6 rfl d_M_carryOut_37 ?_
    refine lv_icmp_lt (pc := 38) (tgt := 90) hx hb d_M_carryOut_38 (by decide) (fun c7 => ?_) (fun c7 => ?_)
    · have hk := hk.1 c7
      have hr := (if_pos c7).symm.trans hr
      exact z_vret hy hW hr.symm d_M_carryOut_90
    · have hk := hk.2 c7
      have hr := (if_neg c7).symm.trans hr
      refine lv_aload_n (pc := 41) hx hb d_M_carryOut_41 rfl (lv_at hl 1 rfl) ?_
      refine z_get (pc := 42) (v := .ref (ad (26, 0, 0))) hF hK.1 hW tm1 rfl rfl in_M 31 (by decide) gw_915 rfl rfl d_M_carryOut_42 ?_
      refine lv_iload_n (pc := 45) hx hb d_M_carryOut_45 rfl (lv_at hl 0 rfl) ?_
      refine lv_dup2_11 (pc := 46) hx hb d_M_carryOut_46 rfl rfl ?_
      have b8 := hk.1
      have hk := hk.2
      refine z_iald (pc := 47) (v := S.1 26 0 0 (((4 : Int32) * a1) + (S.1 3 0 0 a2.toNatClampNeg)).toNatClampNeg) hF hK.1 hW tm26 0 rfl rfl b8 rfl d_M_carryOut_47 ?_
      refine lv_aload_n (pc := 48) hx hb d_M_carryOut_48 rfl (lv_at hl 1 rfl) ?_
      refine z_get (pc := 49) (v := .ref (ad (5, 0, 0))) hF hK.1 hW tm1 rfl rfl in_M 9 (by decide) gw_893 rfl rfl d_M_carryOut_49 ?_
      refine lv_iload_n (pc := 52) hx hb d_M_carryOut_52 rfl (lv_at hl 3 rfl) ?_
      have b9 := hk.1
      have hk := hk.2
      refine z_iald (pc := 53) (v := S.1 5 0 0 a2.toNatClampNeg) hF hK.1 hW tm5 0 rfl rfl b9 rfl d_M_carryOut_53 ?_
      refine lv_isub (pc := 54) hx hb d_M_carryOut_54 ?_
      have b10 := hk.1
      have hk := hk.2
      obtain ⟨S11, eS11⟩ : ∃ z : St, z = si S 26 0 0 ((((4 : Int32) * a1) + (S.1 3 0 0 a2.toNatClampNeg)).toNatClampNeg) ((S.1 26 0 0 (((4 : Int32) * a1) + (S.1 3 0 0 a2.toNatClampNeg)).toNatClampNeg) - (S.1 5 0 0 a2.toNatClampNeg)) := ⟨_, rfl⟩
      have hk := lt_p eS11 hk
      have hr := lt_e eS11 hr
      refine z_iast (pc := 55) (S' := S11) hF hK.1 hW tm26 0 rfl rfl b10 (zs_si eS11 rfl) (zs_sio eS11) d_M_carryOut_55 (fun H locs (hW : Wd D clM A s.heap (zw X ad TM (cfM ad ca) S11) H locs) => ?_)
      refine lv_aload_n (pc := 56) hx hb d_M_carryOut_56 rfl (lv_at hl 1 rfl) ?_
      refine z_get (pc := 57) (v := .ref (ad (26, 0, 0))) hF hK.1 hW tm1 rfl rfl in_M 31 (by decide) gw_915 rfl rfl d_M_carryOut_57 ?_
      refine lv_iconst (pc := 60) (v := 4) hx hb d_M_carryOut_60 (by decide) ?_
      refine lv_iload_n (pc := 61) hx hb d_M_carryOut_61 rfl (lv_at hl 2 rfl) ?_
      refine lv_imul (pc := 62) hx hb d_M_carryOut_62 ?_
      refine lv_aload_n (pc := 63) hx hb d_M_carryOut_63 rfl (lv_at hl 1 rfl) ?_
      refine z_get (pc := 64) (v := .ref (ad (4, 0, 0))) hF hK.1 hW tm1 rfl rfl in_M 8 (by decide) gw_892 rfl rfl d_M_carryOut_64 ?_
      refine lv_iload_n (pc := 67) hx hb d_M_carryOut_67 rfl (lv_at hl 3 rfl) ?_
      have b12 := hk.1
      have hk := hk.2
      refine z_iald (pc := 68) (v := S11.1 4 0 0 a2.toNatClampNeg) hF hK.1 hW tm4 0 rfl rfl b12 rfl d_M_carryOut_68 ?_
      refine lv_iadd (pc := 69) hx hb d_M_carryOut_69 ?_
      refine lv_dup2_11 (pc := 70) hx hb d_M_carryOut_70 rfl rfl ?_
      have b13 := hk.1
      have hk := hk.2
      refine z_iald (pc := 71) (v := S11.1 26 0 0 (((4 : Int32) * a1) + (S11.1 4 0 0 a2.toNatClampNeg)).toNatClampNeg) hF hK.1 hW tm26 0 rfl rfl b13 rfl d_M_carryOut_71 ?_
      refine lv_aload_n (pc := 72) hx hb d_M_carryOut_72 rfl (lv_at hl 1 rfl) ?_
      refine z_get (pc := 73) (v := .ref (ad (5, 0, 0))) hF hK.1 hW tm1 rfl rfl in_M 9 (by decide) gw_893 rfl rfl d_M_carryOut_73 ?_
      refine lv_iload_n (pc := 76) hx hb d_M_carryOut_76 rfl (lv_at hl 3 rfl) ?_
      have b14 := hk.1
      have hk := hk.2
      refine z_iald (pc := 77) (v := S11.1 5 0 0 a2.toNatClampNeg) hF hK.1 hW tm5 0 rfl rfl b14 rfl d_M_carryOut_77 ?_
      refine lv_iadd (pc := 78) hx hb d_M_carryOut_78 ?_
      have b15 := hk.1
      have hk := hk.2
      obtain ⟨S16, eS16⟩ : ∃ z : St, z = si S11 26 0 0 ((((4 : Int32) * a1) + (S11.1 4 0 0 a2.toNatClampNeg)).toNatClampNeg) ((S11.1 26 0 0 (((4 : Int32) * a1) + (S11.1 4 0 0 a2.toNatClampNeg)).toNatClampNeg) + (S11.1 5 0 0 a2.toNatClampNeg)) := ⟨_, rfl⟩
      have hk := lt_p eS16 hk
      have hr := lt_e eS16 hr
      refine z_iast (pc := 79) (S' := S16) hF hK.1 hW tm26 0 rfl rfl b15 (zs_si eS16 rfl) (zs_sio eS16) d_M_carryOut_79 (fun H locs (hW : Wd D clM A s.heap (zw X ad TM (cfM ad ca) S16) H locs) => ?_)
      refine lv_aload_n (pc := 80) hx hb d_M_carryOut_80 rfl (lv_at hl 1 rfl) ?_
      refine z_get (pc := 81) (v := .ref (ad (27, 0, 0))) hF hK.1 hW tm1 rfl rfl in_M 32 (by decide) gw_916 rfl rfl d_M_carryOut_81 ?_
      refine lv_iload_n (pc := 84) hx hb d_M_carryOut_84 rfl (lv_at hl 0 rfl) ?_
      refine lv_dup2_11 (pc := 85) hx hb d_M_carryOut_85 rfl rfl ?_
      have b17 := hk.1
      have hk := hk.2
      refine z_iald (pc := 86) (v := S16.1 27 0 0 (((4 : Int32) * a1) + (S.1 3 0 0 a2.toNatClampNeg)).toNatClampNeg) hF hK.1 hW tm27 0 rfl rfl b17 rfl d_M_carryOut_86 ?_
      refine lv_iconst (pc := 87) (v := 1) hx hb d_M_carryOut_87 (by decide) ?_
      refine lv_iadd (pc := 88) hx hb d_M_carryOut_88 ?_
      have b18 := hk.1
      have hk := hk.2
      obtain ⟨S19, eS19⟩ : ∃ z : St, z = si S16 27 0 0 ((((4 : Int32) * a1) + (S.1 3 0 0 a2.toNatClampNeg)).toNatClampNeg) ((S16.1 27 0 0 (((4 : Int32) * a1) + (S.1 3 0 0 a2.toNatClampNeg)).toNatClampNeg) + (1 : Int32)) := ⟨_, rfl⟩
      have hr := lt_e eS19 hr
      refine z_iast (pc := 89) (S' := S19) hF hK.1 hW tm27 0 rfl rfl b18 (zs_si eS19 rfl) (zs_sio eS19) d_M_carryOut_89 (fun H locs (hW : Wd D clM A s.heap (zw X ad TM (cfM ad ca) S19) H locs) => ?_)
      exact z_vret hy hW hr.symm d_M_carryOut_90
