theorem d_M_commit_0 : decode b_M_commit 0 = .ok (.aload_n 0, 1) := by decide +kernel
theorem d_M_commit_1 : decode b_M_commit 1 = .ok (.getfield 85, 3) := by decide +kernel
theorem d_M_commit_4 : decode b_M_commit 4 = .ok (.bipush 101, 2) := by decide +kernel
theorem d_M_commit_6 : decode b_M_commit 6 = .ok (.iload_n 1, 1) := by decide +kernel
theorem d_M_commit_7 : decode b_M_commit 7 = .ok (.imul, 1) := by decide +kernel
theorem d_M_commit_8 : decode b_M_commit 8 = .ok (.aload_n 0, 1) := by decide +kernel
theorem d_M_commit_9 : decode b_M_commit 9 = .ok (.getfield 82, 3) := by decide +kernel
theorem d_M_commit_12 : decode b_M_commit 12 = .ok (.iload_n 1, 1) := by decide +kernel
theorem d_M_commit_13 : decode b_M_commit 13 = .ok (.iaload, 1) := by decide +kernel
theorem d_M_commit_14 : decode b_M_commit 14 = .ok (.iadd, 1) := by decide +kernel
theorem d_M_commit_15 : decode b_M_commit 15 = .ok (.iconst 1, 1) := by decide +kernel
theorem d_M_commit_16 : decode b_M_commit 16 = .ok (.isub, 1) := by decide +kernel
theorem d_M_commit_17 : decode b_M_commit 17 = .ok (.iaload, 1) := by decide +kernel
theorem d_M_commit_18 : decode b_M_commit 18 = .ok (.istore_n 3, 1) := by decide +kernel
theorem d_M_commit_19 : decode b_M_commit 19 = .ok (.iload_n 3, 1) := by decide +kernel
theorem d_M_commit_20 : decode b_M_commit 20 = .ok (.iload_n 2, 1) := by decide +kernel
theorem d_M_commit_21 : decode b_M_commit 21 = .ok (.if_icmp .eq 12, 3) := by decide +kernel
theorem d_M_commit_24 : decode b_M_commit 24 = .ok (.aload_n 0, 1) := by decide +kernel
theorem d_M_commit_25 : decode b_M_commit 25 = .ok (.iload_n 3, 1) := by decide +kernel
theorem d_M_commit_26 : decode b_M_commit 26 = .ok (.iload_n 2, 1) := by decide +kernel
theorem d_M_commit_27 : decode b_M_commit 27 = .ok (.invokevirtual 205, 3) := by decide +kernel
theorem d_M_commit_30 : decode b_M_commit 30 = .ok (.ifCond .ne 4, 3) := by decide +kernel
theorem d_M_commit_33 : decode b_M_commit 33 = .ok (.return_, 1) := by decide +kernel
theorem d_M_commit_34 : decode b_M_commit 34 = .ok (.iconst 0, 1) := by decide +kernel
theorem d_M_commit_35 : decode b_M_commit 35 = .ok (.istore 4, 2) := by decide +kernel
theorem d_M_commit_37 : decode b_M_commit 37 = .ok (.iload_n 2, 1) := by decide +kernel
theorem d_M_commit_38 : decode b_M_commit 38 = .ok (.istore 5, 2) := by decide +kernel
theorem d_M_commit_40 : decode b_M_commit 40 = .ok (.iload 5, 2) := by decide +kernel
theorem d_M_commit_42 : decode b_M_commit 42 = .ok (.iload_n 3, 1) := by decide +kernel
theorem d_M_commit_43 : decode b_M_commit 43 = .ok (.if_icmp .eq 18, 3) := by decide +kernel
theorem d_M_commit_46 : decode b_M_commit 46 = .ok (.iinc 4 1, 3) := by decide +kernel
theorem d_M_commit_49 : decode b_M_commit 49 = .ok (.aload_n 0, 1) := by decide +kernel
theorem d_M_commit_50 : decode b_M_commit 50 = .ok (.getfield 33, 3) := by decide +kernel
theorem d_M_commit_53 : decode b_M_commit 53 = .ok (.iload 5, 2) := by decide +kernel
theorem d_M_commit_55 : decode b_M_commit 55 = .ok (.iaload, 1) := by decide +kernel
theorem d_M_commit_56 : decode b_M_commit 56 = .ok (.istore 5, 2) := by decide +kernel
theorem d_M_commit_58 : decode b_M_commit 58 = .ok (.goto (-18), 3) := by decide +kernel
theorem d_M_commit_61 : decode b_M_commit 61 = .ok (.aload_n 0, 1) := by decide +kernel
theorem d_M_commit_62 : decode b_M_commit 62 = .ok (.getfield 82, 3) := by decide +kernel
theorem d_M_commit_65 : decode b_M_commit 65 = .ok (.iload_n 1, 1) := by decide +kernel
theorem d_M_commit_66 : decode b_M_commit 66 = .ok (.iaload, 1) := by decide +kernel
theorem d_M_commit_67 : decode b_M_commit 67 = .ok (.iload 4, 2) := by decide +kernel
theorem d_M_commit_69 : decode b_M_commit 69 = .ok (.iadd, 1) := by decide +kernel
theorem d_M_commit_70 : decode b_M_commit 70 = .ok (.istore 5, 2) := by decide +kernel
theorem d_M_commit_72 : decode b_M_commit 72 = .ok (.aload_n 0, 1) := by decide +kernel
theorem d_M_commit_73 : decode b_M_commit 73 = .ok (.getfield 82, 3) := by decide +kernel
theorem d_M_commit_76 : decode b_M_commit 76 = .ok (.iload_n 1, 1) := by decide +kernel
theorem d_M_commit_77 : decode b_M_commit 77 = .ok (.dup2, 1) := by decide +kernel
theorem d_M_commit_78 : decode b_M_commit 78 = .ok (.iaload, 1) := by decide +kernel
theorem d_M_commit_79 : decode b_M_commit 79 = .ok (.iload 4, 2) := by decide +kernel
theorem d_M_commit_81 : decode b_M_commit 81 = .ok (.iadd, 1) := by decide +kernel
theorem d_M_commit_82 : decode b_M_commit 82 = .ok (.iastore, 1) := by decide +kernel
theorem d_M_commit_83 : decode b_M_commit 83 = .ok (.iload_n 2, 1) := by decide +kernel
theorem d_M_commit_84 : decode b_M_commit 84 = .ok (.istore 6, 2) := by decide +kernel
theorem d_M_commit_86 : decode b_M_commit 86 = .ok (.iload 6, 2) := by decide +kernel
theorem d_M_commit_88 : decode b_M_commit 88 = .ok (.iload_n 3, 1) := by decide +kernel
theorem d_M_commit_89 : decode b_M_commit 89 = .ok (.if_icmp .eq 32, 3) := by decide +kernel
theorem d_M_commit_92 : decode b_M_commit 92 = .ok (.iinc 5 (-1), 3) := by decide +kernel
theorem d_M_commit_95 : decode b_M_commit 95 = .ok (.aload_n 0, 1) := by decide +kernel
theorem d_M_commit_96 : decode b_M_commit 96 = .ok (.getfield 85, 3) := by decide +kernel
theorem d_M_commit_99 : decode b_M_commit 99 = .ok (.bipush 101, 2) := by decide +kernel
theorem d_M_commit_101 : decode b_M_commit 101 = .ok (.iload_n 1, 1) := by decide +kernel
theorem d_M_commit_102 : decode b_M_commit 102 = .ok (.imul, 1) := by decide +kernel
theorem d_M_commit_103 : decode b_M_commit 103 = .ok (.iload 5, 2) := by decide +kernel
theorem d_M_commit_105 : decode b_M_commit 105 = .ok (.iadd, 1) := by decide +kernel
theorem d_M_commit_106 : decode b_M_commit 106 = .ok (.iload 6, 2) := by decide +kernel
theorem d_M_commit_108 : decode b_M_commit 108 = .ok (.iastore, 1) := by decide +kernel
theorem d_M_commit_109 : decode b_M_commit 109 = .ok (.aload_n 0, 1) := by decide +kernel
theorem d_M_commit_110 : decode b_M_commit 110 = .ok (.getfield 33, 3) := by decide +kernel
theorem d_M_commit_113 : decode b_M_commit 113 = .ok (.iload 6, 2) := by decide +kernel
theorem d_M_commit_115 : decode b_M_commit 115 = .ok (.iaload, 1) := by decide +kernel
theorem d_M_commit_116 : decode b_M_commit 116 = .ok (.istore 6, 2) := by decide +kernel
theorem d_M_commit_118 : decode b_M_commit 118 = .ok (.goto (-32), 3) := by decide +kernel
theorem d_M_commit_121 : decode b_M_commit 121 = .ok (.iload 5, 2) := by decide +kernel
theorem d_M_commit_123 : decode b_M_commit 123 = .ok (.istore 6, 2) := by decide +kernel
theorem d_M_commit_125 : decode b_M_commit 125 = .ok (.iload 6, 2) := by decide +kernel
theorem d_M_commit_127 : decode b_M_commit 127 = .ok (.aload_n 0, 1) := by decide +kernel
theorem d_M_commit_128 : decode b_M_commit 128 = .ok (.getfield 82, 3) := by decide +kernel
theorem d_M_commit_131 : decode b_M_commit 131 = .ok (.iload_n 1, 1) := by decide +kernel
theorem d_M_commit_132 : decode b_M_commit 132 = .ok (.iaload, 1) := by decide +kernel
theorem d_M_commit_133 : decode b_M_commit 133 = .ok (.if_icmp .ge 41, 3) := by decide +kernel
theorem d_M_commit_136 : decode b_M_commit 136 = .ok (.aload_n 0, 1) := by decide +kernel
theorem d_M_commit_137 : decode b_M_commit 137 = .ok (.getfield 36, 3) := by decide +kernel
theorem d_M_commit_140 : decode b_M_commit 140 = .ok (.aload_n 0, 1) := by decide +kernel
theorem d_M_commit_141 : decode b_M_commit 141 = .ok (.getfield 85, 3) := by decide +kernel
theorem d_M_commit_144 : decode b_M_commit 144 = .ok (.bipush 101, 2) := by decide +kernel
theorem d_M_commit_146 : decode b_M_commit 146 = .ok (.iload_n 1, 1) := by decide +kernel
theorem d_M_commit_147 : decode b_M_commit 147 = .ok (.imul, 1) := by decide +kernel
theorem d_M_commit_148 : decode b_M_commit 148 = .ok (.iload 6, 2) := by decide +kernel
theorem d_M_commit_150 : decode b_M_commit 150 = .ok (.iadd, 1) := by decide +kernel
theorem d_M_commit_151 : decode b_M_commit 151 = .ok (.iaload, 1) := by decide +kernel
theorem d_M_commit_152 : decode b_M_commit 152 = .ok (.iaload, 1) := by decide +kernel
theorem d_M_commit_153 : decode b_M_commit 153 = .ok (.istore 7, 2) := by decide +kernel
theorem d_M_commit_155 : decode b_M_commit 155 = .ok (.iload 7, 2) := by decide +kernel
theorem d_M_commit_157 : decode b_M_commit 157 = .ok (.iconst (-1), 1) := by decide +kernel
theorem d_M_commit_158 : decode b_M_commit 158 = .ok (.if_icmp .eq 10, 3) := by decide +kernel
theorem d_M_commit_161 : decode b_M_commit 161 = .ok (.aload_n 0, 1) := by decide +kernel
theorem d_M_commit_162 : decode b_M_commit 162 = .ok (.iload_n 1, 1) := by decide +kernel
theorem d_M_commit_163 : decode b_M_commit 163 = .ok (.iload 7, 2) := by decide +kernel
theorem d_M_commit_165 : decode b_M_commit 165 = .ok (.invokevirtual 208, 3) := by decide +kernel
theorem d_M_commit_168 : decode b_M_commit 168 = .ok (.iinc 6 1, 3) := by decide +kernel
theorem d_M_commit_171 : decode b_M_commit 171 = .ok (.goto (-46), 3) := by decide +kernel
theorem d_M_commit_174 : decode b_M_commit 174 = .ok (.return_, 1) := by decide +kernel
def f_M_commit_125 (a1 : Int32) (a2 : Int32) : Nat → St → Int32 → St
  | 0, S, _ => S
  | n + 1, S, l6 =>
    if (S.1 24 0 0 a1.toNatClampNeg) ≤ l6 then
      S
    else
      if (S.1 9 0 0 (S.1 25 0 0 (((101 : Int32) * a1) + l6).toNatClampNeg).toNatClampNeg) = (-1 : Int32) then
        f_M_commit_125 a1 a2 n S (l6 + (1 : Int32))
      else
        lt (f_M_carryOut a1 (S.1 9 0 0 (S.1 25 0 0 (((101 : Int32) * a1) + l6).toNatClampNeg).toNatClampNeg) S) fun (S24 : St) =>
        f_M_commit_125 a1 a2 n S24 (l6 + (1 : Int32))
def ok_M_commit_125 (a1 : Int32) (a2 : Int32) : Nat → St → Int32 → Prop
  | 0, _, _ => False
  | n + 1, S, l6 =>
    (vp_in a1 4) ∧ (
      ((S.1 24 0 0 a1.toNatClampNeg) ≤ l6 → (
        True)) ∧ (¬ ((S.1 24 0 0 a1.toNatClampNeg) ≤ l6) → (
        (vp_in (((101 : Int32) * a1) + l6) 404) ∧ (
          (vp_in (S.1 25 0 0 (((101 : Int32) * a1) + l6).toNatClampNeg) 100) ∧ (
            ((S.1 9 0 0 (S.1 25 0 0 (((101 : Int32) * a1) + l6).toNatClampNeg).toNatClampNeg) = (-1 : Int32) → (
              ok_M_commit_125 a1 a2 n S (l6 + (1 : Int32)))) ∧ (¬ ((S.1 9 0 0 (S.1 25 0 0 (((101 : Int32) * a1) + l6).toNatClampNeg).toNatClampNeg) = (-1 : Int32)) → (
              (ok_M_carryOut a1 (S.1 9 0 0 (S.1 25 0 0 (((101 : Int32) * a1) + l6).toNatClampNeg).toNatClampNeg) S) ∧ (
                lt (f_M_carryOut a1 (S.1 9 0 0 (S.1 25 0 0 (((101 : Int32) * a1) + l6).toNatClampNeg).toNatClampNeg) S) fun (S24 : St) =>
                ok_M_commit_125 a1 a2 n S24 (l6 + (1 : Int32))))))))))
set_option maxHeartbeats 4000000 in
set_option maxRecDepth 100000 in
theorem w_M_commit_125 {l : Launch} {D : va_G} {X : va_W} {ad : N3 → Nat} {ca : Nat → ClassId} (a1 : Int32) (a2 : Int32)  {p : Program} {e : Env} {s : State} {m : MethodId} {below : List Frame} {meth : Method} {c : Code} {A : Nat → Prop} (hy : Hy p s m ([.ref (ad (1, 0, 0)), .int a1, .int a2] : List Value).toArray meth c b_M_commit 8 none R_M GG D clM (tysM ca) nwM) (hA : ∀ q, s.heap.size ≤ q → A q) {res : St} : ∀ (n : Nat) (S : St) (l6 : Int32) , ok_M_commit_125 a1 a2 n S l6 → f_M_commit_125 a1 a2 n S l6 = res → ∀ (H : Heap) (locs : List Loc) (ls : Array Slot), Wd D clM A s.heap (zw X ad TM (cfM ad ca) S) H locs → lv_has ls 8 [(0, .ref (ad (1, 0, 0))), (1, .int a1), (6, .int l6)] → W p l e { frames := 1, cells := 0, slots := 0, locals := 23 } s m ([.ref (ad (1, 0, 0)), .int a1, .int a2] : List Value).toArray below meth c H locs 0 0 (MQ below (eV D clM X ad TM (cfM ad ca) A res) ([.ref (ad (1, 0, 0)), .int a1, .int a2] : List Value).toArray s 0 0 A) (F0 m 125 ls []) := by
  have hF := hy.1
  have hx := hF.1
  have hb := hF.2.1
  have hK := hy.2.2.2
  intro n
  induction n with
  | zero =>
    intro S l6 hk
    exact hk.elim
  | succ n ih =>
    intro S l6 hk hr H locs ls hW hl
    refine lv_iload (pc := 125) hx hb d_M_commit_125 (lv_at hl 2 rfl) ?_
    refine lv_aload_n (pc := 127) hx hb d_M_commit_127 rfl (lv_at hl 0 rfl) ?_
    refine z_get (pc := 128) (v := .ref (ad (24, 0, 0))) hF hK.1 hW tm1 rfl rfl in_M 29 (by decide) gw_913 rfl rfl d_M_commit_128 ?_
    refine lv_iload_n (pc := 131) hx hb d_M_commit_131 rfl (lv_at hl 1 rfl) ?_
    have b17 := hk.1
    have hk := hk.2
    refine z_iald (pc := 132) (v := S.1 24 0 0 a1.toNatClampNeg) hF hK.1 hW tm24 0 rfl rfl b17 rfl d_M_commit_132 ?_
    refine lv_icmp_ge (pc := 133) (tgt := 174) hx hb d_M_commit_133 (by decide) (fun c18 => ?_) (fun c18 => ?_)
    · have hk := hk.1 c18
      have hr := (if_pos c18).symm.trans hr
      exact z_vret hy hW hr.symm d_M_commit_174
    · have hk := hk.2 c18
      have hr := (if_neg c18).symm.trans hr
      refine lv_aload_n (pc := 136) hx hb d_M_commit_136 rfl (lv_at hl 0 rfl) ?_
      refine z_get (pc := 137) (v := .ref (ad (9, 0, 0))) hF hK.1 hW tm1 rfl rfl in_M 14 (by decide) gw_898 rfl rfl d_M_commit_137 ?_
      refine lv_aload_n (pc := 140) hx hb d_M_commit_140 rfl (lv_at hl 0 rfl) ?_
      refine z_get (pc := 141) (v := .ref (ad (25, 0, 0))) hF hK.1 hW tm1 rfl rfl in_M 30 (by decide) gw_914 rfl rfl d_M_commit_141 ?_
      refine lv_bipush (pc := 144) (v := 101) hx hb d_M_commit_144 (by decide) ?_
      refine lv_iload_n (pc := 146) hx hb d_M_commit_146 rfl (lv_at hl 1 rfl) ?_
      refine lv_imul (pc := 147) hx hb d_M_commit_147 ?_
      refine lv_iload (pc := 148) hx hb d_M_commit_148 (lv_at hl 2 rfl) ?_
      refine lv_iadd (pc := 150) hx hb d_M_commit_150 ?_
      have b19 := hk.1
      have hk := hk.2
      refine z_iald (pc := 151) (v := S.1 25 0 0 (((101 : Int32) * a1) + l6).toNatClampNeg) hF hK.1 hW tm25 0 rfl rfl b19 rfl d_M_commit_151 ?_
      have b20 := hk.1
      have hk := hk.2
      refine z_iald (pc := 152) (v := S.1 9 0 0 (S.1 25 0 0 (((101 : Int32) * a1) + l6).toNatClampNeg).toNatClampNeg) hF hK.1 hW tm9 0 rfl rfl b20 rfl d_M_commit_152 ?_
      refine lv_istore (pc := 153) (lv' := [(7, .int (S.1 9 0 0 (S.1 25 0 0 (((101 : Int32) * a1) + l6).toNatClampNeg).toNatClampNeg)), (0, .ref (ad (1, 0, 0))), (1, .int a1), (6, .int l6)]) hx hb d_M_commit_153 hl (by decide) rfl (fun ls hl => ?_)
      refine lv_iload (pc := 155) hx hb d_M_commit_155 (lv_at hl 0 rfl) ?_
      refine lv_iconst (pc := 157) (v := -1) hx hb d_M_commit_157 (by decide) ?_
      refine lv_icmp_eq (pc := 158) (tgt := 168) hx hb d_M_commit_158 (by decide) (fun c21 => ?_) (fun c21 => ?_)
      · have hk := hk.1 c21
        have hr := (if_pos c21).symm.trans hr
        refine lv_iinc (pc := 168) (v := l6 + (1 : Int32)) (lv' := [(6, .int (l6 + (1 : Int32))), (7, .int (S.1 9 0 0 (S.1 25 0 0 (((101 : Int32) * a1) + l6).toNatClampNeg).toNatClampNeg)), (0, .ref (ad (1, 0, 0))), (1, .int a1)]) (k := 3) hx hb d_M_commit_168 hl rfl (z_inc (by decide)) (by decide) rfl (fun ls hl => ?_)
        refine lv_goto (pc := 171) (tgt := 125) hx hb d_M_commit_171 (by decide) ?_
        exact ih S (l6 + (1 : Int32)) hk hr _ _ _ hW (lv_sub hl [2, 3, 0] rfl)
      · have hk := hk.2 c21
        have hr := (if_neg c21).symm.trans hr
        refine lv_aload_n (pc := 161) hx hb d_M_commit_161 rfl (lv_at hl 1 rfl) ?_
        refine lv_iload_n (pc := 162) hx hb d_M_commit_162 rfl (lv_at hl 2 rfl) ?_
        refine lv_iload (pc := 163) hx hb d_M_commit_163 (lv_at hl 0 rfl) ?_
        have o22 := hk.1
        have hk := hk.2
        obtain ⟨S24, eS24⟩ : ∃ z : St, z = f_M_carryOut a1 (S.1 9 0 0 (S.1 25 0 0 (((101 : Int32) * a1) + l6).toNatClampNeg).toNatClampNeg) S := ⟨_, rfl⟩
        have hk := lt_p eS24 hk
        have hr := lt_e eS24 hr
        refine z_goV (pc := 165) hW hA eS24 (z_runV hF hK hW (c_M_carryOut l D X ad ca a1 (S.1 9 0 0 (S.1 25 0 0 (((101 : Int32) * a1) + l6).toNatClampNeg).toNatClampNeg) S o22 _) cd_M_carryOut gw_1078 tm1 rfl rfl ⟨Nat.le_of_ble_eq_true rfl, Nat.le_of_ble_eq_true rfl⟩ ⟨Nat.zero_le _, Nat.zero_le _⟩ rfl rfl hl.1 (Nat.le_of_ble_eq_true rfl) d_M_commit_165) (fun H locs (hW : Wd D clM A s.heap (zw X ad TM (cfM ad ca) S24) H locs) => ?_)
        refine lv_iinc (pc := 168) (v := l6 + (1 : Int32)) (lv' := [(6, .int (l6 + (1 : Int32))), (7, .int (S.1 9 0 0 (S.1 25 0 0 (((101 : Int32) * a1) + l6).toNatClampNeg).toNatClampNeg)), (0, .ref (ad (1, 0, 0))), (1, .int a1)]) (k := 3) hx hb d_M_commit_168 hl rfl (z_inc (by decide)) (by decide) rfl (fun ls hl => ?_)
        refine lv_goto (pc := 171) (tgt := 125) hx hb d_M_commit_171 (by decide) ?_
        exact ih S24 (l6 + (1 : Int32)) hk hr _ _ _ hW (lv_sub hl [2, 3, 0] rfl)
def f_M_commit_86 (a1 : Int32) (a2 : Int32) : Nat → St → Int32 → Int32 → Int32 → St
  | 0, S, _, _, _ => S
  | n + 1, S, l3, l5, l6 =>
    if l6 = l3 then
      f_M_commit_125 a1 a2 200 S l5
    else
      lt (si S 25 0 0 ((((101 : Int32) * a1) + (l5 + (-1 : Int32))).toNatClampNeg) l6) fun (S15 : St) =>
      f_M_commit_86 a1 a2 n S15 l3 (l5 + (-1 : Int32)) (S15.1 8 0 0 l6.toNatClampNeg)
def ok_M_commit_86 (a1 : Int32) (a2 : Int32) : Nat → St → Int32 → Int32 → Int32 → Prop
  | 0, _, _, _, _ => False
  | n + 1, S, l3, l5, l6 =>
    (l6 = l3 → (
      ok_M_commit_125 a1 a2 200 S l5)) ∧ (¬ (l6 = l3) → (
      (vp_in (((101 : Int32) * a1) + (l5 + (-1 : Int32))) 404) ∧ (
        lt (si S 25 0 0 ((((101 : Int32) * a1) + (l5 + (-1 : Int32))).toNatClampNeg) l6) fun (S15 : St) =>
        (vp_in l6 100) ∧ (
          ok_M_commit_86 a1 a2 n S15 l3 (l5 + (-1 : Int32)) (S15.1 8 0 0 l6.toNatClampNeg)))))
set_option maxHeartbeats 4000000 in
set_option maxRecDepth 100000 in
theorem w_M_commit_86 {l : Launch} {D : va_G} {X : va_W} {ad : N3 → Nat} {ca : Nat → ClassId} (a1 : Int32) (a2 : Int32)  {p : Program} {e : Env} {s : State} {m : MethodId} {below : List Frame} {meth : Method} {c : Code} {A : Nat → Prop} (hy : Hy p s m ([.ref (ad (1, 0, 0)), .int a1, .int a2] : List Value).toArray meth c b_M_commit 8 none R_M GG D clM (tysM ca) nwM) (hA : ∀ q, s.heap.size ≤ q → A q) {res : St} : ∀ (n : Nat) (S : St) (l3 : Int32) (l5 : Int32) (l6 : Int32) , ok_M_commit_86 a1 a2 n S l3 l5 l6 → f_M_commit_86 a1 a2 n S l3 l5 l6 = res → ∀ (H : Heap) (locs : List Loc) (ls : Array Slot), Wd D clM A s.heap (zw X ad TM (cfM ad ca) S) H locs → lv_has ls 8 [(0, .ref (ad (1, 0, 0))), (1, .int a1), (3, .int l3), (5, .int l5), (6, .int l6)] → W p l e { frames := 1, cells := 0, slots := 0, locals := 23 } s m ([.ref (ad (1, 0, 0)), .int a1, .int a2] : List Value).toArray below meth c H locs 0 0 (MQ below (eV D clM X ad TM (cfM ad ca) A res) ([.ref (ad (1, 0, 0)), .int a1, .int a2] : List Value).toArray s 0 0 A) (F0 m 86 ls []) := by
  have hF := hy.1
  have hx := hF.1
  have hb := hF.2.1
  have hK := hy.2.2.2
  intro n
  induction n with
  | zero =>
    intro S l3 l5 l6 hk
    exact hk.elim
  | succ n ih =>
    intro S l3 l5 l6 hk hr H locs ls hW hl
    refine lv_iload (pc := 86) hx hb d_M_commit_86 (lv_at hl 4 rfl) ?_
    refine lv_iload_n (pc := 88) hx hb d_M_commit_88 rfl (lv_at hl 2 rfl) ?_
    refine lv_icmp_eq (pc := 89) (tgt := 121) hx hb d_M_commit_89 (by decide) (fun c13 => ?_) (fun c13 => ?_)
    · have hk := hk.1 c13
      have hr := (if_pos c13).symm.trans hr
      refine lv_iload (pc := 121) hx hb d_M_commit_121 (lv_at hl 3 rfl) ?_
      refine lv_istore (pc := 123) (lv' := [(6, .int l5), (0, .ref (ad (1, 0, 0))), (1, .int a1), (3, .int l3), (5, .int l5)]) hx hb d_M_commit_123 hl (by decide) rfl (fun ls hl => ?_)
      exact w_M_commit_125 a1 a2 hy hA 200 S l5 hk hr _ _ _ hW (lv_sub hl [1, 2, 0] rfl)
    · have hk := hk.2 c13
      have hr := (if_neg c13).symm.trans hr
      refine lv_iinc (pc := 92) (v := l5 + (-1 : Int32)) (lv' := [(5, .int (l5 + (-1 : Int32))), (0, .ref (ad (1, 0, 0))), (1, .int a1), (3, .int l3), (6, .int l6)]) (k := 3) hx hb d_M_commit_92 hl rfl (z_inc (by decide)) (by decide) rfl (fun ls hl => ?_)
      refine lv_aload_n (pc := 95) hx hb d_M_commit_95 rfl (lv_at hl 1 rfl) ?_
      refine z_get (pc := 96) (v := .ref (ad (25, 0, 0))) hF hK.1 hW tm1 rfl rfl in_M 30 (by decide) gw_914 rfl rfl d_M_commit_96 ?_
      refine lv_bipush (pc := 99) (v := 101) hx hb d_M_commit_99 (by decide) ?_
      refine lv_iload_n (pc := 101) hx hb d_M_commit_101 rfl (lv_at hl 2 rfl) ?_
      refine lv_imul (pc := 102) hx hb d_M_commit_102 ?_
      refine lv_iload (pc := 103) hx hb d_M_commit_103 (lv_at hl 0 rfl) ?_
      refine lv_iadd (pc := 105) hx hb d_M_commit_105 ?_
      refine lv_iload (pc := 106) hx hb d_M_commit_106 (lv_at hl 4 rfl) ?_
      have b14 := hk.1
      have hk := hk.2
      obtain ⟨S15, eS15⟩ : ∃ z : St, z = si S 25 0 0 ((((101 : Int32) * a1) + (l5 + (-1 : Int32))).toNatClampNeg) l6 := ⟨_, rfl⟩
      have hk := lt_p eS15 hk
      have hr := lt_e eS15 hr
      refine z_iast (pc := 108) (S' := S15) hF hK.1 hW tm25 0 rfl rfl b14 (zs_si eS15 rfl) (zs_sio eS15) d_M_commit_108 (fun H locs (hW : Wd D clM A s.heap (zw X ad TM (cfM ad ca) S15) H locs) => ?_)
      refine lv_aload_n (pc := 109) hx hb d_M_commit_109 rfl (lv_at hl 1 rfl) ?_
      refine z_get (pc := 110) (v := .ref (ad (8, 0, 0))) hF hK.1 hW tm1 rfl rfl in_M 13 (by decide) gw_897 rfl rfl d_M_commit_110 ?_
      refine lv_iload (pc := 113) hx hb d_M_commit_113 (lv_at hl 4 rfl) ?_
      have b16 := hk.1
      have hk := hk.2
      refine z_iald (pc := 115) (v := S15.1 8 0 0 l6.toNatClampNeg) hF hK.1 hW tm8 0 rfl rfl b16 rfl d_M_commit_115 ?_
      refine lv_istore (pc := 116) (lv' := [(6, .int (S15.1 8 0 0 l6.toNatClampNeg)), (5, .int (l5 + (-1 : Int32))), (0, .ref (ad (1, 0, 0))), (1, .int a1), (3, .int l3)]) hx hb d_M_commit_116 hl (by decide) rfl (fun ls hl => ?_)
      refine lv_goto (pc := 118) (tgt := 86) hx hb d_M_commit_118 (by decide) ?_
      exact ih S15 l3 (l5 + (-1 : Int32)) (S15.1 8 0 0 l6.toNatClampNeg) hk hr _ _ _ hW (lv_sub hl [2, 3, 4, 1, 0] rfl)
def f_M_commit_40 (a1 : Int32) (a2 : Int32) : Nat → St → Int32 → Int32 → Int32 → St
  | 0, S, _, _, _ => S
  | n + 1, S, l3, l4, l5 =>
    if l5 = l3 then
      lt (si S 24 0 0 (a1.toNatClampNeg) ((S.1 24 0 0 a1.toNatClampNeg) + l4)) fun (S11 : St) =>
      f_M_commit_86 a1 a2 200 S11 l3 ((S.1 24 0 0 a1.toNatClampNeg) + l4) a2
    else
      f_M_commit_40 a1 a2 n S l3 (l4 + (1 : Int32)) (S.1 8 0 0 l5.toNatClampNeg)
def ok_M_commit_40 (a1 : Int32) (a2 : Int32) : Nat → St → Int32 → Int32 → Int32 → Prop
  | 0, _, _, _, _ => False
  | n + 1, S, l3, l4, l5 =>
    (l5 = l3 → (
      (vp_in a1 4) ∧ (
        (vp_in a1 4) ∧ (
          (vp_in a1 4) ∧ (
            lt (si S 24 0 0 (a1.toNatClampNeg) ((S.1 24 0 0 a1.toNatClampNeg) + l4)) fun (S11 : St) =>
            ok_M_commit_86 a1 a2 200 S11 l3 ((S.1 24 0 0 a1.toNatClampNeg) + l4) a2))))) ∧ (¬ (l5 = l3) → (
      (vp_in l5 100) ∧ (
        ok_M_commit_40 a1 a2 n S l3 (l4 + (1 : Int32)) (S.1 8 0 0 l5.toNatClampNeg))))
set_option maxHeartbeats 4000000 in
set_option maxRecDepth 100000 in
theorem w_M_commit_40 {l : Launch} {D : va_G} {X : va_W} {ad : N3 → Nat} {ca : Nat → ClassId} (a1 : Int32) (a2 : Int32)  {p : Program} {e : Env} {s : State} {m : MethodId} {below : List Frame} {meth : Method} {c : Code} {A : Nat → Prop} (hy : Hy p s m ([.ref (ad (1, 0, 0)), .int a1, .int a2] : List Value).toArray meth c b_M_commit 8 none R_M GG D clM (tysM ca) nwM) (hA : ∀ q, s.heap.size ≤ q → A q) {res : St} : ∀ (n : Nat) (S : St) (l3 : Int32) (l4 : Int32) (l5 : Int32) , ok_M_commit_40 a1 a2 n S l3 l4 l5 → f_M_commit_40 a1 a2 n S l3 l4 l5 = res → ∀ (H : Heap) (locs : List Loc) (ls : Array Slot), Wd D clM A s.heap (zw X ad TM (cfM ad ca) S) H locs → lv_has ls 8 [(0, .ref (ad (1, 0, 0))), (1, .int a1), (2, .int a2), (3, .int l3), (4, .int l4), (5, .int l5)] → W p l e { frames := 1, cells := 0, slots := 0, locals := 23 } s m ([.ref (ad (1, 0, 0)), .int a1, .int a2] : List Value).toArray below meth c H locs 0 0 (MQ below (eV D clM X ad TM (cfM ad ca) A res) ([.ref (ad (1, 0, 0)), .int a1, .int a2] : List Value).toArray s 0 0 A) (F0 m 40 ls []) := by
  have hF := hy.1
  have hx := hF.1
  have hb := hF.2.1
  have hK := hy.2.2.2
  intro n
  induction n with
  | zero =>
    intro S l3 l4 l5 hk
    exact hk.elim
  | succ n ih =>
    intro S l3 l4 l5 hk hr H locs ls hW hl
    refine lv_iload (pc := 40) hx hb d_M_commit_40 (lv_at hl 5 rfl) ?_
    refine lv_iload_n (pc := 42) hx hb d_M_commit_42 rfl (lv_at hl 3 rfl) ?_
    refine lv_icmp_eq (pc := 43) (tgt := 61) hx hb d_M_commit_43 (by decide) (fun c7 => ?_) (fun c7 => ?_)
    · have hk := hk.1 c7
      have hr := (if_pos c7).symm.trans hr
      refine lv_aload_n (pc := 61) hx hb d_M_commit_61 rfl (lv_at hl 0 rfl) ?_
      refine z_get (pc := 62) (v := .ref (ad (24, 0, 0))) hF hK.1 hW tm1 rfl rfl in_M 29 (by decide) gw_913 rfl rfl d_M_commit_62 ?_
      refine lv_iload_n (pc := 65) hx hb d_M_commit_65 rfl (lv_at hl 1 rfl) ?_
      have b8 := hk.1
      have hk := hk.2
      refine z_iald (pc := 66) (v := S.1 24 0 0 a1.toNatClampNeg) hF hK.1 hW tm24 0 rfl rfl b8 rfl d_M_commit_66 ?_
      refine lv_iload (pc := 67) hx hb d_M_commit_67 (lv_at hl 4 rfl) ?_
      refine lv_iadd (pc := 69) hx hb d_M_commit_69 ?_
      refine lv_istore (pc := 70) (lv' := [(5, .int ((S.1 24 0 0 a1.toNatClampNeg) + l4)), (0, .ref (ad (1, 0, 0))), (1, .int a1), (2, .int a2), (3, .int l3), (4, .int l4)]) hx hb d_M_commit_70 hl (by decide) rfl (fun ls hl => ?_)
      refine lv_aload_n (pc := 72) hx hb d_M_commit_72 rfl (lv_at hl 1 rfl) ?_
      refine z_get (pc := 73) (v := .ref (ad (24, 0, 0))) hF hK.1 hW tm1 rfl rfl in_M 29 (by decide) gw_913 rfl rfl d_M_commit_73 ?_
      refine lv_iload_n (pc := 76) hx hb d_M_commit_76 rfl (lv_at hl 2 rfl) ?_
      refine lv_dup2_11 (pc := 77) hx hb d_M_commit_77 rfl rfl ?_
      have b9 := hk.1
      have hk := hk.2
      refine z_iald (pc := 78) (v := S.1 24 0 0 a1.toNatClampNeg) hF hK.1 hW tm24 0 rfl rfl b9 rfl d_M_commit_78 ?_
      refine lv_iload (pc := 79) hx hb d_M_commit_79 (lv_at hl 5 rfl) ?_
      refine lv_iadd (pc := 81) hx hb d_M_commit_81 ?_
      have b10 := hk.1
      have hk := hk.2
      obtain ⟨S11, eS11⟩ : ∃ z : St, z = si S 24 0 0 (a1.toNatClampNeg) ((S.1 24 0 0 a1.toNatClampNeg) + l4) := ⟨_, rfl⟩
      have hk := lt_p eS11 hk
      have hr := lt_e eS11 hr
      refine z_iast (pc := 82) (S' := S11) hF hK.1 hW tm24 0 rfl rfl b10 (zs_si eS11 rfl) (zs_sio eS11) d_M_commit_82 (fun H locs (hW : Wd D clM A s.heap (zw X ad TM (cfM ad ca) S11) H locs) => ?_)
      refine lv_iload_n (pc := 83) hx hb d_M_commit_83 rfl (lv_at hl 3 rfl) ?_
      refine lv_istore (pc := 84) (lv' := [(6, .int a2), (5, .int ((S.1 24 0 0 a1.toNatClampNeg) + l4)), (0, .ref (ad (1, 0, 0))), (1, .int a1), (2, .int a2), (3, .int l3), (4, .int l4)]) hx hb d_M_commit_84 hl (by decide) rfl (fun ls hl => ?_)
      exact w_M_commit_86 a1 a2 hy hA 200 S11 l3 ((S.1 24 0 0 a1.toNatClampNeg) + l4) a2 hk hr _ _ _ hW (lv_sub hl [2, 3, 5, 1, 0] rfl)
    · have hk := hk.2 c7
      have hr := (if_neg c7).symm.trans hr
      refine lv_iinc (pc := 46) (v := l4 + (1 : Int32)) (lv' := [(4, .int (l4 + (1 : Int32))), (0, .ref (ad (1, 0, 0))), (1, .int a1), (2, .int a2), (3, .int l3), (5, .int l5)]) (k := 4) hx hb d_M_commit_46 hl rfl (z_inc (by decide)) (by decide) rfl (fun ls hl => ?_)
      refine lv_aload_n (pc := 49) hx hb d_M_commit_49 rfl (lv_at hl 1 rfl) ?_
      refine z_get (pc := 50) (v := .ref (ad (8, 0, 0))) hF hK.1 hW tm1 rfl rfl in_M 13 (by decide) gw_897 rfl rfl d_M_commit_50 ?_
      refine lv_iload (pc := 53) hx hb d_M_commit_53 (lv_at hl 5 rfl) ?_
      have b12 := hk.1
      have hk := hk.2
      refine z_iald (pc := 55) (v := S.1 8 0 0 l5.toNatClampNeg) hF hK.1 hW tm8 0 rfl rfl b12 rfl d_M_commit_55 ?_
      refine lv_istore (pc := 56) (lv' := [(5, .int (S.1 8 0 0 l5.toNatClampNeg)), (4, .int (l4 + (1 : Int32))), (0, .ref (ad (1, 0, 0))), (1, .int a1), (2, .int a2), (3, .int l3)]) hx hb d_M_commit_56 hl (by decide) rfl (fun ls hl => ?_)
      refine lv_goto (pc := 58) (tgt := 40) hx hb d_M_commit_58 (by decide) ?_
      exact ih S l3 (l4 + (1 : Int32)) (S.1 8 0 0 l5.toNatClampNeg) hk hr _ _ _ hW (lv_sub hl [2, 3, 4, 5, 1, 0] rfl)
def f_M_commit (a1 : Int32) (a2 : Int32) (S : St) : St :=
  if (S.1 25 0 0 ((((101 : Int32) * a1) + (S.1 24 0 0 a1.toNatClampNeg)) - (1 : Int32)).toNatClampNeg) = a2 then
    S
  else
    lt (f_M_below (S.1 25 0 0 ((((101 : Int32) * a1) + (S.1 24 0 0 a1.toNatClampNeg)) - (1 : Int32)).toNatClampNeg) a2 S) fun (r5 : Int32) =>
    if r5 = 0 then
      S
    else
      f_M_commit_40 a1 a2 200 S (S.1 25 0 0 ((((101 : Int32) * a1) + (S.1 24 0 0 a1.toNatClampNeg)) - (1 : Int32)).toNatClampNeg) (0 : Int32) a2
def ok_M_commit (a1 : Int32) (a2 : Int32) (S : St) : Prop :=
  (vp_in a1 4) ∧ (
    (vp_in ((((101 : Int32) * a1) + (S.1 24 0 0 a1.toNatClampNeg)) - (1 : Int32)) 404) ∧ (
      ((S.1 25 0 0 ((((101 : Int32) * a1) + (S.1 24 0 0 a1.toNatClampNeg)) - (1 : Int32)).toNatClampNeg) = a2 → (
        True)) ∧ (¬ ((S.1 25 0 0 ((((101 : Int32) * a1) + (S.1 24 0 0 a1.toNatClampNeg)) - (1 : Int32)).toNatClampNeg) = a2) → (
        (ok_M_below (S.1 25 0 0 ((((101 : Int32) * a1) + (S.1 24 0 0 a1.toNatClampNeg)) - (1 : Int32)).toNatClampNeg) a2 S) ∧ (
          lt (f_M_below (S.1 25 0 0 ((((101 : Int32) * a1) + (S.1 24 0 0 a1.toNatClampNeg)) - (1 : Int32)).toNatClampNeg) a2 S) fun (r5 : Int32) =>
          (r5 = 0 → (
            True)) ∧ (¬ (r5 = 0) → (
            ok_M_commit_40 a1 a2 200 S (S.1 25 0 0 ((((101 : Int32) * a1) + (S.1 24 0 0 a1.toNatClampNeg)) - (1 : Int32)).toNatClampNeg) (0 : Int32) a2)))))))
set_option maxHeartbeats 4000000 in
set_option maxRecDepth 100000 in
theorem c_M_commit (l : Launch) (D : va_G) (X : va_W) (ad : N3 → Nat) (ca : Nat → ClassId) (a1 : Int32) (a2 : Int32)  (S : St) (hk : ok_M_commit a1 a2 S) : cV l GG D clM (tysM ca) nwM X ad TM (cfM ad ca) y_M_commit b_M_commit 8 1 23 [.ref (ad (1, 0, 0)), .int a1, .int a2] S (f_M_commit a1 a2 S) := by
  generalize hr : f_M_commit a1 a2 S = res
  refine zV_of pn_M (Nat.le_of_ble_eq_true rfl) (fun p e s m below meth c A ls hy hW hA hl => ?_)
  have hF := hy.1
  have hx := hF.1
  have hb := hF.2.1
  have hK := hy.2.2.2
  have hl : lv_has ls 8 [(0, .ref (ad (1, 0, 0))), (1, .int a1), (2, .int a2)] := hl
  refine lv_aload_n (pc := 0) hx hb d_M_commit_0 rfl (lv_at hl 0 rfl) ?_
  refine z_get (pc := 1) (v := .ref (ad (25, 0, 0))) hF hK.1 hW tm1 rfl rfl in_M 30 (by decide) gw_914 rfl rfl d_M_commit_1 ?_
  refine lv_bipush (pc := 4) (v := 101) hx hb d_M_commit_4 (by decide) ?_
  refine lv_iload_n (pc := 6) hx hb d_M_commit_6 rfl (lv_at hl 1 rfl) ?_
  refine lv_imul (pc := 7) hx hb d_M_commit_7 ?_
  refine lv_aload_n (pc := 8) hx hb d_M_commit_8 rfl (lv_at hl 0 rfl) ?_
  refine z_get (pc := 9) (v := .ref (ad (24, 0, 0))) hF hK.1 hW tm1 rfl rfl in_M 29 (by decide) gw_913 rfl rfl d_M_commit_9 ?_
  refine lv_iload_n (pc := 12) hx hb d_M_commit_12 rfl (lv_at hl 1 rfl) ?_
  have b1 := hk.1
  have hk := hk.2
  refine z_iald (pc := 13) (v := S.1 24 0 0 a1.toNatClampNeg) hF hK.1 hW tm24 0 rfl rfl b1 rfl d_M_commit_13 ?_
  refine lv_iadd (pc := 14) hx hb d_M_commit_14 ?_
  refine lv_iconst (pc := 15) (v := 1) hx hb d_M_commit_15 (by decide) ?_
  refine lv_isub (pc := 16) hx hb d_M_commit_16 ?_
  have b2 := hk.1
  have hk := hk.2
  refine z_iald (pc := 17) (v := S.1 25 0 0 ((((101 : Int32) * a1) + (S.1 24 0 0 a1.toNatClampNeg)) - (1 : Int32)).toNatClampNeg) hF hK.1 hW tm25 0 rfl rfl b2 rfl d_M_commit_17 ?_
  refine lv_istore_n (pc := 18) (lv' := [(3, .int (S.1 25 0 0 ((((101 : Int32) * a1) + (S.1 24 0 0 a1.toNatClampNeg)) - (1 : Int32)).toNatClampNeg)), (0, .ref (ad (1, 0, 0))), (1, .int a1), (2, .int a2)]) hx hb d_M_commit_18 rfl hl (by decide) rfl (fun ls hl => ?_)
  refine lv_iload_n (pc := 19) hx hb d_M_commit_19 rfl (lv_at hl 0 rfl) ?_
  refine lv_iload_n (pc := 20) hx hb d_M_commit_20 rfl (lv_at hl 3 rfl) ?_
  refine lv_icmp_eq (pc := 21) (tgt := 33) hx hb d_M_commit_21 (by decide) (fun c3 => ?_) (fun c3 => ?_)
  · have hk := hk.1 c3
    have hr := (if_pos c3).symm.trans hr
    exact z_vret hy hW hr.symm d_M_commit_33
  · have hk := hk.2 c3
    have hr := (if_neg c3).symm.trans hr
    refine lv_aload_n (pc := 24) hx hb d_M_commit_24 rfl (lv_at hl 1 rfl) ?_
    refine lv_iload_n (pc := 25) hx hb d_M_commit_25 rfl (lv_at hl 0 rfl) ?_
    refine lv_iload_n (pc := 26) hx hb d_M_commit_26 rfl (lv_at hl 3 rfl) ?_
    have o4 := hk.1
    have hk := hk.2
    obtain ⟨r5, er5⟩ : ∃ z : Int32, z = f_M_below (S.1 25 0 0 ((((101 : Int32) * a1) + (S.1 24 0 0 a1.toNatClampNeg)) - (1 : Int32)).toNatClampNeg) a2 S := ⟨_, rfl⟩
    have hk := lt_p er5 hk
    have hr := lt_e er5 hr
    refine p_go (pc := 27) (congrArg Value.int er5) (p_runV hF hK hW (c_M_below l D X ad ca (S.1 25 0 0 ((((101 : Int32) * a1) + (S.1 24 0 0 a1.toNatClampNeg)) - (1 : Int32)).toNatClampNeg) a2 S o4 _) cd_M_below gw_1074 tm1 rfl rfl ⟨Nat.le_of_ble_eq_true rfl, Nat.le_of_ble_eq_true rfl⟩ ⟨Nat.zero_le _, Nat.zero_le _⟩ rfl rfl hl.1 (Nat.le_of_ble_eq_true rfl) d_M_commit_27) ?_
    refine lv_if_ne (pc := 30) (tgt := 34) hx hb d_M_commit_30 (by decide) (fun c6 => ?_) (fun c6 => ?_)
    · have hk := hk.2 c6
      have hr := (if_neg c6).symm.trans hr
      refine lv_iconst (pc := 34) (v := 0) hx hb d_M_commit_34 (by decide) ?_
      refine lv_istore (pc := 35) (lv' := [(4, .int (0 : Int32)), (3, .int (S.1 25 0 0 ((((101 : Int32) * a1) + (S.1 24 0 0 a1.toNatClampNeg)) - (1 : Int32)).toNatClampNeg)), (0, .ref (ad (1, 0, 0))), (1, .int a1), (2, .int a2)]) hx hb d_M_commit_35 hl (by decide) rfl (fun ls hl => ?_)
      refine lv_iload_n (pc := 37) hx hb d_M_commit_37 rfl (lv_at hl 4 rfl) ?_
      refine lv_istore (pc := 38) (lv' := [(5, .int a2), (4, .int (0 : Int32)), (3, .int (S.1 25 0 0 ((((101 : Int32) * a1) + (S.1 24 0 0 a1.toNatClampNeg)) - (1 : Int32)).toNatClampNeg)), (0, .ref (ad (1, 0, 0))), (1, .int a1), (2, .int a2)]) hx hb d_M_commit_38 hl (by decide) rfl (fun ls hl => ?_)
      exact w_M_commit_40 a1 a2 hy hA 200 S (S.1 25 0 0 ((((101 : Int32) * a1) + (S.1 24 0 0 a1.toNatClampNeg)) - (1 : Int32)).toNatClampNeg) (0 : Int32) a2 hk hr _ _ _ hW (lv_sub hl [3, 4, 5, 2, 1, 0] rfl)
    · have hk := hk.1 c6
      have hr := (if_pos c6).symm.trans hr
      exact z_vret hy hW hr.symm d_M_commit_33
theorem d_M_takes_0 : decode b_M_takes 0 = .ok (.aload_n 0, 1) := by decide +kernel
theorem d_M_takes_1 : decode b_M_takes 1 = .ok (.getfield 55, 3) := by decide +kernel
theorem d_M_takes_4 : decode b_M_takes 4 = .ok (.iload_n 1, 1) := by decide +kernel
theorem d_M_takes_5 : decode b_M_takes 5 = .ok (.aload_n 0, 1) := by decide +kernel
theorem d_M_takes_6 : decode b_M_takes 6 = .ok (.getfield 30, 3) := by decide +kernel
theorem d_M_takes_9 : decode b_M_takes 9 = .ok (.iload_n 2, 1) := by decide +kernel
theorem d_M_takes_10 : decode b_M_takes 10 = .ok (.iaload, 1) := by decide +kernel
theorem d_M_takes_11 : decode b_M_takes 11 = .ok (.aload_n 0, 1) := by decide +kernel
theorem d_M_takes_12 : decode b_M_takes 12 = .ok (.getfield 30, 3) := by decide +kernel
theorem d_M_takes_15 : decode b_M_takes 15 = .ok (.aload_n 0, 1) := by decide +kernel
theorem d_M_takes_16 : decode b_M_takes 16 = .ok (.getfield 55, 3) := by decide +kernel
theorem d_M_takes_19 : decode b_M_takes 19 = .ok (.iload_n 1, 1) := by decide +kernel
theorem d_M_takes_20 : decode b_M_takes 20 = .ok (.iaload, 1) := by decide +kernel
theorem d_M_takes_21 : decode b_M_takes 21 = .ok (.iaload, 1) := by decide +kernel
theorem d_M_takes_22 : decode b_M_takes 22 = .ok (.if_icmp .le 7, 3) := by decide +kernel
theorem d_M_takes_25 : decode b_M_takes 25 = .ok (.iload_n 2, 1) := by decide +kernel
theorem d_M_takes_26 : decode b_M_takes 26 = .ok (.goto 9, 3) := by decide +kernel
theorem d_M_takes_29 : decode b_M_takes 29 = .ok (.aload_n 0, 1) := by decide +kernel
theorem d_M_takes_30 : decode b_M_takes 30 = .ok (.getfield 55, 3) := by decide +kernel
theorem d_M_takes_33 : decode b_M_takes 33 = .ok (.iload_n 1, 1) := by decide +kernel
theorem d_M_takes_34 : decode b_M_takes 34 = .ok (.iaload, 1) := by decide +kernel
theorem d_M_takes_35 : decode b_M_takes 35 = .ok (.iastore, 1) := by decide +kernel
theorem d_M_takes_36 : decode b_M_takes 36 = .ok (.aload_n 0, 1) := by decide +kernel
theorem d_M_takes_37 : decode b_M_takes 37 = .ok (.getfield 33, 3) := by decide +kernel
theorem d_M_takes_40 : decode b_M_takes 40 = .ok (.iload_n 2, 1) := by decide +kernel
theorem d_M_takes_41 : decode b_M_takes 41 = .ok (.iaload, 1) := by decide +kernel
theorem d_M_takes_42 : decode b_M_takes 42 = .ok (.istore_n 3, 1) := by decide +kernel
theorem d_M_takes_43 : decode b_M_takes 43 = .ok (.iload_n 3, 1) := by decide +kernel
theorem d_M_takes_44 : decode b_M_takes 44 = .ok (.iconst (-1), 1) := by decide +kernel
theorem d_M_takes_45 : decode b_M_takes 45 = .ok (.if_icmp .ne 4, 3) := by decide +kernel
theorem d_M_takes_48 : decode b_M_takes 48 = .ok (.return_, 1) := by decide +kernel
theorem d_M_takes_49 : decode b_M_takes 49 = .ok (.aload_n 0, 1) := by decide +kernel
theorem d_M_takes_50 : decode b_M_takes 50 = .ok (.getfield 61, 3) := by decide +kernel
theorem d_M_takes_53 : decode b_M_takes 53 = .ok (.iload_n 1, 1) := by decide +kernel
theorem d_M_takes_54 : decode b_M_takes 54 = .ok (.aload_n 0, 1) := by decide +kernel
theorem d_M_takes_55 : decode b_M_takes 55 = .ok (.getfield 30, 3) := by decide +kernel
theorem d_M_takes_58 : decode b_M_takes 58 = .ok (.iload_n 3, 1) := by decide +kernel
theorem d_M_takes_59 : decode b_M_takes 59 = .ok (.iaload, 1) := by decide +kernel
theorem d_M_takes_60 : decode b_M_takes 60 = .ok (.aload_n 0, 1) := by decide +kernel
theorem d_M_takes_61 : decode b_M_takes 61 = .ok (.getfield 30, 3) := by decide +kernel
theorem d_M_takes_64 : decode b_M_takes 64 = .ok (.aload_n 0, 1) := by decide +kernel
theorem d_M_takes_65 : decode b_M_takes 65 = .ok (.getfield 61, 3) := by decide +kernel
theorem d_M_takes_68 : decode b_M_takes 68 = .ok (.iload_n 1, 1) := by decide +kernel
theorem d_M_takes_69 : decode b_M_takes 69 = .ok (.iaload, 1) := by decide +kernel
theorem d_M_takes_70 : decode b_M_takes 70 = .ok (.iaload, 1) := by decide +kernel
theorem d_M_takes_71 : decode b_M_takes 71 = .ok (.if_icmp .le 7, 3) := by decide +kernel
theorem d_M_takes_74 : decode b_M_takes 74 = .ok (.iload_n 3, 1) := by decide +kernel
theorem d_M_takes_75 : decode b_M_takes 75 = .ok (.goto 9, 3) := by decide +kernel
theorem d_M_takes_78 : decode b_M_takes 78 = .ok (.aload_n 0, 1) := by decide +kernel
theorem d_M_takes_79 : decode b_M_takes 79 = .ok (.getfield 61, 3) := by decide +kernel
theorem d_M_takes_82 : decode b_M_takes 82 = .ok (.iload_n 1, 1) := by decide +kernel
theorem d_M_takes_83 : decode b_M_takes 83 = .ok (.iaload, 1) := by decide +kernel
theorem d_M_takes_84 : decode b_M_takes 84 = .ok (.iastore, 1) := by decide +kernel
theorem d_M_takes_85 : decode b_M_takes 85 = .ok (.aload_n 0, 1) := by decide +kernel
theorem d_M_takes_86 : decode b_M_takes 86 = .ok (.getfield 33, 3) := by decide +kernel
theorem d_M_takes_89 : decode b_M_takes 89 = .ok (.iload_n 3, 1) := by decide +kernel
theorem d_M_takes_90 : decode b_M_takes 90 = .ok (.iaload, 1) := by decide +kernel
theorem d_M_takes_91 : decode b_M_takes 91 = .ok (.istore 4, 2) := by decide +kernel
theorem d_M_takes_93 : decode b_M_takes 93 = .ok (.iload 4, 2) := by decide +kernel
theorem d_M_takes_95 : decode b_M_takes 95 = .ok (.iconst (-1), 1) := by decide +kernel
theorem d_M_takes_96 : decode b_M_takes 96 = .ok (.if_icmp .eq 45, 3) := by decide +kernel
theorem d_M_takes_99 : decode b_M_takes 99 = .ok (.aload_n 0, 1) := by decide +kernel
theorem d_M_takes_100 : decode b_M_takes 100 = .ok (.getfield 30, 3) := by decide +kernel
theorem d_M_takes_103 : decode b_M_takes 103 = .ok (.iload_n 3, 1) := by decide +kernel
theorem d_M_takes_104 : decode b_M_takes 104 = .ok (.iaload, 1) := by decide +kernel
theorem d_M_takes_105 : decode b_M_takes 105 = .ok (.aload_n 0, 1) := by decide +kernel
theorem d_M_takes_106 : decode b_M_takes 106 = .ok (.getfield 30, 3) := by decide +kernel
theorem d_M_takes_109 : decode b_M_takes 109 = .ok (.iload_n 2, 1) := by decide +kernel
theorem d_M_takes_110 : decode b_M_takes 110 = .ok (.iaload, 1) := by decide +kernel
theorem d_M_takes_111 : decode b_M_takes 111 = .ok (.iconst 1, 1) := by decide +kernel
theorem d_M_takes_112 : decode b_M_takes 112 = .ok (.isub, 1) := by decide +kernel
theorem d_M_takes_113 : decode b_M_takes 113 = .ok (.if_icmp .ne 28, 3) := by decide +kernel
theorem d_M_takes_116 : decode b_M_takes 116 = .ok (.aload_n 0, 1) := by decide +kernel
theorem d_M_takes_117 : decode b_M_takes 117 = .ok (.getfield 30, 3) := by decide +kernel
theorem d_M_takes_120 : decode b_M_takes 120 = .ok (.iload 4, 2) := by decide +kernel
theorem d_M_takes_122 : decode b_M_takes 122 = .ok (.iaload, 1) := by decide +kernel
theorem d_M_takes_123 : decode b_M_takes 123 = .ok (.aload_n 0, 1) := by decide +kernel
theorem d_M_takes_124 : decode b_M_takes 124 = .ok (.getfield 30, 3) := by decide +kernel
theorem d_M_takes_127 : decode b_M_takes 127 = .ok (.iload_n 3, 1) := by decide +kernel
theorem d_M_takes_128 : decode b_M_takes 128 = .ok (.iaload, 1) := by decide +kernel
theorem d_M_takes_129 : decode b_M_takes 129 = .ok (.iconst 1, 1) := by decide +kernel
theorem d_M_takes_130 : decode b_M_takes 130 = .ok (.isub, 1) := by decide +kernel
theorem d_M_takes_131 : decode b_M_takes 131 = .ok (.if_icmp .ne 10, 3) := by decide +kernel
theorem d_M_takes_134 : decode b_M_takes 134 = .ok (.aload_n 0, 1) := by decide +kernel
theorem d_M_takes_135 : decode b_M_takes 135 = .ok (.iload_n 1, 1) := by decide +kernel
theorem d_M_takes_136 : decode b_M_takes 136 = .ok (.iload 4, 2) := by decide +kernel
theorem d_M_takes_138 : decode b_M_takes 138 = .ok (.invokevirtual 211, 3) := by decide +kernel
theorem d_M_takes_141 : decode b_M_takes 141 = .ok (.return_, 1) := by decide +kernel
def f_M_takes_84 (a1 : Int32) (a2 : Int32) (S : St) (l3 : Int32) (t0 : Int32) (t1 : Int32) : St :=
  lt (si S 17 0 0 (t1.toNatClampNeg) t0) fun (S16 : St) =>
  if (S16.1 8 0 0 l3.toNatClampNeg) = (-1 : Int32) then
    S16
  else
    if (S16.1 7 0 0 l3.toNatClampNeg) = ((S16.1 7 0 0 a2.toNatClampNeg) - (1 : Int32)) then
      if (S16.1 7 0 0 (S16.1 8 0 0 l3.toNatClampNeg).toNatClampNeg) = ((S16.1 7 0 0 l3.toNatClampNeg) - (1 : Int32)) then
        lt (f_M_commit a1 (S16.1 8 0 0 l3.toNatClampNeg) S16) fun (S27 : St) =>
        S27
      else
        S16
    else
      S16
def ok_M_takes_84 (a1 : Int32) (a2 : Int32) (S : St) (l3 : Int32) (t0 : Int32) (t1 : Int32) : Prop :=
  (vp_in t1 4) ∧ (
    lt (si S 17 0 0 (t1.toNatClampNeg) t0) fun (S16 : St) =>
    (vp_in l3 100) ∧ (
      ((S16.1 8 0 0 l3.toNatClampNeg) = (-1 : Int32) → (
        True)) ∧ (¬ ((S16.1 8 0 0 l3.toNatClampNeg) = (-1 : Int32)) → (
        (vp_in l3 100) ∧ (
          (vp_in a2 100) ∧ (
            ((S16.1 7 0 0 l3.toNatClampNeg) = ((S16.1 7 0 0 a2.toNatClampNeg) - (1 : Int32)) → (
              (vp_in (S16.1 8 0 0 l3.toNatClampNeg) 100) ∧ (
                (vp_in l3 100) ∧ (
                  ((S16.1 7 0 0 (S16.1 8 0 0 l3.toNatClampNeg).toNatClampNeg) = ((S16.1 7 0 0 l3.toNatClampNeg) - (1 : Int32)) → (
                    (ok_M_commit a1 (S16.1 8 0 0 l3.toNatClampNeg) S16) ∧ (
                      True))) ∧ (¬ ((S16.1 7 0 0 (S16.1 8 0 0 l3.toNatClampNeg).toNatClampNeg) = ((S16.1 7 0 0 l3.toNatClampNeg) - (1 : Int32))) → (
                    True)))))) ∧ (¬ ((S16.1 7 0 0 l3.toNatClampNeg) = ((S16.1 7 0 0 a2.toNatClampNeg) - (1 : Int32))) → (
              True))))))))
set_option maxHeartbeats 4000000 in
set_option maxRecDepth 100000 in
theorem w_M_takes_84 {l : Launch} {D : va_G} {X : va_W} {ad : N3 → Nat} {ca : Nat → ClassId} (a1 : Int32) (a2 : Int32)  {p : Program} {e : Env} {s : State} {m : MethodId} {below : List Frame} {meth : Method} {c : Code} {A : Nat → Prop} (hy : Hy p s m ([.ref (ad (1, 0, 0)), .int a1, .int a2] : List Value).toArray meth c b_M_takes 5 none R_M GG D clM (tysM ca) nwM) (hA : ∀ q, s.heap.size ≤ q → A q) {res : St} : ∀  (S : St) (l3 : Int32) (t0 : Int32) (t1 : Int32) , ok_M_takes_84 a1 a2 S l3 t0 t1 → f_M_takes_84 a1 a2 S l3 t0 t1 = res → ∀ (H : Heap) (locs : List Loc) (ls : Array Slot), Wd D clM A s.heap (zw X ad TM (cfM ad ca) S) H locs → lv_has ls 5 [(0, .ref (ad (1, 0, 0))), (1, .int a1), (2, .int a2), (3, .int l3)] → W p l e { frames := 2, cells := 0, slots := 0, locals := 50 } s m ([.ref (ad (1, 0, 0)), .int a1, .int a2] : List Value).toArray below meth c H locs 0 0 (MQ below (eV D clM X ad TM (cfM ad ca) A res) ([.ref (ad (1, 0, 0)), .int a1, .int a2] : List Value).toArray s 0 0 A) (F0 m 84 ls [.int t0, .int t1, .ref (ad (17, 0, 0))]) := by
  have hF := hy.1
  have hx := hF.1
  have hb := hF.2.1
  have hK := hy.2.2.2
  intro S l3 t0 t1 hk hr H locs ls hW hl
  have b15 := hk.1
  have hk := hk.2
  obtain ⟨S16, eS16⟩ : ∃ z : St, z = si S 17 0 0 (t1.toNatClampNeg) t0 := ⟨_, rfl⟩
  have hk := lt_p eS16 hk
  have hr := lt_e eS16 hr
  refine z_iast (pc := 84) (S' := S16) hF hK.1 hW tm17 0 rfl rfl b15 (zs_si eS16 rfl) (zs_sio eS16) d_M_takes_84 (fun H locs (hW : Wd D clM A s.heap (zw X ad TM (cfM ad ca) S16) H locs) => ?_)
  refine lv_aload_n (pc := 85) hx hb d_M_takes_85 rfl (lv_at hl 0 rfl) ?_
  refine z_get (pc := 86) (v := .ref (ad (8, 0, 0))) hF hK.1 hW tm1 rfl rfl in_M 13 (by decide) gw_897 rfl rfl d_M_takes_86 ?_
  refine lv_iload_n (pc := 89) hx hb d_M_takes_89 rfl (lv_at hl 3 rfl) ?_
  have b17 := hk.1
  have hk := hk.2
  refine z_iald (pc := 90) (v := S16.1 8 0 0 l3.toNatClampNeg) hF hK.1 hW tm8 0 rfl rfl b17 rfl d_M_takes_90 ?_
  refine lv_istore (pc := 91) (lv' := [(4, .int (S16.1 8 0 0 l3.toNatClampNeg)), (0, .ref (ad (1, 0, 0))), (1, .int a1), (2, .int a2), (3, .int l3)]) hx hb d_M_takes_91 hl (by decide) rfl (fun ls hl => ?_)
  refine lv_iload (pc := 93) hx hb d_M_takes_93 (lv_at hl 0 rfl) ?_
  refine lv_iconst (pc := 95) (v := -1) hx hb d_M_takes_95 (by decide) ?_
  refine lv_icmp_eq (pc := 96) (tgt := 141) hx hb d_M_takes_96 (by decide) (fun c18 => ?_) (fun c18 => ?_)
  · have hk := hk.1 c18
    have hr := (if_pos c18).symm.trans hr
    exact z_vret hy hW hr.symm d_M_takes_141
  · have hk := hk.2 c18
    have hr := (if_neg c18).symm.trans hr
    refine lv_aload_n (pc := 99) hx hb d_M_takes_99 rfl (lv_at hl 1 rfl) ?_
    refine z_get (pc := 100) (v := .ref (ad (7, 0, 0))) hF hK.1 hW tm1 rfl rfl in_M 12 (by decide) gw_896 rfl rfl d_M_takes_100 ?_
    refine lv_iload_n (pc := 103) hx hb d_M_takes_103 rfl (lv_at hl 4 rfl) ?_
    have b19 := hk.1
    have hk := hk.2
    refine z_iald (pc := 104) (v := S16.1 7 0 0 l3.toNatClampNeg) hF hK.1 hW tm7 0 rfl rfl b19 rfl d_M_takes_104 ?_
    refine lv_aload_n (pc := 105) hx hb d_M_takes_105 rfl (lv_at hl 1 rfl) ?_
    refine z_get (pc := 106) (v := .ref (ad (7, 0, 0))) hF hK.1 hW tm1 rfl rfl in_M 12 (by decide) gw_896 rfl rfl d_M_takes_106 ?_
    refine lv_iload_n (pc := 109) hx hb d_M_takes_109 rfl (lv_at hl 3 rfl) ?_
    have b20 := hk.1
    have hk := hk.2
    refine z_iald (pc := 110) (v := S16.1 7 0 0 a2.toNatClampNeg) hF hK.1 hW tm7 0 rfl rfl b20 rfl d_M_takes_110 ?_
    refine lv_iconst (pc := 111) (v := 1) hx hb d_M_takes_111 (by decide) ?_
    refine lv_isub (pc := 112) hx hb d_M_takes_112 ?_
    refine lv_icmp_ne (pc := 113) (tgt := 141) hx hb d_M_takes_113 (by decide) (fun c21 => ?_) (fun c21 => ?_)
    · have hk := hk.2 c21
      have hr := (if_neg c21).symm.trans hr
      exact z_vret hy hW hr.symm d_M_takes_141
    · have hk := hk.1 c21
      have hr := (if_pos c21).symm.trans hr
      refine lv_aload_n (pc := 116) hx hb d_M_takes_116 rfl (lv_at hl 1 rfl) ?_
      refine z_get (pc := 117) (v := .ref (ad (7, 0, 0))) hF hK.1 hW tm1 rfl rfl in_M 12 (by decide) gw_896 rfl rfl d_M_takes_117 ?_
      refine lv_iload (pc := 120) hx hb d_M_takes_120 (lv_at hl 0 rfl) ?_
      have b22 := hk.1
      have hk := hk.2
      refine z_iald (pc := 122) (v := S16.1 7 0 0 (S16.1 8 0 0 l3.toNatClampNeg).toNatClampNeg) hF hK.1 hW tm7 0 rfl rfl b22 rfl d_M_takes_122 ?_
      refine lv_aload_n (pc := 123) hx hb d_M_takes_123 rfl (lv_at hl 1 rfl) ?_
      refine z_get (pc := 124) (v := .ref (ad (7, 0, 0))) hF hK.1 hW tm1 rfl rfl in_M 12 (by decide) gw_896 rfl rfl d_M_takes_124 ?_
      refine lv_iload_n (pc := 127) hx hb d_M_takes_127 rfl (lv_at hl 4 rfl) ?_
      have b23 := hk.1
      have hk := hk.2
      refine z_iald (pc := 128) (v := S16.1 7 0 0 l3.toNatClampNeg) hF hK.1 hW tm7 0 rfl rfl b23 rfl d_M_takes_128 ?_
      refine lv_iconst (pc := 129) (v := 1) hx hb d_M_takes_129 (by decide) ?_
      refine lv_isub (pc := 130) hx hb d_M_takes_130 ?_
      refine lv_icmp_ne (pc := 131) (tgt := 141) hx hb d_M_takes_131 (by decide) (fun c24 => ?_) (fun c24 => ?_)
      · have hk := hk.2 c24
        have hr := (if_neg c24).symm.trans hr
        exact z_vret hy hW hr.symm d_M_takes_141
      · have hk := hk.1 c24
        have hr := (if_pos c24).symm.trans hr
        refine lv_aload_n (pc := 134) hx hb d_M_takes_134 rfl (lv_at hl 1 rfl) ?_
        refine lv_iload_n (pc := 135) hx hb d_M_takes_135 rfl (lv_at hl 2 rfl) ?_
        refine lv_iload (pc := 136) hx hb d_M_takes_136 (lv_at hl 0 rfl) ?_
        have o25 := hk.1
        have hk := hk.2
        obtain ⟨S27, eS27⟩ : ∃ z : St, z = f_M_commit a1 (S16.1 8 0 0 l3.toNatClampNeg) S16 := ⟨_, rfl⟩
        have hr := lt_e eS27 hr
        refine z_goV (pc := 138) hW hA eS27 (z_runV hF hK hW (c_M_commit l D X ad ca a1 (S16.1 8 0 0 l3.toNatClampNeg) S16 o25 _) cd_M_commit gw_1070 tm1 rfl rfl ⟨Nat.le_of_ble_eq_true rfl, Nat.le_of_ble_eq_true rfl⟩ ⟨Nat.zero_le _, Nat.zero_le _⟩ rfl rfl hl.1 (Nat.le_of_ble_eq_true rfl) d_M_takes_138) (fun H locs (hW : Wd D clM A s.heap (zw X ad TM (cfM ad ca) S27) H locs) => ?_)
        exact z_vret hy hW hr.symm d_M_takes_141
def f_M_takes_35 (a1 : Int32) (a2 : Int32) (S : St) (t0 : Int32) (t1 : Int32) : St :=
  lt (si S 15 0 0 (t1.toNatClampNeg) t0) fun (S7 : St) =>
  if (S7.1 8 0 0 a2.toNatClampNeg) = (-1 : Int32) then
    S7
  else
    if (S7.1 7 0 0 (S7.1 8 0 0 a2.toNatClampNeg).toNatClampNeg) ≤ (S7.1 7 0 0 (S7.1 17 0 0 a1.toNatClampNeg).toNatClampNeg) then
      f_M_takes_84 a1 a2 S7 (S7.1 8 0 0 a2.toNatClampNeg) (S7.1 17 0 0 a1.toNatClampNeg) a1
    else
      f_M_takes_84 a1 a2 S7 (S7.1 8 0 0 a2.toNatClampNeg) (S7.1 8 0 0 a2.toNatClampNeg) a1
def ok_M_takes_35 (a1 : Int32) (a2 : Int32) (S : St) (t0 : Int32) (t1 : Int32) : Prop :=
  (vp_in t1 4) ∧ (
    lt (si S 15 0 0 (t1.toNatClampNeg) t0) fun (S7 : St) =>
    (vp_in a2 100) ∧ (
      ((S7.1 8 0 0 a2.toNatClampNeg) = (-1 : Int32) → (
        True)) ∧ (¬ ((S7.1 8 0 0 a2.toNatClampNeg) = (-1 : Int32)) → (
        (vp_in (S7.1 8 0 0 a2.toNatClampNeg) 100) ∧ (
          (vp_in a1 4) ∧ (
            (vp_in (S7.1 17 0 0 a1.toNatClampNeg) 100) ∧ (
              ((S7.1 7 0 0 (S7.1 8 0 0 a2.toNatClampNeg).toNatClampNeg) ≤ (S7.1 7 0 0 (S7.1 17 0 0 a1.toNatClampNeg).toNatClampNeg) → (
                (vp_in a1 4) ∧ (
                  ok_M_takes_84 a1 a2 S7 (S7.1 8 0 0 a2.toNatClampNeg) (S7.1 17 0 0 a1.toNatClampNeg) a1))) ∧ (¬ ((S7.1 7 0 0 (S7.1 8 0 0 a2.toNatClampNeg).toNatClampNeg) ≤ (S7.1 7 0 0 (S7.1 17 0 0 a1.toNatClampNeg).toNatClampNeg)) → (
                ok_M_takes_84 a1 a2 S7 (S7.1 8 0 0 a2.toNatClampNeg) (S7.1 8 0 0 a2.toNatClampNeg) a1)))))))))
set_option maxHeartbeats 4000000 in
set_option maxRecDepth 100000 in
theorem w_M_takes_35 {l : Launch} {D : va_G} {X : va_W} {ad : N3 → Nat} {ca : Nat → ClassId} (a1 : Int32) (a2 : Int32)  {p : Program} {e : Env} {s : State} {m : MethodId} {below : List Frame} {meth : Method} {c : Code} {A : Nat → Prop} (hy : Hy p s m ([.ref (ad (1, 0, 0)), .int a1, .int a2] : List Value).toArray meth c b_M_takes 5 none R_M GG D clM (tysM ca) nwM) (hA : ∀ q, s.heap.size ≤ q → A q) {res : St} : ∀  (S : St) (t0 : Int32) (t1 : Int32) , ok_M_takes_35 a1 a2 S t0 t1 → f_M_takes_35 a1 a2 S t0 t1 = res → ∀ (H : Heap) (locs : List Loc) (ls : Array Slot), Wd D clM A s.heap (zw X ad TM (cfM ad ca) S) H locs → lv_has ls 5 [(0, .ref (ad (1, 0, 0))), (1, .int a1), (2, .int a2)] → W p l e { frames := 2, cells := 0, slots := 0, locals := 50 } s m ([.ref (ad (1, 0, 0)), .int a1, .int a2] : List Value).toArray below meth c H locs 0 0 (MQ below (eV D clM X ad TM (cfM ad ca) A res) ([.ref (ad (1, 0, 0)), .int a1, .int a2] : List Value).toArray s 0 0 A) (F0 m 35 ls [.int t0, .int t1, .ref (ad (15, 0, 0))]) := by
  have hF := hy.1
  have hx := hF.1
  have hb := hF.2.1
  have hK := hy.2.2.2
  intro S t0 t1 hk hr H locs ls hW hl
  have b6 := hk.1
  have hk := hk.2
  obtain ⟨S7, eS7⟩ : ∃ z : St, z = si S 15 0 0 (t1.toNatClampNeg) t0 := ⟨_, rfl⟩
  have hk := lt_p eS7 hk
  have hr := lt_e eS7 hr
  refine z_iast (pc := 35) (S' := S7) hF hK.1 hW tm15 0 rfl rfl b6 (zs_si eS7 rfl) (zs_sio eS7) d_M_takes_35 (fun H locs (hW : Wd D clM A s.heap (zw X ad TM (cfM ad ca) S7) H locs) => ?_)
  refine lv_aload_n (pc := 36) hx hb d_M_takes_36 rfl (lv_at hl 0 rfl) ?_
  refine z_get (pc := 37) (v := .ref (ad (8, 0, 0))) hF hK.1 hW tm1 rfl rfl in_M 13 (by decide) gw_897 rfl rfl d_M_takes_37 ?_
  refine lv_iload_n (pc := 40) hx hb d_M_takes_40 rfl (lv_at hl 2 rfl) ?_
  have b8 := hk.1
  have hk := hk.2
  refine z_iald (pc := 41) (v := S7.1 8 0 0 a2.toNatClampNeg) hF hK.1 hW tm8 0 rfl rfl b8 rfl d_M_takes_41 ?_
  refine lv_istore_n (pc := 42) (lv' := [(3, .int (S7.1 8 0 0 a2.toNatClampNeg)), (0, .ref (ad (1, 0, 0))), (1, .int a1), (2, .int a2)]) hx hb d_M_takes_42 rfl hl (by decide) rfl (fun ls hl => ?_)
  refine lv_iload_n (pc := 43) hx hb d_M_takes_43 rfl (lv_at hl 0 rfl) ?_
  refine lv_iconst (pc := 44) (v := -1) hx hb d_M_takes_44 (by decide) ?_
  refine lv_icmp_ne (pc := 45) (tgt := 49) hx hb d_M_takes_45 (by decide) (fun c9 => ?_) (fun c9 => ?_)
  · have hk := hk.2 c9
    have hr := (if_neg c9).symm.trans hr
    refine lv_aload_n (pc := 49) hx hb d_M_takes_49 rfl (lv_at hl 1 rfl) ?_
    refine z_get (pc := 50) (v := .ref (ad (17, 0, 0))) hF hK.1 hW tm1 rfl rfl in_M 22 (by decide) gw_906 rfl rfl d_M_takes_50 ?_
    refine lv_iload_n (pc := 53) hx hb d_M_takes_53 rfl (lv_at hl 2 rfl) ?_
    refine lv_aload_n (pc := 54) hx hb d_M_takes_54 rfl (lv_at hl 1 rfl) ?_
    refine z_get (pc := 55) (v := .ref (ad (7, 0, 0))) hF hK.1 hW tm1 rfl rfl in_M 12 (by decide) gw_896 rfl rfl d_M_takes_55 ?_
    refine lv_iload_n (pc := 58) hx hb d_M_takes_58 rfl (lv_at hl 0 rfl) ?_
    have b10 := hk.1
    have hk := hk.2
    refine z_iald (pc := 59) (v := S7.1 7 0 0 (S7.1 8 0 0 a2.toNatClampNeg).toNatClampNeg) hF hK.1 hW tm7 0 rfl rfl b10 rfl d_M_takes_59 ?_
    refine lv_aload_n (pc := 60) hx hb d_M_takes_60 rfl (lv_at hl 1 rfl) ?_
    refine z_get (pc := 61) (v := .ref (ad (7, 0, 0))) hF hK.1 hW tm1 rfl rfl in_M 12 (by decide) gw_896 rfl rfl d_M_takes_61 ?_
    refine lv_aload_n (pc := 64) hx hb d_M_takes_64 rfl (lv_at hl 1 rfl) ?_
    refine z_get (pc := 65) (v := .ref (ad (17, 0, 0))) hF hK.1 hW tm1 rfl rfl in_M 22 (by decide) gw_906 rfl rfl d_M_takes_65 ?_
    refine lv_iload_n (pc := 68) hx hb d_M_takes_68 rfl (lv_at hl 2 rfl) ?_
    have b11 := hk.1
    have hk := hk.2
    refine z_iald (pc := 69) (v := S7.1 17 0 0 a1.toNatClampNeg) hF hK.1 hW tm17 0 rfl rfl b11 rfl d_M_takes_69 ?_
    have b12 := hk.1
    have hk := hk.2
    refine z_iald (pc := 70) (v := S7.1 7 0 0 (S7.1 17 0 0 a1.toNatClampNeg).toNatClampNeg) hF hK.1 hW tm7 0 rfl rfl b12 rfl d_M_takes_70 ?_
    refine lv_icmp_le (pc := 71) (tgt := 78) hx hb d_M_takes_71 (by decide) (fun c13 => ?_) (fun c13 => ?_)
    · have hk := hk.1 c13
      have hr := (if_pos c13).symm.trans hr
      refine lv_aload_n (pc := 78) hx hb d_M_takes_78 rfl (lv_at hl 1 rfl) ?_
      refine z_get (pc := 79) (v := .ref (ad (17, 0, 0))) hF hK.1 hW tm1 rfl rfl in_M 22 (by decide) gw_906 rfl rfl d_M_takes_79 ?_
      refine lv_iload_n (pc := 82) hx hb d_M_takes_82 rfl (lv_at hl 2 rfl) ?_
      have b14 := hk.1
      have hk := hk.2
      refine z_iald (pc := 83) (v := S7.1 17 0 0 a1.toNatClampNeg) hF hK.1 hW tm17 0 rfl rfl b14 rfl d_M_takes_83 ?_
      exact w_M_takes_84 a1 a2 hy hA S7 (S7.1 8 0 0 a2.toNatClampNeg) (S7.1 17 0 0 a1.toNatClampNeg) a1 hk hr _ _ _ hW (lv_sub hl [1, 2, 3, 0] rfl)
    · have hk := hk.2 c13
      have hr := (if_neg c13).symm.trans hr
      refine lv_iload_n (pc := 74) hx hb d_M_takes_74 rfl (lv_at hl 0 rfl) ?_
      refine lv_goto (pc := 75) (tgt := 84) hx hb d_M_takes_75 (by decide) ?_
      exact w_M_takes_84 a1 a2 hy hA S7 (S7.1 8 0 0 a2.toNatClampNeg) (S7.1 8 0 0 a2.toNatClampNeg) a1 hk hr _ _ _ hW (lv_sub hl [1, 2, 3, 0] rfl)
  · have hk := hk.1 c9
    have hr := (if_pos c9).symm.trans hr
    exact z_vret hy hW hr.symm d_M_takes_48
def f_M_takes (a1 : Int32) (a2 : Int32) (S : St) : St :=
  if (S.1 7 0 0 a2.toNatClampNeg) ≤ (S.1 7 0 0 (S.1 15 0 0 a1.toNatClampNeg).toNatClampNeg) then
    f_M_takes_35 a1 a2 S (S.1 15 0 0 a1.toNatClampNeg) a1
  else
    f_M_takes_35 a1 a2 S a2 a1
def ok_M_takes (a1 : Int32) (a2 : Int32) (S : St) : Prop :=
  (vp_in a2 100) ∧ (
    (vp_in a1 4) ∧ (
      (vp_in (S.1 15 0 0 a1.toNatClampNeg) 100) ∧ (
        ((S.1 7 0 0 a2.toNatClampNeg) ≤ (S.1 7 0 0 (S.1 15 0 0 a1.toNatClampNeg).toNatClampNeg) → (
          (vp_in a1 4) ∧ (
            ok_M_takes_35 a1 a2 S (S.1 15 0 0 a1.toNatClampNeg) a1))) ∧ (¬ ((S.1 7 0 0 a2.toNatClampNeg) ≤ (S.1 7 0 0 (S.1 15 0 0 a1.toNatClampNeg).toNatClampNeg)) → (
          ok_M_takes_35 a1 a2 S a2 a1)))))
set_option maxHeartbeats 4000000 in
set_option maxRecDepth 100000 in
theorem c_M_takes (l : Launch) (D : va_G) (X : va_W) (ad : N3 → Nat) (ca : Nat → ClassId) (a1 : Int32) (a2 : Int32)  (S : St) (hk : ok_M_takes a1 a2 S) : cV l GG D clM (tysM ca) nwM X ad TM (cfM ad ca) y_M_takes b_M_takes 5 2 50 [.ref (ad (1, 0, 0)), .int a1, .int a2] S (f_M_takes a1 a2 S) := by
  generalize hr : f_M_takes a1 a2 S = res
  refine zV_of pn_M (Nat.le_of_ble_eq_true rfl) (fun p e s m below meth c A ls hy hW hA hl => ?_)
  have hF := hy.1
  have hx := hF.1
  have hb := hF.2.1
  have hK := hy.2.2.2
  have hl : lv_has ls 5 [(0, .ref (ad (1, 0, 0))), (1, .int a1), (2, .int a2)] := hl
  refine lv_aload_n (pc := 0) hx hb d_M_takes_0 rfl (lv_at hl 0 rfl) ?_
  refine z_get (pc := 1) (v := .ref (ad (15, 0, 0))) hF hK.1 hW tm1 rfl rfl in_M 20 (by decide) gw_904 rfl rfl d_M_takes_1 ?_
  refine lv_iload_n (pc := 4) hx hb d_M_takes_4 rfl (lv_at hl 1 rfl) ?_
  refine lv_aload_n (pc := 5) hx hb d_M_takes_5 rfl (lv_at hl 0 rfl) ?_
  refine z_get (pc := 6) (v := .ref (ad (7, 0, 0))) hF hK.1 hW tm1 rfl rfl in_M 12 (by decide) gw_896 rfl rfl d_M_takes_6 ?_
  refine lv_iload_n (pc := 9) hx hb d_M_takes_9 rfl (lv_at hl 2 rfl) ?_
  have b1 := hk.1
  have hk := hk.2
  refine z_iald (pc := 10) (v := S.1 7 0 0 a2.toNatClampNeg) hF hK.1 hW tm7 0 rfl rfl b1 rfl d_M_takes_10 ?_
  refine lv_aload_n (pc := 11) hx hb d_M_takes_11 rfl (lv_at hl 0 rfl) ?_
  refine z_get (pc := 12) (v := .ref (ad (7, 0, 0))) hF hK.1 hW tm1 rfl rfl in_M 12 (by decide) gw_896 rfl rfl d_M_takes_12 ?_
  refine lv_aload_n (pc := 15) hx hb d_M_takes_15 rfl (lv_at hl 0 rfl) ?_
  refine z_get (pc := 16) (v := .ref (ad (15, 0, 0))) hF hK.1 hW tm1 rfl rfl in_M 20 (by decide) gw_904 rfl rfl d_M_takes_16 ?_
  refine lv_iload_n (pc := 19) hx hb d_M_takes_19 rfl (lv_at hl 1 rfl) ?_
  have b2 := hk.1
  have hk := hk.2
  refine z_iald (pc := 20) (v := S.1 15 0 0 a1.toNatClampNeg) hF hK.1 hW tm15 0 rfl rfl b2 rfl d_M_takes_20 ?_
  have b3 := hk.1
  have hk := hk.2
  refine z_iald (pc := 21) (v := S.1 7 0 0 (S.1 15 0 0 a1.toNatClampNeg).toNatClampNeg) hF hK.1 hW tm7 0 rfl rfl b3 rfl d_M_takes_21 ?_
  refine lv_icmp_le (pc := 22) (tgt := 29) hx hb d_M_takes_22 (by decide) (fun c4 => ?_) (fun c4 => ?_)
  · have hk := hk.1 c4
    have hr := (if_pos c4).symm.trans hr
    refine lv_aload_n (pc := 29) hx hb d_M_takes_29 rfl (lv_at hl 0 rfl) ?_
    refine z_get (pc := 30) (v := .ref (ad (15, 0, 0))) hF hK.1 hW tm1 rfl rfl in_M 20 (by decide) gw_904 rfl rfl d_M_takes_30 ?_
    refine lv_iload_n (pc := 33) hx hb d_M_takes_33 rfl (lv_at hl 1 rfl) ?_
    have b5 := hk.1
    have hk := hk.2
    refine z_iald (pc := 34) (v := S.1 15 0 0 a1.toNatClampNeg) hF hK.1 hW tm15 0 rfl rfl b5 rfl d_M_takes_34 ?_
    exact w_M_takes_35 a1 a2 hy hA S (S.1 15 0 0 a1.toNatClampNeg) a1 hk hr _ _ _ hW (lv_sub hl [0, 1, 2] rfl)
  · have hk := hk.2 c4
    have hr := (if_neg c4).symm.trans hr
    refine lv_iload_n (pc := 25) hx hb d_M_takes_25 rfl (lv_at hl 2 rfl) ?_
    refine lv_goto (pc := 26) (tgt := 35) hx hb d_M_takes_26 (by decide) ?_
    exact w_M_takes_35 a1 a2 hy hA S a2 a1 hk hr _ _ _ hW (lv_sub hl [0, 1, 2] rfl)
