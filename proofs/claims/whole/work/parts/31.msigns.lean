theorem d_M_signs_0 : decode b_M_signs 0 = .ok (.aload_n 0, 1) := by decide +kernel
theorem d_M_signs_1 : decode b_M_signs 1 = .ok (.getfield 64, 3) := by decide +kernel
theorem d_M_signs_4 : decode b_M_signs 4 = .ok (.iload_n 1, 1) := by decide +kernel
theorem d_M_signs_5 : decode b_M_signs 5 = .ok (.iaload, 1) := by decide +kernel
theorem d_M_signs_6 : decode b_M_signs 6 = .ok (.bipush 32, 2) := by decide +kernel
theorem d_M_signs_8 : decode b_M_signs 8 = .ok (.if_icmp .ne 5, 3) := by decide +kernel
theorem d_M_signs_11 : decode b_M_signs 11 = .ok (.iconst 0, 1) := by decide +kernel
theorem d_M_signs_12 : decode b_M_signs 12 = .ok (.ireturn, 1) := by decide +kernel
theorem d_M_signs_13 : decode b_M_signs 13 = .ok (.aload_n 0, 1) := by decide +kernel
theorem d_M_signs_14 : decode b_M_signs 14 = .ok (.aload_n 0, 1) := by decide +kernel
theorem d_M_signs_15 : decode b_M_signs 15 = .ok (.getfield 64, 3) := by decide +kernel
theorem d_M_signs_18 : decode b_M_signs 18 = .ok (.iload_n 1, 1) := by decide +kernel
theorem d_M_signs_19 : decode b_M_signs 19 = .ok (.iaload, 1) := by decide +kernel
theorem d_M_signs_20 : decode b_M_signs 20 = .ok (.putfield 167, 3) := by decide +kernel
theorem d_M_signs_23 : decode b_M_signs 23 = .ok (.aload_n 0, 1) := by decide +kernel
theorem d_M_signs_24 : decode b_M_signs 24 = .ok (.getfield 64, 3) := by decide +kernel
theorem d_M_signs_27 : decode b_M_signs 27 = .ok (.iload_n 1, 1) := by decide +kernel
theorem d_M_signs_28 : decode b_M_signs 28 = .ok (.dup2, 1) := by decide +kernel
theorem d_M_signs_29 : decode b_M_signs 29 = .ok (.iaload, 1) := by decide +kernel
theorem d_M_signs_30 : decode b_M_signs 30 = .ok (.iconst 1, 1) := by decide +kernel
theorem d_M_signs_31 : decode b_M_signs 31 = .ok (.iadd, 1) := by decide +kernel
theorem d_M_signs_32 : decode b_M_signs 32 = .ok (.iastore, 1) := by decide +kernel
theorem d_M_signs_33 : decode b_M_signs 33 = .ok (.aload_n 0, 1) := by decide +kernel
theorem d_M_signs_34 : decode b_M_signs 34 = .ok (.lload_n 2, 1) := by decide +kernel
theorem d_M_signs_35 : decode b_M_signs 35 = .ok (.invokevirtual 170, 3) := by decide +kernel
theorem d_M_signs_38 : decode b_M_signs 38 = .ok (.iconst 0, 1) := by decide +kernel
theorem d_M_signs_39 : decode b_M_signs 39 = .ok (.istore 4, 2) := by decide +kernel
theorem d_M_signs_41 : decode b_M_signs 41 = .ok (.iload 4, 2) := by decide +kernel
theorem d_M_signs_43 : decode b_M_signs 43 = .ok (.bipush 6, 2) := by decide +kernel
theorem d_M_signs_45 : decode b_M_signs 45 = .ok (.if_icmp .ge 42, 3) := by decide +kernel
theorem d_M_signs_48 : decode b_M_signs 48 = .ok (.aload_n 0, 1) := by decide +kernel
theorem d_M_signs_49 : decode b_M_signs 49 = .ok (.iload_n 1, 1) := by decide +kernel
theorem d_M_signs_50 : decode b_M_signs 50 = .ok (.aload_n 0, 1) := by decide +kernel
theorem d_M_signs_51 : decode b_M_signs 51 = .ok (.getfield 167, 3) := by decide +kernel
theorem d_M_signs_54 : decode b_M_signs 54 = .ok (.iload 4, 2) := by decide +kernel
theorem d_M_signs_56 : decode b_M_signs 56 = .ok (.invokevirtual 125, 3) := by decide +kernel
theorem d_M_signs_59 : decode b_M_signs 59 = .ok (.lstore 5, 2) := by decide +kernel
theorem d_M_signs_61 : decode b_M_signs 61 = .ok (.aload_n 0, 1) := by decide +kernel
theorem d_M_signs_62 : decode b_M_signs 62 = .ok (.getfield 115, 3) := by decide +kernel
theorem d_M_signs_65 : decode b_M_signs 65 = .ok (.iload 4, 2) := by decide +kernel
theorem d_M_signs_67 : decode b_M_signs 67 = .ok (.aload_n 0, 1) := by decide +kernel
theorem d_M_signs_68 : decode b_M_signs 68 = .ok (.lload 5, 2) := by decide +kernel
theorem d_M_signs_70 : decode b_M_signs 70 = .ok (.aload_n 0, 1) := by decide +kernel
theorem d_M_signs_71 : decode b_M_signs 71 = .ok (.getfield 118, 3) := by decide +kernel
theorem d_M_signs_74 : decode b_M_signs 74 = .ok (.iload 4, 2) := by decide +kernel
theorem d_M_signs_76 : decode b_M_signs 76 = .ok (.iaload, 1) := by decide +kernel
theorem d_M_signs_77 : decode b_M_signs 77 = .ok (.invokevirtual 129, 3) := by decide +kernel
theorem d_M_signs_80 : decode b_M_signs 80 = .ok (.lastore, 1) := by decide +kernel
theorem d_M_signs_81 : decode b_M_signs 81 = .ok (.iinc 4 1, 3) := by decide +kernel
theorem d_M_signs_84 : decode b_M_signs 84 = .ok (.goto (-43), 3) := by decide +kernel
theorem d_M_signs_87 : decode b_M_signs 87 = .ok (.bipush 32, 2) := by decide +kernel
theorem d_M_signs_89 : decode b_M_signs 89 = .ok (.aload_n 0, 1) := by decide +kernel
theorem d_M_signs_90 : decode b_M_signs 90 = .ok (.getfield 167, 3) := by decide +kernel
theorem d_M_signs_93 : decode b_M_signs 93 = .ok (.iadd, 1) := by decide +kernel
theorem d_M_signs_94 : decode b_M_signs 94 = .ok (.istore 4, 2) := by decide +kernel
theorem d_M_signs_96 : decode b_M_signs 96 = .ok (.iconst 0, 1) := by decide +kernel
theorem d_M_signs_97 : decode b_M_signs 97 = .ok (.istore 5, 2) := by decide +kernel
theorem d_M_signs_99 : decode b_M_signs 99 = .ok (.iload 5, 2) := by decide +kernel
theorem d_M_signs_101 : decode b_M_signs 101 = .ok (.iconst 5, 1) := by decide +kernel
theorem d_M_signs_102 : decode b_M_signs 102 = .ok (.if_icmp .ge 53, 3) := by decide +kernel
theorem d_M_signs_105 : decode b_M_signs 105 = .ok (.aload_n 0, 1) := by decide +kernel
theorem d_M_signs_106 : decode b_M_signs 106 = .ok (.getfield 115, 3) := by decide +kernel
theorem d_M_signs_109 : decode b_M_signs 109 = .ok (.bipush 6, 2) := by decide +kernel
theorem d_M_signs_111 : decode b_M_signs 111 = .ok (.iload 5, 2) := by decide +kernel
theorem d_M_signs_113 : decode b_M_signs 113 = .ok (.iadd, 1) := by decide +kernel
theorem d_M_signs_114 : decode b_M_signs 114 = .ok (.aload_n 0, 1) := by decide +kernel
theorem d_M_signs_115 : decode b_M_signs 115 = .ok (.getfield 7, 3) := by decide +kernel
theorem d_M_signs_118 : decode b_M_signs 118 = .ok (.bipush 64, 2) := by decide +kernel
theorem d_M_signs_120 : decode b_M_signs 120 = .ok (.iload_n 1, 1) := by decide +kernel
theorem d_M_signs_121 : decode b_M_signs 121 = .ok (.imul, 1) := by decide +kernel
theorem d_M_signs_122 : decode b_M_signs 122 = .ok (.iload 4, 2) := by decide +kernel
theorem d_M_signs_124 : decode b_M_signs 124 = .ok (.iconst 2, 1) := by decide +kernel
theorem d_M_signs_125 : decode b_M_signs 125 = .ok (.irem, 1) := by decide +kernel
theorem d_M_signs_126 : decode b_M_signs 126 = .ok (.ifCond .ne 10, 3) := by decide +kernel
theorem d_M_signs_129 : decode b_M_signs 129 = .ok (.iload 4, 2) := by decide +kernel
theorem d_M_signs_131 : decode b_M_signs 131 = .ok (.iconst 1, 1) := by decide +kernel
theorem d_M_signs_132 : decode b_M_signs 132 = .ok (.iadd, 1) := by decide +kernel
theorem d_M_signs_133 : decode b_M_signs 133 = .ok (.goto 7, 3) := by decide +kernel
theorem d_M_signs_136 : decode b_M_signs 136 = .ok (.iload 4, 2) := by decide +kernel
theorem d_M_signs_138 : decode b_M_signs 138 = .ok (.iconst 1, 1) := by decide +kernel
theorem d_M_signs_139 : decode b_M_signs 139 = .ok (.isub, 1) := by decide +kernel
theorem d_M_signs_140 : decode b_M_signs 140 = .ok (.iadd, 1) := by decide +kernel
theorem d_M_signs_141 : decode b_M_signs 141 = .ok (.laload, 1) := by decide +kernel
theorem d_M_signs_142 : decode b_M_signs 142 = .ok (.lastore, 1) := by decide +kernel
theorem d_M_signs_143 : decode b_M_signs 143 = .ok (.iload 4, 2) := by decide +kernel
theorem d_M_signs_145 : decode b_M_signs 145 = .ok (.iconst 2, 1) := by decide +kernel
theorem d_M_signs_146 : decode b_M_signs 146 = .ok (.idiv, 1) := by decide +kernel
theorem d_M_signs_147 : decode b_M_signs 147 = .ok (.istore 4, 2) := by decide +kernel
theorem d_M_signs_149 : decode b_M_signs 149 = .ok (.iinc 5 1, 3) := by decide +kernel
theorem d_M_signs_152 : decode b_M_signs 152 = .ok (.goto (-53), 3) := by decide +kernel
theorem d_M_signs_155 : decode b_M_signs 155 = .ok (.iconst 1, 1) := by decide +kernel
theorem d_M_signs_156 : decode b_M_signs 156 = .ok (.ireturn, 1) := by decide +kernel
def f_M_signs_99 (a1 : Int32) (a2 : Int64) : Nat → St → Int32 → Int32 → Int32 × St
  | 0, S, _, _ => (0, S)
  | n + 1, S, l4, l5 =>
    if (5 : Int32) ≤ l5 then
      ((1 : Int32), S)
    else
      if (l4 - l4 / (2 : Int32) * (2 : Int32)) = 0 then
        lt (sl S 35 0 0 (((6 : Int32) + l5).toNatClampNeg) (S.2.1 2 0 0 (((64 : Int32) * a1) + (l4 + (1 : Int32))).toNatClampNeg)) fun (S25 : St) =>
        f_M_signs_99 a1 a2 n S25 (l4 / (2 : Int32)) (l5 + (1 : Int32))
      else
        lt (sl S 35 0 0 (((6 : Int32) + l5).toNatClampNeg) (S.2.1 2 0 0 (((64 : Int32) * a1) + (l4 - (1 : Int32))).toNatClampNeg)) fun (S22 : St) =>
        f_M_signs_99 a1 a2 n S22 (l4 / (2 : Int32)) (l5 + (1 : Int32))
def ok_M_signs_99 (a1 : Int32) (a2 : Int64) : Nat → St → Int32 → Int32 → Prop
  | 0, _, _, _ => False
  | n + 1, S, l4, l5 =>
    ((5 : Int32) ≤ l5 → (
      True)) ∧ (¬ ((5 : Int32) ≤ l5) → (
      ((l4 - l4 / (2 : Int32) * (2 : Int32)) = 0 → (
        (vp_in (((64 : Int32) * a1) + (l4 + (1 : Int32))) 256) ∧ (
          (vp_in ((6 : Int32) + l5) 11) ∧ (
            lt (sl S 35 0 0 (((6 : Int32) + l5).toNatClampNeg) (S.2.1 2 0 0 (((64 : Int32) * a1) + (l4 + (1 : Int32))).toNatClampNeg)) fun (S25 : St) =>
            ok_M_signs_99 a1 a2 n S25 (l4 / (2 : Int32)) (l5 + (1 : Int32)))))) ∧ (¬ ((l4 - l4 / (2 : Int32) * (2 : Int32)) = 0) → (
        (vp_in (((64 : Int32) * a1) + (l4 - (1 : Int32))) 256) ∧ (
          (vp_in ((6 : Int32) + l5) 11) ∧ (
            lt (sl S 35 0 0 (((6 : Int32) + l5).toNatClampNeg) (S.2.1 2 0 0 (((64 : Int32) * a1) + (l4 - (1 : Int32))).toNatClampNeg)) fun (S22 : St) =>
            ok_M_signs_99 a1 a2 n S22 (l4 / (2 : Int32)) (l5 + (1 : Int32))))))))
set_option maxHeartbeats 4000000 in
set_option maxRecDepth 100000 in
theorem w_M_signs_99 {l : Launch} {D : va_G} {X : va_W} {ad : N3 → Nat} {ca : Nat → ClassId} (a1 : Int32) (a2 : Int64)  {p : Program} {e : Env} {s : State} {m : MethodId} {below : List Frame} {meth : Method} {c : Code} {A : Nat → Prop} (hy : Hy p s m ([.ref (ad (1, 0, 0)), .int a1, .long a2] : List Value).toArray meth c b_M_signs 7 (some .boolean) R_M GG D clM (tysM ca) nwM) (hA : ∀ q, s.heap.size ≤ q → A q) {res : Int32 × St} : ∀ (n : Nat) (S : St) (l4 : Int32) (l5 : Int32) , ok_M_signs_99 a1 a2 n S l4 l5 → f_M_signs_99 a1 a2 n S l4 l5 = res → ∀ (H : Heap) (locs : List Loc) (ls : Array Slot), Wd D clM A s.heap (zw X ad TM (cfM ad ca) S) H locs → lv_has ls 7 [(0, .ref (ad (1, 0, 0))), (1, .int a1), (4, .int l4), (5, .int l5)] → W p l e { frames := 3, cells := 0, slots := 0, locals := 72 } s m ([.ref (ad (1, 0, 0)), .int a1, .long a2] : List Value).toArray below meth c H locs 0 0 (MQ below (eI D clM X ad TM (cfM ad ca) A res) ([.ref (ad (1, 0, 0)), .int a1, .long a2] : List Value).toArray s 0 0 A) (F0 m 99 ls []) := by
  have hF := hy.1
  have hx := hF.1
  have hb := hF.2.1
  have hK := hy.2.2.2
  intro n
  induction n with
  | zero =>
    intro S l4 l5 hk
    exact hk.elim
  | succ n ih =>
    intro S l4 l5 hk hr H locs ls hW hl
    refine lv_iload (pc := 99) hx hb d_M_signs_99 (lv_at hl 3 rfl) ?_
    refine lv_iconst (pc := 101) (v := 5) hx hb d_M_signs_101 (by decide) ?_
    refine lv_icmp_ge (pc := 102) (tgt := 155) hx hb d_M_signs_102 (by decide) (fun c18 => ?_) (fun c18 => ?_)
    · have hk := hk.1 c18
      have hr := (if_pos c18).symm.trans hr
      refine lv_iconst (pc := 155) (v := 1) hx hb d_M_signs_155 (by decide) ?_
      exact z_zret (v := (1 : Int32)) hy hW rfl hr.symm d_M_signs_156
    · have hk := hk.2 c18
      have hr := (if_neg c18).symm.trans hr
      refine lv_aload_n (pc := 105) hx hb d_M_signs_105 rfl (lv_at hl 0 rfl) ?_
      refine z_get (pc := 106) (v := .ref (ad (35, 0, 0))) hF hK.1 hW tm1 rfl rfl in_M 41 (by decide) gw_925 rfl rfl d_M_signs_106 ?_
      refine lv_bipush (pc := 109) (v := 6) hx hb d_M_signs_109 (by decide) ?_
      refine lv_iload (pc := 111) hx hb d_M_signs_111 (lv_at hl 3 rfl) ?_
      refine lv_iadd (pc := 113) hx hb d_M_signs_113 ?_
      refine lv_aload_n (pc := 114) hx hb d_M_signs_114 rfl (lv_at hl 0 rfl) ?_
      refine z_get (pc := 115) (v := .ref (ad (2, 0, 0))) hF hK.1 hW tm1 rfl rfl in_M 5 (by decide) gw_889 rfl rfl d_M_signs_115 ?_
      refine lv_bipush (pc := 118) (v := 64) hx hb d_M_signs_118 (by decide) ?_
      refine lv_iload_n (pc := 120) hx hb d_M_signs_120 rfl (lv_at hl 1 rfl) ?_
      refine lv_imul (pc := 121) hx hb d_M_signs_121 ?_
      refine lv_iload (pc := 122) hx hb d_M_signs_122 (lv_at hl 2 rfl) ?_
      refine lv_iconst (pc := 124) (v := 2) hx hb d_M_signs_124 (by decide) ?_
      refine lv_irem (pc := 125) hx hb d_M_signs_125 (by decide) ?_
      refine lv_if_ne (pc := 126) (tgt := 136) hx hb d_M_signs_126 (by decide) (fun c19 => ?_) (fun c19 => ?_)
      · have hk := hk.2 c19
        have hr := (if_neg c19).symm.trans hr
        refine lv_iload (pc := 136) hx hb d_M_signs_136 (lv_at hl 2 rfl) ?_
        refine lv_iconst (pc := 138) (v := 1) hx hb d_M_signs_138 (by decide) ?_
        refine lv_isub (pc := 139) hx hb d_M_signs_139 ?_
        refine lv_iadd (pc := 140) hx hb d_M_signs_140 ?_
        have b20 := hk.1
        have hk := hk.2
        refine z_lald (pc := 141) (v := S.2.1 2 0 0 (((64 : Int32) * a1) + (l4 - (1 : Int32))).toNatClampNeg) hF hK.1 hW tm2 1 rfl rfl b20 rfl d_M_signs_141 ?_
        have b21 := hk.1
        have hk := hk.2
        obtain ⟨S22, eS22⟩ : ∃ z : St, z = sl S 35 0 0 (((6 : Int32) + l5).toNatClampNeg) (S.2.1 2 0 0 (((64 : Int32) * a1) + (l4 - (1 : Int32))).toNatClampNeg) := ⟨_, rfl⟩
        have hk := lt_p eS22 hk
        have hr := lt_e eS22 hr
        refine z_last (pc := 142) (S' := S22) hF hK.1 hW tm35 1 rfl rfl b21 (zs_sl eS22 rfl) (zs_slo eS22) d_M_signs_142 (fun H locs (hW : Wd D clM A s.heap (zw X ad TM (cfM ad ca) S22) H locs) => ?_)
        refine lv_iload (pc := 143) hx hb d_M_signs_143 (lv_at hl 2 rfl) ?_
        refine lv_iconst (pc := 145) (v := 2) hx hb d_M_signs_145 (by decide) ?_
        refine lv_idiv (pc := 146) hx hb d_M_signs_146 (by decide) ?_
        refine lv_istore (pc := 147) (lv' := [(4, .int (l4 / (2 : Int32))), (0, .ref (ad (1, 0, 0))), (1, .int a1), (5, .int l5)]) hx hb d_M_signs_147 hl (by decide) rfl (fun ls hl => ?_)
        refine lv_iinc (pc := 149) (v := l5 + (1 : Int32)) (lv' := [(5, .int (l5 + (1 : Int32))), (4, .int (l4 / (2 : Int32))), (0, .ref (ad (1, 0, 0))), (1, .int a1)]) (k := 3) hx hb d_M_signs_149 hl rfl (z_inc (by decide)) (by decide) rfl (fun ls hl => ?_)
        refine lv_goto (pc := 152) (tgt := 99) hx hb d_M_signs_152 (by decide) ?_
        exact ih S22 (l4 / (2 : Int32)) (l5 + (1 : Int32)) hk hr _ _ _ hW (lv_sub hl [2, 3, 1, 0] rfl)
      · have hk := hk.1 c19
        have hr := (if_pos c19).symm.trans hr
        refine lv_iload (pc := 129) hx hb d_M_signs_129 (lv_at hl 2 rfl) ?_
        refine lv_iconst (pc := 131) (v := 1) hx hb d_M_signs_131 (by decide) ?_
        refine lv_iadd (pc := 132) hx hb d_M_signs_132 ?_
        refine lv_goto (pc := 133) (tgt := 140) hx hb d_M_signs_133 (by decide) ?_
        refine lv_iadd (pc := 140) hx hb d_M_signs_140 ?_
        have b23 := hk.1
        have hk := hk.2
        refine z_lald (pc := 141) (v := S.2.1 2 0 0 (((64 : Int32) * a1) + (l4 + (1 : Int32))).toNatClampNeg) hF hK.1 hW tm2 1 rfl rfl b23 rfl d_M_signs_141 ?_
        have b24 := hk.1
        have hk := hk.2
        obtain ⟨S25, eS25⟩ : ∃ z : St, z = sl S 35 0 0 (((6 : Int32) + l5).toNatClampNeg) (S.2.1 2 0 0 (((64 : Int32) * a1) + (l4 + (1 : Int32))).toNatClampNeg) := ⟨_, rfl⟩
        have hk := lt_p eS25 hk
        have hr := lt_e eS25 hr
        refine z_last (pc := 142) (S' := S25) hF hK.1 hW tm35 1 rfl rfl b24 (zs_sl eS25 rfl) (zs_slo eS25) d_M_signs_142 (fun H locs (hW : Wd D clM A s.heap (zw X ad TM (cfM ad ca) S25) H locs) => ?_)
        refine lv_iload (pc := 143) hx hb d_M_signs_143 (lv_at hl 2 rfl) ?_
        refine lv_iconst (pc := 145) (v := 2) hx hb d_M_signs_145 (by decide) ?_
        refine lv_idiv (pc := 146) hx hb d_M_signs_146 (by decide) ?_
        refine lv_istore (pc := 147) (lv' := [(4, .int (l4 / (2 : Int32))), (0, .ref (ad (1, 0, 0))), (1, .int a1), (5, .int l5)]) hx hb d_M_signs_147 hl (by decide) rfl (fun ls hl => ?_)
        refine lv_iinc (pc := 149) (v := l5 + (1 : Int32)) (lv' := [(5, .int (l5 + (1 : Int32))), (4, .int (l4 / (2 : Int32))), (0, .ref (ad (1, 0, 0))), (1, .int a1)]) (k := 3) hx hb d_M_signs_149 hl rfl (z_inc (by decide)) (by decide) rfl (fun ls hl => ?_)
        refine lv_goto (pc := 152) (tgt := 99) hx hb d_M_signs_152 (by decide) ?_
        exact ih S25 (l4 / (2 : Int32)) (l5 + (1 : Int32)) hk hr _ _ _ hW (lv_sub hl [2, 3, 1, 0] rfl)
def f_M_signs_41 (a1 : Int32) (a2 : Int64) : Nat → St → Int32 → Int32 × St
  | 0, S, _ => (0, S)
  | n + 1, S, l4 =>
    if (6 : Int32) ≤ l4 then
      f_M_signs_99 a1 a2 200 S ((32 : Int32) + (S.1 1 0 0 40)) (0 : Int32)
    else
      lt (f_M_secret a1 (S.1 1 0 0 40) l4 S) fun (r12 : Int64 × St) =>
      lt (f_M_after r12.1 (r12.2.1 36 0 0 l4.toNatClampNeg) r12.2) fun (r15 : Int64 × St) =>
      lt (sl r15.2 35 0 0 (l4.toNatClampNeg) r15.1) fun (S17 : St) =>
      f_M_signs_41 a1 a2 n S17 (l4 + (1 : Int32))
def ok_M_signs_41 (a1 : Int32) (a2 : Int64) : Nat → St → Int32 → Prop
  | 0, _, _ => False
  | n + 1, S, l4 =>
    ((6 : Int32) ≤ l4 → (
      ok_M_signs_99 a1 a2 200 S ((32 : Int32) + (S.1 1 0 0 40)) (0 : Int32))) ∧ (¬ ((6 : Int32) ≤ l4) → (
      lt (f_M_secret a1 (S.1 1 0 0 40) l4 S) fun (r12 : Int64 × St) =>
      (vp_in l4 6) ∧ (
        (ok_M_after r12.1 (r12.2.1 36 0 0 l4.toNatClampNeg) r12.2) ∧ (
          lt (f_M_after r12.1 (r12.2.1 36 0 0 l4.toNatClampNeg) r12.2) fun (r15 : Int64 × St) =>
          (vp_in l4 11) ∧ (
            lt (sl r15.2 35 0 0 (l4.toNatClampNeg) r15.1) fun (S17 : St) =>
            ok_M_signs_41 a1 a2 n S17 (l4 + (1 : Int32)))))))
set_option maxHeartbeats 4000000 in
set_option maxRecDepth 100000 in
theorem w_M_signs_41 {l : Launch} {D : va_G} {X : va_W} {ad : N3 → Nat} {ca : Nat → ClassId} (a1 : Int32) (a2 : Int64)  {p : Program} {e : Env} {s : State} {m : MethodId} {below : List Frame} {meth : Method} {c : Code} {A : Nat → Prop} (hy : Hy p s m ([.ref (ad (1, 0, 0)), .int a1, .long a2] : List Value).toArray meth c b_M_signs 7 (some .boolean) R_M GG D clM (tysM ca) nwM) (hA : ∀ q, s.heap.size ≤ q → A q) {res : Int32 × St} : ∀ (n : Nat) (S : St) (l4 : Int32) , ok_M_signs_41 a1 a2 n S l4 → f_M_signs_41 a1 a2 n S l4 = res → ∀ (H : Heap) (locs : List Loc) (ls : Array Slot), Wd D clM A s.heap (zw X ad TM (cfM ad ca) S) H locs → lv_has ls 7 [(0, .ref (ad (1, 0, 0))), (1, .int a1), (4, .int l4)] → W p l e { frames := 3, cells := 0, slots := 0, locals := 72 } s m ([.ref (ad (1, 0, 0)), .int a1, .long a2] : List Value).toArray below meth c H locs 0 0 (MQ below (eI D clM X ad TM (cfM ad ca) A res) ([.ref (ad (1, 0, 0)), .int a1, .long a2] : List Value).toArray s 0 0 A) (F0 m 41 ls []) := by
  have hF := hy.1
  have hx := hF.1
  have hb := hF.2.1
  have hK := hy.2.2.2
  intro n
  induction n with
  | zero =>
    intro S l4 hk
    exact hk.elim
  | succ n ih =>
    intro S l4 hk hr H locs ls hW hl
    refine lv_iload (pc := 41) hx hb d_M_signs_41 (lv_at hl 2 rfl) ?_
    refine lv_bipush (pc := 43) (v := 6) hx hb d_M_signs_43 (by decide) ?_
    refine lv_icmp_ge (pc := 45) (tgt := 87) hx hb d_M_signs_45 (by decide) (fun c11 => ?_) (fun c11 => ?_)
    · have hk := hk.1 c11
      have hr := (if_pos c11).symm.trans hr
      refine lv_bipush (pc := 87) (v := 32) hx hb d_M_signs_87 (by decide) ?_
      refine lv_aload_n (pc := 89) hx hb d_M_signs_89 rfl (lv_at hl 0 rfl) ?_
      refine z_get (pc := 90) (v := .int (S.1 1 0 0 40)) hF hK.1 hW tm1 rfl rfl in_M 40 (by decide) gw_924 rfl rfl d_M_signs_90 ?_
      refine lv_iadd (pc := 93) hx hb d_M_signs_93 ?_
      refine lv_istore (pc := 94) (lv' := [(4, .int ((32 : Int32) + (S.1 1 0 0 40))), (0, .ref (ad (1, 0, 0))), (1, .int a1)]) hx hb d_M_signs_94 hl (by decide) rfl (fun ls hl => ?_)
      refine lv_iconst (pc := 96) (v := 0) hx hb d_M_signs_96 (by decide) ?_
      refine lv_istore (pc := 97) (lv' := [(5, .int (0 : Int32)), (4, .int ((32 : Int32) + (S.1 1 0 0 40))), (0, .ref (ad (1, 0, 0))), (1, .int a1)]) hx hb d_M_signs_97 hl (by decide) rfl (fun ls hl => ?_)
      exact w_M_signs_99 a1 a2 hy hA 200 S ((32 : Int32) + (S.1 1 0 0 40)) (0 : Int32) hk hr _ _ _ hW (lv_sub hl [2, 3, 1, 0] rfl)
    · have hk := hk.2 c11
      have hr := (if_neg c11).symm.trans hr
      refine lv_aload_n (pc := 48) hx hb d_M_signs_48 rfl (lv_at hl 0 rfl) ?_
      refine lv_iload_n (pc := 49) hx hb d_M_signs_49 rfl (lv_at hl 1 rfl) ?_
      refine lv_aload_n (pc := 50) hx hb d_M_signs_50 rfl (lv_at hl 0 rfl) ?_
      refine z_get (pc := 51) (v := .int (S.1 1 0 0 40)) hF hK.1 hW tm1 rfl rfl in_M 40 (by decide) gw_924 rfl rfl d_M_signs_51 ?_
      refine lv_iload (pc := 54) hx hb d_M_signs_54 (lv_at hl 2 rfl) ?_
      obtain ⟨r12, er12⟩ : ∃ z : Int64 × St, z = f_M_secret a1 (S.1 1 0 0 40) l4 S := ⟨_, rfl⟩
      have hk := lt_p er12 hk
      have hr := lt_e er12 hr
      refine z_goL (pc := 56) hW hA (show (r12.1, r12.2) = _ from er12) (z_runV hF hK hW (c_M_secret l D X ad ca a1 (S.1 1 0 0 40) l4 S _) cd_M_secret gw_852 tm1 rfl rfl ⟨Nat.le_of_ble_eq_true rfl, Nat.le_of_ble_eq_true rfl⟩ ⟨Nat.zero_le _, Nat.zero_le _⟩ rfl rfl hl.1 (Nat.le_of_ble_eq_true rfl) d_M_signs_56) (fun H locs (hW : Wd D clM A s.heap (zw X ad TM (cfM ad ca) r12.2) H locs) => ?_)
      refine lv_lstore (pc := 59) (lv' := [(5, .long r12.1), (0, .ref (ad (1, 0, 0))), (1, .int a1), (4, .int l4)]) hx hb d_M_signs_59 hl (by decide) rfl (fun ls hl => ?_)
      refine lv_aload_n (pc := 61) hx hb d_M_signs_61 rfl (lv_at hl 1 rfl) ?_
      refine z_get (pc := 62) (v := .ref (ad (35, 0, 0))) hF hK.1 hW tm1 rfl rfl in_M 41 (by decide) gw_925 rfl rfl d_M_signs_62 ?_
      refine lv_iload (pc := 65) hx hb d_M_signs_65 (lv_at hl 3 rfl) ?_
      refine lv_aload_n (pc := 67) hx hb d_M_signs_67 rfl (lv_at hl 1 rfl) ?_
      refine lv_lload (pc := 68) hx hb d_M_signs_68 (lv_at hl 0 rfl) ?_
      refine lv_aload_n (pc := 70) hx hb d_M_signs_70 rfl (lv_at hl 1 rfl) ?_
      refine z_get (pc := 71) (v := .ref (ad (36, 0, 0))) hF hK.1 hW tm1 rfl rfl in_M 42 (by decide) gw_926 rfl rfl d_M_signs_71 ?_
      refine lv_iload (pc := 74) hx hb d_M_signs_74 (lv_at hl 3 rfl) ?_
      have b13 := hk.1
      have hk := hk.2
      refine z_iald (pc := 76) (v := r12.2.1 36 0 0 l4.toNatClampNeg) hF hK.1 hW tm36 0 rfl rfl b13 rfl d_M_signs_76 ?_
      have o14 := hk.1
      have hk := hk.2
      obtain ⟨r15, er15⟩ : ∃ z : Int64 × St, z = f_M_after r12.1 (r12.2.1 36 0 0 l4.toNatClampNeg) r12.2 := ⟨_, rfl⟩
      have hk := lt_p er15 hk
      have hr := lt_e er15 hr
      refine z_goL (pc := 77) hW hA (show (r15.1, r15.2) = _ from er15) (z_runV hF hK hW (c_M_after l D X ad ca r12.1 (r12.2.1 36 0 0 l4.toNatClampNeg) r12.2 o14 _) cd_M_after gw_871 tm1 rfl rfl ⟨Nat.le_of_ble_eq_true rfl, Nat.le_of_ble_eq_true rfl⟩ ⟨Nat.zero_le _, Nat.zero_le _⟩ rfl rfl hl.1 (Nat.le_of_ble_eq_true rfl) d_M_signs_77) (fun H locs (hW : Wd D clM A s.heap (zw X ad TM (cfM ad ca) r15.2) H locs) => ?_)
      have b16 := hk.1
      have hk := hk.2
      obtain ⟨S17, eS17⟩ : ∃ z : St, z = sl r15.2 35 0 0 (l4.toNatClampNeg) r15.1 := ⟨_, rfl⟩
      have hk := lt_p eS17 hk
      have hr := lt_e eS17 hr
      refine z_last (pc := 80) (S' := S17) hF hK.1 hW tm35 1 rfl rfl b16 (zs_sl eS17 rfl) (zs_slo eS17) d_M_signs_80 (fun H locs (hW : Wd D clM A s.heap (zw X ad TM (cfM ad ca) S17) H locs) => ?_)
      refine lv_iinc (pc := 81) (v := l4 + (1 : Int32)) (lv' := [(4, .int (l4 + (1 : Int32))), (5, .long r12.1), (0, .ref (ad (1, 0, 0))), (1, .int a1)]) (k := 3) hx hb d_M_signs_81 hl rfl (z_inc (by decide)) (by decide) rfl (fun ls hl => ?_)
      refine lv_goto (pc := 84) (tgt := 41) hx hb d_M_signs_84 (by decide) ?_
      exact ih S17 (l4 + (1 : Int32)) hk hr _ _ _ hW (lv_sub hl [2, 3, 0] rfl)
def f_M_signs (a1 : Int32) (a2 : Int64) (S : St) : Int32 × St :=
  if (S.1 18 0 0 a1.toNatClampNeg) = (32 : Int32) then
    ((0 : Int32), S)
  else
    lt (si S 1 0 0 40 (S.1 18 0 0 a1.toNatClampNeg)) fun (S4 : St) =>
    lt (si S4 18 0 0 (a1.toNatClampNeg) ((S4.1 18 0 0 a1.toNatClampNeg) + (1 : Int32))) fun (S7 : St) =>
    lt (f_M_digitsOf a2 S7) fun (S10 : St) =>
    f_M_signs_41 a1 a2 200 S10 (0 : Int32)
def ok_M_signs (a1 : Int32) (a2 : Int64) (S : St) : Prop :=
  (vp_in a1 4) ∧ (
    ((S.1 18 0 0 a1.toNatClampNeg) = (32 : Int32) → (
      True)) ∧ (¬ ((S.1 18 0 0 a1.toNatClampNeg) = (32 : Int32)) → (
      (vp_in a1 4) ∧ (
        lt (si S 1 0 0 40 (S.1 18 0 0 a1.toNatClampNeg)) fun (S4 : St) =>
        (vp_in a1 4) ∧ (
          (vp_in a1 4) ∧ (
            lt (si S4 18 0 0 (a1.toNatClampNeg) ((S4.1 18 0 0 a1.toNatClampNeg) + (1 : Int32))) fun (S7 : St) =>
            (ok_M_digitsOf a2 S7) ∧ (
              lt (f_M_digitsOf a2 S7) fun (S10 : St) =>
              ok_M_signs_41 a1 a2 200 S10 (0 : Int32))))))))
set_option maxHeartbeats 4000000 in
set_option maxRecDepth 100000 in
theorem c_M_signs (l : Launch) (D : va_G) (X : va_W) (ad : N3 → Nat) (ca : Nat → ClassId) (a1 : Int32) (a2 : Int64)  (S : St) (hk : ok_M_signs a1 a2 S) : cI l GG D clM (tysM ca) nwM X ad TM (cfM ad ca) y_M_signs b_M_signs 7 .boolean 3 72 [.ref (ad (1, 0, 0)), .int a1, .long a2] S (f_M_signs a1 a2 S) := by
  generalize hr : f_M_signs a1 a2 S = res
  refine zI_of pn_M (Nat.le_of_ble_eq_true rfl) (fun p e s m below meth c A ls hy hW hA hl => ?_)
  have hF := hy.1
  have hx := hF.1
  have hb := hF.2.1
  have hK := hy.2.2.2
  have hl : lv_has ls 7 [(0, .ref (ad (1, 0, 0))), (1, .int a1), (2, .long a2)] := hl
  refine lv_aload_n (pc := 0) hx hb d_M_signs_0 rfl (lv_at hl 0 rfl) ?_
  refine z_get (pc := 1) (v := .ref (ad (18, 0, 0))) hF hK.1 hW tm1 rfl rfl in_M 23 (by decide) gw_907 rfl rfl d_M_signs_1 ?_
  refine lv_iload_n (pc := 4) hx hb d_M_signs_4 rfl (lv_at hl 1 rfl) ?_
  have b1 := hk.1
  have hk := hk.2
  refine z_iald (pc := 5) (v := S.1 18 0 0 a1.toNatClampNeg) hF hK.1 hW tm18 0 rfl rfl b1 rfl d_M_signs_5 ?_
  refine lv_bipush (pc := 6) (v := 32) hx hb d_M_signs_6 (by decide) ?_
  refine lv_icmp_ne (pc := 8) (tgt := 13) hx hb d_M_signs_8 (by decide) (fun c2 => ?_) (fun c2 => ?_)
  · have hk := hk.2 c2
    have hr := (if_neg c2).symm.trans hr
    refine lv_aload_n (pc := 13) hx hb d_M_signs_13 rfl (lv_at hl 0 rfl) ?_
    refine lv_aload_n (pc := 14) hx hb d_M_signs_14 rfl (lv_at hl 0 rfl) ?_
    refine z_get (pc := 15) (v := .ref (ad (18, 0, 0))) hF hK.1 hW tm1 rfl rfl in_M 23 (by decide) gw_907 rfl rfl d_M_signs_15 ?_
    refine lv_iload_n (pc := 18) hx hb d_M_signs_18 rfl (lv_at hl 1 rfl) ?_
    have b3 := hk.1
    have hk := hk.2
    refine z_iald (pc := 19) (v := S.1 18 0 0 a1.toNatClampNeg) hF hK.1 hW tm18 0 rfl rfl b3 rfl d_M_signs_19 ?_
    obtain ⟨S4, eS4⟩ : ∃ z : St, z = si S 1 0 0 40 (S.1 18 0 0 a1.toNatClampNeg) := ⟨_, rfl⟩
    have hk := lt_p eS4 hk
    have hr := lt_e eS4 hr
    refine z_put (pc := 20) (S' := S4) hF hK.1 hW tm1 rfl rfl in_M t_M tyo_M nmo_M 40 (by decide) gw_924 rfl rfl rfl rfl rfl (Nat.le_of_ble_eq_true rfl) (zs_si eS4 rfl) (zs_sio eS4) d_M_signs_20 (fun H locs (hW : Wd D clM A s.heap (zw X ad TM (cfM ad ca) S4) H locs) => ?_)
    refine lv_aload_n (pc := 23) hx hb d_M_signs_23 rfl (lv_at hl 0 rfl) ?_
    refine z_get (pc := 24) (v := .ref (ad (18, 0, 0))) hF hK.1 hW tm1 rfl rfl in_M 23 (by decide) gw_907 rfl rfl d_M_signs_24 ?_
    refine lv_iload_n (pc := 27) hx hb d_M_signs_27 rfl (lv_at hl 1 rfl) ?_
    refine lv_dup2_11 (pc := 28) hx hb d_M_signs_28 rfl rfl ?_
    have b5 := hk.1
    have hk := hk.2
    refine z_iald (pc := 29) (v := S4.1 18 0 0 a1.toNatClampNeg) hF hK.1 hW tm18 0 rfl rfl b5 rfl d_M_signs_29 ?_
    refine lv_iconst (pc := 30) (v := 1) hx hb d_M_signs_30 (by decide) ?_
    refine lv_iadd (pc := 31) hx hb d_M_signs_31 ?_
    have b6 := hk.1
    have hk := hk.2
    obtain ⟨S7, eS7⟩ : ∃ z : St, z = si S4 18 0 0 (a1.toNatClampNeg) ((S4.1 18 0 0 a1.toNatClampNeg) + (1 : Int32)) := ⟨_, rfl⟩
    have hk := lt_p eS7 hk
    have hr := lt_e eS7 hr
    refine z_iast (pc := 32) (S' := S7) hF hK.1 hW tm18 0 rfl rfl b6 (zs_si eS7 rfl) (zs_sio eS7) d_M_signs_32 (fun H locs (hW : Wd D clM A s.heap (zw X ad TM (cfM ad ca) S7) H locs) => ?_)
    refine lv_aload_n (pc := 33) hx hb d_M_signs_33 rfl (lv_at hl 0 rfl) ?_
    refine lv_lload_n (pc := 34) hx hb d_M_signs_34 rfl (lv_at hl 2 rfl) ?_
    have o8 := hk.1
    have hk := hk.2
    obtain ⟨S10, eS10⟩ : ∃ z : St, z = f_M_digitsOf a2 S7 := ⟨_, rfl⟩
    have hk := lt_p eS10 hk
    have hr := lt_e eS10 hr
    refine z_goV (pc := 35) hW hA eS10 (z_runV hF hK hW (c_M_digitsOf l D X ad ca a2 S7 o8 _) cd_M_digitsOf gw_1054 tm1 rfl rfl ⟨Nat.le_of_ble_eq_true rfl, Nat.le_of_ble_eq_true rfl⟩ ⟨Nat.zero_le _, Nat.zero_le _⟩ rfl rfl hl.1 (Nat.le_of_ble_eq_true rfl) d_M_signs_35) (fun H locs (hW : Wd D clM A s.heap (zw X ad TM (cfM ad ca) S10) H locs) => ?_)
    refine lv_iconst (pc := 38) (v := 0) hx hb d_M_signs_38 (by decide) ?_
    refine lv_istore (pc := 39) (lv' := [(4, .int (0 : Int32)), (0, .ref (ad (1, 0, 0))), (1, .int a1), (2, .long a2)]) hx hb d_M_signs_39 hl (by decide) rfl (fun ls hl => ?_)
    exact w_M_signs_41 a1 a2 hy hA 200 S10 (0 : Int32) hk hr _ _ _ hW (lv_sub hl [1, 2, 0] rfl)
  · have hk := hk.1 c2
    have hr := (if_pos c2).symm.trans hr
    refine lv_iconst (pc := 11) (v := 0) hx hb d_M_signs_11 (by decide) ?_
    exact z_zret (v := (0 : Int32)) hy hW rfl hr.symm d_M_signs_12
