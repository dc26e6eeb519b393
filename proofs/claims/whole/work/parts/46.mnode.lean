theorem d_M_node_0 : decode b_M_node 0 = .ok (.aload_n 0, 1) := by decide +kernel
theorem d_M_node_1 : decode b_M_node 1 = .ok (.iconst 0, 1) := by decide +kernel
theorem d_M_node_2 : decode b_M_node 2 = .ok (.putfield 141, 3) := by decide +kernel
theorem d_M_node_5 : decode b_M_node 5 = .ok (.iload_n 1, 1) := by decide +kernel
theorem d_M_node_6 : decode b_M_node 6 = .ok (.invokestatic 231, 3) := by decide +kernel
theorem d_M_node_9 : decode b_M_node 9 = .ok (.ifCond .eq 13, 3) := by decide +kernel
theorem d_M_node_12 : decode b_M_node 12 = .ok (.iload_n 2, 1) := by decide +kernel
theorem d_M_node_13 : decode b_M_node 13 = .ok (.ifCond .lt 9, 3) := by decide +kernel
theorem d_M_node_16 : decode b_M_node 16 = .ok (.iload_n 2, 1) := by decide +kernel
theorem d_M_node_17 : decode b_M_node 17 = .ok (.bipush 11, 2) := by decide +kernel
theorem d_M_node_19 : decode b_M_node 19 = .ok (.if_icmp .le 5, 3) := by decide +kernel
theorem d_M_node_22 : decode b_M_node 22 = .ok (.iconst (-1), 1) := by decide +kernel
theorem d_M_node_23 : decode b_M_node 23 = .ok (.ireturn, 1) := by decide +kernel
theorem d_M_node_24 : decode b_M_node 24 = .ok (.aload_n 0, 1) := by decide +kernel
theorem d_M_node_25 : decode b_M_node 25 = .ok (.getfield 43, 3) := by decide +kernel
theorem d_M_node_28 : decode b_M_node 28 = .ok (.iload_n 1, 1) := by decide +kernel
theorem d_M_node_29 : decode b_M_node 29 = .ok (.baload, 1) := by decide +kernel
theorem d_M_node_30 : decode b_M_node 30 = .ok (.ifCond .ne 21, 3) := by decide +kernel
theorem d_M_node_33 : decode b_M_node 33 = .ok (.iload_n 2, 1) := by decide +kernel
theorem d_M_node_34 : decode b_M_node 34 = .ok (.iconst 1, 1) := by decide +kernel
theorem d_M_node_35 : decode b_M_node 35 = .ok (.if_icmp .lt 8, 3) := by decide +kernel
theorem d_M_node_38 : decode b_M_node 38 = .ok (.iload_n 2, 1) := by decide +kernel
theorem d_M_node_39 : decode b_M_node 39 = .ok (.iconst 4, 1) := by decide +kernel
theorem d_M_node_40 : decode b_M_node 40 = .ok (.if_icmp .le 9, 3) := by decide +kernel
theorem d_M_node_43 : decode b_M_node 43 = .ok (.iload_n 2, 1) := by decide +kernel
theorem d_M_node_44 : decode b_M_node 44 = .ok (.bipush 10, 2) := by decide +kernel
theorem d_M_node_46 : decode b_M_node 46 = .ok (.if_icmp .ne 5, 3) := by decide +kernel
theorem d_M_node_49 : decode b_M_node 49 = .ok (.iconst 0, 1) := by decide +kernel
theorem d_M_node_50 : decode b_M_node 50 = .ok (.ireturn, 1) := by decide +kernel
theorem d_M_node_51 : decode b_M_node 51 = .ok (.iload_n 2, 1) := by decide +kernel
theorem d_M_node_52 : decode b_M_node 52 = .ok (.tableswitch 144 0 10 #[60, 75, 82, 89, 96, 103, 110, 117, 124, 131, 137], 60) := by decide +kernel
theorem d_M_node_112 : decode b_M_node 112 = .ok (.aload_n 0, 1) := by decide +kernel
theorem d_M_node_113 : decode b_M_node 113 = .ok (.getfield 43, 3) := by decide +kernel
theorem d_M_node_116 : decode b_M_node 116 = .ok (.iload_n 1, 1) := by decide +kernel
theorem d_M_node_117 : decode b_M_node 117 = .ok (.baload, 1) := by decide +kernel
theorem d_M_node_118 : decode b_M_node 118 = .ok (.ifCond .eq 7, 3) := by decide +kernel
theorem d_M_node_121 : decode b_M_node 121 = .ok (.iconst 1, 1) := by decide +kernel
theorem d_M_node_122 : decode b_M_node 122 = .ok (.goto 4, 3) := by decide +kernel
theorem d_M_node_125 : decode b_M_node 125 = .ok (.iconst 0, 1) := by decide +kernel
theorem d_M_node_126 : decode b_M_node 126 = .ok (.ireturn, 1) := by decide +kernel
theorem d_M_node_127 : decode b_M_node 127 = .ok (.aload_n 0, 1) := by decide +kernel
theorem d_M_node_128 : decode b_M_node 128 = .ok (.getfield 46, 3) := by decide +kernel
theorem d_M_node_131 : decode b_M_node 131 = .ok (.iload_n 1, 1) := by decide +kernel
theorem d_M_node_132 : decode b_M_node 132 = .ok (.iaload, 1) := by decide +kernel
theorem d_M_node_133 : decode b_M_node 133 = .ok (.ireturn, 1) := by decide +kernel
theorem d_M_node_134 : decode b_M_node 134 = .ok (.aload_n 0, 1) := by decide +kernel
theorem d_M_node_135 : decode b_M_node 135 = .ok (.getfield 49, 3) := by decide +kernel
theorem d_M_node_138 : decode b_M_node 138 = .ok (.iload_n 1, 1) := by decide +kernel
theorem d_M_node_139 : decode b_M_node 139 = .ok (.iaload, 1) := by decide +kernel
theorem d_M_node_140 : decode b_M_node 140 = .ok (.ireturn, 1) := by decide +kernel
theorem d_M_node_141 : decode b_M_node 141 = .ok (.aload_n 0, 1) := by decide +kernel
theorem d_M_node_142 : decode b_M_node 142 = .ok (.getfield 52, 3) := by decide +kernel
theorem d_M_node_145 : decode b_M_node 145 = .ok (.iload_n 1, 1) := by decide +kernel
theorem d_M_node_146 : decode b_M_node 146 = .ok (.iaload, 1) := by decide +kernel
theorem d_M_node_147 : decode b_M_node 147 = .ok (.ireturn, 1) := by decide +kernel
theorem d_M_node_148 : decode b_M_node 148 = .ok (.aload_n 0, 1) := by decide +kernel
theorem d_M_node_149 : decode b_M_node 149 = .ok (.getfield 55, 3) := by decide +kernel
theorem d_M_node_152 : decode b_M_node 152 = .ok (.iload_n 1, 1) := by decide +kernel
theorem d_M_node_153 : decode b_M_node 153 = .ok (.iaload, 1) := by decide +kernel
theorem d_M_node_154 : decode b_M_node 154 = .ok (.ireturn, 1) := by decide +kernel
theorem d_M_node_155 : decode b_M_node 155 = .ok (.aload_n 0, 1) := by decide +kernel
theorem d_M_node_156 : decode b_M_node 156 = .ok (.getfield 58, 3) := by decide +kernel
theorem d_M_node_159 : decode b_M_node 159 = .ok (.iload_n 1, 1) := by decide +kernel
theorem d_M_node_160 : decode b_M_node 160 = .ok (.iaload, 1) := by decide +kernel
theorem d_M_node_161 : decode b_M_node 161 = .ok (.ireturn, 1) := by decide +kernel
theorem d_M_node_162 : decode b_M_node 162 = .ok (.aload_n 0, 1) := by decide +kernel
theorem d_M_node_163 : decode b_M_node 163 = .ok (.getfield 61, 3) := by decide +kernel
theorem d_M_node_166 : decode b_M_node 166 = .ok (.iload_n 1, 1) := by decide +kernel
theorem d_M_node_167 : decode b_M_node 167 = .ok (.iaload, 1) := by decide +kernel
theorem d_M_node_168 : decode b_M_node 168 = .ok (.ireturn, 1) := by decide +kernel
theorem d_M_node_169 : decode b_M_node 169 = .ok (.aload_n 0, 1) := by decide +kernel
theorem d_M_node_170 : decode b_M_node 170 = .ok (.getfield 64, 3) := by decide +kernel
theorem d_M_node_173 : decode b_M_node 173 = .ok (.iload_n 1, 1) := by decide +kernel
theorem d_M_node_174 : decode b_M_node 174 = .ok (.iaload, 1) := by decide +kernel
theorem d_M_node_175 : decode b_M_node 175 = .ok (.ireturn, 1) := by decide +kernel
theorem d_M_node_176 : decode b_M_node 176 = .ok (.aload_n 0, 1) := by decide +kernel
theorem d_M_node_177 : decode b_M_node 177 = .ok (.getfield 82, 3) := by decide +kernel
theorem d_M_node_180 : decode b_M_node 180 = .ok (.iload_n 1, 1) := by decide +kernel
theorem d_M_node_181 : decode b_M_node 181 = .ok (.iaload, 1) := by decide +kernel
theorem d_M_node_182 : decode b_M_node 182 = .ok (.ireturn, 1) := by decide +kernel
theorem d_M_node_183 : decode b_M_node 183 = .ok (.aload_n 0, 1) := by decide +kernel
theorem d_M_node_184 : decode b_M_node 184 = .ok (.iload_n 1, 1) := by decide +kernel
theorem d_M_node_185 : decode b_M_node 185 = .ok (.invokevirtual 271, 3) := by decide +kernel
theorem d_M_node_188 : decode b_M_node 188 = .ok (.ireturn, 1) := by decide +kernel
theorem d_M_node_189 : decode b_M_node 189 = .ok (.aload_n 0, 1) := by decide +kernel
theorem d_M_node_190 : decode b_M_node 190 = .ok (.getfield 76, 3) := by decide +kernel
theorem d_M_node_193 : decode b_M_node 193 = .ok (.iload_n 1, 1) := by decide +kernel
theorem d_M_node_194 : decode b_M_node 194 = .ok (.iaload, 1) := by decide +kernel
theorem d_M_node_195 : decode b_M_node 195 = .ok (.ireturn, 1) := by decide +kernel
theorem d_M_node_196 : decode b_M_node 196 = .ok (.aload_n 0, 1) := by decide +kernel
theorem d_M_node_197 : decode b_M_node 197 = .ok (.getfield 94, 3) := by decide +kernel
theorem d_M_node_200 : decode b_M_node 200 = .ok (.iload_n 1, 1) := by decide +kernel
theorem d_M_node_201 : decode b_M_node 201 = .ok (.iaload, 1) := by decide +kernel
theorem d_M_node_202 : decode b_M_node 202 = .ok (.ireturn, 1) := by decide +kernel
def f_M_node_51 (a1 : Int32) (a2 : Int32) (S : St)  : Int32 × St :=
  if a2 = (0 : Int32) then
    if (S.1 11 0 0 a1.toNatClampNeg) = 0 then
      ((0 : Int32), S)
    else
      ((1 : Int32), S)
  else
    if a2 = (1 : Int32) then
      (S.1 12 0 0 a1.toNatClampNeg, S)
    else
      if a2 = (2 : Int32) then
        (S.1 13 0 0 a1.toNatClampNeg, S)
      else
        if a2 = (3 : Int32) then
          (S.1 14 0 0 a1.toNatClampNeg, S)
        else
          if a2 = (4 : Int32) then
            (S.1 15 0 0 a1.toNatClampNeg, S)
          else
            if a2 = (5 : Int32) then
              (S.1 16 0 0 a1.toNatClampNeg, S)
            else
              if a2 = (6 : Int32) then
                (S.1 17 0 0 a1.toNatClampNeg, S)
              else
                if a2 = (7 : Int32) then
                  (S.1 18 0 0 a1.toNatClampNeg, S)
                else
                  if a2 = (8 : Int32) then
                    (S.1 24 0 0 a1.toNatClampNeg, S)
                  else
                    if a2 = (9 : Int32) then
                      lt (f_M_hasAll a1 S) fun (r32 : Int32) =>
                      (r32, S)
                    else
                      if a2 = (10 : Int32) then
                        (S.1 22 0 0 a1.toNatClampNeg, S)
                      else
                        (S.1 28 0 0 a1.toNatClampNeg, S)
def ok_M_node_51 (a1 : Int32) (a2 : Int32) (S : St)  : Prop :=
  (a2 = (0 : Int32) → (
    (vp_in a1 4) ∧ (
      True))) ∧ (¬ (a2 = (0 : Int32)) → (
    (a2 = (1 : Int32) → (
      (vp_in a1 4) ∧ (
        True))) ∧ (¬ (a2 = (1 : Int32)) → (
      (a2 = (2 : Int32) → (
        (vp_in a1 4) ∧ (
          True))) ∧ (¬ (a2 = (2 : Int32)) → (
        (a2 = (3 : Int32) → (
          (vp_in a1 4) ∧ (
            True))) ∧ (¬ (a2 = (3 : Int32)) → (
          (a2 = (4 : Int32) → (
            (vp_in a1 4) ∧ (
              True))) ∧ (¬ (a2 = (4 : Int32)) → (
            (a2 = (5 : Int32) → (
              (vp_in a1 4) ∧ (
                True))) ∧ (¬ (a2 = (5 : Int32)) → (
              (a2 = (6 : Int32) → (
                (vp_in a1 4) ∧ (
                  True))) ∧ (¬ (a2 = (6 : Int32)) → (
                (a2 = (7 : Int32) → (
                  (vp_in a1 4) ∧ (
                    True))) ∧ (¬ (a2 = (7 : Int32)) → (
                  (a2 = (8 : Int32) → (
                    (vp_in a1 4) ∧ (
                      True))) ∧ (¬ (a2 = (8 : Int32)) → (
                    (a2 = (9 : Int32) → (
                      (ok_M_hasAll a1 S) ∧ (
                        True))) ∧ (¬ (a2 = (9 : Int32)) → (
                      (a2 = (10 : Int32) → (
                        (vp_in a1 4) ∧ (
                          True))) ∧ (¬ (a2 = (10 : Int32)) → (
                        (vp_in a1 4) ∧ (
                          True)))))))))))))))))))))))
set_option maxHeartbeats 4000000 in
set_option maxRecDepth 100000 in
theorem w_M_node_51 {l : Launch} {D : va_G} {X : va_W} {ad : N3 → Nat} {ca : Nat → ClassId} (a1 : Int32) (a2 : Int32)  {p : Program} {e : Env} {s : State} {m : MethodId} {below : List Frame} {meth : Method} {c : Code} {A : Nat → Prop} (hy : Hy p s m ([.ref (ad (1, 0, 0)), .int a1, .int a2] : List Value).toArray meth c b_M_node 3 (some .int) R_M GG D clM (tysM ca) nwM) (hA : ∀ q, s.heap.size ≤ q → A q) {res : Int32 × St} : ∀  (S : St)  , ok_M_node_51 a1 a2 S → f_M_node_51 a1 a2 S = res → ∀ (H : Heap) (locs : List Loc) (ls : Array Slot), Wd D clM A s.heap (zw X ad TM (cfM ad ca) S) H locs → lv_has ls 3 [(0, .ref (ad (1, 0, 0))), (1, .int a1), (2, .int a2)] → W p l e { frames := 1, cells := 0, slots := 0, locals := 23 } s m ([.ref (ad (1, 0, 0)), .int a1, .int a2] : List Value).toArray below meth c H locs 0 0 (MQ below (eI D clM X ad TM (cfM ad ca) A res) ([.ref (ad (1, 0, 0)), .int a1, .int a2] : List Value).toArray s 0 0 A) (F0 m 51 ls []) := by
  have hF := hy.1
  have hx := hF.1
  have hb := hF.2.1
  have hK := hy.2.2.2
  intro S hk hr H locs ls hW hl
  refine lv_iload_n (pc := 51) hx hb d_M_node_51 rfl (lv_at hl 2 rfl) ?_
  by_cases c11 : a2 = (0 : Int32)
  · have hk := hk.1 c11
    have hr := (if_pos c11).symm.trans hr
    refine lv_tableIn (pc := 52) (tgt := 112) (off := 60) hx hb d_M_node_52 (by (rw [c11]) <;> decide) (by (rw [c11]) <;> decide) (by (rw [c11]) <;> rfl) (by decide) ?_
    refine lv_aload_n (pc := 112) hx hb d_M_node_112 rfl (lv_at hl 0 rfl) ?_
    refine z_get (pc := 113) (v := .ref (ad (11, 0, 0))) hF hK.1 hW tm1 rfl rfl in_M 16 (by decide) gw_900 rfl rfl d_M_node_113 ?_
    refine lv_iload_n (pc := 116) hx hb d_M_node_116 rfl (lv_at hl 1 rfl) ?_
    have b12 := hk.1
    have hk := hk.2
    refine z_zald (pc := 117) (v := S.1 11 0 0 a1.toNatClampNeg) hF hK.1 hW tm11 2 rfl rfl b12 rfl d_M_node_117 ?_
    refine lv_if_eq (pc := 118) (tgt := 125) hx hb d_M_node_118 (by decide) (fun c13 => ?_) (fun c13 => ?_)
    · have hr := (if_pos c13).symm.trans hr
      refine lv_iconst (pc := 125) (v := 0) hx hb d_M_node_125 (by decide) ?_
      exact z_iret (v := (0 : Int32)) hy hW hr.symm d_M_node_126
    · have hr := (if_neg c13).symm.trans hr
      refine lv_iconst (pc := 121) (v := 1) hx hb d_M_node_121 (by decide) ?_
      refine lv_goto (pc := 122) (tgt := 126) hx hb d_M_node_122 (by decide) ?_
      exact z_iret (v := (1 : Int32)) hy hW hr.symm d_M_node_126
  · have hk := hk.2 c11
    have hr := (if_neg c11).symm.trans hr
    by_cases c14 : a2 = (1 : Int32)
    · have hk := hk.1 c14
      have hr := (if_pos c14).symm.trans hr
      refine lv_tableIn (pc := 52) (tgt := 127) (off := 75) hx hb d_M_node_52 (by (rw [c14]) <;> decide) (by (rw [c14]) <;> decide) (by (rw [c14]) <;> rfl) (by decide) ?_
      refine lv_aload_n (pc := 127) hx hb d_M_node_127 rfl (lv_at hl 0 rfl) ?_
      refine z_get (pc := 128) (v := .ref (ad (12, 0, 0))) hF hK.1 hW tm1 rfl rfl in_M 17 (by decide) gw_901 rfl rfl d_M_node_128 ?_
      refine lv_iload_n (pc := 131) hx hb d_M_node_131 rfl (lv_at hl 1 rfl) ?_
      have b15 := hk.1
      have hk := hk.2
      refine z_iald (pc := 132) (v := S.1 12 0 0 a1.toNatClampNeg) hF hK.1 hW tm12 0 rfl rfl b15 rfl d_M_node_132 ?_
      exact z_iret (v := S.1 12 0 0 a1.toNatClampNeg) hy hW hr.symm d_M_node_133
    · have hk := hk.2 c14
      have hr := (if_neg c14).symm.trans hr
      by_cases c16 : a2 = (2 : Int32)
      · have hk := hk.1 c16
        have hr := (if_pos c16).symm.trans hr
        refine lv_tableIn (pc := 52) (tgt := 134) (off := 82) hx hb d_M_node_52 (by (rw [c16]) <;> decide) (by (rw [c16]) <;> decide) (by (rw [c16]) <;> rfl) (by decide) ?_
        refine lv_aload_n (pc := 134) hx hb d_M_node_134 rfl (lv_at hl 0 rfl) ?_
        refine z_get (pc := 135) (v := .ref (ad (13, 0, 0))) hF hK.1 hW tm1 rfl rfl in_M 18 (by decide) gw_902 rfl rfl d_M_node_135 ?_
        refine lv_iload_n (pc := 138) hx hb d_M_node_138 rfl (lv_at hl 1 rfl) ?_
        have b17 := hk.1
        have hk := hk.2
        refine z_iald (pc := 139) (v := S.1 13 0 0 a1.toNatClampNeg) hF hK.1 hW tm13 0 rfl rfl b17 rfl d_M_node_139 ?_
        exact z_iret (v := S.1 13 0 0 a1.toNatClampNeg) hy hW hr.symm d_M_node_140
      · have hk := hk.2 c16
        have hr := (if_neg c16).symm.trans hr
        by_cases c18 : a2 = (3 : Int32)
        · have hk := hk.1 c18
          have hr := (if_pos c18).symm.trans hr
          refine lv_tableIn (pc := 52) (tgt := 141) (off := 89) hx hb d_M_node_52 (by (rw [c18]) <;> decide) (by (rw [c18]) <;> decide) (by (rw [c18]) <;> rfl) (by decide) ?_
          refine lv_aload_n (pc := 141) hx hb d_M_node_141 rfl (lv_at hl 0 rfl) ?_
          refine z_get (pc := 142) (v := .ref (ad (14, 0, 0))) hF hK.1 hW tm1 rfl rfl in_M 19 (by decide) gw_903 rfl rfl d_M_node_142 ?_
          refine lv_iload_n (pc := 145) hx hb d_M_node_145 rfl (lv_at hl 1 rfl) ?_
          have b19 := hk.1
          have hk := hk.2
          refine z_iald (pc := 146) (v := S.1 14 0 0 a1.toNatClampNeg) hF hK.1 hW tm14 0 rfl rfl b19 rfl d_M_node_146 ?_
          exact z_iret (v := S.1 14 0 0 a1.toNatClampNeg) hy hW hr.symm d_M_node_147
        · have hk := hk.2 c18
          have hr := (if_neg c18).symm.trans hr
          by_cases c20 : a2 = (4 : Int32)
          · have hk := hk.1 c20
            have hr := (if_pos c20).symm.trans hr
            refine lv_tableIn (pc := 52) (tgt := 148) (off := 96) hx hb d_M_node_52 (by (rw [c20]) <;> decide) (by (rw [c20]) <;> decide) (by (rw [c20]) <;> rfl) (by decide) ?_
            refine lv_aload_n (pc := 148) hx hb d_M_node_148 rfl (lv_at hl 0 rfl) ?_
            refine z_get (pc := 149) (v := .ref (ad (15, 0, 0))) hF hK.1 hW tm1 rfl rfl in_M 20 (by decide) gw_904 rfl rfl d_M_node_149 ?_
            refine lv_iload_n (pc := 152) hx hb d_M_node_152 rfl (lv_at hl 1 rfl) ?_
            have b21 := hk.1
            have hk := hk.2
            refine z_iald (pc := 153) (v := S.1 15 0 0 a1.toNatClampNeg) hF hK.1 hW tm15 0 rfl rfl b21 rfl d_M_node_153 ?_
            exact z_iret (v := S.1 15 0 0 a1.toNatClampNeg) hy hW hr.symm d_M_node_154
          · have hk := hk.2 c20
            have hr := (if_neg c20).symm.trans hr
            by_cases c22 : a2 = (5 : Int32)
            · have hk := hk.1 c22
              have hr := (if_pos c22).symm.trans hr
              refine lv_tableIn (pc := 52) (tgt := 155) (off := 103) hx hb d_M_node_52 (by (rw [c22]) <;> decide) (by (rw [c22]) <;> decide) (by (rw [c22]) <;> rfl) (by decide) ?_
              refine lv_aload_n (pc := 155) hx hb d_M_node_155 rfl (lv_at hl 0 rfl) ?_
              refine z_get (pc := 156) (v := .ref (ad (16, 0, 0))) hF hK.1 hW tm1 rfl rfl in_M 21 (by decide) gw_905 rfl rfl d_M_node_156 ?_
              refine lv_iload_n (pc := 159) hx hb d_M_node_159 rfl (lv_at hl 1 rfl) ?_
              have b23 := hk.1
              have hk := hk.2
              refine z_iald (pc := 160) (v := S.1 16 0 0 a1.toNatClampNeg) hF hK.1 hW tm16 0 rfl rfl b23 rfl d_M_node_160 ?_
              exact z_iret (v := S.1 16 0 0 a1.toNatClampNeg) hy hW hr.symm d_M_node_161
            · have hk := hk.2 c22
              have hr := (if_neg c22).symm.trans hr
              by_cases c24 : a2 = (6 : Int32)
              · have hk := hk.1 c24
                have hr := (if_pos c24).symm.trans hr
                refine lv_tableIn (pc := 52) (tgt := 162) (off := 110) hx hb d_M_node_52 (by (rw [c24]) <;> decide) (by (rw [c24]) <;> decide) (by (rw [c24]) <;> rfl) (by decide) ?_
                refine lv_aload_n (pc := 162) hx hb d_M_node_162 rfl (lv_at hl 0 rfl) ?_
                refine z_get (pc := 163) (v := .ref (ad (17, 0, 0))) hF hK.1 hW tm1 rfl rfl in_M 22 (by decide) gw_906 rfl rfl d_M_node_163 ?_
                refine lv_iload_n (pc := 166) hx hb d_M_node_166 rfl (lv_at hl 1 rfl) ?_
                have b25 := hk.1
                have hk := hk.2
                refine z_iald (pc := 167) (v := S.1 17 0 0 a1.toNatClampNeg) hF hK.1 hW tm17 0 rfl rfl b25 rfl d_M_node_167 ?_
                exact z_iret (v := S.1 17 0 0 a1.toNatClampNeg) hy hW hr.symm d_M_node_168
              · have hk := hk.2 c24
                have hr := (if_neg c24).symm.trans hr
                by_cases c26 : a2 = (7 : Int32)
                · have hk := hk.1 c26
                  have hr := (if_pos c26).symm.trans hr
                  refine lv_tableIn (pc := 52) (tgt := 169) (off := 117) hx hb d_M_node_52 (by (rw [c26]) <;> decide) (by (rw [c26]) <;> decide) (by (rw [c26]) <;> rfl) (by decide) ?_
                  refine lv_aload_n (pc := 169) hx hb d_M_node_169 rfl (lv_at hl 0 rfl) ?_
                  refine z_get (pc := 170) (v := .ref (ad (18, 0, 0))) hF hK.1 hW tm1 rfl rfl in_M 23 (by decide) gw_907 rfl rfl d_M_node_170 ?_
                  refine lv_iload_n (pc := 173) hx hb d_M_node_173 rfl (lv_at hl 1 rfl) ?_
                  have b27 := hk.1
                  have hk := hk.2
                  refine z_iald (pc := 174) (v := S.1 18 0 0 a1.toNatClampNeg) hF hK.1 hW tm18 0 rfl rfl b27 rfl d_M_node_174 ?_
                  exact z_iret (v := S.1 18 0 0 a1.toNatClampNeg) hy hW hr.symm d_M_node_175
                · have hk := hk.2 c26
                  have hr := (if_neg c26).symm.trans hr
                  by_cases c28 : a2 = (8 : Int32)
                  · have hk := hk.1 c28
                    have hr := (if_pos c28).symm.trans hr
                    refine lv_tableIn (pc := 52) (tgt := 176) (off := 124) hx hb d_M_node_52 (by (rw [c28]) <;> decide) (by (rw [c28]) <;> decide) (by (rw [c28]) <;> rfl) (by decide) ?_
                    refine lv_aload_n (pc := 176) hx hb d_M_node_176 rfl (lv_at hl 0 rfl) ?_
                    refine z_get (pc := 177) (v := .ref (ad (24, 0, 0))) hF hK.1 hW tm1 rfl rfl in_M 29 (by decide) gw_913 rfl rfl d_M_node_177 ?_
                    refine lv_iload_n (pc := 180) hx hb d_M_node_180 rfl (lv_at hl 1 rfl) ?_
                    have b29 := hk.1
                    have hk := hk.2
                    refine z_iald (pc := 181) (v := S.1 24 0 0 a1.toNatClampNeg) hF hK.1 hW tm24 0 rfl rfl b29 rfl d_M_node_181 ?_
                    exact z_iret (v := S.1 24 0 0 a1.toNatClampNeg) hy hW hr.symm d_M_node_182
                  · have hk := hk.2 c28
                    have hr := (if_neg c28).symm.trans hr
                    by_cases c30 : a2 = (9 : Int32)
                    · have hk := hk.1 c30
                      have hr := (if_pos c30).symm.trans hr
                      refine lv_tableIn (pc := 52) (tgt := 183) (off := 131) hx hb d_M_node_52 (by (rw [c30]) <;> decide) (by (rw [c30]) <;> decide) (by (rw [c30]) <;> rfl) (by decide) ?_
                      refine lv_aload_n (pc := 183) hx hb d_M_node_183 rfl (lv_at hl 0 rfl) ?_
                      refine lv_iload_n (pc := 184) hx hb d_M_node_184 rfl (lv_at hl 1 rfl) ?_
                      have o31 := hk.1
                      have hk := hk.2
                      obtain ⟨r32, er32⟩ : ∃ z : Int32, z = f_M_hasAll a1 S := ⟨_, rfl⟩
                      have hr := lt_e er32 hr
                      refine p_go (pc := 185) (congrArg Value.int er32) (p_runV hF hK hW (c_M_hasAll l D X ad ca a1 S o31 _) cd_M_hasAll gw_1169 tm1 rfl rfl ⟨Nat.le_of_ble_eq_true rfl, Nat.le_of_ble_eq_true rfl⟩ ⟨Nat.zero_le _, Nat.zero_le _⟩ rfl rfl hl.1 (Nat.le_of_ble_eq_true rfl) d_M_node_185) ?_
                      exact z_iret (v := r32) hy hW hr.symm d_M_node_188
                    · have hk := hk.2 c30
                      have hr := (if_neg c30).symm.trans hr
                      by_cases c33 : a2 = (10 : Int32)
                      · have hk := hk.1 c33
                        have hr := (if_pos c33).symm.trans hr
                        refine lv_tableIn (pc := 52) (tgt := 189) (off := 137) hx hb d_M_node_52 (by (rw [c33]) <;> decide) (by (rw [c33]) <;> decide) (by (rw [c33]) <;> rfl) (by decide) ?_
                        refine lv_aload_n (pc := 189) hx hb d_M_node_189 rfl (lv_at hl 0 rfl) ?_
                        refine z_get (pc := 190) (v := .ref (ad (22, 0, 0))) hF hK.1 hW tm1 rfl rfl in_M 27 (by decide) gw_911 rfl rfl d_M_node_190 ?_
                        refine lv_iload_n (pc := 193) hx hb d_M_node_193 rfl (lv_at hl 1 rfl) ?_
                        have b34 := hk.1
                        have hk := hk.2
                        refine z_iald (pc := 194) (v := S.1 22 0 0 a1.toNatClampNeg) hF hK.1 hW tm22 0 rfl rfl b34 rfl d_M_node_194 ?_
                        exact z_iret (v := S.1 22 0 0 a1.toNatClampNeg) hy hW hr.symm d_M_node_195
                      · have hk := hk.2 c33
                        have hr := (if_neg c33).symm.trans hr
                        have ho : a2.toInt < (0 : Int) ∨ (10 : Int) < a2.toInt := z_swl (0) (10) (fun k h1 h2 => by
                          rcases (show k = 0 ∨ k = 1 ∨ k = 2 ∨ k = 3 ∨ k = 4 ∨ k = 5 ∨ k = 6 ∨ k = 7 ∨ k = 8 ∨ k = 9 ∨ k = 10 by omega) with rfl | rfl | rfl | rfl | rfl | rfl | rfl | rfl | rfl | rfl | rfl
                          · exact lv_neT c11 (by decide)
                          · exact lv_neT c14 (by decide)
                          · exact lv_neT c16 (by decide)
                          · exact lv_neT c18 (by decide)
                          · exact lv_neT c20 (by decide)
                          · exact lv_neT c22 (by decide)
                          · exact lv_neT c24 (by decide)
                          · exact lv_neT c26 (by decide)
                          · exact lv_neT c28 (by decide)
                          · exact lv_neT c30 (by decide)
                          · exact lv_neT c33 (by decide))
                        refine lv_tableOut (pc := 52) (tgt := 196) hx hb d_M_node_52 ho (by decide) ?_
                        refine lv_aload_n (pc := 196) hx hb d_M_node_196 rfl (lv_at hl 0 rfl) ?_
                        refine z_get (pc := 197) (v := .ref (ad (28, 0, 0))) hF hK.1 hW tm1 rfl rfl in_M 33 (by decide) gw_917 rfl rfl d_M_node_197 ?_
                        refine lv_iload_n (pc := 200) hx hb d_M_node_200 rfl (lv_at hl 1 rfl) ?_
                        have b35 := hk.1
                        have hk := hk.2
                        refine z_iald (pc := 201) (v := S.1 28 0 0 a1.toNatClampNeg) hF hK.1 hW tm28 0 rfl rfl b35 rfl d_M_node_201 ?_
                        exact z_iret (v := S.1 28 0 0 a1.toNatClampNeg) hy hW hr.symm d_M_node_202
def f_M_node_43 (a1 : Int32) (a2 : Int32) (S : St)  : Int32 × St :=
  if a2 = (10 : Int32) then
    ((0 : Int32), S)
  else
    f_M_node_51 a1 a2 S
def ok_M_node_43 (a1 : Int32) (a2 : Int32) (S : St)  : Prop :=
  (a2 = (10 : Int32) → (
    True)) ∧ (¬ (a2 = (10 : Int32)) → (
    ok_M_node_51 a1 a2 S))
set_option maxHeartbeats 4000000 in
set_option maxRecDepth 100000 in
theorem w_M_node_43 {l : Launch} {D : va_G} {X : va_W} {ad : N3 → Nat} {ca : Nat → ClassId} (a1 : Int32) (a2 : Int32)  {p : Program} {e : Env} {s : State} {m : MethodId} {below : List Frame} {meth : Method} {c : Code} {A : Nat → Prop} (hy : Hy p s m ([.ref (ad (1, 0, 0)), .int a1, .int a2] : List Value).toArray meth c b_M_node 3 (some .int) R_M GG D clM (tysM ca) nwM) (hA : ∀ q, s.heap.size ≤ q → A q) {res : Int32 × St} : ∀  (S : St)  , ok_M_node_43 a1 a2 S → f_M_node_43 a1 a2 S = res → ∀ (H : Heap) (locs : List Loc) (ls : Array Slot), Wd D clM A s.heap (zw X ad TM (cfM ad ca) S) H locs → lv_has ls 3 [(0, .ref (ad (1, 0, 0))), (1, .int a1), (2, .int a2)] → W p l e { frames := 1, cells := 0, slots := 0, locals := 23 } s m ([.ref (ad (1, 0, 0)), .int a1, .int a2] : List Value).toArray below meth c H locs 0 0 (MQ below (eI D clM X ad TM (cfM ad ca) A res) ([.ref (ad (1, 0, 0)), .int a1, .int a2] : List Value).toArray s 0 0 A) (F0 m 43 ls []) := by
  have hF := hy.1
  have hx := hF.1
  have hb := hF.2.1
  have hK := hy.2.2.2
  intro S hk hr H locs ls hW hl
  refine lv_iload_n (pc := 43) hx hb d_M_node_43 rfl (lv_at hl 2 rfl) ?_
  refine lv_bipush (pc := 44) (v := 10) hx hb d_M_node_44 (by decide) ?_
  refine lv_icmp_ne (pc := 46) (tgt := 51) hx hb d_M_node_46 (by decide) (fun c10 => ?_) (fun c10 => ?_)
  · have hk := hk.2 c10
    have hr := (if_neg c10).symm.trans hr
    exact w_M_node_51 a1 a2 hy hA S hk hr _ _ _ hW (lv_sub hl [0, 1, 2] rfl)
  · have hk := hk.1 c10
    have hr := (if_pos c10).symm.trans hr
    refine lv_iconst (pc := 49) (v := 0) hx hb d_M_node_49 (by decide) ?_
    exact z_iret (v := (0 : Int32)) hy hW hr.symm d_M_node_50
def f_M_node (a1 : Int32) (a2 : Int32) (S : St) : Int32 × St :=
  lt (si S 1 0 0 1 (0 : Int32)) fun (S1 : St) =>
  lt (f_M_isNode a1 S1) fun (r2 : Int32) =>
  if r2 = 0 then
    ((-1 : Int32), S1)
  else
    if a2 < 0 then
      ((-1 : Int32), S1)
    else
      if a2 ≤ (11 : Int32) then
        if (S1.1 11 0 0 a1.toNatClampNeg) = 0 then
          if a2 < (1 : Int32) then
            f_M_node_43 a1 a2 S1
          else
            if a2 ≤ (4 : Int32) then
              ((0 : Int32), S1)
            else
              f_M_node_43 a1 a2 S1
        else
          f_M_node_51 a1 a2 S1
      else
        ((-1 : Int32), S1)
def ok_M_node (a1 : Int32) (a2 : Int32) (S : St) : Prop :=
  lt (si S 1 0 0 1 (0 : Int32)) fun (S1 : St) =>
  lt (f_M_isNode a1 S1) fun (r2 : Int32) =>
  (r2 = 0 → (
    True)) ∧ (¬ (r2 = 0) → (
    (a2 < 0 → (
      True)) ∧ (¬ (a2 < 0) → (
      (a2 ≤ (11 : Int32) → (
        (vp_in a1 4) ∧ (
          ((S1.1 11 0 0 a1.toNatClampNeg) = 0 → (
            (a2 < (1 : Int32) → (
              ok_M_node_43 a1 a2 S1)) ∧ (¬ (a2 < (1 : Int32)) → (
              (a2 ≤ (4 : Int32) → (
                True)) ∧ (¬ (a2 ≤ (4 : Int32)) → (
                ok_M_node_43 a1 a2 S1)))))) ∧ (¬ ((S1.1 11 0 0 a1.toNatClampNeg) = 0) → (
            ok_M_node_51 a1 a2 S1))))) ∧ (¬ (a2 ≤ (11 : Int32)) → (
        True))))))
set_option maxHeartbeats 4000000 in
set_option maxRecDepth 100000 in
theorem c_M_node (l : Launch) (D : va_G) (X : va_W) (ad : N3 → Nat) (ca : Nat → ClassId) (a1 : Int32) (a2 : Int32)  (S : St) (hk : ok_M_node a1 a2 S) : cI l GG D clM (tysM ca) nwM X ad TM (cfM ad ca) y_M_node b_M_node 3 .int 1 23 [.ref (ad (1, 0, 0)), .int a1, .int a2] S (f_M_node a1 a2 S) := by
  generalize hr : f_M_node a1 a2 S = res
  refine zI_of pn_M (Nat.le_of_ble_eq_true rfl) (fun p e s m below meth c A ls hy hW hA hl => ?_)
  have hF := hy.1
  have hx := hF.1
  have hb := hF.2.1
  have hK := hy.2.2.2
  have hl : lv_has ls 3 [(0, .ref (ad (1, 0, 0))), (1, .int a1), (2, .int a2)] := hl
  refine lv_aload_n (pc := 0) hx hb d_M_node_0 rfl (lv_at hl 0 rfl) ?_
  refine lv_iconst (pc := 1) (v := 0) hx hb d_M_node_1 (by decide) ?_
  obtain ⟨S1, eS1⟩ : ∃ z : St, z = si S 1 0 0 1 (0 : Int32) := ⟨_, rfl⟩
  have hk := lt_p eS1 hk
  have hr := lt_e eS1 hr
  refine z_put (pc := 2) (S' := S1) hF hK.1 hW tm1 rfl rfl in_M t_M tyo_M nmo_M 1 (by decide) gw_885 rfl rfl rfl rfl rfl (Nat.le_of_ble_eq_true rfl) (zs_si eS1 rfl) (zs_sio eS1) d_M_node_2 (fun H locs (hW : Wd D clM A s.heap (zw X ad TM (cfM ad ca) S1) H locs) => ?_)
  refine lv_iload_n (pc := 5) hx hb d_M_node_5 rfl (lv_at hl 1 rfl) ?_
  obtain ⟨r2, er2⟩ : ∃ z : Int32, z = f_M_isNode a1 S1 := ⟨_, rfl⟩
  have hk := lt_p er2 hk
  have hr := lt_e er2 hr
  refine p_go (pc := 6) (congrArg Value.int er2) (p_runS hF hK hW (c_M_isNode l D X ad ca a1 S1 _) cd_M_isNode gw_1022 ⟨Nat.le_of_ble_eq_true rfl, Nat.le_of_ble_eq_true rfl⟩ ⟨Nat.zero_le _, Nat.zero_le _⟩ rfl rfl hl.1 (Nat.le_of_ble_eq_true rfl) d_M_node_6) ?_
  refine lv_if_eq (pc := 9) (tgt := 22) hx hb d_M_node_9 (by decide) (fun c3 => ?_) (fun c3 => ?_)
  · have hk := hk.1 c3
    have hr := (if_pos c3).symm.trans hr
    refine lv_iconst (pc := 22) (v := -1) hx hb d_M_node_22 (by decide) ?_
    exact z_iret (v := (-1 : Int32)) hy hW hr.symm d_M_node_23
  · have hk := hk.2 c3
    have hr := (if_neg c3).symm.trans hr
    refine lv_iload_n (pc := 12) hx hb d_M_node_12 rfl (lv_at hl 2 rfl) ?_
    refine lv_if_lt (pc := 13) (tgt := 22) hx hb d_M_node_13 (by decide) (fun c4 => ?_) (fun c4 => ?_)
    · have hk := hk.1 c4
      have hr := (if_pos c4).symm.trans hr
      refine lv_iconst (pc := 22) (v := -1) hx hb d_M_node_22 (by decide) ?_
      exact z_iret (v := (-1 : Int32)) hy hW hr.symm d_M_node_23
    · have hk := hk.2 c4
      have hr := (if_neg c4).symm.trans hr
      refine lv_iload_n (pc := 16) hx hb d_M_node_16 rfl (lv_at hl 2 rfl) ?_
      refine lv_bipush (pc := 17) (v := 11) hx hb d_M_node_17 (by decide) ?_
      refine lv_icmp_le (pc := 19) (tgt := 24) hx hb d_M_node_19 (by decide) (fun c5 => ?_) (fun c5 => ?_)
      · have hk := hk.1 c5
        have hr := (if_pos c5).symm.trans hr
        refine lv_aload_n (pc := 24) hx hb d_M_node_24 rfl (lv_at hl 0 rfl) ?_
        refine z_get (pc := 25) (v := .ref (ad (11, 0, 0))) hF hK.1 hW tm1 rfl rfl in_M 16 (by decide) gw_900 rfl rfl d_M_node_25 ?_
        refine lv_iload_n (pc := 28) hx hb d_M_node_28 rfl (lv_at hl 1 rfl) ?_
        have b6 := hk.1
        have hk := hk.2
        refine z_zald (pc := 29) (v := S1.1 11 0 0 a1.toNatClampNeg) hF hK.1 hW tm11 2 rfl rfl b6 rfl d_M_node_29 ?_
        refine lv_if_ne (pc := 30) (tgt := 51) hx hb d_M_node_30 (by decide) (fun c7 => ?_) (fun c7 => ?_)
        · have hk := hk.2 c7
          have hr := (if_neg c7).symm.trans hr
          exact w_M_node_51 a1 a2 hy hA S1 hk hr _ _ _ hW (lv_sub hl [0, 1, 2] rfl)
        · have hk := hk.1 c7
          have hr := (if_pos c7).symm.trans hr
          refine lv_iload_n (pc := 33) hx hb d_M_node_33 rfl (lv_at hl 2 rfl) ?_
          refine lv_iconst (pc := 34) (v := 1) hx hb d_M_node_34 (by decide) ?_
          refine lv_icmp_lt (pc := 35) (tgt := 43) hx hb d_M_node_35 (by decide) (fun c8 => ?_) (fun c8 => ?_)
          · have hk := hk.1 c8
            have hr := (if_pos c8).symm.trans hr
            exact w_M_node_43 a1 a2 hy hA S1 hk hr _ _ _ hW (lv_sub hl [0, 1, 2] rfl)
          · have hk := hk.2 c8
            have hr := (if_neg c8).symm.trans hr
            refine lv_iload_n (pc := 38) hx hb d_M_node_38 rfl (lv_at hl 2 rfl) ?_
            refine lv_iconst (pc := 39) (v := 4) hx hb d_M_node_39 (by decide) ?_
            refine lv_icmp_le (pc := 40) (tgt := 49) hx hb d_M_node_40 (by decide) (fun c9 => ?_) (fun c9 => ?_)
            · have hk := hk.1 c9
              have hr := (if_pos c9).symm.trans hr
              refine lv_iconst (pc := 49) (v := 0) hx hb d_M_node_49 (by decide) ?_
              exact z_iret (v := (0 : Int32)) hy hW hr.symm d_M_node_50
            · have hk := hk.2 c9
              have hr := (if_neg c9).symm.trans hr
              exact w_M_node_43 a1 a2 hy hA S1 hk hr _ _ _ hW (lv_sub hl [0, 1, 2] rfl)
      · have hk := hk.2 c5
        have hr := (if_neg c5).symm.trans hr
        refine lv_iconst (pc := 22) (v := -1) hx hb d_M_node_22 (by decide) ?_
        exact z_iret (v := (-1 : Int32)) hy hW hr.symm d_M_node_23
theorem d_M_log_0 : decode b_M_log 0 = .ok (.aload_n 0, 1) := by decide +kernel
theorem d_M_log_1 : decode b_M_log 1 = .ok (.iconst 0, 1) := by decide +kernel
theorem d_M_log_2 : decode b_M_log 2 = .ok (.putfield 141, 3) := by decide +kernel
theorem d_M_log_5 : decode b_M_log 5 = .ok (.iload_n 1, 1) := by decide +kernel
theorem d_M_log_6 : decode b_M_log 6 = .ok (.invokestatic 231, 3) := by decide +kernel
theorem d_M_log_9 : decode b_M_log 9 = .ok (.ifCond .eq 17, 3) := by decide +kernel
theorem d_M_log_12 : decode b_M_log 12 = .ok (.iload_n 2, 1) := by decide +kernel
theorem d_M_log_13 : decode b_M_log 13 = .ok (.ifCond .lt 13, 3) := by decide +kernel
theorem d_M_log_16 : decode b_M_log 16 = .ok (.iload_n 2, 1) := by decide +kernel
theorem d_M_log_17 : decode b_M_log 17 = .ok (.aload_n 0, 1) := by decide +kernel
theorem d_M_log_18 : decode b_M_log 18 = .ok (.getfield 82, 3) := by decide +kernel
theorem d_M_log_21 : decode b_M_log 21 = .ok (.iload_n 1, 1) := by decide +kernel
theorem d_M_log_22 : decode b_M_log 22 = .ok (.iaload, 1) := by decide +kernel
theorem d_M_log_23 : decode b_M_log 23 = .ok (.if_icmp .lt 7, 3) := by decide +kernel
theorem d_M_log_26 : decode b_M_log 26 = .ok (.iconst (-1), 1) := by decide +kernel
theorem d_M_log_27 : decode b_M_log 27 = .ok (.goto 14, 3) := by decide +kernel
theorem d_M_log_30 : decode b_M_log 30 = .ok (.aload_n 0, 1) := by decide +kernel
theorem d_M_log_31 : decode b_M_log 31 = .ok (.getfield 85, 3) := by decide +kernel
theorem d_M_log_34 : decode b_M_log 34 = .ok (.bipush 101, 2) := by decide +kernel
theorem d_M_log_36 : decode b_M_log 36 = .ok (.iload_n 1, 1) := by decide +kernel
theorem d_M_log_37 : decode b_M_log 37 = .ok (.imul, 1) := by decide +kernel
theorem d_M_log_38 : decode b_M_log 38 = .ok (.iload_n 2, 1) := by decide +kernel
theorem d_M_log_39 : decode b_M_log 39 = .ok (.iadd, 1) := by decide +kernel
theorem d_M_log_40 : decode b_M_log 40 = .ok (.iaload, 1) := by decide +kernel
theorem d_M_log_41 : decode b_M_log 41 = .ok (.ireturn, 1) := by decide +kernel
def f_M_log (a1 : Int32) (a2 : Int32) (S : St) : Int32 × St :=
  lt (si S 1 0 0 1 (0 : Int32)) fun (S1 : St) =>
  lt (f_M_isNode a1 S1) fun (r2 : Int32) =>
  if r2 = 0 then
    ((-1 : Int32), S1)
  else
    if a2 < 0 then
      ((-1 : Int32), S1)
    else
      if a2 < (S1.1 24 0 0 a1.toNatClampNeg) then
        (S1.1 25 0 0 (((101 : Int32) * a1) + a2).toNatClampNeg, S1)
      else
        ((-1 : Int32), S1)
def ok_M_log (a1 : Int32) (a2 : Int32) (S : St) : Prop :=
  lt (si S 1 0 0 1 (0 : Int32)) fun (S1 : St) =>
  lt (f_M_isNode a1 S1) fun (r2 : Int32) =>
  (r2 = 0 → (
    True)) ∧ (¬ (r2 = 0) → (
    (a2 < 0 → (
      True)) ∧ (¬ (a2 < 0) → (
      (vp_in a1 4) ∧ (
        (a2 < (S1.1 24 0 0 a1.toNatClampNeg) → (
          (vp_in (((101 : Int32) * a1) + a2) 404) ∧ (
            True))) ∧ (¬ (a2 < (S1.1 24 0 0 a1.toNatClampNeg)) → (
          True)))))))
set_option maxHeartbeats 4000000 in
set_option maxRecDepth 100000 in
theorem c_M_log (l : Launch) (D : va_G) (X : va_W) (ad : N3 → Nat) (ca : Nat → ClassId) (a1 : Int32) (a2 : Int32)  (S : St) (hk : ok_M_log a1 a2 S) : cI l GG D clM (tysM ca) nwM X ad TM (cfM ad ca) y_M_log b_M_log 3 .int 1 20 [.ref (ad (1, 0, 0)), .int a1, .int a2] S (f_M_log a1 a2 S) := by
  generalize hr : f_M_log a1 a2 S = res
  refine zI_of pn_M (Nat.le_of_ble_eq_true rfl) (fun p e s m below meth c A ls hy hW hA hl => ?_)
  have hF := hy.1
  have hx := hF.1
  have hb := hF.2.1
  have hK := hy.2.2.2
  have hl : lv_has ls 3 [(0, .ref (ad (1, 0, 0))), (1, .int a1), (2, .int a2)] := hl
  refine lv_aload_n (pc := 0) hx hb d_M_log_0 rfl (lv_at hl 0 rfl) ?_
  refine lv_iconst (pc := 1) (v := 0) hx hb d_M_log_1 (by decide) ?_
  obtain ⟨S1, eS1⟩ : ∃ z : St, z = si S 1 0 0 1 (0 : Int32) := ⟨_, rfl⟩
  have hk := lt_p eS1 hk
  have hr := lt_e eS1 hr
  refine z_put (pc := 2) (S' := S1) hF hK.1 hW tm1 rfl rfl in_M t_M tyo_M nmo_M 1 (by decide) gw_885 rfl rfl rfl rfl rfl (Nat.le_of_ble_eq_true rfl) (zs_si eS1 rfl) (zs_sio eS1) d_M_log_2 (fun H locs (hW : Wd D clM A s.heap (zw X ad TM (cfM ad ca) S1) H locs) => ?_)
  refine lv_iload_n (pc := 5) hx hb d_M_log_5 rfl (lv_at hl 1 rfl) ?_
  obtain ⟨r2, er2⟩ : ∃ z : Int32, z = f_M_isNode a1 S1 := ⟨_, rfl⟩
  have hk := lt_p er2 hk
  have hr := lt_e er2 hr
  refine p_go (pc := 6) (congrArg Value.int er2) (p_runS hF hK hW (c_M_isNode l D X ad ca a1 S1 _) cd_M_isNode gw_1022 ⟨Nat.le_of_ble_eq_true rfl, Nat.le_of_ble_eq_true rfl⟩ ⟨Nat.zero_le _, Nat.zero_le _⟩ rfl rfl hl.1 (Nat.le_of_ble_eq_true rfl) d_M_log_6) ?_
  refine lv_if_eq (pc := 9) (tgt := 26) hx hb d_M_log_9 (by decide) (fun c3 => ?_) (fun c3 => ?_)
  · have hk := hk.1 c3
    have hr := (if_pos c3).symm.trans hr
    refine lv_iconst (pc := 26) (v := -1) hx hb d_M_log_26 (by decide) ?_
    refine lv_goto (pc := 27) (tgt := 41) hx hb d_M_log_27 (by decide) ?_
    exact z_iret (v := (-1 : Int32)) hy hW hr.symm d_M_log_41
  · have hk := hk.2 c3
    have hr := (if_neg c3).symm.trans hr
    refine lv_iload_n (pc := 12) hx hb d_M_log_12 rfl (lv_at hl 2 rfl) ?_
    refine lv_if_lt (pc := 13) (tgt := 26) hx hb d_M_log_13 (by decide) (fun c4 => ?_) (fun c4 => ?_)
    · have hk := hk.1 c4
      have hr := (if_pos c4).symm.trans hr
      refine lv_iconst (pc := 26) (v := -1) hx hb d_M_log_26 (by decide) ?_
      refine lv_goto (pc := 27) (tgt := 41) hx hb d_M_log_27 (by decide) ?_
      exact z_iret (v := (-1 : Int32)) hy hW hr.symm d_M_log_41
    · have hk := hk.2 c4
      have hr := (if_neg c4).symm.trans hr
      refine lv_iload_n (pc := 16) hx hb d_M_log_16 rfl (lv_at hl 2 rfl) ?_
      refine lv_aload_n (pc := 17) hx hb d_M_log_17 rfl (lv_at hl 0 rfl) ?_
      refine z_get (pc := 18) (v := .ref (ad (24, 0, 0))) hF hK.1 hW tm1 rfl rfl in_M 29 (by decide) gw_913 rfl rfl d_M_log_18 ?_
      refine lv_iload_n (pc := 21) hx hb d_M_log_21 rfl (lv_at hl 1 rfl) ?_
      have b5 := hk.1
      have hk := hk.2
      refine z_iald (pc := 22) (v := S1.1 24 0 0 a1.toNatClampNeg) hF hK.1 hW tm24 0 rfl rfl b5 rfl d_M_log_22 ?_
      refine lv_icmp_lt (pc := 23) (tgt := 30) hx hb d_M_log_23 (by decide) (fun c6 => ?_) (fun c6 => ?_)
      · have hk := hk.1 c6
        have hr := (if_pos c6).symm.trans hr
        refine lv_aload_n (pc := 30) hx hb d_M_log_30 rfl (lv_at hl 0 rfl) ?_
        refine z_get (pc := 31) (v := .ref (ad (25, 0, 0))) hF hK.1 hW tm1 rfl rfl in_M 30 (by decide) gw_914 rfl rfl d_M_log_31 ?_
        refine lv_bipush (pc := 34) (v := 101) hx hb d_M_log_34 (by decide) ?_
        refine lv_iload_n (pc := 36) hx hb d_M_log_36 rfl (lv_at hl 1 rfl) ?_
        refine lv_imul (pc := 37) hx hb d_M_log_37 ?_
        refine lv_iload_n (pc := 38) hx hb d_M_log_38 rfl (lv_at hl 2 rfl) ?_
        refine lv_iadd (pc := 39) hx hb d_M_log_39 ?_
        have b7 := hk.1
        have hk := hk.2
        refine z_iald (pc := 40) (v := S1.1 25 0 0 (((101 : Int32) * a1) + a2).toNatClampNeg) hF hK.1 hW tm25 0 rfl rfl b7 rfl d_M_log_40 ?_
        exact z_iret (v := S1.1 25 0 0 (((101 : Int32) * a1) + a2).toNatClampNeg) hy hW hr.symm d_M_log_41
      · have hk := hk.2 c6
        have hr := (if_neg c6).symm.trans hr
        refine lv_iconst (pc := 26) (v := -1) hx hb d_M_log_26 (by decide) ?_
        refine lv_goto (pc := 27) (tgt := 41) hx hb d_M_log_27 (by decide) ?_
        exact z_iret (v := (-1 : Int32)) hy hW hr.symm d_M_log_41
theorem d_M_account_0 : decode b_M_account 0 = .ok (.aload_n 0, 1) := by decide +kernel
theorem d_M_account_1 : decode b_M_account 1 = .ok (.iconst 0, 1) := by decide +kernel
theorem d_M_account_2 : decode b_M_account 2 = .ok (.putfield 141, 3) := by decide +kernel
theorem d_M_account_5 : decode b_M_account 5 = .ok (.iload_n 1, 1) := by decide +kernel
theorem d_M_account_6 : decode b_M_account 6 = .ok (.invokestatic 231, 3) := by decide +kernel
theorem d_M_account_9 : decode b_M_account 9 = .ok (.ifCond .eq 10, 3) := by decide +kernel
theorem d_M_account_12 : decode b_M_account 12 = .ok (.iload_n 2, 1) := by decide +kernel
theorem d_M_account_13 : decode b_M_account 13 = .ok (.invokestatic 231, 3) := by decide +kernel
theorem d_M_account_16 : decode b_M_account 16 = .ok (.ifCond .ne 5, 3) := by decide +kernel
theorem d_M_account_19 : decode b_M_account 19 = .ok (.iconst (-1), 1) := by decide +kernel
theorem d_M_account_20 : decode b_M_account 20 = .ok (.ireturn, 1) := by decide +kernel
theorem d_M_account_21 : decode b_M_account 21 = .ok (.iload_n 3, 1) := by decide +kernel
theorem d_M_account_22 : decode b_M_account 22 = .ok (.ifCond .ne 16, 3) := by decide +kernel
theorem d_M_account_25 : decode b_M_account 25 = .ok (.aload_n 0, 1) := by decide +kernel
theorem d_M_account_26 : decode b_M_account 26 = .ok (.getfield 88, 3) := by decide +kernel
theorem d_M_account_29 : decode b_M_account 29 = .ok (.iconst 4, 1) := by decide +kernel
theorem d_M_account_30 : decode b_M_account 30 = .ok (.iload_n 1, 1) := by decide +kernel
theorem d_M_account_31 : decode b_M_account 31 = .ok (.imul, 1) := by decide +kernel
theorem d_M_account_32 : decode b_M_account 32 = .ok (.iload_n 2, 1) := by decide +kernel
theorem d_M_account_33 : decode b_M_account 33 = .ok (.iadd, 1) := by decide +kernel
theorem d_M_account_34 : decode b_M_account 34 = .ok (.iaload, 1) := by decide +kernel
theorem d_M_account_35 : decode b_M_account 35 = .ok (.goto 22, 3) := by decide +kernel
theorem d_M_account_38 : decode b_M_account 38 = .ok (.iload_n 3, 1) := by decide +kernel
theorem d_M_account_39 : decode b_M_account 39 = .ok (.iconst 1, 1) := by decide +kernel
theorem d_M_account_40 : decode b_M_account 40 = .ok (.if_icmp .ne 16, 3) := by decide +kernel
theorem d_M_account_43 : decode b_M_account 43 = .ok (.aload_n 0, 1) := by decide +kernel
theorem d_M_account_44 : decode b_M_account 44 = .ok (.getfield 91, 3) := by decide +kernel
theorem d_M_account_47 : decode b_M_account 47 = .ok (.iconst 4, 1) := by decide +kernel
theorem d_M_account_48 : decode b_M_account 48 = .ok (.iload_n 1, 1) := by decide +kernel
theorem d_M_account_49 : decode b_M_account 49 = .ok (.imul, 1) := by decide +kernel
theorem d_M_account_50 : decode b_M_account 50 = .ok (.iload_n 2, 1) := by decide +kernel
theorem d_M_account_51 : decode b_M_account 51 = .ok (.iadd, 1) := by decide +kernel
theorem d_M_account_52 : decode b_M_account 52 = .ok (.iaload, 1) := by decide +kernel
theorem d_M_account_53 : decode b_M_account 53 = .ok (.goto 4, 3) := by decide +kernel
theorem d_M_account_56 : decode b_M_account 56 = .ok (.iconst (-1), 1) := by decide +kernel
theorem d_M_account_57 : decode b_M_account 57 = .ok (.ireturn, 1) := by decide +kernel
def f_M_account (a1 : Int32) (a2 : Int32) (a3 : Int32) (S : St) : Int32 × St :=
  lt (si S 1 0 0 1 (0 : Int32)) fun (S1 : St) =>
  lt (f_M_isNode a1 S1) fun (r2 : Int32) =>
  if r2 = 0 then
    ((-1 : Int32), S1)
  else
    lt (f_M_isNode a2 S1) fun (r4 : Int32) =>
    if r4 = 0 then
      ((-1 : Int32), S1)
    else
      if a3 = 0 then
        (S1.1 26 0 0 (((4 : Int32) * a1) + a2).toNatClampNeg, S1)
      else
        if a3 = (1 : Int32) then
          (S1.1 27 0 0 (((4 : Int32) * a1) + a2).toNatClampNeg, S1)
        else
          ((-1 : Int32), S1)
def ok_M_account (a1 : Int32) (a2 : Int32) (a3 : Int32) (S : St) : Prop :=
  lt (si S 1 0 0 1 (0 : Int32)) fun (S1 : St) =>
  lt (f_M_isNode a1 S1) fun (r2 : Int32) =>
  (r2 = 0 → (
    True)) ∧ (¬ (r2 = 0) → (
    lt (f_M_isNode a2 S1) fun (r4 : Int32) =>
    (r4 = 0 → (
      True)) ∧ (¬ (r4 = 0) → (
      (a3 = 0 → (
        (vp_in (((4 : Int32) * a1) + a2) 16) ∧ (
          True))) ∧ (¬ (a3 = 0) → (
        (a3 = (1 : Int32) → (
          (vp_in (((4 : Int32) * a1) + a2) 16) ∧ (
            True))) ∧ (¬ (a3 = (1 : Int32)) → (
          True))))))))
set_option maxHeartbeats 4000000 in
set_option maxRecDepth 100000 in
theorem c_M_account (l : Launch) (D : va_G) (X : va_W) (ad : N3 → Nat) (ca : Nat → ClassId) (a1 : Int32) (a2 : Int32) (a3 : Int32)  (S : St) (hk : ok_M_account a1 a2 a3 S) : cI l GG D clM (tysM ca) nwM X ad TM (cfM ad ca) y_M_account b_M_account 4 .int 1 20 [.ref (ad (1, 0, 0)), .int a1, .int a2, .int a3] S (f_M_account a1 a2 a3 S) := by
  generalize hr : f_M_account a1 a2 a3 S = res
  refine zI_of pn_M (Nat.le_of_ble_eq_true rfl) (fun p e s m below meth c A ls hy hW hA hl => ?_)
  have hF := hy.1
  have hx := hF.1
  have hb := hF.2.1
  have hK := hy.2.2.2
  have hl : lv_has ls 4 [(0, .ref (ad (1, 0, 0))), (1, .int a1), (2, .int a2), (3, .int a3)] := hl
  refine lv_aload_n (pc := 0) hx hb d_M_account_0 rfl (lv_at hl 0 rfl) ?_
  refine lv_iconst (pc := 1) (v := 0) hx hb d_M_account_1 (by decide) ?_
  obtain ⟨S1, eS1⟩ : ∃ z : St, z = si S 1 0 0 1 (0 : Int32) := ⟨_, rfl⟩
  have hk := lt_p eS1 hk
  have hr := lt_e eS1 hr
  refine z_put (pc := 2) (S' := S1) hF hK.1 hW tm1 rfl rfl in_M t_M tyo_M nmo_M 1 (by decide) gw_885 rfl rfl rfl rfl rfl (Nat.le_of_ble_eq_true rfl) (zs_si eS1 rfl) (zs_sio eS1) d_M_account_2 (fun H locs (hW : Wd D clM A s.heap (zw X ad TM (cfM ad ca) S1) H locs) => ?_)
  refine lv_iload_n (pc := 5) hx hb d_M_account_5 rfl (lv_at hl 1 rfl) ?_
  obtain ⟨r2, er2⟩ : ∃ z : Int32, z = f_M_isNode a1 S1 := ⟨_, rfl⟩
  have hk := lt_p er2 hk
  have hr := lt_e er2 hr
  refine p_go (pc := 6) (congrArg Value.int er2) (p_runS hF hK hW (c_M_isNode l D X ad ca a1 S1 _) cd_M_isNode gw_1022 ⟨Nat.le_of_ble_eq_true rfl, Nat.le_of_ble_eq_true rfl⟩ ⟨Nat.zero_le _, Nat.zero_le _⟩ rfl rfl hl.1 (Nat.le_of_ble_eq_true rfl) d_M_account_6) ?_
  refine lv_if_eq (pc := 9) (tgt := 19) hx hb d_M_account_9 (by decide) (fun c3 => ?_) (fun c3 => ?_)
  · have hk := hk.1 c3
    have hr := (if_pos c3).symm.trans hr
    refine lv_iconst (pc := 19) (v := -1) hx hb d_M_account_19 (by decide) ?_
    exact z_iret (v := (-1 : Int32)) hy hW hr.symm d_M_account_20
  · have hk := hk.2 c3
    have hr := (if_neg c3).symm.trans hr
    refine lv_iload_n (pc := 12) hx hb d_M_account_12 rfl (lv_at hl 2 rfl) ?_
    obtain ⟨r4, er4⟩ : ∃ z : Int32, z = f_M_isNode a2 S1 := ⟨_, rfl⟩
    have hk := lt_p er4 hk
    have hr := lt_e er4 hr
    refine p_go (pc := 13) (congrArg Value.int er4) (p_runS hF hK hW (c_M_isNode l D X ad ca a2 S1 _) cd_M_isNode gw_1022 ⟨Nat.le_of_ble_eq_true rfl, Nat.le_of_ble_eq_true rfl⟩ ⟨Nat.zero_le _, Nat.zero_le _⟩ rfl rfl hl.1 (Nat.le_of_ble_eq_true rfl) d_M_account_13) ?_
    refine lv_if_ne (pc := 16) (tgt := 21) hx hb d_M_account_16 (by decide) (fun c5 => ?_) (fun c5 => ?_)
    · have hk := hk.2 c5
      have hr := (if_neg c5).symm.trans hr
      refine lv_iload_n (pc := 21) hx hb d_M_account_21 rfl (lv_at hl 3 rfl) ?_
      refine lv_if_ne (pc := 22) (tgt := 38) hx hb d_M_account_22 (by decide) (fun c6 => ?_) (fun c6 => ?_)
      · have hk := hk.2 c6
        have hr := (if_neg c6).symm.trans hr
        refine lv_iload_n (pc := 38) hx hb d_M_account_38 rfl (lv_at hl 3 rfl) ?_
        refine lv_iconst (pc := 39) (v := 1) hx hb d_M_account_39 (by decide) ?_
        refine lv_icmp_ne (pc := 40) (tgt := 56) hx hb d_M_account_40 (by decide) (fun c7 => ?_) (fun c7 => ?_)
        · have hk := hk.2 c7
          have hr := (if_neg c7).symm.trans hr
          refine lv_iconst (pc := 56) (v := -1) hx hb d_M_account_56 (by decide) ?_
          exact z_iret (v := (-1 : Int32)) hy hW hr.symm d_M_account_57
        · have hk := hk.1 c7
          have hr := (if_pos c7).symm.trans hr
          refine lv_aload_n (pc := 43) hx hb d_M_account_43 rfl (lv_at hl 0 rfl) ?_
          refine z_get (pc := 44) (v := .ref (ad (27, 0, 0))) hF hK.1 hW tm1 rfl rfl in_M 32 (by decide) gw_916 rfl rfl d_M_account_44 ?_
          refine lv_iconst (pc := 47) (v := 4) hx hb d_M_account_47 (by decide) ?_
          refine lv_iload_n (pc := 48) hx hb d_M_account_48 rfl (lv_at hl 1 rfl) ?_
          refine lv_imul (pc := 49) hx hb d_M_account_49 ?_
          refine lv_iload_n (pc := 50) hx hb d_M_account_50 rfl (lv_at hl 2 rfl) ?_
          refine lv_iadd (pc := 51) hx hb d_M_account_51 ?_
          have b8 := hk.1
          have hk := hk.2
          refine z_iald (pc := 52) (v := S1.1 27 0 0 (((4 : Int32) * a1) + a2).toNatClampNeg) hF hK.1 hW tm27 0 rfl rfl b8 rfl d_M_account_52 ?_
          refine lv_goto (pc := 53) (tgt := 57) hx hb d_M_account_53 (by decide) ?_
          exact z_iret (v := S1.1 27 0 0 (((4 : Int32) * a1) + a2).toNatClampNeg) hy hW hr.symm d_M_account_57
      · have hk := hk.1 c6
        have hr := (if_pos c6).symm.trans hr
        refine lv_aload_n (pc := 25) hx hb d_M_account_25 rfl (lv_at hl 0 rfl) ?_
        refine z_get (pc := 26) (v := .ref (ad (26, 0, 0))) hF hK.1 hW tm1 rfl rfl in_M 31 (by decide) gw_915 rfl rfl d_M_account_26 ?_
        refine lv_iconst (pc := 29) (v := 4) hx hb d_M_account_29 (by decide) ?_
        refine lv_iload_n (pc := 30) hx hb d_M_account_30 rfl (lv_at hl 1 rfl) ?_
        refine lv_imul (pc := 31) hx hb d_M_account_31 ?_
        refine lv_iload_n (pc := 32) hx hb d_M_account_32 rfl (lv_at hl 2 rfl) ?_
        refine lv_iadd (pc := 33) hx hb d_M_account_33 ?_
        have b9 := hk.1
        have hk := hk.2
        refine z_iald (pc := 34) (v := S1.1 26 0 0 (((4 : Int32) * a1) + a2).toNatClampNeg) hF hK.1 hW tm26 0 rfl rfl b9 rfl d_M_account_34 ?_
        refine lv_goto (pc := 35) (tgt := 57) hx hb d_M_account_35 (by decide) ?_
        exact z_iret (v := S1.1 26 0 0 (((4 : Int32) * a1) + a2).toNatClampNeg) hy hW hr.symm d_M_account_57
    · have hk := hk.1 c5
      have hr := (if_pos c5).symm.trans hr
      refine lv_iconst (pc := 19) (v := -1) hx hb d_M_account_19 (by decide) ?_
      exact z_iret (v := (-1 : Int32)) hy hW hr.symm d_M_account_20
