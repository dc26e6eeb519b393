theorem d_M_proposal_0 : decode b_M_proposal 0 = .ok (.aload_n 0, 1) := by decide +kernel
theorem d_M_proposal_1 : decode b_M_proposal 1 = .ok (.getfield 33, 3) := by decide +kernel
theorem d_M_proposal_4 : decode b_M_proposal 4 = .ok (.iload_n 3, 1) := by decide +kernel
theorem d_M_proposal_5 : decode b_M_proposal 5 = .ok (.iaload, 1) := by decide +kernel
theorem d_M_proposal_6 : decode b_M_proposal 6 = .ok (.istore 4, 2) := by decide +kernel
theorem d_M_proposal_8 : decode b_M_proposal 8 = .ok (.aload_n 0, 1) := by decide +kernel
theorem d_M_proposal_9 : decode b_M_proposal 9 = .ok (.getfield 67, 3) := by decide +kernel
theorem d_M_proposal_12 : decode b_M_proposal 12 = .ok (.bipush 100, 2) := by decide +kernel
theorem d_M_proposal_14 : decode b_M_proposal 14 = .ok (.iload_n 1, 1) := by decide +kernel
theorem d_M_proposal_15 : decode b_M_proposal 15 = .ok (.imul, 1) := by decide +kernel
theorem d_M_proposal_16 : decode b_M_proposal 16 = .ok (.iload 4, 2) := by decide +kernel
theorem d_M_proposal_18 : decode b_M_proposal 18 = .ok (.iadd, 1) := by decide +kernel
theorem d_M_proposal_19 : decode b_M_proposal 19 = .ok (.baload, 1) := by decide +kernel
theorem d_M_proposal_20 : decode b_M_proposal 20 = .ok (.ifCond .ne 14, 3) := by decide +kernel
theorem d_M_proposal_23 : decode b_M_proposal 23 = .ok (.aload_n 0, 1) := by decide +kernel
theorem d_M_proposal_24 : decode b_M_proposal 24 = .ok (.iload_n 1, 1) := by decide +kernel
theorem d_M_proposal_25 : decode b_M_proposal 25 = .ok (.iload_n 2, 1) := by decide +kernel
theorem d_M_proposal_26 : decode b_M_proposal 26 = .ok (.iconst 4, 1) := by decide +kernel
theorem d_M_proposal_27 : decode b_M_proposal 27 = .ok (.iload 4, 2) := by decide +kernel
theorem d_M_proposal_29 : decode b_M_proposal 29 = .ok (.iconst 0, 1) := by decide +kernel
theorem d_M_proposal_30 : decode b_M_proposal 30 = .ok (.invokevirtual 201, 3) := by decide +kernel
theorem d_M_proposal_33 : decode b_M_proposal 33 = .ok (.return_, 1) := by decide +kernel
theorem d_M_proposal_34 : decode b_M_proposal 34 = .ok (.aload_n 0, 1) := by decide +kernel
theorem d_M_proposal_35 : decode b_M_proposal 35 = .ok (.getfield 67, 3) := by decide +kernel
theorem d_M_proposal_38 : decode b_M_proposal 38 = .ok (.bipush 100, 2) := by decide +kernel
theorem d_M_proposal_40 : decode b_M_proposal 40 = .ok (.iload_n 1, 1) := by decide +kernel
theorem d_M_proposal_41 : decode b_M_proposal 41 = .ok (.imul, 1) := by decide +kernel
theorem d_M_proposal_42 : decode b_M_proposal 42 = .ok (.iload_n 3, 1) := by decide +kernel
theorem d_M_proposal_43 : decode b_M_proposal 43 = .ok (.iadd, 1) := by decide +kernel
theorem d_M_proposal_44 : decode b_M_proposal 44 = .ok (.iconst 1, 1) := by decide +kernel
theorem d_M_proposal_45 : decode b_M_proposal 45 = .ok (.bastore, 1) := by decide +kernel
theorem d_M_proposal_46 : decode b_M_proposal 46 = .ok (.aload_n 0, 1) := by decide +kernel
theorem d_M_proposal_47 : decode b_M_proposal 47 = .ok (.iload_n 1, 1) := by decide +kernel
theorem d_M_proposal_48 : decode b_M_proposal 48 = .ok (.iload 4, 2) := by decide +kernel
theorem d_M_proposal_50 : decode b_M_proposal 50 = .ok (.invokevirtual 214, 3) := by decide +kernel
theorem d_M_proposal_53 : decode b_M_proposal 53 = .ok (.aload_n 0, 1) := by decide +kernel
theorem d_M_proposal_54 : decode b_M_proposal 54 = .ok (.getfield 30, 3) := by decide +kernel
theorem d_M_proposal_57 : decode b_M_proposal 57 = .ok (.iload_n 3, 1) := by decide +kernel
theorem d_M_proposal_58 : decode b_M_proposal 58 = .ok (.iaload, 1) := by decide +kernel
theorem d_M_proposal_59 : decode b_M_proposal 59 = .ok (.istore 5, 2) := by decide +kernel
theorem d_M_proposal_61 : decode b_M_proposal 61 = .ok (.aload_n 0, 1) := by decide +kernel
theorem d_M_proposal_62 : decode b_M_proposal 62 = .ok (.aload_n 0, 1) := by decide +kernel
theorem d_M_proposal_63 : decode b_M_proposal 63 = .ok (.getfield 61, 3) := by decide +kernel
theorem d_M_proposal_66 : decode b_M_proposal 66 = .ok (.iload_n 1, 1) := by decide +kernel
theorem d_M_proposal_67 : decode b_M_proposal 67 = .ok (.iaload, 1) := by decide +kernel
theorem d_M_proposal_68 : decode b_M_proposal 68 = .ok (.iload_n 3, 1) := by decide +kernel
theorem d_M_proposal_69 : decode b_M_proposal 69 = .ok (.invokevirtual 205, 3) := by decide +kernel
theorem d_M_proposal_72 : decode b_M_proposal 72 = .ok (.ifCond .ne 24, 3) := by decide +kernel
theorem d_M_proposal_75 : decode b_M_proposal 75 = .ok (.aload_n 0, 1) := by decide +kernel
theorem d_M_proposal_76 : decode b_M_proposal 76 = .ok (.getfield 30, 3) := by decide +kernel
theorem d_M_proposal_79 : decode b_M_proposal 79 = .ok (.iload 4, 2) := by decide +kernel
theorem d_M_proposal_81 : decode b_M_proposal 81 = .ok (.iaload, 1) := by decide +kernel
theorem d_M_proposal_82 : decode b_M_proposal 82 = .ok (.aload_n 0, 1) := by decide +kernel
theorem d_M_proposal_83 : decode b_M_proposal 83 = .ok (.getfield 30, 3) := by decide +kernel
theorem d_M_proposal_86 : decode b_M_proposal 86 = .ok (.aload_n 0, 1) := by decide +kernel
theorem d_M_proposal_87 : decode b_M_proposal 87 = .ok (.getfield 61, 3) := by decide +kernel
theorem d_M_proposal_90 : decode b_M_proposal 90 = .ok (.iload_n 1, 1) := by decide +kernel
theorem d_M_proposal_91 : decode b_M_proposal 91 = .ok (.iaload, 1) := by decide +kernel
theorem d_M_proposal_92 : decode b_M_proposal 92 = .ok (.iaload, 1) := by decide +kernel
theorem d_M_proposal_93 : decode b_M_proposal 93 = .ok (.if_icmp .le 7, 3) := by decide +kernel
theorem d_M_proposal_96 : decode b_M_proposal 96 = .ok (.iconst 1, 1) := by decide +kernel
theorem d_M_proposal_97 : decode b_M_proposal 97 = .ok (.goto 4, 3) := by decide +kernel
theorem d_M_proposal_100 : decode b_M_proposal 100 = .ok (.iconst 0, 1) := by decide +kernel
theorem d_M_proposal_101 : decode b_M_proposal 101 = .ok (.istore 6, 2) := by decide +kernel
theorem d_M_proposal_103 : decode b_M_proposal 103 = .ok (.iload 5, 2) := by decide +kernel
theorem d_M_proposal_105 : decode b_M_proposal 105 = .ok (.aload_n 0, 1) := by decide +kernel
theorem d_M_proposal_106 : decode b_M_proposal 106 = .ok (.getfield 58, 3) := by decide +kernel
theorem d_M_proposal_109 : decode b_M_proposal 109 = .ok (.iload_n 1, 1) := by decide +kernel
theorem d_M_proposal_110 : decode b_M_proposal 110 = .ok (.iaload, 1) := by decide +kernel
theorem d_M_proposal_111 : decode b_M_proposal 111 = .ok (.if_icmp .le 95, 3) := by decide +kernel
theorem d_M_proposal_114 : decode b_M_proposal 114 = .ok (.iload 5, 2) := by decide +kernel
theorem d_M_proposal_116 : decode b_M_proposal 116 = .ok (.aload_n 0, 1) := by decide +kernel
theorem d_M_proposal_117 : decode b_M_proposal 117 = .ok (.getfield 46, 3) := by decide +kernel
theorem d_M_proposal_120 : decode b_M_proposal 120 = .ok (.iload_n 1, 1) := by decide +kernel
theorem d_M_proposal_121 : decode b_M_proposal 121 = .ok (.iaload, 1) := by decide +kernel
theorem d_M_proposal_122 : decode b_M_proposal 122 = .ok (.if_icmp .lt 84, 3) := by decide +kernel
theorem d_M_proposal_125 : decode b_M_proposal 125 = .ok (.iload 6, 2) := by decide +kernel
theorem d_M_proposal_127 : decode b_M_proposal 127 = .ok (.ifCond .eq 79, 3) := by decide +kernel
theorem d_M_proposal_130 : decode b_M_proposal 130 = .ok (.aload_n 0, 1) := by decide +kernel
theorem d_M_proposal_131 : decode b_M_proposal 131 = .ok (.getfield 52, 3) := by decide +kernel
theorem d_M_proposal_134 : decode b_M_proposal 134 = .ok (.iload_n 1, 1) := by decide +kernel
theorem d_M_proposal_135 : decode b_M_proposal 135 = .ok (.aload_n 0, 1) := by decide +kernel
theorem d_M_proposal_136 : decode b_M_proposal 136 = .ok (.getfield 30, 3) := by decide +kernel
theorem d_M_proposal_139 : decode b_M_proposal 139 = .ok (.iload 4, 2) := by decide +kernel
theorem d_M_proposal_141 : decode b_M_proposal 141 = .ok (.iaload, 1) := by decide +kernel
theorem d_M_proposal_142 : decode b_M_proposal 142 = .ok (.iload 5, 2) := by decide +kernel
theorem d_M_proposal_144 : decode b_M_proposal 144 = .ok (.iconst 1, 1) := by decide +kernel
theorem d_M_proposal_145 : decode b_M_proposal 145 = .ok (.isub, 1) := by decide +kernel
theorem d_M_proposal_146 : decode b_M_proposal 146 = .ok (.if_icmp .ne 8, 3) := by decide +kernel
theorem d_M_proposal_149 : decode b_M_proposal 149 = .ok (.bipush 6, 2) := by decide +kernel
theorem d_M_proposal_151 : decode b_M_proposal 151 = .ok (.goto 9, 3) := by decide +kernel
theorem d_M_proposal_154 : decode b_M_proposal 154 = .ok (.aload_n 0, 1) := by decide +kernel
theorem d_M_proposal_155 : decode b_M_proposal 155 = .ok (.getfield 52, 3) := by decide +kernel
theorem d_M_proposal_158 : decode b_M_proposal 158 = .ok (.iload_n 1, 1) := by decide +kernel
theorem d_M_proposal_159 : decode b_M_proposal 159 = .ok (.iaload, 1) := by decide +kernel
theorem d_M_proposal_160 : decode b_M_proposal 160 = .ok (.iastore, 1) := by decide +kernel
theorem d_M_proposal_161 : decode b_M_proposal 161 = .ok (.aload_n 0, 1) := by decide +kernel
theorem d_M_proposal_162 : decode b_M_proposal 162 = .ok (.iload_n 1, 1) := by decide +kernel
theorem d_M_proposal_163 : decode b_M_proposal 163 = .ok (.iload 5, 2) := by decide +kernel
theorem d_M_proposal_165 : decode b_M_proposal 165 = .ok (.invokevirtual 217, 3) := by decide +kernel
theorem d_M_proposal_168 : decode b_M_proposal 168 = .ok (.aload_n 0, 1) := by decide +kernel
theorem d_M_proposal_169 : decode b_M_proposal 169 = .ok (.getfield 58, 3) := by decide +kernel
theorem d_M_proposal_172 : decode b_M_proposal 172 = .ok (.iload_n 1, 1) := by decide +kernel
theorem d_M_proposal_173 : decode b_M_proposal 173 = .ok (.iload 5, 2) := by decide +kernel
theorem d_M_proposal_175 : decode b_M_proposal 175 = .ok (.iastore, 1) := by decide +kernel
theorem d_M_proposal_176 : decode b_M_proposal 176 = .ok (.aload_n 0, 1) := by decide +kernel
theorem d_M_proposal_177 : decode b_M_proposal 177 = .ok (.iload_n 1, 1) := by decide +kernel
theorem d_M_proposal_178 : decode b_M_proposal 178 = .ok (.aload_n 0, 1) := by decide +kernel
theorem d_M_proposal_179 : decode b_M_proposal 179 = .ok (.iconst 2, 1) := by decide +kernel
theorem d_M_proposal_180 : decode b_M_proposal 180 = .ok (.iconst 0, 1) := by decide +kernel
theorem d_M_proposal_181 : decode b_M_proposal 181 = .ok (.iload_n 3, 1) := by decide +kernel
theorem d_M_proposal_182 : decode b_M_proposal 182 = .ok (.invokevirtual 194, 3) := by decide +kernel
theorem d_M_proposal_185 : decode b_M_proposal 185 = .ok (.invokevirtual 197, 3) := by decide +kernel
theorem d_M_proposal_188 : decode b_M_proposal 188 = .ok (.ifCond .eq 18, 3) := by decide +kernel
theorem d_M_proposal_191 : decode b_M_proposal 191 = .ok (.aload_n 0, 1) := by decide +kernel
theorem d_M_proposal_192 : decode b_M_proposal 192 = .ok (.iload_n 1, 1) := by decide +kernel
theorem d_M_proposal_193 : decode b_M_proposal 193 = .ok (.iload 5, 2) := by decide +kernel
theorem d_M_proposal_195 : decode b_M_proposal 195 = .ok (.iconst 1, 1) := by decide +kernel
theorem d_M_proposal_196 : decode b_M_proposal 196 = .ok (.iadd, 1) := by decide +kernel
theorem d_M_proposal_197 : decode b_M_proposal 197 = .ok (.invokestatic 220, 3) := by decide +kernel
theorem d_M_proposal_200 : decode b_M_proposal 200 = .ok (.iconst 2, 1) := by decide +kernel
theorem d_M_proposal_201 : decode b_M_proposal 201 = .ok (.iload_n 3, 1) := by decide +kernel
theorem d_M_proposal_202 : decode b_M_proposal 202 = .ok (.iconst 0, 1) := by decide +kernel
theorem d_M_proposal_203 : decode b_M_proposal 203 = .ok (.invokevirtual 201, 3) := by decide +kernel
theorem d_M_proposal_206 : decode b_M_proposal 206 = .ok (.return_, 1) := by decide +kernel
def f_M_proposal_160 (a1 : Int32) (a2 : Int32) (a3 : Int32) (S : St) (l5 : Int32) (t0 : Int32) (t1 : Int32) : St :=
  lt (si S 14 0 0 (t1.toNatClampNeg) t0) fun (S30 : St) =>
  lt (f_M_enter a1 l5 S30) fun (S33 : St) =>
  lt (si S33 16 0 0 (a1.toNatClampNeg) l5) fun (S35 : St) =>
  lt (f_M_meant (2 : Int32) (0 : Int32) a3 S35) fun (r36 : Int64 × St) =>
  lt (f_M_signs a1 r36.1 r36.2) fun (r38 : Int32 × St) =>
  if r38.1 = 0 then
    r38.2
  else
    lt (f_M_leader (l5 + (1 : Int32)) r38.2) fun (r40 : Int32) =>
    lt (f_M_send a1 r40 (2 : Int32) a3 (0 : Int32) r38.2) fun (S43 : St) =>
    S43
def ok_M_proposal_160 (a1 : Int32) (a2 : Int32) (a3 : Int32) (S : St) (l5 : Int32) (t0 : Int32) (t1 : Int32) : Prop :=
  (vp_in t1 4) ∧ (
    lt (si S 14 0 0 (t1.toNatClampNeg) t0) fun (S30 : St) =>
    (ok_M_enter a1 l5 S30) ∧ (
      lt (f_M_enter a1 l5 S30) fun (S33 : St) =>
      (vp_in a1 4) ∧ (
        lt (si S33 16 0 0 (a1.toNatClampNeg) l5) fun (S35 : St) =>
        lt (f_M_meant (2 : Int32) (0 : Int32) a3 S35) fun (r36 : Int64 × St) =>
        (ok_M_signs a1 r36.1 r36.2) ∧ (
          lt (f_M_signs a1 r36.1 r36.2) fun (r38 : Int32 × St) =>
          (r38.1 = 0 → (
            True)) ∧ (¬ (r38.1 = 0) → (
            lt (f_M_leader (l5 + (1 : Int32)) r38.2) fun (r40 : Int32) =>
            (ok_M_send a1 r40 (2 : Int32) a3 (0 : Int32) r38.2) ∧ (
              True)))))))
set_option maxHeartbeats 4000000 in
set_option maxRecDepth 100000 in
theorem w_M_proposal_160 {l : Launch} {D : va_G} {X : va_W} {ad : N3 → Nat} {ca : Nat → ClassId} (a1 : Int32) (a2 : Int32) (a3 : Int32)  {p : Program} {e : Env} {s : State} {m : MethodId} {below : List Frame} {meth : Method} {c : Code} {A : Nat → Prop} (hy : Hy p s m ([.ref (ad (1, 0, 0)), .int a1, .int a2, .int a3] : List Value).toArray meth c b_M_proposal 7 none R_M GG D clM (tysM ca) nwM) (hA : ∀ q, s.heap.size ≤ q → A q) {res : St} : ∀  (S : St) (l5 : Int32) (t0 : Int32) (t1 : Int32) , ok_M_proposal_160 a1 a2 a3 S l5 t0 t1 → f_M_proposal_160 a1 a2 a3 S l5 t0 t1 = res → ∀ (H : Heap) (locs : List Loc) (ls : Array Slot), Wd D clM A s.heap (zw X ad TM (cfM ad ca) S) H locs → lv_has ls 7 [(0, .ref (ad (1, 0, 0))), (1, .int a1), (3, .int a3), (5, .int l5)] → W p l e { frames := 4, cells := 0, slots := 0, locals := 98 } s m ([.ref (ad (1, 0, 0)), .int a1, .int a2, .int a3] : List Value).toArray below meth c H locs 0 0 (MQ below (eV D clM X ad TM (cfM ad ca) A res) ([.ref (ad (1, 0, 0)), .int a1, .int a2, .int a3] : List Value).toArray s 0 0 A) (F0 m 160 ls [.int t0, .int t1, .ref (ad (14, 0, 0))]) := by
  have hF := hy.1
  have hx := hF.1
  have hb := hF.2.1
  have hK := hy.2.2.2
  intro S l5 t0 t1 hk hr H locs ls hW hl
  have b29 := hk.1
  have hk := hk.2
  obtain ⟨S30, eS30⟩ : ∃ z : St, z = si S 14 0 0 (t1.toNatClampNeg) t0 := ⟨_, rfl⟩
  have hk := lt_p eS30 hk
  have hr := lt_e eS30 hr
  refine z_iast (pc := 160) (S' := S30) hF hK.1 hW tm14 0 rfl rfl b29 (zs_si eS30 rfl) (zs_sio eS30) d_M_proposal_160 (fun H locs (hW : Wd D clM A s.heap (zw X ad TM (cfM ad ca) S30) H locs) => ?_)
  refine lv_aload_n (pc := 161) hx hb d_M_proposal_161 rfl (lv_at hl 0 rfl) ?_
  refine lv_iload_n (pc := 162) hx hb d_M_proposal_162 rfl (lv_at hl 1 rfl) ?_
  refine lv_iload (pc := 163) hx hb d_M_proposal_163 (lv_at hl 3 rfl) ?_
  have o31 := hk.1
  have hk := hk.2
  obtain ⟨S33, eS33⟩ : ∃ z : St, z = f_M_enter a1 l5 S30 := ⟨_, rfl⟩
  have hk := lt_p eS33 hk
  have hr := lt_e eS33 hr
  refine z_goV (pc := 165) hW hA eS33 (z_runV hF hK hW (c_M_enter l D X ad ca a1 l5 S30 o31 _) cd_M_enter gw_1082 tm1 rfl rfl ⟨Nat.le_of_ble_eq_true rfl, Nat.le_of_ble_eq_true rfl⟩ ⟨Nat.zero_le _, Nat.zero_le _⟩ rfl rfl hl.1 (Nat.le_of_ble_eq_true rfl) d_M_proposal_165) (fun H locs (hW : Wd D clM A s.heap (zw X ad TM (cfM ad ca) S33) H locs) => ?_)
  refine lv_aload_n (pc := 168) hx hb d_M_proposal_168 rfl (lv_at hl 0 rfl) ?_
  refine z_get (pc := 169) (v := .ref (ad (16, 0, 0))) hF hK.1 hW tm1 rfl rfl in_M 21 (by decide) gw_905 rfl rfl d_M_proposal_169 ?_
  refine lv_iload_n (pc := 172) hx hb d_M_proposal_172 rfl (lv_at hl 1 rfl) ?_
  refine lv_iload (pc := 173) hx hb d_M_proposal_173 (lv_at hl 3 rfl) ?_
  have b34 := hk.1
  have hk := hk.2
  obtain ⟨S35, eS35⟩ : ∃ z : St, z = si S33 16 0 0 (a1.toNatClampNeg) l5 := ⟨_, rfl⟩
  have hk := lt_p eS35 hk
  have hr := lt_e eS35 hr
  refine z_iast (pc := 175) (S' := S35) hF hK.1 hW tm16 0 rfl rfl b34 (zs_si eS35 rfl) (zs_sio eS35) d_M_proposal_175 (fun H locs (hW : Wd D clM A s.heap (zw X ad TM (cfM ad ca) S35) H locs) => ?_)
  refine lv_aload_n (pc := 176) hx hb d_M_proposal_176 rfl (lv_at hl 0 rfl) ?_
  refine lv_iload_n (pc := 177) hx hb d_M_proposal_177 rfl (lv_at hl 1 rfl) ?_
  refine lv_aload_n (pc := 178) hx hb d_M_proposal_178 rfl (lv_at hl 0 rfl) ?_
  refine lv_iconst (pc := 179) (v := 2) hx hb d_M_proposal_179 (by decide) ?_
  refine lv_iconst (pc := 180) (v := 0) hx hb d_M_proposal_180 (by decide) ?_
  refine lv_iload_n (pc := 181) hx hb d_M_proposal_181 rfl (lv_at hl 2 rfl) ?_
  obtain ⟨r36, er36⟩ : ∃ z : Int64 × St, z = f_M_meant (2 : Int32) (0 : Int32) a3 S35 := ⟨_, rfl⟩
  have hk := lt_p er36 hk
  have hr := lt_e er36 hr
  refine z_goL (pc := 182) hW hA (show (r36.1, r36.2) = _ from er36) (z_runV hF hK hW (c_M_meant l D X ad ca (2 : Int32) (0 : Int32) a3 S35 _) cd_M_meant gw_1041 tm1 rfl rfl ⟨Nat.le_of_ble_eq_true rfl, Nat.le_of_ble_eq_true rfl⟩ ⟨Nat.zero_le _, Nat.zero_le _⟩ rfl rfl hl.1 (Nat.le_of_ble_eq_true rfl) d_M_proposal_182) (fun H locs (hW : Wd D clM A s.heap (zw X ad TM (cfM ad ca) r36.2) H locs) => ?_)
  have o37 := hk.1
  have hk := hk.2
  obtain ⟨r38, er38⟩ : ∃ z : Int32 × St, z = f_M_signs a1 r36.1 r36.2 := ⟨_, rfl⟩
  have hk := lt_p er38 hk
  have hr := lt_e er38 hr
  refine z_goI (pc := 185) hW hA (show (r38.1, r38.2) = _ from er38) (z_runV hF hK hW (c_M_signs l D X ad ca a1 r36.1 r36.2 o37 _) cd_M_signs gw_1086 tm1 rfl rfl ⟨Nat.le_of_ble_eq_true rfl, Nat.le_of_ble_eq_true rfl⟩ ⟨Nat.zero_le _, Nat.zero_le _⟩ rfl rfl hl.1 (Nat.le_of_ble_eq_true rfl) d_M_proposal_185) (fun H locs (hW : Wd D clM A s.heap (zw X ad TM (cfM ad ca) r38.2) H locs) => ?_)
  refine lv_if_eq (pc := 188) (tgt := 206) hx hb d_M_proposal_188 (by decide) (fun c39 => ?_) (fun c39 => ?_)
  · have hk := hk.1 c39
    have hr := (if_pos c39).symm.trans hr
    exact z_vret hy hW hr.symm d_M_proposal_206
  · have hk := hk.2 c39
    have hr := (if_neg c39).symm.trans hr
    refine lv_aload_n (pc := 191) hx hb d_M_proposal_191 rfl (lv_at hl 0 rfl) ?_
    refine lv_iload_n (pc := 192) hx hb d_M_proposal_192 rfl (lv_at hl 1 rfl) ?_
    refine lv_iload (pc := 193) hx hb d_M_proposal_193 (lv_at hl 3 rfl) ?_
    refine lv_iconst (pc := 195) (v := 1) hx hb d_M_proposal_195 (by decide) ?_
    refine lv_iadd (pc := 196) hx hb d_M_proposal_196 ?_
    obtain ⟨r40, er40⟩ : ∃ z : Int32, z = f_M_leader (l5 + (1 : Int32)) r38.2 := ⟨_, rfl⟩
    have hk := lt_p er40 hk
    have hr := lt_e er40 hr
    refine p_go (pc := 197) (congrArg Value.int er40) (p_runS hF hK hW (c_M_leader l D X ad ca (l5 + (1 : Int32)) r38.2 _) cd_M_leader gw_1059 ⟨Nat.le_of_ble_eq_true rfl, Nat.le_of_ble_eq_true rfl⟩ ⟨Nat.zero_le _, Nat.zero_le _⟩ rfl rfl hl.1 (Nat.le_of_ble_eq_true rfl) d_M_proposal_197) ?_
    refine lv_iconst (pc := 200) (v := 2) hx hb d_M_proposal_200 (by decide) ?_
    refine lv_iload_n (pc := 201) hx hb d_M_proposal_201 rfl (lv_at hl 2 rfl) ?_
    refine lv_iconst (pc := 202) (v := 0) hx hb d_M_proposal_202 (by decide) ?_
    have o41 := hk.1
    have hk := hk.2
    obtain ⟨S43, eS43⟩ : ∃ z : St, z = f_M_send a1 r40 (2 : Int32) a3 (0 : Int32) r38.2 := ⟨_, rfl⟩
    have hr := lt_e eS43 hr
    refine z_goV (pc := 203) hW hA eS43 (z_runV hF hK hW (c_M_send l D X ad ca a1 r40 (2 : Int32) a3 (0 : Int32) r38.2 o41 _) cd_M_send gw_1033 tm1 rfl rfl ⟨Nat.le_of_ble_eq_true rfl, Nat.le_of_ble_eq_true rfl⟩ ⟨Nat.zero_le _, Nat.zero_le _⟩ rfl rfl hl.1 (Nat.le_of_ble_eq_true rfl) d_M_proposal_203) (fun H locs (hW : Wd D clM A s.heap (zw X ad TM (cfM ad ca) S43) H locs) => ?_)
    exact z_vret hy hW hr.symm d_M_proposal_206
def f_M_proposal_101 (a1 : Int32) (a2 : Int32) (a3 : Int32) (S : St) (l4 : Int32) (l5 : Int32) (t0 : Int32) : St :=
  if l5 ≤ (S.1 16 0 0 a1.toNatClampNeg) then
    S
  else
    if l5 < (S.1 12 0 0 a1.toNatClampNeg) then
      S
    else
      if t0 = 0 then
        S
      else
        if (S.1 7 0 0 l4.toNatClampNeg) = (l5 - (1 : Int32)) then
          f_M_proposal_160 a1 a2 a3 S l5 (6 : Int32) a1
        else
          f_M_proposal_160 a1 a2 a3 S l5 (S.1 14 0 0 a1.toNatClampNeg) a1
def ok_M_proposal_101 (a1 : Int32) (a2 : Int32) (a3 : Int32) (S : St) (l4 : Int32) (l5 : Int32) (t0 : Int32) : Prop :=
  (vp_in a1 4) ∧ (
    (l5 ≤ (S.1 16 0 0 a1.toNatClampNeg) → (
      True)) ∧ (¬ (l5 ≤ (S.1 16 0 0 a1.toNatClampNeg)) → (
      (vp_in a1 4) ∧ (
        (l5 < (S.1 12 0 0 a1.toNatClampNeg) → (
          True)) ∧ (¬ (l5 < (S.1 12 0 0 a1.toNatClampNeg)) → (
          (t0 = 0 → (
            True)) ∧ (¬ (t0 = 0) → (
            (vp_in l4 100) ∧ (
              ((S.1 7 0 0 l4.toNatClampNeg) = (l5 - (1 : Int32)) → (
                ok_M_proposal_160 a1 a2 a3 S l5 (6 : Int32) a1)) ∧ (¬ ((S.1 7 0 0 l4.toNatClampNeg) = (l5 - (1 : Int32))) → (
                (vp_in a1 4) ∧ (
                  ok_M_proposal_160 a1 a2 a3 S l5 (S.1 14 0 0 a1.toNatClampNeg) a1))))))))))))
set_option maxHeartbeats 4000000 in
set_option maxRecDepth 100000 in
theorem w_M_proposal_101 {l : Launch} {D : va_G} {X : va_W} {ad : N3 → Nat} {ca : Nat → ClassId} (a1 : Int32) (a2 : Int32) (a3 : Int32)  {p : Program} {e : Env} {s : State} {m : MethodId} {below : List Frame} {meth : Method} {c : Code} {A : Nat → Prop} (hy : Hy p s m ([.ref (ad (1, 0, 0)), .int a1, .int a2, .int a3] : List Value).toArray meth c b_M_proposal 7 none R_M GG D clM (tysM ca) nwM) (hA : ∀ q, s.heap.size ≤ q → A q) {res : St} : ∀  (S : St) (l4 : Int32) (l5 : Int32) (t0 : Int32) , ok_M_proposal_101 a1 a2 a3 S l4 l5 t0 → f_M_proposal_101 a1 a2 a3 S l4 l5 t0 = res → ∀ (H : Heap) (locs : List Loc) (ls : Array Slot), Wd D clM A s.heap (zw X ad TM (cfM ad ca) S) H locs → lv_has ls 7 [(0, .ref (ad (1, 0, 0))), (1, .int a1), (3, .int a3), (4, .int l4), (5, .int l5)] → W p l e { frames := 4, cells := 0, slots := 0, locals := 98 } s m ([.ref (ad (1, 0, 0)), .int a1, .int a2, .int a3] : List Value).toArray below meth c H locs 0 0 (MQ below (eV D clM X ad TM (cfM ad ca) A res) ([.ref (ad (1, 0, 0)), .int a1, .int a2, .int a3] : List Value).toArray s 0 0 A) (F0 m 101 ls [.int t0]) := by
  have hF := hy.1
  have hx := hF.1
  have hb := hF.2.1
  have hK := hy.2.2.2
  intro S l4 l5 t0 hk hr H locs ls hW hl
  refine lv_istore (pc := 101) (lv' := [(6, .int t0), (0, .ref (ad (1, 0, 0))), (1, .int a1), (3, .int a3), (4, .int l4), (5, .int l5)]) hx hb d_M_proposal_101 hl (by decide) rfl (fun ls hl => ?_)
  refine lv_iload (pc := 103) hx hb d_M_proposal_103 (lv_at hl 5 rfl) ?_
  refine lv_aload_n (pc := 105) hx hb d_M_proposal_105 rfl (lv_at hl 1 rfl) ?_
  refine z_get (pc := 106) (v := .ref (ad (16, 0, 0))) hF hK.1 hW tm1 rfl rfl in_M 21 (by decide) gw_905 rfl rfl d_M_proposal_106 ?_
  refine lv_iload_n (pc := 109) hx hb d_M_proposal_109 rfl (lv_at hl 2 rfl) ?_
  have b21 := hk.1
  have hk := hk.2
  refine z_iald (pc := 110) (v := S.1 16 0 0 a1.toNatClampNeg) hF hK.1 hW tm16 0 rfl rfl b21 rfl d_M_proposal_110 ?_
  refine lv_icmp_le (pc := 111) (tgt := 206) hx hb d_M_proposal_111 (by decide) (fun c22 => ?_) (fun c22 => ?_)
  · have hk := hk.1 c22
    have hr := (if_pos c22).symm.trans hr
    exact z_vret hy hW hr.symm d_M_proposal_206
  · have hk := hk.2 c22
    have hr := (if_neg c22).symm.trans hr
    refine lv_iload (pc := 114) hx hb d_M_proposal_114 (lv_at hl 5 rfl) ?_
    refine lv_aload_n (pc := 116) hx hb d_M_proposal_116 rfl (lv_at hl 1 rfl) ?_
    refine z_get (pc := 117) (v := .ref (ad (12, 0, 0))) hF hK.1 hW tm1 rfl rfl in_M 17 (by decide) gw_901 rfl rfl d_M_proposal_117 ?_
    refine lv_iload_n (pc := 120) hx hb d_M_proposal_120 rfl (lv_at hl 2 rfl) ?_
    have b23 := hk.1
    have hk := hk.2
    refine z_iald (pc := 121) (v := S.1 12 0 0 a1.toNatClampNeg) hF hK.1 hW tm12 0 rfl rfl b23 rfl d_M_proposal_121 ?_
    refine lv_icmp_lt (pc := 122) (tgt := 206) hx hb d_M_proposal_122 (by decide) (fun c24 => ?_) (fun c24 => ?_)
    · have hk := hk.1 c24
      have hr := (if_pos c24).symm.trans hr
      exact z_vret hy hW hr.symm d_M_proposal_206
    · have hk := hk.2 c24
      have hr := (if_neg c24).symm.trans hr
      refine lv_iload (pc := 125) hx hb d_M_proposal_125 (lv_at hl 0 rfl) ?_
      refine lv_if_eq (pc := 127) (tgt := 206) hx hb d_M_proposal_127 (by decide) (fun c25 => ?_) (fun c25 => ?_)
      · have hk := hk.1 c25
        have hr := (if_pos c25).symm.trans hr
        exact z_vret hy hW hr.symm d_M_proposal_206
      · have hk := hk.2 c25
        have hr := (if_neg c25).symm.trans hr
        refine lv_aload_n (pc := 130) hx hb d_M_proposal_130 rfl (lv_at hl 1 rfl) ?_
        refine z_get (pc := 131) (v := .ref (ad (14, 0, 0))) hF hK.1 hW tm1 rfl rfl in_M 19 (by decide) gw_903 rfl rfl d_M_proposal_131 ?_
        refine lv_iload_n (pc := 134) hx hb d_M_proposal_134 rfl (lv_at hl 2 rfl) ?_
        refine lv_aload_n (pc := 135) hx hb d_M_proposal_135 rfl (lv_at hl 1 rfl) ?_
        refine z_get (pc := 136) (v := .ref (ad (7, 0, 0))) hF hK.1 hW tm1 rfl rfl in_M 12 (by decide) gw_896 rfl rfl d_M_proposal_136 ?_
        refine lv_iload (pc := 139) hx hb d_M_proposal_139 (lv_at hl 4 rfl) ?_
        have b26 := hk.1
        have hk := hk.2
        refine z_iald (pc := 141) (v := S.1 7 0 0 l4.toNatClampNeg) hF hK.1 hW tm7 0 rfl rfl b26 rfl d_M_proposal_141 ?_
        refine lv_iload (pc := 142) hx hb d_M_proposal_142 (lv_at hl 5 rfl) ?_
        refine lv_iconst (pc := 144) (v := 1) hx hb d_M_proposal_144 (by decide) ?_
        refine lv_isub (pc := 145) hx hb d_M_proposal_145 ?_
        refine lv_icmp_ne (pc := 146) (tgt := 154) hx hb d_M_proposal_146 (by decide) (fun c27 => ?_) (fun c27 => ?_)
        · have hk := hk.2 c27
          have hr := (if_neg c27).symm.trans hr
          refine lv_aload_n (pc := 154) hx hb d_M_proposal_154 rfl (lv_at hl 1 rfl) ?_
          refine z_get (pc := 155) (v := .ref (ad (14, 0, 0))) hF hK.1 hW tm1 rfl rfl in_M 19 (by decide) gw_903 rfl rfl d_M_proposal_155 ?_
          refine lv_iload_n (pc := 158) hx hb d_M_proposal_158 rfl (lv_at hl 2 rfl) ?_
          have b28 := hk.1
          have hk := hk.2
          refine z_iald (pc := 159) (v := S.1 14 0 0 a1.toNatClampNeg) hF hK.1 hW tm14 0 rfl rfl b28 rfl d_M_proposal_159 ?_
          exact w_M_proposal_160 a1 a2 a3 hy hA S l5 (S.1 14 0 0 a1.toNatClampNeg) a1 hk hr _ _ _ hW (lv_sub hl [1, 2, 3, 5] rfl)
        · have hk := hk.1 c27
          have hr := (if_pos c27).symm.trans hr
          refine lv_bipush (pc := 149) (v := 6) hx hb d_M_proposal_149 (by decide) ?_
          refine lv_goto (pc := 151) (tgt := 160) hx hb d_M_proposal_151 (by decide) ?_
          exact w_M_proposal_160 a1 a2 a3 hy hA S l5 (6 : Int32) a1 hk hr _ _ _ hW (lv_sub hl [1, 2, 3, 5] rfl)
def f_M_proposal_96 (a1 : Int32) (a2 : Int32) (a3 : Int32) (S : St) (l4 : Int32) (l5 : Int32) : St :=
  f_M_proposal_101 a1 a2 a3 S l4 l5 (1 : Int32)
def ok_M_proposal_96 (a1 : Int32) (a2 : Int32) (a3 : Int32) (S : St) (l4 : Int32) (l5 : Int32) : Prop :=
  ok_M_proposal_101 a1 a2 a3 S l4 l5 (1 : Int32)
set_option maxHeartbeats 4000000 in
set_option maxRecDepth 100000 in
theorem w_M_proposal_96 {l : Launch} {D : va_G} {X : va_W} {ad : N3 → Nat} {ca : Nat → ClassId} (a1 : Int32) (a2 : Int32) (a3 : Int32)  {p : Program} {e : Env} {s : State} {m : MethodId} {below : List Frame} {meth : Method} {c : Code} {A : Nat → Prop} (hy : Hy p s m ([.ref (ad (1, 0, 0)), .int a1, .int a2, .int a3] : List Value).toArray meth c b_M_proposal 7 none R_M GG D clM (tysM ca) nwM) (hA : ∀ q, s.heap.size ≤ q → A q) {res : St} : ∀  (S : St) (l4 : Int32) (l5 : Int32) , ok_M_proposal_96 a1 a2 a3 S l4 l5 → f_M_proposal_96 a1 a2 a3 S l4 l5 = res → ∀ (H : Heap) (locs : List Loc) (ls : Array Slot), Wd D clM A s.heap (zw X ad TM (cfM ad ca) S) H locs → lv_has ls 7 [(0, .ref (ad (1, 0, 0))), (1, .int a1), (3, .int a3), (4, .int l4), (5, .int l5)] → W p l e { frames := 4, cells := 0, slots := 0, locals := 98 } s m ([.ref (ad (1, 0, 0)), .int a1, .int a2, .int a3] : List Value).toArray below meth c H locs 0 0 (MQ below (eV D clM X ad TM (cfM ad ca) A res) ([.ref (ad (1, 0, 0)), .int a1, .int a2, .int a3] : List Value).toArray s 0 0 A) (F0 m 96 ls []) := by
  have hF := hy.1
  have hx := hF.1
  have hb := hF.2.1
  have hK := hy.2.2.2
  intro S l4 l5 hk hr H locs ls hW hl
  refine lv_iconst (pc := 96) (v := 1) hx hb d_M_proposal_96 (by decide) ?_
  refine lv_goto (pc := 97) (tgt := 101) hx hb d_M_proposal_97 (by decide) ?_
  exact w_M_proposal_101 a1 a2 a3 hy hA S l4 l5 (1 : Int32) hk hr _ _ _ hW (lv_sub hl [0, 1, 2, 3, 4] rfl)
def f_M_proposal (a1 : Int32) (a2 : Int32) (a3 : Int32) (S : St) : St :=
  if (S.1 19 0 0 (((100 : Int32) * a1) + (S.1 8 0 0 a3.toNatClampNeg)).toNatClampNeg) = 0 then
    lt (f_M_send a1 a2 (4 : Int32) (S.1 8 0 0 a3.toNatClampNeg) (0 : Int32) S) fun (S20 : St) =>
    S20
  else
    lt (si S 19 0 0 ((((100 : Int32) * a1) + a3).toNatClampNeg) (1 : Int32)) fun (S5 : St) =>
    lt (f_M_takes a1 (S.1 8 0 0 a3.toNatClampNeg) S5) fun (S8 : St) =>
    lt (f_M_below (S8.1 17 0 0 a1.toNatClampNeg) a3 S8) fun (r12 : Int32) =>
    if r12 = 0 then
      if (S8.1 7 0 0 (S.1 8 0 0 a3.toNatClampNeg).toNatClampNeg) ≤ (S8.1 7 0 0 (S8.1 17 0 0 a1.toNatClampNeg).toNatClampNeg) then
        f_M_proposal_101 a1 a2 a3 S8 (S.1 8 0 0 a3.toNatClampNeg) (S8.1 7 0 0 a3.toNatClampNeg) (0 : Int32)
      else
        f_M_proposal_96 a1 a2 a3 S8 (S.1 8 0 0 a3.toNatClampNeg) (S8.1 7 0 0 a3.toNatClampNeg)
    else
      f_M_proposal_96 a1 a2 a3 S8 (S.1 8 0 0 a3.toNatClampNeg) (S8.1 7 0 0 a3.toNatClampNeg)
def ok_M_proposal (a1 : Int32) (a2 : Int32) (a3 : Int32) (S : St) : Prop :=
  (vp_in a3 100) ∧ (
    (vp_in (((100 : Int32) * a1) + (S.1 8 0 0 a3.toNatClampNeg)) 400) ∧ (
      ((S.1 19 0 0 (((100 : Int32) * a1) + (S.1 8 0 0 a3.toNatClampNeg)).toNatClampNeg) = 0 → (
        (ok_M_send a1 a2 (4 : Int32) (S.1 8 0 0 a3.toNatClampNeg) (0 : Int32) S) ∧ (
          True))) ∧ (¬ ((S.1 19 0 0 (((100 : Int32) * a1) + (S.1 8 0 0 a3.toNatClampNeg)).toNatClampNeg) = 0) → (
        (vp_in (((100 : Int32) * a1) + a3) 400) ∧ (
          lt (si S 19 0 0 ((((100 : Int32) * a1) + a3).toNatClampNeg) (1 : Int32)) fun (S5 : St) =>
          (ok_M_takes a1 (S.1 8 0 0 a3.toNatClampNeg) S5) ∧ (
            lt (f_M_takes a1 (S.1 8 0 0 a3.toNatClampNeg) S5) fun (S8 : St) =>
            (vp_in a3 100) ∧ (
              (vp_in a1 4) ∧ (
                (ok_M_below (S8.1 17 0 0 a1.toNatClampNeg) a3 S8) ∧ (
                  lt (f_M_below (S8.1 17 0 0 a1.toNatClampNeg) a3 S8) fun (r12 : Int32) =>
                  (r12 = 0 → (
                    (vp_in (S.1 8 0 0 a3.toNatClampNeg) 100) ∧ (
                      (vp_in a1 4) ∧ (
                        (vp_in (S8.1 17 0 0 a1.toNatClampNeg) 100) ∧ (
                          ((S8.1 7 0 0 (S.1 8 0 0 a3.toNatClampNeg).toNatClampNeg) ≤ (S8.1 7 0 0 (S8.1 17 0 0 a1.toNatClampNeg).toNatClampNeg) → (
                            ok_M_proposal_101 a1 a2 a3 S8 (S.1 8 0 0 a3.toNatClampNeg) (S8.1 7 0 0 a3.toNatClampNeg) (0 : Int32))) ∧ (¬ ((S8.1 7 0 0 (S.1 8 0 0 a3.toNatClampNeg).toNatClampNeg) ≤ (S8.1 7 0 0 (S8.1 17 0 0 a1.toNatClampNeg).toNatClampNeg)) → (
                            ok_M_proposal_96 a1 a2 a3 S8 (S.1 8 0 0 a3.toNatClampNeg) (S8.1 7 0 0 a3.toNatClampNeg)))))))) ∧ (¬ (r12 = 0) → (
                    ok_M_proposal_96 a1 a2 a3 S8 (S.1 8 0 0 a3.toNatClampNeg) (S8.1 7 0 0 a3.toNatClampNeg))))))))))))
set_option maxHeartbeats 4000000 in
set_option maxRecDepth 100000 in
theorem c_M_proposal (l : Launch) (D : va_G) (X : va_W) (ad : N3 → Nat) (ca : Nat → ClassId) (a1 : Int32) (a2 : Int32) (a3 : Int32)  (S : St) (hk : ok_M_proposal a1 a2 a3 S) : cV l GG D clM (tysM ca) nwM X ad TM (cfM ad ca) y_M_proposal b_M_proposal 7 4 98 [.ref (ad (1, 0, 0)), .int a1, .int a2, .int a3] S (f_M_proposal a1 a2 a3 S) := by
  generalize hr : f_M_proposal a1 a2 a3 S = res
  refine zV_of pn_M (Nat.le_of_ble_eq_true rfl) (fun p e s m below meth c A ls hy hW hA hl => ?_)
  have hF := hy.1
  have hx := hF.1
  have hb := hF.2.1
  have hK := hy.2.2.2
  have hl : lv_has ls 7 [(0, .ref (ad (1, 0, 0))), (1, .int a1), (2, .int a2), (3, .int a3)] := hl
  refine lv_aload_n (pc := 0) hx hb d_M_proposal_0 rfl (lv_at hl 0 rfl) ?_
  refine z_get (pc := 1) (v := .ref (ad (8, 0, 0))) hF hK.1 hW tm1 rfl rfl in_M 13 (by decide) gw_897 rfl rfl d_M_proposal_1 ?_
  refine lv_iload_n (pc := 4) hx hb d_M_proposal_4 rfl (lv_at hl 3 rfl) ?_
  have b1 := hk.1
  have hk := hk.2
  refine z_iald (pc := 5) (v := S.1 8 0 0 a3.toNatClampNeg) hF hK.1 hW tm8 0 rfl rfl b1 rfl d_M_proposal_5 ?_
  refine lv_istore (pc := 6) (lv' := [(4, .int (S.1 8 0 0 a3.toNatClampNeg)), (0, .ref (ad (1, 0, 0))), (1, .int a1), (2, .int a2), (3, .int a3)]) hx hb d_M_proposal_6 hl (by decide) rfl (fun ls hl => ?_)
  refine lv_aload_n (pc := 8) hx hb d_M_proposal_8 rfl (lv_at hl 1 rfl) ?_
  refine z_get (pc := 9) (v := .ref (ad (19, 0, 0))) hF hK.1 hW tm1 rfl rfl in_M 24 (by decide) gw_908 rfl rfl d_M_proposal_9 ?_
  refine lv_bipush (pc := 12) (v := 100) hx hb d_M_proposal_12 (by decide) ?_
  refine lv_iload_n (pc := 14) hx hb d_M_proposal_14 rfl (lv_at hl 2 rfl) ?_
  refine lv_imul (pc := 15) hx hb d_M_proposal_15 ?_
  refine lv_iload (pc := 16) hx hb d_M_proposal_16 (lv_at hl 0 rfl) ?_
  refine lv_iadd (pc := 18) hx hb d_M_proposal_18 ?_
  have b2 := hk.1
  have hk := hk.2
  refine z_zald (pc := 19) (v := S.1 19 0 0 (((100 : Int32) * a1) + (S.1 8 0 0 a3.toNatClampNeg)).toNatClampNeg) hF hK.1 hW tm19 2 rfl rfl b2 rfl d_M_proposal_19 ?_
  refine lv_if_ne (pc := 20) (tgt := 34) hx hb d_M_proposal_20 (by decide) (fun c3 => ?_) (fun c3 => ?_)
  · have hk := hk.2 c3
    have hr := (if_neg c3).symm.trans hr
    refine lv_aload_n (pc := 34) hx hb d_M_proposal_34 rfl (lv_at hl 1 rfl) ?_
    refine z_get (pc := 35) (v := .ref (ad (19, 0, 0))) hF hK.1 hW tm1 rfl rfl in_M 24 (by decide) gw_908 rfl rfl d_M_proposal_35 ?_
    refine lv_bipush (pc := 38) (v := 100) hx hb d_M_proposal_38 (by decide) ?_
    refine lv_iload_n (pc := 40) hx hb d_M_proposal_40 rfl (lv_at hl 2 rfl) ?_
    refine lv_imul (pc := 41) hx hb d_M_proposal_41 ?_
    refine lv_iload_n (pc := 42) hx hb d_M_proposal_42 rfl (lv_at hl 4 rfl) ?_
    refine lv_iadd (pc := 43) hx hb d_M_proposal_43 ?_
    refine lv_iconst (pc := 44) (v := 1) hx hb d_M_proposal_44 (by decide) ?_
    have b4 := hk.1
    have hk := hk.2
    obtain ⟨S5, eS5⟩ : ∃ z : St, z = si S 19 0 0 ((((100 : Int32) * a1) + a3).toNatClampNeg) (1 : Int32) := ⟨_, rfl⟩
    have hk := lt_p eS5 hk
    have hr := lt_e eS5 hr
    refine z_zast (pc := 45) (S' := S5) hF hK.1 hW tm19 2 rfl rfl b4 (zs_si eS5 rfl) (zs_sio eS5) d_M_proposal_45 (fun H locs (hW : Wd D clM A s.heap (zw X ad TM (cfM ad ca) S5) H locs) => ?_)
    refine lv_aload_n (pc := 46) hx hb d_M_proposal_46 rfl (lv_at hl 1 rfl) ?_
    refine lv_iload_n (pc := 47) hx hb d_M_proposal_47 rfl (lv_at hl 2 rfl) ?_
    refine lv_iload (pc := 48) hx hb d_M_proposal_48 (lv_at hl 0 rfl) ?_
    have o6 := hk.1
    have hk := hk.2
    obtain ⟨S8, eS8⟩ : ∃ z : St, z = f_M_takes a1 (S.1 8 0 0 a3.toNatClampNeg) S5 := ⟨_, rfl⟩
    have hk := lt_p eS8 hk
    have hr := lt_e eS8 hr
    refine z_goV (pc := 50) hW hA eS8 (z_runV hF hK hW (c_M_takes l D X ad ca a1 (S.1 8 0 0 a3.toNatClampNeg) S5 o6 _) cd_M_takes gw_1066 tm1 rfl rfl ⟨Nat.le_of_ble_eq_true rfl, Nat.le_of_ble_eq_true rfl⟩ ⟨Nat.zero_le _, Nat.zero_le _⟩ rfl rfl hl.1 (Nat.le_of_ble_eq_true rfl) d_M_proposal_50) (fun H locs (hW : Wd D clM A s.heap (zw X ad TM (cfM ad ca) S8) H locs) => ?_)
    refine lv_aload_n (pc := 53) hx hb d_M_proposal_53 rfl (lv_at hl 1 rfl) ?_
    refine z_get (pc := 54) (v := .ref (ad (7, 0, 0))) hF hK.1 hW tm1 rfl rfl in_M 12 (by decide) gw_896 rfl rfl d_M_proposal_54 ?_
    refine lv_iload_n (pc := 57) hx hb d_M_proposal_57 rfl (lv_at hl 4 rfl) ?_
    have b9 := hk.1
    have hk := hk.2
    refine z_iald (pc := 58) (v := S8.1 7 0 0 a3.toNatClampNeg) hF hK.1 hW tm7 0 rfl rfl b9 rfl d_M_proposal_58 ?_
    refine lv_istore (pc := 59) (lv' := [(5, .int (S8.1 7 0 0 a3.toNatClampNeg)), (4, .int (S.1 8 0 0 a3.toNatClampNeg)), (0, .ref (ad (1, 0, 0))), (1, .int a1), (2, .int a2), (3, .int a3)]) hx hb d_M_proposal_59 hl (by decide) rfl (fun ls hl => ?_)
    refine lv_aload_n (pc := 61) hx hb d_M_proposal_61 rfl (lv_at hl 2 rfl) ?_
    refine lv_aload_n (pc := 62) hx hb d_M_proposal_62 rfl (lv_at hl 2 rfl) ?_
    refine z_get (pc := 63) (v := .ref (ad (17, 0, 0))) hF hK.1 hW tm1 rfl rfl in_M 22 (by decide) gw_906 rfl rfl d_M_proposal_63 ?_
    refine lv_iload_n (pc := 66) hx hb d_M_proposal_66 rfl (lv_at hl 3 rfl) ?_
    have b10 := hk.1
    have hk := hk.2
    refine z_iald (pc := 67) (v := S8.1 17 0 0 a1.toNatClampNeg) hF hK.1 hW tm17 0 rfl rfl b10 rfl d_M_proposal_67 ?_
    refine lv_iload_n (pc := 68) hx hb d_M_proposal_68 rfl (lv_at hl 5 rfl) ?_
    have o11 := hk.1
    have hk := hk.2
    obtain ⟨r12, er12⟩ : ∃ z : Int32, z = f_M_below (S8.1 17 0 0 a1.toNatClampNeg) a3 S8 := ⟨_, rfl⟩
    have hk := lt_p er12 hk
    have hr := lt_e er12 hr
    refine p_go (pc := 69) (congrArg Value.int er12) (p_runV hF hK hW (c_M_below l D X ad ca (S8.1 17 0 0 a1.toNatClampNeg) a3 S8 o11 _) cd_M_below gw_1074 tm1 rfl rfl ⟨Nat.le_of_ble_eq_true rfl, Nat.le_of_ble_eq_true rfl⟩ ⟨Nat.zero_le _, Nat.zero_le _⟩ rfl rfl hl.1 (Nat.le_of_ble_eq_true rfl) d_M_proposal_69) ?_
    refine lv_if_ne (pc := 72) (tgt := 96) hx hb d_M_proposal_72 (by decide) (fun c13 => ?_) (fun c13 => ?_)
    · have hk := hk.2 c13
      have hr := (if_neg c13).symm.trans hr
      exact w_M_proposal_96 a1 a2 a3 hy hA S8 (S.1 8 0 0 a3.toNatClampNeg) (S8.1 7 0 0 a3.toNatClampNeg) hk hr _ _ _ hW (lv_sub hl [2, 3, 5, 1, 0] rfl)
    · have hk := hk.1 c13
      have hr := (if_pos c13).symm.trans hr
      refine lv_aload_n (pc := 75) hx hb d_M_proposal_75 rfl (lv_at hl 2 rfl) ?_
      refine z_get (pc := 76) (v := .ref (ad (7, 0, 0))) hF hK.1 hW tm1 rfl rfl in_M 12 (by decide) gw_896 rfl rfl d_M_proposal_76 ?_
      refine lv_iload (pc := 79) hx hb d_M_proposal_79 (lv_at hl 1 rfl) ?_
      have b14 := hk.1
      have hk := hk.2
      refine z_iald (pc := 81) (v := S8.1 7 0 0 (S.1 8 0 0 a3.toNatClampNeg).toNatClampNeg) hF hK.1 hW tm7 0 rfl rfl b14 rfl d_M_proposal_81 ?_
      refine lv_aload_n (pc := 82) hx hb d_M_proposal_82 rfl (lv_at hl 2 rfl) ?_
      refine z_get (pc := 83) (v := .ref (ad (7, 0, 0))) hF hK.1 hW tm1 rfl rfl in_M 12 (by decide) gw_896 rfl rfl d_M_proposal_83 ?_
      refine lv_aload_n (pc := 86) hx hb d_M_proposal_86 rfl (lv_at hl 2 rfl) ?_
      refine z_get (pc := 87) (v := .ref (ad (17, 0, 0))) hF hK.1 hW tm1 rfl rfl in_M 22 (by decide) gw_906 rfl rfl d_M_proposal_87 ?_
      refine lv_iload_n (pc := 90) hx hb d_M_proposal_90 rfl (lv_at hl 3 rfl) ?_
      have b15 := hk.1
      have hk := hk.2
      refine z_iald (pc := 91) (v := S8.1 17 0 0 a1.toNatClampNeg) hF hK.1 hW tm17 0 rfl rfl b15 rfl d_M_proposal_91 ?_
      have b16 := hk.1
      have hk := hk.2
      refine z_iald (pc := 92) (v := S8.1 7 0 0 (S8.1 17 0 0 a1.toNatClampNeg).toNatClampNeg) hF hK.1 hW tm7 0 rfl rfl b16 rfl d_M_proposal_92 ?_
      refine lv_icmp_le (pc := 93) (tgt := 100) hx hb d_M_proposal_93 (by decide) (fun c17 => ?_) (fun c17 => ?_)
      · have hk := hk.1 c17
        have hr := (if_pos c17).symm.trans hr
        refine lv_iconst (pc := 100) (v := 0) hx hb d_M_proposal_100 (by decide) ?_
        exact w_M_proposal_101 a1 a2 a3 hy hA S8 (S.1 8 0 0 a3.toNatClampNeg) (S8.1 7 0 0 a3.toNatClampNeg) (0 : Int32) hk hr _ _ _ hW (lv_sub hl [2, 3, 5, 1, 0] rfl)
      · have hk := hk.2 c17
        have hr := (if_neg c17).symm.trans hr
        exact w_M_proposal_96 a1 a2 a3 hy hA S8 (S.1 8 0 0 a3.toNatClampNeg) (S8.1 7 0 0 a3.toNatClampNeg) hk hr _ _ _ hW (lv_sub hl [2, 3, 5, 1, 0] rfl)
  · have hk := hk.1 c3
    have hr := (if_pos c3).symm.trans hr
    refine lv_aload_n (pc := 23) hx hb d_M_proposal_23 rfl (lv_at hl 1 rfl) ?_
    refine lv_iload_n (pc := 24) hx hb d_M_proposal_24 rfl (lv_at hl 2 rfl) ?_
    refine lv_iload_n (pc := 25) hx hb d_M_proposal_25 rfl (lv_at hl 3 rfl) ?_
    refine lv_iconst (pc := 26) (v := 4) hx hb d_M_proposal_26 (by decide) ?_
    refine lv_iload (pc := 27) hx hb d_M_proposal_27 (lv_at hl 0 rfl) ?_
    refine lv_iconst (pc := 29) (v := 0) hx hb d_M_proposal_29 (by decide) ?_
    have o18 := hk.1
    have hk := hk.2
    obtain ⟨S20, eS20⟩ : ∃ z : St, z = f_M_send a1 a2 (4 : Int32) (S.1 8 0 0 a3.toNatClampNeg) (0 : Int32) S := ⟨_, rfl⟩
    have hr := lt_e eS20 hr
    refine z_goV (pc := 30) hW hA eS20 (z_runV hF hK hW (c_M_send l D X ad ca a1 a2 (4 : Int32) (S.1 8 0 0 a3.toNatClampNeg) (0 : Int32) S o18 _) cd_M_send gw_1033 tm1 rfl rfl ⟨Nat.le_of_ble_eq_true rfl, Nat.le_of_ble_eq_true rfl⟩ ⟨Nat.zero_le _, Nat.zero_le _⟩ rfl rfl hl.1 (Nat.le_of_ble_eq_true rfl) d_M_proposal_30) (fun H locs (hW : Wd D clM A s.heap (zw X ad TM (cfM ad ca) S20) H locs) => ?_)
    exact z_vret hy hW hr.symm d_M_proposal_33
theorem d_M_bits_0 : decode b_M_bits 0 = .ok (.iload_n 0, 1) := by decide +kernel
theorem d_M_bits_1 : decode b_M_bits 1 = .ok (.iconst 1, 1) := by decide +kernel
theorem d_M_bits_2 : decode b_M_bits 2 = .ok (.iand, 1) := by decide +kernel
theorem d_M_bits_3 : decode b_M_bits 3 = .ok (.iload_n 0, 1) := by decide +kernel
theorem d_M_bits_4 : decode b_M_bits 4 = .ok (.iconst 1, 1) := by decide +kernel
theorem d_M_bits_5 : decode b_M_bits 5 = .ok (.ishr, 1) := by decide +kernel
theorem d_M_bits_6 : decode b_M_bits 6 = .ok (.iconst 1, 1) := by decide +kernel
theorem d_M_bits_7 : decode b_M_bits 7 = .ok (.iand, 1) := by decide +kernel
theorem d_M_bits_8 : decode b_M_bits 8 = .ok (.iadd, 1) := by decide +kernel
theorem d_M_bits_9 : decode b_M_bits 9 = .ok (.iload_n 0, 1) := by decide +kernel
theorem d_M_bits_10 : decode b_M_bits 10 = .ok (.iconst 2, 1) := by decide +kernel
theorem d_M_bits_11 : decode b_M_bits 11 = .ok (.ishr, 1) := by decide +kernel
theorem d_M_bits_12 : decode b_M_bits 12 = .ok (.iconst 1, 1) := by decide +kernel
theorem d_M_bits_13 : decode b_M_bits 13 = .ok (.iand, 1) := by decide +kernel
theorem d_M_bits_14 : decode b_M_bits 14 = .ok (.iadd, 1) := by decide +kernel
theorem d_M_bits_15 : decode b_M_bits 15 = .ok (.iload_n 0, 1) := by decide +kernel
theorem d_M_bits_16 : decode b_M_bits 16 = .ok (.iconst 3, 1) := by decide +kernel
theorem d_M_bits_17 : decode b_M_bits 17 = .ok (.ishr, 1) := by decide +kernel
theorem d_M_bits_18 : decode b_M_bits 18 = .ok (.iconst 1, 1) := by decide +kernel
theorem d_M_bits_19 : decode b_M_bits 19 = .ok (.iand, 1) := by decide +kernel
theorem d_M_bits_20 : decode b_M_bits 20 = .ok (.iadd, 1) := by decide +kernel
theorem d_M_bits_21 : decode b_M_bits 21 = .ok (.ireturn, 1) := by decide +kernel
def f_M_bits (a0 : Int32) (S : St) : Int32 :=
  (((a0 &&& (1 : Int32)) + ((a0 >>> ((1 : Int32) &&& 31)) &&& (1 : Int32))) + ((a0 >>> ((2 : Int32) &&& 31)) &&& (1 : Int32))) + ((a0 >>> ((3 : Int32) &&& 31)) &&& (1 : Int32))
set_option maxHeartbeats 4000000 in
set_option maxRecDepth 100000 in
theorem c_M_bits (l : Launch) (D : va_G) (X : va_W) (ad : N3 → Nat) (ca : Nat → ClassId) (a0 : Int32)  (S : St) : cP l GG D clM (tysM ca) nwM (zw X ad TM (cfM ad ca) S) y_M_bits b_M_bits 1 .int 0 0 [.int a0] (.int (f_M_bits a0 S)) := by
  generalize hr : f_M_bits a0 S = res
  refine zP_of pn_M (Nat.le_of_ble_eq_true rfl) (fun p e s m below meth c ls hy hW hl => ?_)
  have hF := hy.1
  have hx := hF.1
  have hb := hF.2.1
  have hK := hy.2.2.2
  have hl : lv_has ls 1 [(0, .int a0)] := hl
  refine lv_iload_n (pc := 0) hx hb d_M_bits_0 rfl (lv_at hl 0 rfl) ?_
  refine lv_iconst (pc := 1) (v := 1) hx hb d_M_bits_1 (by decide) ?_
  refine lv_iand (pc := 2) hx hb d_M_bits_2 ?_
  refine lv_iload_n (pc := 3) hx hb d_M_bits_3 rfl (lv_at hl 0 rfl) ?_
  refine lv_iconst (pc := 4) (v := 1) hx hb d_M_bits_4 (by decide) ?_
  refine lv_ishr (pc := 5) hx hb d_M_bits_5 ?_
  refine lv_iconst (pc := 6) (v := 1) hx hb d_M_bits_6 (by decide) ?_
  refine lv_iand (pc := 7) hx hb d_M_bits_7 ?_
  refine lv_iadd (pc := 8) hx hb d_M_bits_8 ?_
  refine lv_iload_n (pc := 9) hx hb d_M_bits_9 rfl (lv_at hl 0 rfl) ?_
  refine lv_iconst (pc := 10) (v := 2) hx hb d_M_bits_10 (by decide) ?_
  refine lv_ishr (pc := 11) hx hb d_M_bits_11 ?_
  refine lv_iconst (pc := 12) (v := 1) hx hb d_M_bits_12 (by decide) ?_
  refine lv_iand (pc := 13) hx hb d_M_bits_13 ?_
  refine lv_iadd (pc := 14) hx hb d_M_bits_14 ?_
  refine lv_iload_n (pc := 15) hx hb d_M_bits_15 rfl (lv_at hl 0 rfl) ?_
  refine lv_iconst (pc := 16) (v := 3) hx hb d_M_bits_16 (by decide) ?_
  refine lv_ishr (pc := 17) hx hb d_M_bits_17 ?_
  refine lv_iconst (pc := 18) (v := 1) hx hb d_M_bits_18 (by decide) ?_
  refine lv_iand (pc := 19) hx hb d_M_bits_19 ?_
  refine lv_iadd (pc := 20) hx hb d_M_bits_20 ?_
  exact p_iret (v := (((a0 &&& (1 : Int32)) + ((a0 >>> ((1 : Int32) &&& 31)) &&& (1 : Int32))) + ((a0 >>> ((2 : Int32) &&& 31)) &&& (1 : Int32))) + ((a0 >>> ((3 : Int32) &&& 31)) &&& (1 : Int32))) hy hr d_M_bits_21
