theorem d_M_restart_0 : decode b_M_restart 0 = .ok (.aload_n 0, 1) := by decide +kernel
theorem d_M_restart_1 : decode b_M_restart 1 = .ok (.iload_n 1, 1) := by decide +kernel
theorem d_M_restart_2 : decode b_M_restart 2 = .ok (.invokestatic 231, 3) := by decide +kernel
theorem d_M_restart_5 : decode b_M_restart 5 = .ok (.ifCond .ne 7, 3) := by decide +kernel
theorem d_M_restart_8 : decode b_M_restart 8 = .ok (.iconst 1, 1) := by decide +kernel
theorem d_M_restart_9 : decode b_M_restart 9 = .ok (.goto 17, 3) := by decide +kernel
theorem d_M_restart_12 : decode b_M_restart 12 = .ok (.aload_n 0, 1) := by decide +kernel
theorem d_M_restart_13 : decode b_M_restart 13 = .ok (.getfield 43, 3) := by decide +kernel
theorem d_M_restart_16 : decode b_M_restart 16 = .ok (.iload_n 1, 1) := by decide +kernel
theorem d_M_restart_17 : decode b_M_restart 17 = .ok (.baload, 1) := by decide +kernel
theorem d_M_restart_18 : decode b_M_restart 18 = .ok (.ifCond .eq 7, 3) := by decide +kernel
theorem d_M_restart_21 : decode b_M_restart 21 = .ok (.iconst 2, 1) := by decide +kernel
theorem d_M_restart_22 : decode b_M_restart 22 = .ok (.goto 4, 3) := by decide +kernel
theorem d_M_restart_25 : decode b_M_restart 25 = .ok (.iconst 0, 1) := by decide +kernel
theorem d_M_restart_26 : decode b_M_restart 26 = .ok (.putfield 141, 3) := by decide +kernel
theorem d_M_restart_29 : decode b_M_restart 29 = .ok (.aload_n 0, 1) := by decide +kernel
theorem d_M_restart_30 : decode b_M_restart 30 = .ok (.getfield 141, 3) := by decide +kernel
theorem d_M_restart_33 : decode b_M_restart 33 = .ok (.ifCond .le 5, 3) := by decide +kernel
theorem d_M_restart_36 : decode b_M_restart 36 = .ok (.iconst 0, 1) := by decide +kernel
theorem d_M_restart_37 : decode b_M_restart 37 = .ok (.ireturn, 1) := by decide +kernel
theorem d_M_restart_38 : decode b_M_restart 38 = .ok (.aload_n 0, 1) := by decide +kernel
theorem d_M_restart_39 : decode b_M_restart 39 = .ok (.getfield 43, 3) := by decide +kernel
theorem d_M_restart_42 : decode b_M_restart 42 = .ok (.iload_n 1, 1) := by decide +kernel
theorem d_M_restart_43 : decode b_M_restart 43 = .ok (.iconst 1, 1) := by decide +kernel
theorem d_M_restart_44 : decode b_M_restart 44 = .ok (.bastore, 1) := by decide +kernel
theorem d_M_restart_45 : decode b_M_restart 45 = .ok (.aload_n 0, 1) := by decide +kernel
theorem d_M_restart_46 : decode b_M_restart 46 = .ok (.getfield 55, 3) := by decide +kernel
theorem d_M_restart_49 : decode b_M_restart 49 = .ok (.iload_n 1, 1) := by decide +kernel
theorem d_M_restart_50 : decode b_M_restart 50 = .ok (.iconst 0, 1) := by decide +kernel
theorem d_M_restart_51 : decode b_M_restart 51 = .ok (.iastore, 1) := by decide +kernel
theorem d_M_restart_52 : decode b_M_restart 52 = .ok (.iconst 0, 1) := by decide +kernel
theorem d_M_restart_53 : decode b_M_restart 53 = .ok (.istore_n 2, 1) := by decide +kernel
theorem d_M_restart_54 : decode b_M_restart 54 = .ok (.iload_n 2, 1) := by decide +kernel
theorem d_M_restart_55 : decode b_M_restart 55 = .ok (.aload_n 0, 1) := by decide +kernel
theorem d_M_restart_56 : decode b_M_restart 56 = .ok (.getfield 26, 3) := by decide +kernel
theorem d_M_restart_59 : decode b_M_restart 59 = .ok (.if_icmp .ge 105, 3) := by decide +kernel
theorem d_M_restart_62 : decode b_M_restart 62 = .ok (.iconst 0, 1) := by decide +kernel
theorem d_M_restart_63 : decode b_M_restart 63 = .ok (.istore_n 3, 1) := by decide +kernel
theorem d_M_restart_64 : decode b_M_restart 64 = .ok (.iconst 1, 1) := by decide +kernel
theorem d_M_restart_65 : decode b_M_restart 65 = .ok (.istore 4, 2) := by decide +kernel
theorem d_M_restart_67 : decode b_M_restart 67 = .ok (.iload 4, 2) := by decide +kernel
theorem d_M_restart_69 : decode b_M_restart 69 = .ok (.aload_n 0, 1) := by decide +kernel
theorem d_M_restart_70 : decode b_M_restart 70 = .ok (.getfield 26, 3) := by decide +kernel
theorem d_M_restart_73 : decode b_M_restart 73 = .ok (.if_icmp .ge 45, 3) := by decide +kernel
theorem d_M_restart_76 : decode b_M_restart 76 = .ok (.iload_n 3, 1) := by decide +kernel
theorem d_M_restart_77 : decode b_M_restart 77 = .ok (.ifCond .ne 29, 3) := by decide +kernel
theorem d_M_restart_80 : decode b_M_restart 80 = .ok (.aload_n 0, 1) := by decide +kernel
theorem d_M_restart_81 : decode b_M_restart 81 = .ok (.getfield 33, 3) := by decide +kernel
theorem d_M_restart_84 : decode b_M_restart 84 = .ok (.iload 4, 2) := by decide +kernel
theorem d_M_restart_86 : decode b_M_restart 86 = .ok (.iaload, 1) := by decide +kernel
theorem d_M_restart_87 : decode b_M_restart 87 = .ok (.iload_n 2, 1) := by decide +kernel
theorem d_M_restart_88 : decode b_M_restart 88 = .ok (.if_icmp .ne 22, 3) := by decide +kernel
theorem d_M_restart_91 : decode b_M_restart 91 = .ok (.aload_n 0, 1) := by decide +kernel
theorem d_M_restart_92 : decode b_M_restart 92 = .ok (.getfield 67, 3) := by decide +kernel
theorem d_M_restart_95 : decode b_M_restart 95 = .ok (.bipush 100, 2) := by decide +kernel
theorem d_M_restart_97 : decode b_M_restart 97 = .ok (.iload_n 1, 1) := by decide +kernel
theorem d_M_restart_98 : decode b_M_restart 98 = .ok (.imul, 1) := by decide +kernel
theorem d_M_restart_99 : decode b_M_restart 99 = .ok (.iload 4, 2) := by decide +kernel
theorem d_M_restart_101 : decode b_M_restart 101 = .ok (.iadd, 1) := by decide +kernel
theorem d_M_restart_102 : decode b_M_restart 102 = .ok (.baload, 1) := by decide +kernel
theorem d_M_restart_103 : decode b_M_restart 103 = .ok (.ifCond .eq 7, 3) := by decide +kernel
theorem d_M_restart_106 : decode b_M_restart 106 = .ok (.iconst 1, 1) := by decide +kernel
theorem d_M_restart_107 : decode b_M_restart 107 = .ok (.goto 4, 3) := by decide +kernel
theorem d_M_restart_110 : decode b_M_restart 110 = .ok (.iconst 0, 1) := by decide +kernel
theorem d_M_restart_111 : decode b_M_restart 111 = .ok (.istore_n 3, 1) := by decide +kernel
theorem d_M_restart_112 : decode b_M_restart 112 = .ok (.iinc 4 1, 3) := by decide +kernel
theorem d_M_restart_115 : decode b_M_restart 115 = .ok (.goto (-48), 3) := by decide +kernel
theorem d_M_restart_118 : decode b_M_restart 118 = .ok (.aload_n 0, 1) := by decide +kernel
theorem d_M_restart_119 : decode b_M_restart 119 = .ok (.getfield 55, 3) := by decide +kernel
theorem d_M_restart_122 : decode b_M_restart 122 = .ok (.iload_n 1, 1) := by decide +kernel
theorem d_M_restart_123 : decode b_M_restart 123 = .ok (.iload_n 3, 1) := by decide +kernel
theorem d_M_restart_124 : decode b_M_restart 124 = .ok (.ifCond .eq 27, 3) := by decide +kernel
theorem d_M_restart_127 : decode b_M_restart 127 = .ok (.aload_n 0, 1) := by decide +kernel
theorem d_M_restart_128 : decode b_M_restart 128 = .ok (.getfield 30, 3) := by decide +kernel
theorem d_M_restart_131 : decode b_M_restart 131 = .ok (.iload_n 2, 1) := by decide +kernel
theorem d_M_restart_132 : decode b_M_restart 132 = .ok (.iaload, 1) := by decide +kernel
theorem d_M_restart_133 : decode b_M_restart 133 = .ok (.aload_n 0, 1) := by decide +kernel
theorem d_M_restart_134 : decode b_M_restart 134 = .ok (.getfield 30, 3) := by decide +kernel
theorem d_M_restart_137 : decode b_M_restart 137 = .ok (.aload_n 0, 1) := by decide +kernel
theorem d_M_restart_138 : decode b_M_restart 138 = .ok (.getfield 55, 3) := by decide +kernel
theorem d_M_restart_141 : decode b_M_restart 141 = .ok (.iload_n 1, 1) := by decide +kernel
theorem d_M_restart_142 : decode b_M_restart 142 = .ok (.iaload, 1) := by decide +kernel
theorem d_M_restart_143 : decode b_M_restart 143 = .ok (.iaload, 1) := by decide +kernel
theorem d_M_restart_144 : decode b_M_restart 144 = .ok (.if_icmp .le 7, 3) := by decide +kernel
theorem d_M_restart_147 : decode b_M_restart 147 = .ok (.iload_n 2, 1) := by decide +kernel
theorem d_M_restart_148 : decode b_M_restart 148 = .ok (.goto 9, 3) := by decide +kernel
theorem d_M_restart_151 : decode b_M_restart 151 = .ok (.aload_n 0, 1) := by decide +kernel
theorem d_M_restart_152 : decode b_M_restart 152 = .ok (.getfield 55, 3) := by decide +kernel
theorem d_M_restart_155 : decode b_M_restart 155 = .ok (.iload_n 1, 1) := by decide +kernel
theorem d_M_restart_156 : decode b_M_restart 156 = .ok (.iaload, 1) := by decide +kernel
theorem d_M_restart_157 : decode b_M_restart 157 = .ok (.iastore, 1) := by decide +kernel
theorem d_M_restart_158 : decode b_M_restart 158 = .ok (.iinc 2 1, 3) := by decide +kernel
theorem d_M_restart_161 : decode b_M_restart 161 = .ok (.goto (-107), 3) := by decide +kernel
theorem d_M_restart_164 : decode b_M_restart 164 = .ok (.aload_n 0, 1) := by decide +kernel
theorem d_M_restart_165 : decode b_M_restart 165 = .ok (.getfield 46, 3) := by decide +kernel
theorem d_M_restart_168 : decode b_M_restart 168 = .ok (.iload_n 1, 1) := by decide +kernel
theorem d_M_restart_169 : decode b_M_restart 169 = .ok (.aload_n 0, 1) := by decide +kernel
theorem d_M_restart_170 : decode b_M_restart 170 = .ok (.getfield 58, 3) := by decide +kernel
theorem d_M_restart_173 : decode b_M_restart 173 = .ok (.iload_n 1, 1) := by decide +kernel
theorem d_M_restart_174 : decode b_M_restart 174 = .ok (.iaload, 1) := by decide +kernel
theorem d_M_restart_175 : decode b_M_restart 175 = .ok (.iconst 1, 1) := by decide +kernel
theorem d_M_restart_176 : decode b_M_restart 176 = .ok (.if_icmp .ge 7, 3) := by decide +kernel
theorem d_M_restart_179 : decode b_M_restart 179 = .ok (.iconst 1, 1) := by decide +kernel
theorem d_M_restart_180 : decode b_M_restart 180 = .ok (.goto 9, 3) := by decide +kernel
theorem d_M_restart_183 : decode b_M_restart 183 = .ok (.aload_n 0, 1) := by decide +kernel
theorem d_M_restart_184 : decode b_M_restart 184 = .ok (.getfield 58, 3) := by decide +kernel
theorem d_M_restart_187 : decode b_M_restart 187 = .ok (.iload_n 1, 1) := by decide +kernel
theorem d_M_restart_188 : decode b_M_restart 188 = .ok (.iaload, 1) := by decide +kernel
theorem d_M_restart_189 : decode b_M_restart 189 = .ok (.iastore, 1) := by decide +kernel
theorem d_M_restart_190 : decode b_M_restart 190 = .ok (.aload_n 0, 1) := by decide +kernel
theorem d_M_restart_191 : decode b_M_restart 191 = .ok (.getfield 49, 3) := by decide +kernel
theorem d_M_restart_194 : decode b_M_restart 194 = .ok (.iload_n 1, 1) := by decide +kernel
theorem d_M_restart_195 : decode b_M_restart 195 = .ok (.bipush 6, 2) := by decide +kernel
theorem d_M_restart_197 : decode b_M_restart 197 = .ok (.iastore, 1) := by decide +kernel
theorem d_M_restart_198 : decode b_M_restart 198 = .ok (.aload_n 0, 1) := by decide +kernel
theorem d_M_restart_199 : decode b_M_restart 199 = .ok (.getfield 52, 3) := by decide +kernel
theorem d_M_restart_202 : decode b_M_restart 202 = .ok (.iload_n 1, 1) := by decide +kernel
theorem d_M_restart_203 : decode b_M_restart 203 = .ok (.bipush 6, 2) := by decide +kernel
theorem d_M_restart_205 : decode b_M_restart 205 = .ok (.iastore, 1) := by decide +kernel
theorem d_M_restart_206 : decode b_M_restart 206 = .ok (.iconst 1, 1) := by decide +kernel
theorem d_M_restart_207 : decode b_M_restart 207 = .ok (.ireturn, 1) := by decide +kernel
def f_M_restart_189 (a1 : Int32) (S : St) (t0 : Int32) (t1 : Int32) : Int32 × St :=
  lt (si S 12 0 0 (t1.toNatClampNeg) t0) fun (S37 : St) =>
  lt (si S37 13 0 0 (a1.toNatClampNeg) (6 : Int32)) fun (S39 : St) =>
  lt (si S39 14 0 0 (a1.toNatClampNeg) (6 : Int32)) fun (S41 : St) =>
  ((1 : Int32), S41)
def ok_M_restart_189 (a1 : Int32) (S : St) (t0 : Int32) (t1 : Int32) : Prop :=
  (vp_in t1 4) ∧ (
    lt (si S 12 0 0 (t1.toNatClampNeg) t0) fun (S37 : St) =>
    (vp_in a1 4) ∧ (
      lt (si S37 13 0 0 (a1.toNatClampNeg) (6 : Int32)) fun (S39 : St) =>
      (vp_in a1 4) ∧ (
        True)))
set_option maxHeartbeats 4000000 in
set_option maxRecDepth 100000 in
theorem w_M_restart_189 {l : Launch} {D : va_G} {X : va_W} {ad : N3 → Nat} {ca : Nat → ClassId} (a1 : Int32)  {p : Program} {e : Env} {s : State} {m : MethodId} {below : List Frame} {meth : Method} {c : Code} {A : Nat → Prop} (hy : Hy p s m ([.ref (ad (1, 0, 0)), .int a1] : List Value).toArray meth c b_M_restart 5 (some .boolean) R_M GG D clM (tysM ca) nwM) (hA : ∀ q, s.heap.size ≤ q → A q) {res : Int32 × St} : ∀  (S : St) (t0 : Int32) (t1 : Int32) , ok_M_restart_189 a1 S t0 t1 → f_M_restart_189 a1 S t0 t1 = res → ∀ (H : Heap) (locs : List Loc) (ls : Array Slot), Wd D clM A s.heap (zw X ad TM (cfM ad ca) S) H locs → lv_has ls 5 [(0, .ref (ad (1, 0, 0))), (1, .int a1)] → W p l e { frames := 1, cells := 0, slots := 0, locals := 20 } s m ([.ref (ad (1, 0, 0)), .int a1] : List Value).toArray below meth c H locs 0 0 (MQ below (eI D clM X ad TM (cfM ad ca) A res) ([.ref (ad (1, 0, 0)), .int a1] : List Value).toArray s 0 0 A) (F0 m 189 ls [.int t0, .int t1, .ref (ad (12, 0, 0))]) := by
  have hF := hy.1
  have hx := hF.1
  have hb := hF.2.1
  have hK := hy.2.2.2
  intro S t0 t1 hk hr H locs ls hW hl
  have b36 := hk.1
  have hk := hk.2
  obtain ⟨S37, eS37⟩ : ∃ z : St, z = si S 12 0 0 (t1.toNatClampNeg) t0 := ⟨_, rfl⟩
  have hk := lt_p eS37 hk
  have hr := lt_e eS37 hr
  refine z_iast (pc := 189) (S' := S37) hF hK.1 hW tm12 0 rfl rfl b36 (zs_si eS37 rfl) (zs_sio eS37) d_M_restart_189 (fun H locs (hW : Wd D clM A s.heap (zw X ad TM (cfM ad ca) S37) H locs) => ?_)
  refine lv_aload_n (pc := 190) hx hb d_M_restart_190 rfl (lv_at hl 0 rfl) ?_
  refine z_get (pc := 191) (v := .ref (ad (13, 0, 0))) hF hK.1 hW tm1 rfl rfl in_M 18 (by decide) gw_902 rfl rfl d_M_restart_191 ?_
  refine lv_iload_n (pc := 194) hx hb d_M_restart_194 rfl (lv_at hl 1 rfl) ?_
  refine lv_bipush (pc := 195) (v := 6) hx hb d_M_restart_195 (by decide) ?_
  have b38 := hk.1
  have hk := hk.2
  obtain ⟨S39, eS39⟩ : ∃ z : St, z = si S37 13 0 0 (a1.toNatClampNeg) (6 : Int32) := ⟨_, rfl⟩
  have hk := lt_p eS39 hk
  have hr := lt_e eS39 hr
  refine z_iast (pc := 197) (S' := S39) hF hK.1 hW tm13 0 rfl rfl b38 (zs_si eS39 rfl) (zs_sio eS39) d_M_restart_197 (fun H locs (hW : Wd D clM A s.heap (zw X ad TM (cfM ad ca) S39) H locs) => ?_)
  refine lv_aload_n (pc := 198) hx hb d_M_restart_198 rfl (lv_at hl 0 rfl) ?_
  refine z_get (pc := 199) (v := .ref (ad (14, 0, 0))) hF hK.1 hW tm1 rfl rfl in_M 19 (by decide) gw_903 rfl rfl d_M_restart_199 ?_
  refine lv_iload_n (pc := 202) hx hb d_M_restart_202 rfl (lv_at hl 1 rfl) ?_
  refine lv_bipush (pc := 203) (v := 6) hx hb d_M_restart_203 (by decide) ?_
  have b40 := hk.1
  have hk := hk.2
  obtain ⟨S41, eS41⟩ : ∃ z : St, z = si S39 14 0 0 (a1.toNatClampNeg) (6 : Int32) := ⟨_, rfl⟩
  have hr := lt_e eS41 hr
  refine z_iast (pc := 205) (S' := S41) hF hK.1 hW tm14 0 rfl rfl b40 (zs_si eS41 rfl) (zs_sio eS41) d_M_restart_205 (fun H locs (hW : Wd D clM A s.heap (zw X ad TM (cfM ad ca) S41) H locs) => ?_)
  refine lv_iconst (pc := 206) (v := 1) hx hb d_M_restart_206 (by decide) ?_
  exact z_zret (v := (1 : Int32)) hy hW rfl hr.symm d_M_restart_207
def f_M_restart_67 (a1 : Int32) : Nat → St → Int32 → Int32 → Int32 → Int32
  | 0, _, _, _, _ => 0
  | n + 1, S, l2, l3, l4 =>
    if (S.1 1 0 0 11) ≤ l4 then
      l3
    else
      if l3 = 0 then
        if (S.1 8 0 0 l4.toNatClampNeg) = l2 then
          if (S.1 19 0 0 (((100 : Int32) * a1) + l4).toNatClampNeg) = 0 then
            f_M_restart_67 a1 n S l2 (0 : Int32) (l4 + (1 : Int32))
          else
            f_M_restart_67 a1 n S l2 (1 : Int32) (l4 + (1 : Int32))
        else
          f_M_restart_67 a1 n S l2 (0 : Int32) (l4 + (1 : Int32))
      else
        f_M_restart_67 a1 n S l2 (1 : Int32) (l4 + (1 : Int32))
def ok_M_restart_67 (a1 : Int32) : Nat → St → Int32 → Int32 → Int32 → Prop
  | 0, _, _, _, _ => False
  | n + 1, S, l2, l3, l4 =>
    ((S.1 1 0 0 11) ≤ l4 → (
      True)) ∧ (¬ ((S.1 1 0 0 11) ≤ l4) → (
      (l3 = 0 → (
        (vp_in l4 100) ∧ (
          ((S.1 8 0 0 l4.toNatClampNeg) = l2 → (
            (vp_in (((100 : Int32) * a1) + l4) 400) ∧ (
              ((S.1 19 0 0 (((100 : Int32) * a1) + l4).toNatClampNeg) = 0 → (
                ok_M_restart_67 a1 n S l2 (0 : Int32) (l4 + (1 : Int32)))) ∧ (¬ ((S.1 19 0 0 (((100 : Int32) * a1) + l4).toNatClampNeg) = 0) → (
                ok_M_restart_67 a1 n S l2 (1 : Int32) (l4 + (1 : Int32))))))) ∧ (¬ ((S.1 8 0 0 l4.toNatClampNeg) = l2) → (
            ok_M_restart_67 a1 n S l2 (0 : Int32) (l4 + (1 : Int32))))))) ∧ (¬ (l3 = 0) → (
        ok_M_restart_67 a1 n S l2 (1 : Int32) (l4 + (1 : Int32))))))
set_option maxHeartbeats 4000000 in
set_option maxRecDepth 100000 in
theorem w_M_restart_67 {l : Launch} {D : va_G} {X : va_W} {ad : N3 → Nat} {ca : Nat → ClassId} (a1 : Int32)  (S : St) {p : Program} {e : Env} {s : State} {m : MethodId} {below : List Frame} {meth : Method} {c : Code} {A : Nat → Prop} {Q : State → Prop} (hy : Hy p s m ([.ref (ad (1, 0, 0)), .int a1] : List Value).toArray meth c b_M_restart 5 (some .boolean) R_M GG D clM (tysM ca) nwM) (hA : ∀ q, s.heap.size ≤ q → A q) : ∀ (n : Nat) (l2 : Int32) (l3 : Int32) (l4 : Int32), ok_M_restart_67 a1 n S l2 l3 l4 → ∀ r : Int32, f_M_restart_67 a1 n S l2 l3 l4 = r → ∀ (H : Heap) (locs : List Loc) (ls : Array Slot), Wd D clM A s.heap (zw X ad TM (cfM ad ca) S) H locs → lv_has ls 5 [(0, .ref (ad (1, 0, 0))), (1, .int a1), (2, .int l2), (3, .int l3), (4, .int l4)] → (∀ (H : Heap) (locs : List Loc) (ls : Array Slot), Wd D clM A s.heap (zw X ad TM (cfM ad ca) S) H locs → lv_has ls 5 [(0, .ref (ad (1, 0, 0))), (1, .int a1), (2, .int l2), (3, .int r)] → W p l e { frames := 1, cells := 0, slots := 0, locals := 20 } s m ([.ref (ad (1, 0, 0)), .int a1] : List Value).toArray below meth c H locs 0 0 Q (F0 m 118 ls [])) → W p l e { frames := 1, cells := 0, slots := 0, locals := 20 } s m ([.ref (ad (1, 0, 0)), .int a1] : List Value).toArray below meth c H locs 0 0 Q (F0 m 67 ls []) := by
  have hF := hy.1
  have hx := hF.1
  have hb := hF.2.1
  have hK := hy.2.2.2
  intro n
  induction n with
  | zero =>
    intro l2 l3 l4 hk
    exact hk.elim
  | succ n ih =>
    intro l2 l3 l4 hk r hr H locs ls hW hl kk
    refine lv_iload (pc := 67) hx hb d_M_restart_67 (lv_at hl 4 rfl) ?_
    refine lv_aload_n (pc := 69) hx hb d_M_restart_69 rfl (lv_at hl 0 rfl) ?_
    refine z_get (pc := 70) (v := .int (S.1 1 0 0 11)) hF hK.1 hW tm1 rfl rfl in_M 11 (by decide) gw_895 rfl rfl d_M_restart_70 ?_
    refine lv_icmp_ge (pc := 73) (tgt := 118) hx hb d_M_restart_73 (by decide) (fun c30 => ?_) (fun c30 => ?_)
    · have hk := hk.1 c30
      have hr := (if_pos c30).symm.trans hr
      subst hr
      exact kk _ _ _ hW (lv_sub hl [0, 1, 2, 3] rfl)
    · have hk := hk.2 c30
      have hr := (if_neg c30).symm.trans hr
      refine lv_iload_n (pc := 76) hx hb d_M_restart_76 rfl (lv_at hl 3 rfl) ?_
      refine lv_if_ne (pc := 77) (tgt := 106) hx hb d_M_restart_77 (by decide) (fun c31 => ?_) (fun c31 => ?_)
      · have hk := hk.2 c31
        have hr := (if_neg c31).symm.trans hr
        refine lv_iconst (pc := 106) (v := 1) hx hb d_M_restart_106 (by decide) ?_
        refine lv_goto (pc := 107) (tgt := 111) hx hb d_M_restart_107 (by decide) ?_
        refine lv_istore_n (pc := 111) (lv' := [(3, .int (1 : Int32)), (0, .ref (ad (1, 0, 0))), (1, .int a1), (2, .int l2), (4, .int l4)]) hx hb d_M_restart_111 rfl hl (by decide) rfl (fun ls hl => ?_)
        refine lv_iinc (pc := 112) (v := l4 + (1 : Int32)) (lv' := [(4, .int (l4 + (1 : Int32))), (3, .int (1 : Int32)), (0, .ref (ad (1, 0, 0))), (1, .int a1), (2, .int l2)]) (k := 4) hx hb d_M_restart_112 hl rfl (z_inc (by decide)) (by decide) rfl (fun ls hl => ?_)
        refine lv_goto (pc := 115) (tgt := 67) hx hb d_M_restart_115 (by decide) ?_
        exact ih l2 (1 : Int32) (l4 + (1 : Int32)) hk _ hr _ _ _ hW (lv_sub hl [2, 3, 4, 1, 0] rfl) kk
      · have hk := hk.1 c31
        have hr := (if_pos c31).symm.trans hr
        refine lv_aload_n (pc := 80) hx hb d_M_restart_80 rfl (lv_at hl 0 rfl) ?_
        refine z_get (pc := 81) (v := .ref (ad (8, 0, 0))) hF hK.1 hW tm1 rfl rfl in_M 13 (by decide) gw_897 rfl rfl d_M_restart_81 ?_
        refine lv_iload (pc := 84) hx hb d_M_restart_84 (lv_at hl 4 rfl) ?_
        have b32 := hk.1
        have hk := hk.2
        refine z_iald (pc := 86) (v := S.1 8 0 0 l4.toNatClampNeg) hF hK.1 hW tm8 0 rfl rfl b32 rfl d_M_restart_86 ?_
        refine lv_iload_n (pc := 87) hx hb d_M_restart_87 rfl (lv_at hl 2 rfl) ?_
        refine lv_icmp_ne (pc := 88) (tgt := 110) hx hb d_M_restart_88 (by decide) (fun c33 => ?_) (fun c33 => ?_)
        · have hk := hk.2 c33
          have hr := (if_neg c33).symm.trans hr
          refine lv_iconst (pc := 110) (v := 0) hx hb d_M_restart_110 (by decide) ?_
          refine lv_istore_n (pc := 111) (lv' := [(3, .int (0 : Int32)), (0, .ref (ad (1, 0, 0))), (1, .int a1), (2, .int l2), (4, .int l4)]) hx hb d_M_restart_111 rfl hl (by decide) rfl (fun ls hl => ?_)
          refine lv_iinc (pc := 112) (v := l4 + (1 : Int32)) (lv' := [(4, .int (l4 + (1 : Int32))), (3, .int (0 : Int32)), (0, .ref (ad (1, 0, 0))), (1, .int a1), (2, .int l2)]) (k := 4) hx hb d_M_restart_112 hl rfl (z_inc (by decide)) (by decide) rfl (fun ls hl => ?_)
          refine lv_goto (pc := 115) (tgt := 67) hx hb d_M_restart_115 (by decide) ?_
          exact ih l2 (0 : Int32) (l4 + (1 : Int32)) hk _ hr _ _ _ hW (lv_sub hl [2, 3, 4, 1, 0] rfl) kk
        · have hk := hk.1 c33
          have hr := (if_pos c33).symm.trans hr
          refine lv_aload_n (pc := 91) hx hb d_M_restart_91 rfl (lv_at hl 0 rfl) ?_
          refine z_get (pc := 92) (v := .ref (ad (19, 0, 0))) hF hK.1 hW tm1 rfl rfl in_M 24 (by decide) gw_908 rfl rfl d_M_restart_92 ?_
          refine lv_bipush (pc := 95) (v := 100) hx hb d_M_restart_95 (by decide) ?_
          refine lv_iload_n (pc := 97) hx hb d_M_restart_97 rfl (lv_at hl 1 rfl) ?_
          refine lv_imul (pc := 98) hx hb d_M_restart_98 ?_
          refine lv_iload (pc := 99) hx hb d_M_restart_99 (lv_at hl 4 rfl) ?_
          refine lv_iadd (pc := 101) hx hb d_M_restart_101 ?_
          have b34 := hk.1
          have hk := hk.2
          refine z_zald (pc := 102) (v := S.1 19 0 0 (((100 : Int32) * a1) + l4).toNatClampNeg) hF hK.1 hW tm19 2 rfl rfl b34 rfl d_M_restart_102 ?_
          refine lv_if_eq (pc := 103) (tgt := 110) hx hb d_M_restart_103 (by decide) (fun c35 => ?_) (fun c35 => ?_)
          · have hk := hk.1 c35
            have hr := (if_pos c35).symm.trans hr
            refine lv_iconst (pc := 110) (v := 0) hx hb d_M_restart_110 (by decide) ?_
            refine lv_istore_n (pc := 111) (lv' := [(3, .int (0 : Int32)), (0, .ref (ad (1, 0, 0))), (1, .int a1), (2, .int l2), (4, .int l4)]) hx hb d_M_restart_111 rfl hl (by decide) rfl (fun ls hl => ?_)
            refine lv_iinc (pc := 112) (v := l4 + (1 : Int32)) (lv' := [(4, .int (l4 + (1 : Int32))), (3, .int (0 : Int32)), (0, .ref (ad (1, 0, 0))), (1, .int a1), (2, .int l2)]) (k := 4) hx hb d_M_restart_112 hl rfl (z_inc (by decide)) (by decide) rfl (fun ls hl => ?_)
            refine lv_goto (pc := 115) (tgt := 67) hx hb d_M_restart_115 (by decide) ?_
            exact ih l2 (0 : Int32) (l4 + (1 : Int32)) hk _ hr _ _ _ hW (lv_sub hl [2, 3, 4, 1, 0] rfl) kk
          · have hk := hk.2 c35
            have hr := (if_neg c35).symm.trans hr
            refine lv_iconst (pc := 106) (v := 1) hx hb d_M_restart_106 (by decide) ?_
            refine lv_goto (pc := 107) (tgt := 111) hx hb d_M_restart_107 (by decide) ?_
            refine lv_istore_n (pc := 111) (lv' := [(3, .int (1 : Int32)), (0, .ref (ad (1, 0, 0))), (1, .int a1), (2, .int l2), (4, .int l4)]) hx hb d_M_restart_111 rfl hl (by decide) rfl (fun ls hl => ?_)
            refine lv_iinc (pc := 112) (v := l4 + (1 : Int32)) (lv' := [(4, .int (l4 + (1 : Int32))), (3, .int (1 : Int32)), (0, .ref (ad (1, 0, 0))), (1, .int a1), (2, .int l2)]) (k := 4) hx hb d_M_restart_112 hl rfl (z_inc (by decide)) (by decide) rfl (fun ls hl => ?_)
            refine lv_goto (pc := 115) (tgt := 67) hx hb d_M_restart_115 (by decide) ?_
            exact ih l2 (1 : Int32) (l4 + (1 : Int32)) hk _ hr _ _ _ hW (lv_sub hl [2, 3, 4, 1, 0] rfl) kk
def f_M_restart_54 (a1 : Int32) : Nat → St → Int32 → Int32 × St
  | 0, S, _ => (0, S)
  | n + 1, S, l2 =>
    if (S.1 1 0 0 11) ≤ l2 then
      if (1 : Int32) ≤ (S.1 16 0 0 a1.toNatClampNeg) then
        f_M_restart_189 a1 S (S.1 16 0 0 a1.toNatClampNeg) a1
      else
        f_M_restart_189 a1 S (1 : Int32) a1
    else
      lt (f_M_restart_67 a1 200 S l2 (0 : Int32) (1 : Int32)) fun (r15 : Int32) =>
      if r15 = 0 then
        lt (si S 15 0 0 (a1.toNatClampNeg) (S.1 15 0 0 a1.toNatClampNeg)) fun (S20 : St) =>
        f_M_restart_54 a1 n S20 (l2 + (1 : Int32))
      else
        if (S.1 7 0 0 l2.toNatClampNeg) ≤ (S.1 7 0 0 (S.1 15 0 0 a1.toNatClampNeg).toNatClampNeg) then
          lt (si S 15 0 0 (a1.toNatClampNeg) (S.1 15 0 0 a1.toNatClampNeg)) fun (S27 : St) =>
          f_M_restart_54 a1 n S27 (l2 + (1 : Int32))
        else
          lt (si S 15 0 0 (a1.toNatClampNeg) l2) fun (S29 : St) =>
          f_M_restart_54 a1 n S29 (l2 + (1 : Int32))
def ok_M_restart_54 (a1 : Int32) : Nat → St → Int32 → Prop
  | 0, _, _ => False
  | n + 1, S, l2 =>
    ((S.1 1 0 0 11) ≤ l2 → (
      (vp_in a1 4) ∧ (
        ((1 : Int32) ≤ (S.1 16 0 0 a1.toNatClampNeg) → (
          (vp_in a1 4) ∧ (
            ok_M_restart_189 a1 S (S.1 16 0 0 a1.toNatClampNeg) a1))) ∧ (¬ ((1 : Int32) ≤ (S.1 16 0 0 a1.toNatClampNeg)) → (
          ok_M_restart_189 a1 S (1 : Int32) a1))))) ∧ (¬ ((S.1 1 0 0 11) ≤ l2) → (
      (ok_M_restart_67 a1 200 S l2 (0 : Int32) (1 : Int32)) ∧ (
        lt (f_M_restart_67 a1 200 S l2 (0 : Int32) (1 : Int32)) fun (r15 : Int32) =>
        (r15 = 0 → (
          (vp_in a1 4) ∧ (
            (vp_in a1 4) ∧ (
              lt (si S 15 0 0 (a1.toNatClampNeg) (S.1 15 0 0 a1.toNatClampNeg)) fun (S20 : St) =>
              ok_M_restart_54 a1 n S20 (l2 + (1 : Int32)))))) ∧ (¬ (r15 = 0) → (
          (vp_in l2 100) ∧ (
            (vp_in a1 4) ∧ (
              (vp_in (S.1 15 0 0 a1.toNatClampNeg) 100) ∧ (
                ((S.1 7 0 0 l2.toNatClampNeg) ≤ (S.1 7 0 0 (S.1 15 0 0 a1.toNatClampNeg).toNatClampNeg) → (
                  (vp_in a1 4) ∧ (
                    (vp_in a1 4) ∧ (
                      lt (si S 15 0 0 (a1.toNatClampNeg) (S.1 15 0 0 a1.toNatClampNeg)) fun (S27 : St) =>
                      ok_M_restart_54 a1 n S27 (l2 + (1 : Int32)))))) ∧ (¬ ((S.1 7 0 0 l2.toNatClampNeg) ≤ (S.1 7 0 0 (S.1 15 0 0 a1.toNatClampNeg).toNatClampNeg)) → (
                  (vp_in a1 4) ∧ (
                    lt (si S 15 0 0 (a1.toNatClampNeg) l2) fun (S29 : St) =>
                    ok_M_restart_54 a1 n S29 (l2 + (1 : Int32)))))))))))))
set_option maxHeartbeats 4000000 in
set_option maxRecDepth 100000 in
theorem w_M_restart_54 {l : Launch} {D : va_G} {X : va_W} {ad : N3 → Nat} {ca : Nat → ClassId} (a1 : Int32)  {p : Program} {e : Env} {s : State} {m : MethodId} {below : List Frame} {meth : Method} {c : Code} {A : Nat → Prop} (hy : Hy p s m ([.ref (ad (1, 0, 0)), .int a1] : List Value).toArray meth c b_M_restart 5 (some .boolean) R_M GG D clM (tysM ca) nwM) (hA : ∀ q, s.heap.size ≤ q → A q) {res : Int32 × St} : ∀ (n : Nat) (S : St) (l2 : Int32) , ok_M_restart_54 a1 n S l2 → f_M_restart_54 a1 n S l2 = res → ∀ (H : Heap) (locs : List Loc) (ls : Array Slot), Wd D clM A s.heap (zw X ad TM (cfM ad ca) S) H locs → lv_has ls 5 [(0, .ref (ad (1, 0, 0))), (1, .int a1), (2, .int l2)] → W p l e { frames := 1, cells := 0, slots := 0, locals := 20 } s m ([.ref (ad (1, 0, 0)), .int a1] : List Value).toArray below meth c H locs 0 0 (MQ below (eI D clM X ad TM (cfM ad ca) A res) ([.ref (ad (1, 0, 0)), .int a1] : List Value).toArray s 0 0 A) (F0 m 54 ls []) := by
  have hF := hy.1
  have hx := hF.1
  have hb := hF.2.1
  have hK := hy.2.2.2
  intro n
  induction n with
  | zero =>
    intro S l2 hk
    exact hk.elim
  | succ n ih =>
    intro S l2 hk hr H locs ls hW hl
    refine lv_iload_n (pc := 54) hx hb d_M_restart_54 rfl (lv_at hl 2 rfl) ?_
    refine lv_aload_n (pc := 55) hx hb d_M_restart_55 rfl (lv_at hl 0 rfl) ?_
    refine z_get (pc := 56) (v := .int (S.1 1 0 0 11)) hF hK.1 hW tm1 rfl rfl in_M 11 (by decide) gw_895 rfl rfl d_M_restart_56 ?_
    refine lv_icmp_ge (pc := 59) (tgt := 164) hx hb d_M_restart_59 (by decide) (fun c11 => ?_) (fun c11 => ?_)
    · have hk := hk.1 c11
      have hr := (if_pos c11).symm.trans hr
      refine lv_aload_n (pc := 164) hx hb d_M_restart_164 rfl (lv_at hl 0 rfl) ?_
      refine z_get (pc := 165) (v := .ref (ad (12, 0, 0))) hF hK.1 hW tm1 rfl rfl in_M 17 (by decide) gw_901 rfl rfl d_M_restart_165 ?_
      refine lv_iload_n (pc := 168) hx hb d_M_restart_168 rfl (lv_at hl 1 rfl) ?_
      refine lv_aload_n (pc := 169) hx hb d_M_restart_169 rfl (lv_at hl 0 rfl) ?_
      refine z_get (pc := 170) (v := .ref (ad (16, 0, 0))) hF hK.1 hW tm1 rfl rfl in_M 21 (by decide) gw_905 rfl rfl d_M_restart_170 ?_
      refine lv_iload_n (pc := 173) hx hb d_M_restart_173 rfl (lv_at hl 1 rfl) ?_
      have b12 := hk.1
      have hk := hk.2
      refine z_iald (pc := 174) (v := S.1 16 0 0 a1.toNatClampNeg) hF hK.1 hW tm16 0 rfl rfl b12 rfl d_M_restart_174 ?_
      refine lv_iconst (pc := 175) (v := 1) hx hb d_M_restart_175 (by decide) ?_
      refine lv_icmp_ge (pc := 176) (tgt := 183) hx hb d_M_restart_176 (by decide) (fun c13 => ?_) (fun c13 => ?_)
      · have hk := hk.1 c13
        have hr := (if_pos c13).symm.trans hr
        refine lv_aload_n (pc := 183) hx hb d_M_restart_183 rfl (lv_at hl 0 rfl) ?_
        refine z_get (pc := 184) (v := .ref (ad (16, 0, 0))) hF hK.1 hW tm1 rfl rfl in_M 21 (by decide) gw_905 rfl rfl d_M_restart_184 ?_
        refine lv_iload_n (pc := 187) hx hb d_M_restart_187 rfl (lv_at hl 1 rfl) ?_
        have b14 := hk.1
        have hk := hk.2
        refine z_iald (pc := 188) (v := S.1 16 0 0 a1.toNatClampNeg) hF hK.1 hW tm16 0 rfl rfl b14 rfl d_M_restart_188 ?_
        exact w_M_restart_189 a1 hy hA S (S.1 16 0 0 a1.toNatClampNeg) a1 hk hr _ _ _ hW (lv_sub hl [0, 1] rfl)
      · have hk := hk.2 c13
        have hr := (if_neg c13).symm.trans hr
        refine lv_iconst (pc := 179) (v := 1) hx hb d_M_restart_179 (by decide) ?_
        refine lv_goto (pc := 180) (tgt := 189) hx hb d_M_restart_180 (by decide) ?_
        exact w_M_restart_189 a1 hy hA S (1 : Int32) a1 hk hr _ _ _ hW (lv_sub hl [0, 1] rfl)
    · have hk := hk.2 c11
      have hr := (if_neg c11).symm.trans hr
      refine lv_iconst (pc := 62) (v := 0) hx hb d_M_restart_62 (by decide) ?_
      refine lv_istore_n (pc := 63) (lv' := [(3, .int (0 : Int32)), (0, .ref (ad (1, 0, 0))), (1, .int a1), (2, .int l2)]) hx hb d_M_restart_63 rfl hl (by decide) rfl (fun ls hl => ?_)
      refine lv_iconst (pc := 64) (v := 1) hx hb d_M_restart_64 (by decide) ?_
      refine lv_istore (pc := 65) (lv' := [(4, .int (1 : Int32)), (3, .int (0 : Int32)), (0, .ref (ad (1, 0, 0))), (1, .int a1), (2, .int l2)]) hx hb d_M_restart_65 hl (by decide) rfl (fun ls hl => ?_)
      have o16 := hk.1
      have hk := hk.2
      obtain ⟨r15, er15⟩ : ∃ z : Int32, z = f_M_restart_67 a1 200 S l2 (0 : Int32) (1 : Int32) := ⟨_, rfl⟩
      have hk := lt_p er15 hk
      have hr := lt_e er15 hr
      refine w_M_restart_67 a1 S hy hA 200 l2 (0 : Int32) (1 : Int32) o16 _ er15.symm _ _ _ hW (lv_sub hl [2, 3, 4, 1, 0] rfl) (fun H locs ls hW hl => ?_)
      refine lv_aload_n (pc := 118) hx hb d_M_restart_118 rfl (lv_at hl 0 rfl) ?_
      refine z_get (pc := 119) (v := .ref (ad (15, 0, 0))) hF hK.1 hW tm1 rfl rfl in_M 20 (by decide) gw_904 rfl rfl d_M_restart_119 ?_
      refine lv_iload_n (pc := 122) hx hb d_M_restart_122 rfl (lv_at hl 1 rfl) ?_
      refine lv_iload_n (pc := 123) hx hb d_M_restart_123 rfl (lv_at hl 3 rfl) ?_
      refine lv_if_eq (pc := 124) (tgt := 151) hx hb d_M_restart_124 (by decide) (fun c17 => ?_) (fun c17 => ?_)
      · have hk := hk.1 c17
        have hr := (if_pos c17).symm.trans hr
        refine lv_aload_n (pc := 151) hx hb d_M_restart_151 rfl (lv_at hl 0 rfl) ?_
        refine z_get (pc := 152) (v := .ref (ad (15, 0, 0))) hF hK.1 hW tm1 rfl rfl in_M 20 (by decide) gw_904 rfl rfl d_M_restart_152 ?_
        refine lv_iload_n (pc := 155) hx hb d_M_restart_155 rfl (lv_at hl 1 rfl) ?_
        have b18 := hk.1
        have hk := hk.2
        refine z_iald (pc := 156) (v := S.1 15 0 0 a1.toNatClampNeg) hF hK.1 hW tm15 0 rfl rfl b18 rfl d_M_restart_156 ?_
        have b19 := hk.1
        have hk := hk.2
        obtain ⟨S20, eS20⟩ : ∃ z : St, z = si S 15 0 0 (a1.toNatClampNeg) (S.1 15 0 0 a1.toNatClampNeg) := ⟨_, rfl⟩
        have hk := lt_p eS20 hk
        have hr := lt_e eS20 hr
        refine z_iast (pc := 157) (S' := S20) hF hK.1 hW tm15 0 rfl rfl b19 (zs_si eS20 rfl) (zs_sio eS20) d_M_restart_157 (fun H locs (hW : Wd D clM A s.heap (zw X ad TM (cfM ad ca) S20) H locs) => ?_)
        refine lv_iinc (pc := 158) (v := l2 + (1 : Int32)) (lv' := [(2, .int (l2 + (1 : Int32))), (0, .ref (ad (1, 0, 0))), (1, .int a1), (3, .int r15)]) (k := 2) hx hb d_M_restart_158 hl rfl (z_inc (by decide)) (by decide) rfl (fun ls hl => ?_)
        refine lv_goto (pc := 161) (tgt := 54) hx hb d_M_restart_161 (by decide) ?_
        exact ih S20 (l2 + (1 : Int32)) hk hr _ _ _ hW (lv_sub hl [1, 2, 0] rfl)
      · have hk := hk.2 c17
        have hr := (if_neg c17).symm.trans hr
        refine lv_aload_n (pc := 127) hx hb d_M_restart_127 rfl (lv_at hl 0 rfl) ?_
        refine z_get (pc := 128) (v := .ref (ad (7, 0, 0))) hF hK.1 hW tm1 rfl rfl in_M 12 (by decide) gw_896 rfl rfl d_M_restart_128 ?_
        refine lv_iload_n (pc := 131) hx hb d_M_restart_131 rfl (lv_at hl 2 rfl) ?_
        have b21 := hk.1
        have hk := hk.2
        refine z_iald (pc := 132) (v := S.1 7 0 0 l2.toNatClampNeg) hF hK.1 hW tm7 0 rfl rfl b21 rfl d_M_restart_132 ?_
        refine lv_aload_n (pc := 133) hx hb d_M_restart_133 rfl (lv_at hl 0 rfl) ?_
        refine z_get (pc := 134) (v := .ref (ad (7, 0, 0))) hF hK.1 hW tm1 rfl rfl in_M 12 (by decide) gw_896 rfl rfl d_M_restart_134 ?_
        refine lv_aload_n (pc := 137) hx hb d_M_restart_137 rfl (lv_at hl 0 rfl) ?_
        refine z_get (pc := 138) (v := .ref (ad (15, 0, 0))) hF hK.1 hW tm1 rfl rfl in_M 20 (by decide) gw_904 rfl rfl d_M_restart_138 ?_
        refine lv_iload_n (pc := 141) hx hb d_M_restart_141 rfl (lv_at hl 1 rfl) ?_
        have b22 := hk.1
        have hk := hk.2
        refine z_iald (pc := 142) (v := S.1 15 0 0 a1.toNatClampNeg) hF hK.1 hW tm15 0 rfl rfl b22 rfl d_M_restart_142 ?_
        have b23 := hk.1
        have hk := hk.2
        refine z_iald (pc := 143) (v := S.1 7 0 0 (S.1 15 0 0 a1.toNatClampNeg).toNatClampNeg) hF hK.1 hW tm7 0 rfl rfl b23 rfl d_M_restart_143 ?_
        refine lv_icmp_le (pc := 144) (tgt := 151) hx hb d_M_restart_144 (by decide) (fun c24 => ?_) (fun c24 => ?_)
        · have hk := hk.1 c24
          have hr := (if_pos c24).symm.trans hr
          refine lv_aload_n (pc := 151) hx hb d_M_restart_151 rfl (lv_at hl 0 rfl) ?_
          refine z_get (pc := 152) (v := .ref (ad (15, 0, 0))) hF hK.1 hW tm1 rfl rfl in_M 20 (by decide) gw_904 rfl rfl d_M_restart_152 ?_
          refine lv_iload_n (pc := 155) hx hb d_M_restart_155 rfl (lv_at hl 1 rfl) ?_
          have b25 := hk.1
          have hk := hk.2
          refine z_iald (pc := 156) (v := S.1 15 0 0 a1.toNatClampNeg) hF hK.1 hW tm15 0 rfl rfl b25 rfl d_M_restart_156 ?_
          have b26 := hk.1
          have hk := hk.2
          obtain ⟨S27, eS27⟩ : ∃ z : St, z = si S 15 0 0 (a1.toNatClampNeg) (S.1 15 0 0 a1.toNatClampNeg) := ⟨_, rfl⟩
          have hk := lt_p eS27 hk
          have hr := lt_e eS27 hr
          refine z_iast (pc := 157) (S' := S27) hF hK.1 hW tm15 0 rfl rfl b26 (zs_si eS27 rfl) (zs_sio eS27) d_M_restart_157 (fun H locs (hW : Wd D clM A s.heap (zw X ad TM (cfM ad ca) S27) H locs) => ?_)
          refine lv_iinc (pc := 158) (v := l2 + (1 : Int32)) (lv' := [(2, .int (l2 + (1 : Int32))), (0, .ref (ad (1, 0, 0))), (1, .int a1), (3, .int r15)]) (k := 2) hx hb d_M_restart_158 hl rfl (z_inc (by decide)) (by decide) rfl (fun ls hl => ?_)
          refine lv_goto (pc := 161) (tgt := 54) hx hb d_M_restart_161 (by decide) ?_
          exact ih S27 (l2 + (1 : Int32)) hk hr _ _ _ hW (lv_sub hl [1, 2, 0] rfl)
        · have hk := hk.2 c24
          have hr := (if_neg c24).symm.trans hr
          refine lv_iload_n (pc := 147) hx hb d_M_restart_147 rfl (lv_at hl 2 rfl) ?_
          refine lv_goto (pc := 148) (tgt := 157) hx hb d_M_restart_148 (by decide) ?_
          have b28 := hk.1
          have hk := hk.2
          obtain ⟨S29, eS29⟩ : ∃ z : St, z = si S 15 0 0 (a1.toNatClampNeg) l2 := ⟨_, rfl⟩
          have hk := lt_p eS29 hk
          have hr := lt_e eS29 hr
          refine z_iast (pc := 157) (S' := S29) hF hK.1 hW tm15 0 rfl rfl b28 (zs_si eS29 rfl) (zs_sio eS29) d_M_restart_157 (fun H locs (hW : Wd D clM A s.heap (zw X ad TM (cfM ad ca) S29) H locs) => ?_)
          refine lv_iinc (pc := 158) (v := l2 + (1 : Int32)) (lv' := [(2, .int (l2 + (1 : Int32))), (0, .ref (ad (1, 0, 0))), (1, .int a1), (3, .int r15)]) (k := 2) hx hb d_M_restart_158 hl rfl (z_inc (by decide)) (by decide) rfl (fun ls hl => ?_)
          refine lv_goto (pc := 161) (tgt := 54) hx hb d_M_restart_161 (by decide) ?_
          exact ih S29 (l2 + (1 : Int32)) hk hr _ _ _ hW (lv_sub hl [1, 2, 0] rfl)
def f_M_restart_26 (a1 : Int32) (S : St) (t0 : Int32) : Int32 × St :=
  lt (si S 1 0 0 1 t0) fun (S5 : St) =>
  if (S5.1 1 0 0 1) ≤ 0 then
    lt (si S5 11 0 0 (a1.toNatClampNeg) (1 : Int32)) fun (S8 : St) =>
    lt (si S8 15 0 0 (a1.toNatClampNeg) (0 : Int32)) fun (S10 : St) =>
    f_M_restart_54 a1 200 S10 (0 : Int32)
  else
    ((0 : Int32), S5)
def ok_M_restart_26 (a1 : Int32) (S : St) (t0 : Int32) : Prop :=
  lt (si S 1 0 0 1 t0) fun (S5 : St) =>
  ((S5.1 1 0 0 1) ≤ 0 → (
    (vp_in a1 4) ∧ (
      lt (si S5 11 0 0 (a1.toNatClampNeg) (1 : Int32)) fun (S8 : St) =>
      (vp_in a1 4) ∧ (
        lt (si S8 15 0 0 (a1.toNatClampNeg) (0 : Int32)) fun (S10 : St) =>
        ok_M_restart_54 a1 200 S10 (0 : Int32))))) ∧ (¬ ((S5.1 1 0 0 1) ≤ 0) → (
    True))
set_option maxHeartbeats 4000000 in
set_option maxRecDepth 100000 in
theorem w_M_restart_26 {l : Launch} {D : va_G} {X : va_W} {ad : N3 → Nat} {ca : Nat → ClassId} (a1 : Int32)  {p : Program} {e : Env} {s : State} {m : MethodId} {below : List Frame} {meth : Method} {c : Code} {A : Nat → Prop} (hy : Hy p s m ([.ref (ad (1, 0, 0)), .int a1] : List Value).toArray meth c b_M_restart 5 (some .boolean) R_M GG D clM (tysM ca) nwM) (hA : ∀ q, s.heap.size ≤ q → A q) {res : Int32 × St} : ∀  (S : St) (t0 : Int32) , ok_M_restart_26 a1 S t0 → f_M_restart_26 a1 S t0 = res → ∀ (H : Heap) (locs : List Loc) (ls : Array Slot), Wd D clM A s.heap (zw X ad TM (cfM ad ca) S) H locs → lv_has ls 5 [(0, .ref (ad (1, 0, 0))), (1, .int a1)] → W p l e { frames := 1, cells := 0, slots := 0, locals := 20 } s m ([.ref (ad (1, 0, 0)), .int a1] : List Value).toArray below meth c H locs 0 0 (MQ below (eI D clM X ad TM (cfM ad ca) A res) ([.ref (ad (1, 0, 0)), .int a1] : List Value).toArray s 0 0 A) (F0 m 26 ls [.int t0, .ref (ad (1, 0, 0))]) := by
  have hF := hy.1
  have hx := hF.1
  have hb := hF.2.1
  have hK := hy.2.2.2
  intro S t0 hk hr H locs ls hW hl
  obtain ⟨S5, eS5⟩ : ∃ z : St, z = si S 1 0 0 1 t0 := ⟨_, rfl⟩
  have hk := lt_p eS5 hk
  have hr := lt_e eS5 hr
  refine z_put (pc := 26) (S' := S5) hF hK.1 hW tm1 rfl rfl in_M t_M tyo_M nmo_M 1 (by decide) gw_885 rfl rfl rfl rfl rfl (Nat.le_of_ble_eq_true rfl) (zs_si eS5 rfl) (zs_sio eS5) d_M_restart_26 (fun H locs (hW : Wd D clM A s.heap (zw X ad TM (cfM ad ca) S5) H locs) => ?_)
  refine lv_aload_n (pc := 29) hx hb d_M_restart_29 rfl (lv_at hl 0 rfl) ?_
  refine z_get (pc := 30) (v := .int (S5.1 1 0 0 1)) hF hK.1 hW tm1 rfl rfl in_M 1 (by decide) gw_885 rfl rfl d_M_restart_30 ?_
  refine lv_if_le (pc := 33) (tgt := 38) hx hb d_M_restart_33 (by decide) (fun c6 => ?_) (fun c6 => ?_)
  · have hk := hk.1 c6
    have hr := (if_pos c6).symm.trans hr
    refine lv_aload_n (pc := 38) hx hb d_M_restart_38 rfl (lv_at hl 0 rfl) ?_
    refine z_get (pc := 39) (v := .ref (ad (11, 0, 0))) hF hK.1 hW tm1 rfl rfl in_M 16 (by decide) gw_900 rfl rfl d_M_restart_39 ?_
    refine lv_iload_n (pc := 42) hx hb d_M_restart_42 rfl (lv_at hl 1 rfl) ?_
    refine lv_iconst (pc := 43) (v := 1) hx hb d_M_restart_43 (by decide) ?_
    have b7 := hk.1
    have hk := hk.2
    obtain ⟨S8, eS8⟩ : ∃ z : St, z = si S5 11 0 0 (a1.toNatClampNeg) (1 : Int32) := ⟨_, rfl⟩
    have hk := lt_p eS8 hk
    have hr := lt_e eS8 hr
    refine z_zast (pc := 44) (S' := S8) hF hK.1 hW tm11 2 rfl rfl b7 (zs_si eS8 rfl) (zs_sio eS8) d_M_restart_44 (fun H locs (hW : Wd D clM A s.heap (zw X ad TM (cfM ad ca) S8) H locs) => ?_)
    refine lv_aload_n (pc := 45) hx hb d_M_restart_45 rfl (lv_at hl 0 rfl) ?_
    refine z_get (pc := 46) (v := .ref (ad (15, 0, 0))) hF hK.1 hW tm1 rfl rfl in_M 20 (by decide) gw_904 rfl rfl d_M_restart_46 ?_
    refine lv_iload_n (pc := 49) hx hb d_M_restart_49 rfl (lv_at hl 1 rfl) ?_
    refine lv_iconst (pc := 50) (v := 0) hx hb d_M_restart_50 (by decide) ?_
    have b9 := hk.1
    have hk := hk.2
    obtain ⟨S10, eS10⟩ : ∃ z : St, z = si S8 15 0 0 (a1.toNatClampNeg) (0 : Int32) := ⟨_, rfl⟩
    have hk := lt_p eS10 hk
    have hr := lt_e eS10 hr
    refine z_iast (pc := 51) (S' := S10) hF hK.1 hW tm15 0 rfl rfl b9 (zs_si eS10 rfl) (zs_sio eS10) d_M_restart_51 (fun H locs (hW : Wd D clM A s.heap (zw X ad TM (cfM ad ca) S10) H locs) => ?_)
    refine lv_iconst (pc := 52) (v := 0) hx hb d_M_restart_52 (by decide) ?_
    refine lv_istore_n (pc := 53) (lv' := [(2, .int (0 : Int32)), (0, .ref (ad (1, 0, 0))), (1, .int a1)]) hx hb d_M_restart_53 rfl hl (by decide) rfl (fun ls hl => ?_)
    exact w_M_restart_54 a1 hy hA 200 S10 (0 : Int32) hk hr _ _ _ hW (lv_sub hl [1, 2, 0] rfl)
  · have hk := hk.2 c6
    have hr := (if_neg c6).symm.trans hr
    refine lv_iconst (pc := 36) (v := 0) hx hb d_M_restart_36 (by decide) ?_
    exact z_zret (v := (0 : Int32)) hy hW rfl hr.symm d_M_restart_37
def f_M_restart (a1 : Int32) (S : St) : Int32 × St :=
  lt (f_M_isNode a1 S) fun (r1 : Int32) =>
  if r1 = 0 then
    f_M_restart_26 a1 S (1 : Int32)
  else
    if (S.1 11 0 0 a1.toNatClampNeg) = 0 then
      f_M_restart_26 a1 S (0 : Int32)
    else
      f_M_restart_26 a1 S (2 : Int32)
def ok_M_restart (a1 : Int32) (S : St) : Prop :=
  lt (f_M_isNode a1 S) fun (r1 : Int32) =>
  (r1 = 0 → (
    ok_M_restart_26 a1 S (1 : Int32))) ∧ (¬ (r1 = 0) → (
    (vp_in a1 4) ∧ (
      ((S.1 11 0 0 a1.toNatClampNeg) = 0 → (
        ok_M_restart_26 a1 S (0 : Int32))) ∧ (¬ ((S.1 11 0 0 a1.toNatClampNeg) = 0) → (
        ok_M_restart_26 a1 S (2 : Int32))))))
set_option maxHeartbeats 4000000 in
set_option maxRecDepth 100000 in
theorem c_M_restart (l : Launch) (D : va_G) (X : va_W) (ad : N3 → Nat) (ca : Nat → ClassId) (a1 : Int32)  (S : St) (hk : ok_M_restart a1 S) : cI l GG D clM (tysM ca) nwM X ad TM (cfM ad ca) y_M_restart b_M_restart 5 .boolean 1 20 [.ref (ad (1, 0, 0)), .int a1] S (f_M_restart a1 S) := by
  generalize hr : f_M_restart a1 S = res
  refine zI_of pn_M (Nat.le_of_ble_eq_true rfl) (fun p e s m below meth c A ls hy hW hA hl => ?_)
  have hF := hy.1
  have hx := hF.1
  have hb := hF.2.1
  have hK := hy.2.2.2
  have hl : lv_has ls 5 [(0, .ref (ad (1, 0, 0))), (1, .int a1)] := hl
  refine lv_aload_n (pc := 0) hx hb d_M_restart_0 rfl (lv_at hl 0 rfl) ?_
  refine lv_iload_n (pc := 1) hx hb d_M_restart_1 rfl (lv_at hl 1 rfl) ?_
  obtain ⟨r1, er1⟩ : ∃ z : Int32, z = f_M_isNode a1 S := ⟨_, rfl⟩
  have hk := lt_p er1 hk
  have hr := lt_e er1 hr
  refine p_go (pc := 2) (congrArg Value.int er1) (p_runS hF hK hW (c_M_isNode l D X ad ca a1 S _) cd_M_isNode gw_1022 ⟨Nat.le_of_ble_eq_true rfl, Nat.le_of_ble_eq_true rfl⟩ ⟨Nat.zero_le _, Nat.zero_le _⟩ rfl rfl hl.1 (Nat.le_of_ble_eq_true rfl) d_M_restart_2) ?_
  refine lv_if_ne (pc := 5) (tgt := 12) hx hb d_M_restart_5 (by decide) (fun c2 => ?_) (fun c2 => ?_)
  · have hk := hk.2 c2
    have hr := (if_neg c2).symm.trans hr
    refine lv_aload_n (pc := 12) hx hb d_M_restart_12 rfl (lv_at hl 0 rfl) ?_
    refine z_get (pc := 13) (v := .ref (ad (11, 0, 0))) hF hK.1 hW tm1 rfl rfl in_M 16 (by decide) gw_900 rfl rfl d_M_restart_13 ?_
    refine lv_iload_n (pc := 16) hx hb d_M_restart_16 rfl (lv_at hl 1 rfl) ?_
    have b3 := hk.1
    have hk := hk.2
    refine z_zald (pc := 17) (v := S.1 11 0 0 a1.toNatClampNeg) hF hK.1 hW tm11 2 rfl rfl b3 rfl d_M_restart_17 ?_
    refine lv_if_eq (pc := 18) (tgt := 25) hx hb d_M_restart_18 (by decide) (fun c4 => ?_) (fun c4 => ?_)
    · have hk := hk.1 c4
      have hr := (if_pos c4).symm.trans hr
      refine lv_iconst (pc := 25) (v := 0) hx hb d_M_restart_25 (by decide) ?_
      exact w_M_restart_26 a1 hy hA S (0 : Int32) hk hr _ _ _ hW (lv_sub hl [0, 1] rfl)
    · have hk := hk.2 c4
      have hr := (if_neg c4).symm.trans hr
      refine lv_iconst (pc := 21) (v := 2) hx hb d_M_restart_21 (by decide) ?_
      refine lv_goto (pc := 22) (tgt := 26) hx hb d_M_restart_22 (by decide) ?_
      exact w_M_restart_26 a1 hy hA S (2 : Int32) hk hr _ _ _ hW (lv_sub hl [0, 1] rfl)
  · have hk := hk.1 c2
    have hr := (if_pos c2).symm.trans hr
    refine lv_iconst (pc := 8) (v := 1) hx hb d_M_restart_8 (by decide) ?_
    refine lv_goto (pc := 9) (tgt := 26) hx hb d_M_restart_9 (by decide) ?_
    exact w_M_restart_26 a1 hy hA S (1 : Int32) hk hr _ _ _ hW (lv_sub hl [0, 1] rfl)
theorem d_M_hasAll_0 : decode b_M_hasAll 0 = .ok (.iconst 0, 1) := by decide +kernel
theorem d_M_hasAll_1 : decode b_M_hasAll 1 = .ok (.istore_n 2, 1) := by decide +kernel
theorem d_M_hasAll_2 : decode b_M_hasAll 2 = .ok (.iconst 0, 1) := by decide +kernel
theorem d_M_hasAll_3 : decode b_M_hasAll 3 = .ok (.istore_n 3, 1) := by decide +kernel
theorem d_M_hasAll_4 : decode b_M_hasAll 4 = .ok (.iload_n 3, 1) := by decide +kernel
theorem d_M_hasAll_5 : decode b_M_hasAll 5 = .ok (.aload_n 0, 1) := by decide +kernel
theorem d_M_hasAll_6 : decode b_M_hasAll 6 = .ok (.getfield 26, 3) := by decide +kernel
theorem d_M_hasAll_9 : decode b_M_hasAll 9 = .ok (.if_icmp .ge 31, 3) := by decide +kernel
theorem d_M_hasAll_12 : decode b_M_hasAll 12 = .ok (.iload_n 2, 1) := by decide +kernel
theorem d_M_hasAll_13 : decode b_M_hasAll 13 = .ok (.aload_n 0, 1) := by decide +kernel
theorem d_M_hasAll_14 : decode b_M_hasAll 14 = .ok (.getfield 67, 3) := by decide +kernel
theorem d_M_hasAll_17 : decode b_M_hasAll 17 = .ok (.bipush 100, 2) := by decide +kernel
theorem d_M_hasAll_19 : decode b_M_hasAll 19 = .ok (.iload_n 1, 1) := by decide +kernel
theorem d_M_hasAll_20 : decode b_M_hasAll 20 = .ok (.imul, 1) := by decide +kernel
theorem d_M_hasAll_21 : decode b_M_hasAll 21 = .ok (.iload_n 3, 1) := by decide +kernel
theorem d_M_hasAll_22 : decode b_M_hasAll 22 = .ok (.iadd, 1) := by decide +kernel
theorem d_M_hasAll_23 : decode b_M_hasAll 23 = .ok (.baload, 1) := by decide +kernel
theorem d_M_hasAll_24 : decode b_M_hasAll 24 = .ok (.ifCond .eq 7, 3) := by decide +kernel
theorem d_M_hasAll_27 : decode b_M_hasAll 27 = .ok (.iconst 1, 1) := by decide +kernel
theorem d_M_hasAll_28 : decode b_M_hasAll 28 = .ok (.goto 4, 3) := by decide +kernel
theorem d_M_hasAll_31 : decode b_M_hasAll 31 = .ok (.iconst 0, 1) := by decide +kernel
theorem d_M_hasAll_32 : decode b_M_hasAll 32 = .ok (.iadd, 1) := by decide +kernel
theorem d_M_hasAll_33 : decode b_M_hasAll 33 = .ok (.istore_n 2, 1) := by decide +kernel
theorem d_M_hasAll_34 : decode b_M_hasAll 34 = .ok (.iinc 3 1, 3) := by decide +kernel
theorem d_M_hasAll_37 : decode b_M_hasAll 37 = .ok (.goto (-33), 3) := by decide +kernel
theorem d_M_hasAll_40 : decode b_M_hasAll 40 = .ok (.iload_n 2, 1) := by decide +kernel
theorem d_M_hasAll_41 : decode b_M_hasAll 41 = .ok (.ireturn, 1) := by decide +kernel
def f_M_hasAll_4 (a1 : Int32) : Nat → St → Int32 → Int32 → Int32
  | 0, _, _, _ => 0
  | n + 1, S, l2, l3 =>
    if (S.1 1 0 0 11) ≤ l3 then
      l2
    else
      if (S.1 19 0 0 (((100 : Int32) * a1) + l3).toNatClampNeg) = 0 then
        f_M_hasAll_4 a1 n S (l2 + (0 : Int32)) (l3 + (1 : Int32))
      else
        f_M_hasAll_4 a1 n S (l2 + (1 : Int32)) (l3 + (1 : Int32))
def ok_M_hasAll_4 (a1 : Int32) : Nat → St → Int32 → Int32 → Prop
  | 0, _, _, _ => False
  | n + 1, S, l2, l3 =>
    ((S.1 1 0 0 11) ≤ l3 → (
      True)) ∧ (¬ ((S.1 1 0 0 11) ≤ l3) → (
      (vp_in (((100 : Int32) * a1) + l3) 400) ∧ (
        ((S.1 19 0 0 (((100 : Int32) * a1) + l3).toNatClampNeg) = 0 → (
          ok_M_hasAll_4 a1 n S (l2 + (0 : Int32)) (l3 + (1 : Int32)))) ∧ (¬ ((S.1 19 0 0 (((100 : Int32) * a1) + l3).toNatClampNeg) = 0) → (
          ok_M_hasAll_4 a1 n S (l2 + (1 : Int32)) (l3 + (1 : Int32)))))))
set_option maxHeartbeats 4000000 in
set_option maxRecDepth 100000 in
theorem w_M_hasAll_4 {l : Launch} {D : va_G} {X : va_W} {ad : N3 → Nat} {ca : Nat → ClassId} (a1 : Int32)  (S : St) {p : Program} {e : Env} {s : State} {m : MethodId} {below : List Frame} {meth : Method} {c : Code} (hy : Hy p s m ([.ref (ad (1, 0, 0)), .int a1] : List Value).toArray meth c b_M_hasAll 4 (some .int) R_M GG D clM (tysM ca) nwM) (hW : Wd D clM (fun _ => True) s.heap (zw X ad TM (cfM ad ca) S) s.heap []) {res : Int32} : ∀ (n : Nat) (l2 : Int32) (l3 : Int32) , ok_M_hasAll_4 a1 n S l2 l3 → f_M_hasAll_4 a1 n S l2 l3 = res → ∀ (ls : Array Slot), lv_has ls 4 [(0, .ref (ad (1, 0, 0))), (1, .int a1), (2, .int l2), (3, .int l3)] → W p l e { frames := 0, cells := 0, slots := 0, locals := 0 } s m ([.ref (ad (1, 0, 0)), .int a1] : List Value).toArray below meth c s.heap [] 0 0 (MQ below (eP (.int res)) ([.ref (ad (1, 0, 0)), .int a1] : List Value).toArray s 0 0 nof) (F0 m 4 ls []) := by
  have hF := hy.1
  have hx := hF.1
  have hb := hF.2.1
  have hK := hy.2.2.2
  intro n
  induction n with
  | zero =>
    intro l2 l3 hk
    exact hk.elim
  | succ n ih =>
    intro l2 l3 hk hr ls hl
    refine lv_iload_n (pc := 4) hx hb d_M_hasAll_4 rfl (lv_at hl 3 rfl) ?_
    refine lv_aload_n (pc := 5) hx hb d_M_hasAll_5 rfl (lv_at hl 0 rfl) ?_
    refine z_get (pc := 6) (v := .int (S.1 1 0 0 11)) hF hK.1 hW tm1 rfl rfl in_M 11 (by decide) gw_895 rfl rfl d_M_hasAll_6 ?_
    refine lv_icmp_ge (pc := 9) (tgt := 40) hx hb d_M_hasAll_9 (by decide) (fun c1 => ?_) (fun c1 => ?_)
    · have hk := hk.1 c1
      have hr := (if_pos c1).symm.trans hr
      refine lv_iload_n (pc := 40) hx hb d_M_hasAll_40 rfl (lv_at hl 2 rfl) ?_
      exact p_iret (v := l2) hy hr d_M_hasAll_41
    · have hk := hk.2 c1
      have hr := (if_neg c1).symm.trans hr
      refine lv_iload_n (pc := 12) hx hb d_M_hasAll_12 rfl (lv_at hl 2 rfl) ?_
      refine lv_aload_n (pc := 13) hx hb d_M_hasAll_13 rfl (lv_at hl 0 rfl) ?_
      refine z_get (pc := 14) (v := .ref (ad (19, 0, 0))) hF hK.1 hW tm1 rfl rfl in_M 24 (by decide) gw_908 rfl rfl d_M_hasAll_14 ?_
      refine lv_bipush (pc := 17) (v := 100) hx hb d_M_hasAll_17 (by decide) ?_
      refine lv_iload_n (pc := 19) hx hb d_M_hasAll_19 rfl (lv_at hl 1 rfl) ?_
      refine lv_imul (pc := 20) hx hb d_M_hasAll_20 ?_
      refine lv_iload_n (pc := 21) hx hb d_M_hasAll_21 rfl (lv_at hl 3 rfl) ?_
      refine lv_iadd (pc := 22) hx hb d_M_hasAll_22 ?_
      have b2 := hk.1
      have hk := hk.2
      refine z_zald (pc := 23) (v := S.1 19 0 0 (((100 : Int32) * a1) + l3).toNatClampNeg) hF hK.1 hW tm19 2 rfl rfl b2 rfl d_M_hasAll_23 ?_
      refine lv_if_eq (pc := 24) (tgt := 31) hx hb d_M_hasAll_24 (by decide) (fun c3 => ?_) (fun c3 => ?_)
      · have hk := hk.1 c3
        have hr := (if_pos c3).symm.trans hr
        refine lv_iconst (pc := 31) (v := 0) hx hb d_M_hasAll_31 (by decide) ?_
        refine lv_iadd (pc := 32) hx hb d_M_hasAll_32 ?_
        refine lv_istore_n (pc := 33) (lv' := [(2, .int (l2 + (0 : Int32))), (0, .ref (ad (1, 0, 0))), (1, .int a1), (3, .int l3)]) hx hb d_M_hasAll_33 rfl hl (by decide) rfl (fun ls hl => ?_)
        refine lv_iinc (pc := 34) (v := l3 + (1 : Int32)) (lv' := [(3, .int (l3 + (1 : Int32))), (2, .int (l2 + (0 : Int32))), (0, .ref (ad (1, 0, 0))), (1, .int a1)]) (k := 3) hx hb d_M_hasAll_34 hl rfl (z_inc (by decide)) (by decide) rfl (fun ls hl => ?_)
        refine lv_goto (pc := 37) (tgt := 4) hx hb d_M_hasAll_37 (by decide) ?_
        exact ih (l2 + (0 : Int32)) (l3 + (1 : Int32)) hk hr _ (lv_sub hl [2, 3, 1, 0] rfl)
      · have hk := hk.2 c3
        have hr := (if_neg c3).symm.trans hr
        refine lv_iconst (pc := 27) (v := 1) hx hb d_M_hasAll_27 (by decide) ?_
        refine lv_goto (pc := 28) (tgt := 32) hx hb d_M_hasAll_28 (by decide) ?_
        refine lv_iadd (pc := 32) hx hb d_M_hasAll_32 ?_
        refine lv_istore_n (pc := 33) (lv' := [(2, .int (l2 + (1 : Int32))), (0, .ref (ad (1, 0, 0))), (1, .int a1), (3, .int l3)]) hx hb d_M_hasAll_33 rfl hl (by decide) rfl (fun ls hl => ?_)
        refine lv_iinc (pc := 34) (v := l3 + (1 : Int32)) (lv' := [(3, .int (l3 + (1 : Int32))), (2, .int (l2 + (1 : Int32))), (0, .ref (ad (1, 0, 0))), (1, .int a1)]) (k := 3) hx hb d_M_hasAll_34 hl rfl (z_inc (by decide)) (by decide) rfl (fun ls hl => ?_)
        refine lv_goto (pc := 37) (tgt := 4) hx hb d_M_hasAll_37 (by decide) ?_
        exact ih (l2 + (1 : Int32)) (l3 + (1 : Int32)) hk hr _ (lv_sub hl [2, 3, 1, 0] rfl)
def f_M_hasAll (a1 : Int32) (S : St) : Int32 :=
  f_M_hasAll_4 a1 200 S (0 : Int32) (0 : Int32)
def ok_M_hasAll (a1 : Int32) (S : St) : Prop :=
  ok_M_hasAll_4 a1 200 S (0 : Int32) (0 : Int32)
set_option maxHeartbeats 4000000 in
set_option maxRecDepth 100000 in
theorem c_M_hasAll (l : Launch) (D : va_G) (X : va_W) (ad : N3 → Nat) (ca : Nat → ClassId) (a1 : Int32)  (S : St) (hk : ok_M_hasAll a1 S) : cP l GG D clM (tysM ca) nwM (zw X ad TM (cfM ad ca) S) y_M_hasAll b_M_hasAll 4 .int 0 0 [.ref (ad (1, 0, 0)), .int a1] (.int (f_M_hasAll a1 S)) := by
  generalize hr : f_M_hasAll a1 S = res
  refine zP_of pn_M (Nat.le_of_ble_eq_true rfl) (fun p e s m below meth c ls hy hW hl => ?_)
  have hF := hy.1
  have hx := hF.1
  have hb := hF.2.1
  have hK := hy.2.2.2
  have hl : lv_has ls 4 [(0, .ref (ad (1, 0, 0))), (1, .int a1)] := hl
  refine lv_iconst (pc := 0) (v := 0) hx hb d_M_hasAll_0 (by decide) ?_
  refine lv_istore_n (pc := 1) (lv' := [(2, .int (0 : Int32)), (0, .ref (ad (1, 0, 0))), (1, .int a1)]) hx hb d_M_hasAll_1 rfl hl (by decide) rfl (fun ls hl => ?_)
  refine lv_iconst (pc := 2) (v := 0) hx hb d_M_hasAll_2 (by decide) ?_
  refine lv_istore_n (pc := 3) (lv' := [(3, .int (0 : Int32)), (2, .int (0 : Int32)), (0, .ref (ad (1, 0, 0))), (1, .int a1)]) hx hb d_M_hasAll_3 rfl hl (by decide) rfl (fun ls hl => ?_)
  exact w_M_hasAll_4 a1 S hy hW 200 (0 : Int32) (0 : Int32) hk hr _ (lv_sub hl [2, 3, 1, 0] rfl)
