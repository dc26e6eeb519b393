theorem d_M_block_0 : decode b_M_block 0 = .ok (.aload_n 0, 1) := by decide +kernel
theorem d_M_block_1 : decode b_M_block 1 = .ok (.iconst 0, 1) := by decide +kernel
theorem d_M_block_2 : decode b_M_block 2 = .ok (.putfield 141, 3) := by decide +kernel
theorem d_M_block_5 : decode b_M_block 5 = .ok (.aload_n 0, 1) := by decide +kernel
theorem d_M_block_6 : decode b_M_block 6 = .ok (.iload_n 1, 1) := by decide +kernel
theorem d_M_block_7 : decode b_M_block 7 = .ok (.invokevirtual 262, 3) := by decide +kernel
theorem d_M_block_10 : decode b_M_block 10 = .ok (.ifCond .ne 5, 3) := by decide +kernel
theorem d_M_block_13 : decode b_M_block 13 = .ok (.iconst (-1), 1) := by decide +kernel
theorem d_M_block_14 : decode b_M_block 14 = .ok (.ireturn, 1) := by decide +kernel
theorem d_M_block_15 : decode b_M_block 15 = .ok (.iload_n 2, 1) := by decide +kernel
theorem d_M_block_16 : decode b_M_block 16 = .ok (.tableswitch 144 0 4 #[36, 43, 50, 57, 72], 36) := by decide +kernel
theorem d_M_block_52 : decode b_M_block 52 = .ok (.aload_n 0, 1) := by decide +kernel
theorem d_M_block_53 : decode b_M_block 53 = .ok (.getfield 30, 3) := by decide +kernel
theorem d_M_block_56 : decode b_M_block 56 = .ok (.iload_n 1, 1) := by decide +kernel
theorem d_M_block_57 : decode b_M_block 57 = .ok (.iaload, 1) := by decide +kernel
theorem d_M_block_58 : decode b_M_block 58 = .ok (.ireturn, 1) := by decide +kernel
theorem d_M_block_59 : decode b_M_block 59 = .ok (.aload_n 0, 1) := by decide +kernel
theorem d_M_block_60 : decode b_M_block 60 = .ok (.getfield 33, 3) := by decide +kernel
theorem d_M_block_63 : decode b_M_block 63 = .ok (.iload_n 1, 1) := by decide +kernel
theorem d_M_block_64 : decode b_M_block 64 = .ok (.iaload, 1) := by decide +kernel
theorem d_M_block_65 : decode b_M_block 65 = .ok (.ireturn, 1) := by decide +kernel
theorem d_M_block_66 : decode b_M_block 66 = .ok (.aload_n 0, 1) := by decide +kernel
theorem d_M_block_67 : decode b_M_block 67 = .ok (.getfield 36, 3) := by decide +kernel
theorem d_M_block_70 : decode b_M_block 70 = .ok (.iload_n 1, 1) := by decide +kernel
theorem d_M_block_71 : decode b_M_block 71 = .ok (.iaload, 1) := by decide +kernel
theorem d_M_block_72 : decode b_M_block 72 = .ok (.ireturn, 1) := by decide +kernel
theorem d_M_block_73 : decode b_M_block 73 = .ok (.aload_n 0, 1) := by decide +kernel
theorem d_M_block_74 : decode b_M_block 74 = .ok (.getfield 39, 3) := by decide +kernel
theorem d_M_block_77 : decode b_M_block 77 = .ok (.iload_n 1, 1) := by decide +kernel
theorem d_M_block_78 : decode b_M_block 78 = .ok (.baload, 1) := by decide +kernel
theorem d_M_block_79 : decode b_M_block 79 = .ok (.ifCond .eq 7, 3) := by decide +kernel
theorem d_M_block_82 : decode b_M_block 82 = .ok (.iconst 1, 1) := by decide +kernel
theorem d_M_block_83 : decode b_M_block 83 = .ok (.goto 4, 3) := by decide +kernel
theorem d_M_block_86 : decode b_M_block 86 = .ok (.iconst 0, 1) := by decide +kernel
theorem d_M_block_87 : decode b_M_block 87 = .ok (.ireturn, 1) := by decide +kernel
theorem d_M_block_88 : decode b_M_block 88 = .ok (.aload_n 0, 1) := by decide +kernel
theorem d_M_block_89 : decode b_M_block 89 = .ok (.getfield 67, 3) := by decide +kernel
theorem d_M_block_92 : decode b_M_block 92 = .ok (.iload_n 1, 1) := by decide +kernel
theorem d_M_block_93 : decode b_M_block 93 = .ok (.baload, 1) := by decide +kernel
theorem d_M_block_94 : decode b_M_block 94 = .ok (.ifCond .eq 7, 3) := by decide +kernel
theorem d_M_block_97 : decode b_M_block 97 = .ok (.iconst 1, 1) := by decide +kernel
theorem d_M_block_98 : decode b_M_block 98 = .ok (.goto 4, 3) := by decide +kernel
theorem d_M_block_101 : decode b_M_block 101 = .ok (.iconst 0, 1) := by decide +kernel
theorem d_M_block_102 : decode b_M_block 102 = .ok (.aload_n 0, 1) := by decide +kernel
theorem d_M_block_103 : decode b_M_block 103 = .ok (.getfield 67, 3) := by decide +kernel
theorem d_M_block_106 : decode b_M_block 106 = .ok (.bipush 100, 2) := by decide +kernel
theorem d_M_block_108 : decode b_M_block 108 = .ok (.iload_n 1, 1) := by decide +kernel
theorem d_M_block_109 : decode b_M_block 109 = .ok (.iadd, 1) := by decide +kernel
theorem d_M_block_110 : decode b_M_block 110 = .ok (.baload, 1) := by decide +kernel
theorem d_M_block_111 : decode b_M_block 111 = .ok (.ifCond .eq 7, 3) := by decide +kernel
theorem d_M_block_114 : decode b_M_block 114 = .ok (.iconst 2, 1) := by decide +kernel
theorem d_M_block_115 : decode b_M_block 115 = .ok (.goto 4, 3) := by decide +kernel
theorem d_M_block_118 : decode b_M_block 118 = .ok (.iconst 0, 1) := by decide +kernel
theorem d_M_block_119 : decode b_M_block 119 = .ok (.iadd, 1) := by decide +kernel
theorem d_M_block_120 : decode b_M_block 120 = .ok (.aload_n 0, 1) := by decide +kernel
theorem d_M_block_121 : decode b_M_block 121 = .ok (.getfield 67, 3) := by decide +kernel
theorem d_M_block_124 : decode b_M_block 124 = .ok (.sipush 200, 3) := by decide +kernel
theorem d_M_block_127 : decode b_M_block 127 = .ok (.iload_n 1, 1) := by decide +kernel
theorem d_M_block_128 : decode b_M_block 128 = .ok (.iadd, 1) := by decide +kernel
theorem d_M_block_129 : decode b_M_block 129 = .ok (.baload, 1) := by decide +kernel
theorem d_M_block_130 : decode b_M_block 130 = .ok (.ifCond .eq 7, 3) := by decide +kernel
theorem d_M_block_133 : decode b_M_block 133 = .ok (.iconst 4, 1) := by decide +kernel
theorem d_M_block_134 : decode b_M_block 134 = .ok (.goto 4, 3) := by decide +kernel
theorem d_M_block_137 : decode b_M_block 137 = .ok (.iconst 0, 1) := by decide +kernel
theorem d_M_block_138 : decode b_M_block 138 = .ok (.iadd, 1) := by decide +kernel
theorem d_M_block_139 : decode b_M_block 139 = .ok (.aload_n 0, 1) := by decide +kernel
theorem d_M_block_140 : decode b_M_block 140 = .ok (.getfield 67, 3) := by decide +kernel
theorem d_M_block_143 : decode b_M_block 143 = .ok (.sipush 300, 3) := by decide +kernel
theorem d_M_block_146 : decode b_M_block 146 = .ok (.iload_n 1, 1) := by decide +kernel
theorem d_M_block_147 : decode b_M_block 147 = .ok (.iadd, 1) := by decide +kernel
theorem d_M_block_148 : decode b_M_block 148 = .ok (.baload, 1) := by decide +kernel
theorem d_M_block_149 : decode b_M_block 149 = .ok (.ifCond .eq 8, 3) := by decide +kernel
theorem d_M_block_152 : decode b_M_block 152 = .ok (.bipush 8, 2) := by decide +kernel
theorem d_M_block_154 : decode b_M_block 154 = .ok (.goto 4, 3) := by decide +kernel
theorem d_M_block_157 : decode b_M_block 157 = .ok (.iconst 0, 1) := by decide +kernel
theorem d_M_block_158 : decode b_M_block 158 = .ok (.iadd, 1) := by decide +kernel
theorem d_M_block_159 : decode b_M_block 159 = .ok (.ireturn, 1) := by decide +kernel
theorem d_M_block_160 : decode b_M_block 160 = .ok (.iconst (-1), 1) := by decide +kernel
theorem d_M_block_161 : decode b_M_block 161 = .ok (.ireturn, 1) := by decide +kernel
def f_M_block_138 (a1 : Int32) (a2 : Int32) (S : St) (t0 : Int32) (t1 : Int32) : Int32 × St :=
  if (S.1 19 0 0 ((300 : Int32) + a1).toNatClampNeg) = 0 then
    ((t1 + t0) + (0 : Int32), S)
  else
    ((t1 + t0) + (8 : Int32), S)
def ok_M_block_138 (a1 : Int32) (a2 : Int32) (S : St) (t0 : Int32) (t1 : Int32) : Prop :=
  (vp_in ((300 : Int32) + a1) 400) ∧ (
    True)
set_option maxHeartbeats 4000000 in
set_option maxRecDepth 100000 in
theorem w_M_block_138 {l : Launch} {D : va_G} {X : va_W} {ad : N3 → Nat} {ca : Nat → ClassId} (a1 : Int32) (a2 : Int32)  {p : Program} {e : Env} {s : State} {m : MethodId} {below : List Frame} {meth : Method} {c : Code} {A : Nat → Prop} (hy : Hy p s m ([.ref (ad (1, 0, 0)), .int a1, .int a2] : List Value).toArray meth c b_M_block 3 (some .int) R_M GG D clM (tysM ca) nwM) (hA : ∀ q, s.heap.size ≤ q → A q) {res : Int32 × St} : ∀  (S : St) (t0 : Int32) (t1 : Int32) , ok_M_block_138 a1 a2 S t0 t1 → f_M_block_138 a1 a2 S t0 t1 = res → ∀ (H : Heap) (locs : List Loc) (ls : Array Slot), Wd D clM A s.heap (zw X ad TM (cfM ad ca) S) H locs → lv_has ls 3 [(0, .ref (ad (1, 0, 0))), (1, .int a1)] → W p l e { frames := 1, cells := 0, slots := 0, locals := 21 } s m ([.ref (ad (1, 0, 0)), .int a1, .int a2] : List Value).toArray below meth c H locs 0 0 (MQ below (eI D clM X ad TM (cfM ad ca) A res) ([.ref (ad (1, 0, 0)), .int a1, .int a2] : List Value).toArray s 0 0 A) (F0 m 138 ls [.int t0, .int t1]) := by
  have hF := hy.1
  have hx := hF.1
  have hb := hF.2.1
  have hK := hy.2.2.2
  intro S t0 t1 hk hr H locs ls hW hl
  refine lv_iadd (pc := 138) hx hb d_M_block_138 ?_
  refine lv_aload_n (pc := 139) hx hb d_M_block_139 rfl (lv_at hl 0 rfl) ?_
  refine z_get (pc := 140) (v := .ref (ad (19, 0, 0))) hF hK.1 hW tm1 rfl rfl in_M 24 (by decide) gw_908 rfl rfl d_M_block_140 ?_
  refine lv_sipush (pc := 143) (v := 300) hx hb d_M_block_143 (by decide) ?_
  refine lv_iload_n (pc := 146) hx hb d_M_block_146 rfl (lv_at hl 1 rfl) ?_
  refine lv_iadd (pc := 147) hx hb d_M_block_147 ?_
  have b20 := hk.1
  have hk := hk.2
  refine z_zald (pc := 148) (v := S.1 19 0 0 ((300 : Int32) + a1).toNatClampNeg) hF hK.1 hW tm19 2 rfl rfl b20 rfl d_M_block_148 ?_
  refine lv_if_eq (pc := 149) (tgt := 157) hx hb d_M_block_149 (by decide) (fun c21 => ?_) (fun c21 => ?_)
  · have hr := (if_pos c21).symm.trans hr
    refine lv_iconst (pc := 157) (v := 0) hx hb d_M_block_157 (by decide) ?_
    refine lv_iadd (pc := 158) hx hb d_M_block_158 ?_
    exact z_iret (v := (t1 + t0) + (0 : Int32)) hy hW hr.symm d_M_block_159
  · have hr := (if_neg c21).symm.trans hr
    refine lv_bipush (pc := 152) (v := 8) hx hb d_M_block_152 (by decide) ?_
    refine lv_goto (pc := 154) (tgt := 158) hx hb d_M_block_154 (by decide) ?_
    refine lv_iadd (pc := 158) hx hb d_M_block_158 ?_
    exact z_iret (v := (t1 + t0) + (8 : Int32)) hy hW hr.symm d_M_block_159
def f_M_block_119 (a1 : Int32) (a2 : Int32) (S : St) (t0 : Int32) (t1 : Int32) : Int32 × St :=
  if (S.1 19 0 0 ((200 : Int32) + a1).toNatClampNeg) = 0 then
    f_M_block_138 a1 a2 S (0 : Int32) (t1 + t0)
  else
    f_M_block_138 a1 a2 S (4 : Int32) (t1 + t0)
def ok_M_block_119 (a1 : Int32) (a2 : Int32) (S : St) (t0 : Int32) (t1 : Int32) : Prop :=
  (vp_in ((200 : Int32) + a1) 400) ∧ (
    ((S.1 19 0 0 ((200 : Int32) + a1).toNatClampNeg) = 0 → (
      ok_M_block_138 a1 a2 S (0 : Int32) (t1 + t0))) ∧ (¬ ((S.1 19 0 0 ((200 : Int32) + a1).toNatClampNeg) = 0) → (
      ok_M_block_138 a1 a2 S (4 : Int32) (t1 + t0))))
set_option maxHeartbeats 4000000 in
set_option maxRecDepth 100000 in
theorem w_M_block_119 {l : Launch} {D : va_G} {X : va_W} {ad : N3 → Nat} {ca : Nat → ClassId} (a1 : Int32) (a2 : Int32)  {p : Program} {e : Env} {s : State} {m : MethodId} {below : List Frame} {meth : Method} {c : Code} {A : Nat → Prop} (hy : Hy p s m ([.ref (ad (1, 0, 0)), .int a1, .int a2] : List Value).toArray meth c b_M_block 3 (some .int) R_M GG D clM (tysM ca) nwM) (hA : ∀ q, s.heap.size ≤ q → A q) {res : Int32 × St} : ∀  (S : St) (t0 : Int32) (t1 : Int32) , ok_M_block_119 a1 a2 S t0 t1 → f_M_block_119 a1 a2 S t0 t1 = res → ∀ (H : Heap) (locs : List Loc) (ls : Array Slot), Wd D clM A s.heap (zw X ad TM (cfM ad ca) S) H locs → lv_has ls 3 [(0, .ref (ad (1, 0, 0))), (1, .int a1)] → W p l e { frames := 1, cells := 0, slots := 0, locals := 21 } s m ([.ref (ad (1, 0, 0)), .int a1, .int a2] : List Value).toArray below meth c H locs 0 0 (MQ below (eI D clM X ad TM (cfM ad ca) A res) ([.ref (ad (1, 0, 0)), .int a1, .int a2] : List Value).toArray s 0 0 A) (F0 m 119 ls [.int t0, .int t1]) := by
  have hF := hy.1
  have hx := hF.1
  have hb := hF.2.1
  have hK := hy.2.2.2
  intro S t0 t1 hk hr H locs ls hW hl
  refine lv_iadd (pc := 119) hx hb d_M_block_119 ?_
  refine lv_aload_n (pc := 120) hx hb d_M_block_120 rfl (lv_at hl 0 rfl) ?_
  refine z_get (pc := 121) (v := .ref (ad (19, 0, 0))) hF hK.1 hW tm1 rfl rfl in_M 24 (by decide) gw_908 rfl rfl d_M_block_121 ?_
  refine lv_sipush (pc := 124) (v := 200) hx hb d_M_block_124 (by decide) ?_
  refine lv_iload_n (pc := 127) hx hb d_M_block_127 rfl (lv_at hl 1 rfl) ?_
  refine lv_iadd (pc := 128) hx hb d_M_block_128 ?_
  have b18 := hk.1
  have hk := hk.2
  refine z_zald (pc := 129) (v := S.1 19 0 0 ((200 : Int32) + a1).toNatClampNeg) hF hK.1 hW tm19 2 rfl rfl b18 rfl d_M_block_129 ?_
  refine lv_if_eq (pc := 130) (tgt := 137) hx hb d_M_block_130 (by decide) (fun c19 => ?_) (fun c19 => ?_)
  · have hk := hk.1 c19
    have hr := (if_pos c19).symm.trans hr
    refine lv_iconst (pc := 137) (v := 0) hx hb d_M_block_137 (by decide) ?_
    exact w_M_block_138 a1 a2 hy hA S (0 : Int32) (t1 + t0) hk hr _ _ _ hW (lv_sub hl [0, 1] rfl)
  · have hk := hk.2 c19
    have hr := (if_neg c19).symm.trans hr
    refine lv_iconst (pc := 133) (v := 4) hx hb d_M_block_133 (by decide) ?_
    refine lv_goto (pc := 134) (tgt := 138) hx hb d_M_block_134 (by decide) ?_
    exact w_M_block_138 a1 a2 hy hA S (4 : Int32) (t1 + t0) hk hr _ _ _ hW (lv_sub hl [0, 1] rfl)
def f_M_block_102 (a1 : Int32) (a2 : Int32) (S : St) (t0 : Int32) : Int32 × St :=
  if (S.1 19 0 0 ((100 : Int32) + a1).toNatClampNeg) = 0 then
    f_M_block_119 a1 a2 S (0 : Int32) t0
  else
    f_M_block_119 a1 a2 S (2 : Int32) t0
def ok_M_block_102 (a1 : Int32) (a2 : Int32) (S : St) (t0 : Int32) : Prop :=
  (vp_in ((100 : Int32) + a1) 400) ∧ (
    ((S.1 19 0 0 ((100 : Int32) + a1).toNatClampNeg) = 0 → (
      ok_M_block_119 a1 a2 S (0 : Int32) t0)) ∧ (¬ ((S.1 19 0 0 ((100 : Int32) + a1).toNatClampNeg) = 0) → (
      ok_M_block_119 a1 a2 S (2 : Int32) t0)))
set_option maxHeartbeats 4000000 in
set_option maxRecDepth 100000 in
theorem w_M_block_102 {l : Launch} {D : va_G} {X : va_W} {ad : N3 → Nat} {ca : Nat → ClassId} (a1 : Int32) (a2 : Int32)  {p : Program} {e : Env} {s : State} {m : MethodId} {below : List Frame} {meth : Method} {c : Code} {A : Nat → Prop} (hy : Hy p s m ([.ref (ad (1, 0, 0)), .int a1, .int a2] : List Value).toArray meth c b_M_block 3 (some .int) R_M GG D clM (tysM ca) nwM) (hA : ∀ q, s.heap.size ≤ q → A q) {res : Int32 × St} : ∀  (S : St) (t0 : Int32) , ok_M_block_102 a1 a2 S t0 → f_M_block_102 a1 a2 S t0 = res → ∀ (H : Heap) (locs : List Loc) (ls : Array Slot), Wd D clM A s.heap (zw X ad TM (cfM ad ca) S) H locs → lv_has ls 3 [(0, .ref (ad (1, 0, 0))), (1, .int a1)] → W p l e { frames := 1, cells := 0, slots := 0, locals := 21 } s m ([.ref (ad (1, 0, 0)), .int a1, .int a2] : List Value).toArray below meth c H locs 0 0 (MQ below (eI D clM X ad TM (cfM ad ca) A res) ([.ref (ad (1, 0, 0)), .int a1, .int a2] : List Value).toArray s 0 0 A) (F0 m 102 ls [.int t0]) := by
  have hF := hy.1
  have hx := hF.1
  have hb := hF.2.1
  have hK := hy.2.2.2
  intro S t0 hk hr H locs ls hW hl
  refine lv_aload_n (pc := 102) hx hb d_M_block_102 rfl (lv_at hl 0 rfl) ?_
  refine z_get (pc := 103) (v := .ref (ad (19, 0, 0))) hF hK.1 hW tm1 rfl rfl in_M 24 (by decide) gw_908 rfl rfl d_M_block_103 ?_
  refine lv_bipush (pc := 106) (v := 100) hx hb d_M_block_106 (by decide) ?_
  refine lv_iload_n (pc := 108) hx hb d_M_block_108 rfl (lv_at hl 1 rfl) ?_
  refine lv_iadd (pc := 109) hx hb d_M_block_109 ?_
  have b16 := hk.1
  have hk := hk.2
  refine z_zald (pc := 110) (v := S.1 19 0 0 ((100 : Int32) + a1).toNatClampNeg) hF hK.1 hW tm19 2 rfl rfl b16 rfl d_M_block_110 ?_
  refine lv_if_eq (pc := 111) (tgt := 118) hx hb d_M_block_111 (by decide) (fun c17 => ?_) (fun c17 => ?_)
  · have hk := hk.1 c17
    have hr := (if_pos c17).symm.trans hr
    refine lv_iconst (pc := 118) (v := 0) hx hb d_M_block_118 (by decide) ?_
    exact w_M_block_119 a1 a2 hy hA S (0 : Int32) t0 hk hr _ _ _ hW (lv_sub hl [0, 1] rfl)
  · have hk := hk.2 c17
    have hr := (if_neg c17).symm.trans hr
    refine lv_iconst (pc := 114) (v := 2) hx hb d_M_block_114 (by decide) ?_
    refine lv_goto (pc := 115) (tgt := 119) hx hb d_M_block_115 (by decide) ?_
    exact w_M_block_119 a1 a2 hy hA S (2 : Int32) t0 hk hr _ _ _ hW (lv_sub hl [0, 1] rfl)
def f_M_block (a1 : Int32) (a2 : Int32) (S : St) : Int32 × St :=
  lt (si S 1 0 0 1 (0 : Int32)) fun (S1 : St) =>
  lt (f_M_isBlock a1 S1) fun (r2 : Int32) =>
  if r2 = 0 then
    ((-1 : Int32), S1)
  else
    if a2 = (0 : Int32) then
      (S1.1 7 0 0 a1.toNatClampNeg, S1)
    else
      if a2 = (1 : Int32) then
        (S1.1 8 0 0 a1.toNatClampNeg, S1)
      else
        if a2 = (2 : Int32) then
          (S1.1 9 0 0 a1.toNatClampNeg, S1)
        else
          if a2 = (3 : Int32) then
            if (S1.1 10 0 0 a1.toNatClampNeg) = 0 then
              ((0 : Int32), S1)
            else
              ((1 : Int32), S1)
          else
            if a2 = (4 : Int32) then
              if (S1.1 19 0 0 a1.toNatClampNeg) = 0 then
                f_M_block_102 a1 a2 S1 (0 : Int32)
              else
                f_M_block_102 a1 a2 S1 (1 : Int32)
            else
              ((-1 : Int32), S1)
def ok_M_block (a1 : Int32) (a2 : Int32) (S : St) : Prop :=
  lt (si S 1 0 0 1 (0 : Int32)) fun (S1 : St) =>
  lt (f_M_isBlock a1 S1) fun (r2 : Int32) =>
  (r2 = 0 → (
    True)) ∧ (¬ (r2 = 0) → (
    (a2 = (0 : Int32) → (
      (vp_in a1 100) ∧ (
        True))) ∧ (¬ (a2 = (0 : Int32)) → (
      (a2 = (1 : Int32) → (
        (vp_in a1 100) ∧ (
          True))) ∧ (¬ (a2 = (1 : Int32)) → (
        (a2 = (2 : Int32) → (
          (vp_in a1 100) ∧ (
            True))) ∧ (¬ (a2 = (2 : Int32)) → (
          (a2 = (3 : Int32) → (
            (vp_in a1 100) ∧ (
              True))) ∧ (¬ (a2 = (3 : Int32)) → (
            (a2 = (4 : Int32) → (
              (vp_in a1 400) ∧ (
                ((S1.1 19 0 0 a1.toNatClampNeg) = 0 → (
                  ok_M_block_102 a1 a2 S1 (0 : Int32))) ∧ (¬ ((S1.1 19 0 0 a1.toNatClampNeg) = 0) → (
                  ok_M_block_102 a1 a2 S1 (1 : Int32)))))) ∧ (¬ (a2 = (4 : Int32)) → (
              True))))))))))))
set_option maxHeartbeats 4000000 in
set_option maxRecDepth 100000 in
theorem c_M_block (l : Launch) (D : va_G) (X : va_W) (ad : N3 → Nat) (ca : Nat → ClassId) (a1 : Int32) (a2 : Int32)  (S : St) (hk : ok_M_block a1 a2 S) : cI l GG D clM (tysM ca) nwM X ad TM (cfM ad ca) y_M_block b_M_block 3 .int 1 21 [.ref (ad (1, 0, 0)), .int a1, .int a2] S (f_M_block a1 a2 S) := by
  generalize hr : f_M_block a1 a2 S = res
  refine zI_of pn_M (Nat.le_of_ble_eq_true rfl) (fun p e s m below meth c A ls hy hW hA hl => ?_)
  have hF := hy.1
  have hx := hF.1
  have hb := hF.2.1
  have hK := hy.2.2.2
  have hl : lv_has ls 3 [(0, .ref (ad (1, 0, 0))), (1, .int a1), (2, .int a2)] := hl
  refine lv_aload_n (pc := 0) hx hb d_M_block_0 rfl (lv_at hl 0 rfl) ?_
  refine lv_iconst (pc := 1) (v := 0) hx hb d_M_block_1 (by decide) ?_
  obtain ⟨S1, eS1⟩ : ∃ z : St, z = si S 1 0 0 1 (0 : Int32) := ⟨_, rfl⟩
  have hk := lt_p eS1 hk
  have hr := lt_e eS1 hr
  refine z_put (pc := 2) (S' := S1) hF hK.1 hW tm1 rfl rfl in_M t_M tyo_M nmo_M 1 (by decide) gw_885 rfl rfl rfl rfl rfl (Nat.le_of_ble_eq_true rfl) (zs_si eS1 rfl) (zs_sio eS1) d_M_block_2 (fun H locs (hW : Wd D clM A s.heap (zw X ad TM (cfM ad ca) S1) H locs) => ?_)
  refine lv_aload_n (pc := 5) hx hb d_M_block_5 rfl (lv_at hl 0 rfl) ?_
  refine lv_iload_n (pc := 6) hx hb d_M_block_6 rfl (lv_at hl 1 rfl) ?_
  obtain ⟨r2, er2⟩ : ∃ z : Int32, z = f_M_isBlock a1 S1 := ⟨_, rfl⟩
  have hk := lt_p er2 hk
  have hr := lt_e er2 hr
  refine p_go (pc := 7) (congrArg Value.int er2) (p_runV hF hK hW (c_M_isBlock l D X ad ca a1 S1 _) cd_M_isBlock gw_1141 tm1 rfl rfl ⟨Nat.le_of_ble_eq_true rfl, Nat.le_of_ble_eq_true rfl⟩ ⟨Nat.zero_le _, Nat.zero_le _⟩ rfl rfl hl.1 (Nat.le_of_ble_eq_true rfl) d_M_block_7) ?_
  refine lv_if_ne (pc := 10) (tgt := 15) hx hb d_M_block_10 (by decide) (fun c3 => ?_) (fun c3 => ?_)
  · have hk := hk.2 c3
    have hr := (if_neg c3).symm.trans hr
    refine lv_iload_n (pc := 15) hx hb d_M_block_15 rfl (lv_at hl 2 rfl) ?_
    by_cases c4 : a2 = (0 : Int32)
    · have hk := hk.1 c4
      have hr := (if_pos c4).symm.trans hr
      refine lv_tableIn (pc := 16) (tgt := 52) (off := 36) hx hb d_M_block_16 (by (rw [c4]) <;> decide) (by (rw [c4]) <;> decide) (by (rw [c4]) <;> rfl) (by decide) ?_
      refine lv_aload_n (pc := 52) hx hb d_M_block_52 rfl (lv_at hl 0 rfl) ?_
      refine z_get (pc := 53) (v := .ref (ad (7, 0, 0))) hF hK.1 hW tm1 rfl rfl in_M 12 (by decide) gw_896 rfl rfl d_M_block_53 ?_
      refine lv_iload_n (pc := 56) hx hb d_M_block_56 rfl (lv_at hl 1 rfl) ?_
      have b5 := hk.1
      have hk := hk.2
      refine z_iald (pc := 57) (v := S1.1 7 0 0 a1.toNatClampNeg) hF hK.1 hW tm7 0 rfl rfl b5 rfl d_M_block_57 ?_
      exact z_iret (v := S1.1 7 0 0 a1.toNatClampNeg) hy hW hr.symm d_M_block_58
    · have hk := hk.2 c4
      have hr := (if_neg c4).symm.trans hr
      by_cases c6 : a2 = (1 : Int32)
      · have hk := hk.1 c6
        have hr := (if_pos c6).symm.trans hr
        refine lv_tableIn (pc := 16) (tgt := 59) (off := 43) hx hb d_M_block_16 (by (rw [c6]) <;> decide) (by (rw [c6]) <;> decide) (by (rw [c6]) <;> rfl) (by decide) ?_
        refine lv_aload_n (pc := 59) hx hb d_M_block_59 rfl (lv_at hl 0 rfl) ?_
        refine z_get (pc := 60) (v := .ref (ad (8, 0, 0))) hF hK.1 hW tm1 rfl rfl in_M 13 (by decide) gw_897 rfl rfl d_M_block_60 ?_
        refine lv_iload_n (pc := 63) hx hb d_M_block_63 rfl (lv_at hl 1 rfl) ?_
        have b7 := hk.1
        have hk := hk.2
        refine z_iald (pc := 64) (v := S1.1 8 0 0 a1.toNatClampNeg) hF hK.1 hW tm8 0 rfl rfl b7 rfl d_M_block_64 ?_
        exact z_iret (v := S1.1 8 0 0 a1.toNatClampNeg) hy hW hr.symm d_M_block_65
      · have hk := hk.2 c6
        have hr := (if_neg c6).symm.trans hr
        by_cases c8 : a2 = (2 : Int32)
        · have hk := hk.1 c8
          have hr := (if_pos c8).symm.trans hr
          refine lv_tableIn (pc := 16) (tgt := 66) (off := 50) hx hb d_M_block_16 (by (rw [c8]) <;> decide) (by (rw [c8]) <;> decide) (by (rw [c8]) <;> rfl) (by decide) ?_
          refine lv_aload_n (pc := 66) hx hb d_M_block_66 rfl (lv_at hl 0 rfl) ?_
          refine z_get (pc := 67) (v := .ref (ad (9, 0, 0))) hF hK.1 hW tm1 rfl rfl in_M 14 (by decide) gw_898 rfl rfl d_M_block_67 ?_
          refine lv_iload_n (pc := 70) hx hb d_M_block_70 rfl (lv_at hl 1 rfl) ?_
          have b9 := hk.1
          have hk := hk.2
          refine z_iald (pc := 71) (v := S1.1 9 0 0 a1.toNatClampNeg) hF hK.1 hW tm9 0 rfl rfl b9 rfl d_M_block_71 ?_
          exact z_iret (v := S1.1 9 0 0 a1.toNatClampNeg) hy hW hr.symm d_M_block_72
        · have hk := hk.2 c8
          have hr := (if_neg c8).symm.trans hr
          by_cases c10 : a2 = (3 : Int32)
          · have hk := hk.1 c10
            have hr := (if_pos c10).symm.trans hr
            refine lv_tableIn (pc := 16) (tgt := 73) (off := 57) hx hb d_M_block_16 (by (rw [c10]) <;> decide) (by (rw [c10]) <;> decide) (by (rw [c10]) <;> rfl) (by decide) ?_
            refine lv_aload_n (pc := 73) hx hb d_M_block_73 rfl (lv_at hl 0 rfl) ?_
            refine z_get (pc := 74) (v := .ref (ad (10, 0, 0))) hF hK.1 hW tm1 rfl rfl in_M 15 (by decide) gw_899 rfl rfl d_M_block_74 ?_
            refine lv_iload_n (pc := 77) hx hb d_M_block_77 rfl (lv_at hl 1 rfl) ?_
            have b11 := hk.1
            have hk := hk.2
            refine z_zald (pc := 78) (v := S1.1 10 0 0 a1.toNatClampNeg) hF hK.1 hW tm10 2 rfl rfl b11 rfl d_M_block_78 ?_
            refine lv_if_eq (pc := 79) (tgt := 86) hx hb d_M_block_79 (by decide) (fun c12 => ?_) (fun c12 => ?_)
            · have hr := (if_pos c12).symm.trans hr
              refine lv_iconst (pc := 86) (v := 0) hx hb d_M_block_86 (by decide) ?_
              exact z_iret (v := (0 : Int32)) hy hW hr.symm d_M_block_87
            · have hr := (if_neg c12).symm.trans hr
              refine lv_iconst (pc := 82) (v := 1) hx hb d_M_block_82 (by decide) ?_
              refine lv_goto (pc := 83) (tgt := 87) hx hb d_M_block_83 (by decide) ?_
              exact z_iret (v := (1 : Int32)) hy hW hr.symm d_M_block_87
          · have hk := hk.2 c10
            have hr := (if_neg c10).symm.trans hr
            by_cases c13 : a2 = (4 : Int32)
            · have hk := hk.1 c13
              have hr := (if_pos c13).symm.trans hr
              refine lv_tableIn (pc := 16) (tgt := 88) (off := 72) hx hb d_M_block_16 (by (rw [c13]) <;> decide) (by (rw [c13]) <;> decide) (by (rw [c13]) <;> rfl) (by decide) ?_
              refine lv_aload_n (pc := 88) hx hb d_M_block_88 rfl (lv_at hl 0 rfl) ?_
              refine z_get (pc := 89) (v := .ref (ad (19, 0, 0))) hF hK.1 hW tm1 rfl rfl in_M 24 (by decide) gw_908 rfl rfl d_M_block_89 ?_
              refine lv_iload_n (pc := 92) hx hb d_M_block_92 rfl (lv_at hl 1 rfl) ?_
              have b14 := hk.1
              have hk := hk.2
              refine z_zald (pc := 93) (v := S1.1 19 0 0 a1.toNatClampNeg) hF hK.1 hW tm19 2 rfl rfl b14 rfl d_M_block_93 ?_
              refine lv_if_eq (pc := 94) (tgt := 101) hx hb d_M_block_94 (by decide) (fun c15 => ?_) (fun c15 => ?_)
              · have hk := hk.1 c15
                have hr := (if_pos c15).symm.trans hr
                refine lv_iconst (pc := 101) (v := 0) hx hb d_M_block_101 (by decide) ?_
                exact w_M_block_102 a1 a2 hy hA S1 (0 : Int32) hk hr _ _ _ hW (lv_sub hl [0, 1] rfl)
              · have hk := hk.2 c15
                have hr := (if_neg c15).symm.trans hr
                refine lv_iconst (pc := 97) (v := 1) hx hb d_M_block_97 (by decide) ?_
                refine lv_goto (pc := 98) (tgt := 102) hx hb d_M_block_98 (by decide) ?_
                exact w_M_block_102 a1 a2 hy hA S1 (1 : Int32) hk hr _ _ _ hW (lv_sub hl [0, 1] rfl)
            · have hk := hk.2 c13
              have hr := (if_neg c13).symm.trans hr
              have ho : a2.toInt < (0 : Int) ∨ (4 : Int) < a2.toInt := z_swl (0) (4) (fun k h1 h2 => by
                rcases (show k = 0 ∨ k = 1 ∨ k = 2 ∨ k = 3 ∨ k = 4 by omega) with rfl | rfl | rfl | rfl | rfl
                · exact lv_neT c4 (by decide)
                · exact lv_neT c6 (by decide)
                · exact lv_neT c8 (by decide)
                · exact lv_neT c10 (by decide)
                · exact lv_neT c13 (by decide))
              refine lv_tableOut (pc := 16) (tgt := 160) hx hb d_M_block_16 ho (by decide) ?_
              refine lv_iconst (pc := 160) (v := -1) hx hb d_M_block_160 (by decide) ?_
              exact z_iret (v := (-1 : Int32)) hy hW hr.symm d_M_block_161
  · have hk := hk.1 c3
    have hr := (if_pos c3).symm.trans hr
    refine lv_iconst (pc := 13) (v := -1) hx hb d_M_block_13 (by decide) ?_
    exact z_iret (v := (-1 : Int32)) hy hW hr.symm d_M_block_14
theorem d_M_message_0 : decode b_M_message 0 = .ok (.aload_n 0, 1) := by decide +kernel
theorem d_M_message_1 : decode b_M_message 1 = .ok (.iconst 0, 1) := by decide +kernel
theorem d_M_message_2 : decode b_M_message 2 = .ok (.putfield 141, 3) := by decide +kernel
theorem d_M_message_5 : decode b_M_message 5 = .ok (.iload_n 1, 1) := by decide +kernel
theorem d_M_message_6 : decode b_M_message 6 = .ok (.invokestatic 231, 3) := by decide +kernel
theorem d_M_message_9 : decode b_M_message 9 = .ok (.ifCond .eq 17, 3) := by decide +kernel
theorem d_M_message_12 : decode b_M_message 12 = .ok (.iload_n 2, 1) := by decide +kernel
theorem d_M_message_13 : decode b_M_message 13 = .ok (.ifCond .lt 13, 3) := by decide +kernel
theorem d_M_message_16 : decode b_M_message 16 = .ok (.iload_n 2, 1) := by decide +kernel
theorem d_M_message_17 : decode b_M_message 17 = .ok (.aload_n 0, 1) := by decide +kernel
theorem d_M_message_18 : decode b_M_message 18 = .ok (.getfield 94, 3) := by decide +kernel
theorem d_M_message_21 : decode b_M_message 21 = .ok (.iload_n 1, 1) := by decide +kernel
theorem d_M_message_22 : decode b_M_message 22 = .ok (.iaload, 1) := by decide +kernel
theorem d_M_message_23 : decode b_M_message 23 = .ok (.if_icmp .lt 5, 3) := by decide +kernel
theorem d_M_message_26 : decode b_M_message 26 = .ok (.iconst (-1), 1) := by decide +kernel
theorem d_M_message_27 : decode b_M_message 27 = .ok (.ireturn, 1) := by decide +kernel
theorem d_M_message_28 : decode b_M_message 28 = .ok (.bipush 16, 2) := by decide +kernel
theorem d_M_message_30 : decode b_M_message 30 = .ok (.iload_n 1, 1) := by decide +kernel
theorem d_M_message_31 : decode b_M_message 31 = .ok (.imul, 1) := by decide +kernel
theorem d_M_message_32 : decode b_M_message 32 = .ok (.iload_n 2, 1) := by decide +kernel
theorem d_M_message_33 : decode b_M_message 33 = .ok (.iadd, 1) := by decide +kernel
theorem d_M_message_34 : decode b_M_message 34 = .ok (.istore 4, 2) := by decide +kernel
theorem d_M_message_36 : decode b_M_message 36 = .ok (.iload_n 3, 1) := by decide +kernel
theorem d_M_message_37 : decode b_M_message 37 = .ok (.tableswitch 75 0 4 #[35, 43, 51, 59, 67], 35) := by decide +kernel
theorem d_M_message_72 : decode b_M_message 72 = .ok (.aload_n 0, 1) := by decide +kernel
theorem d_M_message_73 : decode b_M_message 73 = .ok (.getfield 97, 3) := by decide +kernel
theorem d_M_message_76 : decode b_M_message 76 = .ok (.iload 4, 2) := by decide +kernel
theorem d_M_message_78 : decode b_M_message 78 = .ok (.iaload, 1) := by decide +kernel
theorem d_M_message_79 : decode b_M_message 79 = .ok (.ireturn, 1) := by decide +kernel
theorem d_M_message_80 : decode b_M_message 80 = .ok (.aload_n 0, 1) := by decide +kernel
theorem d_M_message_81 : decode b_M_message 81 = .ok (.getfield 100, 3) := by decide +kernel
theorem d_M_message_84 : decode b_M_message 84 = .ok (.iload 4, 2) := by decide +kernel
theorem d_M_message_86 : decode b_M_message 86 = .ok (.iaload, 1) := by decide +kernel
theorem d_M_message_87 : decode b_M_message 87 = .ok (.ireturn, 1) := by decide +kernel
theorem d_M_message_88 : decode b_M_message 88 = .ok (.aload_n 0, 1) := by decide +kernel
theorem d_M_message_89 : decode b_M_message 89 = .ok (.getfield 103, 3) := by decide +kernel
theorem d_M_message_92 : decode b_M_message 92 = .ok (.iload 4, 2) := by decide +kernel
theorem d_M_message_94 : decode b_M_message 94 = .ok (.iaload, 1) := by decide +kernel
theorem d_M_message_95 : decode b_M_message 95 = .ok (.ireturn, 1) := by decide +kernel
theorem d_M_message_96 : decode b_M_message 96 = .ok (.aload_n 0, 1) := by decide +kernel
theorem d_M_message_97 : decode b_M_message 97 = .ok (.getfield 106, 3) := by decide +kernel
theorem d_M_message_100 : decode b_M_message 100 = .ok (.iload 4, 2) := by decide +kernel
theorem d_M_message_102 : decode b_M_message 102 = .ok (.iaload, 1) := by decide +kernel
theorem d_M_message_103 : decode b_M_message 103 = .ok (.ireturn, 1) := by decide +kernel
theorem d_M_message_104 : decode b_M_message 104 = .ok (.aload_n 0, 1) := by decide +kernel
theorem d_M_message_105 : decode b_M_message 105 = .ok (.getfield 109, 3) := by decide +kernel
theorem d_M_message_108 : decode b_M_message 108 = .ok (.iload 4, 2) := by decide +kernel
theorem d_M_message_110 : decode b_M_message 110 = .ok (.iaload, 1) := by decide +kernel
theorem d_M_message_111 : decode b_M_message 111 = .ok (.ireturn, 1) := by decide +kernel
theorem d_M_message_112 : decode b_M_message 112 = .ok (.iconst (-1), 1) := by decide +kernel
theorem d_M_message_113 : decode b_M_message 113 = .ok (.ireturn, 1) := by decide +kernel
def f_M_message (a1 : Int32) (a2 : Int32) (a3 : Int32) (S : St) : Int32 × St :=
  lt (si S 1 0 0 1 (0 : Int32)) fun (S1 : St) =>
  lt (f_M_isNode a1 S1) fun (r2 : Int32) =>
  if r2 = 0 then
    ((-1 : Int32), S1)
  else
    if a2 < 0 then
      ((-1 : Int32), S1)
    else
      if a2 < (S1.1 28 0 0 a1.toNatClampNeg) then
        if a3 = (0 : Int32) then
          (S1.1 29 0 0 (((16 : Int32) * a1) + a2).toNatClampNeg, S1)
        else
          if a3 = (1 : Int32) then
            (S1.1 30 0 0 (((16 : Int32) * a1) + a2).toNatClampNeg, S1)
          else
            if a3 = (2 : Int32) then
              (S1.1 31 0 0 (((16 : Int32) * a1) + a2).toNatClampNeg, S1)
            else
              if a3 = (3 : Int32) then
                (S1.1 32 0 0 (((16 : Int32) * a1) + a2).toNatClampNeg, S1)
              else
                if a3 = (4 : Int32) then
                  (S1.1 33 0 0 (((16 : Int32) * a1) + a2).toNatClampNeg, S1)
                else
                  ((-1 : Int32), S1)
      else
        ((-1 : Int32), S1)
def ok_M_message (a1 : Int32) (a2 : Int32) (a3 : Int32) (S : St) : Prop :=
  lt (si S 1 0 0 1 (0 : Int32)) fun (S1 : St) =>
  lt (f_M_isNode a1 S1) fun (r2 : Int32) =>
  (r2 = 0 → (
    True)) ∧ (¬ (r2 = 0) → (
    (a2 < 0 → (
      True)) ∧ (¬ (a2 < 0) → (
      (vp_in a1 4) ∧ (
        (a2 < (S1.1 28 0 0 a1.toNatClampNeg) → (
          (a3 = (0 : Int32) → (
            (vp_in (((16 : Int32) * a1) + a2) 64) ∧ (
              True))) ∧ (¬ (a3 = (0 : Int32)) → (
            (a3 = (1 : Int32) → (
              (vp_in (((16 : Int32) * a1) + a2) 64) ∧ (
                True))) ∧ (¬ (a3 = (1 : Int32)) → (
              (a3 = (2 : Int32) → (
                (vp_in (((16 : Int32) * a1) + a2) 64) ∧ (
                  True))) ∧ (¬ (a3 = (2 : Int32)) → (
                (a3 = (3 : Int32) → (
                  (vp_in (((16 : Int32) * a1) + a2) 64) ∧ (
                    True))) ∧ (¬ (a3 = (3 : Int32)) → (
                  (a3 = (4 : Int32) → (
                    (vp_in (((16 : Int32) * a1) + a2) 64) ∧ (
                      True))) ∧ (¬ (a3 = (4 : Int32)) → (
                    True)))))))))))) ∧ (¬ (a2 < (S1.1 28 0 0 a1.toNatClampNeg)) → (
          True)))))))
set_option maxHeartbeats 4000000 in
set_option maxRecDepth 100000 in
theorem c_M_message (l : Launch) (D : va_G) (X : va_W) (ad : N3 → Nat) (ca : Nat → ClassId) (a1 : Int32) (a2 : Int32) (a3 : Int32)  (S : St) (hk : ok_M_message a1 a2 a3 S) : cI l GG D clM (tysM ca) nwM X ad TM (cfM ad ca) y_M_message b_M_message 5 .int 1 20 [.ref (ad (1, 0, 0)), .int a1, .int a2, .int a3] S (f_M_message a1 a2 a3 S) := by
  generalize hr : f_M_message a1 a2 a3 S = res
  refine zI_of pn_M (Nat.le_of_ble_eq_true rfl) (fun p e s m below meth c A ls hy hW hA hl => ?_)
  have hF := hy.1
  have hx := hF.1
  have hb := hF.2.1
  have hK := hy.2.2.2
  have hl : lv_has ls 5 [(0, .ref (ad (1, 0, 0))), (1, .int a1), (2, .int a2), (3, .int a3)] := hl
  refine lv_aload_n (pc := 0) hx hb d_M_message_0 rfl (lv_at hl 0 rfl) ?_
  refine lv_iconst (pc := 1) (v := 0) hx hb d_M_message_1 (by decide) ?_
  obtain ⟨S1, eS1⟩ : ∃ z : St, z = si S 1 0 0 1 (0 : Int32) := ⟨_, rfl⟩
  have hk := lt_p eS1 hk
  have hr := lt_e eS1 hr
  refine z_put (pc := 2) (S' := S1) hF hK.1 hW tm1 rfl rfl in_M t_M tyo_M nmo_M 1 (by decide) gw_885 rfl rfl rfl rfl rfl (Nat.le_of_ble_eq_true rfl) (zs_si eS1 rfl) (zs_sio eS1) d_M_message_2 (fun H locs (hW : Wd D clM A s.heap (zw X ad TM (cfM ad ca) S1) H locs) => ?_)
  refine lv_iload_n (pc := 5) hx hb d_M_message_5 rfl (lv_at hl 1 rfl) ?_
  obtain ⟨r2, er2⟩ : ∃ z : Int32, z = f_M_isNode a1 S1 := ⟨_, rfl⟩
  have hk := lt_p er2 hk
  have hr := lt_e er2 hr
  refine p_go (pc := 6) (congrArg Value.int er2) (p_runS hF hK hW (c_M_isNode l D X ad ca a1 S1 _) cd_M_isNode gw_1022 ⟨Nat.le_of_ble_eq_true rfl, Nat.le_of_ble_eq_true rfl⟩ ⟨Nat.zero_le _, Nat.zero_le _⟩ rfl rfl hl.1 (Nat.le_of_ble_eq_true rfl) d_M_message_6) ?_
  refine lv_if_eq (pc := 9) (tgt := 26) hx hb d_M_message_9 (by decide) (fun c3 => ?_) (fun c3 => ?_)
  · have hk := hk.1 c3
    have hr := (if_pos c3).symm.trans hr
    refine lv_iconst (pc := 26) (v := -1) hx hb d_M_message_26 (by decide) ?_
    exact z_iret (v := (-1 : Int32)) hy hW hr.symm d_M_message_27
  · have hk := hk.2 c3
    have hr := (if_neg c3).symm.trans hr
    refine lv_iload_n (pc := 12) hx hb d_M_message_12 rfl (lv_at hl 2 rfl) ?_
    refine lv_if_lt (pc := 13) (tgt := 26) hx hb d_M_message_13 (by decide) (fun c4 => ?_) (fun c4 => ?_)
    · have hk := hk.1 c4
      have hr := (if_pos c4).symm.trans hr
      refine lv_iconst (pc := 26) (v := -1) hx hb d_M_message_26 (by decide) ?_
      exact z_iret (v := (-1 : Int32)) hy hW hr.symm d_M_message_27
    · have hk := hk.2 c4
      have hr := (if_neg c4).symm.trans hr
      refine lv_iload_n (pc := 16) hx hb d_M_message_16 rfl (lv_at hl 2 rfl) ?_
      refine lv_aload_n (pc := 17) hx hb d_M_message_17 rfl (lv_at hl 0 rfl) ?_
      refine z_get (pc := 18) (v := .ref (ad (28, 0, 0))) hF hK.1 hW tm1 rfl rfl in_M 33 (by decide) gw_917 rfl rfl d_M_message_18 ?_
      refine lv_iload_n (pc := 21) hx hb d_M_message_21 rfl (lv_at hl 1 rfl) ?_
      have b5 := hk.1
      have hk := hk.2
      refine z_iald (pc := 22) (v := S1.1 28 0 0 a1.toNatClampNeg) hF hK.1 hW tm28 0 rfl rfl b5 rfl d_M_message_22 ?_
      refine lv_icmp_lt (pc := 23) (tgt := 28) hx hb d_M_message_23 (by decide) (fun c6 => ?_) (fun c6 => ?_)
      · have hk := hk.1 c6
        have hr := (if_pos c6).symm.trans hr
        refine lv_bipush (pc := 28) (v := 16) hx hb d_M_message_28 (by decide) ?_
        refine lv_iload_n (pc := 30) hx hb d_M_message_30 rfl (lv_at hl 1 rfl) ?_
        refine lv_imul (pc := 31) hx hb d_M_message_31 ?_
        refine lv_iload_n (pc := 32) hx hb d_M_message_32 rfl (lv_at hl 2 rfl) ?_
        refine lv_iadd (pc := 33) hx hb d_M_message_33 ?_
        refine lv_istore (pc := 34) (lv' := [(4, .int (((16 : Int32) * a1) + a2)), (0, .ref (ad (1, 0, 0))), (1, .int a1), (2, .int a2), (3, .int a3)]) hx hb d_M_message_34 hl (by decide) rfl (fun ls hl => ?_)
        refine lv_iload_n (pc := 36) hx hb d_M_message_36 rfl (lv_at hl 4 rfl) ?_
        by_cases c7 : a3 = (0 : Int32)
        · have hk := hk.1 c7
          have hr := (if_pos c7).symm.trans hr
          refine lv_tableIn (pc := 37) (tgt := 72) (off := 35) hx hb d_M_message_37 (by (rw [c7]) <;> decide) (by (rw [c7]) <;> decide) (by (rw [c7]) <;> rfl) (by decide) ?_
          refine lv_aload_n (pc := 72) hx hb d_M_message_72 rfl (lv_at hl 1 rfl) ?_
          refine z_get (pc := 73) (v := .ref (ad (29, 0, 0))) hF hK.1 hW tm1 rfl rfl in_M 34 (by decide) gw_918 rfl rfl d_M_message_73 ?_
          refine lv_iload (pc := 76) hx hb d_M_message_76 (lv_at hl 0 rfl) ?_
          have b8 := hk.1
          have hk := hk.2
          refine z_iald (pc := 78) (v := S1.1 29 0 0 (((16 : Int32) * a1) + a2).toNatClampNeg) hF hK.1 hW tm29 0 rfl rfl b8 rfl d_M_message_78 ?_
          exact z_iret (v := S1.1 29 0 0 (((16 : Int32) * a1) + a2).toNatClampNeg) hy hW hr.symm d_M_message_79
        · have hk := hk.2 c7
          have hr := (if_neg c7).symm.trans hr
          by_cases c9 : a3 = (1 : Int32)
          · have hk := hk.1 c9
            have hr := (if_pos c9).symm.trans hr
            refine lv_tableIn (pc := 37) (tgt := 80) (off := 43) hx hb d_M_message_37 (by (rw [c9]) <;> decide) (by (rw [c9]) <;> decide) (by (rw [c9]) <;> rfl) (by decide) ?_
            refine lv_aload_n (pc := 80) hx hb d_M_message_80 rfl (lv_at hl 1 rfl) ?_
            refine z_get (pc := 81) (v := .ref (ad (30, 0, 0))) hF hK.1 hW tm1 rfl rfl in_M 35 (by decide) gw_919 rfl rfl d_M_message_81 ?_
            refine lv_iload (pc := 84) hx hb d_M_message_84 (lv_at hl 0 rfl) ?_
            have b10 := hk.1
            have hk := hk.2
            refine z_iald (pc := 86) (v := S1.1 30 0 0 (((16 : Int32) * a1) + a2).toNatClampNeg) hF hK.1 hW tm30 0 rfl rfl b10 rfl d_M_message_86 ?_
            exact z_iret (v := S1.1 30 0 0 (((16 : Int32) * a1) + a2).toNatClampNeg) hy hW hr.symm d_M_message_87
          · have hk := hk.2 c9
            have hr := (if_neg c9).symm.trans hr
            by_cases c11 : a3 = (2 : Int32)
            · have hk := hk.1 c11
              have hr := (if_pos c11).symm.trans hr
              refine lv_tableIn (pc := 37) (tgt := 88) (off := 51) hx hb d_M_message_37 (by (rw [c11]) <;> decide) (by (rw [c11]) <;> decide) (by (rw [c11]) <;> rfl) (by decide) ?_
              refine lv_aload_n (pc := 88) hx hb d_M_message_88 rfl (lv_at hl 1 rfl) ?_
              refine z_get (pc := 89) (v := .ref (ad (31, 0, 0))) hF hK.1 hW tm1 rfl rfl in_M 36 (by decide) gw_920 rfl rfl d_M_message_89 ?_
              refine lv_iload (pc := 92) hx hb d_M_message_92 (lv_at hl 0 rfl) ?_
              have b12 := hk.1
              have hk := hk.2
              refine z_iald (pc := 94) (v := S1.1 31 0 0 (((16 : Int32) * a1) + a2).toNatClampNeg) hF hK.1 hW tm31 0 rfl rfl b12 rfl d_M_message_94 ?_
              exact z_iret (v := S1.1 31 0 0 (((16 : Int32) * a1) + a2).toNatClampNeg) hy hW hr.symm d_M_message_95
            · have hk := hk.2 c11
              have hr := (if_neg c11).symm.trans hr
              by_cases c13 : a3 = (3 : Int32)
              · have hk := hk.1 c13
                have hr := (if_pos c13).symm.trans hr
                refine lv_tableIn (pc := 37) (tgt := 96) (off := 59) hx hb d_M_message_37 (by (rw [c13]) <;> decide) (by (rw [c13]) <;> decide) (by (rw [c13]) <;> rfl) (by decide) ?_
                refine lv_aload_n (pc := 96) hx hb d_M_message_96 rfl (lv_at hl 1 rfl) ?_
                refine z_get (pc := 97) (v := .ref (ad (32, 0, 0))) hF hK.1 hW tm1 rfl rfl in_M 37 (by decide) gw_921 rfl rfl d_M_message_97 ?_
                refine lv_iload (pc := 100) hx hb d_M_message_100 (lv_at hl 0 rfl) ?_
                have b14 := hk.1
                have hk := hk.2
                refine z_iald (pc := 102) (v := S1.1 32 0 0 (((16 : Int32) * a1) + a2).toNatClampNeg) hF hK.1 hW tm32 0 rfl rfl b14 rfl d_M_message_102 ?_
                exact z_iret (v := S1.1 32 0 0 (((16 : Int32) * a1) + a2).toNatClampNeg) hy hW hr.symm d_M_message_103
              · have hk := hk.2 c13
                have hr := (if_neg c13).symm.trans hr
                by_cases c15 : a3 = (4 : Int32)
                · have hk := hk.1 c15
                  have hr := (if_pos c15).symm.trans hr
                  refine lv_tableIn (pc := 37) (tgt := 104) (off := 67) hx hb d_M_message_37 (by (rw [c15]) <;> decide) (by (rw [c15]) <;> decide) (by (rw [c15]) <;> rfl) (by decide) ?_
                  refine lv_aload_n (pc := 104) hx hb d_M_message_104 rfl (lv_at hl 1 rfl) ?_
                  refine z_get (pc := 105) (v := .ref (ad (33, 0, 0))) hF hK.1 hW tm1 rfl rfl in_M 38 (by decide) gw_922 rfl rfl d_M_message_105 ?_
                  refine lv_iload (pc := 108) hx hb d_M_message_108 (lv_at hl 0 rfl) ?_
                  have b16 := hk.1
                  have hk := hk.2
                  refine z_iald (pc := 110) (v := S1.1 33 0 0 (((16 : Int32) * a1) + a2).toNatClampNeg) hF hK.1 hW tm33 0 rfl rfl b16 rfl d_M_message_110 ?_
                  exact z_iret (v := S1.1 33 0 0 (((16 : Int32) * a1) + a2).toNatClampNeg) hy hW hr.symm d_M_message_111
                · have hk := hk.2 c15
                  have hr := (if_neg c15).symm.trans hr
                  have ho : a3.toInt < (0 : Int) ∨ (4 : Int) < a3.toInt := z_swl (0) (4) (fun k h1 h2 => by
                    rcases (show k = 0 ∨ k = 1 ∨ k = 2 ∨ k = 3 ∨ k = 4 by omega) with rfl | rfl | rfl | rfl | rfl
                    · exact lv_neT c7 (by decide)
                    · exact lv_neT c9 (by decide)
                    · exact lv_neT c11 (by decide)
                    · exact lv_neT c13 (by decide)
                    · exact lv_neT c15 (by decide))
                  refine lv_tableOut (pc := 37) (tgt := 112) hx hb d_M_message_37 ho (by decide) ?_
                  refine lv_iconst (pc := 112) (v := -1) hx hb d_M_message_112 (by decide) ?_
                  exact z_iret (v := (-1 : Int32)) hy hW hr.symm d_M_message_113
      · have hk := hk.2 c6
        have hr := (if_neg c6).symm.trans hr
        refine lv_iconst (pc := 26) (v := -1) hx hb d_M_message_26 (by decide) ?_
        exact z_iret (v := (-1 : Int32)) hy hW hr.symm d_M_message_27
theorem d_M_root_0 : decode b_M_root 0 = .ok (.aload_n 0, 1) := by decide +kernel
theorem d_M_root_1 : decode b_M_root 1 = .ok (.iconst 0, 1) := by decide +kernel
theorem d_M_root_2 : decode b_M_root 2 = .ok (.putfield 141, 3) := by decide +kernel
theorem d_M_root_5 : decode b_M_root 5 = .ok (.iload_n 1, 1) := by decide +kernel
theorem d_M_root_6 : decode b_M_root 6 = .ok (.invokestatic 231, 3) := by decide +kernel
theorem d_M_root_9 : decode b_M_root 9 = .ok (.ifCond .eq 17, 3) := by decide +kernel
theorem d_M_root_12 : decode b_M_root 12 = .ok (.aload_n 0, 1) := by decide +kernel
theorem d_M_root_13 : decode b_M_root 13 = .ok (.getfield 7, 3) := by decide +kernel
theorem d_M_root_16 : decode b_M_root 16 = .ok (.bipush 64, 2) := by decide +kernel
theorem d_M_root_18 : decode b_M_root 18 = .ok (.iload_n 1, 1) := by decide +kernel
theorem d_M_root_19 : decode b_M_root 19 = .ok (.imul, 1) := by decide +kernel
theorem d_M_root_20 : decode b_M_root 20 = .ok (.iconst 1, 1) := by decide +kernel
theorem d_M_root_21 : decode b_M_root 21 = .ok (.iadd, 1) := by decide +kernel
theorem d_M_root_22 : decode b_M_root 22 = .ok (.laload, 1) := by decide +kernel
theorem d_M_root_23 : decode b_M_root 23 = .ok (.goto 4, 3) := by decide +kernel
theorem d_M_root_26 : decode b_M_root 26 = .ok (.lconst 0, 1) := by decide +kernel
theorem d_M_root_27 : decode b_M_root 27 = .ok (.lreturn, 1) := by decide +kernel
def f_M_root (a1 : Int32) (S : St) : Int64 × St :=
  lt (si S 1 0 0 1 (0 : Int32)) fun (S1 : St) =>
  lt (f_M_isNode a1 S1) fun (r2 : Int32) =>
  if r2 = 0 then
    ((0 : Int64), S1)
  else
    (S1.2.1 2 0 0 (((64 : Int32) * a1) + (1 : Int32)).toNatClampNeg, S1)
def ok_M_root (a1 : Int32) (S : St) : Prop :=
  lt (si S 1 0 0 1 (0 : Int32)) fun (S1 : St) =>
  lt (f_M_isNode a1 S1) fun (r2 : Int32) =>
  (r2 = 0 → (
    True)) ∧ (¬ (r2 = 0) → (
    (vp_in (((64 : Int32) * a1) + (1 : Int32)) 256) ∧ (
      True)))
set_option maxHeartbeats 4000000 in
set_option maxRecDepth 100000 in
theorem c_M_root (l : Launch) (D : va_G) (X : va_W) (ad : N3 → Nat) (ca : Nat → ClassId) (a1 : Int32)  (S : St) (hk : ok_M_root a1 S) : cL l GG D clM (tysM ca) nwM X ad TM (cfM ad ca) y_M_root b_M_root 2 .long 1 20 [.ref (ad (1, 0, 0)), .int a1] S (f_M_root a1 S) := by
  generalize hr : f_M_root a1 S = res
  refine zL_of pn_M (Nat.le_of_ble_eq_true rfl) (fun p e s m below meth c A ls hy hW hA hl => ?_)
  have hF := hy.1
  have hx := hF.1
  have hb := hF.2.1
  have hK := hy.2.2.2
  have hl : lv_has ls 2 [(0, .ref (ad (1, 0, 0))), (1, .int a1)] := hl
  refine lv_aload_n (pc := 0) hx hb d_M_root_0 rfl (lv_at hl 0 rfl) ?_
  refine lv_iconst (pc := 1) (v := 0) hx hb d_M_root_1 (by decide) ?_
  obtain ⟨S1, eS1⟩ : ∃ z : St, z = si S 1 0 0 1 (0 : Int32) := ⟨_, rfl⟩
  have hk := lt_p eS1 hk
  have hr := lt_e eS1 hr
  refine z_put (pc := 2) (S' := S1) hF hK.1 hW tm1 rfl rfl in_M t_M tyo_M nmo_M 1 (by decide) gw_885 rfl rfl rfl rfl rfl (Nat.le_of_ble_eq_true rfl) (zs_si eS1 rfl) (zs_sio eS1) d_M_root_2 (fun H locs (hW : Wd D clM A s.heap (zw X ad TM (cfM ad ca) S1) H locs) => ?_)
  refine lv_iload_n (pc := 5) hx hb d_M_root_5 rfl (lv_at hl 1 rfl) ?_
  obtain ⟨r2, er2⟩ : ∃ z : Int32, z = f_M_isNode a1 S1 := ⟨_, rfl⟩
  have hk := lt_p er2 hk
  have hr := lt_e er2 hr
  refine p_go (pc := 6) (congrArg Value.int er2) (p_runS hF hK hW (c_M_isNode l D X ad ca a1 S1 _) cd_M_isNode gw_1022 ⟨Nat.le_of_ble_eq_true rfl, Nat.le_of_ble_eq_true rfl⟩ ⟨Nat.zero_le _, Nat.zero_le _⟩ rfl rfl hl.1 (Nat.le_of_ble_eq_true rfl) d_M_root_6) ?_
  refine lv_if_eq (pc := 9) (tgt := 26) hx hb d_M_root_9 (by decide) (fun c3 => ?_) (fun c3 => ?_)
  · have hk := hk.1 c3
    have hr := (if_pos c3).symm.trans hr
    refine lv_lconst (pc := 26) (v := 0) hx hb d_M_root_26 (by decide) ?_
    exact z_lret (v := (0 : Int64)) hy hW hr.symm d_M_root_27
  · have hk := hk.2 c3
    have hr := (if_neg c3).symm.trans hr
    refine lv_aload_n (pc := 12) hx hb d_M_root_12 rfl (lv_at hl 0 rfl) ?_
    refine z_get (pc := 13) (v := .ref (ad (2, 0, 0))) hF hK.1 hW tm1 rfl rfl in_M 5 (by decide) gw_889 rfl rfl d_M_root_13 ?_
    refine lv_bipush (pc := 16) (v := 64) hx hb d_M_root_16 (by decide) ?_
    refine lv_iload_n (pc := 18) hx hb d_M_root_18 rfl (lv_at hl 1 rfl) ?_
    refine lv_imul (pc := 19) hx hb d_M_root_19 ?_
    refine lv_iconst (pc := 20) (v := 1) hx hb d_M_root_20 (by decide) ?_
    refine lv_iadd (pc := 21) hx hb d_M_root_21 ?_
    have b4 := hk.1
    have hk := hk.2
    refine z_lald (pc := 22) (v := S1.2.1 2 0 0 (((64 : Int32) * a1) + (1 : Int32)).toNatClampNeg) hF hK.1 hW tm2 1 rfl rfl b4 rfl d_M_root_22 ?_
    refine lv_goto (pc := 23) (tgt := 27) hx hb d_M_root_23 (by decide) ?_
    exact z_lret (v := S1.2.1 2 0 0 (((64 : Int32) * a1) + (1 : Int32)).toNatClampNeg) hy hW hr.symm d_M_root_27
theorem d_M_about_0 : decode b_M_about 0 = .ok (.aload_n 0, 1) := by decide +kernel
theorem d_M_about_1 : decode b_M_about 1 = .ok (.iconst 0, 1) := by decide +kernel
theorem d_M_about_2 : decode b_M_about 2 = .ok (.putfield 141, 3) := by decide +kernel
theorem d_M_about_5 : decode b_M_about 5 = .ok (.iload_n 1, 1) := by decide +kernel
theorem d_M_about_6 : decode b_M_about 6 = .ok (.ifCond .ne 10, 3) := by decide +kernel
theorem d_M_about_9 : decode b_M_about 9 = .ok (.aload_n 0, 1) := by decide +kernel
theorem d_M_about_10 : decode b_M_about 10 = .ok (.getfield 265, 3) := by decide +kernel
theorem d_M_about_13 : decode b_M_about 13 = .ok (.goto 28, 3) := by decide +kernel
theorem d_M_about_16 : decode b_M_about 16 = .ok (.iload_n 1, 1) := by decide +kernel
theorem d_M_about_17 : decode b_M_about 17 = .ok (.iconst 1, 1) := by decide +kernel
theorem d_M_about_18 : decode b_M_about 18 = .ok (.if_icmp .ne 10, 3) := by decide +kernel
theorem d_M_about_21 : decode b_M_about 21 = .ok (.aload_n 0, 1) := by decide +kernel
theorem d_M_about_22 : decode b_M_about 22 = .ok (.getfield 26, 3) := by decide +kernel
theorem d_M_about_25 : decode b_M_about 25 = .ok (.goto 16, 3) := by decide +kernel
theorem d_M_about_28 : decode b_M_about 28 = .ok (.iload_n 1, 1) := by decide +kernel
theorem d_M_about_29 : decode b_M_about 29 = .ok (.iconst 2, 1) := by decide +kernel
theorem d_M_about_30 : decode b_M_about 30 = .ok (.if_icmp .ne 10, 3) := by decide +kernel
theorem d_M_about_33 : decode b_M_about 33 = .ok (.aload_n 0, 1) := by decide +kernel
theorem d_M_about_34 : decode b_M_about 34 = .ok (.getfield 183, 3) := by decide +kernel
theorem d_M_about_37 : decode b_M_about 37 = .ok (.goto 4, 3) := by decide +kernel
theorem d_M_about_40 : decode b_M_about 40 = .ok (.iconst (-1), 1) := by decide +kernel
theorem d_M_about_41 : decode b_M_about 41 = .ok (.ireturn, 1) := by decide +kernel
def f_M_about (a1 : Int32) (S : St) : Int32 × St :=
  lt (si S 1 0 0 1 (0 : Int32)) fun (S1 : St) =>
  if a1 = 0 then
    (S1.1 1 0 0 2, S1)
  else
    if a1 = (1 : Int32) then
      (S1.1 1 0 0 11, S1)
    else
      if a1 = (2 : Int32) then
        (S1.1 1 0 0 6, S1)
      else
        ((-1 : Int32), S1)
set_option maxHeartbeats 4000000 in
set_option maxRecDepth 100000 in
theorem c_M_about (l : Launch) (D : va_G) (X : va_W) (ad : N3 → Nat) (ca : Nat → ClassId) (a1 : Int32)  (S : St) : cI l GG D clM (tysM ca) nwM X ad TM (cfM ad ca) y_M_about b_M_about 2 .int 0 0 [.ref (ad (1, 0, 0)), .int a1] S (f_M_about a1 S) := by
  generalize hr : f_M_about a1 S = res
  refine zI_of pn_M (Nat.le_of_ble_eq_true rfl) (fun p e s m below meth c A ls hy hW hA hl => ?_)
  have hF := hy.1
  have hx := hF.1
  have hb := hF.2.1
  have hK := hy.2.2.2
  have hl : lv_has ls 2 [(0, .ref (ad (1, 0, 0))), (1, .int a1)] := hl
  refine lv_aload_n (pc := 0) hx hb d_M_about_0 rfl (lv_at hl 0 rfl) ?_
  refine lv_iconst (pc := 1) (v := 0) hx hb d_M_about_1 (by decide) ?_
  obtain ⟨S1, eS1⟩ : ∃ z : St, z = si S 1 0 0 1 (0 : Int32) := ⟨_, rfl⟩
  have hr := lt_e eS1 hr
  refine z_put (pc := 2) (S' := S1) hF hK.1 hW tm1 rfl rfl in_M t_M tyo_M nmo_M 1 (by decide) gw_885 rfl rfl rfl rfl rfl (Nat.le_of_ble_eq_true rfl) (zs_si eS1 rfl) (zs_sio eS1) d_M_about_2 (fun H locs (hW : Wd D clM A s.heap (zw X ad TM (cfM ad ca) S1) H locs) => ?_)
  refine lv_iload_n (pc := 5) hx hb d_M_about_5 rfl (lv_at hl 1 rfl) ?_
  refine lv_if_ne (pc := 6) (tgt := 16) hx hb d_M_about_6 (by decide) (fun c2 => ?_) (fun c2 => ?_)
  · have hr := (if_neg c2).symm.trans hr
    refine lv_iload_n (pc := 16) hx hb d_M_about_16 rfl (lv_at hl 1 rfl) ?_
    refine lv_iconst (pc := 17) (v := 1) hx hb d_M_about_17 (by decide) ?_
    refine lv_icmp_ne (pc := 18) (tgt := 28) hx hb d_M_about_18 (by decide) (fun c3 => ?_) (fun c3 => ?_)
    · have hr := (if_neg c3).symm.trans hr
      refine lv_iload_n (pc := 28) hx hb d_M_about_28 rfl (lv_at hl 1 rfl) ?_
      refine lv_iconst (pc := 29) (v := 2) hx hb d_M_about_29 (by decide) ?_
      refine lv_icmp_ne (pc := 30) (tgt := 40) hx hb d_M_about_30 (by decide) (fun c4 => ?_) (fun c4 => ?_)
      · have hr := (if_neg c4).symm.trans hr
        refine lv_iconst (pc := 40) (v := -1) hx hb d_M_about_40 (by decide) ?_
        exact z_iret (v := (-1 : Int32)) hy hW hr.symm d_M_about_41
      · have hr := (if_pos c4).symm.trans hr
        refine lv_aload_n (pc := 33) hx hb d_M_about_33 rfl (lv_at hl 0 rfl) ?_
        refine z_get (pc := 34) (v := .int (S1.1 1 0 0 6)) hF hK.1 hW tm1 rfl rfl in_M 6 (by decide) gw_890 rfl rfl d_M_about_34 ?_
        refine lv_goto (pc := 37) (tgt := 41) hx hb d_M_about_37 (by decide) ?_
        exact z_iret (v := S1.1 1 0 0 6) hy hW hr.symm d_M_about_41
    · have hr := (if_pos c3).symm.trans hr
      refine lv_aload_n (pc := 21) hx hb d_M_about_21 rfl (lv_at hl 0 rfl) ?_
      refine z_get (pc := 22) (v := .int (S1.1 1 0 0 11)) hF hK.1 hW tm1 rfl rfl in_M 11 (by decide) gw_895 rfl rfl d_M_about_22 ?_
      refine lv_goto (pc := 25) (tgt := 41) hx hb d_M_about_25 (by decide) ?_
      exact z_iret (v := S1.1 1 0 0 11) hy hW hr.symm d_M_about_41
  · have hr := (if_pos c2).symm.trans hr
    refine lv_aload_n (pc := 9) hx hb d_M_about_9 rfl (lv_at hl 0 rfl) ?_
    refine z_get (pc := 10) (v := .int (S1.1 1 0 0 2)) hF hK.1 hW tm1 rfl rfl in_M 2 (by decide) gw_886 rfl rfl d_M_about_10 ?_
    refine lv_goto (pc := 13) (tgt := 41) hx hb d_M_about_13 (by decide) ?_
    exact z_iret (v := S1.1 1 0 0 2) hy hW hr.symm d_M_about_41
