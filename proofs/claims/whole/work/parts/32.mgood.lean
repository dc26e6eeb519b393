theorem d_M_good_0 : decode b_M_good 0 = .ok (.aload_n 0, 1) := by decide +kernel
theorem d_M_good_1 : decode b_M_good 1 = .ok (.lload_n 2, 1) := by decide +kernel
theorem d_M_good_2 : decode b_M_good 2 = .ok (.invokevirtual 170, 3) := by decide +kernel
theorem d_M_good_5 : decode b_M_good 5 = .ok (.iconst 0, 1) := by decide +kernel
theorem d_M_good_6 : decode b_M_good 6 = .ok (.istore 4, 2) := by decide +kernel
theorem d_M_good_8 : decode b_M_good 8 = .ok (.iload 4, 2) := by decide +kernel
theorem d_M_good_10 : decode b_M_good 10 = .ok (.bipush 6, 2) := by decide +kernel
theorem d_M_good_12 : decode b_M_good 12 = .ok (.if_icmp .ge 41, 3) := by decide +kernel
theorem d_M_good_15 : decode b_M_good 15 = .ok (.aload_n 0, 1) := by decide +kernel
theorem d_M_good_16 : decode b_M_good 16 = .ok (.aload_n 0, 1) := by decide +kernel
theorem d_M_good_17 : decode b_M_good 17 = .ok (.getfield 115, 3) := by decide +kernel
theorem d_M_good_20 : decode b_M_good 20 = .ok (.iload 4, 2) := by decide +kernel
theorem d_M_good_22 : decode b_M_good 22 = .ok (.laload, 1) := by decide +kernel
theorem d_M_good_23 : decode b_M_good 23 = .ok (.bipush 15, 2) := by decide +kernel
theorem d_M_good_25 : decode b_M_good 25 = .ok (.aload_n 0, 1) := by decide +kernel
theorem d_M_good_26 : decode b_M_good 26 = .ok (.getfield 118, 3) := by decide +kernel
theorem d_M_good_29 : decode b_M_good 29 = .ok (.iload 4, 2) := by decide +kernel
theorem d_M_good_31 : decode b_M_good 31 = .ok (.iaload, 1) := by decide +kernel
theorem d_M_good_32 : decode b_M_good 32 = .ok (.isub, 1) := by decide +kernel
theorem d_M_good_33 : decode b_M_good 33 = .ok (.invokevirtual 129, 3) := by decide +kernel
theorem d_M_good_36 : decode b_M_good 36 = .ok (.lstore 5, 2) := by decide +kernel
theorem d_M_good_38 : decode b_M_good 38 = .ok (.aload_n 0, 1) := by decide +kernel
theorem d_M_good_39 : decode b_M_good 39 = .ok (.getfield 115, 3) := by decide +kernel
theorem d_M_good_42 : decode b_M_good 42 = .ok (.iload 4, 2) := by decide +kernel
theorem d_M_good_44 : decode b_M_good 44 = .ok (.lload 5, 2) := by decide +kernel
theorem d_M_good_46 : decode b_M_good 46 = .ok (.lastore, 1) := by decide +kernel
theorem d_M_good_47 : decode b_M_good 47 = .ok (.iinc 4 1, 3) := by decide +kernel
theorem d_M_good_50 : decode b_M_good 50 = .ok (.goto (-42), 3) := by decide +kernel
theorem d_M_good_53 : decode b_M_good 53 = .ok (.aload_n 0, 1) := by decide +kernel
theorem d_M_good_54 : decode b_M_good 54 = .ok (.invokevirtual 133, 3) := by decide +kernel
theorem d_M_good_57 : decode b_M_good 57 = .ok (.lstore 4, 2) := by decide +kernel
theorem d_M_good_59 : decode b_M_good 59 = .ok (.iconst 0, 1) := by decide +kernel
theorem d_M_good_60 : decode b_M_good 60 = .ok (.istore 6, 2) := by decide +kernel
theorem d_M_good_62 : decode b_M_good 62 = .ok (.iload 6, 2) := by decide +kernel
theorem d_M_good_64 : decode b_M_good 64 = .ok (.iconst 5, 1) := by decide +kernel
theorem d_M_good_65 : decode b_M_good 65 = .ok (.if_icmp .ge 70, 3) := by decide +kernel
theorem d_M_good_68 : decode b_M_good 68 = .ok (.aload_n 0, 1) := by decide +kernel
theorem d_M_good_69 : decode b_M_good 69 = .ok (.getfield 167, 3) := by decide +kernel
theorem d_M_good_72 : decode b_M_good 72 = .ok (.iload 6, 2) := by decide +kernel
theorem d_M_good_74 : decode b_M_good 74 = .ok (.ishr, 1) := by decide +kernel
theorem d_M_good_75 : decode b_M_good 75 = .ok (.iconst 1, 1) := by decide +kernel
theorem d_M_good_76 : decode b_M_good 76 = .ok (.iand, 1) := by decide +kernel
theorem d_M_good_77 : decode b_M_good 77 = .ok (.ifCond .ne 7, 3) := by decide +kernel
theorem d_M_good_80 : decode b_M_good 80 = .ok (.iconst 1, 1) := by decide +kernel
theorem d_M_good_81 : decode b_M_good 81 = .ok (.goto 4, 3) := by decide +kernel
theorem d_M_good_84 : decode b_M_good 84 = .ok (.iconst 0, 1) := by decide +kernel
theorem d_M_good_85 : decode b_M_good 85 = .ok (.istore 7, 2) := by decide +kernel
theorem d_M_good_87 : decode b_M_good 87 = .ok (.iload 7, 2) := by decide +kernel
theorem d_M_good_89 : decode b_M_good 89 = .ok (.ifCond .eq 22, 3) := by decide +kernel
theorem d_M_good_92 : decode b_M_good 92 = .ok (.aload_n 0, 1) := by decide +kernel
theorem d_M_good_93 : decode b_M_good 93 = .ok (.lload 4, 2) := by decide +kernel
theorem d_M_good_95 : decode b_M_good 95 = .ok (.aload_n 0, 1) := by decide +kernel
theorem d_M_good_96 : decode b_M_good 96 = .ok (.getfield 115, 3) := by decide +kernel
theorem d_M_good_99 : decode b_M_good 99 = .ok (.bipush 6, 2) := by decide +kernel
theorem d_M_good_101 : decode b_M_good 101 = .ok (.iload 6, 2) := by decide +kernel
theorem d_M_good_103 : decode b_M_good 103 = .ok (.iadd, 1) := by decide +kernel
theorem d_M_good_104 : decode b_M_good 104 = .ok (.laload, 1) := by decide +kernel
theorem d_M_good_105 : decode b_M_good 105 = .ok (.invokevirtual 137, 3) := by decide +kernel
theorem d_M_good_108 : decode b_M_good 108 = .ok (.goto 19, 3) := by decide +kernel
theorem d_M_good_111 : decode b_M_good 111 = .ok (.aload_n 0, 1) := by decide +kernel
theorem d_M_good_112 : decode b_M_good 112 = .ok (.aload_n 0, 1) := by decide +kernel
theorem d_M_good_113 : decode b_M_good 113 = .ok (.getfield 115, 3) := by decide +kernel
theorem d_M_good_116 : decode b_M_good 116 = .ok (.bipush 6, 2) := by decide +kernel
theorem d_M_good_118 : decode b_M_good 118 = .ok (.iload 6, 2) := by decide +kernel
theorem d_M_good_120 : decode b_M_good 120 = .ok (.iadd, 1) := by decide +kernel
theorem d_M_good_121 : decode b_M_good 121 = .ok (.laload, 1) := by decide +kernel
theorem d_M_good_122 : decode b_M_good 122 = .ok (.lload 4, 2) := by decide +kernel
theorem d_M_good_124 : decode b_M_good 124 = .ok (.invokevirtual 137, 3) := by decide +kernel
theorem d_M_good_127 : decode b_M_good 127 = .ok (.lstore 4, 2) := by decide +kernel
theorem d_M_good_129 : decode b_M_good 129 = .ok (.iinc 6 1, 3) := by decide +kernel
theorem d_M_good_132 : decode b_M_good 132 = .ok (.goto (-70), 3) := by decide +kernel
theorem d_M_good_135 : decode b_M_good 135 = .ok (.lload 4, 2) := by decide +kernel
theorem d_M_good_137 : decode b_M_good 137 = .ok (.aload_n 0, 1) := by decide +kernel
theorem d_M_good_138 : decode b_M_good 138 = .ok (.getfield 7, 3) := by decide +kernel
theorem d_M_good_141 : decode b_M_good 141 = .ok (.bipush 64, 2) := by decide +kernel
theorem d_M_good_143 : decode b_M_good 143 = .ok (.iload_n 1, 1) := by decide +kernel
theorem d_M_good_144 : decode b_M_good 144 = .ok (.imul, 1) := by decide +kernel
theorem d_M_good_145 : decode b_M_good 145 = .ok (.iconst 1, 1) := by decide +kernel
theorem d_M_good_146 : decode b_M_good 146 = .ok (.iadd, 1) := by decide +kernel
theorem d_M_good_147 : decode b_M_good 147 = .ok (.laload, 1) := by decide +kernel
theorem d_M_good_148 : decode b_M_good 148 = .ok (.lcmp, 1) := by decide +kernel
theorem d_M_good_149 : decode b_M_good 149 = .ok (.ifCond .ne 7, 3) := by decide +kernel
theorem d_M_good_152 : decode b_M_good 152 = .ok (.iconst 1, 1) := by decide +kernel
theorem d_M_good_153 : decode b_M_good 153 = .ok (.goto 4, 3) := by decide +kernel
theorem d_M_good_156 : decode b_M_good 156 = .ok (.iconst 0, 1) := by decide +kernel
theorem d_M_good_157 : decode b_M_good 157 = .ok (.ireturn, 1) := by decide +kernel
def f_M_good_62 (a1 : Int32) (a2 : Int64) : Nat → St → Int64 → Int32 → Int32 × St
  | 0, S, _, _ => (0, S)
  | n + 1, S, l4, l6 =>
    if (5 : Int32) ≤ l6 then
      if (lg_cmp l4 (S.2.1 2 0 0 (((64 : Int32) * a1) + (1 : Int32)).toNatClampNeg)) = 0 then
        ((1 : Int32), S)
      else
        ((0 : Int32), S)
    else
      if (((S.1 1 0 0 40) >>> (l6 &&& 31)) &&& (1 : Int32)) = 0 then
        if (1 : Int32) = 0 then
          lt (f_M_two (S.2.1 35 0 0 ((6 : Int32) + l6).toNatClampNeg) l4 S) fun (r24 : Int64 × St) =>
          f_M_good_62 a1 a2 n r24.2 r24.1 (l6 + (1 : Int32))
        else
          lt (f_M_two l4 (S.2.1 35 0 0 ((6 : Int32) + l6).toNatClampNeg) S) fun (r26 : Int64 × St) =>
          f_M_good_62 a1 a2 n r26.2 r26.1 (l6 + (1 : Int32))
      else
        if (0 : Int32) = 0 then
          lt (f_M_two (S.2.1 35 0 0 ((6 : Int32) + l6).toNatClampNeg) l4 S) fun (r19 : Int64 × St) =>
          f_M_good_62 a1 a2 n r19.2 r19.1 (l6 + (1 : Int32))
        else
          lt (f_M_two l4 (S.2.1 35 0 0 ((6 : Int32) + l6).toNatClampNeg) S) fun (r21 : Int64 × St) =>
          f_M_good_62 a1 a2 n r21.2 r21.1 (l6 + (1 : Int32))
def ok_M_good_62 (a1 : Int32) (a2 : Int64) : Nat → St → Int64 → Int32 → Prop
  | 0, _, _, _ => False
  | n + 1, S, l4, l6 =>
    ((5 : Int32) ≤ l6 → (
      (vp_in (((64 : Int32) * a1) + (1 : Int32)) 256) ∧ (
        True))) ∧ (¬ ((5 : Int32) ≤ l6) → (
      ((((S.1 1 0 0 40) >>> (l6 &&& 31)) &&& (1 : Int32)) = 0 → (
        ((1 : Int32) = 0 → (
          (vp_in ((6 : Int32) + l6) 11) ∧ (
            lt (f_M_two (S.2.1 35 0 0 ((6 : Int32) + l6).toNatClampNeg) l4 S) fun (r24 : Int64 × St) =>
            ok_M_good_62 a1 a2 n r24.2 r24.1 (l6 + (1 : Int32))))) ∧ (¬ ((1 : Int32) = 0) → (
          (vp_in ((6 : Int32) + l6) 11) ∧ (
            lt (f_M_two l4 (S.2.1 35 0 0 ((6 : Int32) + l6).toNatClampNeg) S) fun (r26 : Int64 × St) =>
            ok_M_good_62 a1 a2 n r26.2 r26.1 (l6 + (1 : Int32))))))) ∧ (¬ ((((S.1 1 0 0 40) >>> (l6 &&& 31)) &&& (1 : Int32)) = 0) → (
        ((0 : Int32) = 0 → (
          (vp_in ((6 : Int32) + l6) 11) ∧ (
            lt (f_M_two (S.2.1 35 0 0 ((6 : Int32) + l6).toNatClampNeg) l4 S) fun (r19 : Int64 × St) =>
            ok_M_good_62 a1 a2 n r19.2 r19.1 (l6 + (1 : Int32))))) ∧ (¬ ((0 : Int32) = 0) → (
          (vp_in ((6 : Int32) + l6) 11) ∧ (
            lt (f_M_two l4 (S.2.1 35 0 0 ((6 : Int32) + l6).toNatClampNeg) S) fun (r21 : Int64 × St) =>
            ok_M_good_62 a1 a2 n r21.2 r21.1 (l6 + (1 : Int32)))))))))
set_option maxHeartbeats 4000000 in
set_option maxRecDepth 100000 in
theorem w_M_good_62 {l : Launch} {D : va_G} {X : va_W} {ad : N3 → Nat} {ca : Nat → ClassId} (a1 : Int32) (a2 : Int64)  {p : Program} {e : Env} {s : State} {m : MethodId} {below : List Frame} {meth : Method} {c : Code} {A : Nat → Prop} (hy : Hy p s m ([.ref (ad (1, 0, 0)), .int a1, .long a2] : List Value).toArray meth c b_M_good 8 (some .boolean) R_M GG D clM (tysM ca) nwM) (hA : ∀ q, s.heap.size ≤ q → A q) {res : Int32 × St} : ∀ (n : Nat) (S : St) (l4 : Int64) (l6 : Int32) , ok_M_good_62 a1 a2 n S l4 l6 → f_M_good_62 a1 a2 n S l4 l6 = res → ∀ (H : Heap) (locs : List Loc) (ls : Array Slot), Wd D clM A s.heap (zw X ad TM (cfM ad ca) S) H locs → lv_has ls 8 [(0, .ref (ad (1, 0, 0))), (1, .int a1), (4, .long l4), (6, .int l6)] → W p l e { frames := 3, cells := 0, slots := 0, locals := 72 } s m ([.ref (ad (1, 0, 0)), .int a1, .long a2] : List Value).toArray below meth c H locs 0 0 (MQ below (eI D clM X ad TM (cfM ad ca) A res) ([.ref (ad (1, 0, 0)), .int a1, .long a2] : List Value).toArray s 0 0 A) (F0 m 62 ls []) := by
  have hF := hy.1
  have hx := hF.1
  have hb := hF.2.1
  have hK := hy.2.2.2
  intro n
  induction n with
  | zero =>
    intro S l4 l6 hk
    exact hk.elim
  | succ n ih =>
    intro S l4 l6 hk hr H locs ls hW hl
    refine lv_iload (pc := 62) hx hb d_M_good_62 (lv_at hl 3 rfl) ?_
    refine lv_iconst (pc := 64) (v := 5) hx hb d_M_good_64 (by decide) ?_
    refine lv_icmp_ge (pc := 65) (tgt := 135) hx hb d_M_good_65 (by decide) (fun c13 => ?_) (fun c13 => ?_)
    · have hk := hk.1 c13
      have hr := (if_pos c13).symm.trans hr
      refine lv_lload (pc := 135) hx hb d_M_good_135 (lv_at hl 2 rfl) ?_
      refine lv_aload_n (pc := 137) hx hb d_M_good_137 rfl (lv_at hl 0 rfl) ?_
      refine z_get (pc := 138) (v := .ref (ad (2, 0, 0))) hF hK.1 hW tm1 rfl rfl in_M 5 (by decide) gw_889 rfl rfl d_M_good_138 ?_
      refine lv_bipush (pc := 141) (v := 64) hx hb d_M_good_141 (by decide) ?_
      refine lv_iload_n (pc := 143) hx hb d_M_good_143 rfl (lv_at hl 1 rfl) ?_
      refine lv_imul (pc := 144) hx hb d_M_good_144 ?_
      refine lv_iconst (pc := 145) (v := 1) hx hb d_M_good_145 (by decide) ?_
      refine lv_iadd (pc := 146) hx hb d_M_good_146 ?_
      have b14 := hk.1
      have hk := hk.2
      refine z_lald (pc := 147) (v := S.2.1 2 0 0 (((64 : Int32) * a1) + (1 : Int32)).toNatClampNeg) hF hK.1 hW tm2 1 rfl rfl b14 rfl d_M_good_147 ?_
      refine W.lcmp (pc := 148) hx hb d_M_good_148 ?_
      refine lv_if_ne (pc := 149) (tgt := 156) hx hb d_M_good_149 (by decide) (fun c15 => ?_) (fun c15 => ?_)
      · have hr := (if_neg c15).symm.trans hr
        refine lv_iconst (pc := 156) (v := 0) hx hb d_M_good_156 (by decide) ?_
        exact z_zret (v := (0 : Int32)) hy hW rfl hr.symm d_M_good_157
      · have hr := (if_pos c15).symm.trans hr
        refine lv_iconst (pc := 152) (v := 1) hx hb d_M_good_152 (by decide) ?_
        refine lv_goto (pc := 153) (tgt := 157) hx hb d_M_good_153 (by decide) ?_
        exact z_zret (v := (1 : Int32)) hy hW rfl hr.symm d_M_good_157
    · have hk := hk.2 c13
      have hr := (if_neg c13).symm.trans hr
      refine lv_aload_n (pc := 68) hx hb d_M_good_68 rfl (lv_at hl 0 rfl) ?_
      refine z_get (pc := 69) (v := .int (S.1 1 0 0 40)) hF hK.1 hW tm1 rfl rfl in_M 40 (by decide) gw_924 rfl rfl d_M_good_69 ?_
      refine lv_iload (pc := 72) hx hb d_M_good_72 (lv_at hl 3 rfl) ?_
      refine lv_ishr (pc := 74) hx hb d_M_good_74 ?_
      refine lv_iconst (pc := 75) (v := 1) hx hb d_M_good_75 (by decide) ?_
      refine lv_iand (pc := 76) hx hb d_M_good_76 ?_
      refine lv_if_ne (pc := 77) (tgt := 84) hx hb d_M_good_77 (by decide) (fun c16 => ?_) (fun c16 => ?_)
      · have hk := hk.2 c16
        have hr := (if_neg c16).symm.trans hr
        refine lv_iconst (pc := 84) (v := 0) hx hb d_M_good_84 (by decide) ?_
        refine lv_istore (pc := 85) (lv' := [(7, .int (0 : Int32)), (0, .ref (ad (1, 0, 0))), (1, .int a1), (4, .long l4), (6, .int l6)]) hx hb d_M_good_85 hl (by decide) rfl (fun ls hl => ?_)
        refine lv_iload (pc := 87) hx hb d_M_good_87 (lv_at hl 0 rfl) ?_
        refine lv_if_eq (pc := 89) (tgt := 111) hx hb d_M_good_89 (by decide) (fun c17 => ?_) (fun c17 => ?_)
        · have hk := hk.1 c17
          have hr := (if_pos c17).symm.trans hr
          refine lv_aload_n (pc := 111) hx hb d_M_good_111 rfl (lv_at hl 1 rfl) ?_
          refine lv_aload_n (pc := 112) hx hb d_M_good_112 rfl (lv_at hl 1 rfl) ?_
          refine z_get (pc := 113) (v := .ref (ad (35, 0, 0))) hF hK.1 hW tm1 rfl rfl in_M 41 (by decide) gw_925 rfl rfl d_M_good_113 ?_
          refine lv_bipush (pc := 116) (v := 6) hx hb d_M_good_116 (by decide) ?_
          refine lv_iload (pc := 118) hx hb d_M_good_118 (lv_at hl 4 rfl) ?_
          refine lv_iadd (pc := 120) hx hb d_M_good_120 ?_
          have b18 := hk.1
          have hk := hk.2
          refine z_lald (pc := 121) (v := S.2.1 35 0 0 ((6 : Int32) + l6).toNatClampNeg) hF hK.1 hW tm35 1 rfl rfl b18 rfl d_M_good_121 ?_
          refine lv_lload (pc := 122) hx hb d_M_good_122 (lv_at hl 3 rfl) ?_
          obtain ⟨r19, er19⟩ : ∃ z : Int64 × St, z = f_M_two (S.2.1 35 0 0 ((6 : Int32) + l6).toNatClampNeg) l4 S := ⟨_, rfl⟩
          have hk := lt_p er19 hk
          have hr := lt_e er19 hr
          refine z_goL (pc := 124) hW hA (show (r19.1, r19.2) = _ from er19) (z_runV hF hK hW (c_M_two l D X ad ca (S.2.1 35 0 0 ((6 : Int32) + l6).toNatClampNeg) l4 S _) cd_M_two gw_876 tm1 rfl rfl ⟨Nat.le_of_ble_eq_true rfl, Nat.le_of_ble_eq_true rfl⟩ ⟨Nat.zero_le _, Nat.zero_le _⟩ rfl rfl hl.1 (Nat.le_of_ble_eq_true rfl) d_M_good_124) (fun H locs (hW : Wd D clM A s.heap (zw X ad TM (cfM ad ca) r19.2) H locs) => ?_)
          refine lv_lstore (pc := 127) (lv' := [(4, .long r19.1), (7, .int (0 : Int32)), (0, .ref (ad (1, 0, 0))), (1, .int a1), (6, .int l6)]) hx hb d_M_good_127 hl (by decide) rfl (fun ls hl => ?_)
          refine lv_iinc (pc := 129) (v := l6 + (1 : Int32)) (lv' := [(6, .int (l6 + (1 : Int32))), (4, .long r19.1), (7, .int (0 : Int32)), (0, .ref (ad (1, 0, 0))), (1, .int a1)]) (k := 4) hx hb d_M_good_129 hl rfl (z_inc (by decide)) (by decide) rfl (fun ls hl => ?_)
          refine lv_goto (pc := 132) (tgt := 62) hx hb d_M_good_132 (by decide) ?_
          exact ih r19.2 r19.1 (l6 + (1 : Int32)) hk hr _ _ _ hW (lv_sub hl [3, 4, 1, 0] rfl)
        · have hk := hk.2 c17
          have hr := (if_neg c17).symm.trans hr
          refine lv_aload_n (pc := 92) hx hb d_M_good_92 rfl (lv_at hl 1 rfl) ?_
          refine lv_lload (pc := 93) hx hb d_M_good_93 (lv_at hl 3 rfl) ?_
          refine lv_aload_n (pc := 95) hx hb d_M_good_95 rfl (lv_at hl 1 rfl) ?_
          refine z_get (pc := 96) (v := .ref (ad (35, 0, 0))) hF hK.1 hW tm1 rfl rfl in_M 41 (by decide) gw_925 rfl rfl d_M_good_96 ?_
          refine lv_bipush (pc := 99) (v := 6) hx hb d_M_good_99 (by decide) ?_
          refine lv_iload (pc := 101) hx hb d_M_good_101 (lv_at hl 4 rfl) ?_
          refine lv_iadd (pc := 103) hx hb d_M_good_103 ?_
          have b20 := hk.1
          have hk := hk.2
          refine z_lald (pc := 104) (v := S.2.1 35 0 0 ((6 : Int32) + l6).toNatClampNeg) hF hK.1 hW tm35 1 rfl rfl b20 rfl d_M_good_104 ?_
          obtain ⟨r21, er21⟩ : ∃ z : Int64 × St, z = f_M_two l4 (S.2.1 35 0 0 ((6 : Int32) + l6).toNatClampNeg) S := ⟨_, rfl⟩
          have hk := lt_p er21 hk
          have hr := lt_e er21 hr
          refine z_goL (pc := 105) hW hA (show (r21.1, r21.2) = _ from er21) (z_runV hF hK hW (c_M_two l D X ad ca l4 (S.2.1 35 0 0 ((6 : Int32) + l6).toNatClampNeg) S _) cd_M_two gw_876 tm1 rfl rfl ⟨Nat.le_of_ble_eq_true rfl, Nat.le_of_ble_eq_true rfl⟩ ⟨Nat.zero_le _, Nat.zero_le _⟩ rfl rfl hl.1 (Nat.le_of_ble_eq_true rfl) d_M_good_105) (fun H locs (hW : Wd D clM A s.heap (zw X ad TM (cfM ad ca) r21.2) H locs) => ?_)
          refine lv_goto (pc := 108) (tgt := 127) hx hb d_M_good_108 (by decide) ?_
          refine lv_lstore (pc := 127) (lv' := [(4, .long r21.1), (7, .int (0 : Int32)), (0, .ref (ad (1, 0, 0))), (1, .int a1), (6, .int l6)]) hx hb d_M_good_127 hl (by decide) rfl (fun ls hl => ?_)
          refine lv_iinc (pc := 129) (v := l6 + (1 : Int32)) (lv' := [(6, .int (l6 + (1 : Int32))), (4, .long r21.1), (7, .int (0 : Int32)), (0, .ref (ad (1, 0, 0))), (1, .int a1)]) (k := 4) hx hb d_M_good_129 hl rfl (z_inc (by decide)) (by decide) rfl (fun ls hl => ?_)
          refine lv_goto (pc := 132) (tgt := 62) hx hb d_M_good_132 (by decide) ?_
          exact ih r21.2 r21.1 (l6 + (1 : Int32)) hk hr _ _ _ hW (lv_sub hl [3, 4, 1, 0] rfl)
      · have hk := hk.1 c16
        have hr := (if_pos c16).symm.trans hr
        refine lv_iconst (pc := 80) (v := 1) hx hb d_M_good_80 (by decide) ?_
        refine lv_goto (pc := 81) (tgt := 85) hx hb d_M_good_81 (by decide) ?_
        refine lv_istore (pc := 85) (lv' := [(7, .int (1 : Int32)), (0, .ref (ad (1, 0, 0))), (1, .int a1), (4, .long l4), (6, .int l6)]) hx hb d_M_good_85 hl (by decide) rfl (fun ls hl => ?_)
        refine lv_iload (pc := 87) hx hb d_M_good_87 (lv_at hl 0 rfl) ?_
        refine lv_if_eq (pc := 89) (tgt := 111) hx hb d_M_good_89 (by decide) (fun c22 => ?_) (fun c22 => ?_)
        · have hk := hk.1 c22
          have hr := (if_pos c22).symm.trans hr
          refine lv_aload_n (pc := 111) hx hb d_M_good_111 rfl (lv_at hl 1 rfl) ?_
          refine lv_aload_n (pc := 112) hx hb d_M_good_112 rfl (lv_at hl 1 rfl) ?_
          refine z_get (pc := 113) (v := .ref (ad (35, 0, 0))) hF hK.1 hW tm1 rfl rfl in_M 41 (by decide) gw_925 rfl rfl d_M_good_113 ?_
          refine lv_bipush (pc := 116) (v := 6) hx hb d_M_good_116 (by decide) ?_
          refine lv_iload (pc := 118) hx hb d_M_good_118 (lv_at hl 4 rfl) ?_
          refine lv_iadd (pc := 120) hx hb d_M_good_120 ?_
          have b23 := hk.1
          have hk := hk.2
          refine z_lald (pc := 121) (v := S.2.1 35 0 0 ((6 : Int32) + l6).toNatClampNeg) hF hK.1 hW tm35 1 rfl rfl b23 rfl d_M_good_121 ?_
          refine lv_lload (pc := 122) hx hb d_M_good_122 (lv_at hl 3 rfl) ?_
          obtain ⟨r24, er24⟩ : ∃ z : Int64 × St, z = f_M_two (S.2.1 35 0 0 ((6 : Int32) + l6).toNatClampNeg) l4 S := ⟨_, rfl⟩
          have hk := lt_p er24 hk
          have hr := lt_e er24 hr
          refine z_goL (pc := 124) hW hA (show (r24.1, r24.2) = _ from er24) (z_runV hF hK hW (c_M_two l D X ad ca (S.2.1 35 0 0 ((6 : Int32) + l6).toNatClampNeg) l4 S _) cd_M_two gw_876 tm1 rfl rfl ⟨Nat.le_of_ble_eq_true rfl, Nat.le_of_ble_eq_true rfl⟩ ⟨Nat.zero_le _, Nat.zero_le _⟩ rfl rfl hl.1 (Nat.le_of_ble_eq_true rfl) d_M_good_124) (fun H locs (hW : Wd D clM A s.heap (zw X ad TM (cfM ad ca) r24.2) H locs) => ?_)
          refine lv_lstore (pc := 127) (lv' := [(4, .long r24.1), (7, .int (1 : Int32)), (0, .ref (ad (1, 0, 0))), (1, .int a1), (6, .int l6)]) hx hb d_M_good_127 hl (by decide) rfl (fun ls hl => ?_)
          refine lv_iinc (pc := 129) (v := l6 + (1 : Int32)) (lv' := [(6, .int (l6 + (1 : Int32))), (4, .long r24.1), (7, .int (1 : Int32)), (0, .ref (ad (1, 0, 0))), (1, .int a1)]) (k := 4) hx hb d_M_good_129 hl rfl (z_inc (by decide)) (by decide) rfl (fun ls hl => ?_)
          refine lv_goto (pc := 132) (tgt := 62) hx hb d_M_good_132 (by decide) ?_
          exact ih r24.2 r24.1 (l6 + (1 : Int32)) hk hr _ _ _ hW (lv_sub hl [3, 4, 1, 0] rfl)
        · have hk := hk.2 c22
          have hr := (if_neg c22).symm.trans hr
          refine lv_aload_n (pc := 92) hx hb d_M_good_92 rfl (lv_at hl 1 rfl) ?_
          refine lv_lload (pc := 93) hx hb d_M_good_93 (lv_at hl 3 rfl) ?_
          refine lv_aload_n (pc := 95) hx hb d_M_good_95 rfl (lv_at hl 1 rfl) ?_
          refine z_get (pc := 96) (v := .ref (ad (35, 0, 0))) hF hK.1 hW tm1 rfl rfl in_M 41 (by decide) gw_925 rfl rfl d_M_good_96 ?_
          refine lv_bipush (pc := 99) (v := 6) hx hb d_M_good_99 (by decide) ?_
          refine lv_iload (pc := 101) hx hb d_M_good_101 (lv_at hl 4 rfl) ?_
          refine lv_iadd (pc := 103) hx hb d_M_good_103 ?_
          have b25 := hk.1
          have hk := hk.2
          refine z_lald (pc := 104) (v := S.2.1 35 0 0 ((6 : Int32) + l6).toNatClampNeg) hF hK.1 hW tm35 1 rfl rfl b25 rfl d_M_good_104 ?_
          obtain ⟨r26, er26⟩ : ∃ z : Int64 × St, z = f_M_two l4 (S.2.1 35 0 0 ((6 : Int32) + l6).toNatClampNeg) S := ⟨_, rfl⟩
          have hk := lt_p er26 hk
          have hr := lt_e er26 hr
          refine z_goL (pc := 105) hW hA (show (r26.1, r26.2) = _ from er26) (z_runV hF hK hW (c_M_two l D X ad ca l4 (S.2.1 35 0 0 ((6 : Int32) + l6).toNatClampNeg) S _) cd_M_two gw_876 tm1 rfl rfl ⟨Nat.le_of_ble_eq_true rfl, Nat.le_of_ble_eq_true rfl⟩ ⟨Nat.zero_le _, Nat.zero_le _⟩ rfl rfl hl.1 (Nat.le_of_ble_eq_true rfl) d_M_good_105) (fun H locs (hW : Wd D clM A s.heap (zw X ad TM (cfM ad ca) r26.2) H locs) => ?_)
          refine lv_goto (pc := 108) (tgt := 127) hx hb d_M_good_108 (by decide) ?_
          refine lv_lstore (pc := 127) (lv' := [(4, .long r26.1), (7, .int (1 : Int32)), (0, .ref (ad (1, 0, 0))), (1, .int a1), (6, .int l6)]) hx hb d_M_good_127 hl (by decide) rfl (fun ls hl => ?_)
          refine lv_iinc (pc := 129) (v := l6 + (1 : Int32)) (lv' := [(6, .int (l6 + (1 : Int32))), (4, .long r26.1), (7, .int (1 : Int32)), (0, .ref (ad (1, 0, 0))), (1, .int a1)]) (k := 4) hx hb d_M_good_129 hl rfl (z_inc (by decide)) (by decide) rfl (fun ls hl => ?_)
          refine lv_goto (pc := 132) (tgt := 62) hx hb d_M_good_132 (by decide) ?_
          exact ih r26.2 r26.1 (l6 + (1 : Int32)) hk hr _ _ _ hW (lv_sub hl [3, 4, 1, 0] rfl)
def f_M_good_8 (a1 : Int32) (a2 : Int64) : Nat → St → Int32 → Int32 × St
  | 0, S, _ => (0, S)
  | n + 1, S, l4 =>
    if (6 : Int32) ≤ l4 then
      lt (f_M_leaf S) fun (r6 : Int64 × St) =>
      f_M_good_62 a1 a2 200 r6.2 r6.1 (0 : Int32)
    else
      lt (f_M_after (S.2.1 35 0 0 l4.toNatClampNeg) ((15 : Int32) - (S.1 36 0 0 l4.toNatClampNeg)) S) fun (r10 : Int64 × St) =>
      lt (sl r10.2 35 0 0 (l4.toNatClampNeg) r10.1) fun (S12 : St) =>
      f_M_good_8 a1 a2 n S12 (l4 + (1 : Int32))
def ok_M_good_8 (a1 : Int32) (a2 : Int64) : Nat → St → Int32 → Prop
  | 0, _, _ => False
  | n + 1, S, l4 =>
    ((6 : Int32) ≤ l4 → (
      (ok_M_leaf S) ∧ (
        lt (f_M_leaf S) fun (r6 : Int64 × St) =>
        ok_M_good_62 a1 a2 200 r6.2 r6.1 (0 : Int32)))) ∧ (¬ ((6 : Int32) ≤ l4) → (
      (vp_in l4 11) ∧ (
        (vp_in l4 6) ∧ (
          (ok_M_after (S.2.1 35 0 0 l4.toNatClampNeg) ((15 : Int32) - (S.1 36 0 0 l4.toNatClampNeg)) S) ∧ (
            lt (f_M_after (S.2.1 35 0 0 l4.toNatClampNeg) ((15 : Int32) - (S.1 36 0 0 l4.toNatClampNeg)) S) fun (r10 : Int64 × St) =>
            (vp_in l4 11) ∧ (
              lt (sl r10.2 35 0 0 (l4.toNatClampNeg) r10.1) fun (S12 : St) =>
              ok_M_good_8 a1 a2 n S12 (l4 + (1 : Int32))))))))
set_option maxHeartbeats 4000000 in
set_option maxRecDepth 100000 in
theorem w_M_good_8 {l : Launch} {D : va_G} {X : va_W} {ad : N3 → Nat} {ca : Nat → ClassId} (a1 : Int32) (a2 : Int64)  {p : Program} {e : Env} {s : State} {m : MethodId} {below : List Frame} {meth : Method} {c : Code} {A : Nat → Prop} (hy : Hy p s m ([.ref (ad (1, 0, 0)), .int a1, .long a2] : List Value).toArray meth c b_M_good 8 (some .boolean) R_M GG D clM (tysM ca) nwM) (hA : ∀ q, s.heap.size ≤ q → A q) {res : Int32 × St} : ∀ (n : Nat) (S : St) (l4 : Int32) , ok_M_good_8 a1 a2 n S l4 → f_M_good_8 a1 a2 n S l4 = res → ∀ (H : Heap) (locs : List Loc) (ls : Array Slot), Wd D clM A s.heap (zw X ad TM (cfM ad ca) S) H locs → lv_has ls 8 [(0, .ref (ad (1, 0, 0))), (1, .int a1), (4, .int l4)] → W p l e { frames := 3, cells := 0, slots := 0, locals := 72 } s m ([.ref (ad (1, 0, 0)), .int a1, .long a2] : List Value).toArray below meth c H locs 0 0 (MQ below (eI D clM X ad TM (cfM ad ca) A res) ([.ref (ad (1, 0, 0)), .int a1, .long a2] : List Value).toArray s 0 0 A) (F0 m 8 ls []) := by
  have hF := hy.1
  have hx := hF.1
  have hb := hF.2.1
  have hK := hy.2.2.2
  intro n
  induction n with
  | zero =>
    intro S l4 hk
    exact hk.elim
  | succ n ih =>
    intro S l4 hk hr H locs ls hW hl
    refine lv_iload (pc := 8) hx hb d_M_good_8 (lv_at hl 2 rfl) ?_
    refine lv_bipush (pc := 10) (v := 6) hx hb d_M_good_10 (by decide) ?_
    refine lv_icmp_ge (pc := 12) (tgt := 53) hx hb d_M_good_12 (by decide) (fun c4 => ?_) (fun c4 => ?_)
    · have hk := hk.1 c4
      have hr := (if_pos c4).symm.trans hr
      refine lv_aload_n (pc := 53) hx hb d_M_good_53 rfl (lv_at hl 0 rfl) ?_
      have o5 := hk.1
      have hk := hk.2
      obtain ⟨r6, er6⟩ : ∃ z : Int64 × St, z = f_M_leaf S := ⟨_, rfl⟩
      have hk := lt_p er6 hk
      have hr := lt_e er6 hr
      refine z_goL (pc := 54) hW hA (show (r6.1, r6.2) = _ from er6) (z_runV hF hK hW (c_M_leaf l D X ad ca S o5 _) cd_M_leaf gw_880 tm1 rfl rfl ⟨Nat.le_of_ble_eq_true rfl, Nat.le_of_ble_eq_true rfl⟩ ⟨Nat.zero_le _, Nat.zero_le _⟩ rfl rfl hl.1 (Nat.le_of_ble_eq_true rfl) d_M_good_54) (fun H locs (hW : Wd D clM A s.heap (zw X ad TM (cfM ad ca) r6.2) H locs) => ?_)
      refine lv_lstore (pc := 57) (lv' := [(4, .long r6.1), (0, .ref (ad (1, 0, 0))), (1, .int a1)]) hx hb d_M_good_57 hl (by decide) rfl (fun ls hl => ?_)
      refine lv_iconst (pc := 59) (v := 0) hx hb d_M_good_59 (by decide) ?_
      refine lv_istore (pc := 60) (lv' := [(6, .int (0 : Int32)), (4, .long r6.1), (0, .ref (ad (1, 0, 0))), (1, .int a1)]) hx hb d_M_good_60 hl (by decide) rfl (fun ls hl => ?_)
      exact w_M_good_62 a1 a2 hy hA 200 r6.2 r6.1 (0 : Int32) hk hr _ _ _ hW (lv_sub hl [2, 3, 1, 0] rfl)
    · have hk := hk.2 c4
      have hr := (if_neg c4).symm.trans hr
      refine lv_aload_n (pc := 15) hx hb d_M_good_15 rfl (lv_at hl 0 rfl) ?_
      refine lv_aload_n (pc := 16) hx hb d_M_good_16 rfl (lv_at hl 0 rfl) ?_
      refine z_get (pc := 17) (v := .ref (ad (35, 0, 0))) hF hK.1 hW tm1 rfl rfl in_M 41 (by decide) gw_925 rfl rfl d_M_good_17 ?_
      refine lv_iload (pc := 20) hx hb d_M_good_20 (lv_at hl 2 rfl) ?_
      have b7 := hk.1
      have hk := hk.2
      refine z_lald (pc := 22) (v := S.2.1 35 0 0 l4.toNatClampNeg) hF hK.1 hW tm35 1 rfl rfl b7 rfl d_M_good_22 ?_
      refine lv_bipush (pc := 23) (v := 15) hx hb d_M_good_23 (by decide) ?_
      refine lv_aload_n (pc := 25) hx hb d_M_good_25 rfl (lv_at hl 0 rfl) ?_
      refine z_get (pc := 26) (v := .ref (ad (36, 0, 0))) hF hK.1 hW tm1 rfl rfl in_M 42 (by decide) gw_926 rfl rfl d_M_good_26 ?_
      refine lv_iload (pc := 29) hx hb d_M_good_29 (lv_at hl 2 rfl) ?_
      have b8 := hk.1
      have hk := hk.2
      refine z_iald (pc := 31) (v := S.1 36 0 0 l4.toNatClampNeg) hF hK.1 hW tm36 0 rfl rfl b8 rfl d_M_good_31 ?_
      refine lv_isub (pc := 32) hx hb d_M_good_32 ?_
      have o9 := hk.1
      have hk := hk.2
      obtain ⟨r10, er10⟩ : ∃ z : Int64 × St, z = f_M_after (S.2.1 35 0 0 l4.toNatClampNeg) ((15 : Int32) - (S.1 36 0 0 l4.toNatClampNeg)) S := ⟨_, rfl⟩
      have hk := lt_p er10 hk
      have hr := lt_e er10 hr
      refine z_goL (pc := 33) hW hA (show (r10.1, r10.2) = _ from er10) (z_runV hF hK hW (c_M_after l D X ad ca (S.2.1 35 0 0 l4.toNatClampNeg) ((15 : Int32) - (S.1 36 0 0 l4.toNatClampNeg)) S o9 _) cd_M_after gw_871 tm1 rfl rfl ⟨Nat.le_of_ble_eq_true rfl, Nat.le_of_ble_eq_true rfl⟩ ⟨Nat.zero_le _, Nat.zero_le _⟩ rfl rfl hl.1 (Nat.le_of_ble_eq_true rfl) d_M_good_33) (fun H locs (hW : Wd D clM A s.heap (zw X ad TM (cfM ad ca) r10.2) H locs) => ?_)
      refine lv_lstore (pc := 36) (lv' := [(5, .long r10.1), (0, .ref (ad (1, 0, 0))), (1, .int a1), (4, .int l4)]) hx hb d_M_good_36 hl (by decide) rfl (fun ls hl => ?_)
      refine lv_aload_n (pc := 38) hx hb d_M_good_38 rfl (lv_at hl 1 rfl) ?_
      refine z_get (pc := 39) (v := .ref (ad (35, 0, 0))) hF hK.1 hW tm1 rfl rfl in_M 41 (by decide) gw_925 rfl rfl d_M_good_39 ?_
      refine lv_iload (pc := 42) hx hb d_M_good_42 (lv_at hl 3 rfl) ?_
      refine lv_lload (pc := 44) hx hb d_M_good_44 (lv_at hl 0 rfl) ?_
      have b11 := hk.1
      have hk := hk.2
      obtain ⟨S12, eS12⟩ : ∃ z : St, z = sl r10.2 35 0 0 (l4.toNatClampNeg) r10.1 := ⟨_, rfl⟩
      have hk := lt_p eS12 hk
      have hr := lt_e eS12 hr
      refine z_last (pc := 46) (S' := S12) hF hK.1 hW tm35 1 rfl rfl b11 (zs_sl eS12 rfl) (zs_slo eS12) d_M_good_46 (fun H locs (hW : Wd D clM A s.heap (zw X ad TM (cfM ad ca) S12) H locs) => ?_)
      refine lv_iinc (pc := 47) (v := l4 + (1 : Int32)) (lv' := [(4, .int (l4 + (1 : Int32))), (5, .long r10.1), (0, .ref (ad (1, 0, 0))), (1, .int a1)]) (k := 3) hx hb d_M_good_47 hl rfl (z_inc (by decide)) (by decide) rfl (fun ls hl => ?_)
      refine lv_goto (pc := 50) (tgt := 8) hx hb d_M_good_50 (by decide) ?_
      exact ih S12 (l4 + (1 : Int32)) hk hr _ _ _ hW (lv_sub hl [2, 3, 0] rfl)
def f_M_good (a1 : Int32) (a2 : Int64) (S : St) : Int32 × St :=
  lt (f_M_digitsOf a2 S) fun (S3 : St) =>
  f_M_good_8 a1 a2 200 S3 (0 : Int32)
def ok_M_good (a1 : Int32) (a2 : Int64) (S : St) : Prop :=
  (ok_M_digitsOf a2 S) ∧ (
    lt (f_M_digitsOf a2 S) fun (S3 : St) =>
    ok_M_good_8 a1 a2 200 S3 (0 : Int32))
set_option maxHeartbeats 4000000 in
set_option maxRecDepth 100000 in
theorem c_M_good (l : Launch) (D : va_G) (X : va_W) (ad : N3 → Nat) (ca : Nat → ClassId) (a1 : Int32) (a2 : Int64)  (S : St) (hk : ok_M_good a1 a2 S) : cI l GG D clM (tysM ca) nwM X ad TM (cfM ad ca) y_M_good b_M_good 8 .boolean 3 72 [.ref (ad (1, 0, 0)), .int a1, .long a2] S (f_M_good a1 a2 S) := by
  generalize hr : f_M_good a1 a2 S = res
  refine zI_of pn_M (Nat.le_of_ble_eq_true rfl) (fun p e s m below meth c A ls hy hW hA hl => ?_)
  have hF := hy.1
  have hx := hF.1
  have hb := hF.2.1
  have hK := hy.2.2.2
  have hl : lv_has ls 8 [(0, .ref (ad (1, 0, 0))), (1, .int a1), (2, .long a2)] := hl
  refine lv_aload_n (pc := 0) hx hb d_M_good_0 rfl (lv_at hl 0 rfl) ?_
  refine lv_lload_n (pc := 1) hx hb d_M_good_1 rfl (lv_at hl 2 rfl) ?_
  have o1 := hk.1
  have hk := hk.2
  obtain ⟨S3, eS3⟩ : ∃ z : St, z = f_M_digitsOf a2 S := ⟨_, rfl⟩
  have hk := lt_p eS3 hk
  have hr := lt_e eS3 hr
  refine z_goV (pc := 2) hW hA eS3 (z_runV hF hK hW (c_M_digitsOf l D X ad ca a2 S o1 _) cd_M_digitsOf gw_1054 tm1 rfl rfl ⟨Nat.le_of_ble_eq_true rfl, Nat.le_of_ble_eq_true rfl⟩ ⟨Nat.zero_le _, Nat.zero_le _⟩ rfl rfl hl.1 (Nat.le_of_ble_eq_true rfl) d_M_good_2) (fun H locs (hW : Wd D clM A s.heap (zw X ad TM (cfM ad ca) S3) H locs) => ?_)
  refine lv_iconst (pc := 5) (v := 0) hx hb d_M_good_5 (by decide) ?_
  refine lv_istore (pc := 6) (lv' := [(4, .int (0 : Int32)), (0, .ref (ad (1, 0, 0))), (1, .int a1), (2, .long a2)]) hx hb d_M_good_6 hl (by decide) rfl (fun ls hl => ?_)
  exact w_M_good_8 a1 a2 hy hA 200 S3 (0 : Int32) hk hr _ _ _ hW (lv_sub hl [1, 2, 0] rfl)
theorem d_M_meant_0 : decode b_M_meant 0 = .ok (.iload_n 1, 1) := by decide +kernel
theorem d_M_meant_1 : decode b_M_meant 1 = .ok (.iconst 3, 1) := by decide +kernel
theorem d_M_meant_2 : decode b_M_meant 2 = .ok (.if_icmp .ne 17, 3) := by decide +kernel
theorem d_M_meant_5 : decode b_M_meant 5 = .ok (.aload_n 0, 1) := by decide +kernel
theorem d_M_meant_6 : decode b_M_meant 6 = .ok (.ldc2_w 173, 3) := by decide +kernel
theorem d_M_meant_9 : decode b_M_meant 9 = .ok (.iload_n 2, 1) := by decide +kernel
theorem d_M_meant_10 : decode b_M_meant 10 = .ok (.i2l, 1) := by decide +kernel
theorem d_M_meant_11 : decode b_M_meant 11 = .ok (.iload_n 3, 1) := by decide +kernel
theorem d_M_meant_12 : decode b_M_meant 12 = .ok (.i2l, 1) := by decide +kernel
theorem d_M_meant_13 : decode b_M_meant 13 = .ok (.invokevirtual 175, 3) := by decide +kernel
theorem d_M_meant_16 : decode b_M_meant 16 = .ok (.goto 11, 3) := by decide +kernel
theorem d_M_meant_19 : decode b_M_meant 19 = .ok (.aload_n 0, 1) := by decide +kernel
theorem d_M_meant_20 : decode b_M_meant 20 = .ok (.iload_n 1, 1) := by decide +kernel
theorem d_M_meant_21 : decode b_M_meant 21 = .ok (.i2l, 1) := by decide +kernel
theorem d_M_meant_22 : decode b_M_meant 22 = .ok (.iload_n 3, 1) := by decide +kernel
theorem d_M_meant_23 : decode b_M_meant 23 = .ok (.i2l, 1) := by decide +kernel
theorem d_M_meant_24 : decode b_M_meant 24 = .ok (.invokevirtual 137, 3) := by decide +kernel
theorem d_M_meant_27 : decode b_M_meant 27 = .ok (.lreturn, 1) := by decide +kernel
def f_M_meant (a1 : Int32) (a2 : Int32) (a3 : Int32) (S : St) : Int64 × St :=
  if a1 = (3 : Int32) then
    lt (f_M_three (3 : Int64) a2.toInt64 a3.toInt64 S) fun (r3 : Int64 × St) =>
    (r3.1, r3.2)
  else
    lt (f_M_two a1.toInt64 a3.toInt64 S) fun (r2 : Int64 × St) =>
    (r2.1, r2.2)
set_option maxHeartbeats 4000000 in
set_option maxRecDepth 100000 in
theorem c_M_meant (l : Launch) (D : va_G) (X : va_W) (ad : N3 → Nat) (ca : Nat → ClassId) (a1 : Int32) (a2 : Int32) (a3 : Int32)  (S : St) : cL l GG D clM (tysM ca) nwM X ad TM (cfM ad ca) y_M_meant b_M_meant 4 .long 2 48 [.ref (ad (1, 0, 0)), .int a1, .int a2, .int a3] S (f_M_meant a1 a2 a3 S) := by
  generalize hr : f_M_meant a1 a2 a3 S = res
  refine zL_of pn_M (Nat.le_of_ble_eq_true rfl) (fun p e s m below meth c A ls hy hW hA hl => ?_)
  have hF := hy.1
  have hx := hF.1
  have hb := hF.2.1
  have hK := hy.2.2.2
  have hl : lv_has ls 4 [(0, .ref (ad (1, 0, 0))), (1, .int a1), (2, .int a2), (3, .int a3)] := hl
  refine lv_iload_n (pc := 0) hx hb d_M_meant_0 rfl (lv_at hl 1 rfl) ?_
  refine lv_iconst (pc := 1) (v := 3) hx hb d_M_meant_1 (by decide) ?_
  refine lv_icmp_ne (pc := 2) (tgt := 19) hx hb d_M_meant_2 (by decide) (fun c1 => ?_) (fun c1 => ?_)
  · have hr := (if_neg c1).symm.trans hr
    refine lv_aload_n (pc := 19) hx hb d_M_meant_19 rfl (lv_at hl 0 rfl) ?_
    refine lv_iload_n (pc := 20) hx hb d_M_meant_20 rfl (lv_at hl 1 rfl) ?_
    refine lv_i2l (pc := 21) hx hb d_M_meant_21 rfl ?_
    refine lv_iload_n (pc := 22) hx hb d_M_meant_22 rfl (lv_at hl 3 rfl) ?_
    refine lv_i2l (pc := 23) hx hb d_M_meant_23 rfl ?_
    obtain ⟨r2, er2⟩ : ∃ z : Int64 × St, z = f_M_two a1.toInt64 a3.toInt64 S := ⟨_, rfl⟩
    have hr := lt_e er2 hr
    refine z_goL (pc := 24) hW hA (show (r2.1, r2.2) = _ from er2) (z_runV hF hK hW (c_M_two l D X ad ca a1.toInt64 a3.toInt64 S _) cd_M_two gw_876 tm1 rfl rfl ⟨Nat.le_of_ble_eq_true rfl, Nat.le_of_ble_eq_true rfl⟩ ⟨Nat.zero_le _, Nat.zero_le _⟩ rfl rfl hl.1 (Nat.le_of_ble_eq_true rfl) d_M_meant_24) (fun H locs (hW : Wd D clM A s.heap (zw X ad TM (cfM ad ca) r2.2) H locs) => ?_)
    exact z_lret (v := r2.1) hy hW hr.symm d_M_meant_27
  · have hr := (if_pos c1).symm.trans hr
    refine lv_aload_n (pc := 5) hx hb d_M_meant_5 rfl (lv_at hl 0 rfl) ?_
    refine lv_ldc2 (pc := 6) hx hb hF.2.2.2.1 (hF.2.2.2.2 _ gw_1045) d_M_meant_6 ?_
    refine lv_iload_n (pc := 9) hx hb d_M_meant_9 rfl (lv_at hl 2 rfl) ?_
    refine lv_i2l (pc := 10) hx hb d_M_meant_10 rfl ?_
    refine lv_iload_n (pc := 11) hx hb d_M_meant_11 rfl (lv_at hl 3 rfl) ?_
    refine lv_i2l (pc := 12) hx hb d_M_meant_12 rfl ?_
    obtain ⟨r3, er3⟩ : ∃ z : Int64 × St, z = f_M_three (3 : Int64) a2.toInt64 a3.toInt64 S := ⟨_, rfl⟩
    have hr := lt_e er3 hr
    refine z_goL (pc := 13) hW hA (show (r3.1, r3.2) = _ from er3) (z_runV hF hK hW (c_M_three l D X ad ca (3 : Int64) a2.toInt64 a3.toInt64 S _) cd_M_three gw_1046 tm1 rfl rfl ⟨Nat.le_of_ble_eq_true rfl, Nat.le_of_ble_eq_true rfl⟩ ⟨Nat.zero_le _, Nat.zero_le _⟩ rfl rfl hl.1 (Nat.le_of_ble_eq_true rfl) d_M_meant_13) (fun H locs (hW : Wd D clM A s.heap (zw X ad TM (cfM ad ca) r3.2) H locs) => ?_)
    refine lv_goto (pc := 16) (tgt := 27) hx hb d_M_meant_16 (by decide) ?_
    exact z_lret (v := r3.1) hy hW hr.symm d_M_meant_27
