theorem d_M_vote_0 : decode b_M_vote 0 = .ok (.aload_n 0, 1) := by decide +kernel
theorem d_M_vote_1 : decode b_M_vote 1 = .ok (.getfield 30, 3) := by decide +kernel
theorem d_M_vote_4 : decode b_M_vote 4 = .ok (.iload_n 3, 1) := by decide +kernel
theorem d_M_vote_5 : decode b_M_vote 5 = .ok (.iaload, 1) := by decide +kernel
theorem d_M_vote_6 : decode b_M_vote 6 = .ok (.istore 4, 2) := by decide +kernel
theorem d_M_vote_8 : decode b_M_vote 8 = .ok (.aload_n 0, 1) := by decide +kernel
theorem d_M_vote_9 : decode b_M_vote 9 = .ok (.getfield 67, 3) := by decide +kernel
theorem d_M_vote_12 : decode b_M_vote 12 = .ok (.bipush 100, 2) := by decide +kernel
theorem d_M_vote_14 : decode b_M_vote 14 = .ok (.iload_n 1, 1) := by decide +kernel
theorem d_M_vote_15 : decode b_M_vote 15 = .ok (.imul, 1) := by decide +kernel
theorem d_M_vote_16 : decode b_M_vote 16 = .ok (.iload_n 3, 1) := by decide +kernel
theorem d_M_vote_17 : decode b_M_vote 17 = .ok (.iadd, 1) := by decide +kernel
theorem d_M_vote_18 : decode b_M_vote 18 = .ok (.baload, 1) := by decide +kernel
theorem d_M_vote_19 : decode b_M_vote 19 = .ok (.ifCond .eq 14, 3) := by decide +kernel
theorem d_M_vote_22 : decode b_M_vote 22 = .ok (.iload 4, 2) := by decide +kernel
theorem d_M_vote_24 : decode b_M_vote 24 = .ok (.iconst 1, 1) := by decide +kernel
theorem d_M_vote_25 : decode b_M_vote 25 = .ok (.iadd, 1) := by decide +kernel
theorem d_M_vote_26 : decode b_M_vote 26 = .ok (.invokestatic 220, 3) := by decide +kernel
theorem d_M_vote_29 : decode b_M_vote 29 = .ok (.iload_n 1, 1) := by decide +kernel
theorem d_M_vote_30 : decode b_M_vote 30 = .ok (.if_icmp .eq 4, 3) := by decide +kernel
theorem d_M_vote_33 : decode b_M_vote 33 = .ok (.return_, 1) := by decide +kernel
theorem d_M_vote_34 : decode b_M_vote 34 = .ok (.aload_n 0, 1) := by decide +kernel
theorem d_M_vote_35 : decode b_M_vote 35 = .ok (.getfield 70, 3) := by decide +kernel
theorem d_M_vote_38 : decode b_M_vote 38 = .ok (.bipush 100, 2) := by decide +kernel
theorem d_M_vote_40 : decode b_M_vote 40 = .ok (.iload_n 1, 1) := by decide +kernel
theorem d_M_vote_41 : decode b_M_vote 41 = .ok (.imul, 1) := by decide +kernel
theorem d_M_vote_42 : decode b_M_vote 42 = .ok (.iload_n 3, 1) := by decide +kernel
theorem d_M_vote_43 : decode b_M_vote 43 = .ok (.iadd, 1) := by decide +kernel
theorem d_M_vote_44 : decode b_M_vote 44 = .ok (.iaload, 1) := by decide +kernel
theorem d_M_vote_45 : decode b_M_vote 45 = .ok (.invokestatic 224, 3) := by decide +kernel
theorem d_M_vote_48 : decode b_M_vote 48 = .ok (.istore 5, 2) := by decide +kernel
theorem d_M_vote_50 : decode b_M_vote 50 = .ok (.aload_n 0, 1) := by decide +kernel
theorem d_M_vote_51 : decode b_M_vote 51 = .ok (.getfield 70, 3) := by decide +kernel
theorem d_M_vote_54 : decode b_M_vote 54 = .ok (.bipush 100, 2) := by decide +kernel
theorem d_M_vote_56 : decode b_M_vote 56 = .ok (.iload_n 1, 1) := by decide +kernel
theorem d_M_vote_57 : decode b_M_vote 57 = .ok (.imul, 1) := by decide +kernel
theorem d_M_vote_58 : decode b_M_vote 58 = .ok (.iload_n 3, 1) := by decide +kernel
theorem d_M_vote_59 : decode b_M_vote 59 = .ok (.iadd, 1) := by decide +kernel
theorem d_M_vote_60 : decode b_M_vote 60 = .ok (.aload_n 0, 1) := by decide +kernel
theorem d_M_vote_61 : decode b_M_vote 61 = .ok (.getfield 70, 3) := by decide +kernel
theorem d_M_vote_64 : decode b_M_vote 64 = .ok (.bipush 100, 2) := by decide +kernel
theorem d_M_vote_66 : decode b_M_vote 66 = .ok (.iload_n 1, 1) := by decide +kernel
theorem d_M_vote_67 : decode b_M_vote 67 = .ok (.imul, 1) := by decide +kernel
theorem d_M_vote_68 : decode b_M_vote 68 = .ok (.iload_n 3, 1) := by decide +kernel
theorem d_M_vote_69 : decode b_M_vote 69 = .ok (.iadd, 1) := by decide +kernel
theorem d_M_vote_70 : decode b_M_vote 70 = .ok (.iaload, 1) := by decide +kernel
theorem d_M_vote_71 : decode b_M_vote 71 = .ok (.iconst 1, 1) := by decide +kernel
theorem d_M_vote_72 : decode b_M_vote 72 = .ok (.iload_n 2, 1) := by decide +kernel
theorem d_M_vote_73 : decode b_M_vote 73 = .ok (.ishl, 1) := by decide +kernel
theorem d_M_vote_74 : decode b_M_vote 74 = .ok (.ior, 1) := by decide +kernel
theorem d_M_vote_75 : decode b_M_vote 75 = .ok (.iastore, 1) := by decide +kernel
theorem d_M_vote_76 : decode b_M_vote 76 = .ok (.iload 5, 2) := by decide +kernel
theorem d_M_vote_78 : decode b_M_vote 78 = .ok (.iconst 2, 1) := by decide +kernel
theorem d_M_vote_79 : decode b_M_vote 79 = .ok (.if_icmp .ne 78, 3) := by decide +kernel
theorem d_M_vote_82 : decode b_M_vote 82 = .ok (.aload_n 0, 1) := by decide +kernel
theorem d_M_vote_83 : decode b_M_vote 83 = .ok (.getfield 70, 3) := by decide +kernel
theorem d_M_vote_86 : decode b_M_vote 86 = .ok (.bipush 100, 2) := by decide +kernel
theorem d_M_vote_88 : decode b_M_vote 88 = .ok (.iload_n 1, 1) := by decide +kernel
theorem d_M_vote_89 : decode b_M_vote 89 = .ok (.imul, 1) := by decide +kernel
theorem d_M_vote_90 : decode b_M_vote 90 = .ok (.iload_n 3, 1) := by decide +kernel
theorem d_M_vote_91 : decode b_M_vote 91 = .ok (.iadd, 1) := by decide +kernel
theorem d_M_vote_92 : decode b_M_vote 92 = .ok (.iaload, 1) := by decide +kernel
theorem d_M_vote_93 : decode b_M_vote 93 = .ok (.invokestatic 224, 3) := by decide +kernel
theorem d_M_vote_96 : decode b_M_vote 96 = .ok (.iconst 3, 1) := by decide +kernel
theorem d_M_vote_97 : decode b_M_vote 97 = .ok (.if_icmp .ne 60, 3) := by decide +kernel
theorem d_M_vote_100 : decode b_M_vote 100 = .ok (.aload_n 0, 1) := by decide +kernel
theorem d_M_vote_101 : decode b_M_vote 101 = .ok (.getfield 39, 3) := by decide +kernel
theorem d_M_vote_104 : decode b_M_vote 104 = .ok (.iload_n 3, 1) := by decide +kernel
theorem d_M_vote_105 : decode b_M_vote 105 = .ok (.iconst 1, 1) := by decide +kernel
theorem d_M_vote_106 : decode b_M_vote 106 = .ok (.bastore, 1) := by decide +kernel
theorem d_M_vote_107 : decode b_M_vote 107 = .ok (.iload 4, 2) := by decide +kernel
theorem d_M_vote_109 : decode b_M_vote 109 = .ok (.aload_n 0, 1) := by decide +kernel
theorem d_M_vote_110 : decode b_M_vote 110 = .ok (.getfield 46, 3) := by decide +kernel
theorem d_M_vote_113 : decode b_M_vote 113 = .ok (.iload_n 1, 1) := by decide +kernel
theorem d_M_vote_114 : decode b_M_vote 114 = .ok (.iaload, 1) := by decide +kernel
theorem d_M_vote_115 : decode b_M_vote 115 = .ok (.iconst 1, 1) := by decide +kernel
theorem d_M_vote_116 : decode b_M_vote 116 = .ok (.isub, 1) := by decide +kernel
theorem d_M_vote_117 : decode b_M_vote 117 = .ok (.if_icmp .lt 40, 3) := by decide +kernel
theorem d_M_vote_120 : decode b_M_vote 120 = .ok (.iload 4, 2) := by decide +kernel
theorem d_M_vote_122 : decode b_M_vote 122 = .ok (.aload_n 0, 1) := by decide +kernel
theorem d_M_vote_123 : decode b_M_vote 123 = .ok (.getfield 30, 3) := by decide +kernel
theorem d_M_vote_126 : decode b_M_vote 126 = .ok (.aload_n 0, 1) := by decide +kernel
theorem d_M_vote_127 : decode b_M_vote 127 = .ok (.getfield 55, 3) := by decide +kernel
theorem d_M_vote_130 : decode b_M_vote 130 = .ok (.iload_n 1, 1) := by decide +kernel
theorem d_M_vote_131 : decode b_M_vote 131 = .ok (.iaload, 1) := by decide +kernel
theorem d_M_vote_132 : decode b_M_vote 132 = .ok (.iaload, 1) := by decide +kernel
theorem d_M_vote_133 : decode b_M_vote 133 = .ok (.if_icmp .le 24, 3) := by decide +kernel
theorem d_M_vote_136 : decode b_M_vote 136 = .ok (.aload_n 0, 1) := by decide +kernel
theorem d_M_vote_137 : decode b_M_vote 137 = .ok (.getfield 55, 3) := by decide +kernel
theorem d_M_vote_140 : decode b_M_vote 140 = .ok (.iload_n 1, 1) := by decide +kernel
theorem d_M_vote_141 : decode b_M_vote 141 = .ok (.iload_n 3, 1) := by decide +kernel
theorem d_M_vote_142 : decode b_M_vote 142 = .ok (.iastore, 1) := by decide +kernel
theorem d_M_vote_143 : decode b_M_vote 143 = .ok (.aload_n 0, 1) := by decide +kernel
theorem d_M_vote_144 : decode b_M_vote 144 = .ok (.iload_n 1, 1) := by decide +kernel
theorem d_M_vote_145 : decode b_M_vote 145 = .ok (.iload 4, 2) := by decide +kernel
theorem d_M_vote_147 : decode b_M_vote 147 = .ok (.iconst 1, 1) := by decide +kernel
theorem d_M_vote_148 : decode b_M_vote 148 = .ok (.iadd, 1) := by decide +kernel
theorem d_M_vote_149 : decode b_M_vote 149 = .ok (.invokevirtual 217, 3) := by decide +kernel
theorem d_M_vote_152 : decode b_M_vote 152 = .ok (.aload_n 0, 1) := by decide +kernel
theorem d_M_vote_153 : decode b_M_vote 153 = .ok (.iload_n 1, 1) := by decide +kernel
theorem d_M_vote_154 : decode b_M_vote 154 = .ok (.invokevirtual 227, 3) := by decide +kernel
theorem d_M_vote_157 : decode b_M_vote 157 = .ok (.return_, 1) := by decide +kernel
def f_M_vote (a1 : Int32) (a2 : Int32) (a3 : Int32) (S : St) : St :=
  if (S.1 19 0 0 (((100 : Int32) * a1) + a3).toNatClampNeg) = 0 then
    S
  else
    lt (f_M_leader ((S.1 7 0 0 a3.toNatClampNeg) + (1 : Int32)) S) fun (r4 : Int32) =>
    if r4 = a1 then
      lt (f_M_bits (S.1 20 0 0 (((100 : Int32) * a1) + a3).toNatClampNeg) S) fun (r7 : Int32) =>
      lt (si S 20 0 0 ((((100 : Int32) * a1) + a3).toNatClampNeg) ((S.1 20 0 0 (((100 : Int32) * a1) + a3).toNatClampNeg) ||| ((1 : Int32) <<< (a2 &&& 31)))) fun (S10 : St) =>
      if r7 = (2 : Int32) then
        lt (f_M_bits (S10.1 20 0 0 (((100 : Int32) * a1) + a3).toNatClampNeg) S10) fun (r13 : Int32) =>
        if r13 = (3 : Int32) then
          lt (si S10 10 0 0 (a3.toNatClampNeg) (1 : Int32)) fun (S16 : St) =>
          if (S.1 7 0 0 a3.toNatClampNeg) < ((S16.1 12 0 0 a1.toNatClampNeg) - (1 : Int32)) then
            S16
          else
            if (S.1 7 0 0 a3.toNatClampNeg) ≤ (S16.1 7 0 0 (S16.1 15 0 0 a1.toNatClampNeg).toNatClampNeg) then
              S16
            else
              lt (si S16 15 0 0 (a1.toNatClampNeg) a3) fun (S23 : St) =>
              lt (f_M_enter a1 ((S.1 7 0 0 a3.toNatClampNeg) + (1 : Int32)) S23) fun (S26 : St) =>
              lt (f_M_propose a1 S26) fun (S29 : St) =>
              S29
        else
          S10
      else
        S10
    else
      S
def ok_M_vote (a1 : Int32) (a2 : Int32) (a3 : Int32) (S : St) : Prop :=
  (vp_in a3 100) ∧ (
    (vp_in (((100 : Int32) * a1) + a3) 400) ∧ (
      ((S.1 19 0 0 (((100 : Int32) * a1) + a3).toNatClampNeg) = 0 → (
        True)) ∧ (¬ ((S.1 19 0 0 (((100 : Int32) * a1) + a3).toNatClampNeg) = 0) → (
        lt (f_M_leader ((S.1 7 0 0 a3.toNatClampNeg) + (1 : Int32)) S) fun (r4 : Int32) =>
        (r4 = a1 → (
          (vp_in (((100 : Int32) * a1) + a3) 400) ∧ (
            lt (f_M_bits (S.1 20 0 0 (((100 : Int32) * a1) + a3).toNatClampNeg) S) fun (r7 : Int32) =>
            (vp_in (((100 : Int32) * a1) + a3) 400) ∧ (
              (vp_in (((100 : Int32) * a1) + a3) 400) ∧ (
                lt (si S 20 0 0 ((((100 : Int32) * a1) + a3).toNatClampNeg) ((S.1 20 0 0 (((100 : Int32) * a1) + a3).toNatClampNeg) ||| ((1 : Int32) <<< (a2 &&& 31)))) fun (S10 : St) =>
                (r7 = (2 : Int32) → (
                  (vp_in (((100 : Int32) * a1) + a3) 400) ∧ (
                    lt (f_M_bits (S10.1 20 0 0 (((100 : Int32) * a1) + a3).toNatClampNeg) S10) fun (r13 : Int32) =>
                    (r13 = (3 : Int32) → (
                      (vp_in a3 100) ∧ (
                        lt (si S10 10 0 0 (a3.toNatClampNeg) (1 : Int32)) fun (S16 : St) =>
                        (vp_in a1 4) ∧ (
                          ((S.1 7 0 0 a3.toNatClampNeg) < ((S16.1 12 0 0 a1.toNatClampNeg) - (1 : Int32)) → (
                            True)) ∧ (¬ ((S.1 7 0 0 a3.toNatClampNeg) < ((S16.1 12 0 0 a1.toNatClampNeg) - (1 : Int32))) → (
                            (vp_in a1 4) ∧ (
                              (vp_in (S16.1 15 0 0 a1.toNatClampNeg) 100) ∧ (
                                ((S.1 7 0 0 a3.toNatClampNeg) ≤ (S16.1 7 0 0 (S16.1 15 0 0 a1.toNatClampNeg).toNatClampNeg) → (
                                  True)) ∧ (¬ ((S.1 7 0 0 a3.toNatClampNeg) ≤ (S16.1 7 0 0 (S16.1 15 0 0 a1.toNatClampNeg).toNatClampNeg)) → (
                                  (vp_in a1 4) ∧ (
                                    lt (si S16 15 0 0 (a1.toNatClampNeg) a3) fun (S23 : St) =>
                                    (ok_M_enter a1 ((S.1 7 0 0 a3.toNatClampNeg) + (1 : Int32)) S23) ∧ (
                                      lt (f_M_enter a1 ((S.1 7 0 0 a3.toNatClampNeg) + (1 : Int32)) S23) fun (S26 : St) =>
                                      (ok_M_propose a1 S26) ∧ (
                                        True))))))))))))) ∧ (¬ (r13 = (3 : Int32)) → (
                      True))))) ∧ (¬ (r7 = (2 : Int32)) → (
                  True))))))) ∧ (¬ (r4 = a1) → (
          True))))))
set_option maxHeartbeats 4000000 in
set_option maxRecDepth 100000 in
theorem c_M_vote (l : Launch) (D : va_G) (X : va_W) (ad : N3 → Nat) (ca : Nat → ClassId) (a1 : Int32) (a2 : Int32) (a3 : Int32)  (S : St) (hk : ok_M_vote a1 a2 a3 S) : cV l GG D clM (tysM ca) nwM X ad TM (cfM ad ca) y_M_vote b_M_vote 6 5 122 [.ref (ad (1, 0, 0)), .int a1, .int a2, .int a3] S (f_M_vote a1 a2 a3 S) := by
  generalize hr : f_M_vote a1 a2 a3 S = res
  refine zV_of pn_M (Nat.le_of_ble_eq_true rfl) (fun p e s m below meth c A ls hy hW hA hl => ?_)
  have hF := hy.1
  have hx := hF.1
  have hb := hF.2.1
  have hK := hy.2.2.2
  have hl : lv_has ls 6 [(0, .ref (ad (1, 0, 0))), (1, .int a1), (2, .int a2), (3, .int a3)] := hl
  refine lv_aload_n (pc := 0) hx hb d_M_vote_0 rfl (lv_at hl 0 rfl) ?_
  refine z_get (pc := 1) (v := .ref (ad (7, 0, 0))) hF hK.1 hW tm1 rfl rfl in_M 12 (by decide) gw_896 rfl rfl d_M_vote_1 ?_
  refine lv_iload_n (pc := 4) hx hb d_M_vote_4 rfl (lv_at hl 3 rfl) ?_
  have b1 := hk.1
  have hk := hk.2
  refine z_iald (pc := 5) (v := S.1 7 0 0 a3.toNatClampNeg) hF hK.1 hW tm7 0 rfl rfl b1 rfl d_M_vote_5 ?_
  refine lv_istore (pc := 6) (lv' := [(4, .int (S.1 7 0 0 a3.toNatClampNeg)), (0, .ref (ad (1, 0, 0))), (1, .int a1), (2, .int a2), (3, .int a3)]) hx hb d_M_vote_6 hl (by decide) rfl (fun ls hl => ?_)
  refine lv_aload_n (pc := 8) hx hb d_M_vote_8 rfl (lv_at hl 1 rfl) ?_
  refine z_get (pc := 9) (v := .ref (ad (19, 0, 0))) hF hK.1 hW tm1 rfl rfl in_M 24 (by decide) gw_908 rfl rfl d_M_vote_9 ?_
  refine lv_bipush (pc := 12) (v := 100) hx hb d_M_vote_12 (by decide) ?_
  refine lv_iload_n (pc := 14) hx hb d_M_vote_14 rfl (lv_at hl 2 rfl) ?_
  refine lv_imul (pc := 15) hx hb d_M_vote_15 ?_
  refine lv_iload_n (pc := 16) hx hb d_M_vote_16 rfl (lv_at hl 4 rfl) ?_
  refine lv_iadd (pc := 17) hx hb d_M_vote_17 ?_
  have b2 := hk.1
  have hk := hk.2
  refine z_zald (pc := 18) (v := S.1 19 0 0 (((100 : Int32) * a1) + a3).toNatClampNeg) hF hK.1 hW tm19 2 rfl rfl b2 rfl d_M_vote_18 ?_
  refine lv_if_eq (pc := 19) (tgt := 33) hx hb d_M_vote_19 (by decide) (fun c3 => ?_) (fun c3 => ?_)
  · have hk := hk.1 c3
    have hr := (if_pos c3).symm.trans hr
    exact z_vret hy hW hr.symm d_M_vote_33
  · have hk := hk.2 c3
    have hr := (if_neg c3).symm.trans hr
    refine lv_iload (pc := 22) hx hb d_M_vote_22 (lv_at hl 0 rfl) ?_
    refine lv_iconst (pc := 24) (v := 1) hx hb d_M_vote_24 (by decide) ?_
    refine lv_iadd (pc := 25) hx hb d_M_vote_25 ?_
    obtain ⟨r4, er4⟩ : ∃ z : Int32, z = f_M_leader ((S.1 7 0 0 a3.toNatClampNeg) + (1 : Int32)) S := ⟨_, rfl⟩
    have hk := lt_p er4 hk
    have hr := lt_e er4 hr
    refine p_go (pc := 26) (congrArg Value.int er4) (p_runS hF hK hW (c_M_leader l D X ad ca ((S.1 7 0 0 a3.toNatClampNeg) + (1 : Int32)) S _) cd_M_leader gw_1059 ⟨Nat.le_of_ble_eq_true rfl, Nat.le_of_ble_eq_true rfl⟩ ⟨Nat.zero_le _, Nat.zero_le _⟩ rfl rfl hl.1 (Nat.le_of_ble_eq_true rfl) d_M_vote_26) ?_
    refine lv_iload_n (pc := 29) hx hb d_M_vote_29 rfl (lv_at hl 2 rfl) ?_
    refine lv_icmp_eq (pc := 30) (tgt := 34) hx hb d_M_vote_30 (by decide) (fun c5 => ?_) (fun c5 => ?_)
    · have hk := hk.1 c5
      have hr := (if_pos c5).symm.trans hr
      refine lv_aload_n (pc := 34) hx hb d_M_vote_34 rfl (lv_at hl 1 rfl) ?_
      refine z_get (pc := 35) (v := .ref (ad (20, 0, 0))) hF hK.1 hW tm1 rfl rfl in_M 25 (by decide) gw_909 rfl rfl d_M_vote_35 ?_
      refine lv_bipush (pc := 38) (v := 100) hx hb d_M_vote_38 (by decide) ?_
      refine lv_iload_n (pc := 40) hx hb d_M_vote_40 rfl (lv_at hl 2 rfl) ?_
      refine lv_imul (pc := 41) hx hb d_M_vote_41 ?_
      refine lv_iload_n (pc := 42) hx hb d_M_vote_42 rfl (lv_at hl 4 rfl) ?_
      refine lv_iadd (pc := 43) hx hb d_M_vote_43 ?_
      have b6 := hk.1
      have hk := hk.2
      refine z_iald (pc := 44) (v := S.1 20 0 0 (((100 : Int32) * a1) + a3).toNatClampNeg) hF hK.1 hW tm20 0 rfl rfl b6 rfl d_M_vote_44 ?_
      obtain ⟨r7, er7⟩ : ∃ z : Int32, z = f_M_bits (S.1 20 0 0 (((100 : Int32) * a1) + a3).toNatClampNeg) S := ⟨_, rfl⟩
      have hk := lt_p er7 hk
      have hr := lt_e er7 hr
      refine p_go (pc := 45) (congrArg Value.int er7) (p_runS hF hK hW (c_M_bits l D X ad ca (S.1 20 0 0 (((100 : Int32) * a1) + a3).toNatClampNeg) S _) cd_M_bits gw_1094 ⟨Nat.le_of_ble_eq_true rfl, Nat.le_of_ble_eq_true rfl⟩ ⟨Nat.zero_le _, Nat.zero_le _⟩ rfl rfl hl.1 (Nat.le_of_ble_eq_true rfl) d_M_vote_45) ?_
      refine lv_istore (pc := 48) (lv' := [(5, .int r7), (4, .int (S.1 7 0 0 a3.toNatClampNeg)), (0, .ref (ad (1, 0, 0))), (1, .int a1), (2, .int a2), (3, .int a3)]) hx hb d_M_vote_48 hl (by decide) rfl (fun ls hl => ?_)
      refine lv_aload_n (pc := 50) hx hb d_M_vote_50 rfl (lv_at hl 2 rfl) ?_
      refine z_get (pc := 51) (v := .ref (ad (20, 0, 0))) hF hK.1 hW tm1 rfl rfl in_M 25 (by decide) gw_909 rfl rfl d_M_vote_51 ?_
      refine lv_bipush (pc := 54) (v := 100) hx hb d_M_vote_54 (by decide) ?_
      refine lv_iload_n (pc := 56) hx hb d_M_vote_56 rfl (lv_at hl 3 rfl) ?_
      refine lv_imul (pc := 57) hx hb d_M_vote_57 ?_
      refine lv_iload_n (pc := 58) hx hb d_M_vote_58 rfl (lv_at hl 5 rfl) ?_
      refine lv_iadd (pc := 59) hx hb d_M_vote_59 ?_
      refine lv_aload_n (pc := 60) hx hb d_M_vote_60 rfl (lv_at hl 2 rfl) ?_
      refine z_get (pc := 61) (v := .ref (ad (20, 0, 0))) hF hK.1 hW tm1 rfl rfl in_M 25 (by decide) gw_909 rfl rfl d_M_vote_61 ?_
      refine lv_bipush (pc := 64) (v := 100) hx hb d_M_vote_64 (by decide) ?_
      refine lv_iload_n (pc := 66) hx hb d_M_vote_66 rfl (lv_at hl 3 rfl) ?_
      refine lv_imul (pc := 67) hx hb d_M_vote_67 ?_
      refine lv_iload_n (pc := 68) hx hb d_M_vote_68 rfl (lv_at hl 5 rfl) ?_
      refine lv_iadd (pc := 69) hx hb d_M_vote_69 ?_
      have b8 := hk.1
      have hk := hk.2
      refine z_iald (pc := 70) (v := S.1 20 0 0 (((100 : Int32) * a1) + a3).toNatClampNeg) hF hK.1 hW tm20 0 rfl rfl b8 rfl d_M_vote_70 ?_
      refine lv_iconst (pc := 71) (v := 1) hx hb d_M_vote_71 (by decide) ?_
      refine lv_iload_n (pc := 72) hx hb d_M_vote_72 rfl (lv_at hl 4 rfl) ?_
      refine lv_ishl (pc := 73) hx hb d_M_vote_73 ?_
      refine lv_ior (pc := 74) hx hb d_M_vote_74 ?_
      have b9 := hk.1
      have hk := hk.2
      obtain ⟨S10, eS10⟩ : ∃ z : St, z = si S 20 0 0 ((((100 : Int32) * a1) + a3).toNatClampNeg) ((S.1 20 0 0 (((100 : Int32) * a1) + a3).toNatClampNeg) ||| ((1 : Int32) <<< (a2 &&& 31))) := ⟨_, rfl⟩
      have hk := lt_p eS10 hk
      have hr := lt_e eS10 hr
      refine z_iast (pc := 75) (S' := S10) hF hK.1 hW tm20 0 rfl rfl b9 (zs_si eS10 rfl) (zs_sio eS10) d_M_vote_75 (fun H locs (hW : Wd D clM A s.heap (zw X ad TM (cfM ad ca) S10) H locs) => ?_)
      refine lv_iload (pc := 76) hx hb d_M_vote_76 (lv_at hl 0 rfl) ?_
      refine lv_iconst (pc := 78) (v := 2) hx hb d_M_vote_78 (by decide) ?_
      refine lv_icmp_ne (pc := 79) (tgt := 157) hx hb d_M_vote_79 (by decide) (fun c11 => ?_) (fun c11 => ?_)
      · have hk := hk.2 c11
        have hr := (if_neg c11).symm.trans hr
        exact z_vret hy hW hr.symm d_M_vote_157
      · have hk := hk.1 c11
        have hr := (if_pos c11).symm.trans hr
        refine lv_aload_n (pc := 82) hx hb d_M_vote_82 rfl (lv_at hl 2 rfl) ?_
        refine z_get (pc := 83) (v := .ref (ad (20, 0, 0))) hF hK.1 hW tm1 rfl rfl in_M 25 (by decide) gw_909 rfl rfl d_M_vote_83 ?_
        refine lv_bipush (pc := 86) (v := 100) hx hb d_M_vote_86 (by decide) ?_
        refine lv_iload_n (pc := 88) hx hb d_M_vote_88 rfl (lv_at hl 3 rfl) ?_
        refine lv_imul (pc := 89) hx hb d_M_vote_89 ?_
        refine lv_iload_n (pc := 90) hx hb d_M_vote_90 rfl (lv_at hl 5 rfl) ?_
        refine lv_iadd (pc := 91) hx hb d_M_vote_91 ?_
        have b12 := hk.1
        have hk := hk.2
        refine z_iald (pc := 92) (v := S10.1 20 0 0 (((100 : Int32) * a1) + a3).toNatClampNeg) hF hK.1 hW tm20 0 rfl rfl b12 rfl d_M_vote_92 ?_
        obtain ⟨r13, er13⟩ : ∃ z : Int32, z = f_M_bits (S10.1 20 0 0 (((100 : Int32) * a1) + a3).toNatClampNeg) S10 := ⟨_, rfl⟩
        have hk := lt_p er13 hk
        have hr := lt_e er13 hr
        refine p_go (pc := 93) (congrArg Value.int er13) (p_runS hF hK hW (c_M_bits l D X ad ca (S10.1 20 0 0 (((100 : Int32) * a1) + a3).toNatClampNeg) S10 _) cd_M_bits gw_1094 ⟨Nat.le_of_ble_eq_true rfl, Nat.le_of_ble_eq_true rfl⟩ ⟨Nat.zero_le _, Nat.zero_le _⟩ rfl rfl hl.1 (Nat.le_of_ble_eq_true rfl) d_M_vote_93) ?_
        refine lv_iconst (pc := 96) (v := 3) hx hb d_M_vote_96 (by decide) ?_
        refine lv_icmp_ne (pc := 97) (tgt := 157) hx hb d_M_vote_97 (by decide) (fun c14 => ?_) (fun c14 => ?_)
        · have hk := hk.2 c14
          have hr := (if_neg c14).symm.trans hr
          exact z_vret hy hW hr.symm d_M_vote_157
        · have hk := hk.1 c14
          have hr := (if_pos c14).symm.trans hr
          refine lv_aload_n (pc := 100) hx hb d_M_vote_100 rfl (lv_at hl 2 rfl) ?_
          refine z_get (pc := 101) (v := .ref (ad (10, 0, 0))) hF hK.1 hW tm1 rfl rfl in_M 15 (by decide) gw_899 rfl rfl d_M_vote_101 ?_
          refine lv_iload_n (pc := 104) hx hb d_M_vote_104 rfl (lv_at hl 5 rfl) ?_
          refine lv_iconst (pc := 105) (v := 1) hx hb d_M_vote_105 (by decide) ?_
          have b15 := hk.1
          have hk := hk.2
          obtain ⟨S16, eS16⟩ : ∃ z : St, z = si S10 10 0 0 (a3.toNatClampNeg) (1 : Int32) := ⟨_, rfl⟩
          have hk := lt_p eS16 hk
          have hr := lt_e eS16 hr
          refine z_zast (pc := 106) (S' := S16) hF hK.1 hW tm10 2 rfl rfl b15 (zs_si eS16 rfl) (zs_sio eS16) d_M_vote_106 (fun H locs (hW : Wd D clM A s.heap (zw X ad TM (cfM ad ca) S16) H locs) => ?_)
          refine lv_iload (pc := 107) hx hb d_M_vote_107 (lv_at hl 1 rfl) ?_
          refine lv_aload_n (pc := 109) hx hb d_M_vote_109 rfl (lv_at hl 2 rfl) ?_
          refine z_get (pc := 110) (v := .ref (ad (12, 0, 0))) hF hK.1 hW tm1 rfl rfl in_M 17 (by decide) gw_901 rfl rfl d_M_vote_110 ?_
          refine lv_iload_n (pc := 113) hx hb d_M_vote_113 rfl (lv_at hl 3 rfl) ?_
          have b17 := hk.1
          have hk := hk.2
          refine z_iald (pc := 114) (v := S16.1 12 0 0 a1.toNatClampNeg) hF hK.1 hW tm12 0 rfl rfl b17 rfl d_M_vote_114 ?_
          refine lv_iconst (pc := 115) (v := 1) hx hb d_M_vote_115 (by decide) ?_
          refine lv_isub (pc := 116) hx hb d_M_vote_116 ?_
          refine lv_icmp_lt (pc := 117) (tgt := 157) hx hb d_M_vote_117 (by decide) (fun c18 => ?_) (fun c18 => ?_)
          · have hk := hk.1 c18
            have hr := (if_pos c18).symm.trans hr
            exact z_vret hy hW hr.symm d_M_vote_157
          · have hk := hk.2 c18
            have hr := (if_neg c18).symm.trans hr
            refine lv_iload (pc := 120) hx hb d_M_vote_120 (lv_at hl 1 rfl) ?_
            refine lv_aload_n (pc := 122) hx hb d_M_vote_122 rfl (lv_at hl 2 rfl) ?_
            refine z_get (pc := 123) (v := .ref (ad (7, 0, 0))) hF hK.1 hW tm1 rfl rfl in_M 12 (by decide) gw_896 rfl rfl d_M_vote_123 ?_
            refine lv_aload_n (pc := 126) hx hb d_M_vote_126 rfl (lv_at hl 2 rfl) ?_
            refine z_get (pc := 127) (v := .ref (ad (15, 0, 0))) hF hK.1 hW tm1 rfl rfl in_M 20 (by decide) gw_904 rfl rfl d_M_vote_127 ?_
            refine lv_iload_n (pc := 130) hx hb d_M_vote_130 rfl (lv_at hl 3 rfl) ?_
            have b19 := hk.1
            have hk := hk.2
            refine z_iald (pc := 131) (v := S16.1 15 0 0 a1.toNatClampNeg) hF hK.1 hW tm15 0 rfl rfl b19 rfl d_M_vote_131 ?_
            have b20 := hk.1
            have hk := hk.2
            refine z_iald (pc := 132) (v := S16.1 7 0 0 (S16.1 15 0 0 a1.toNatClampNeg).toNatClampNeg) hF hK.1 hW tm7 0 rfl rfl b20 rfl d_M_vote_132 ?_
            refine lv_icmp_le (pc := 133) (tgt := 157) hx hb d_M_vote_133 (by decide) (fun c21 => ?_) (fun c21 => ?_)
            · have hk := hk.1 c21
              have hr := (if_pos c21).symm.trans hr
              exact z_vret hy hW hr.symm d_M_vote_157
            · have hk := hk.2 c21
              have hr := (if_neg c21).symm.trans hr
              refine lv_aload_n (pc := 136) hx hb d_M_vote_136 rfl (lv_at hl 2 rfl) ?_
              refine z_get (pc := 137) (v := .ref (ad (15, 0, 0))) hF hK.1 hW tm1 rfl rfl in_M 20 (by decide) gw_904 rfl rfl d_M_vote_137 ?_
              refine lv_iload_n (pc := 140) hx hb d_M_vote_140 rfl (lv_at hl 3 rfl) ?_
              refine lv_iload_n (pc := 141) hx hb d_M_vote_141 rfl (lv_at hl 5 rfl) ?_
              have b22 := hk.1
              have hk := hk.2
              obtain ⟨S23, eS23⟩ : ∃ z : St, z = si S16 15 0 0 (a1.toNatClampNeg) a3 := ⟨_, rfl⟩
              have hk := lt_p eS23 hk
              have hr := lt_e eS23 hr
              refine z_iast (pc := 142) (S' := S23) hF hK.1 hW tm15 0 rfl rfl b22 (zs_si eS23 rfl) (zs_sio eS23) d_M_vote_142 (fun H locs (hW : Wd D clM A s.heap (zw X ad TM (cfM ad ca) S23) H locs) => ?_)
              refine lv_aload_n (pc := 143) hx hb d_M_vote_143 rfl (lv_at hl 2 rfl) ?_
              refine lv_iload_n (pc := 144) hx hb d_M_vote_144 rfl (lv_at hl 3 rfl) ?_
              refine lv_iload (pc := 145) hx hb d_M_vote_145 (lv_at hl 1 rfl) ?_
              refine lv_iconst (pc := 147) (v := 1) hx hb d_M_vote_147 (by decide) ?_
              refine lv_iadd (pc := 148) hx hb d_M_vote_148 ?_
              have o24 := hk.1
              have hk := hk.2
              obtain ⟨S26, eS26⟩ : ∃ z : St, z = f_M_enter a1 ((S.1 7 0 0 a3.toNatClampNeg) + (1 : Int32)) S23 := ⟨_, rfl⟩
              have hk := lt_p eS26 hk
              have hr := lt_e eS26 hr
              refine z_goV (pc := 149) hW hA eS26 (z_runV hF hK hW (c_M_enter l D X ad ca a1 ((S.1 7 0 0 a3.toNatClampNeg) + (1 : Int32)) S23 o24 _) cd_M_enter gw_1082 tm1 rfl rfl ⟨Nat.le_of_ble_eq_true rfl, Nat.le_of_ble_eq_true rfl⟩ ⟨Nat.zero_le _, Nat.zero_le _⟩ rfl rfl hl.1 (Nat.le_of_ble_eq_true rfl) d_M_vote_149) (fun H locs (hW : Wd D clM A s.heap (zw X ad TM (cfM ad ca) S26) H locs) => ?_)
              refine lv_aload_n (pc := 152) hx hb d_M_vote_152 rfl (lv_at hl 2 rfl) ?_
              refine lv_iload_n (pc := 153) hx hb d_M_vote_153 rfl (lv_at hl 3 rfl) ?_
              have o27 := hk.1
              have hk := hk.2
              obtain ⟨S29, eS29⟩ : ∃ z : St, z = f_M_propose a1 S26 := ⟨_, rfl⟩
              have hr := lt_e eS29 hr
              refine z_goV (pc := 154) hW hA eS29 (z_runV hF hK hW (c_M_propose l D X ad ca a1 S26 o27 _) cd_M_propose gw_1097 tm1 rfl rfl ⟨Nat.le_of_ble_eq_true rfl, Nat.le_of_ble_eq_true rfl⟩ ⟨Nat.zero_le _, Nat.zero_le _⟩ rfl rfl hl.1 (Nat.le_of_ble_eq_true rfl) d_M_vote_154) (fun H locs (hW : Wd D clM A s.heap (zw X ad TM (cfM ad ca) S29) H locs) => ?_)
              exact z_vret hy hW hr.symm d_M_vote_157
    · have hk := hk.2 c5
      have hr := (if_neg c5).symm.trans hr
      exact z_vret hy hW hr.symm d_M_vote_33
theorem d_M_timeout_0 : decode b_M_timeout 0 = .ok (.aload_n 0, 1) := by decide +kernel
theorem d_M_timeout_1 : decode b_M_timeout 1 = .ok (.getfield 55, 3) := by decide +kernel
theorem d_M_timeout_4 : decode b_M_timeout 4 = .ok (.iload_n 1, 1) := by decide +kernel
theorem d_M_timeout_5 : decode b_M_timeout 5 = .ok (.aload_n 0, 1) := by decide +kernel
theorem d_M_timeout_6 : decode b_M_timeout 6 = .ok (.getfield 67, 3) := by decide +kernel
theorem d_M_timeout_9 : decode b_M_timeout 9 = .ok (.bipush 100, 2) := by decide +kernel
theorem d_M_timeout_11 : decode b_M_timeout 11 = .ok (.iload_n 1, 1) := by decide +kernel
theorem d_M_timeout_12 : decode b_M_timeout 12 = .ok (.imul, 1) := by decide +kernel
theorem d_M_timeout_13 : decode b_M_timeout 13 = .ok (.iload 4, 2) := by decide +kernel
theorem d_M_timeout_15 : decode b_M_timeout 15 = .ok (.iadd, 1) := by decide +kernel
theorem d_M_timeout_16 : decode b_M_timeout 16 = .ok (.baload, 1) := by decide +kernel
theorem d_M_timeout_17 : decode b_M_timeout 17 = .ok (.ifCond .eq 39, 3) := by decide +kernel
theorem d_M_timeout_20 : decode b_M_timeout 20 = .ok (.aload_n 0, 1) := by decide +kernel
theorem d_M_timeout_21 : decode b_M_timeout 21 = .ok (.getfield 39, 3) := by decide +kernel
theorem d_M_timeout_24 : decode b_M_timeout 24 = .ok (.iload 4, 2) := by decide +kernel
theorem d_M_timeout_26 : decode b_M_timeout 26 = .ok (.baload, 1) := by decide +kernel
theorem d_M_timeout_27 : decode b_M_timeout 27 = .ok (.ifCond .eq 29, 3) := by decide +kernel
theorem d_M_timeout_30 : decode b_M_timeout 30 = .ok (.aload_n 0, 1) := by decide +kernel
theorem d_M_timeout_31 : decode b_M_timeout 31 = .ok (.getfield 30, 3) := by decide +kernel
theorem d_M_timeout_34 : decode b_M_timeout 34 = .ok (.iload 4, 2) := by decide +kernel
theorem d_M_timeout_36 : decode b_M_timeout 36 = .ok (.iaload, 1) := by decide +kernel
theorem d_M_timeout_37 : decode b_M_timeout 37 = .ok (.aload_n 0, 1) := by decide +kernel
theorem d_M_timeout_38 : decode b_M_timeout 38 = .ok (.getfield 30, 3) := by decide +kernel
theorem d_M_timeout_41 : decode b_M_timeout 41 = .ok (.aload_n 0, 1) := by decide +kernel
theorem d_M_timeout_42 : decode b_M_timeout 42 = .ok (.getfield 55, 3) := by decide +kernel
theorem d_M_timeout_45 : decode b_M_timeout 45 = .ok (.iload_n 1, 1) := by decide +kernel
theorem d_M_timeout_46 : decode b_M_timeout 46 = .ok (.iaload, 1) := by decide +kernel
theorem d_M_timeout_47 : decode b_M_timeout 47 = .ok (.iaload, 1) := by decide +kernel
theorem d_M_timeout_48 : decode b_M_timeout 48 = .ok (.if_icmp .le 8, 3) := by decide +kernel
theorem d_M_timeout_51 : decode b_M_timeout 51 = .ok (.iload 4, 2) := by decide +kernel
theorem d_M_timeout_53 : decode b_M_timeout 53 = .ok (.goto 9, 3) := by decide +kernel
theorem d_M_timeout_56 : decode b_M_timeout 56 = .ok (.aload_n 0, 1) := by decide +kernel
theorem d_M_timeout_57 : decode b_M_timeout 57 = .ok (.getfield 55, 3) := by decide +kernel
theorem d_M_timeout_60 : decode b_M_timeout 60 = .ok (.iload_n 1, 1) := by decide +kernel
theorem d_M_timeout_61 : decode b_M_timeout 61 = .ok (.iaload, 1) := by decide +kernel
theorem d_M_timeout_62 : decode b_M_timeout 62 = .ok (.iastore, 1) := by decide +kernel
theorem d_M_timeout_63 : decode b_M_timeout 63 = .ok (.aload_n 0, 1) := by decide +kernel
theorem d_M_timeout_64 : decode b_M_timeout 64 = .ok (.getfield 73, 3) := by decide +kernel
theorem d_M_timeout_67 : decode b_M_timeout 67 = .ok (.sipush 200, 3) := by decide +kernel
theorem d_M_timeout_70 : decode b_M_timeout 70 = .ok (.iload_n 1, 1) := by decide +kernel
theorem d_M_timeout_71 : decode b_M_timeout 71 = .ok (.imul, 1) := by decide +kernel
theorem d_M_timeout_72 : decode b_M_timeout 72 = .ok (.iload_n 3, 1) := by decide +kernel
theorem d_M_timeout_73 : decode b_M_timeout 73 = .ok (.iadd, 1) := by decide +kernel
theorem d_M_timeout_74 : decode b_M_timeout 74 = .ok (.iaload, 1) := by decide +kernel
theorem d_M_timeout_75 : decode b_M_timeout 75 = .ok (.invokestatic 224, 3) := by decide +kernel
theorem d_M_timeout_78 : decode b_M_timeout 78 = .ok (.istore 5, 2) := by decide +kernel
theorem d_M_timeout_80 : decode b_M_timeout 80 = .ok (.aload_n 0, 1) := by decide +kernel
theorem d_M_timeout_81 : decode b_M_timeout 81 = .ok (.getfield 73, 3) := by decide +kernel
theorem d_M_timeout_84 : decode b_M_timeout 84 = .ok (.sipush 200, 3) := by decide +kernel
theorem d_M_timeout_87 : decode b_M_timeout 87 = .ok (.iload_n 1, 1) := by decide +kernel
theorem d_M_timeout_88 : decode b_M_timeout 88 = .ok (.imul, 1) := by decide +kernel
theorem d_M_timeout_89 : decode b_M_timeout 89 = .ok (.iload_n 3, 1) := by decide +kernel
theorem d_M_timeout_90 : decode b_M_timeout 90 = .ok (.iadd, 1) := by decide +kernel
theorem d_M_timeout_91 : decode b_M_timeout 91 = .ok (.aload_n 0, 1) := by decide +kernel
theorem d_M_timeout_92 : decode b_M_timeout 92 = .ok (.getfield 73, 3) := by decide +kernel
theorem d_M_timeout_95 : decode b_M_timeout 95 = .ok (.sipush 200, 3) := by decide +kernel
theorem d_M_timeout_98 : decode b_M_timeout 98 = .ok (.iload_n 1, 1) := by decide +kernel
theorem d_M_timeout_99 : decode b_M_timeout 99 = .ok (.imul, 1) := by decide +kernel
theorem d_M_timeout_100 : decode b_M_timeout 100 = .ok (.iload_n 3, 1) := by decide +kernel
theorem d_M_timeout_101 : decode b_M_timeout 101 = .ok (.iadd, 1) := by decide +kernel
theorem d_M_timeout_102 : decode b_M_timeout 102 = .ok (.iaload, 1) := by decide +kernel
theorem d_M_timeout_103 : decode b_M_timeout 103 = .ok (.iconst 1, 1) := by decide +kernel
theorem d_M_timeout_104 : decode b_M_timeout 104 = .ok (.iload_n 2, 1) := by decide +kernel
theorem d_M_timeout_105 : decode b_M_timeout 105 = .ok (.ishl, 1) := by decide +kernel
theorem d_M_timeout_106 : decode b_M_timeout 106 = .ok (.ior, 1) := by decide +kernel
theorem d_M_timeout_107 : decode b_M_timeout 107 = .ok (.iastore, 1) := by decide +kernel
theorem d_M_timeout_108 : decode b_M_timeout 108 = .ok (.iload 5, 2) := by decide +kernel
theorem d_M_timeout_110 : decode b_M_timeout 110 = .ok (.iconst 2, 1) := by decide +kernel
theorem d_M_timeout_111 : decode b_M_timeout 111 = .ok (.if_icmp .ne 55, 3) := by decide +kernel
theorem d_M_timeout_114 : decode b_M_timeout 114 = .ok (.aload_n 0, 1) := by decide +kernel
theorem d_M_timeout_115 : decode b_M_timeout 115 = .ok (.getfield 73, 3) := by decide +kernel
theorem d_M_timeout_118 : decode b_M_timeout 118 = .ok (.sipush 200, 3) := by decide +kernel
theorem d_M_timeout_121 : decode b_M_timeout 121 = .ok (.iload_n 1, 1) := by decide +kernel
theorem d_M_timeout_122 : decode b_M_timeout 122 = .ok (.imul, 1) := by decide +kernel
theorem d_M_timeout_123 : decode b_M_timeout 123 = .ok (.iload_n 3, 1) := by decide +kernel
theorem d_M_timeout_124 : decode b_M_timeout 124 = .ok (.iadd, 1) := by decide +kernel
theorem d_M_timeout_125 : decode b_M_timeout 125 = .ok (.iaload, 1) := by decide +kernel
theorem d_M_timeout_126 : decode b_M_timeout 126 = .ok (.invokestatic 224, 3) := by decide +kernel
theorem d_M_timeout_129 : decode b_M_timeout 129 = .ok (.iconst 3, 1) := by decide +kernel
theorem d_M_timeout_130 : decode b_M_timeout 130 = .ok (.if_icmp .ne 36, 3) := by decide +kernel
theorem d_M_timeout_133 : decode b_M_timeout 133 = .ok (.iload_n 3, 1) := by decide +kernel
theorem d_M_timeout_134 : decode b_M_timeout 134 = .ok (.aload_n 0, 1) := by decide +kernel
theorem d_M_timeout_135 : decode b_M_timeout 135 = .ok (.getfield 46, 3) := by decide +kernel
theorem d_M_timeout_138 : decode b_M_timeout 138 = .ok (.iload_n 1, 1) := by decide +kernel
theorem d_M_timeout_139 : decode b_M_timeout 139 = .ok (.iaload, 1) := by decide +kernel
theorem d_M_timeout_140 : decode b_M_timeout 140 = .ok (.if_icmp .lt 26, 3) := by decide +kernel
theorem d_M_timeout_143 : decode b_M_timeout 143 = .ok (.aload_n 0, 1) := by decide +kernel
theorem d_M_timeout_144 : decode b_M_timeout 144 = .ok (.iload_n 1, 1) := by decide +kernel
theorem d_M_timeout_145 : decode b_M_timeout 145 = .ok (.iload_n 3, 1) := by decide +kernel
theorem d_M_timeout_146 : decode b_M_timeout 146 = .ok (.iconst 1, 1) := by decide +kernel
theorem d_M_timeout_147 : decode b_M_timeout 147 = .ok (.iadd, 1) := by decide +kernel
theorem d_M_timeout_148 : decode b_M_timeout 148 = .ok (.invokevirtual 217, 3) := by decide +kernel
theorem d_M_timeout_151 : decode b_M_timeout 151 = .ok (.iload_n 3, 1) := by decide +kernel
theorem d_M_timeout_152 : decode b_M_timeout 152 = .ok (.iconst 1, 1) := by decide +kernel
theorem d_M_timeout_153 : decode b_M_timeout 153 = .ok (.iadd, 1) := by decide +kernel
theorem d_M_timeout_154 : decode b_M_timeout 154 = .ok (.invokestatic 220, 3) := by decide +kernel
theorem d_M_timeout_157 : decode b_M_timeout 157 = .ok (.iload_n 1, 1) := by decide +kernel
theorem d_M_timeout_158 : decode b_M_timeout 158 = .ok (.if_icmp .ne 8, 3) := by decide +kernel
theorem d_M_timeout_161 : decode b_M_timeout 161 = .ok (.aload_n 0, 1) := by decide +kernel
theorem d_M_timeout_162 : decode b_M_timeout 162 = .ok (.iload_n 1, 1) := by decide +kernel
theorem d_M_timeout_163 : decode b_M_timeout 163 = .ok (.invokevirtual 227, 3) := by decide +kernel
theorem d_M_timeout_166 : decode b_M_timeout 166 = .ok (.return_, 1) := by decide +kernel
def f_M_timeout_62 (a1 : Int32) (a2 : Int32) (a3 : Int32) (a4 : Int32) (S : St) (t0 : Int32) (t1 : Int32) : St :=
  lt (si S 15 0 0 (t1.toNatClampNeg) t0) fun (S10 : St) =>
  lt (f_M_bits (S10.1 21 0 0 (((200 : Int32) * a1) + a3).toNatClampNeg) S10) fun (r12 : Int32) =>
  lt (si S10 21 0 0 ((((200 : Int32) * a1) + a3).toNatClampNeg) ((S10.1 21 0 0 (((200 : Int32) * a1) + a3).toNatClampNeg) ||| ((1 : Int32) <<< (a2 &&& 31)))) fun (S15 : St) =>
  if r12 = (2 : Int32) then
    lt (f_M_bits (S15.1 21 0 0 (((200 : Int32) * a1) + a3).toNatClampNeg) S15) fun (r18 : Int32) =>
    if r18 = (3 : Int32) then
      if a3 < (S15.1 12 0 0 a1.toNatClampNeg) then
        S15
      else
        lt (f_M_enter a1 (a3 + (1 : Int32)) S15) fun (S24 : St) =>
        lt (f_M_leader (a3 + (1 : Int32)) S24) fun (r25 : Int32) =>
        if r25 = a1 then
          lt (f_M_propose a1 S24) fun (S29 : St) =>
          S29
        else
          S24
    else
      S15
  else
    S15
def ok_M_timeout_62 (a1 : Int32) (a2 : Int32) (a3 : Int32) (a4 : Int32) (S : St) (t0 : Int32) (t1 : Int32) : Prop :=
  (vp_in t1 4) ∧ (
    lt (si S 15 0 0 (t1.toNatClampNeg) t0) fun (S10 : St) =>
    (vp_in (((200 : Int32) * a1) + a3) 800) ∧ (
      lt (f_M_bits (S10.1 21 0 0 (((200 : Int32) * a1) + a3).toNatClampNeg) S10) fun (r12 : Int32) =>
      (vp_in (((200 : Int32) * a1) + a3) 800) ∧ (
        (vp_in (((200 : Int32) * a1) + a3) 800) ∧ (
          lt (si S10 21 0 0 ((((200 : Int32) * a1) + a3).toNatClampNeg) ((S10.1 21 0 0 (((200 : Int32) * a1) + a3).toNatClampNeg) ||| ((1 : Int32) <<< (a2 &&& 31)))) fun (S15 : St) =>
          (r12 = (2 : Int32) → (
            (vp_in (((200 : Int32) * a1) + a3) 800) ∧ (
              lt (f_M_bits (S15.1 21 0 0 (((200 : Int32) * a1) + a3).toNatClampNeg) S15) fun (r18 : Int32) =>
              (r18 = (3 : Int32) → (
                (vp_in a1 4) ∧ (
                  (a3 < (S15.1 12 0 0 a1.toNatClampNeg) → (
                    True)) ∧ (¬ (a3 < (S15.1 12 0 0 a1.toNatClampNeg)) → (
                    (ok_M_enter a1 (a3 + (1 : Int32)) S15) ∧ (
                      lt (f_M_enter a1 (a3 + (1 : Int32)) S15) fun (S24 : St) =>
                      lt (f_M_leader (a3 + (1 : Int32)) S24) fun (r25 : Int32) =>
                      (r25 = a1 → (
                        (ok_M_propose a1 S24) ∧ (
                          True))) ∧ (¬ (r25 = a1) → (
                        True)))))))) ∧ (¬ (r18 = (3 : Int32)) → (
                True))))) ∧ (¬ (r12 = (2 : Int32)) → (
            True))))))
set_option maxHeartbeats 4000000 in
set_option maxRecDepth 100000 in
theorem w_M_timeout_62 {l : Launch} {D : va_G} {X : va_W} {ad : N3 → Nat} {ca : Nat → ClassId} (a1 : Int32) (a2 : Int32) (a3 : Int32) (a4 : Int32)  {p : Program} {e : Env} {s : State} {m : MethodId} {below : List Frame} {meth : Method} {c : Code} {A : Nat → Prop} (hy : Hy p s m ([.ref (ad (1, 0, 0)), .int a1, .int a2, .int a3, .int a4] : List Value).toArray meth c b_M_timeout 6 none R_M GG D clM (tysM ca) nwM) (hA : ∀ q, s.heap.size ≤ q → A q) {res : St} : ∀  (S : St) (t0 : Int32) (t1 : Int32) , ok_M_timeout_62 a1 a2 a3 a4 S t0 t1 → f_M_timeout_62 a1 a2 a3 a4 S t0 t1 = res → ∀ (H : Heap) (locs : List Loc) (ls : Array Slot), Wd D clM A s.heap (zw X ad TM (cfM ad ca) S) H locs → lv_has ls 6 [(0, .ref (ad (1, 0, 0))), (1, .int a1), (2, .int a2), (3, .int a3)] → W p l e { frames := 5, cells := 0, slots := 0, locals := 122 } s m ([.ref (ad (1, 0, 0)), .int a1, .int a2, .int a3, .int a4] : List Value).toArray below meth c H locs 0 0 (MQ below (eV D clM X ad TM (cfM ad ca) A res) ([.ref (ad (1, 0, 0)), .int a1, .int a2, .int a3, .int a4] : List Value).toArray s 0 0 A) (F0 m 62 ls [.int t0, .int t1, .ref (ad (15, 0, 0))]) := by
  have hF := hy.1
  have hx := hF.1
  have hb := hF.2.1
  have hK := hy.2.2.2
  intro S t0 t1 hk hr H locs ls hW hl
  have b9 := hk.1
  have hk := hk.2
  obtain ⟨S10, eS10⟩ : ∃ z : St, z = si S 15 0 0 (t1.toNatClampNeg) t0 := ⟨_, rfl⟩
  have hk := lt_p eS10 hk
  have hr := lt_e eS10 hr
  refine z_iast (pc := 62) (S' := S10) hF hK.1 hW tm15 0 rfl rfl b9 (zs_si eS10 rfl) (zs_sio eS10) d_M_timeout_62 (fun H locs (hW : Wd D clM A s.heap (zw X ad TM (cfM ad ca) S10) H locs) => ?_)
  refine lv_aload_n (pc := 63) hx hb d_M_timeout_63 rfl (lv_at hl 0 rfl) ?_
  refine z_get (pc := 64) (v := .ref (ad (21, 0, 0))) hF hK.1 hW tm1 rfl rfl in_M 26 (by decide) gw_910 rfl rfl d_M_timeout_64 ?_
  refine lv_sipush (pc := 67) (v := 200) hx hb d_M_timeout_67 (by decide) ?_
  refine lv_iload_n (pc := 70) hx hb d_M_timeout_70 rfl (lv_at hl 1 rfl) ?_
  refine lv_imul (pc := 71) hx hb d_M_timeout_71 ?_
  refine lv_iload_n (pc := 72) hx hb d_M_timeout_72 rfl (lv_at hl 3 rfl) ?_
  refine lv_iadd (pc := 73) hx hb d_M_timeout_73 ?_
  have b11 := hk.1
  have hk := hk.2
  refine z_iald (pc := 74) (v := S10.1 21 0 0 (((200 : Int32) * a1) + a3).toNatClampNeg) hF hK.1 hW tm21 0 rfl rfl b11 rfl d_M_timeout_74 ?_
  obtain ⟨r12, er12⟩ : ∃ z : Int32, z = f_M_bits (S10.1 21 0 0 (((200 : Int32) * a1) + a3).toNatClampNeg) S10 := ⟨_, rfl⟩
  have hk := lt_p er12 hk
  have hr := lt_e er12 hr
  refine p_go (pc := 75) (congrArg Value.int er12) (p_runS hF hK hW (c_M_bits l D X ad ca (S10.1 21 0 0 (((200 : Int32) * a1) + a3).toNatClampNeg) S10 _) cd_M_bits gw_1094 ⟨Nat.le_of_ble_eq_true rfl, Nat.le_of_ble_eq_true rfl⟩ ⟨Nat.zero_le _, Nat.zero_le _⟩ rfl rfl hl.1 (Nat.le_of_ble_eq_true rfl) d_M_timeout_75) ?_
  refine lv_istore (pc := 78) (lv' := [(5, .int r12), (0, .ref (ad (1, 0, 0))), (1, .int a1), (2, .int a2), (3, .int a3)]) hx hb d_M_timeout_78 hl (by decide) rfl (fun ls hl => ?_)
  refine lv_aload_n (pc := 80) hx hb d_M_timeout_80 rfl (lv_at hl 1 rfl) ?_
  refine z_get (pc := 81) (v := .ref (ad (21, 0, 0))) hF hK.1 hW tm1 rfl rfl in_M 26 (by decide) gw_910 rfl rfl d_M_timeout_81 ?_
  refine lv_sipush (pc := 84) (v := 200) hx hb d_M_timeout_84 (by decide) ?_
  refine lv_iload_n (pc := 87) hx hb d_M_timeout_87 rfl (lv_at hl 2 rfl) ?_
  refine lv_imul (pc := 88) hx hb d_M_timeout_88 ?_
  refine lv_iload_n (pc := 89) hx hb d_M_timeout_89 rfl (lv_at hl 4 rfl) ?_
  refine lv_iadd (pc := 90) hx hb d_M_timeout_90 ?_
  refine lv_aload_n (pc := 91) hx hb d_M_timeout_91 rfl (lv_at hl 1 rfl) ?_
  refine z_get (pc := 92) (v := .ref (ad (21, 0, 0))) hF hK.1 hW tm1 rfl rfl in_M 26 (by decide) gw_910 rfl rfl d_M_timeout_92 ?_
  refine lv_sipush (pc := 95) (v := 200) hx hb d_M_timeout_95 (by decide) ?_
  refine lv_iload_n (pc := 98) hx hb d_M_timeout_98 rfl (lv_at hl 2 rfl) ?_
  refine lv_imul (pc := 99) hx hb d_M_timeout_99 ?_
  refine lv_iload_n (pc := 100) hx hb d_M_timeout_100 rfl (lv_at hl 4 rfl) ?_
  refine lv_iadd (pc := 101) hx hb d_M_timeout_101 ?_
  have b13 := hk.1
  have hk := hk.2
  refine z_iald (pc := 102) (v := S10.1 21 0 0 (((200 : Int32) * a1) + a3).toNatClampNeg) hF hK.1 hW tm21 0 rfl rfl b13 rfl d_M_timeout_102 ?_
  refine lv_iconst (pc := 103) (v := 1) hx hb d_M_timeout_103 (by decide) ?_
  refine lv_iload_n (pc := 104) hx hb d_M_timeout_104 rfl (lv_at hl 3 rfl) ?_
  refine lv_ishl (pc := 105) hx hb d_M_timeout_105 ?_
  refine lv_ior (pc := 106) hx hb d_M_timeout_106 ?_
  have b14 := hk.1
  have hk := hk.2
  obtain ⟨S15, eS15⟩ : ∃ z : St, z = si S10 21 0 0 ((((200 : Int32) * a1) + a3).toNatClampNeg) ((S10.1 21 0 0 (((200 : Int32) * a1) + a3).toNatClampNeg) ||| ((1 : Int32) <<< (a2 &&& 31))) := ⟨_, rfl⟩
  have hk := lt_p eS15 hk
  have hr := lt_e eS15 hr
  refine z_iast (pc := 107) (S' := S15) hF hK.1 hW tm21 0 rfl rfl b14 (zs_si eS15 rfl) (zs_sio eS15) d_M_timeout_107 (fun H locs (hW : Wd D clM A s.heap (zw X ad TM (cfM ad ca) S15) H locs) => ?_)
  refine lv_iload (pc := 108) hx hb d_M_timeout_108 (lv_at hl 0 rfl) ?_
  refine lv_iconst (pc := 110) (v := 2) hx hb d_M_timeout_110 (by decide) ?_
  refine lv_icmp_ne (pc := 111) (tgt := 166) hx hb d_M_timeout_111 (by decide) (fun c16 => ?_) (fun c16 => ?_)
  · have hk := hk.2 c16
    have hr := (if_neg c16).symm.trans hr
    exact z_vret hy hW hr.symm d_M_timeout_166
  · have hk := hk.1 c16
    have hr := (if_pos c16).symm.trans hr
    refine lv_aload_n (pc := 114) hx hb d_M_timeout_114 rfl (lv_at hl 1 rfl) ?_
    refine z_get (pc := 115) (v := .ref (ad (21, 0, 0))) hF hK.1 hW tm1 rfl rfl in_M 26 (by decide) gw_910 rfl rfl d_M_timeout_115 ?_
    refine lv_sipush (pc := 118) (v := 200) hx hb d_M_timeout_118 (by decide) ?_
    refine lv_iload_n (pc := 121) hx hb d_M_timeout_121 rfl (lv_at hl 2 rfl) ?_
    refine lv_imul (pc := 122) hx hb d_M_timeout_122 ?_
    refine lv_iload_n (pc := 123) hx hb d_M_timeout_123 rfl (lv_at hl 4 rfl) ?_
    refine lv_iadd (pc := 124) hx hb d_M_timeout_124 ?_
    have b17 := hk.1
    have hk := hk.2
    refine z_iald (pc := 125) (v := S15.1 21 0 0 (((200 : Int32) * a1) + a3).toNatClampNeg) hF hK.1 hW tm21 0 rfl rfl b17 rfl d_M_timeout_125 ?_
    obtain ⟨r18, er18⟩ : ∃ z : Int32, z = f_M_bits (S15.1 21 0 0 (((200 : Int32) * a1) + a3).toNatClampNeg) S15 := ⟨_, rfl⟩
    have hk := lt_p er18 hk
    have hr := lt_e er18 hr
    refine p_go (pc := 126) (congrArg Value.int er18) (p_runS hF hK hW (c_M_bits l D X ad ca (S15.1 21 0 0 (((200 : Int32) * a1) + a3).toNatClampNeg) S15 _) cd_M_bits gw_1094 ⟨Nat.le_of_ble_eq_true rfl, Nat.le_of_ble_eq_true rfl⟩ ⟨Nat.zero_le _, Nat.zero_le _⟩ rfl rfl hl.1 (Nat.le_of_ble_eq_true rfl) d_M_timeout_126) ?_
    refine lv_iconst (pc := 129) (v := 3) hx hb d_M_timeout_129 (by decide) ?_
    refine lv_icmp_ne (pc := 130) (tgt := 166) hx hb d_M_timeout_130 (by decide) (fun c19 => ?_) (fun c19 => ?_)
    · have hk := hk.2 c19
      have hr := (if_neg c19).symm.trans hr
      exact z_vret hy hW hr.symm d_M_timeout_166
    · have hk := hk.1 c19
      have hr := (if_pos c19).symm.trans hr
      refine lv_iload_n (pc := 133) hx hb d_M_timeout_133 rfl (lv_at hl 4 rfl) ?_
      refine lv_aload_n (pc := 134) hx hb d_M_timeout_134 rfl (lv_at hl 1 rfl) ?_
      refine z_get (pc := 135) (v := .ref (ad (12, 0, 0))) hF hK.1 hW tm1 rfl rfl in_M 17 (by decide) gw_901 rfl rfl d_M_timeout_135 ?_
      refine lv_iload_n (pc := 138) hx hb d_M_timeout_138 rfl (lv_at hl 2 rfl) ?_
      have b20 := hk.1
      have hk := hk.2
      refine z_iald (pc := 139) (v := S15.1 12 0 0 a1.toNatClampNeg) hF hK.1 hW tm12 0 rfl rfl b20 rfl d_M_timeout_139 ?_
      refine lv_icmp_lt (pc := 140) (tgt := 166) hx hb d_M_timeout_140 (by decide) (fun c21 => ?_) (fun c21 => ?_)
      · have hk := hk.1 c21
        have hr := (if_pos c21).symm.trans hr
        exact z_vret hy hW hr.symm d_M_timeout_166
      · have hk := hk.2 c21
        have hr := (if_neg c21).symm.trans hr
        refine lv_aload_n (pc := 143) hx hb d_M_timeout_143 rfl (lv_at hl 1 rfl) ?_
        refine lv_iload_n (pc := 144) hx hb d_M_timeout_144 rfl (lv_at hl 2 rfl) ?_
        refine lv_iload_n (pc := 145) hx hb d_M_timeout_145 rfl (lv_at hl 4 rfl) ?_
        refine lv_iconst (pc := 146) (v := 1) hx hb d_M_timeout_146 (by decide) ?_
        refine lv_iadd (pc := 147) hx hb d_M_timeout_147 ?_
        have o22 := hk.1
        have hk := hk.2
        obtain ⟨S24, eS24⟩ : ∃ z : St, z = f_M_enter a1 (a3 + (1 : Int32)) S15 := ⟨_, rfl⟩
        have hk := lt_p eS24 hk
        have hr := lt_e eS24 hr
        refine z_goV (pc := 148) hW hA eS24 (z_runV hF hK hW (c_M_enter l D X ad ca a1 (a3 + (1 : Int32)) S15 o22 _) cd_M_enter gw_1082 tm1 rfl rfl ⟨Nat.le_of_ble_eq_true rfl, Nat.le_of_ble_eq_true rfl⟩ ⟨Nat.zero_le _, Nat.zero_le _⟩ rfl rfl hl.1 (Nat.le_of_ble_eq_true rfl) d_M_timeout_148) (fun H locs (hW : Wd D clM A s.heap (zw X ad TM (cfM ad ca) S24) H locs) => ?_)
        refine lv_iload_n (pc := 151) hx hb d_M_timeout_151 rfl (lv_at hl 4 rfl) ?_
        refine lv_iconst (pc := 152) (v := 1) hx hb d_M_timeout_152 (by decide) ?_
        refine lv_iadd (pc := 153) hx hb d_M_timeout_153 ?_
        obtain ⟨r25, er25⟩ : ∃ z : Int32, z = f_M_leader (a3 + (1 : Int32)) S24 := ⟨_, rfl⟩
        have hk := lt_p er25 hk
        have hr := lt_e er25 hr
        refine p_go (pc := 154) (congrArg Value.int er25) (p_runS hF hK hW (c_M_leader l D X ad ca (a3 + (1 : Int32)) S24 _) cd_M_leader gw_1059 ⟨Nat.le_of_ble_eq_true rfl, Nat.le_of_ble_eq_true rfl⟩ ⟨Nat.zero_le _, Nat.zero_le _⟩ rfl rfl hl.1 (Nat.le_of_ble_eq_true rfl) d_M_timeout_154) ?_
        refine lv_iload_n (pc := 157) hx hb d_M_timeout_157 rfl (lv_at hl 2 rfl) ?_
        refine lv_icmp_ne (pc := 158) (tgt := 166) hx hb d_M_timeout_158 (by decide) (fun c26 => ?_) (fun c26 => ?_)
        · have hk := hk.2 c26
          have hr := (if_neg c26).symm.trans hr
          exact z_vret hy hW hr.symm d_M_timeout_166
        · have hk := hk.1 c26
          have hr := (if_pos c26).symm.trans hr
          refine lv_aload_n (pc := 161) hx hb d_M_timeout_161 rfl (lv_at hl 1 rfl) ?_
          refine lv_iload_n (pc := 162) hx hb d_M_timeout_162 rfl (lv_at hl 2 rfl) ?_
          have o27 := hk.1
          have hk := hk.2
          obtain ⟨S29, eS29⟩ : ∃ z : St, z = f_M_propose a1 S24 := ⟨_, rfl⟩
          have hr := lt_e eS29 hr
          refine z_goV (pc := 163) hW hA eS29 (z_runV hF hK hW (c_M_propose l D X ad ca a1 S24 o27 _) cd_M_propose gw_1097 tm1 rfl rfl ⟨Nat.le_of_ble_eq_true rfl, Nat.le_of_ble_eq_true rfl⟩ ⟨Nat.zero_le _, Nat.zero_le _⟩ rfl rfl hl.1 (Nat.le_of_ble_eq_true rfl) d_M_timeout_163) (fun H locs (hW : Wd D clM A s.heap (zw X ad TM (cfM ad ca) S29) H locs) => ?_)
          exact z_vret hy hW hr.symm d_M_timeout_166
def f_M_timeout_56 (a1 : Int32) (a2 : Int32) (a3 : Int32) (a4 : Int32) (S : St) (t0 : Int32) : St :=
  f_M_timeout_62 a1 a2 a3 a4 S (S.1 15 0 0 a1.toNatClampNeg) t0
def ok_M_timeout_56 (a1 : Int32) (a2 : Int32) (a3 : Int32) (a4 : Int32) (S : St) (t0 : Int32) : Prop :=
  (vp_in a1 4) ∧ (
    ok_M_timeout_62 a1 a2 a3 a4 S (S.1 15 0 0 a1.toNatClampNeg) t0)
set_option maxHeartbeats 4000000 in
set_option maxRecDepth 100000 in
theorem w_M_timeout_56 {l : Launch} {D : va_G} {X : va_W} {ad : N3 → Nat} {ca : Nat → ClassId} (a1 : Int32) (a2 : Int32) (a3 : Int32) (a4 : Int32)  {p : Program} {e : Env} {s : State} {m : MethodId} {below : List Frame} {meth : Method} {c : Code} {A : Nat → Prop} (hy : Hy p s m ([.ref (ad (1, 0, 0)), .int a1, .int a2, .int a3, .int a4] : List Value).toArray meth c b_M_timeout 6 none R_M GG D clM (tysM ca) nwM) (hA : ∀ q, s.heap.size ≤ q → A q) {res : St} : ∀  (S : St) (t0 : Int32) , ok_M_timeout_56 a1 a2 a3 a4 S t0 → f_M_timeout_56 a1 a2 a3 a4 S t0 = res → ∀ (H : Heap) (locs : List Loc) (ls : Array Slot), Wd D clM A s.heap (zw X ad TM (cfM ad ca) S) H locs → lv_has ls 6 [(0, .ref (ad (1, 0, 0))), (1, .int a1), (2, .int a2), (3, .int a3)] → W p l e { frames := 5, cells := 0, slots := 0, locals := 122 } s m ([.ref (ad (1, 0, 0)), .int a1, .int a2, .int a3, .int a4] : List Value).toArray below meth c H locs 0 0 (MQ below (eV D clM X ad TM (cfM ad ca) A res) ([.ref (ad (1, 0, 0)), .int a1, .int a2, .int a3, .int a4] : List Value).toArray s 0 0 A) (F0 m 56 ls [.int t0, .ref (ad (15, 0, 0))]) := by
  have hF := hy.1
  have hx := hF.1
  have hb := hF.2.1
  have hK := hy.2.2.2
  intro S t0 hk hr H locs ls hW hl
  refine lv_aload_n (pc := 56) hx hb d_M_timeout_56 rfl (lv_at hl 0 rfl) ?_
  refine z_get (pc := 57) (v := .ref (ad (15, 0, 0))) hF hK.1 hW tm1 rfl rfl in_M 20 (by decide) gw_904 rfl rfl d_M_timeout_57 ?_
  refine lv_iload_n (pc := 60) hx hb d_M_timeout_60 rfl (lv_at hl 1 rfl) ?_
  have b30 := hk.1
  have hk := hk.2
  refine z_iald (pc := 61) (v := S.1 15 0 0 a1.toNatClampNeg) hF hK.1 hW tm15 0 rfl rfl b30 rfl d_M_timeout_61 ?_
  exact w_M_timeout_62 a1 a2 a3 a4 hy hA S (S.1 15 0 0 a1.toNatClampNeg) t0 hk hr _ _ _ hW (lv_sub hl [0, 1, 2, 3] rfl)
def f_M_timeout (a1 : Int32) (a2 : Int32) (a3 : Int32) (a4 : Int32) (S : St) : St :=
  if (S.1 19 0 0 (((100 : Int32) * a1) + a4).toNatClampNeg) = 0 then
    f_M_timeout_56 a1 a2 a3 a4 S a1
  else
    if (S.1 10 0 0 a4.toNatClampNeg) = 0 then
      f_M_timeout_56 a1 a2 a3 a4 S a1
    else
      if (S.1 7 0 0 a4.toNatClampNeg) ≤ (S.1 7 0 0 (S.1 15 0 0 a1.toNatClampNeg).toNatClampNeg) then
        f_M_timeout_56 a1 a2 a3 a4 S a1
      else
        f_M_timeout_62 a1 a2 a3 a4 S a4 a1
def ok_M_timeout (a1 : Int32) (a2 : Int32) (a3 : Int32) (a4 : Int32) (S : St) : Prop :=
  (vp_in (((100 : Int32) * a1) + a4) 400) ∧ (
    ((S.1 19 0 0 (((100 : Int32) * a1) + a4).toNatClampNeg) = 0 → (
      ok_M_timeout_56 a1 a2 a3 a4 S a1)) ∧ (¬ ((S.1 19 0 0 (((100 : Int32) * a1) + a4).toNatClampNeg) = 0) → (
      (vp_in a4 100) ∧ (
        ((S.1 10 0 0 a4.toNatClampNeg) = 0 → (
          ok_M_timeout_56 a1 a2 a3 a4 S a1)) ∧ (¬ ((S.1 10 0 0 a4.toNatClampNeg) = 0) → (
          (vp_in a4 100) ∧ (
            (vp_in a1 4) ∧ (
              (vp_in (S.1 15 0 0 a1.toNatClampNeg) 100) ∧ (
                ((S.1 7 0 0 a4.toNatClampNeg) ≤ (S.1 7 0 0 (S.1 15 0 0 a1.toNatClampNeg).toNatClampNeg) → (
                  ok_M_timeout_56 a1 a2 a3 a4 S a1)) ∧ (¬ ((S.1 7 0 0 a4.toNatClampNeg) ≤ (S.1 7 0 0 (S.1 15 0 0 a1.toNatClampNeg).toNatClampNeg)) → (
                  ok_M_timeout_62 a1 a2 a3 a4 S a4 a1)))))))))))
set_option maxHeartbeats 4000000 in
set_option maxRecDepth 100000 in
theorem c_M_timeout (l : Launch) (D : va_G) (X : va_W) (ad : N3 → Nat) (ca : Nat → ClassId) (a1 : Int32) (a2 : Int32) (a3 : Int32) (a4 : Int32)  (S : St) (hk : ok_M_timeout a1 a2 a3 a4 S) : cV l GG D clM (tysM ca) nwM X ad TM (cfM ad ca) y_M_timeout b_M_timeout 6 5 122 [.ref (ad (1, 0, 0)), .int a1, .int a2, .int a3, .int a4] S (f_M_timeout a1 a2 a3 a4 S) := by
  generalize hr : f_M_timeout a1 a2 a3 a4 S = res
  refine zV_of pn_M (Nat.le_of_ble_eq_true rfl) (fun p e s m below meth c A ls hy hW hA hl => ?_)
  have hF := hy.1
  have hx := hF.1
  have hb := hF.2.1
  have hK := hy.2.2.2
  have hl : lv_has ls 6 [(0, .ref (ad (1, 0, 0))), (1, .int a1), (2, .int a2), (3, .int a3), (4, .int a4)] := hl
  refine lv_aload_n (pc := 0) hx hb d_M_timeout_0 rfl (lv_at hl 0 rfl) ?_
  refine z_get (pc := 1) (v := .ref (ad (15, 0, 0))) hF hK.1 hW tm1 rfl rfl in_M 20 (by decide) gw_904 rfl rfl d_M_timeout_1 ?_
  refine lv_iload_n (pc := 4) hx hb d_M_timeout_4 rfl (lv_at hl 1 rfl) ?_
  refine lv_aload_n (pc := 5) hx hb d_M_timeout_5 rfl (lv_at hl 0 rfl) ?_
  refine z_get (pc := 6) (v := .ref (ad (19, 0, 0))) hF hK.1 hW tm1 rfl rfl in_M 24 (by decide) gw_908 rfl rfl d_M_timeout_6 ?_
  refine lv_bipush (pc := 9) (v := 100) hx hb d_M_timeout_9 (by decide) ?_
  refine lv_iload_n (pc := 11) hx hb d_M_timeout_11 rfl (lv_at hl 1 rfl) ?_
  refine lv_imul (pc := 12) hx hb d_M_timeout_12 ?_
  refine lv_iload (pc := 13) hx hb d_M_timeout_13 (lv_at hl 4 rfl) ?_
  refine lv_iadd (pc := 15) hx hb d_M_timeout_15 ?_
  have b1 := hk.1
  have hk := hk.2
  refine z_zald (pc := 16) (v := S.1 19 0 0 (((100 : Int32) * a1) + a4).toNatClampNeg) hF hK.1 hW tm19 2 rfl rfl b1 rfl d_M_timeout_16 ?_
  refine lv_if_eq (pc := 17) (tgt := 56) hx hb d_M_timeout_17 (by decide) (fun c2 => ?_) (fun c2 => ?_)
  · have hk := hk.1 c2
    have hr := (if_pos c2).symm.trans hr
    exact w_M_timeout_56 a1 a2 a3 a4 hy hA S a1 hk hr _ _ _ hW (lv_sub hl [0, 1, 2, 3] rfl)
  · have hk := hk.2 c2
    have hr := (if_neg c2).symm.trans hr
    refine lv_aload_n (pc := 20) hx hb d_M_timeout_20 rfl (lv_at hl 0 rfl) ?_
    refine z_get (pc := 21) (v := .ref (ad (10, 0, 0))) hF hK.1 hW tm1 rfl rfl in_M 15 (by decide) gw_899 rfl rfl d_M_timeout_21 ?_
    refine lv_iload (pc := 24) hx hb d_M_timeout_24 (lv_at hl 4 rfl) ?_
    have b3 := hk.1
    have hk := hk.2
    refine z_zald (pc := 26) (v := S.1 10 0 0 a4.toNatClampNeg) hF hK.1 hW tm10 2 rfl rfl b3 rfl d_M_timeout_26 ?_
    refine lv_if_eq (pc := 27) (tgt := 56) hx hb d_M_timeout_27 (by decide) (fun c4 => ?_) (fun c4 => ?_)
    · have hk := hk.1 c4
      have hr := (if_pos c4).symm.trans hr
      exact w_M_timeout_56 a1 a2 a3 a4 hy hA S a1 hk hr _ _ _ hW (lv_sub hl [0, 1, 2, 3] rfl)
    · have hk := hk.2 c4
      have hr := (if_neg c4).symm.trans hr
      refine lv_aload_n (pc := 30) hx hb d_M_timeout_30 rfl (lv_at hl 0 rfl) ?_
      refine z_get (pc := 31) (v := .ref (ad (7, 0, 0))) hF hK.1 hW tm1 rfl rfl in_M 12 (by decide) gw_896 rfl rfl d_M_timeout_31 ?_
      refine lv_iload (pc := 34) hx hb d_M_timeout_34 (lv_at hl 4 rfl) ?_
      have b5 := hk.1
      have hk := hk.2
      refine z_iald (pc := 36) (v := S.1 7 0 0 a4.toNatClampNeg) hF hK.1 hW tm7 0 rfl rfl b5 rfl d_M_timeout_36 ?_
      refine lv_aload_n (pc := 37) hx hb d_M_timeout_37 rfl (lv_at hl 0 rfl) ?_
      refine z_get (pc := 38) (v := .ref (ad (7, 0, 0))) hF hK.1 hW tm1 rfl rfl in_M 12 (by decide) gw_896 rfl rfl d_M_timeout_38 ?_
      refine lv_aload_n (pc := 41) hx hb d_M_timeout_41 rfl (lv_at hl 0 rfl) ?_
      refine z_get (pc := 42) (v := .ref (ad (15, 0, 0))) hF hK.1 hW tm1 rfl rfl in_M 20 (by decide) gw_904 rfl rfl d_M_timeout_42 ?_
      refine lv_iload_n (pc := 45) hx hb d_M_timeout_45 rfl (lv_at hl 1 rfl) ?_
      have b6 := hk.1
      have hk := hk.2
      refine z_iald (pc := 46) (v := S.1 15 0 0 a1.toNatClampNeg) hF hK.1 hW tm15 0 rfl rfl b6 rfl d_M_timeout_46 ?_
      have b7 := hk.1
      have hk := hk.2
      refine z_iald (pc := 47) (v := S.1 7 0 0 (S.1 15 0 0 a1.toNatClampNeg).toNatClampNeg) hF hK.1 hW tm7 0 rfl rfl b7 rfl d_M_timeout_47 ?_
      refine lv_icmp_le (pc := 48) (tgt := 56) hx hb d_M_timeout_48 (by decide) (fun c8 => ?_) (fun c8 => ?_)
      · have hk := hk.1 c8
        have hr := (if_pos c8).symm.trans hr
        exact w_M_timeout_56 a1 a2 a3 a4 hy hA S a1 hk hr _ _ _ hW (lv_sub hl [0, 1, 2, 3] rfl)
      · have hk := hk.2 c8
        have hr := (if_neg c8).symm.trans hr
        refine lv_iload (pc := 51) hx hb d_M_timeout_51 (lv_at hl 4 rfl) ?_
        refine lv_goto (pc := 53) (tgt := 62) hx hb d_M_timeout_53 (by decide) ?_
        exact w_M_timeout_62 a1 a2 a3 a4 hy hA S a4 a1 hk hr _ _ _ hW (lv_sub hl [0, 1, 2, 3] rfl)
