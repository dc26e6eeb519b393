theorem d_M_send_0 : decode b_M_send 0 = .ok (.aload_n 0, 1) := by decide +kernel
theorem d_M_send_1 : decode b_M_send 1 = .ok (.getfield 94, 3) := by decide +kernel
theorem d_M_send_4 : decode b_M_send 4 = .ok (.iload_n 2, 1) := by decide +kernel
theorem d_M_send_5 : decode b_M_send 5 = .ok (.iaload, 1) := by decide +kernel
theorem d_M_send_6 : decode b_M_send 6 = .ok (.bipush 16, 2) := by decide +kernel
theorem d_M_send_8 : decode b_M_send 8 = .ok (.if_icmp .ne 4, 3) := by decide +kernel
theorem d_M_send_11 : decode b_M_send 11 = .ok (.return_, 1) := by decide +kernel
theorem d_M_send_12 : decode b_M_send 12 = .ok (.bipush 16, 2) := by decide +kernel
theorem d_M_send_14 : decode b_M_send 14 = .ok (.iload_n 2, 1) := by decide +kernel
theorem d_M_send_15 : decode b_M_send 15 = .ok (.imul, 1) := by decide +kernel
theorem d_M_send_16 : decode b_M_send 16 = .ok (.aload_n 0, 1) := by decide +kernel
theorem d_M_send_17 : decode b_M_send 17 = .ok (.getfield 94, 3) := by decide +kernel
theorem d_M_send_20 : decode b_M_send 20 = .ok (.iload_n 2, 1) := by decide +kernel
theorem d_M_send_21 : decode b_M_send 21 = .ok (.iaload, 1) := by decide +kernel
theorem d_M_send_22 : decode b_M_send 22 = .ok (.iadd, 1) := by decide +kernel
theorem d_M_send_23 : decode b_M_send 23 = .ok (.istore 6, 2) := by decide +kernel
theorem d_M_send_25 : decode b_M_send 25 = .ok (.aload_n 0, 1) := by decide +kernel
theorem d_M_send_26 : decode b_M_send 26 = .ok (.getfield 97, 3) := by decide +kernel
theorem d_M_send_29 : decode b_M_send 29 = .ok (.iload 6, 2) := by decide +kernel
theorem d_M_send_31 : decode b_M_send 31 = .ok (.iload_n 3, 1) := by decide +kernel
theorem d_M_send_32 : decode b_M_send 32 = .ok (.iastore, 1) := by decide +kernel
theorem d_M_send_33 : decode b_M_send 33 = .ok (.aload_n 0, 1) := by decide +kernel
theorem d_M_send_34 : decode b_M_send 34 = .ok (.getfield 100, 3) := by decide +kernel
theorem d_M_send_37 : decode b_M_send 37 = .ok (.iload 6, 2) := by decide +kernel
theorem d_M_send_39 : decode b_M_send 39 = .ok (.iload_n 1, 1) := by decide +kernel
theorem d_M_send_40 : decode b_M_send 40 = .ok (.iastore, 1) := by decide +kernel
theorem d_M_send_41 : decode b_M_send 41 = .ok (.aload_n 0, 1) := by decide +kernel
theorem d_M_send_42 : decode b_M_send 42 = .ok (.getfield 103, 3) := by decide +kernel
theorem d_M_send_45 : decode b_M_send 45 = .ok (.iload 6, 2) := by decide +kernel
theorem d_M_send_47 : decode b_M_send 47 = .ok (.iload 4, 2) := by decide +kernel
theorem d_M_send_49 : decode b_M_send 49 = .ok (.iastore, 1) := by decide +kernel
theorem d_M_send_50 : decode b_M_send 50 = .ok (.aload_n 0, 1) := by decide +kernel
theorem d_M_send_51 : decode b_M_send 51 = .ok (.getfield 106, 3) := by decide +kernel
theorem d_M_send_54 : decode b_M_send 54 = .ok (.iload 6, 2) := by decide +kernel
theorem d_M_send_56 : decode b_M_send 56 = .ok (.iload 5, 2) := by decide +kernel
theorem d_M_send_58 : decode b_M_send 58 = .ok (.iastore, 1) := by decide +kernel
theorem d_M_send_59 : decode b_M_send 59 = .ok (.aload_n 0, 1) := by decide +kernel
theorem d_M_send_60 : decode b_M_send 60 = .ok (.getfield 109, 3) := by decide +kernel
theorem d_M_send_63 : decode b_M_send 63 = .ok (.iload 6, 2) := by decide +kernel
theorem d_M_send_65 : decode b_M_send 65 = .ok (.iload_n 3, 1) := by decide +kernel
theorem d_M_send_66 : decode b_M_send 66 = .ok (.iconst 3, 1) := by decide +kernel
theorem d_M_send_67 : decode b_M_send 67 = .ok (.if_icmp .le 7, 3) := by decide +kernel
theorem d_M_send_70 : decode b_M_send 70 = .ok (.iconst (-1), 1) := by decide +kernel
theorem d_M_send_71 : decode b_M_send 71 = .ok (.goto 7, 3) := by decide +kernel
theorem d_M_send_74 : decode b_M_send 74 = .ok (.aload_n 0, 1) := by decide +kernel
theorem d_M_send_75 : decode b_M_send 75 = .ok (.getfield 167, 3) := by decide +kernel
theorem d_M_send_78 : decode b_M_send 78 = .ok (.iastore, 1) := by decide +kernel
theorem d_M_send_79 : decode b_M_send 79 = .ok (.iconst 0, 1) := by decide +kernel
theorem d_M_send_80 : decode b_M_send 80 = .ok (.istore 7, 2) := by decide +kernel
theorem d_M_send_82 : decode b_M_send 82 = .ok (.iload 7, 2) := by decide +kernel
theorem d_M_send_84 : decode b_M_send 84 = .ok (.bipush 11, 2) := by decide +kernel
theorem d_M_send_86 : decode b_M_send 86 = .ok (.if_icmp .ge 29, 3) := by decide +kernel
theorem d_M_send_89 : decode b_M_send 89 = .ok (.aload_n 0, 1) := by decide +kernel
theorem d_M_send_90 : decode b_M_send 90 = .ok (.getfield 112, 3) := by decide +kernel
theorem d_M_send_93 : decode b_M_send 93 = .ok (.bipush 11, 2) := by decide +kernel
theorem d_M_send_95 : decode b_M_send 95 = .ok (.iload 6, 2) := by decide +kernel
theorem d_M_send_97 : decode b_M_send 97 = .ok (.imul, 1) := by decide +kernel
theorem d_M_send_98 : decode b_M_send 98 = .ok (.iload 7, 2) := by decide +kernel
theorem d_M_send_100 : decode b_M_send 100 = .ok (.iadd, 1) := by decide +kernel
theorem d_M_send_101 : decode b_M_send 101 = .ok (.aload_n 0, 1) := by decide +kernel
theorem d_M_send_102 : decode b_M_send 102 = .ok (.getfield 115, 3) := by decide +kernel
theorem d_M_send_105 : decode b_M_send 105 = .ok (.iload 7, 2) := by decide +kernel
theorem d_M_send_107 : decode b_M_send 107 = .ok (.laload, 1) := by decide +kernel
theorem d_M_send_108 : decode b_M_send 108 = .ok (.lastore, 1) := by decide +kernel
theorem d_M_send_109 : decode b_M_send 109 = .ok (.iinc 7 1, 3) := by decide +kernel
theorem d_M_send_112 : decode b_M_send 112 = .ok (.goto (-30), 3) := by decide +kernel
theorem d_M_send_115 : decode b_M_send 115 = .ok (.aload_n 0, 1) := by decide +kernel
theorem d_M_send_116 : decode b_M_send 116 = .ok (.getfield 94, 3) := by decide +kernel
theorem d_M_send_119 : decode b_M_send 119 = .ok (.iload_n 2, 1) := by decide +kernel
theorem d_M_send_120 : decode b_M_send 120 = .ok (.dup2, 1) := by decide +kernel
theorem d_M_send_121 : decode b_M_send 121 = .ok (.iaload, 1) := by decide +kernel
theorem d_M_send_122 : decode b_M_send 122 = .ok (.iconst 1, 1) := by decide +kernel
theorem d_M_send_123 : decode b_M_send 123 = .ok (.iadd, 1) := by decide +kernel
theorem d_M_send_124 : decode b_M_send 124 = .ok (.iastore, 1) := by decide +kernel
theorem d_M_send_125 : decode b_M_send 125 = .ok (.return_, 1) := by decide +kernel
def f_M_send_82 (a1 : Int32) (a2 : Int32) (a3 : Int32) (a4 : Int32) (a5 : Int32) : Nat → St → Int32 → Int32 → St
  | 0, S, _, _ => S
  | n + 1, S, l6, l7 =>
    if (11 : Int32) ≤ l7 then
      lt (si S 28 0 0 (a2.toNatClampNeg) ((S.1 28 0 0 a2.toNatClampNeg) + (1 : Int32))) fun (S18 : St) =>
      S18
    else
      lt (sl S 34 0 0 ((((11 : Int32) * l6) + l7).toNatClampNeg) (S.2.1 35 0 0 l7.toNatClampNeg)) fun (S21 : St) =>
      f_M_send_82 a1 a2 a3 a4 a5 n S21 l6 (l7 + (1 : Int32))
def ok_M_send_82 (a1 : Int32) (a2 : Int32) (a3 : Int32) (a4 : Int32) (a5 : Int32) : Nat → St → Int32 → Int32 → Prop
  | 0, _, _, _ => False
  | n + 1, S, l6, l7 =>
    ((11 : Int32) ≤ l7 → (
      (vp_in a2 4) ∧ (
        (vp_in a2 4) ∧ (
          True)))) ∧ (¬ ((11 : Int32) ≤ l7) → (
      (vp_in l7 11) ∧ (
        (vp_in (((11 : Int32) * l6) + l7) 704) ∧ (
          lt (sl S 34 0 0 ((((11 : Int32) * l6) + l7).toNatClampNeg) (S.2.1 35 0 0 l7.toNatClampNeg)) fun (S21 : St) =>
          ok_M_send_82 a1 a2 a3 a4 a5 n S21 l6 (l7 + (1 : Int32))))))
set_option maxHeartbeats 4000000 in
set_option maxRecDepth 100000 in
theorem w_M_send_82 {l : Launch} {D : va_G} {X : va_W} {ad : N3 → Nat} {ca : Nat → ClassId} (a1 : Int32) (a2 : Int32) (a3 : Int32) (a4 : Int32) (a5 : Int32)  {p : Program} {e : Env} {s : State} {m : MethodId} {below : List Frame} {meth : Method} {c : Code} {A : Nat → Prop} (hy : Hy p s m ([.ref (ad (1, 0, 0)), .int a1, .int a2, .int a3, .int a4, .int a5] : List Value).toArray meth c b_M_send 8 none R_M GG D clM (tysM ca) nwM) (hA : ∀ q, s.heap.size ≤ q → A q) {res : St} : ∀ (n : Nat) (S : St) (l6 : Int32) (l7 : Int32) , ok_M_send_82 a1 a2 a3 a4 a5 n S l6 l7 → f_M_send_82 a1 a2 a3 a4 a5 n S l6 l7 = res → ∀ (H : Heap) (locs : List Loc) (ls : Array Slot), Wd D clM A s.heap (zw X ad TM (cfM ad ca) S) H locs → lv_has ls 8 [(0, .ref (ad (1, 0, 0))), (2, .int a2), (6, .int l6), (7, .int l7)] → W p l e { frames := 0, cells := 0, slots := 0, locals := 0 } s m ([.ref (ad (1, 0, 0)), .int a1, .int a2, .int a3, .int a4, .int a5] : List Value).toArray below meth c H locs 0 0 (MQ below (eV D clM X ad TM (cfM ad ca) A res) ([.ref (ad (1, 0, 0)), .int a1, .int a2, .int a3, .int a4, .int a5] : List Value).toArray s 0 0 A) (F0 m 82 ls []) := by
  have hF := hy.1
  have hx := hF.1
  have hb := hF.2.1
  have hK := hy.2.2.2
  intro n
  induction n with
  | zero =>
    intro S l6 l7 hk
    exact hk.elim
  | succ n ih =>
    intro S l6 l7 hk hr H locs ls hW hl
    refine lv_iload (pc := 82) hx hb d_M_send_82 (lv_at hl 3 rfl) ?_
    refine lv_bipush (pc := 84) (v := 11) hx hb d_M_send_84 (by decide) ?_
    refine lv_icmp_ge (pc := 86) (tgt := 115) hx hb d_M_send_86 (by decide) (fun c15 => ?_) (fun c15 => ?_)
    · have hk := hk.1 c15
      have hr := (if_pos c15).symm.trans hr
      refine lv_aload_n (pc := 115) hx hb d_M_send_115 rfl (lv_at hl 0 rfl) ?_
      refine z_get (pc := 116) (v := .ref (ad (28, 0, 0))) hF hK.1 hW tm1 rfl rfl in_M 33 (by decide) gw_917 rfl rfl d_M_send_116 ?_
      refine lv_iload_n (pc := 119) hx hb d_M_send_119 rfl (lv_at hl 1 rfl) ?_
      refine lv_dup2_11 (pc := 120) hx hb d_M_send_120 rfl rfl ?_
      have b16 := hk.1
      have hk := hk.2
      refine z_iald (pc := 121) (v := S.1 28 0 0 a2.toNatClampNeg) hF hK.1 hW tm28 0 rfl rfl b16 rfl d_M_send_121 ?_
      refine lv_iconst (pc := 122) (v := 1) hx hb d_M_send_122 (by decide) ?_
      refine lv_iadd (pc := 123) hx hb d_M_send_123 ?_
      have b17 := hk.1
      have hk := hk.2
      obtain ⟨S18, eS18⟩ : ∃ z : St, z = si S 28 0 0 (a2.toNatClampNeg) ((S.1 28 0 0 a2.toNatClampNeg) + (1 : Int32)) := ⟨_, rfl⟩
      have hr := lt_e eS18 hr
      refine z_iast (pc := 124) (S' := S18) hF hK.1 hW tm28 0 rfl rfl b17 (zs_si eS18 rfl) (zs_sio eS18) d_M_send_124 (fun H locs (hW : Wd D clM A s.heap (zw X ad TM (cfM ad ca) S18) H locs) => ?_)
      exact z_vret hy hW hr.symm d_M_send_125
    · have hk := hk.2 c15
      have hr := (if_neg c15).symm.trans hr
      refine lv_aload_n (pc := 89) hx hb d_M_send_89 rfl (lv_at hl 0 rfl) ?_
      refine z_get (pc := 90) (v := .ref (ad (34, 0, 0))) hF hK.1 hW tm1 rfl rfl in_M 39 (by decide) gw_923 rfl rfl d_M_send_90 ?_
      refine lv_bipush (pc := 93) (v := 11) hx hb d_M_send_93 (by decide) ?_
      refine lv_iload (pc := 95) hx hb d_M_send_95 (lv_at hl 2 rfl) ?_
      refine lv_imul (pc := 97) hx hb d_M_send_97 ?_
      refine lv_iload (pc := 98) hx hb d_M_send_98 (lv_at hl 3 rfl) ?_
      refine lv_iadd (pc := 100) hx hb d_M_send_100 ?_
      refine lv_aload_n (pc := 101) hx hb d_M_send_101 rfl (lv_at hl 0 rfl) ?_
      refine z_get (pc := 102) (v := .ref (ad (35, 0, 0))) hF hK.1 hW tm1 rfl rfl in_M 41 (by decide) gw_925 rfl rfl d_M_send_102 ?_
      refine lv_iload (pc := 105) hx hb d_M_send_105 (lv_at hl 3 rfl) ?_
      have b19 := hk.1
      have hk := hk.2
      refine z_lald (pc := 107) (v := S.2.1 35 0 0 l7.toNatClampNeg) hF hK.1 hW tm35 1 rfl rfl b19 rfl d_M_send_107 ?_
      have b20 := hk.1
      have hk := hk.2
      obtain ⟨S21, eS21⟩ : ∃ z : St, z = sl S 34 0 0 ((((11 : Int32) * l6) + l7).toNatClampNeg) (S.2.1 35 0 0 l7.toNatClampNeg) := ⟨_, rfl⟩
      have hk := lt_p eS21 hk
      have hr := lt_e eS21 hr
      refine z_last (pc := 108) (S' := S21) hF hK.1 hW tm34 1 rfl rfl b20 (zs_sl eS21 rfl) (zs_slo eS21) d_M_send_108 (fun H locs (hW : Wd D clM A s.heap (zw X ad TM (cfM ad ca) S21) H locs) => ?_)
      refine lv_iinc (pc := 109) (v := l7 + (1 : Int32)) (lv' := [(7, .int (l7 + (1 : Int32))), (0, .ref (ad (1, 0, 0))), (2, .int a2), (6, .int l6)]) (k := 3) hx hb d_M_send_109 hl rfl (z_inc (by decide)) (by decide) rfl (fun ls hl => ?_)
      refine lv_goto (pc := 112) (tgt := 82) hx hb d_M_send_112 (by decide) ?_
      exact ih S21 l6 (l7 + (1 : Int32)) hk hr _ _ _ hW (lv_sub hl [1, 2, 3, 0] rfl)
def f_M_send_78 (a1 : Int32) (a2 : Int32) (a3 : Int32) (a4 : Int32) (a5 : Int32) (S : St) (l6 : Int32) (t0 : Int32) (t1 : Int32) : St :=
  lt (si S 33 0 0 (t1.toNatClampNeg) t0) fun (S14 : St) =>
  f_M_send_82 a1 a2 a3 a4 a5 200 S14 l6 (0 : Int32)
def ok_M_send_78 (a1 : Int32) (a2 : Int32) (a3 : Int32) (a4 : Int32) (a5 : Int32) (S : St) (l6 : Int32) (t0 : Int32) (t1 : Int32) : Prop :=
  (vp_in t1 64) ∧ (
    lt (si S 33 0 0 (t1.toNatClampNeg) t0) fun (S14 : St) =>
    ok_M_send_82 a1 a2 a3 a4 a5 200 S14 l6 (0 : Int32))
set_option maxHeartbeats 4000000 in
set_option maxRecDepth 100000 in
theorem w_M_send_78 {l : Launch} {D : va_G} {X : va_W} {ad : N3 → Nat} {ca : Nat → ClassId} (a1 : Int32) (a2 : Int32) (a3 : Int32) (a4 : Int32) (a5 : Int32)  {p : Program} {e : Env} {s : State} {m : MethodId} {below : List Frame} {meth : Method} {c : Code} {A : Nat → Prop} (hy : Hy p s m ([.ref (ad (1, 0, 0)), .int a1, .int a2, .int a3, .int a4, .int a5] : List Value).toArray meth c b_M_send 8 none R_M GG D clM (tysM ca) nwM) (hA : ∀ q, s.heap.size ≤ q → A q) {res : St} : ∀  (S : St) (l6 : Int32) (t0 : Int32) (t1 : Int32) , ok_M_send_78 a1 a2 a3 a4 a5 S l6 t0 t1 → f_M_send_78 a1 a2 a3 a4 a5 S l6 t0 t1 = res → ∀ (H : Heap) (locs : List Loc) (ls : Array Slot), Wd D clM A s.heap (zw X ad TM (cfM ad ca) S) H locs → lv_has ls 8 [(0, .ref (ad (1, 0, 0))), (2, .int a2), (6, .int l6)] → W p l e { frames := 0, cells := 0, slots := 0, locals := 0 } s m ([.ref (ad (1, 0, 0)), .int a1, .int a2, .int a3, .int a4, .int a5] : List Value).toArray below meth c H locs 0 0 (MQ below (eV D clM X ad TM (cfM ad ca) A res) ([.ref (ad (1, 0, 0)), .int a1, .int a2, .int a3, .int a4, .int a5] : List Value).toArray s 0 0 A) (F0 m 78 ls [.int t0, .int t1, .ref (ad (33, 0, 0))]) := by
  have hF := hy.1
  have hx := hF.1
  have hb := hF.2.1
  have hK := hy.2.2.2
  intro S l6 t0 t1 hk hr H locs ls hW hl
  have b13 := hk.1
  have hk := hk.2
  obtain ⟨S14, eS14⟩ : ∃ z : St, z = si S 33 0 0 (t1.toNatClampNeg) t0 := ⟨_, rfl⟩
  have hk := lt_p eS14 hk
  have hr := lt_e eS14 hr
  refine z_iast (pc := 78) (S' := S14) hF hK.1 hW tm33 0 rfl rfl b13 (zs_si eS14 rfl) (zs_sio eS14) d_M_send_78 (fun H locs (hW : Wd D clM A s.heap (zw X ad TM (cfM ad ca) S14) H locs) => ?_)
  refine lv_iconst (pc := 79) (v := 0) hx hb d_M_send_79 (by decide) ?_
  refine lv_istore (pc := 80) (lv' := [(7, .int (0 : Int32)), (0, .ref (ad (1, 0, 0))), (2, .int a2), (6, .int l6)]) hx hb d_M_send_80 hl (by decide) rfl (fun ls hl => ?_)
  exact w_M_send_82 a1 a2 a3 a4 a5 hy hA 200 S14 l6 (0 : Int32) hk hr _ _ _ hW (lv_sub hl [1, 2, 3, 0] rfl)
def f_M_send (a1 : Int32) (a2 : Int32) (a3 : Int32) (a4 : Int32) (a5 : Int32) (S : St) : St :=
  if (S.1 28 0 0 a2.toNatClampNeg) = (16 : Int32) then
    S
  else
    lt (si S 29 0 0 ((((16 : Int32) * a2) + (S.1 28 0 0 a2.toNatClampNeg)).toNatClampNeg) a3) fun (S5 : St) =>
    lt (si S5 30 0 0 ((((16 : Int32) * a2) + (S.1 28 0 0 a2.toNatClampNeg)).toNatClampNeg) a1) fun (S7 : St) =>
    lt (si S7 31 0 0 ((((16 : Int32) * a2) + (S.1 28 0 0 a2.toNatClampNeg)).toNatClampNeg) a4) fun (S9 : St) =>
    lt (si S9 32 0 0 ((((16 : Int32) * a2) + (S.1 28 0 0 a2.toNatClampNeg)).toNatClampNeg) a5) fun (S11 : St) =>
    if a3 ≤ (3 : Int32) then
      f_M_send_78 a1 a2 a3 a4 a5 S11 (((16 : Int32) * a2) + (S.1 28 0 0 a2.toNatClampNeg)) (S11.1 1 0 0 40) (((16 : Int32) * a2) + (S.1 28 0 0 a2.toNatClampNeg))
    else
      f_M_send_78 a1 a2 a3 a4 a5 S11 (((16 : Int32) * a2) + (S.1 28 0 0 a2.toNatClampNeg)) (-1 : Int32) (((16 : Int32) * a2) + (S.1 28 0 0 a2.toNatClampNeg))
def ok_M_send (a1 : Int32) (a2 : Int32) (a3 : Int32) (a4 : Int32) (a5 : Int32) (S : St) : Prop :=
  (vp_in a2 4) ∧ (
    ((S.1 28 0 0 a2.toNatClampNeg) = (16 : Int32) → (
      True)) ∧ (¬ ((S.1 28 0 0 a2.toNatClampNeg) = (16 : Int32)) → (
      (vp_in a2 4) ∧ (
        (vp_in (((16 : Int32) * a2) + (S.1 28 0 0 a2.toNatClampNeg)) 64) ∧ (
          lt (si S 29 0 0 ((((16 : Int32) * a2) + (S.1 28 0 0 a2.toNatClampNeg)).toNatClampNeg) a3) fun (S5 : St) =>
          (vp_in (((16 : Int32) * a2) + (S.1 28 0 0 a2.toNatClampNeg)) 64) ∧ (
            lt (si S5 30 0 0 ((((16 : Int32) * a2) + (S.1 28 0 0 a2.toNatClampNeg)).toNatClampNeg) a1) fun (S7 : St) =>
            (vp_in (((16 : Int32) * a2) + (S.1 28 0 0 a2.toNatClampNeg)) 64) ∧ (
              lt (si S7 31 0 0 ((((16 : Int32) * a2) + (S.1 28 0 0 a2.toNatClampNeg)).toNatClampNeg) a4) fun (S9 : St) =>
              (vp_in (((16 : Int32) * a2) + (S.1 28 0 0 a2.toNatClampNeg)) 64) ∧ (
                lt (si S9 32 0 0 ((((16 : Int32) * a2) + (S.1 28 0 0 a2.toNatClampNeg)).toNatClampNeg) a5) fun (S11 : St) =>
                (a3 ≤ (3 : Int32) → (
                  ok_M_send_78 a1 a2 a3 a4 a5 S11 (((16 : Int32) * a2) + (S.1 28 0 0 a2.toNatClampNeg)) (S11.1 1 0 0 40) (((16 : Int32) * a2) + (S.1 28 0 0 a2.toNatClampNeg)))) ∧ (¬ (a3 ≤ (3 : Int32)) → (
                  ok_M_send_78 a1 a2 a3 a4 a5 S11 (((16 : Int32) * a2) + (S.1 28 0 0 a2.toNatClampNeg)) (-1 : Int32) (((16 : Int32) * a2) + (S.1 28 0 0 a2.toNatClampNeg))))))))))))
set_option maxHeartbeats 4000000 in
set_option maxRecDepth 100000 in
theorem c_M_send (l : Launch) (D : va_G) (X : va_W) (ad : N3 → Nat) (ca : Nat → ClassId) (a1 : Int32) (a2 : Int32) (a3 : Int32) (a4 : Int32) (a5 : Int32)  (S : St) (hk : ok_M_send a1 a2 a3 a4 a5 S) : cV l GG D clM (tysM ca) nwM X ad TM (cfM ad ca) y_M_send b_M_send 8 0 0 [.ref (ad (1, 0, 0)), .int a1, .int a2, .int a3, .int a4, .int a5] S (f_M_send a1 a2 a3 a4 a5 S) := by
  generalize hr : f_M_send a1 a2 a3 a4 a5 S = res
  refine zV_of pn_M (Nat.le_of_ble_eq_true rfl) (fun p e s m below meth c A ls hy hW hA hl => ?_)
  have hF := hy.1
  have hx := hF.1
  have hb := hF.2.1
  have hK := hy.2.2.2
  have hl : lv_has ls 8 [(0, .ref (ad (1, 0, 0))), (1, .int a1), (2, .int a2), (3, .int a3), (4, .int a4), (5, .int a5)] := hl
  refine lv_aload_n (pc := 0) hx hb d_M_send_0 rfl (lv_at hl 0 rfl) ?_
  refine z_get (pc := 1) (v := .ref (ad (28, 0, 0))) hF hK.1 hW tm1 rfl rfl in_M 33 (by decide) gw_917 rfl rfl d_M_send_1 ?_
  refine lv_iload_n (pc := 4) hx hb d_M_send_4 rfl (lv_at hl 2 rfl) ?_
  have b1 := hk.1
  have hk := hk.2
  refine z_iald (pc := 5) (v := S.1 28 0 0 a2.toNatClampNeg) hF hK.1 hW tm28 0 rfl rfl b1 rfl d_M_send_5 ?_
  refine lv_bipush (pc := 6) (v := 16) hx hb d_M_send_6 (by decide) ?_
  refine lv_icmp_ne (pc := 8) (tgt := 12) hx hb d_M_send_8 (by decide) (fun c2 => ?_) (fun c2 => ?_)
  · have hk := hk.2 c2
    have hr := (if_neg c2).symm.trans hr
    refine lv_bipush (pc := 12) (v := 16) hx hb d_M_send_12 (by decide) ?_
    refine lv_iload_n (pc := 14) hx hb d_M_send_14 rfl (lv_at hl 2 rfl) ?_
    refine lv_imul (pc := 15) hx hb d_M_send_15 ?_
    refine lv_aload_n (pc := 16) hx hb d_M_send_16 rfl (lv_at hl 0 rfl) ?_
    refine z_get (pc := 17) (v := .ref (ad (28, 0, 0))) hF hK.1 hW tm1 rfl rfl in_M 33 (by decide) gw_917 rfl rfl d_M_send_17 ?_
    refine lv_iload_n (pc := 20) hx hb d_M_send_20 rfl (lv_at hl 2 rfl) ?_
    have b3 := hk.1
    have hk := hk.2
    refine z_iald (pc := 21) (v := S.1 28 0 0 a2.toNatClampNeg) hF hK.1 hW tm28 0 rfl rfl b3 rfl d_M_send_21 ?_
    refine lv_iadd (pc := 22) hx hb d_M_send_22 ?_
    refine lv_istore (pc := 23) (lv' := [(6, .int (((16 : Int32) * a2) + (S.1 28 0 0 a2.toNatClampNeg))), (0, .ref (ad (1, 0, 0))), (1, .int a1), (2, .int a2), (3, .int a3), (4, .int a4), (5, .int a5)]) hx hb d_M_send_23 hl (by decide) rfl (fun ls hl => ?_)
    refine lv_aload_n (pc := 25) hx hb d_M_send_25 rfl (lv_at hl 1 rfl) ?_
    refine z_get (pc := 26) (v := .ref (ad (29, 0, 0))) hF hK.1 hW tm1 rfl rfl in_M 34 (by decide) gw_918 rfl rfl d_M_send_26 ?_
    refine lv_iload (pc := 29) hx hb d_M_send_29 (lv_at hl 0 rfl) ?_
    refine lv_iload_n (pc := 31) hx hb d_M_send_31 rfl (lv_at hl 4 rfl) ?_
    have b4 := hk.1
    have hk := hk.2
    obtain ⟨S5, eS5⟩ : ∃ z : St, z = si S 29 0 0 ((((16 : Int32) * a2) + (S.1 28 0 0 a2.toNatClampNeg)).toNatClampNeg) a3 := ⟨_, rfl⟩
    have hk := lt_p eS5 hk
    have hr := lt_e eS5 hr
    refine z_iast (pc := 32) (S' := S5) hF hK.1 hW tm29 0 rfl rfl b4 (zs_si eS5 rfl) (zs_sio eS5) d_M_send_32 (fun H locs (hW : Wd D clM A s.heap (zw X ad TM (cfM ad ca) S5) H locs) => ?_)
    refine lv_aload_n (pc := 33) hx hb d_M_send_33 rfl (lv_at hl 1 rfl) ?_
    refine z_get (pc := 34) (v := .ref (ad (30, 0, 0))) hF hK.1 hW tm1 rfl rfl in_M 35 (by decide) gw_919 rfl rfl d_M_send_34 ?_
    refine lv_iload (pc := 37) hx hb d_M_send_37 (lv_at hl 0 rfl) ?_
    refine lv_iload_n (pc := 39) hx hb d_M_send_39 rfl (lv_at hl 2 rfl) ?_
    have b6 := hk.1
    have hk := hk.2
    obtain ⟨S7, eS7⟩ : ∃ z : St, z = si S5 30 0 0 ((((16 : Int32) * a2) + (S.1 28 0 0 a2.toNatClampNeg)).toNatClampNeg) a1 := ⟨_, rfl⟩
    have hk := lt_p eS7 hk
    have hr := lt_e eS7 hr
    refine z_iast (pc := 40) (S' := S7) hF hK.1 hW tm30 0 rfl rfl b6 (zs_si eS7 rfl) (zs_sio eS7) d_M_send_40 (fun H locs (hW : Wd D clM A s.heap (zw X ad TM (cfM ad ca) S7) H locs) => ?_)
    refine lv_aload_n (pc := 41) hx hb d_M_send_41 rfl (lv_at hl 1 rfl) ?_
    refine z_get (pc := 42) (v := .ref (ad (31, 0, 0))) hF hK.1 hW tm1 rfl rfl in_M 36 (by decide) gw_920 rfl rfl d_M_send_42 ?_
    refine lv_iload (pc := 45) hx hb d_M_send_45 (lv_at hl 0 rfl) ?_
    refine lv_iload (pc := 47) hx hb d_M_send_47 (lv_at hl 5 rfl) ?_
    have b8 := hk.1
    have hk := hk.2
    obtain ⟨S9, eS9⟩ : ∃ z : St, z = si S7 31 0 0 ((((16 : Int32) * a2) + (S.1 28 0 0 a2.toNatClampNeg)).toNatClampNeg) a4 := ⟨_, rfl⟩
    have hk := lt_p eS9 hk
    have hr := lt_e eS9 hr
    refine z_iast (pc := 49) (S' := S9) hF hK.1 hW tm31 0 rfl rfl b8 (zs_si eS9 rfl) (zs_sio eS9) d_M_send_49 (fun H locs (hW : Wd D clM A s.heap (zw X ad TM (cfM ad ca) S9) H locs) => ?_)
    refine lv_aload_n (pc := 50) hx hb d_M_send_50 rfl (lv_at hl 1 rfl) ?_
    refine z_get (pc := 51) (v := .ref (ad (32, 0, 0))) hF hK.1 hW tm1 rfl rfl in_M 37 (by decide) gw_921 rfl rfl d_M_send_51 ?_
    refine lv_iload (pc := 54) hx hb d_M_send_54 (lv_at hl 0 rfl) ?_
    refine lv_iload (pc := 56) hx hb d_M_send_56 (lv_at hl 6 rfl) ?_
    have b10 := hk.1
    have hk := hk.2
    obtain ⟨S11, eS11⟩ : ∃ z : St, z = si S9 32 0 0 ((((16 : Int32) * a2) + (S.1 28 0 0 a2.toNatClampNeg)).toNatClampNeg) a5 := ⟨_, rfl⟩
    have hk := lt_p eS11 hk
    have hr := lt_e eS11 hr
    refine z_iast (pc := 58) (S' := S11) hF hK.1 hW tm32 0 rfl rfl b10 (zs_si eS11 rfl) (zs_sio eS11) d_M_send_58 (fun H locs (hW : Wd D clM A s.heap (zw X ad TM (cfM ad ca) S11) H locs) => ?_)
    refine lv_aload_n (pc := 59) hx hb d_M_send_59 rfl (lv_at hl 1 rfl) ?_
    refine z_get (pc := 60) (v := .ref (ad (33, 0, 0))) hF hK.1 hW tm1 rfl rfl in_M 38 (by decide) gw_922 rfl rfl d_M_send_60 ?_
    refine lv_iload (pc := 63) hx hb d_M_send_63 (lv_at hl 0 rfl) ?_
    refine lv_iload_n (pc := 65) hx hb d_M_send_65 rfl (lv_at hl 4 rfl) ?_
    refine lv_iconst (pc := 66) (v := 3) hx hb d_M_send_66 (by decide) ?_
    refine lv_icmp_le (pc := 67) (tgt := 74) hx hb d_M_send_67 (by decide) (fun c12 => ?_) (fun c12 => ?_)
    · have hk := hk.1 c12
      have hr := (if_pos c12).symm.trans hr
      refine lv_aload_n (pc := 74) hx hb d_M_send_74 rfl (lv_at hl 1 rfl) ?_
      refine z_get (pc := 75) (v := .int (S11.1 1 0 0 40)) hF hK.1 hW tm1 rfl rfl in_M 40 (by decide) gw_924 rfl rfl d_M_send_75 ?_
      exact w_M_send_78 a1 a2 a3 a4 a5 hy hA S11 (((16 : Int32) * a2) + (S.1 28 0 0 a2.toNatClampNeg)) (S11.1 1 0 0 40) (((16 : Int32) * a2) + (S.1 28 0 0 a2.toNatClampNeg)) hk hr _ _ _ hW (lv_sub hl [1, 3, 0] rfl)
    · have hk := hk.2 c12
      have hr := (if_neg c12).symm.trans hr
      refine lv_iconst (pc := 70) (v := -1) hx hb d_M_send_70 (by decide) ?_
      refine lv_goto (pc := 71) (tgt := 78) hx hb d_M_send_71 (by decide) ?_
      exact w_M_send_78 a1 a2 a3 a4 a5 hy hA S11 (((16 : Int32) * a2) + (S.1 28 0 0 a2.toNatClampNeg)) (-1 : Int32) (((16 : Int32) * a2) + (S.1 28 0 0 a2.toNatClampNeg)) hk hr _ _ _ hW (lv_sub hl [1, 3, 0] rfl)
  · have hk := hk.1 c2
    have hr := (if_pos c2).symm.trans hr
    exact z_vret hy hW hr.symm d_M_send_11
theorem d_M_copyMessage_0 : decode b_M_copyMessage 0 = .ok (.aload_n 0, 1) := by decide +kernel
theorem d_M_copyMessage_1 : decode b_M_copyMessage 1 = .ok (.getfield 97, 3) := by decide +kernel
theorem d_M_copyMessage_4 : decode b_M_copyMessage 4 = .ok (.iload_n 2, 1) := by decide +kernel
theorem d_M_copyMessage_5 : decode b_M_copyMessage 5 = .ok (.aload_n 0, 1) := by decide +kernel
theorem d_M_copyMessage_6 : decode b_M_copyMessage 6 = .ok (.getfield 97, 3) := by decide +kernel
theorem d_M_copyMessage_9 : decode b_M_copyMessage 9 = .ok (.iload_n 1, 1) := by decide +kernel
theorem d_M_copyMessage_10 : decode b_M_copyMessage 10 = .ok (.iaload, 1) := by decide +kernel
theorem d_M_copyMessage_11 : decode b_M_copyMessage 11 = .ok (.iastore, 1) := by decide +kernel
theorem d_M_copyMessage_12 : decode b_M_copyMessage 12 = .ok (.aload_n 0, 1) := by decide +kernel
theorem d_M_copyMessage_13 : decode b_M_copyMessage 13 = .ok (.getfield 100, 3) := by decide +kernel
theorem d_M_copyMessage_16 : decode b_M_copyMessage 16 = .ok (.iload_n 2, 1) := by decide +kernel
theorem d_M_copyMessage_17 : decode b_M_copyMessage 17 = .ok (.aload_n 0, 1) := by decide +kernel
theorem d_M_copyMessage_18 : decode b_M_copyMessage 18 = .ok (.getfield 100, 3) := by decide +kernel
theorem d_M_copyMessage_21 : decode b_M_copyMessage 21 = .ok (.iload_n 1, 1) := by decide +kernel
theorem d_M_copyMessage_22 : decode b_M_copyMessage 22 = .ok (.iaload, 1) := by decide +kernel
theorem d_M_copyMessage_23 : decode b_M_copyMessage 23 = .ok (.iastore, 1) := by decide +kernel
theorem d_M_copyMessage_24 : decode b_M_copyMessage 24 = .ok (.aload_n 0, 1) := by decide +kernel
theorem d_M_copyMessage_25 : decode b_M_copyMessage 25 = .ok (.getfield 103, 3) := by decide +kernel
theorem d_M_copyMessage_28 : decode b_M_copyMessage 28 = .ok (.iload_n 2, 1) := by decide +kernel
theorem d_M_copyMessage_29 : decode b_M_copyMessage 29 = .ok (.aload_n 0, 1) := by decide +kernel
theorem d_M_copyMessage_30 : decode b_M_copyMessage 30 = .ok (.getfield 103, 3) := by decide +kernel
theorem d_M_copyMessage_33 : decode b_M_copyMessage 33 = .ok (.iload_n 1, 1) := by decide +kernel
theorem d_M_copyMessage_34 : decode b_M_copyMessage 34 = .ok (.iaload, 1) := by decide +kernel
theorem d_M_copyMessage_35 : decode b_M_copyMessage 35 = .ok (.iastore, 1) := by decide +kernel
theorem d_M_copyMessage_36 : decode b_M_copyMessage 36 = .ok (.aload_n 0, 1) := by decide +kernel
theorem d_M_copyMessage_37 : decode b_M_copyMessage 37 = .ok (.getfield 106, 3) := by decide +kernel
theorem d_M_copyMessage_40 : decode b_M_copyMessage 40 = .ok (.iload_n 2, 1) := by decide +kernel
theorem d_M_copyMessage_41 : decode b_M_copyMessage 41 = .ok (.aload_n 0, 1) := by decide +kernel
theorem d_M_copyMessage_42 : decode b_M_copyMessage 42 = .ok (.getfield 106, 3) := by decide +kernel
theorem d_M_copyMessage_45 : decode b_M_copyMessage 45 = .ok (.iload_n 1, 1) := by decide +kernel
theorem d_M_copyMessage_46 : decode b_M_copyMessage 46 = .ok (.iaload, 1) := by decide +kernel
theorem d_M_copyMessage_47 : decode b_M_copyMessage 47 = .ok (.iastore, 1) := by decide +kernel
theorem d_M_copyMessage_48 : decode b_M_copyMessage 48 = .ok (.aload_n 0, 1) := by decide +kernel
theorem d_M_copyMessage_49 : decode b_M_copyMessage 49 = .ok (.getfield 109, 3) := by decide +kernel
theorem d_M_copyMessage_52 : decode b_M_copyMessage 52 = .ok (.iload_n 2, 1) := by decide +kernel
theorem d_M_copyMessage_53 : decode b_M_copyMessage 53 = .ok (.aload_n 0, 1) := by decide +kernel
theorem d_M_copyMessage_54 : decode b_M_copyMessage 54 = .ok (.getfield 109, 3) := by decide +kernel
theorem d_M_copyMessage_57 : decode b_M_copyMessage 57 = .ok (.iload_n 1, 1) := by decide +kernel
theorem d_M_copyMessage_58 : decode b_M_copyMessage 58 = .ok (.iaload, 1) := by decide +kernel
theorem d_M_copyMessage_59 : decode b_M_copyMessage 59 = .ok (.iastore, 1) := by decide +kernel
theorem d_M_copyMessage_60 : decode b_M_copyMessage 60 = .ok (.iconst 0, 1) := by decide +kernel
theorem d_M_copyMessage_61 : decode b_M_copyMessage 61 = .ok (.istore_n 3, 1) := by decide +kernel
theorem d_M_copyMessage_62 : decode b_M_copyMessage 62 = .ok (.iload_n 3, 1) := by decide +kernel
theorem d_M_copyMessage_63 : decode b_M_copyMessage 63 = .ok (.bipush 11, 2) := by decide +kernel
theorem d_M_copyMessage_65 : decode b_M_copyMessage 65 = .ok (.if_icmp .ge 31, 3) := by decide +kernel
theorem d_M_copyMessage_68 : decode b_M_copyMessage 68 = .ok (.aload_n 0, 1) := by decide +kernel
theorem d_M_copyMessage_69 : decode b_M_copyMessage 69 = .ok (.getfield 112, 3) := by decide +kernel
theorem d_M_copyMessage_72 : decode b_M_copyMessage 72 = .ok (.bipush 11, 2) := by decide +kernel
theorem d_M_copyMessage_74 : decode b_M_copyMessage 74 = .ok (.iload_n 2, 1) := by decide +kernel
theorem d_M_copyMessage_75 : decode b_M_copyMessage 75 = .ok (.imul, 1) := by decide +kernel
theorem d_M_copyMessage_76 : decode b_M_copyMessage 76 = .ok (.iload_n 3, 1) := by decide +kernel
theorem d_M_copyMessage_77 : decode b_M_copyMessage 77 = .ok (.iadd, 1) := by decide +kernel
theorem d_M_copyMessage_78 : decode b_M_copyMessage 78 = .ok (.aload_n 0, 1) := by decide +kernel
theorem d_M_copyMessage_79 : decode b_M_copyMessage 79 = .ok (.getfield 112, 3) := by decide +kernel
theorem d_M_copyMessage_82 : decode b_M_copyMessage 82 = .ok (.bipush 11, 2) := by decide +kernel
theorem d_M_copyMessage_84 : decode b_M_copyMessage 84 = .ok (.iload_n 1, 1) := by decide +kernel
theorem d_M_copyMessage_85 : decode b_M_copyMessage 85 = .ok (.imul, 1) := by decide +kernel
theorem d_M_copyMessage_86 : decode b_M_copyMessage 86 = .ok (.iload_n 3, 1) := by decide +kernel
theorem d_M_copyMessage_87 : decode b_M_copyMessage 87 = .ok (.iadd, 1) := by decide +kernel
theorem d_M_copyMessage_88 : decode b_M_copyMessage 88 = .ok (.laload, 1) := by decide +kernel
theorem d_M_copyMessage_89 : decode b_M_copyMessage 89 = .ok (.lastore, 1) := by decide +kernel
theorem d_M_copyMessage_90 : decode b_M_copyMessage 90 = .ok (.iinc 3 1, 3) := by decide +kernel
theorem d_M_copyMessage_93 : decode b_M_copyMessage 93 = .ok (.goto (-31), 3) := by decide +kernel
theorem d_M_copyMessage_96 : decode b_M_copyMessage 96 = .ok (.return_, 1) := by decide +kernel
def f_M_copyMessage_62 (a1 : Int32) (a2 : Int32) : Nat → St → Int32 → St
  | 0, S, _ => S
  | n + 1, S, l3 =>
    if (11 : Int32) ≤ l3 then
      S
    else
      lt (sl S 34 0 0 ((((11 : Int32) * a2) + l3).toNatClampNeg) (S.2.1 34 0 0 (((11 : Int32) * a1) + l3).toNatClampNeg)) fun (S19 : St) =>
      f_M_copyMessage_62 a1 a2 n S19 (l3 + (1 : Int32))
def ok_M_copyMessage_62 (a1 : Int32) (a2 : Int32) : Nat → St → Int32 → Prop
  | 0, _, _ => False
  | n + 1, S, l3 =>
    ((11 : Int32) ≤ l3 → (
      True)) ∧ (¬ ((11 : Int32) ≤ l3) → (
      (vp_in (((11 : Int32) * a1) + l3) 704) ∧ (
        (vp_in (((11 : Int32) * a2) + l3) 704) ∧ (
          lt (sl S 34 0 0 ((((11 : Int32) * a2) + l3).toNatClampNeg) (S.2.1 34 0 0 (((11 : Int32) * a1) + l3).toNatClampNeg)) fun (S19 : St) =>
          ok_M_copyMessage_62 a1 a2 n S19 (l3 + (1 : Int32))))))
set_option maxHeartbeats 4000000 in
set_option maxRecDepth 100000 in
theorem w_M_copyMessage_62 {l : Launch} {D : va_G} {X : va_W} {ad : N3 → Nat} {ca : Nat → ClassId} (a1 : Int32) (a2 : Int32)  {p : Program} {e : Env} {s : State} {m : MethodId} {below : List Frame} {meth : Method} {c : Code} {A : Nat → Prop} (hy : Hy p s m ([.ref (ad (1, 0, 0)), .int a1, .int a2] : List Value).toArray meth c b_M_copyMessage 4 none R_M GG D clM (tysM ca) nwM) (hA : ∀ q, s.heap.size ≤ q → A q) {res : St} : ∀ (n : Nat) (S : St) (l3 : Int32) , ok_M_copyMessage_62 a1 a2 n S l3 → f_M_copyMessage_62 a1 a2 n S l3 = res → ∀ (H : Heap) (locs : List Loc) (ls : Array Slot), Wd D clM A s.heap (zw X ad TM (cfM ad ca) S) H locs → lv_has ls 4 [(0, .ref (ad (1, 0, 0))), (1, .int a1), (2, .int a2), (3, .int l3)] → W p l e { frames := 0, cells := 0, slots := 0, locals := 0 } s m ([.ref (ad (1, 0, 0)), .int a1, .int a2] : List Value).toArray below meth c H locs 0 0 (MQ below (eV D clM X ad TM (cfM ad ca) A res) ([.ref (ad (1, 0, 0)), .int a1, .int a2] : List Value).toArray s 0 0 A) (F0 m 62 ls []) := by
  have hF := hy.1
  have hx := hF.1
  have hb := hF.2.1
  have hK := hy.2.2.2
  intro n
  induction n with
  | zero =>
    intro S l3 hk
    exact hk.elim
  | succ n ih =>
    intro S l3 hk hr H locs ls hW hl
    refine lv_iload_n (pc := 62) hx hb d_M_copyMessage_62 rfl (lv_at hl 3 rfl) ?_
    refine lv_bipush (pc := 63) (v := 11) hx hb d_M_copyMessage_63 (by decide) ?_
    refine lv_icmp_ge (pc := 65) (tgt := 96) hx hb d_M_copyMessage_65 (by decide) (fun c16 => ?_) (fun c16 => ?_)
    · have hk := hk.1 c16
      have hr := (if_pos c16).symm.trans hr
      exact z_vret hy hW hr.symm d_M_copyMessage_96
    · have hk := hk.2 c16
      have hr := (if_neg c16).symm.trans hr
      refine lv_aload_n (pc := 68) hx hb d_M_copyMessage_68 rfl (lv_at hl 0 rfl) ?_
      refine z_get (pc := 69) (v := .ref (ad (34, 0, 0))) hF hK.1 hW tm1 rfl rfl in_M 39 (by decide) gw_923 rfl rfl d_M_copyMessage_69 ?_
      refine lv_bipush (pc := 72) (v := 11) hx hb d_M_copyMessage_72 (by decide) ?_
      refine lv_iload_n (pc := 74) hx hb d_M_copyMessage_74 rfl (lv_at hl 2 rfl) ?_
      refine lv_imul (pc := 75) hx hb d_M_copyMessage_75 ?_
      refine lv_iload_n (pc := 76) hx hb d_M_copyMessage_76 rfl (lv_at hl 3 rfl) ?_
      refine lv_iadd (pc := 77) hx hb d_M_copyMessage_77 ?_
      refine lv_aload_n (pc := 78) hx hb d_M_copyMessage_78 rfl (lv_at hl 0 rfl) ?_
      refine z_get (pc := 79) (v := .ref (ad (34, 0, 0))) hF hK.1 hW tm1 rfl rfl in_M 39 (by decide) gw_923 rfl rfl d_M_copyMessage_79 ?_
      refine lv_bipush (pc := 82) (v := 11) hx hb d_M_copyMessage_82 (by decide) ?_
      refine lv_iload_n (pc := 84) hx hb d_M_copyMessage_84 rfl (lv_at hl 1 rfl) ?_
      refine lv_imul (pc := 85) hx hb d_M_copyMessage_85 ?_
      refine lv_iload_n (pc := 86) hx hb d_M_copyMessage_86 rfl (lv_at hl 3 rfl) ?_
      refine lv_iadd (pc := 87) hx hb d_M_copyMessage_87 ?_
      have b17 := hk.1
      have hk := hk.2
      refine z_lald (pc := 88) (v := S.2.1 34 0 0 (((11 : Int32) * a1) + l3).toNatClampNeg) hF hK.1 hW tm34 1 rfl rfl b17 rfl d_M_copyMessage_88 ?_
      have b18 := hk.1
      have hk := hk.2
      obtain ⟨S19, eS19⟩ : ∃ z : St, z = sl S 34 0 0 ((((11 : Int32) * a2) + l3).toNatClampNeg) (S.2.1 34 0 0 (((11 : Int32) * a1) + l3).toNatClampNeg) := ⟨_, rfl⟩
      have hk := lt_p eS19 hk
      have hr := lt_e eS19 hr
      refine z_last (pc := 89) (S' := S19) hF hK.1 hW tm34 1 rfl rfl b18 (zs_sl eS19 rfl) (zs_slo eS19) d_M_copyMessage_89 (fun H locs (hW : Wd D clM A s.heap (zw X ad TM (cfM ad ca) S19) H locs) => ?_)
      refine lv_iinc (pc := 90) (v := l3 + (1 : Int32)) (lv' := [(3, .int (l3 + (1 : Int32))), (0, .ref (ad (1, 0, 0))), (1, .int a1), (2, .int a2)]) (k := 3) hx hb d_M_copyMessage_90 hl rfl (z_inc (by decide)) (by decide) rfl (fun ls hl => ?_)
      refine lv_goto (pc := 93) (tgt := 62) hx hb d_M_copyMessage_93 (by decide) ?_
      exact ih S19 (l3 + (1 : Int32)) hk hr _ _ _ hW (lv_sub hl [1, 2, 3, 0] rfl)
def f_M_copyMessage (a1 : Int32) (a2 : Int32) (S : St) : St :=
  lt (si S 29 0 0 (a2.toNatClampNeg) (S.1 29 0 0 a1.toNatClampNeg)) fun (S3 : St) =>
  lt (si S3 30 0 0 (a2.toNatClampNeg) (S3.1 30 0 0 a1.toNatClampNeg)) fun (S6 : St) =>
  lt (si S6 31 0 0 (a2.toNatClampNeg) (S6.1 31 0 0 a1.toNatClampNeg)) fun (S9 : St) =>
  lt (si S9 32 0 0 (a2.toNatClampNeg) (S9.1 32 0 0 a1.toNatClampNeg)) fun (S12 : St) =>
  lt (si S12 33 0 0 (a2.toNatClampNeg) (S12.1 33 0 0 a1.toNatClampNeg)) fun (S15 : St) =>
  f_M_copyMessage_62 a1 a2 200 S15 (0 : Int32)
def ok_M_copyMessage (a1 : Int32) (a2 : Int32) (S : St) : Prop :=
  (vp_in a1 64) ∧ (
    (vp_in a2 64) ∧ (
      lt (si S 29 0 0 (a2.toNatClampNeg) (S.1 29 0 0 a1.toNatClampNeg)) fun (S3 : St) =>
      (vp_in a1 64) ∧ (
        (vp_in a2 64) ∧ (
          lt (si S3 30 0 0 (a2.toNatClampNeg) (S3.1 30 0 0 a1.toNatClampNeg)) fun (S6 : St) =>
          (vp_in a1 64) ∧ (
            (vp_in a2 64) ∧ (
              lt (si S6 31 0 0 (a2.toNatClampNeg) (S6.1 31 0 0 a1.toNatClampNeg)) fun (S9 : St) =>
              (vp_in a1 64) ∧ (
                (vp_in a2 64) ∧ (
                  lt (si S9 32 0 0 (a2.toNatClampNeg) (S9.1 32 0 0 a1.toNatClampNeg)) fun (S12 : St) =>
                  (vp_in a1 64) ∧ (
                    (vp_in a2 64) ∧ (
                      lt (si S12 33 0 0 (a2.toNatClampNeg) (S12.1 33 0 0 a1.toNatClampNeg)) fun (S15 : St) =>
                      ok_M_copyMessage_62 a1 a2 200 S15 (0 : Int32)))))))))))
set_option maxHeartbeats 4000000 in
set_option maxRecDepth 100000 in
theorem c_M_copyMessage (l : Launch) (D : va_G) (X : va_W) (ad : N3 → Nat) (ca : Nat → ClassId) (a1 : Int32) (a2 : Int32)  (S : St) (hk : ok_M_copyMessage a1 a2 S) : cV l GG D clM (tysM ca) nwM X ad TM (cfM ad ca) y_M_copyMessage b_M_copyMessage 4 0 0 [.ref (ad (1, 0, 0)), .int a1, .int a2] S (f_M_copyMessage a1 a2 S) := by
  generalize hr : f_M_copyMessage a1 a2 S = res
  refine zV_of pn_M (Nat.le_of_ble_eq_true rfl) (fun p e s m below meth c A ls hy hW hA hl => ?_)
  have hF := hy.1
  have hx := hF.1
  have hb := hF.2.1
  have hK := hy.2.2.2
  have hl : lv_has ls 4 [(0, .ref (ad (1, 0, 0))), (1, .int a1), (2, .int a2)] := hl
  refine lv_aload_n (pc := 0) hx hb d_M_copyMessage_0 rfl (lv_at hl 0 rfl) ?_
  refine z_get (pc := 1) (v := .ref (ad (29, 0, 0))) hF hK.1 hW tm1 rfl rfl in_M 34 (by decide) gw_918 rfl rfl d_M_copyMessage_1 ?_
  refine lv_iload_n (pc := 4) hx hb d_M_copyMessage_4 rfl (lv_at hl 2 rfl) ?_
  refine lv_aload_n (pc := 5) hx hb d_M_copyMessage_5 rfl (lv_at hl 0 rfl) ?_
  refine z_get (pc := 6) (v := .ref (ad (29, 0, 0))) hF hK.1 hW tm1 rfl rfl in_M 34 (by decide) gw_918 rfl rfl d_M_copyMessage_6 ?_
  refine lv_iload_n (pc := 9) hx hb d_M_copyMessage_9 rfl (lv_at hl 1 rfl) ?_
  have b1 := hk.1
  have hk := hk.2
  refine z_iald (pc := 10) (v := S.1 29 0 0 a1.toNatClampNeg) hF hK.1 hW tm29 0 rfl rfl b1 rfl d_M_copyMessage_10 ?_
  have b2 := hk.1
  have hk := hk.2
  obtain ⟨S3, eS3⟩ : ∃ z : St, z = si S 29 0 0 (a2.toNatClampNeg) (S.1 29 0 0 a1.toNatClampNeg) := ⟨_, rfl⟩
  have hk := lt_p eS3 hk
  have hr := lt_e eS3 hr
  refine z_iast (pc := 11) (S' := S3) hF hK.1 hW tm29 0 rfl rfl b2 (zs_si eS3 rfl) (zs_sio eS3) d_M_copyMessage_11 (fun H locs (hW : Wd D clM A s.heap (zw X ad TM (cfM ad ca) S3) H locs) => ?_)
  refine lv_aload_n (pc := 12) hx hb d_M_copyMessage_12 rfl (lv_at hl 0 rfl) ?_
  refine z_get (pc := 13) (v := .ref (ad (30, 0, 0))) hF hK.1 hW tm1 rfl rfl in_M 35 (by decide) gw_919 rfl rfl d_M_copyMessage_13 ?_
  refine lv_iload_n (pc := 16) hx hb d_M_copyMessage_16 rfl (lv_at hl 2 rfl) ?_
  refine lv_aload_n (pc := 17) hx hb d_M_copyMessage_17 rfl (lv_at hl 0 rfl) ?_
  refine z_get (pc := 18) (v := .ref (ad (30, 0, 0))) hF hK.1 hW tm1 rfl rfl in_M 35 (by decide) gw_919 rfl rfl d_M_copyMessage_18 ?_
  refine lv_iload_n (pc := 21) hx hb d_M_copyMessage_21 rfl (lv_at hl 1 rfl) ?_
  have b4 := hk.1
  have hk := hk.2
  refine z_iald (pc := 22) (v := S3.1 30 0 0 a1.toNatClampNeg) hF hK.1 hW tm30 0 rfl rfl b4 rfl d_M_copyMessage_22 ?_
  have b5 := hk.1
  have hk := hk.2
  obtain ⟨S6, eS6⟩ : ∃ z : St, z = si S3 30 0 0 (a2.toNatClampNeg) (S3.1 30 0 0 a1.toNatClampNeg) := ⟨_, rfl⟩
  have hk := lt_p eS6 hk
  have hr := lt_e eS6 hr
  refine z_iast (pc := 23) (S' := S6) hF hK.1 hW tm30 0 rfl rfl b5 (zs_si eS6 rfl) (zs_sio eS6) d_M_copyMessage_23 (fun H locs (hW : Wd D clM A s.heap (zw X ad TM (cfM ad ca) S6) H locs) => ?_)
  refine lv_aload_n (pc := 24) hx hb d_M_copyMessage_24 rfl (lv_at hl 0 rfl) ?_
  refine z_get (pc := 25) (v := .ref (ad (31, 0, 0))) hF hK.1 hW tm1 rfl rfl in_M 36 (by decide) gw_920 rfl rfl d_M_copyMessage_25 ?_
  refine lv_iload_n (pc := 28) hx hb d_M_copyMessage_28 rfl (lv_at hl 2 rfl) ?_
  refine lv_aload_n (pc := 29) hx hb d_M_copyMessage_29 rfl (lv_at hl 0 rfl) ?_
  refine z_get (pc := 30) (v := .ref (ad (31, 0, 0))) hF hK.1 hW tm1 rfl rfl in_M 36 (by decide) gw_920 rfl rfl d_M_copyMessage_30 ?_
  refine lv_iload_n (pc := 33) hx hb d_M_copyMessage_33 rfl (lv_at hl 1 rfl) ?_
  have b7 := hk.1
  have hk := hk.2
  refine z_iald (pc := 34) (v := S6.1 31 0 0 a1.toNatClampNeg) hF hK.1 hW tm31 0 rfl rfl b7 rfl d_M_copyMessage_34 ?_
  have b8 := hk.1
  have hk := hk.2
  obtain ⟨S9, eS9⟩ : ∃ z : St, z = si S6 31 0 0 (a2.toNatClampNeg) (S6.1 31 0 0 a1.toNatClampNeg) := ⟨_, rfl⟩
  have hk := lt_p eS9 hk
  have hr := lt_e eS9 hr
  refine z_iast (pc := 35) (S' := S9) hF hK.1 hW tm31 0 rfl rfl b8 (zs_si eS9 rfl) (zs_sio eS9) d_M_copyMessage_35 (fun H locs (hW : Wd D clM A s.heap (zw X ad TM (cfM ad ca) S9) H locs) => ?_)
  refine lv_aload_n (pc := 36) hx hb d_M_copyMessage_36 rfl (lv_at hl 0 rfl) ?_
  refine z_get (pc := 37) (v := .ref (ad (32, 0, 0))) hF hK.1 hW tm1 rfl rfl in_M 37 (by decide) gw_921 rfl rfl d_M_copyMessage_37 ?_
  refine lv_iload_n (pc := 40) hx hb d_M_copyMessage_40 rfl (lv_at hl 2 rfl) ?_
  refine lv_aload_n (pc := 41) hx hb d_M_copyMessage_41 rfl (lv_at hl 0 rfl) ?_
  refine z_get (pc := 42) (v := .ref (ad (32, 0, 0))) hF hK.1 hW tm1 rfl rfl in_M 37 (by decide) gw_921 rfl rfl d_M_copyMessage_42 ?_
  refine lv_iload_n (pc := 45) hx hb d_M_copyMessage_45 rfl (lv_at hl 1 rfl) ?_
  have b10 := hk.1
  have hk := hk.2
  refine z_iald (pc := 46) (v := S9.1 32 0 0 a1.toNatClampNeg) hF hK.1 hW tm32 0 rfl rfl b10 rfl d_M_copyMessage_46 ?_
  have b11 := hk.1
  have hk := hk.2
  obtain ⟨S12, eS12⟩ : ∃ z : St, z = si S9 32 0 0 (a2.toNatClampNeg) (S9.1 32 0 0 a1.toNatClampNeg) := ⟨_, rfl⟩
  have hk := lt_p eS12 hk
  have hr := lt_e eS12 hr
  refine z_iast (pc := 47) (S' := S12) hF hK.1 hW tm32 0 rfl rfl b11 (zs_si eS12 rfl) (zs_sio eS12) d_M_copyMessage_47 (fun H locs (hW : Wd D clM A s.heap (zw X ad TM (cfM ad ca) S12) H locs) => ?_)
  refine lv_aload_n (pc := 48) hx hb d_M_copyMessage_48 rfl (lv_at hl 0 rfl) ?_
  refine z_get (pc := 49) (v := .ref (ad (33, 0, 0))) hF hK.1 hW tm1 rfl rfl in_M 38 (by decide) gw_922 rfl rfl d_M_copyMessage_49 ?_
  refine lv_iload_n (pc := 52) hx hb d_M_copyMessage_52 rfl (lv_at hl 2 rfl) ?_
  refine lv_aload_n (pc := 53) hx hb d_M_copyMessage_53 rfl (lv_at hl 0 rfl) ?_
  refine z_get (pc := 54) (v := .ref (ad (33, 0, 0))) hF hK.1 hW tm1 rfl rfl in_M 38 (by decide) gw_922 rfl rfl d_M_copyMessage_54 ?_
  refine lv_iload_n (pc := 57) hx hb d_M_copyMessage_57 rfl (lv_at hl 1 rfl) ?_
  have b13 := hk.1
  have hk := hk.2
  refine z_iald (pc := 58) (v := S12.1 33 0 0 a1.toNatClampNeg) hF hK.1 hW tm33 0 rfl rfl b13 rfl d_M_copyMessage_58 ?_
  have b14 := hk.1
  have hk := hk.2
  obtain ⟨S15, eS15⟩ : ∃ z : St, z = si S12 33 0 0 (a2.toNatClampNeg) (S12.1 33 0 0 a1.toNatClampNeg) := ⟨_, rfl⟩
  have hk := lt_p eS15 hk
  have hr := lt_e eS15 hr
  refine z_iast (pc := 59) (S' := S15) hF hK.1 hW tm33 0 rfl rfl b14 (zs_si eS15 rfl) (zs_sio eS15) d_M_copyMessage_59 (fun H locs (hW : Wd D clM A s.heap (zw X ad TM (cfM ad ca) S15) H locs) => ?_)
  refine lv_iconst (pc := 60) (v := 0) hx hb d_M_copyMessage_60 (by decide) ?_
  refine lv_istore_n (pc := 61) (lv' := [(3, .int (0 : Int32)), (0, .ref (ad (1, 0, 0))), (1, .int a1), (2, .int a2)]) hx hb d_M_copyMessage_61 rfl hl (by decide) rfl (fun ls hl => ?_)
  exact w_M_copyMessage_62 a1 a2 hy hA 200 S15 (0 : Int32) hk hr _ _ _ hW (lv_sub hl [1, 2, 3, 0] rfl)
theorem d_M_land_0 : decode b_M_land 0 = .ok (.aload_n 0, 1) := by decide +kernel
theorem d_M_land_1 : decode b_M_land 1 = .ok (.getfield 94, 3) := by decide +kernel
theorem d_M_land_4 : decode b_M_land 4 = .ok (.iload_n 1, 1) := by decide +kernel
theorem d_M_land_5 : decode b_M_land 5 = .ok (.dup2, 1) := by decide +kernel
theorem d_M_land_6 : decode b_M_land 6 = .ok (.iaload, 1) := by decide +kernel
theorem d_M_land_7 : decode b_M_land 7 = .ok (.iconst 1, 1) := by decide +kernel
theorem d_M_land_8 : decode b_M_land 8 = .ok (.isub, 1) := by decide +kernel
theorem d_M_land_9 : decode b_M_land 9 = .ok (.iastore, 1) := by decide +kernel
theorem d_M_land_10 : decode b_M_land 10 = .ok (.bipush 16, 2) := by decide +kernel
theorem d_M_land_12 : decode b_M_land 12 = .ok (.iload_n 1, 1) := by decide +kernel
theorem d_M_land_13 : decode b_M_land 13 = .ok (.imul, 1) := by decide +kernel
theorem d_M_land_14 : decode b_M_land 14 = .ok (.istore_n 2, 1) := by decide +kernel
theorem d_M_land_15 : decode b_M_land 15 = .ok (.iload_n 2, 1) := by decide +kernel
theorem d_M_land_16 : decode b_M_land 16 = .ok (.bipush 16, 2) := by decide +kernel
theorem d_M_land_18 : decode b_M_land 18 = .ok (.iload_n 1, 1) := by decide +kernel
theorem d_M_land_19 : decode b_M_land 19 = .ok (.imul, 1) := by decide +kernel
theorem d_M_land_20 : decode b_M_land 20 = .ok (.aload_n 0, 1) := by decide +kernel
theorem d_M_land_21 : decode b_M_land 21 = .ok (.getfield 94, 3) := by decide +kernel
theorem d_M_land_24 : decode b_M_land 24 = .ok (.iload_n 1, 1) := by decide +kernel
theorem d_M_land_25 : decode b_M_land 25 = .ok (.iaload, 1) := by decide +kernel
theorem d_M_land_26 : decode b_M_land 26 = .ok (.iadd, 1) := by decide +kernel
theorem d_M_land_27 : decode b_M_land 27 = .ok (.if_icmp .ge 17, 3) := by decide +kernel
theorem d_M_land_30 : decode b_M_land 30 = .ok (.aload_n 0, 1) := by decide +kernel
theorem d_M_land_31 : decode b_M_land 31 = .ok (.iload_n 2, 1) := by decide +kernel
theorem d_M_land_32 : decode b_M_land 32 = .ok (.iconst 1, 1) := by decide +kernel
theorem d_M_land_33 : decode b_M_land 33 = .ok (.iadd, 1) := by decide +kernel
theorem d_M_land_34 : decode b_M_land 34 = .ok (.iload_n 2, 1) := by decide +kernel
theorem d_M_land_35 : decode b_M_land 35 = .ok (.invokevirtual 179, 3) := by decide +kernel
theorem d_M_land_38 : decode b_M_land 38 = .ok (.iinc 2 1, 3) := by decide +kernel
theorem d_M_land_41 : decode b_M_land 41 = .ok (.goto (-26), 3) := by decide +kernel
theorem d_M_land_44 : decode b_M_land 44 = .ok (.return_, 1) := by decide +kernel
def f_M_land_15 (a1 : Int32) : Nat → St → Int32 → St
  | 0, S, _ => S
  | n + 1, S, l2 =>
    if (((16 : Int32) * a1) + (S.1 28 0 0 a1.toNatClampNeg)) ≤ l2 then
      S
    else
      lt (f_M_copyMessage (l2 + (1 : Int32)) l2 S) fun (S8 : St) =>
      f_M_land_15 a1 n S8 (l2 + (1 : Int32))
def ok_M_land_15 (a1 : Int32) : Nat → St → Int32 → Prop
  | 0, _, _ => False
  | n + 1, S, l2 =>
    (vp_in a1 4) ∧ (
      ((((16 : Int32) * a1) + (S.1 28 0 0 a1.toNatClampNeg)) ≤ l2 → (
        True)) ∧ (¬ ((((16 : Int32) * a1) + (S.1 28 0 0 a1.toNatClampNeg)) ≤ l2) → (
        (ok_M_copyMessage (l2 + (1 : Int32)) l2 S) ∧ (
          lt (f_M_copyMessage (l2 + (1 : Int32)) l2 S) fun (S8 : St) =>
          ok_M_land_15 a1 n S8 (l2 + (1 : Int32))))))
set_option maxHeartbeats 4000000 in
set_option maxRecDepth 100000 in
theorem w_M_land_15 {l : Launch} {D : va_G} {X : va_W} {ad : N3 → Nat} {ca : Nat → ClassId} (a1 : Int32)  {p : Program} {e : Env} {s : State} {m : MethodId} {below : List Frame} {meth : Method} {c : Code} {A : Nat → Prop} (hy : Hy p s m ([.ref (ad (1, 0, 0)), .int a1] : List Value).toArray meth c b_M_land 3 none R_M GG D clM (tysM ca) nwM) (hA : ∀ q, s.heap.size ≤ q → A q) {res : St} : ∀ (n : Nat) (S : St) (l2 : Int32) , ok_M_land_15 a1 n S l2 → f_M_land_15 a1 n S l2 = res → ∀ (H : Heap) (locs : List Loc) (ls : Array Slot), Wd D clM A s.heap (zw X ad TM (cfM ad ca) S) H locs → lv_has ls 3 [(0, .ref (ad (1, 0, 0))), (1, .int a1), (2, .int l2)] → W p l e { frames := 1, cells := 0, slots := 0, locals := 23 } s m ([.ref (ad (1, 0, 0)), .int a1] : List Value).toArray below meth c H locs 0 0 (MQ below (eV D clM X ad TM (cfM ad ca) A res) ([.ref (ad (1, 0, 0)), .int a1] : List Value).toArray s 0 0 A) (F0 m 15 ls []) := by
  have hF := hy.1
  have hx := hF.1
  have hb := hF.2.1
  have hK := hy.2.2.2
  intro n
  induction n with
  | zero =>
    intro S l2 hk
    exact hk.elim
  | succ n ih =>
    intro S l2 hk hr H locs ls hW hl
    refine lv_iload_n (pc := 15) hx hb d_M_land_15 rfl (lv_at hl 2 rfl) ?_
    refine lv_bipush (pc := 16) (v := 16) hx hb d_M_land_16 (by decide) ?_
    refine lv_iload_n (pc := 18) hx hb d_M_land_18 rfl (lv_at hl 1 rfl) ?_
    refine lv_imul (pc := 19) hx hb d_M_land_19 ?_
    refine lv_aload_n (pc := 20) hx hb d_M_land_20 rfl (lv_at hl 0 rfl) ?_
    refine z_get (pc := 21) (v := .ref (ad (28, 0, 0))) hF hK.1 hW tm1 rfl rfl in_M 33 (by decide) gw_917 rfl rfl d_M_land_21 ?_
    refine lv_iload_n (pc := 24) hx hb d_M_land_24 rfl (lv_at hl 1 rfl) ?_
    have b4 := hk.1
    have hk := hk.2
    refine z_iald (pc := 25) (v := S.1 28 0 0 a1.toNatClampNeg) hF hK.1 hW tm28 0 rfl rfl b4 rfl d_M_land_25 ?_
    refine lv_iadd (pc := 26) hx hb d_M_land_26 ?_
    refine lv_icmp_ge (pc := 27) (tgt := 44) hx hb d_M_land_27 (by decide) (fun c5 => ?_) (fun c5 => ?_)
    · have hk := hk.1 c5
      have hr := (if_pos c5).symm.trans hr
      exact z_vret hy hW hr.symm d_M_land_44
    · have hk := hk.2 c5
      have hr := (if_neg c5).symm.trans hr
      refine lv_aload_n (pc := 30) hx hb d_M_land_30 rfl (lv_at hl 0 rfl) ?_
      refine lv_iload_n (pc := 31) hx hb d_M_land_31 rfl (lv_at hl 2 rfl) ?_
      refine lv_iconst (pc := 32) (v := 1) hx hb d_M_land_32 (by decide) ?_
      refine lv_iadd (pc := 33) hx hb d_M_land_33 ?_
      refine lv_iload_n (pc := 34) hx hb d_M_land_34 rfl (lv_at hl 2 rfl) ?_
      have o6 := hk.1
      have hk := hk.2
      obtain ⟨S8, eS8⟩ : ∃ z : St, z = f_M_copyMessage (l2 + (1 : Int32)) l2 S := ⟨_, rfl⟩
      have hk := lt_p eS8 hk
      have hr := lt_e eS8 hr
      refine z_goV (pc := 35) hW hA eS8 (z_runV hF hK hW (c_M_copyMessage l D X ad ca (l2 + (1 : Int32)) l2 S o6 _) cd_M_copyMessage gw_1029 tm1 rfl rfl ⟨Nat.le_of_ble_eq_true rfl, Nat.le_of_ble_eq_true rfl⟩ ⟨Nat.zero_le _, Nat.zero_le _⟩ rfl rfl hl.1 (Nat.le_of_ble_eq_true rfl) d_M_land_35) (fun H locs (hW : Wd D clM A s.heap (zw X ad TM (cfM ad ca) S8) H locs) => ?_)
      refine lv_iinc (pc := 38) (v := l2 + (1 : Int32)) (lv' := [(2, .int (l2 + (1 : Int32))), (0, .ref (ad (1, 0, 0))), (1, .int a1)]) (k := 2) hx hb d_M_land_38 hl rfl (z_inc (by decide)) (by decide) rfl (fun ls hl => ?_)
      refine lv_goto (pc := 41) (tgt := 15) hx hb d_M_land_41 (by decide) ?_
      exact ih S8 (l2 + (1 : Int32)) hk hr _ _ _ hW (lv_sub hl [1, 2, 0] rfl)
def f_M_land (a1 : Int32) (S : St) : St :=
  lt (si S 28 0 0 (a1.toNatClampNeg) ((S.1 28 0 0 a1.toNatClampNeg) - (1 : Int32))) fun (S3 : St) =>
  f_M_land_15 a1 200 S3 ((16 : Int32) * a1)
def ok_M_land (a1 : Int32) (S : St) : Prop :=
  (vp_in a1 4) ∧ (
    (vp_in a1 4) ∧ (
      lt (si S 28 0 0 (a1.toNatClampNeg) ((S.1 28 0 0 a1.toNatClampNeg) - (1 : Int32))) fun (S3 : St) =>
      ok_M_land_15 a1 200 S3 ((16 : Int32) * a1)))
set_option maxHeartbeats 4000000 in
set_option maxRecDepth 100000 in
theorem c_M_land (l : Launch) (D : va_G) (X : va_W) (ad : N3 → Nat) (ca : Nat → ClassId) (a1 : Int32)  (S : St) (hk : ok_M_land a1 S) : cV l GG D clM (tysM ca) nwM X ad TM (cfM ad ca) y_M_land b_M_land 3 1 23 [.ref (ad (1, 0, 0)), .int a1] S (f_M_land a1 S) := by
  generalize hr : f_M_land a1 S = res
  refine zV_of pn_M (Nat.le_of_ble_eq_true rfl) (fun p e s m below meth c A ls hy hW hA hl => ?_)
  have hF := hy.1
  have hx := hF.1
  have hb := hF.2.1
  have hK := hy.2.2.2
  have hl : lv_has ls 3 [(0, .ref (ad (1, 0, 0))), (1, .int a1)] := hl
  refine lv_aload_n (pc := 0) hx hb d_M_land_0 rfl (lv_at hl 0 rfl) ?_
  refine z_get (pc := 1) (v := .ref (ad (28, 0, 0))) hF hK.1 hW tm1 rfl rfl in_M 33 (by decide) gw_917 rfl rfl d_M_land_1 ?_
  refine lv_iload_n (pc := 4) hx hb d_M_land_4 rfl (lv_at hl 1 rfl) ?_
  refine lv_dup2_11 (pc := 5) hx hb d_M_land_5 rfl rfl ?_
  have b1 := hk.1
  have hk := hk.2
  refine z_iald (pc := 6) (v := S.1 28 0 0 a1.toNatClampNeg) hF hK.1 hW tm28 0 rfl rfl b1 rfl d_M_land_6 ?_
  refine lv_iconst (pc := 7) (v := 1) hx hb d_M_land_7 (by decide) ?_
  refine lv_isub (pc := 8) hx hb d_M_land_8 ?_
  have b2 := hk.1
  have hk := hk.2
  obtain ⟨S3, eS3⟩ : ∃ z : St, z = si S 28 0 0 (a1.toNatClampNeg) ((S.1 28 0 0 a1.toNatClampNeg) - (1 : Int32)) := ⟨_, rfl⟩
  have hk := lt_p eS3 hk
  have hr := lt_e eS3 hr
  refine z_iast (pc := 9) (S' := S3) hF hK.1 hW tm28 0 rfl rfl b2 (zs_si eS3 rfl) (zs_sio eS3) d_M_land_9 (fun H locs (hW : Wd D clM A s.heap (zw X ad TM (cfM ad ca) S3) H locs) => ?_)
  refine lv_bipush (pc := 10) (v := 16) hx hb d_M_land_10 (by decide) ?_
  refine lv_iload_n (pc := 12) hx hb d_M_land_12 rfl (lv_at hl 1 rfl) ?_
  refine lv_imul (pc := 13) hx hb d_M_land_13 ?_
  refine lv_istore_n (pc := 14) (lv' := [(2, .int ((16 : Int32) * a1)), (0, .ref (ad (1, 0, 0))), (1, .int a1)]) hx hb d_M_land_14 rfl hl (by decide) rfl (fun ls hl => ?_)
  exact w_M_land_15 a1 hy hA 200 S3 ((16 : Int32) * a1) hk hr _ _ _ hW (lv_sub hl [1, 2, 0] rfl)
theorem d_M_isNode_0 : decode b_M_isNode 0 = .ok (.iload_n 0, 1) := by decide +kernel
theorem d_M_isNode_1 : decode b_M_isNode 1 = .ok (.ifCond .lt 12, 3) := by decide +kernel
theorem d_M_isNode_4 : decode b_M_isNode 4 = .ok (.iload_n 0, 1) := by decide +kernel
theorem d_M_isNode_5 : decode b_M_isNode 5 = .ok (.iconst 3, 1) := by decide +kernel
theorem d_M_isNode_6 : decode b_M_isNode 6 = .ok (.if_icmp .gt 7, 3) := by decide +kernel
theorem d_M_isNode_9 : decode b_M_isNode 9 = .ok (.iconst 1, 1) := by decide +kernel
theorem d_M_isNode_10 : decode b_M_isNode 10 = .ok (.goto 4, 3) := by decide +kernel
theorem d_M_isNode_13 : decode b_M_isNode 13 = .ok (.iconst 0, 1) := by decide +kernel
theorem d_M_isNode_14 : decode b_M_isNode 14 = .ok (.ireturn, 1) := by decide +kernel
def f_M_isNode (a0 : Int32) (S : St) : Int32 :=
  if a0 < 0 then
    (0 : Int32)
  else
    if (3 : Int32) < a0 then
      (0 : Int32)
    else
      (1 : Int32)
set_option maxHeartbeats 4000000 in
set_option maxRecDepth 100000 in
theorem c_M_isNode (l : Launch) (D : va_G) (X : va_W) (ad : N3 → Nat) (ca : Nat → ClassId) (a0 : Int32)  (S : St) : cP l GG D clM (tysM ca) nwM (zw X ad TM (cfM ad ca) S) y_M_isNode b_M_isNode 1 .boolean 0 0 [.int a0] (.int (f_M_isNode a0 S)) := by
  generalize hr : f_M_isNode a0 S = res
  refine zP_of pn_M (Nat.le_of_ble_eq_true rfl) (fun p e s m below meth c ls hy hW hl => ?_)
  have hF := hy.1
  have hx := hF.1
  have hb := hF.2.1
  have hK := hy.2.2.2
  have hl : lv_has ls 1 [(0, .int a0)] := hl
  refine lv_iload_n (pc := 0) hx hb d_M_isNode_0 rfl (lv_at hl 0 rfl) ?_
  refine lv_if_lt (pc := 1) (tgt := 13) hx hb d_M_isNode_1 (by decide) (fun c1 => ?_) (fun c1 => ?_)
  · have hr := (if_pos c1).symm.trans hr
    refine lv_iconst (pc := 13) (v := 0) hx hb d_M_isNode_13 (by decide) ?_
    exact p_zret (v := (0 : Int32)) hy rfl hr d_M_isNode_14
  · have hr := (if_neg c1).symm.trans hr
    refine lv_iload_n (pc := 4) hx hb d_M_isNode_4 rfl (lv_at hl 0 rfl) ?_
    refine lv_iconst (pc := 5) (v := 3) hx hb d_M_isNode_5 (by decide) ?_
    refine lv_icmp_gt (pc := 6) (tgt := 13) hx hb d_M_isNode_6 (by decide) (fun c2 => ?_) (fun c2 => ?_)
    · have hr := (if_pos c2).symm.trans hr
      refine lv_iconst (pc := 13) (v := 0) hx hb d_M_isNode_13 (by decide) ?_
      exact p_zret (v := (0 : Int32)) hy rfl hr d_M_isNode_14
    · have hr := (if_neg c2).symm.trans hr
      refine lv_iconst (pc := 9) (v := 1) hx hb d_M_isNode_9 (by decide) ?_
      refine lv_goto (pc := 10) (tgt := 14) hx hb d_M_isNode_10 (by decide) ?_
      exact p_zret (v := (1 : Int32)) hy rfl hr d_M_isNode_14
theorem d_M_isBlock_0 : decode b_M_isBlock 0 = .ok (.iload_n 1, 1) := by decide +kernel
theorem d_M_isBlock_1 : decode b_M_isBlock 1 = .ok (.ifCond .lt 15, 3) := by decide +kernel
theorem d_M_isBlock_4 : decode b_M_isBlock 4 = .ok (.iload_n 1, 1) := by decide +kernel
theorem d_M_isBlock_5 : decode b_M_isBlock 5 = .ok (.aload_n 0, 1) := by decide +kernel
theorem d_M_isBlock_6 : decode b_M_isBlock 6 = .ok (.getfield 26, 3) := by decide +kernel
theorem d_M_isBlock_9 : decode b_M_isBlock 9 = .ok (.if_icmp .ge 7, 3) := by decide +kernel
theorem d_M_isBlock_12 : decode b_M_isBlock 12 = .ok (.iconst 1, 1) := by decide +kernel
theorem d_M_isBlock_13 : decode b_M_isBlock 13 = .ok (.goto 4, 3) := by decide +kernel
theorem d_M_isBlock_16 : decode b_M_isBlock 16 = .ok (.iconst 0, 1) := by decide +kernel
theorem d_M_isBlock_17 : decode b_M_isBlock 17 = .ok (.ireturn, 1) := by decide +kernel
def f_M_isBlock (a1 : Int32) (S : St) : Int32 :=
  if a1 < 0 then
    (0 : Int32)
  else
    if (S.1 1 0 0 11) ≤ a1 then
      (0 : Int32)
    else
      (1 : Int32)
set_option maxHeartbeats 4000000 in
set_option maxRecDepth 100000 in
theorem c_M_isBlock (l : Launch) (D : va_G) (X : va_W) (ad : N3 → Nat) (ca : Nat → ClassId) (a1 : Int32)  (S : St) : cP l GG D clM (tysM ca) nwM (zw X ad TM (cfM ad ca) S) y_M_isBlock b_M_isBlock 2 .boolean 0 0 [.ref (ad (1, 0, 0)), .int a1] (.int (f_M_isBlock a1 S)) := by
  generalize hr : f_M_isBlock a1 S = res
  refine zP_of pn_M (Nat.le_of_ble_eq_true rfl) (fun p e s m below meth c ls hy hW hl => ?_)
  have hF := hy.1
  have hx := hF.1
  have hb := hF.2.1
  have hK := hy.2.2.2
  have hl : lv_has ls 2 [(0, .ref (ad (1, 0, 0))), (1, .int a1)] := hl
  refine lv_iload_n (pc := 0) hx hb d_M_isBlock_0 rfl (lv_at hl 1 rfl) ?_
  refine lv_if_lt (pc := 1) (tgt := 16) hx hb d_M_isBlock_1 (by decide) (fun c1 => ?_) (fun c1 => ?_)
  · have hr := (if_pos c1).symm.trans hr
    refine lv_iconst (pc := 16) (v := 0) hx hb d_M_isBlock_16 (by decide) ?_
    exact p_zret (v := (0 : Int32)) hy rfl hr d_M_isBlock_17
  · have hr := (if_neg c1).symm.trans hr
    refine lv_iload_n (pc := 4) hx hb d_M_isBlock_4 rfl (lv_at hl 1 rfl) ?_
    refine lv_aload_n (pc := 5) hx hb d_M_isBlock_5 rfl (lv_at hl 0 rfl) ?_
    refine z_get (pc := 6) (v := .int (S.1 1 0 0 11)) hF hK.1 hW tm1 rfl rfl in_M 11 (by decide) gw_895 rfl rfl d_M_isBlock_6 ?_
    refine lv_icmp_ge (pc := 9) (tgt := 16) hx hb d_M_isBlock_9 (by decide) (fun c2 => ?_) (fun c2 => ?_)
    · have hr := (if_pos c2).symm.trans hr
      refine lv_iconst (pc := 16) (v := 0) hx hb d_M_isBlock_16 (by decide) ?_
      exact p_zret (v := (0 : Int32)) hy rfl hr d_M_isBlock_17
    · have hr := (if_neg c2).symm.trans hr
      refine lv_iconst (pc := 12) (v := 1) hx hb d_M_isBlock_12 (by decide) ?_
      refine lv_goto (pc := 13) (tgt := 17) hx hb d_M_isBlock_13 (by decide) ?_
      exact p_zret (v := (1 : Int32)) hy rfl hr d_M_isBlock_17
theorem d_M_isTransaction_0 : decode b_M_isTransaction 0 = .ok (.iload_n 1, 1) := by decide +kernel
theorem d_M_isTransaction_1 : decode b_M_isTransaction 1 = .ok (.ifCond .lt 15, 3) := by decide +kernel
theorem d_M_isTransaction_4 : decode b_M_isTransaction 4 = .ok (.iload_n 1, 1) := by decide +kernel
theorem d_M_isTransaction_5 : decode b_M_isTransaction 5 = .ok (.aload_n 0, 1) := by decide +kernel
theorem d_M_isTransaction_6 : decode b_M_isTransaction 6 = .ok (.getfield 183, 3) := by decide +kernel
theorem d_M_isTransaction_9 : decode b_M_isTransaction 9 = .ok (.if_icmp .ge 7, 3) := by decide +kernel
theorem d_M_isTransaction_12 : decode b_M_isTransaction 12 = .ok (.iconst 1, 1) := by decide +kernel
theorem d_M_isTransaction_13 : decode b_M_isTransaction 13 = .ok (.goto 4, 3) := by decide +kernel
theorem d_M_isTransaction_16 : decode b_M_isTransaction 16 = .ok (.iconst 0, 1) := by decide +kernel
theorem d_M_isTransaction_17 : decode b_M_isTransaction 17 = .ok (.ireturn, 1) := by decide +kernel
def f_M_isTransaction (a1 : Int32) (S : St) : Int32 :=
  if a1 < 0 then
    (0 : Int32)
  else
    if (S.1 1 0 0 6) ≤ a1 then
      (0 : Int32)
    else
      (1 : Int32)
set_option maxHeartbeats 4000000 in
set_option maxRecDepth 100000 in
theorem c_M_isTransaction (l : Launch) (D : va_G) (X : va_W) (ad : N3 → Nat) (ca : Nat → ClassId) (a1 : Int32)  (S : St) : cP l GG D clM (tysM ca) nwM (zw X ad TM (cfM ad ca) S) y_M_isTransaction b_M_isTransaction 2 .boolean 0 0 [.ref (ad (1, 0, 0)), .int a1] (.int (f_M_isTransaction a1 S)) := by
  generalize hr : f_M_isTransaction a1 S = res
  refine zP_of pn_M (Nat.le_of_ble_eq_true rfl) (fun p e s m below meth c ls hy hW hl => ?_)
  have hF := hy.1
  have hx := hF.1
  have hb := hF.2.1
  have hK := hy.2.2.2
  have hl : lv_has ls 2 [(0, .ref (ad (1, 0, 0))), (1, .int a1)] := hl
  refine lv_iload_n (pc := 0) hx hb d_M_isTransaction_0 rfl (lv_at hl 1 rfl) ?_
  refine lv_if_lt (pc := 1) (tgt := 16) hx hb d_M_isTransaction_1 (by decide) (fun c1 => ?_) (fun c1 => ?_)
  · have hr := (if_pos c1).symm.trans hr
    refine lv_iconst (pc := 16) (v := 0) hx hb d_M_isTransaction_16 (by decide) ?_
    exact p_zret (v := (0 : Int32)) hy rfl hr d_M_isTransaction_17
  · have hr := (if_neg c1).symm.trans hr
    refine lv_iload_n (pc := 4) hx hb d_M_isTransaction_4 rfl (lv_at hl 1 rfl) ?_
    refine lv_aload_n (pc := 5) hx hb d_M_isTransaction_5 rfl (lv_at hl 0 rfl) ?_
    refine z_get (pc := 6) (v := .int (S.1 1 0 0 6)) hF hK.1 hW tm1 rfl rfl in_M 6 (by decide) gw_890 rfl rfl d_M_isTransaction_6 ?_
    refine lv_icmp_ge (pc := 9) (tgt := 16) hx hb d_M_isTransaction_9 (by decide) (fun c2 => ?_) (fun c2 => ?_)
    · have hr := (if_pos c2).symm.trans hr
      refine lv_iconst (pc := 16) (v := 0) hx hb d_M_isTransaction_16 (by decide) ?_
      exact p_zret (v := (0 : Int32)) hy rfl hr d_M_isTransaction_17
    · have hr := (if_neg c2).symm.trans hr
      refine lv_iconst (pc := 12) (v := 1) hx hb d_M_isTransaction_12 (by decide) ?_
      refine lv_goto (pc := 13) (tgt := 17) hx hb d_M_isTransaction_13 (by decide) ?_
      exact p_zret (v := (1 : Int32)) hy rfl hr d_M_isTransaction_17
