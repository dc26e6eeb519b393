theorem d_Fold_afterSteps_0 : decode b_Fold_afterSteps 0 = .ok (.lload_n 0, 1) := by decide +kernel
theorem d_Fold_afterSteps_1 : decode b_Fold_afterSteps 1 = .ok (.lstore_n 3, 1) := by decide +kernel
theorem d_Fold_afterSteps_2 : decode b_Fold_afterSteps 2 = .ok (.iconst 0, 1) := by decide +kernel
theorem d_Fold_afterSteps_3 : decode b_Fold_afterSteps 3 = .ok (.istore 5, 2) := by decide +kernel
theorem d_Fold_afterSteps_5 : decode b_Fold_afterSteps 5 = .ok (.iload 5, 2) := by decide +kernel
theorem d_Fold_afterSteps_7 : decode b_Fold_afterSteps 7 = .ok (.iload_n 2, 1) := by decide +kernel
theorem d_Fold_afterSteps_8 : decode b_Fold_afterSteps 8 = .ok (.if_icmp .ge 26, 3) := by decide +kernel
theorem d_Fold_afterSteps_11 : decode b_Fold_afterSteps 11 = .ok (.ldc2_w 13, 3) := by decide +kernel
theorem d_Fold_afterSteps_14 : decode b_Fold_afterSteps 14 = .ok (.lload_n 3, 1) := by decide +kernel
theorem d_Fold_afterSteps_15 : decode b_Fold_afterSteps 15 = .ok (.invokestatic 15, 3) := by decide +kernel
theorem d_Fold_afterSteps_18 : decode b_Fold_afterSteps 18 = .ok (.ldc2_w 23, 3) := by decide +kernel
theorem d_Fold_afterSteps_21 : decode b_Fold_afterSteps 21 = .ok (.invokestatic 15, 3) := by decide +kernel
theorem d_Fold_afterSteps_24 : decode b_Fold_afterSteps 24 = .ok (.invokestatic 19, 3) := by decide +kernel
theorem d_Fold_afterSteps_27 : decode b_Fold_afterSteps 27 = .ok (.lstore_n 3, 1) := by decide +kernel
theorem d_Fold_afterSteps_28 : decode b_Fold_afterSteps 28 = .ok (.iinc 5 1, 3) := by decide +kernel
theorem d_Fold_afterSteps_31 : decode b_Fold_afterSteps 31 = .ok (.goto (-26), 3) := by decide +kernel
theorem d_Fold_afterSteps_34 : decode b_Fold_afterSteps 34 = .ok (.lload_n 3, 1) := by decide +kernel
theorem d_Fold_afterSteps_35 : decode b_Fold_afterSteps 35 = .ok (.lreturn, 1) := by decide +kernel
def f_Fold_afterSteps_5 (a0 : Int64) (a2 : Int32) : Nat → St → Int64 → Int32 → Int64
  | 0, _, _, _ => 0
  | n + 1, S, l3, l5 =>
    if a2 ≤ l5 then
      l3
    else
      lt (f_Fold_absorb (-7046029254386353131 : Int64) l3 S) fun (r2 : Int64) =>
      lt (f_Fold_absorb r2 (77 : Int64) S) fun (r3 : Int64) =>
      lt (f_Fold_finish r3 S) fun (r4 : Int64) =>
      f_Fold_afterSteps_5 a0 a2 n S r4 (l5 + (1 : Int32))
def ok_Fold_afterSteps_5 (a0 : Int64) (a2 : Int32) : Nat → St → Int64 → Int32 → Prop
  | 0, _, _, _ => False
  | n + 1, S, l3, l5 =>
    (a2 ≤ l5 → (
      True)) ∧ (¬ (a2 ≤ l5) → (
      lt (f_Fold_absorb (-7046029254386353131 : Int64) l3 S) fun (r2 : Int64) =>
      lt (f_Fold_absorb r2 (77 : Int64) S) fun (r3 : Int64) =>
      lt (f_Fold_finish r3 S) fun (r4 : Int64) =>
      ok_Fold_afterSteps_5 a0 a2 n S r4 (l5 + (1 : Int32))))
set_option maxHeartbeats 4000000 in
set_option maxRecDepth 100000 in
theorem w_Fold_afterSteps_5 {l : Launch} {D : va_G} {X : va_W} {ad : N3 → Nat} {ca : Nat → ClassId} (a0 : Int64) (a2 : Int32)  (S : St) {p : Program} {e : Env} {s : State} {m : MethodId} {below : List Frame} {meth : Method} {c : Code} (hy : Hy p s m ([.long a0, .int a2] : List Value).toArray meth c b_Fold_afterSteps 6 (some .long) R_Fold GG D clQ (tysQ ca) nwQ) (hW : Wd D clQ (fun _ => True) s.heap (zw X ad TQ (cfQ ad ca) S) s.heap []) {res : Int64} : ∀ (n : Nat) (l3 : Int64) (l5 : Int32) , ok_Fold_afterSteps_5 a0 a2 n S l3 l5 → f_Fold_afterSteps_5 a0 a2 n S l3 l5 = res → ∀ (ls : Array Slot), lv_has ls 6 [(2, .int a2), (3, .long l3), (5, .int l5)] → W p l e { frames := 1, cells := 0, slots := 0, locals := 25 } s m ([.long a0, .int a2] : List Value).toArray below meth c s.heap [] 0 0 (MQ below (eP (.long res)) ([.long a0, .int a2] : List Value).toArray s 0 0 nof) (F0 m 5 ls []) := by
  have hF := hy.1
  have hx := hF.1
  have hb := hF.2.1
  have hK := hy.2.2.2
  intro n
  induction n with
  | zero =>
    intro l3 l5 hk
    exact hk.elim
  | succ n ih =>
    intro l3 l5 hk hr ls hl
    refine lv_iload (pc := 5) hx hb d_Fold_afterSteps_5 (lv_at hl 2 rfl) ?_
    refine lv_iload_n (pc := 7) hx hb d_Fold_afterSteps_7 rfl (lv_at hl 0 rfl) ?_
    refine lv_icmp_ge (pc := 8) (tgt := 34) hx hb d_Fold_afterSteps_8 (by decide) (fun c1 => ?_) (fun c1 => ?_)
    · have hk := hk.1 c1
      have hr := (if_pos c1).symm.trans hr
      refine lv_lload_n (pc := 34) hx hb d_Fold_afterSteps_34 rfl (lv_at hl 1 rfl) ?_
      exact p_lret (v := l3) hy hr d_Fold_afterSteps_35
    · have hk := hk.2 c1
      have hr := (if_neg c1).symm.trans hr
      refine lv_ldc2 (pc := 11) hx hb hF.2.2.2.1 (hF.2.2.2.2 _ gw_243) d_Fold_afterSteps_11 ?_
      refine lv_lload_n (pc := 14) hx hb d_Fold_afterSteps_14 rfl (lv_at hl 1 rfl) ?_
      obtain ⟨r2, er2⟩ : ∃ z : Int64, z = f_Fold_absorb (-7046029254386353131 : Int64) l3 S := ⟨_, rfl⟩
      have hk := lt_p er2 hk
      have hr := lt_e er2 hr
      refine p_go (pc := 15) (congrArg Value.long er2) (p_runS hF hK hW (c_Fold_absorb l D X ad ca (-7046029254386353131 : Int64) l3 S _) cd_Fold_absorb gw_244 ⟨Nat.le_of_ble_eq_true rfl, Nat.le_of_ble_eq_true rfl⟩ ⟨Nat.zero_le _, Nat.zero_le _⟩ rfl rfl hl.1 (Nat.le_of_ble_eq_true rfl) d_Fold_afterSteps_15) ?_
      refine lv_ldc2 (pc := 18) hx hb hF.2.2.2.1 (hF.2.2.2.2 _ gw_245) d_Fold_afterSteps_18 ?_
      obtain ⟨r3, er3⟩ : ∃ z : Int64, z = f_Fold_absorb r2 (77 : Int64) S := ⟨_, rfl⟩
      have hk := lt_p er3 hk
      have hr := lt_e er3 hr
      refine p_go (pc := 21) (congrArg Value.long er3) (p_runS hF hK hW (c_Fold_absorb l D X ad ca r2 (77 : Int64) S _) cd_Fold_absorb gw_244 ⟨Nat.le_of_ble_eq_true rfl, Nat.le_of_ble_eq_true rfl⟩ ⟨Nat.zero_le _, Nat.zero_le _⟩ rfl rfl hl.1 (Nat.le_of_ble_eq_true rfl) d_Fold_afterSteps_21) ?_
      obtain ⟨r4, er4⟩ : ∃ z : Int64, z = f_Fold_finish r3 S := ⟨_, rfl⟩
      have hk := lt_p er4 hk
      have hr := lt_e er4 hr
      refine p_go (pc := 24) (congrArg Value.long er4) (p_runS hF hK hW (c_Fold_finish l D X ad ca r3 S _) cd_Fold_finish gw_246 ⟨Nat.le_of_ble_eq_true rfl, Nat.le_of_ble_eq_true rfl⟩ ⟨Nat.zero_le _, Nat.zero_le _⟩ rfl rfl hl.1 (Nat.le_of_ble_eq_true rfl) d_Fold_afterSteps_24) ?_
      refine lv_lstore_n (pc := 27) (lv' := [(3, .long r4), (2, .int a2), (5, .int l5)]) hx hb d_Fold_afterSteps_27 rfl hl (by decide) rfl (fun ls hl => ?_)
      refine lv_iinc (pc := 28) (v := l5 + (1 : Int32)) (lv' := [(5, .int (l5 + (1 : Int32))), (3, .long r4), (2, .int a2)]) (k := 2) hx hb d_Fold_afterSteps_28 hl rfl (z_inc (by decide)) (by decide) rfl (fun ls hl => ?_)
      refine lv_goto (pc := 31) (tgt := 5) hx hb d_Fold_afterSteps_31 (by decide) ?_
      exact ih r4 (l5 + (1 : Int32)) hk hr _ (lv_sub hl [2, 1, 0] rfl)
def f_Fold_afterSteps (a0 : Int64) (a2 : Int32) (S : St) : Int64 :=
  f_Fold_afterSteps_5 a0 a2 200 S a0 (0 : Int32)
def ok_Fold_afterSteps (a0 : Int64) (a2 : Int32) (S : St) : Prop :=
  ok_Fold_afterSteps_5 a0 a2 200 S a0 (0 : Int32)
set_option maxHeartbeats 4000000 in
set_option maxRecDepth 100000 in
theorem c_Fold_afterSteps (l : Launch) (D : va_G) (X : va_W) (ad : N3 → Nat) (ca : Nat → ClassId) (a0 : Int64) (a2 : Int32)  (S : St) (hk : ok_Fold_afterSteps a0 a2 S) : cP l GG D clQ (tysQ ca) nwQ (zw X ad TQ (cfQ ad ca) S) y_Fold_afterSteps b_Fold_afterSteps 6 .long 1 25 [.long a0, .int a2] (.long (f_Fold_afterSteps a0 a2 S)) := by
  generalize hr : f_Fold_afterSteps a0 a2 S = res
  refine zP_of pn_Fold (Nat.le_of_ble_eq_true rfl) (fun p e s m below meth c ls hy hW hl => ?_)
  have hF := hy.1
  have hx := hF.1
  have hb := hF.2.1
  have hK := hy.2.2.2
  have hl : lv_has ls 6 [(0, .long a0), (2, .int a2)] := hl
  refine lv_lload_n (pc := 0) hx hb d_Fold_afterSteps_0 rfl (lv_at hl 0 rfl) ?_
  refine lv_lstore_n (pc := 1) (lv' := [(3, .long a0), (0, .long a0), (2, .int a2)]) hx hb d_Fold_afterSteps_1 rfl hl (by decide) rfl (fun ls hl => ?_)
  refine lv_iconst (pc := 2) (v := 0) hx hb d_Fold_afterSteps_2 (by decide) ?_
  refine lv_istore (pc := 3) (lv' := [(5, .int (0 : Int32)), (3, .long a0), (0, .long a0), (2, .int a2)]) hx hb d_Fold_afterSteps_3 hl (by decide) rfl (fun ls hl => ?_)
  exact w_Fold_afterSteps_5 a0 a2 S hy hW 200 a0 (0 : Int32) hk hr _ (lv_sub hl [3, 1, 0] rfl)
theorem d_KeyTree_sign_0 : decode b_KeyTree_sign 0 = .ok (.aload_n 0, 1) := by decide +kernel
theorem d_KeyTree_sign_1 : decode b_KeyTree_sign 1 = .ok (.invokevirtual 35, 3) := by decide +kernel
theorem d_KeyTree_sign_4 : decode b_KeyTree_sign 4 = .ok (.ifCond .ne 5, 3) := by decide +kernel
theorem d_KeyTree_sign_7 : decode b_KeyTree_sign 7 = .ok (.iconst 0, 1) := by decide +kernel
theorem d_KeyTree_sign_8 : decode b_KeyTree_sign 8 = .ok (.ireturn, 1) := by decide +kernel
theorem d_KeyTree_sign_9 : decode b_KeyTree_sign 9 = .ok (.aload_n 1, 1) := by decide +kernel
theorem d_KeyTree_sign_10 : decode b_KeyTree_sign 10 = .ok (.aload_n 0, 1) := by decide +kernel
theorem d_KeyTree_sign_11 : decode b_KeyTree_sign 11 = .ok (.getfield 32, 3) := by decide +kernel
theorem d_KeyTree_sign_14 : decode b_KeyTree_sign 14 = .ok (.putfield 39, 3) := by decide +kernel
theorem d_KeyTree_sign_17 : decode b_KeyTree_sign 17 = .ok (.aload_n 0, 1) := by decide +kernel
theorem d_KeyTree_sign_18 : decode b_KeyTree_sign 18 = .ok (.dup, 1) := by decide +kernel
theorem d_KeyTree_sign_19 : decode b_KeyTree_sign 19 = .ok (.getfield 32, 3) := by decide +kernel
theorem d_KeyTree_sign_22 : decode b_KeyTree_sign 22 = .ok (.iconst 1, 1) := by decide +kernel
theorem d_KeyTree_sign_23 : decode b_KeyTree_sign 23 = .ok (.iadd, 1) := by decide +kernel
theorem d_KeyTree_sign_24 : decode b_KeyTree_sign 24 = .ok (.putfield 32, 3) := by decide +kernel
theorem d_KeyTree_sign_27 : decode b_KeyTree_sign 27 = .ok (.aload_n 1, 1) := by decide +kernel
theorem d_KeyTree_sign_28 : decode b_KeyTree_sign 28 = .ok (.invokevirtual 44, 3) := by decide +kernel
theorem d_KeyTree_sign_31 : decode b_KeyTree_sign 31 = .ok (.invokestatic 48, 3) := by decide +kernel
theorem d_KeyTree_sign_34 : decode b_KeyTree_sign 34 = .ok (.istore_n 2, 1) := by decide +kernel
theorem d_KeyTree_sign_35 : decode b_KeyTree_sign 35 = .ok (.iconst 0, 1) := by decide +kernel
theorem d_KeyTree_sign_36 : decode b_KeyTree_sign 36 = .ok (.istore_n 3, 1) := by decide +kernel
theorem d_KeyTree_sign_37 : decode b_KeyTree_sign 37 = .ok (.iload_n 3, 1) := by decide +kernel
theorem d_KeyTree_sign_38 : decode b_KeyTree_sign 38 = .ok (.bipush 6, 2) := by decide +kernel
theorem d_KeyTree_sign_40 : decode b_KeyTree_sign 40 = .ok (.if_icmp .ge 39, 3) := by decide +kernel
theorem d_KeyTree_sign_43 : decode b_KeyTree_sign 43 = .ok (.aload_n 1, 1) := by decide +kernel
theorem d_KeyTree_sign_44 : decode b_KeyTree_sign 44 = .ok (.getfield 52, 3) := by decide +kernel
theorem d_KeyTree_sign_47 : decode b_KeyTree_sign 47 = .ok (.iload_n 3, 1) := by decide +kernel
theorem d_KeyTree_sign_48 : decode b_KeyTree_sign 48 = .ok (.aload_n 0, 1) := by decide +kernel
theorem d_KeyTree_sign_49 : decode b_KeyTree_sign 49 = .ok (.getfield 15, 3) := by decide +kernel
theorem d_KeyTree_sign_52 : decode b_KeyTree_sign 52 = .ok (.aload_n 0, 1) := by decide +kernel
theorem d_KeyTree_sign_53 : decode b_KeyTree_sign 53 = .ok (.getfield 19, 3) := by decide +kernel
theorem d_KeyTree_sign_56 : decode b_KeyTree_sign 56 = .ok (.aload_n 1, 1) := by decide +kernel
theorem d_KeyTree_sign_57 : decode b_KeyTree_sign 57 = .ok (.getfield 39, 3) := by decide +kernel
theorem d_KeyTree_sign_60 : decode b_KeyTree_sign 60 = .ok (.iload_n 3, 1) := by decide +kernel
theorem d_KeyTree_sign_61 : decode b_KeyTree_sign 61 = .ok (.invokestatic 55, 3) := by decide +kernel
theorem d_KeyTree_sign_64 : decode b_KeyTree_sign 64 = .ok (.iload_n 2, 1) := by decide +kernel
theorem d_KeyTree_sign_65 : decode b_KeyTree_sign 65 = .ok (.iload_n 3, 1) := by decide +kernel
theorem d_KeyTree_sign_66 : decode b_KeyTree_sign 66 = .ok (.invokestatic 59, 3) := by decide +kernel
theorem d_KeyTree_sign_69 : decode b_KeyTree_sign 69 = .ok (.invokestatic 63, 3) := by decide +kernel
theorem d_KeyTree_sign_72 : decode b_KeyTree_sign 72 = .ok (.lastore, 1) := by decide +kernel
theorem d_KeyTree_sign_73 : decode b_KeyTree_sign 73 = .ok (.iinc 3 1, 3) := by decide +kernel
theorem d_KeyTree_sign_76 : decode b_KeyTree_sign 76 = .ok (.goto (-39), 3) := by decide +kernel
theorem d_KeyTree_sign_79 : decode b_KeyTree_sign 79 = .ok (.bipush 32, 2) := by decide +kernel
theorem d_KeyTree_sign_81 : decode b_KeyTree_sign 81 = .ok (.aload_n 1, 1) := by decide +kernel
theorem d_KeyTree_sign_82 : decode b_KeyTree_sign 82 = .ok (.getfield 39, 3) := by decide +kernel
theorem d_KeyTree_sign_85 : decode b_KeyTree_sign 85 = .ok (.iadd, 1) := by decide +kernel
theorem d_KeyTree_sign_86 : decode b_KeyTree_sign 86 = .ok (.istore_n 3, 1) := by decide +kernel
theorem d_KeyTree_sign_87 : decode b_KeyTree_sign 87 = .ok (.iconst 0, 1) := by decide +kernel
theorem d_KeyTree_sign_88 : decode b_KeyTree_sign 88 = .ok (.istore 4, 2) := by decide +kernel
theorem d_KeyTree_sign_90 : decode b_KeyTree_sign 90 = .ok (.iload 4, 2) := by decide +kernel
theorem d_KeyTree_sign_92 : decode b_KeyTree_sign 92 = .ok (.iconst 5, 1) := by decide +kernel
theorem d_KeyTree_sign_93 : decode b_KeyTree_sign 93 = .ok (.if_icmp .ge 31, 3) := by decide +kernel
theorem d_KeyTree_sign_96 : decode b_KeyTree_sign 96 = .ok (.aload_n 1, 1) := by decide +kernel
theorem d_KeyTree_sign_97 : decode b_KeyTree_sign 97 = .ok (.getfield 52, 3) := by decide +kernel
theorem d_KeyTree_sign_100 : decode b_KeyTree_sign 100 = .ok (.bipush 6, 2) := by decide +kernel
theorem d_KeyTree_sign_102 : decode b_KeyTree_sign 102 = .ok (.iload 4, 2) := by decide +kernel
theorem d_KeyTree_sign_104 : decode b_KeyTree_sign 104 = .ok (.iadd, 1) := by decide +kernel
theorem d_KeyTree_sign_105 : decode b_KeyTree_sign 105 = .ok (.aload_n 0, 1) := by decide +kernel
theorem d_KeyTree_sign_106 : decode b_KeyTree_sign 106 = .ok (.getfield 9, 3) := by decide +kernel
theorem d_KeyTree_sign_109 : decode b_KeyTree_sign 109 = .ok (.iload_n 3, 1) := by decide +kernel
theorem d_KeyTree_sign_110 : decode b_KeyTree_sign 110 = .ok (.iconst 1, 1) := by decide +kernel
theorem d_KeyTree_sign_111 : decode b_KeyTree_sign 111 = .ok (.ixor, 1) := by decide +kernel
theorem d_KeyTree_sign_112 : decode b_KeyTree_sign 112 = .ok (.laload, 1) := by decide +kernel
theorem d_KeyTree_sign_113 : decode b_KeyTree_sign 113 = .ok (.lastore, 1) := by decide +kernel
theorem d_KeyTree_sign_114 : decode b_KeyTree_sign 114 = .ok (.iload_n 3, 1) := by decide +kernel
theorem d_KeyTree_sign_115 : decode b_KeyTree_sign 115 = .ok (.iconst 1, 1) := by decide +kernel
theorem d_KeyTree_sign_116 : decode b_KeyTree_sign 116 = .ok (.ishr, 1) := by decide +kernel
theorem d_KeyTree_sign_117 : decode b_KeyTree_sign 117 = .ok (.istore_n 3, 1) := by decide +kernel
theorem d_KeyTree_sign_118 : decode b_KeyTree_sign 118 = .ok (.iinc 4 1, 3) := by decide +kernel
theorem d_KeyTree_sign_121 : decode b_KeyTree_sign 121 = .ok (.goto (-31), 3) := by decide +kernel
theorem d_KeyTree_sign_124 : decode b_KeyTree_sign 124 = .ok (.iconst 1, 1) := by decide +kernel
theorem d_KeyTree_sign_125 : decode b_KeyTree_sign 125 = .ok (.ireturn, 1) := by decide +kernel
def f_KeyTree_sign_90 (i0 : Nat) (i1 : Nat) (j1 : Nat) : Nat → St → Int32 → Int32 → Int32 × St
  | 0, S, _, _ => (0, S)
  | n + 1, S, l3, l4 =>
    if (5 : Int32) ≤ l4 then
      ((1 : Int32), S)
    else
      lt (sl S 15 i1 j1 (((6 : Int32) + l4).toNatClampNeg) (S.2.1 11 i0 0 (l3 ^^^ (1 : Int32)).toNatClampNeg)) fun (S19 : St) =>
      f_KeyTree_sign_90 i0 i1 j1 n S19 (l3 >>> ((1 : Int32) &&& 31)) (l4 + (1 : Int32))
def ok_KeyTree_sign_90 (i0 : Nat) (i1 : Nat) (j1 : Nat) : Nat → St → Int32 → Int32 → Prop
  | 0, _, _, _ => False
  | n + 1, S, l3, l4 =>
    ((5 : Int32) ≤ l4 → (
      True)) ∧ (¬ ((5 : Int32) ≤ l4) → (
      (vp_in (l3 ^^^ (1 : Int32)) 64) ∧ (
        (vp_in ((6 : Int32) + l4) 11) ∧ (
          lt (sl S 15 i1 j1 (((6 : Int32) + l4).toNatClampNeg) (S.2.1 11 i0 0 (l3 ^^^ (1 : Int32)).toNatClampNeg)) fun (S19 : St) =>
          ok_KeyTree_sign_90 i0 i1 j1 n S19 (l3 >>> ((1 : Int32) &&& 31)) (l4 + (1 : Int32))))))
set_option maxHeartbeats 4000000 in
set_option maxRecDepth 100000 in
theorem w_KeyTree_sign_90 {l : Launch} {D : va_G} {X : va_W} {ad : N3 → Nat} {ca : Nat → ClassId} (i0 : Nat) (i1 : Nat) (j1 : Nat) (h0 : i0 < 4) (h1 : inM i1 j1) {p : Program} {e : Env} {s : State} {m : MethodId} {below : List Frame} {meth : Method} {c : Code} {A : Nat → Prop} (hy : Hy p s m ([.ref (ad (10, i0, 0)), .ref (ad (14, i1, j1))] : List Value).toArray meth c b_KeyTree_sign 5 (some .boolean) R_KeyTree GG D clQ (tysQ ca) nwQ) (hA : ∀ q, s.heap.size ≤ q → A q) {res : Int32 × St} : ∀ (n : Nat) (S : St) (l3 : Int32) (l4 : Int32) , ok_KeyTree_sign_90 i0 i1 j1 n S l3 l4 → f_KeyTree_sign_90 i0 i1 j1 n S l3 l4 = res → ∀ (H : Heap) (locs : List Loc) (ls : Array Slot), Wd D clQ A s.heap (zw X ad TQ (cfQ ad ca) S) H locs → lv_has ls 5 [(0, .ref (ad (10, i0, 0))), (1, .ref (ad (14, i1, j1))), (3, .int l3), (4, .int l4)] → W p l e { frames := 2, cells := 0, slots := 0, locals := 50 } s m ([.ref (ad (10, i0, 0)), .ref (ad (14, i1, j1))] : List Value).toArray below meth c H locs 0 0 (MQ below (eI D clQ X ad TQ (cfQ ad ca) A res) ([.ref (ad (10, i0, 0)), .ref (ad (14, i1, j1))] : List Value).toArray s 0 0 A) (F0 m 90 ls []) := by
  have hF := hy.1
  have hx := hF.1
  have hb := hF.2.1
  have hK := hy.2.2.2
  intro n
  induction n with
  | zero =>
    intro S l3 l4 hk
    exact hk.elim
  | succ n ih =>
    intro S l3 l4 hk hr H locs ls hW hl
    refine lv_iload (pc := 90) hx hb d_KeyTree_sign_90 (lv_at hl 3 rfl) ?_
    refine lv_iconst (pc := 92) (v := 5) hx hb d_KeyTree_sign_92 (by decide) ?_
    refine lv_icmp_ge (pc := 93) (tgt := 124) hx hb d_KeyTree_sign_93 (by decide) (fun c16 => ?_) (fun c16 => ?_)
    · have hk := hk.1 c16
      have hr := (if_pos c16).symm.trans hr
      refine lv_iconst (pc := 124) (v := 1) hx hb d_KeyTree_sign_124 (by decide) ?_
      exact z_zret (v := (1 : Int32)) hy hW rfl hr.symm d_KeyTree_sign_125
    · have hk := hk.2 c16
      have hr := (if_neg c16).symm.trans hr
      refine lv_aload_n (pc := 96) hx hb d_KeyTree_sign_96 rfl (lv_at hl 1 rfl) ?_
      refine z_get (pc := 97) (v := .ref (ad (15, i1, j1))) hF hK.1 hW (tq14 h1) rfl rfl in_Message 0 (by decide) gw_137 rfl rfl d_KeyTree_sign_97 ?_
      refine lv_bipush (pc := 100) (v := 6) hx hb d_KeyTree_sign_100 (by decide) ?_
      refine lv_iload (pc := 102) hx hb d_KeyTree_sign_102 (lv_at hl 3 rfl) ?_
      refine lv_iadd (pc := 104) hx hb d_KeyTree_sign_104 ?_
      refine lv_aload_n (pc := 105) hx hb d_KeyTree_sign_105 rfl (lv_at hl 0 rfl) ?_
      refine z_get (pc := 106) (v := .ref (ad (11, i0, 0))) hF hK.1 hW (tq10 h0) rfl rfl in_KeyTree 0 (by decide) gw_250 rfl rfl d_KeyTree_sign_106 ?_
      refine lv_iload_n (pc := 109) hx hb d_KeyTree_sign_109 rfl (lv_at hl 2 rfl) ?_
      refine lv_iconst (pc := 110) (v := 1) hx hb d_KeyTree_sign_110 (by decide) ?_
      refine lv_ixor (pc := 111) hx hb d_KeyTree_sign_111 ?_
      have b17 := hk.1
      have hk := hk.2
      refine z_lald (pc := 112) (v := S.2.1 11 i0 0 (l3 ^^^ (1 : Int32)).toNatClampNeg) hF hK.1 hW (tq11 h0) 1 rfl rfl b17 rfl d_KeyTree_sign_112 ?_
      have b18 := hk.1
      have hk := hk.2
      obtain ⟨S19, eS19⟩ : ∃ z : St, z = sl S 15 i1 j1 (((6 : Int32) + l4).toNatClampNeg) (S.2.1 11 i0 0 (l3 ^^^ (1 : Int32)).toNatClampNeg) := ⟨_, rfl⟩
      have hk := lt_p eS19 hk
      have hr := lt_e eS19 hr
      refine z_last (pc := 113) (S' := S19) hF hK.1 hW (tq15 h1) 1 rfl rfl b18 (zs_sl eS19 rfl) (zs_slo eS19) d_KeyTree_sign_113 (fun H locs (hW : Wd D clQ A s.heap (zw X ad TQ (cfQ ad ca) S19) H locs) => ?_)
      refine lv_iload_n (pc := 114) hx hb d_KeyTree_sign_114 rfl (lv_at hl 2 rfl) ?_
      refine lv_iconst (pc := 115) (v := 1) hx hb d_KeyTree_sign_115 (by decide) ?_
      refine lv_ishr (pc := 116) hx hb d_KeyTree_sign_116 ?_
      refine lv_istore_n (pc := 117) (lv' := [(3, .int (l3 >>> ((1 : Int32) &&& 31))), (0, .ref (ad (10, i0, 0))), (1, .ref (ad (14, i1, j1))), (4, .int l4)]) hx hb d_KeyTree_sign_117 rfl hl (by decide) rfl (fun ls hl => ?_)
      refine lv_iinc (pc := 118) (v := l4 + (1 : Int32)) (lv' := [(4, .int (l4 + (1 : Int32))), (3, .int (l3 >>> ((1 : Int32) &&& 31))), (0, .ref (ad (10, i0, 0))), (1, .ref (ad (14, i1, j1)))]) (k := 3) hx hb d_KeyTree_sign_118 hl rfl (z_inc (by decide)) (by decide) rfl (fun ls hl => ?_)
      refine lv_goto (pc := 121) (tgt := 90) hx hb d_KeyTree_sign_121 (by decide) ?_
      exact ih S19 (l3 >>> ((1 : Int32) &&& 31)) (l4 + (1 : Int32)) hk hr _ _ _ hW (lv_sub hl [2, 3, 1, 0] rfl)
def f_KeyTree_sign_37 (i0 : Nat) (i1 : Nat) (j1 : Nat) : Nat → St → Int32 → Int32 → Int32 × St
  | 0, S, _, _ => (0, S)
  | n + 1, S, l2, l3 =>
    if (6 : Int32) ≤ l3 then
      f_KeyTree_sign_90 i0 i1 j1 200 S ((32 : Int32) + (S.1 14 i1 j1 5)) (0 : Int32)
    else
      lt (f_KeyTree_secretOf (S.1 10 i0 0 1) (S.1 10 i0 0 2) (S.1 14 i1 j1 5) l3 S) fun (r10 : Int64) =>
      lt (f_KeyTree_digit l2 l3 S) fun (r11 : Int32) =>
      lt (f_Fold_afterSteps r10 r11 S) fun (r13 : Int64) =>
      lt (sl S 15 i1 j1 (l3.toNatClampNeg) r13) fun (S15 : St) =>
      f_KeyTree_sign_37 i0 i1 j1 n S15 l2 (l3 + (1 : Int32))
def ok_KeyTree_sign_37 (i0 : Nat) (i1 : Nat) (j1 : Nat) : Nat → St → Int32 → Int32 → Prop
  | 0, _, _, _ => False
  | n + 1, S, l2, l3 =>
    ((6 : Int32) ≤ l3 → (
      ok_KeyTree_sign_90 i0 i1 j1 200 S ((32 : Int32) + (S.1 14 i1 j1 5)) (0 : Int32))) ∧ (¬ ((6 : Int32) ≤ l3) → (
      lt (f_KeyTree_secretOf (S.1 10 i0 0 1) (S.1 10 i0 0 2) (S.1 14 i1 j1 5) l3 S) fun (r10 : Int64) =>
      lt (f_KeyTree_digit l2 l3 S) fun (r11 : Int32) =>
      (ok_Fold_afterSteps r10 r11 S) ∧ (
        lt (f_Fold_afterSteps r10 r11 S) fun (r13 : Int64) =>
        (vp_in l3 11) ∧ (
          lt (sl S 15 i1 j1 (l3.toNatClampNeg) r13) fun (S15 : St) =>
          ok_KeyTree_sign_37 i0 i1 j1 n S15 l2 (l3 + (1 : Int32))))))
set_option maxHeartbeats 4000000 in
set_option maxRecDepth 100000 in
theorem w_KeyTree_sign_37 {l : Launch} {D : va_G} {X : va_W} {ad : N3 → Nat} {ca : Nat → ClassId} (i0 : Nat) (i1 : Nat) (j1 : Nat) (h0 : i0 < 4) (h1 : inM i1 j1) {p : Program} {e : Env} {s : State} {m : MethodId} {below : List Frame} {meth : Method} {c : Code} {A : Nat → Prop} (hy : Hy p s m ([.ref (ad (10, i0, 0)), .ref (ad (14, i1, j1))] : List Value).toArray meth c b_KeyTree_sign 5 (some .boolean) R_KeyTree GG D clQ (tysQ ca) nwQ) (hA : ∀ q, s.heap.size ≤ q → A q) {res : Int32 × St} : ∀ (n : Nat) (S : St) (l2 : Int32) (l3 : Int32) , ok_KeyTree_sign_37 i0 i1 j1 n S l2 l3 → f_KeyTree_sign_37 i0 i1 j1 n S l2 l3 = res → ∀ (H : Heap) (locs : List Loc) (ls : Array Slot), Wd D clQ A s.heap (zw X ad TQ (cfQ ad ca) S) H locs → lv_has ls 5 [(0, .ref (ad (10, i0, 0))), (1, .ref (ad (14, i1, j1))), (2, .int l2), (3, .int l3)] → W p l e { frames := 2, cells := 0, slots := 0, locals := 50 } s m ([.ref (ad (10, i0, 0)), .ref (ad (14, i1, j1))] : List Value).toArray below meth c H locs 0 0 (MQ below (eI D clQ X ad TQ (cfQ ad ca) A res) ([.ref (ad (10, i0, 0)), .ref (ad (14, i1, j1))] : List Value).toArray s 0 0 A) (F0 m 37 ls []) := by
  have hF := hy.1
  have hx := hF.1
  have hb := hF.2.1
  have hK := hy.2.2.2
  intro n
  induction n with
  | zero =>
    intro S l2 l3 hk
    exact hk.elim
  | succ n ih =>
    intro S l2 l3 hk hr H locs ls hW hl
    refine lv_iload_n (pc := 37) hx hb d_KeyTree_sign_37 rfl (lv_at hl 3 rfl) ?_
    refine lv_bipush (pc := 38) (v := 6) hx hb d_KeyTree_sign_38 (by decide) ?_
    refine lv_icmp_ge (pc := 40) (tgt := 79) hx hb d_KeyTree_sign_40 (by decide) (fun c9 => ?_) (fun c9 => ?_)
    · have hk := hk.1 c9
      have hr := (if_pos c9).symm.trans hr
      refine lv_bipush (pc := 79) (v := 32) hx hb d_KeyTree_sign_79 (by decide) ?_
      refine lv_aload_n (pc := 81) hx hb d_KeyTree_sign_81 rfl (lv_at hl 1 rfl) ?_
      refine z_get (pc := 82) (v := .int (S.1 14 i1 j1 5)) hF hK.1 hW (tq14 h1) rfl rfl in_Message 5 (by decide) gw_148 rfl rfl d_KeyTree_sign_82 ?_
      refine lv_iadd (pc := 85) hx hb d_KeyTree_sign_85 ?_
      refine lv_istore_n (pc := 86) (lv' := [(3, .int ((32 : Int32) + (S.1 14 i1 j1 5))), (0, .ref (ad (10, i0, 0))), (1, .ref (ad (14, i1, j1))), (2, .int l2)]) hx hb d_KeyTree_sign_86 rfl hl (by decide) rfl (fun ls hl => ?_)
      refine lv_iconst (pc := 87) (v := 0) hx hb d_KeyTree_sign_87 (by decide) ?_
      refine lv_istore (pc := 88) (lv' := [(4, .int (0 : Int32)), (3, .int ((32 : Int32) + (S.1 14 i1 j1 5))), (0, .ref (ad (10, i0, 0))), (1, .ref (ad (14, i1, j1))), (2, .int l2)]) hx hb d_KeyTree_sign_88 hl (by decide) rfl (fun ls hl => ?_)
      exact w_KeyTree_sign_90 i0 i1 j1 h0 h1 hy hA 200 S ((32 : Int32) + (S.1 14 i1 j1 5)) (0 : Int32) hk hr _ _ _ hW (lv_sub hl [2, 3, 1, 0] rfl)
    · have hk := hk.2 c9
      have hr := (if_neg c9).symm.trans hr
      refine lv_aload_n (pc := 43) hx hb d_KeyTree_sign_43 rfl (lv_at hl 1 rfl) ?_
      refine z_get (pc := 44) (v := .ref (ad (15, i1, j1))) hF hK.1 hW (tq14 h1) rfl rfl in_Message 0 (by decide) gw_137 rfl rfl d_KeyTree_sign_44 ?_
      refine lv_iload_n (pc := 47) hx hb d_KeyTree_sign_47 rfl (lv_at hl 3 rfl) ?_
      refine lv_aload_n (pc := 48) hx hb d_KeyTree_sign_48 rfl (lv_at hl 0 rfl) ?_
      refine z_get (pc := 49) (v := .int (S.1 10 i0 0 1)) hF hK.1 hW (tq10 h0) rfl rfl in_KeyTree 1 (by decide) gw_251 rfl rfl d_KeyTree_sign_49 ?_
      refine lv_aload_n (pc := 52) hx hb d_KeyTree_sign_52 rfl (lv_at hl 0 rfl) ?_
      refine z_get (pc := 53) (v := .int (S.1 10 i0 0 2)) hF hK.1 hW (tq10 h0) rfl rfl in_KeyTree 2 (by decide) gw_252 rfl rfl d_KeyTree_sign_53 ?_
      refine lv_aload_n (pc := 56) hx hb d_KeyTree_sign_56 rfl (lv_at hl 1 rfl) ?_
      refine z_get (pc := 57) (v := .int (S.1 14 i1 j1 5)) hF hK.1 hW (tq14 h1) rfl rfl in_Message 5 (by decide) gw_148 rfl rfl d_KeyTree_sign_57 ?_
      refine lv_iload_n (pc := 60) hx hb d_KeyTree_sign_60 rfl (lv_at hl 3 rfl) ?_
      obtain ⟨r10, er10⟩ : ∃ z : Int64, z = f_KeyTree_secretOf (S.1 10 i0 0 1) (S.1 10 i0 0 2) (S.1 14 i1 j1 5) l3 S := ⟨_, rfl⟩
      have hk := lt_p er10 hk
      have hr := lt_e er10 hr
      refine p_go (pc := 61) (congrArg Value.long er10) (p_runS hF hK hW (c_KeyTree_secretOf l D X ad ca (S.1 10 i0 0 1) (S.1 10 i0 0 2) (S.1 14 i1 j1 5) l3 S _) cd_KeyTree_secretOf gw_229 ⟨Nat.le_of_ble_eq_true rfl, Nat.le_of_ble_eq_true rfl⟩ ⟨Nat.zero_le _, Nat.zero_le _⟩ rfl rfl hl.1 (Nat.le_of_ble_eq_true rfl) d_KeyTree_sign_61) ?_
      refine lv_iload_n (pc := 64) hx hb d_KeyTree_sign_64 rfl (lv_at hl 2 rfl) ?_
      refine lv_iload_n (pc := 65) hx hb d_KeyTree_sign_65 rfl (lv_at hl 3 rfl) ?_
      obtain ⟨r11, er11⟩ : ∃ z : Int32, z = f_KeyTree_digit l2 l3 S := ⟨_, rfl⟩
      have hk := lt_p er11 hk
      have hr := lt_e er11 hr
      refine p_go (pc := 66) (congrArg Value.int er11) (p_runS hF hK hW (c_KeyTree_digit l D X ad ca l2 l3 S _) cd_KeyTree_digit gw_404 ⟨Nat.le_of_ble_eq_true rfl, Nat.le_of_ble_eq_true rfl⟩ ⟨Nat.zero_le _, Nat.zero_le _⟩ rfl rfl hl.1 (Nat.le_of_ble_eq_true rfl) d_KeyTree_sign_66) ?_
      have o12 := hk.1
      have hk := hk.2
      obtain ⟨r13, er13⟩ : ∃ z : Int64, z = f_Fold_afterSteps r10 r11 S := ⟨_, rfl⟩
      have hk := lt_p er13 hk
      have hr := lt_e er13 hr
      refine p_go (pc := 69) (congrArg Value.long er13) (p_runS hF hK hW (c_Fold_afterSteps l D X ad ca r10 r11 S o12 _) cd_Fold_afterSteps gw_240 ⟨Nat.le_of_ble_eq_true rfl, Nat.le_of_ble_eq_true rfl⟩ ⟨Nat.zero_le _, Nat.zero_le _⟩ rfl rfl hl.1 (Nat.le_of_ble_eq_true rfl) d_KeyTree_sign_69) ?_
      have b14 := hk.1
      have hk := hk.2
      obtain ⟨S15, eS15⟩ : ∃ z : St, z = sl S 15 i1 j1 (l3.toNatClampNeg) r13 := ⟨_, rfl⟩
      have hk := lt_p eS15 hk
      have hr := lt_e eS15 hr
      refine z_last (pc := 72) (S' := S15) hF hK.1 hW (tq15 h1) 1 rfl rfl b14 (zs_sl eS15 rfl) (zs_slo eS15) d_KeyTree_sign_72 (fun H locs (hW : Wd D clQ A s.heap (zw X ad TQ (cfQ ad ca) S15) H locs) => ?_)
      refine lv_iinc (pc := 73) (v := l3 + (1 : Int32)) (lv' := [(3, .int (l3 + (1 : Int32))), (0, .ref (ad (10, i0, 0))), (1, .ref (ad (14, i1, j1))), (2, .int l2)]) (k := 3) hx hb d_KeyTree_sign_73 hl rfl (z_inc (by decide)) (by decide) rfl (fun ls hl => ?_)
      refine lv_goto (pc := 76) (tgt := 37) hx hb d_KeyTree_sign_76 (by decide) ?_
      exact ih S15 l2 (l3 + (1 : Int32)) hk hr _ _ _ hW (lv_sub hl [1, 2, 3, 0] rfl)
def f_KeyTree_sign (i0 : Nat) (i1 : Nat) (j1 : Nat) (S : St) : Int32 × St :=
  lt (f_KeyTree_isLeft i0 S) fun (r1 : Int32) =>
  if r1 = 0 then
    ((0 : Int32), S)
  else
    lt (si S 14 i1 j1 5 (S.1 10 i0 0 3)) fun (S3 : St) =>
    lt (si S3 10 i0 0 3 ((S3.1 10 i0 0 3) + (1 : Int32))) fun (S4 : St) =>
    lt (f_Message_meaning i1 j1 S4) fun (r6 : Int64) =>
    lt (f_KeyTree_digitsOf r6 S4) fun (r8 : Int32) =>
    f_KeyTree_sign_37 i0 i1 j1 200 S4 r8 (0 : Int32)
def ok_KeyTree_sign (i0 : Nat) (i1 : Nat) (j1 : Nat) (S : St) : Prop :=
  lt (f_KeyTree_isLeft i0 S) fun (r1 : Int32) =>
  (r1 = 0 → (
    True)) ∧ (¬ (r1 = 0) → (
    lt (si S 14 i1 j1 5 (S.1 10 i0 0 3)) fun (S3 : St) =>
    lt (si S3 10 i0 0 3 ((S3.1 10 i0 0 3) + (1 : Int32))) fun (S4 : St) =>
    (ok_Message_meaning i1 j1 S4) ∧ (
      lt (f_Message_meaning i1 j1 S4) fun (r6 : Int64) =>
      (ok_KeyTree_digitsOf r6 S4) ∧ (
        lt (f_KeyTree_digitsOf r6 S4) fun (r8 : Int32) =>
        ok_KeyTree_sign_37 i0 i1 j1 200 S4 r8 (0 : Int32)))))
set_option maxHeartbeats 4000000 in
set_option maxRecDepth 100000 in
theorem c_KeyTree_sign (l : Launch) (D : va_G) (X : va_W) (ad : N3 → Nat) (ca : Nat → ClassId) (i0 : Nat) (i1 : Nat) (j1 : Nat) (h0 : i0 < 4) (h1 : inM i1 j1) (S : St) (hk : ok_KeyTree_sign i0 i1 j1 S) : cI l GG D clQ (tysQ ca) nwQ X ad TQ (cfQ ad ca) y_KeyTree_sign b_KeyTree_sign 5 .boolean 2 50 [.ref (ad (10, i0, 0)), .ref (ad (14, i1, j1))] S (f_KeyTree_sign i0 i1 j1 S) := by
  generalize hr : f_KeyTree_sign i0 i1 j1 S = res
  refine zI_of pn_KeyTree (Nat.le_of_ble_eq_true rfl) (fun p e s m below meth c A ls hy hW hA hl => ?_)
  have hF := hy.1
  have hx := hF.1
  have hb := hF.2.1
  have hK := hy.2.2.2
  have hl : lv_has ls 5 [(0, .ref (ad (10, i0, 0))), (1, .ref (ad (14, i1, j1)))] := hl
  refine lv_aload_n (pc := 0) hx hb d_KeyTree_sign_0 rfl (lv_at hl 0 rfl) ?_
  obtain ⟨r1, er1⟩ : ∃ z : Int32, z = f_KeyTree_isLeft i0 S := ⟨_, rfl⟩
  have hk := lt_p er1 hk
  have hr := lt_e er1 hr
  refine p_go (pc := 1) (congrArg Value.int er1) (p_runV hF hK hW (c_KeyTree_isLeft l D X ad ca i0 h0 S _) cd_KeyTree_isLeft gw_389 (tq10 h0) rfl rfl ⟨Nat.le_of_ble_eq_true rfl, Nat.le_of_ble_eq_true rfl⟩ ⟨Nat.zero_le _, Nat.zero_le _⟩ rfl rfl hl.1 (Nat.le_of_ble_eq_true rfl) d_KeyTree_sign_1) ?_
  refine lv_if_ne (pc := 4) (tgt := 9) hx hb d_KeyTree_sign_4 (by decide) (fun c2 => ?_) (fun c2 => ?_)
  · have hk := hk.2 c2
    have hr := (if_neg c2).symm.trans hr
    refine lv_aload_n (pc := 9) hx hb d_KeyTree_sign_9 rfl (lv_at hl 1 rfl) ?_
    refine lv_aload_n (pc := 10) hx hb d_KeyTree_sign_10 rfl (lv_at hl 0 rfl) ?_
    refine z_get (pc := 11) (v := .int (S.1 10 i0 0 3)) hF hK.1 hW (tq10 h0) rfl rfl in_KeyTree 3 (by decide) gw_253 rfl rfl d_KeyTree_sign_11 ?_
    obtain ⟨S3, eS3⟩ : ∃ z : St, z = si S 14 i1 j1 5 (S.1 10 i0 0 3) := ⟨_, rfl⟩
    have hk := lt_p eS3 hk
    have hr := lt_e eS3 hr
    refine z_put (pc := 14) (S' := S3) hF hK.1 hW (tq14 h1) rfl rfl in_Message t_Message tyo_Message nmo_Message 5 (by decide) gw_148 rfl rfl rfl rfl rfl (Nat.le_of_ble_eq_true rfl) (zs_si eS3 rfl) (zs_sio eS3) d_KeyTree_sign_14 (fun H locs (hW : Wd D clQ A s.heap (zw X ad TQ (cfQ ad ca) S3) H locs) => ?_)
    refine lv_aload_n (pc := 17) hx hb d_KeyTree_sign_17 rfl (lv_at hl 0 rfl) ?_
    refine lv_dup (pc := 18) hx hb d_KeyTree_sign_18 rfl ?_
    refine z_get (pc := 19) (v := .int (S3.1 10 i0 0 3)) hF hK.1 hW (tq10 h0) rfl rfl in_KeyTree 3 (by decide) gw_253 rfl rfl d_KeyTree_sign_19 ?_
    refine lv_iconst (pc := 22) (v := 1) hx hb d_KeyTree_sign_22 (by decide) ?_
    refine lv_iadd (pc := 23) hx hb d_KeyTree_sign_23 ?_
    obtain ⟨S4, eS4⟩ : ∃ z : St, z = si S3 10 i0 0 3 ((S3.1 10 i0 0 3) + (1 : Int32)) := ⟨_, rfl⟩
    have hk := lt_p eS4 hk
    have hr := lt_e eS4 hr
    refine z_put (pc := 24) (S' := S4) hF hK.1 hW (tq10 h0) rfl rfl in_KeyTree t_KeyTree tyo_KeyTree nmo_KeyTree 3 (by decide) gw_253 rfl rfl rfl rfl rfl (Nat.le_of_ble_eq_true rfl) (zs_si eS4 rfl) (zs_sio eS4) d_KeyTree_sign_24 (fun H locs (hW : Wd D clQ A s.heap (zw X ad TQ (cfQ ad ca) S4) H locs) => ?_)
    refine lv_aload_n (pc := 27) hx hb d_KeyTree_sign_27 rfl (lv_at hl 1 rfl) ?_
    have o5 := hk.1
    have hk := hk.2
    obtain ⟨r6, er6⟩ : ∃ z : Int64, z = f_Message_meaning i1 j1 S4 := ⟨_, rfl⟩
    have hk := lt_p er6 hk
    have hr := lt_e er6 hr
    refine p_go (pc := 28) (congrArg Value.long er6) (p_runV hF hK hW (c_Message_meaning l D X ad ca i1 j1 h1 S4 o5 _) cd_Message_meaning gw_393 (tq14 h1) rfl rfl ⟨Nat.le_of_ble_eq_true rfl, Nat.le_of_ble_eq_true rfl⟩ ⟨Nat.zero_le _, Nat.zero_le _⟩ rfl rfl hl.1 (Nat.le_of_ble_eq_true rfl) d_KeyTree_sign_28) ?_
    have o7 := hk.1
    have hk := hk.2
    obtain ⟨r8, er8⟩ : ∃ z : Int32, z = f_KeyTree_digitsOf r6 S4 := ⟨_, rfl⟩
    have hk := lt_p er8 hk
    have hr := lt_e er8 hr
    refine p_go (pc := 31) (congrArg Value.int er8) (p_runS hF hK hW (c_KeyTree_digitsOf l D X ad ca r6 S4 o7 _) cd_KeyTree_digitsOf gw_400 ⟨Nat.le_of_ble_eq_true rfl, Nat.le_of_ble_eq_true rfl⟩ ⟨Nat.zero_le _, Nat.zero_le _⟩ rfl rfl hl.1 (Nat.le_of_ble_eq_true rfl) d_KeyTree_sign_31) ?_
    refine lv_istore_n (pc := 34) (lv' := [(2, .int r8), (0, .ref (ad (10, i0, 0))), (1, .ref (ad (14, i1, j1)))]) hx hb d_KeyTree_sign_34 rfl hl (by decide) rfl (fun ls hl => ?_)
    refine lv_iconst (pc := 35) (v := 0) hx hb d_KeyTree_sign_35 (by decide) ?_
    refine lv_istore_n (pc := 36) (lv' := [(3, .int (0 : Int32)), (2, .int r8), (0, .ref (ad (10, i0, 0))), (1, .ref (ad (14, i1, j1)))]) hx hb d_KeyTree_sign_36 rfl hl (by decide) rfl (fun ls hl => ?_)
    exact w_KeyTree_sign_37 i0 i1 j1 h0 h1 hy hA 200 S4 r8 (0 : Int32) hk hr _ _ _ hW (lv_sub hl [2, 3, 1, 0] rfl)
  · have hk := hk.1 c2
    have hr := (if_pos c2).symm.trans hr
    refine lv_iconst (pc := 7) (v := 0) hx hb d_KeyTree_sign_7 (by decide) ?_
    exact z_zret (v := (0 : Int32)) hy hW rfl hr.symm d_KeyTree_sign_8
