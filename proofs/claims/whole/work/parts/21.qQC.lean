theorem d_QC_firstNewTransaction_0 : decode b_QC_firstNewTransaction 0 = .ok (.iconst 0, 1) := by decide +kernel
theorem d_QC_firstNewTransaction_1 : decode b_QC_firstNewTransaction 1 = .ok (.istore_n 2, 1) := by decide +kernel
theorem d_QC_firstNewTransaction_2 : decode b_QC_firstNewTransaction 2 = .ok (.iload_n 2, 1) := by decide +kernel
theorem d_QC_firstNewTransaction_3 : decode b_QC_firstNewTransaction 3 = .ok (.aload_n 1, 1) := by decide +kernel
theorem d_QC_firstNewTransaction_4 : decode b_QC_firstNewTransaction 4 = .ok (.getfield 266, 3) := by decide +kernel
theorem d_QC_firstNewTransaction_7 : decode b_QC_firstNewTransaction 7 = .ok (.if_icmp .ge 36, 3) := by decide +kernel
theorem d_QC_firstNewTransaction_10 : decode b_QC_firstNewTransaction 10 = .ok (.aload_n 0, 1) := by decide +kernel
theorem d_QC_firstNewTransaction_11 : decode b_QC_firstNewTransaction 11 = .ok (.getfield 18, 3) := by decide +kernel
theorem d_QC_firstNewTransaction_14 : decode b_QC_firstNewTransaction 14 = .ok (.aload_n 1, 1) := by decide +kernel
theorem d_QC_firstNewTransaction_15 : decode b_QC_firstNewTransaction 15 = .ok (.getfield 365, 3) := by decide +kernel
theorem d_QC_firstNewTransaction_18 : decode b_QC_firstNewTransaction 18 = .ok (.iload_n 2, 1) := by decide +kernel
theorem d_QC_firstNewTransaction_19 : decode b_QC_firstNewTransaction 19 = .ok (.iaload, 1) := by decide +kernel
theorem d_QC_firstNewTransaction_20 : decode b_QC_firstNewTransaction 20 = .ok (.aload_n 1, 1) := by decide +kernel
theorem d_QC_firstNewTransaction_21 : decode b_QC_firstNewTransaction 21 = .ok (.getfield 248, 3) := by decide +kernel
theorem d_QC_firstNewTransaction_24 : decode b_QC_firstNewTransaction 24 = .ok (.invokevirtual 368, 3) := by decide +kernel
theorem d_QC_firstNewTransaction_27 : decode b_QC_firstNewTransaction 27 = .ok (.ifCond .ne 10, 3) := by decide +kernel
theorem d_QC_firstNewTransaction_30 : decode b_QC_firstNewTransaction 30 = .ok (.aload_n 1, 1) := by decide +kernel
theorem d_QC_firstNewTransaction_31 : decode b_QC_firstNewTransaction 31 = .ok (.getfield 365, 3) := by decide +kernel
theorem d_QC_firstNewTransaction_34 : decode b_QC_firstNewTransaction 34 = .ok (.iload_n 2, 1) := by decide +kernel
theorem d_QC_firstNewTransaction_35 : decode b_QC_firstNewTransaction 35 = .ok (.iaload, 1) := by decide +kernel
theorem d_QC_firstNewTransaction_36 : decode b_QC_firstNewTransaction 36 = .ok (.ireturn, 1) := by decide +kernel
theorem d_QC_firstNewTransaction_37 : decode b_QC_firstNewTransaction 37 = .ok (.iinc 2 1, 3) := by decide +kernel
theorem d_QC_firstNewTransaction_40 : decode b_QC_firstNewTransaction 40 = .ok (.goto (-38), 3) := by decide +kernel
theorem d_QC_firstNewTransaction_43 : decode b_QC_firstNewTransaction 43 = .ok (.iconst (-1), 1) := by decide +kernel
theorem d_QC_firstNewTransaction_44 : decode b_QC_firstNewTransaction 44 = .ok (.ireturn, 1) := by decide +kernel
def f_QC_firstNewTransaction_2 (i1 : Nat) : Nat → St → Int32 → Int32
  | 0, _, _ => 0
  | n + 1, S, l2 =>
    if (S.1 3 i1 0 6) ≤ l2 then
      (-1 : Int32)
    else
      lt (f_Blocks_isInChain (S.1 18 i1 0 l2.toNatClampNeg) (S.1 3 i1 0 11) S) fun (r4 : Int32) =>
      if r4 = 0 then
        S.1 18 i1 0 l2.toNatClampNeg
      else
        f_QC_firstNewTransaction_2 i1 n S (l2 + (1 : Int32))
def ok_QC_firstNewTransaction_2 (i1 : Nat) : Nat → St → Int32 → Prop
  | 0, _, _ => False
  | n + 1, S, l2 =>
    ((S.1 3 i1 0 6) ≤ l2 → (
      True)) ∧ (¬ ((S.1 3 i1 0 6) ≤ l2) → (
      (vp_in l2 40) ∧ (
        (ok_Blocks_isInChain (S.1 18 i1 0 l2.toNatClampNeg) (S.1 3 i1 0 11) S) ∧ (
          lt (f_Blocks_isInChain (S.1 18 i1 0 l2.toNatClampNeg) (S.1 3 i1 0 11) S) fun (r4 : Int32) =>
          (r4 = 0 → (
            (vp_in l2 40) ∧ (
              True))) ∧ (¬ (r4 = 0) → (
            ok_QC_firstNewTransaction_2 i1 n S (l2 + (1 : Int32))))))))
set_option maxHeartbeats 4000000 in
set_option maxRecDepth 100000 in
theorem w_QC_firstNewTransaction_2 {l : Launch} {D : va_G} {X : va_W} {ad : N3 → Nat} {ca : Nat → ClassId} (i1 : Nat) (h1 : i1 < 4) (S : St) {p : Program} {e : Env} {s : State} {m : MethodId} {below : List Frame} {meth : Method} {c : Code} (hy : Hy p s m ([.ref (ad (1, 0, 0)), .ref (ad (3, i1, 0))] : List Value).toArray meth c b_QC_firstNewTransaction 3 (some .int) R_QC GG D clQ (tysQ ca) nwQ) (hW : Wd D clQ (fun _ => True) s.heap (zw X ad TQ (cfQ ad ca) S) s.heap []) {res : Int32} : ∀ (n : Nat) (l2 : Int32) , ok_QC_firstNewTransaction_2 i1 n S l2 → f_QC_firstNewTransaction_2 i1 n S l2 = res → ∀ (ls : Array Slot), lv_has ls 3 [(0, .ref (ad (1, 0, 0))), (1, .ref (ad (3, i1, 0))), (2, .int l2)] → W p l e { frames := 3, cells := 0, slots := 0, locals := 66 } s m ([.ref (ad (1, 0, 0)), .ref (ad (3, i1, 0))] : List Value).toArray below meth c s.heap [] 0 0 (MQ below (eP (.int res)) ([.ref (ad (1, 0, 0)), .ref (ad (3, i1, 0))] : List Value).toArray s 0 0 nof) (F0 m 2 ls []) := by
  have hF := hy.1
  have hx := hF.1
  have hb := hF.2.1
  have hK := hy.2.2.2
  intro n
  induction n with
  | zero =>
    intro l2 hk
    exact hk.elim
  | succ n ih =>
    intro l2 hk hr ls hl
    refine lv_iload_n (pc := 2) hx hb d_QC_firstNewTransaction_2 rfl (lv_at hl 2 rfl) ?_
    refine lv_aload_n (pc := 3) hx hb d_QC_firstNewTransaction_3 rfl (lv_at hl 1 rfl) ?_
    refine z_get (pc := 4) (v := .int (S.1 3 i1 0 6)) hF hK.1 hW (tq3 h1) rfl rfl in_Node 6 (by decide) gw_308 rfl rfl d_QC_firstNewTransaction_4 ?_
    refine lv_icmp_ge (pc := 7) (tgt := 43) hx hb d_QC_firstNewTransaction_7 (by decide) (fun c1 => ?_) (fun c1 => ?_)
    · have hk := hk.1 c1
      have hr := (if_pos c1).symm.trans hr
      refine lv_iconst (pc := 43) (v := -1) hx hb d_QC_firstNewTransaction_43 (by decide) ?_
      exact p_iret (v := (-1 : Int32)) hy hr d_QC_firstNewTransaction_44
    · have hk := hk.2 c1
      have hr := (if_neg c1).symm.trans hr
      refine lv_aload_n (pc := 10) hx hb d_QC_firstNewTransaction_10 rfl (lv_at hl 0 rfl) ?_
      refine z_get (pc := 11) (v := .ref (ad (19, 0, 0))) hF hK.1 hW tq1 rfl rfl in_QC 1 (by decide) gw_345 rfl rfl d_QC_firstNewTransaction_11 ?_
      refine lv_aload_n (pc := 14) hx hb d_QC_firstNewTransaction_14 rfl (lv_at hl 1 rfl) ?_
      refine z_get (pc := 15) (v := .ref (ad (18, i1, 0))) hF hK.1 hW (tq3 h1) rfl rfl in_Node 5 (by decide) gw_306 rfl rfl d_QC_firstNewTransaction_15 ?_
      refine lv_iload_n (pc := 18) hx hb d_QC_firstNewTransaction_18 rfl (lv_at hl 2 rfl) ?_
      have b2 := hk.1
      have hk := hk.2
      refine z_iald (pc := 19) (v := S.1 18 i1 0 l2.toNatClampNeg) hF hK.1 hW (tq18 h1) 0 rfl rfl b2 rfl d_QC_firstNewTransaction_19 ?_
      refine lv_aload_n (pc := 20) hx hb d_QC_firstNewTransaction_20 rfl (lv_at hl 1 rfl) ?_
      refine z_get (pc := 21) (v := .int (S.1 3 i1 0 11)) hF hK.1 hW (tq3 h1) rfl rfl in_Node 11 (by decide) gw_318 rfl rfl d_QC_firstNewTransaction_21 ?_
      have o3 := hk.1
      have hk := hk.2
      obtain ⟨r4, er4⟩ : ∃ z : Int32, z = f_Blocks_isInChain (S.1 18 i1 0 l2.toNatClampNeg) (S.1 3 i1 0 11) S := ⟨_, rfl⟩
      have hk := lt_p er4 hk
      have hr := lt_e er4 hr
      refine p_go (pc := 24) (congrArg Value.int er4) (p_runV hF hK hW (c_Blocks_isInChain l D X ad ca (S.1 18 i1 0 l2.toNatClampNeg) (S.1 3 i1 0 11) S o3 _) cd_Blocks_isInChain gw_630 tq19 rfl rfl ⟨Nat.le_of_ble_eq_true rfl, Nat.le_of_ble_eq_true rfl⟩ ⟨Nat.zero_le _, Nat.zero_le _⟩ rfl rfl hl.1 (Nat.le_of_ble_eq_true rfl) d_QC_firstNewTransaction_24) ?_
      refine lv_if_ne (pc := 27) (tgt := 37) hx hb d_QC_firstNewTransaction_27 (by decide) (fun c5 => ?_) (fun c5 => ?_)
      · have hk := hk.2 c5
        have hr := (if_neg c5).symm.trans hr
        refine lv_iinc (pc := 37) (v := l2 + (1 : Int32)) (lv' := [(2, .int (l2 + (1 : Int32))), (0, .ref (ad (1, 0, 0))), (1, .ref (ad (3, i1, 0)))]) (k := 2) hx hb d_QC_firstNewTransaction_37 hl rfl (z_inc (by decide)) (by decide) rfl (fun ls hl => ?_)
        refine lv_goto (pc := 40) (tgt := 2) hx hb d_QC_firstNewTransaction_40 (by decide) ?_
        exact ih (l2 + (1 : Int32)) hk hr _ (lv_sub hl [1, 2, 0] rfl)
      · have hk := hk.1 c5
        have hr := (if_pos c5).symm.trans hr
        refine lv_aload_n (pc := 30) hx hb d_QC_firstNewTransaction_30 rfl (lv_at hl 1 rfl) ?_
        refine z_get (pc := 31) (v := .ref (ad (18, i1, 0))) hF hK.1 hW (tq3 h1) rfl rfl in_Node 5 (by decide) gw_306 rfl rfl d_QC_firstNewTransaction_31 ?_
        refine lv_iload_n (pc := 34) hx hb d_QC_firstNewTransaction_34 rfl (lv_at hl 2 rfl) ?_
        have b6 := hk.1
        have hk := hk.2
        refine z_iald (pc := 35) (v := S.1 18 i1 0 l2.toNatClampNeg) hF hK.1 hW (tq18 h1) 0 rfl rfl b6 rfl d_QC_firstNewTransaction_35 ?_
        exact p_iret (v := S.1 18 i1 0 l2.toNatClampNeg) hy hr d_QC_firstNewTransaction_36
def f_QC_firstNewTransaction (i1 : Nat) (S : St) : Int32 :=
  f_QC_firstNewTransaction_2 i1 200 S (0 : Int32)
def ok_QC_firstNewTransaction (i1 : Nat) (S : St) : Prop :=
  ok_QC_firstNewTransaction_2 i1 200 S (0 : Int32)
set_option maxHeartbeats 4000000 in
set_option maxRecDepth 100000 in
theorem c_QC_firstNewTransaction (l : Launch) (D : va_G) (X : va_W) (ad : N3 → Nat) (ca : Nat → ClassId) (i1 : Nat) (h1 : i1 < 4) (S : St) (hk : ok_QC_firstNewTransaction i1 S) : cP l GG D clQ (tysQ ca) nwQ (zw X ad TQ (cfQ ad ca) S) y_QC_firstNewTransaction b_QC_firstNewTransaction 3 .int 3 66 [.ref (ad (1, 0, 0)), .ref (ad (3, i1, 0))] (.int (f_QC_firstNewTransaction i1 S)) := by
  generalize hr : f_QC_firstNewTransaction i1 S = res
  refine zP_of pn_QC (Nat.le_of_ble_eq_true rfl) (fun p e s m below meth c ls hy hW hl => ?_)
  have hF := hy.1
  have hx := hF.1
  have hb := hF.2.1
  have hK := hy.2.2.2
  have hl : lv_has ls 3 [(0, .ref (ad (1, 0, 0))), (1, .ref (ad (3, i1, 0)))] := hl
  refine lv_iconst (pc := 0) (v := 0) hx hb d_QC_firstNewTransaction_0 (by decide) ?_
  refine lv_istore_n (pc := 1) (lv' := [(2, .int (0 : Int32)), (0, .ref (ad (1, 0, 0))), (1, .ref (ad (3, i1, 0)))]) hx hb d_QC_firstNewTransaction_1 rfl hl (by decide) rfl (fun ls hl => ?_)
  exact w_QC_firstNewTransaction_2 i1 h1 S hy hW 200 (0 : Int32) hk hr _ (lv_sub hl [1, 2, 0] rfl)
theorem d_Blocks_add_0 : decode b_Blocks_add 0 = .ok (.aload_n 0, 1) := by decide +kernel
theorem d_Blocks_add_1 : decode b_Blocks_add 1 = .ok (.getfield 25, 3) := by decide +kernel
theorem d_Blocks_add_4 : decode b_Blocks_add 4 = .ok (.bipush 100, 2) := by decide +kernel
theorem d_Blocks_add_6 : decode b_Blocks_add 6 = .ok (.if_icmp .lt 5, 3) := by decide +kernel
theorem d_Blocks_add_9 : decode b_Blocks_add 9 = .ok (.iconst (-1), 1) := by decide +kernel
theorem d_Blocks_add_10 : decode b_Blocks_add 10 = .ok (.ireturn, 1) := by decide +kernel
theorem d_Blocks_add_11 : decode b_Blocks_add 11 = .ok (.aload_n 0, 1) := by decide +kernel
theorem d_Blocks_add_12 : decode b_Blocks_add 12 = .ok (.getfield 9, 3) := by decide +kernel
theorem d_Blocks_add_15 : decode b_Blocks_add 15 = .ok (.aload_n 0, 1) := by decide +kernel
theorem d_Blocks_add_16 : decode b_Blocks_add 16 = .ok (.getfield 25, 3) := by decide +kernel
theorem d_Blocks_add_19 : decode b_Blocks_add 19 = .ok (.iload_n 1, 1) := by decide +kernel
theorem d_Blocks_add_20 : decode b_Blocks_add 20 = .ok (.iastore, 1) := by decide +kernel
theorem d_Blocks_add_21 : decode b_Blocks_add 21 = .ok (.aload_n 0, 1) := by decide +kernel
theorem d_Blocks_add_22 : decode b_Blocks_add 22 = .ok (.getfield 15, 3) := by decide +kernel
theorem d_Blocks_add_25 : decode b_Blocks_add 25 = .ok (.aload_n 0, 1) := by decide +kernel
theorem d_Blocks_add_26 : decode b_Blocks_add 26 = .ok (.getfield 25, 3) := by decide +kernel
theorem d_Blocks_add_29 : decode b_Blocks_add 29 = .ok (.iload_n 2, 1) := by decide +kernel
theorem d_Blocks_add_30 : decode b_Blocks_add 30 = .ok (.iastore, 1) := by decide +kernel
theorem d_Blocks_add_31 : decode b_Blocks_add 31 = .ok (.aload_n 0, 1) := by decide +kernel
theorem d_Blocks_add_32 : decode b_Blocks_add 32 = .ok (.getfield 18, 3) := by decide +kernel
theorem d_Blocks_add_35 : decode b_Blocks_add 35 = .ok (.aload_n 0, 1) := by decide +kernel
theorem d_Blocks_add_36 : decode b_Blocks_add 36 = .ok (.getfield 25, 3) := by decide +kernel
theorem d_Blocks_add_39 : decode b_Blocks_add 39 = .ok (.iload_n 3, 1) := by decide +kernel
theorem d_Blocks_add_40 : decode b_Blocks_add 40 = .ok (.iastore, 1) := by decide +kernel
theorem d_Blocks_add_41 : decode b_Blocks_add 41 = .ok (.aload_n 0, 1) := by decide +kernel
theorem d_Blocks_add_42 : decode b_Blocks_add 42 = .ok (.dup, 1) := by decide +kernel
theorem d_Blocks_add_43 : decode b_Blocks_add 43 = .ok (.getfield 25, 3) := by decide +kernel
theorem d_Blocks_add_46 : decode b_Blocks_add 46 = .ok (.iconst 1, 1) := by decide +kernel
theorem d_Blocks_add_47 : decode b_Blocks_add 47 = .ok (.iadd, 1) := by decide +kernel
theorem d_Blocks_add_48 : decode b_Blocks_add 48 = .ok (.putfield 25, 3) := by decide +kernel
theorem d_Blocks_add_51 : decode b_Blocks_add 51 = .ok (.aload_n 0, 1) := by decide +kernel
theorem d_Blocks_add_52 : decode b_Blocks_add 52 = .ok (.getfield 25, 3) := by decide +kernel
theorem d_Blocks_add_55 : decode b_Blocks_add 55 = .ok (.iconst 1, 1) := by decide +kernel
theorem d_Blocks_add_56 : decode b_Blocks_add 56 = .ok (.isub, 1) := by decide +kernel
theorem d_Blocks_add_57 : decode b_Blocks_add 57 = .ok (.ireturn, 1) := by decide +kernel
def f_Blocks_add (a1 : Int32) (a2 : Int32) (a3 : Int32) (S : St) : Int32 × St :=
  if (S.1 19 0 0 4) < (100 : Int32) then
    lt (si S 20 0 0 ((S.1 19 0 0 4).toNatClampNeg) a1) fun (S3 : St) =>
    lt (si S3 21 0 0 ((S3.1 19 0 0 4).toNatClampNeg) a2) fun (S5 : St) =>
    lt (si S5 22 0 0 ((S5.1 19 0 0 4).toNatClampNeg) a3) fun (S7 : St) =>
    lt (si S7 19 0 0 4 ((S7.1 19 0 0 4) + (1 : Int32))) fun (S8 : St) =>
    ((S8.1 19 0 0 4) - (1 : Int32), S8)
  else
    ((-1 : Int32), S)
def ok_Blocks_add (a1 : Int32) (a2 : Int32) (a3 : Int32) (S : St) : Prop :=
  ((S.1 19 0 0 4) < (100 : Int32) → (
    (vp_in (S.1 19 0 0 4) 100) ∧ (
      lt (si S 20 0 0 ((S.1 19 0 0 4).toNatClampNeg) a1) fun (S3 : St) =>
      (vp_in (S3.1 19 0 0 4) 100) ∧ (
        lt (si S3 21 0 0 ((S3.1 19 0 0 4).toNatClampNeg) a2) fun (S5 : St) =>
        (vp_in (S5.1 19 0 0 4) 100) ∧ (
          True))))) ∧ (¬ ((S.1 19 0 0 4) < (100 : Int32)) → (
    True))
set_option maxHeartbeats 4000000 in
set_option maxRecDepth 100000 in
theorem c_Blocks_add (l : Launch) (D : va_G) (X : va_W) (ad : N3 → Nat) (ca : Nat → ClassId) (a1 : Int32) (a2 : Int32) (a3 : Int32)  (S : St) (hk : ok_Blocks_add a1 a2 a3 S) : cI l GG D clQ (tysQ ca) nwQ X ad TQ (cfQ ad ca) y_Blocks_add b_Blocks_add 4 .int 0 0 [.ref (ad (19, 0, 0)), .int a1, .int a2, .int a3] S (f_Blocks_add a1 a2 a3 S) := by
  generalize hr : f_Blocks_add a1 a2 a3 S = res
  refine zI_of pn_Blocks (Nat.le_of_ble_eq_true rfl) (fun p e s m below meth c A ls hy hW hA hl => ?_)
  have hF := hy.1
  have hx := hF.1
  have hb := hF.2.1
  have hK := hy.2.2.2
  have hl : lv_has ls 4 [(0, .ref (ad (19, 0, 0))), (1, .int a1), (2, .int a2), (3, .int a3)] := hl
  refine lv_aload_n (pc := 0) hx hb d_Blocks_add_0 rfl (lv_at hl 0 rfl) ?_
  refine z_get (pc := 1) (v := .int (S.1 19 0 0 4)) hF hK.1 hW tq19 rfl rfl in_Blocks 4 (by decide) gw_92 rfl rfl d_Blocks_add_1 ?_
  refine lv_bipush (pc := 4) (v := 100) hx hb d_Blocks_add_4 (by decide) ?_
  refine lv_icmp_lt (pc := 6) (tgt := 11) hx hb d_Blocks_add_6 (by decide) (fun c1 => ?_) (fun c1 => ?_)
  · have hk := hk.1 c1
    have hr := (if_pos c1).symm.trans hr
    refine lv_aload_n (pc := 11) hx hb d_Blocks_add_11 rfl (lv_at hl 0 rfl) ?_
    refine z_get (pc := 12) (v := .ref (ad (20, 0, 0))) hF hK.1 hW tq19 rfl rfl in_Blocks 0 (by decide) gw_88 rfl rfl d_Blocks_add_12 ?_
    refine lv_aload_n (pc := 15) hx hb d_Blocks_add_15 rfl (lv_at hl 0 rfl) ?_
    refine z_get (pc := 16) (v := .int (S.1 19 0 0 4)) hF hK.1 hW tq19 rfl rfl in_Blocks 4 (by decide) gw_92 rfl rfl d_Blocks_add_16 ?_
    refine lv_iload_n (pc := 19) hx hb d_Blocks_add_19 rfl (lv_at hl 1 rfl) ?_
    have b2 := hk.1
    have hk := hk.2
    obtain ⟨S3, eS3⟩ : ∃ z : St, z = si S 20 0 0 ((S.1 19 0 0 4).toNatClampNeg) a1 := ⟨_, rfl⟩
    have hk := lt_p eS3 hk
    have hr := lt_e eS3 hr
    refine z_iast (pc := 20) (S' := S3) hF hK.1 hW tq20 0 rfl rfl b2 (zs_si eS3 rfl) (zs_sio eS3) d_Blocks_add_20 (fun H locs (hW : Wd D clQ A s.heap (zw X ad TQ (cfQ ad ca) S3) H locs) => ?_)
    refine lv_aload_n (pc := 21) hx hb d_Blocks_add_21 rfl (lv_at hl 0 rfl) ?_
    refine z_get (pc := 22) (v := .ref (ad (21, 0, 0))) hF hK.1 hW tq19 rfl rfl in_Blocks 1 (by decide) gw_89 rfl rfl d_Blocks_add_22 ?_
    refine lv_aload_n (pc := 25) hx hb d_Blocks_add_25 rfl (lv_at hl 0 rfl) ?_
    refine z_get (pc := 26) (v := .int (S3.1 19 0 0 4)) hF hK.1 hW tq19 rfl rfl in_Blocks 4 (by decide) gw_92 rfl rfl d_Blocks_add_26 ?_
    refine lv_iload_n (pc := 29) hx hb d_Blocks_add_29 rfl (lv_at hl 2 rfl) ?_
    have b4 := hk.1
    have hk := hk.2
    obtain ⟨S5, eS5⟩ : ∃ z : St, z = si S3 21 0 0 ((S3.1 19 0 0 4).toNatClampNeg) a2 := ⟨_, rfl⟩
    have hk := lt_p eS5 hk
    have hr := lt_e eS5 hr
    refine z_iast (pc := 30) (S' := S5) hF hK.1 hW tq21 0 rfl rfl b4 (zs_si eS5 rfl) (zs_sio eS5) d_Blocks_add_30 (fun H locs (hW : Wd D clQ A s.heap (zw X ad TQ (cfQ ad ca) S5) H locs) => ?_)
    refine lv_aload_n (pc := 31) hx hb d_Blocks_add_31 rfl (lv_at hl 0 rfl) ?_
    refine z_get (pc := 32) (v := .ref (ad (22, 0, 0))) hF hK.1 hW tq19 rfl rfl in_Blocks 2 (by decide) gw_90 rfl rfl d_Blocks_add_32 ?_
    refine lv_aload_n (pc := 35) hx hb d_Blocks_add_35 rfl (lv_at hl 0 rfl) ?_
    refine z_get (pc := 36) (v := .int (S5.1 19 0 0 4)) hF hK.1 hW tq19 rfl rfl in_Blocks 4 (by decide) gw_92 rfl rfl d_Blocks_add_36 ?_
    refine lv_iload_n (pc := 39) hx hb d_Blocks_add_39 rfl (lv_at hl 3 rfl) ?_
    have b6 := hk.1
    have hk := hk.2
    obtain ⟨S7, eS7⟩ : ∃ z : St, z = si S5 22 0 0 ((S5.1 19 0 0 4).toNatClampNeg) a3 := ⟨_, rfl⟩
    have hr := lt_e eS7 hr
    refine z_iast (pc := 40) (S' := S7) hF hK.1 hW tq22 0 rfl rfl b6 (zs_si eS7 rfl) (zs_sio eS7) d_Blocks_add_40 (fun H locs (hW : Wd D clQ A s.heap (zw X ad TQ (cfQ ad ca) S7) H locs) => ?_)
    refine lv_aload_n (pc := 41) hx hb d_Blocks_add_41 rfl (lv_at hl 0 rfl) ?_
    refine lv_dup (pc := 42) hx hb d_Blocks_add_42 rfl ?_
    refine z_get (pc := 43) (v := .int (S7.1 19 0 0 4)) hF hK.1 hW tq19 rfl rfl in_Blocks 4 (by decide) gw_92 rfl rfl d_Blocks_add_43 ?_
    refine lv_iconst (pc := 46) (v := 1) hx hb d_Blocks_add_46 (by decide) ?_
    refine lv_iadd (pc := 47) hx hb d_Blocks_add_47 ?_
    obtain ⟨S8, eS8⟩ : ∃ z : St, z = si S7 19 0 0 4 ((S7.1 19 0 0 4) + (1 : Int32)) := ⟨_, rfl⟩
    have hr := lt_e eS8 hr
    refine z_put (pc := 48) (S' := S8) hF hK.1 hW tq19 rfl rfl in_Blocks t_Blocks tyo_Blocks nmo_Blocks 4 (by decide) gw_92 rfl rfl rfl rfl rfl (Nat.le_of_ble_eq_true rfl) (zs_si eS8 rfl) (zs_sio eS8) d_Blocks_add_48 (fun H locs (hW : Wd D clQ A s.heap (zw X ad TQ (cfQ ad ca) S8) H locs) => ?_)
    refine lv_aload_n (pc := 51) hx hb d_Blocks_add_51 rfl (lv_at hl 0 rfl) ?_
    refine z_get (pc := 52) (v := .int (S8.1 19 0 0 4)) hF hK.1 hW tq19 rfl rfl in_Blocks 4 (by decide) gw_92 rfl rfl d_Blocks_add_52 ?_
    refine lv_iconst (pc := 55) (v := 1) hx hb d_Blocks_add_55 (by decide) ?_
    refine lv_isub (pc := 56) hx hb d_Blocks_add_56 ?_
    exact z_iret (v := (S8.1 19 0 0 4) - (1 : Int32)) hy hW hr.symm d_Blocks_add_57
  · have hk := hk.2 c1
    have hr := (if_neg c1).symm.trans hr
    refine lv_iconst (pc := 9) (v := -1) hx hb d_Blocks_add_9 (by decide) ?_
    exact z_iret (v := (-1 : Int32)) hy hW hr.symm d_Blocks_add_10
theorem d_QC_propose_0 : decode b_QC_propose 0 = .ok (.aload_n 0, 1) := by decide +kernel
theorem d_QC_propose_1 : decode b_QC_propose 1 = .ok (.getfield 18, 3) := by decide +kernel
theorem d_QC_propose_4 : decode b_QC_propose 4 = .ok (.getfield 206, 3) := by decide +kernel
theorem d_QC_propose_7 : decode b_QC_propose 7 = .ok (.bipush 100, 2) := by decide +kernel
theorem d_QC_propose_9 : decode b_QC_propose 9 = .ok (.if_icmp .lt 4, 3) := by decide +kernel
theorem d_QC_propose_12 : decode b_QC_propose 12 = .ok (.return_, 1) := by decide +kernel
theorem d_QC_propose_13 : decode b_QC_propose 13 = .ok (.aload_n 0, 1) := by decide +kernel
theorem d_QC_propose_14 : decode b_QC_propose 14 = .ok (.getfield 18, 3) := by decide +kernel
theorem d_QC_propose_17 : decode b_QC_propose 17 = .ok (.aload_n 1, 1) := by decide +kernel
theorem d_QC_propose_18 : decode b_QC_propose 18 = .ok (.getfield 88, 3) := by decide +kernel
theorem d_QC_propose_21 : decode b_QC_propose 21 = .ok (.aload_n 1, 1) := by decide +kernel
theorem d_QC_propose_22 : decode b_QC_propose 22 = .ok (.getfield 248, 3) := by decide +kernel
theorem d_QC_propose_25 : decode b_QC_propose 25 = .ok (.aload_n 0, 1) := by decide +kernel
theorem d_QC_propose_26 : decode b_QC_propose 26 = .ok (.aload_n 1, 1) := by decide +kernel
theorem d_QC_propose_27 : decode b_QC_propose 27 = .ok (.invokevirtual 358, 3) := by decide +kernel
theorem d_QC_propose_30 : decode b_QC_propose 30 = .ok (.invokevirtual 209, 3) := by decide +kernel
theorem d_QC_propose_33 : decode b_QC_propose 33 = .ok (.istore_n 2, 1) := by decide +kernel
theorem d_QC_propose_34 : decode b_QC_propose 34 = .ok (.aload_n 1, 1) := by decide +kernel
theorem d_QC_propose_35 : decode b_QC_propose 35 = .ok (.getfield 179, 3) := by decide +kernel
theorem d_QC_propose_38 : decode b_QC_propose 38 = .ok (.iload_n 2, 1) := by decide +kernel
theorem d_QC_propose_39 : decode b_QC_propose 39 = .ok (.invokevirtual 212, 3) := by decide +kernel
theorem d_QC_propose_42 : decode b_QC_propose 42 = .ok (.aload_n 0, 1) := by decide +kernel
theorem d_QC_propose_43 : decode b_QC_propose 43 = .ok (.aload_n 1, 1) := by decide +kernel
theorem d_QC_propose_44 : decode b_QC_propose 44 = .ok (.iconst 1, 1) := by decide +kernel
theorem d_QC_propose_45 : decode b_QC_propose 45 = .ok (.iload_n 2, 1) := by decide +kernel
theorem d_QC_propose_46 : decode b_QC_propose 46 = .ok (.iconst 0, 1) := by decide +kernel
theorem d_QC_propose_47 : decode b_QC_propose 47 = .ok (.invokevirtual 216, 3) := by decide +kernel
theorem d_QC_propose_50 : decode b_QC_propose 50 = .ok (.ifCond .eq 7, 3) := by decide +kernel
theorem d_QC_propose_53 : decode b_QC_propose 53 = .ok (.aload_n 0, 1) := by decide +kernel
theorem d_QC_propose_54 : decode b_QC_propose 54 = .ok (.invokevirtual 362, 3) := by decide +kernel
theorem d_QC_propose_57 : decode b_QC_propose 57 = .ok (.return_, 1) := by decide +kernel
def f_QC_propose (i1 : Nat) (S : St) : St :=
  if (S.1 19 0 0 4) < (100 : Int32) then
    lt (f_QC_firstNewTransaction i1 S) fun (r3 : Int32) =>
    lt (f_Blocks_add (S.1 3 i1 0 8) (S.1 3 i1 0 11) r3 S) fun (r5 : Int32 × St) =>
    lt (f_Store_keepBlock i1 r5.1 r5.2) fun (S8 : St) =>
    lt (f_QC_writeSigned i1 (1 : Int32) r5.1 (0 : Int32) S8) fun (r10 : Int32 × St) =>
    if r10.1 = 0 then
      r10.2
    else
      lt (f_QC_sendDraftToAll r10.2) fun (S14 : St) =>
      S14
  else
    S
def ok_QC_propose (i1 : Nat) (S : St) : Prop :=
  ((S.1 19 0 0 4) < (100 : Int32) → (
    (ok_QC_firstNewTransaction i1 S) ∧ (
      lt (f_QC_firstNewTransaction i1 S) fun (r3 : Int32) =>
      (ok_Blocks_add (S.1 3 i1 0 8) (S.1 3 i1 0 11) r3 S) ∧ (
        lt (f_Blocks_add (S.1 3 i1 0 8) (S.1 3 i1 0 11) r3 S) fun (r5 : Int32 × St) =>
        (ok_Store_keepBlock i1 r5.1 r5.2) ∧ (
          lt (f_Store_keepBlock i1 r5.1 r5.2) fun (S8 : St) =>
          (ok_QC_writeSigned i1 (1 : Int32) r5.1 (0 : Int32) S8) ∧ (
            lt (f_QC_writeSigned i1 (1 : Int32) r5.1 (0 : Int32) S8) fun (r10 : Int32 × St) =>
            (r10.1 = 0 → (
              True)) ∧ (¬ (r10.1 = 0) → (
              (ok_QC_sendDraftToAll r10.2) ∧ (
                True))))))))) ∧ (¬ ((S.1 19 0 0 4) < (100 : Int32)) → (
    True))
set_option maxHeartbeats 4000000 in
set_option maxRecDepth 100000 in
theorem c_QC_propose (l : Launch) (D : va_G) (X : va_W) (ad : N3 → Nat) (ca : Nat → ClassId) (i1 : Nat) (h1 : i1 < 4) (S : St) (hk : ok_QC_propose i1 S) : cV l GG D clQ (tysQ ca) nwQ X ad TQ (cfQ ad ca) y_QC_propose b_QC_propose 3 4 143 [.ref (ad (1, 0, 0)), .ref (ad (3, i1, 0))] S (f_QC_propose i1 S) := by
  generalize hr : f_QC_propose i1 S = res
  refine zV_of pn_QC (Nat.le_of_ble_eq_true rfl) (fun p e s m below meth c A ls hy hW hA hl => ?_)
  have hF := hy.1
  have hx := hF.1
  have hb := hF.2.1
  have hK := hy.2.2.2
  have hl : lv_has ls 3 [(0, .ref (ad (1, 0, 0))), (1, .ref (ad (3, i1, 0)))] := hl
  refine lv_aload_n (pc := 0) hx hb d_QC_propose_0 rfl (lv_at hl 0 rfl) ?_
  refine z_get (pc := 1) (v := .ref (ad (19, 0, 0))) hF hK.1 hW tq1 rfl rfl in_QC 1 (by decide) gw_345 rfl rfl d_QC_propose_1 ?_
  refine z_get (pc := 4) (v := .int (S.1 19 0 0 4)) hF hK.1 hW tq19 rfl rfl in_Blocks 4 (by decide) gw_93 rfl rfl d_QC_propose_4 ?_
  refine lv_bipush (pc := 7) (v := 100) hx hb d_QC_propose_7 (by decide) ?_
  refine lv_icmp_lt (pc := 9) (tgt := 13) hx hb d_QC_propose_9 (by decide) (fun c1 => ?_) (fun c1 => ?_)
  · have hk := hk.1 c1
    have hr := (if_pos c1).symm.trans hr
    refine lv_aload_n (pc := 13) hx hb d_QC_propose_13 rfl (lv_at hl 0 rfl) ?_
    refine z_get (pc := 14) (v := .ref (ad (19, 0, 0))) hF hK.1 hW tq1 rfl rfl in_QC 1 (by decide) gw_345 rfl rfl d_QC_propose_14 ?_
    refine lv_aload_n (pc := 17) hx hb d_QC_propose_17 rfl (lv_at hl 1 rfl) ?_
    refine z_get (pc := 18) (v := .int (S.1 3 i1 0 8)) hF hK.1 hW (tq3 h1) rfl rfl in_Node 8 (by decide) gw_312 rfl rfl d_QC_propose_18 ?_
    refine lv_aload_n (pc := 21) hx hb d_QC_propose_21 rfl (lv_at hl 1 rfl) ?_
    refine z_get (pc := 22) (v := .int (S.1 3 i1 0 11)) hF hK.1 hW (tq3 h1) rfl rfl in_Node 11 (by decide) gw_318 rfl rfl d_QC_propose_22 ?_
    refine lv_aload_n (pc := 25) hx hb d_QC_propose_25 rfl (lv_at hl 0 rfl) ?_
    refine lv_aload_n (pc := 26) hx hb d_QC_propose_26 rfl (lv_at hl 1 rfl) ?_
    have o2 := hk.1
    have hk := hk.2
    obtain ⟨r3, er3⟩ : ∃ z : Int32, z = f_QC_firstNewTransaction i1 S := ⟨_, rfl⟩
    have hk := lt_p er3 hk
    have hr := lt_e er3 hr
    refine p_go (pc := 27) (congrArg Value.int er3) (p_runV hF hK hW (c_QC_firstNewTransaction l D X ad ca i1 h1 S o2 _) cd_QC_firstNewTransaction gw_626 tq1 rfl rfl ⟨Nat.le_of_ble_eq_true rfl, Nat.le_of_ble_eq_true rfl⟩ ⟨Nat.zero_le _, Nat.zero_le _⟩ rfl rfl hl.1 (Nat.le_of_ble_eq_true rfl) d_QC_propose_27) ?_
    have o4 := hk.1
    have hk := hk.2
    obtain ⟨r5, er5⟩ : ∃ z : Int32 × St, z = f_Blocks_add (S.1 3 i1 0 8) (S.1 3 i1 0 11) r3 S := ⟨_, rfl⟩
    have hk := lt_p er5 hk
    have hr := lt_e er5 hr
    refine z_goI (pc := 30) hW hA (show (r5.1, r5.2) = _ from er5) (z_runV hF hK hW (c_Blocks_add l D X ad ca (S.1 3 i1 0 8) (S.1 3 i1 0 11) r3 S o4 _) cd_Blocks_add gw_636 tq19 rfl rfl ⟨Nat.le_of_ble_eq_true rfl, Nat.le_of_ble_eq_true rfl⟩ ⟨Nat.zero_le _, Nat.zero_le _⟩ rfl rfl hl.1 (Nat.le_of_ble_eq_true rfl) d_QC_propose_30) (fun H locs (hW : Wd D clQ A s.heap (zw X ad TQ (cfQ ad ca) r5.2) H locs) => ?_)
    refine lv_istore_n (pc := 33) (lv' := [(2, .int r5.1), (0, .ref (ad (1, 0, 0))), (1, .ref (ad (3, i1, 0)))]) hx hb d_QC_propose_33 rfl hl (by decide) rfl (fun ls hl => ?_)
    refine lv_aload_n (pc := 34) hx hb d_QC_propose_34 rfl (lv_at hl 2 rfl) ?_
    refine z_get (pc := 35) (v := .ref (ad (4, i1, 0))) hF hK.1 hW (tq3 h1) rfl rfl in_Node 1 (by decide) gw_298 rfl rfl d_QC_propose_35 ?_
    refine lv_iload_n (pc := 38) hx hb d_QC_propose_38 rfl (lv_at hl 0 rfl) ?_
    have o6 := hk.1
    have hk := hk.2
    obtain ⟨S8, eS8⟩ : ∃ z : St, z = f_Store_keepBlock i1 r5.1 r5.2 := ⟨_, rfl⟩
    have hk := lt_p eS8 hk
    have hr := lt_e eS8 hr
    refine z_goV (pc := 39) hW hA eS8 (z_runV hF hK hW (c_Store_keepBlock l D X ad ca i1 r5.1 h1 r5.2 o6 _) cd_Store_keepBlock gw_640 (tq4 h1) rfl rfl ⟨Nat.le_of_ble_eq_true rfl, Nat.le_of_ble_eq_true rfl⟩ ⟨Nat.zero_le _, Nat.zero_le _⟩ rfl rfl hl.1 (Nat.le_of_ble_eq_true rfl) d_QC_propose_39) (fun H locs (hW : Wd D clQ A s.heap (zw X ad TQ (cfQ ad ca) S8) H locs) => ?_)
    refine lv_aload_n (pc := 42) hx hb d_QC_propose_42 rfl (lv_at hl 1 rfl) ?_
    refine lv_aload_n (pc := 43) hx hb d_QC_propose_43 rfl (lv_at hl 2 rfl) ?_
    refine lv_iconst (pc := 44) (v := 1) hx hb d_QC_propose_44 (by decide) ?_
    refine lv_iload_n (pc := 45) hx hb d_QC_propose_45 rfl (lv_at hl 0 rfl) ?_
    refine lv_iconst (pc := 46) (v := 0) hx hb d_QC_propose_46 (by decide) ?_
    have o9 := hk.1
    have hk := hk.2
    obtain ⟨r10, er10⟩ : ∃ z : Int32 × St, z = f_QC_writeSigned i1 (1 : Int32) r5.1 (0 : Int32) S8 := ⟨_, rfl⟩
    have hk := lt_p er10 hk
    have hr := lt_e er10 hr
    refine z_goI (pc := 47) hW hA (show (r10.1, r10.2) = _ from er10) (z_runV hF hK hW (c_QC_writeSigned l D X ad ca i1 (1 : Int32) r5.1 (0 : Int32) h1 S8 o9 _) cd_QC_writeSigned gw_377 tq1 rfl rfl ⟨Nat.le_of_ble_eq_true rfl, Nat.le_of_ble_eq_true rfl⟩ ⟨Nat.zero_le _, Nat.zero_le _⟩ rfl rfl hl.1 (Nat.le_of_ble_eq_true rfl) d_QC_propose_47) (fun H locs (hW : Wd D clQ A s.heap (zw X ad TQ (cfQ ad ca) r10.2) H locs) => ?_)
    refine lv_if_eq (pc := 50) (tgt := 57) hx hb d_QC_propose_50 (by decide) (fun c11 => ?_) (fun c11 => ?_)
    · have hk := hk.1 c11
      have hr := (if_pos c11).symm.trans hr
      exact z_vret hy hW hr.symm d_QC_propose_57
    · have hk := hk.2 c11
      have hr := (if_neg c11).symm.trans hr
      refine lv_aload_n (pc := 53) hx hb d_QC_propose_53 rfl (lv_at hl 1 rfl) ?_
      have o12 := hk.1
      have hk := hk.2
      obtain ⟨S14, eS14⟩ : ∃ z : St, z = f_QC_sendDraftToAll r10.2 := ⟨_, rfl⟩
      have hr := lt_e eS14 hr
      refine z_goV (pc := 54) hW hA eS14 (z_runV hF hK hW (c_QC_sendDraftToAll l D X ad ca r10.2 o12 _) cd_QC_sendDraftToAll gw_407 tq1 rfl rfl ⟨Nat.le_of_ble_eq_true rfl, Nat.le_of_ble_eq_true rfl⟩ ⟨Nat.zero_le _, Nat.zero_le _⟩ rfl rfl hl.1 (Nat.le_of_ble_eq_true rfl) d_QC_propose_54) (fun H locs (hW : Wd D clQ A s.heap (zw X ad TQ (cfQ ad ca) S14) H locs) => ?_)
      exact z_vret hy hW hr.symm d_QC_propose_57
  · have hk := hk.2 c1
    have hr := (if_neg c1).symm.trans hr
    exact z_vret hy hW hr.symm d_QC_propose_12
theorem d_QC_receiveVote_0 : decode b_QC_receiveVote 0 = .ok (.aload_n 0, 1) := by decide +kernel
theorem d_QC_receiveVote_1 : decode b_QC_receiveVote 1 = .ok (.getfield 18, 3) := by decide +kernel
theorem d_QC_receiveVote_4 : decode b_QC_receiveVote 4 = .ok (.iload_n 3, 1) := by decide +kernel
theorem d_QC_receiveVote_5 : decode b_QC_receiveVote 5 = .ok (.invokevirtual 203, 3) := by decide +kernel
theorem d_QC_receiveVote_8 : decode b_QC_receiveVote 8 = .ok (.iconst 1, 1) := by decide +kernel
theorem d_QC_receiveVote_9 : decode b_QC_receiveVote 9 = .ok (.iadd, 1) := by decide +kernel
theorem d_QC_receiveVote_10 : decode b_QC_receiveVote 10 = .ok (.istore 4, 2) := by decide +kernel
theorem d_QC_receiveVote_12 : decode b_QC_receiveVote 12 = .ok (.aload_n 1, 1) := by decide +kernel
theorem d_QC_receiveVote_13 : decode b_QC_receiveVote 13 = .ok (.getfield 179, 3) := by decide +kernel
theorem d_QC_receiveVote_16 : decode b_QC_receiveVote 16 = .ok (.iload_n 3, 1) := by decide +kernel
theorem d_QC_receiveVote_17 : decode b_QC_receiveVote 17 = .ok (.invokevirtual 195, 3) := by decide +kernel
theorem d_QC_receiveVote_20 : decode b_QC_receiveVote 20 = .ok (.ifCond .eq 15, 3) := by decide +kernel
theorem d_QC_receiveVote_23 : decode b_QC_receiveVote 23 = .ok (.iload 4, 2) := by decide +kernel
theorem d_QC_receiveVote_25 : decode b_QC_receiveVote 25 = .ok (.invokestatic 173, 3) := by decide +kernel
theorem d_QC_receiveVote_28 : decode b_QC_receiveVote 28 = .ok (.aload_n 1, 1) := by decide +kernel
theorem d_QC_receiveVote_29 : decode b_QC_receiveVote 29 = .ok (.getfield 339, 3) := by decide +kernel
theorem d_QC_receiveVote_32 : decode b_QC_receiveVote 32 = .ok (.if_icmp .eq 4, 3) := by decide +kernel
theorem d_QC_receiveVote_35 : decode b_QC_receiveVote 35 = .ok (.return_, 1) := by decide +kernel
theorem d_QC_receiveVote_36 : decode b_QC_receiveVote 36 = .ok (.aload_n 1, 1) := by decide +kernel
theorem d_QC_receiveVote_37 : decode b_QC_receiveVote 37 = .ok (.getfield 342, 3) := by decide +kernel
theorem d_QC_receiveVote_40 : decode b_QC_receiveVote 40 = .ok (.iload_n 3, 1) := by decide +kernel
theorem d_QC_receiveVote_41 : decode b_QC_receiveVote 41 = .ok (.iload_n 2, 1) := by decide +kernel
theorem d_QC_receiveVote_42 : decode b_QC_receiveVote 42 = .ok (.invokevirtual 346, 3) := by decide +kernel
theorem d_QC_receiveVote_45 : decode b_QC_receiveVote 45 = .ok (.iconst 3, 1) := by decide +kernel
theorem d_QC_receiveVote_46 : decode b_QC_receiveVote 46 = .ok (.if_icmp .eq 4, 3) := by decide +kernel
theorem d_QC_receiveVote_49 : decode b_QC_receiveVote 49 = .ok (.return_, 1) := by decide +kernel
theorem d_QC_receiveVote_50 : decode b_QC_receiveVote 50 = .ok (.aload_n 0, 1) := by decide +kernel
theorem d_QC_receiveVote_51 : decode b_QC_receiveVote 51 = .ok (.getfield 18, 3) := by decide +kernel
theorem d_QC_receiveVote_54 : decode b_QC_receiveVote 54 = .ok (.iload_n 3, 1) := by decide +kernel
theorem d_QC_receiveVote_55 : decode b_QC_receiveVote 55 = .ok (.invokevirtual 352, 3) := by decide +kernel
theorem d_QC_receiveVote_58 : decode b_QC_receiveVote 58 = .ok (.iload 4, 2) := by decide +kernel
theorem d_QC_receiveVote_60 : decode b_QC_receiveVote 60 = .ok (.aload_n 1, 1) := by decide +kernel
theorem d_QC_receiveVote_61 : decode b_QC_receiveVote 61 = .ok (.getfield 88, 3) := by decide +kernel
theorem d_QC_receiveVote_64 : decode b_QC_receiveVote 64 = .ok (.if_icmp .lt 34, 3) := by decide +kernel
theorem d_QC_receiveVote_67 : decode b_QC_receiveVote 67 = .ok (.aload_n 0, 1) := by decide +kernel
theorem d_QC_receiveVote_68 : decode b_QC_receiveVote 68 = .ok (.getfield 18, 3) := by decide +kernel
theorem d_QC_receiveVote_71 : decode b_QC_receiveVote 71 = .ok (.iload_n 3, 1) := by decide +kernel
theorem d_QC_receiveVote_72 : decode b_QC_receiveVote 72 = .ok (.aload_n 1, 1) := by decide +kernel
theorem d_QC_receiveVote_73 : decode b_QC_receiveVote 73 = .ok (.getfield 248, 3) := by decide +kernel
theorem d_QC_receiveVote_76 : decode b_QC_receiveVote 76 = .ok (.invokevirtual 302, 3) := by decide +kernel
theorem d_QC_receiveVote_79 : decode b_QC_receiveVote 79 = .ok (.ifCond .eq 19, 3) := by decide +kernel
theorem d_QC_receiveVote_82 : decode b_QC_receiveVote 82 = .ok (.aload_n 1, 1) := by decide +kernel
theorem d_QC_receiveVote_83 : decode b_QC_receiveVote 83 = .ok (.iload_n 3, 1) := by decide +kernel
theorem d_QC_receiveVote_84 : decode b_QC_receiveVote 84 = .ok (.putfield 248, 3) := by decide +kernel
theorem d_QC_receiveVote_87 : decode b_QC_receiveVote 87 = .ok (.aload_n 1, 1) := by decide +kernel
theorem d_QC_receiveVote_88 : decode b_QC_receiveVote 88 = .ok (.iload 4, 2) := by decide +kernel
theorem d_QC_receiveVote_90 : decode b_QC_receiveVote 90 = .ok (.invokevirtual 336, 3) := by decide +kernel
theorem d_QC_receiveVote_93 : decode b_QC_receiveVote 93 = .ok (.aload_n 0, 1) := by decide +kernel
theorem d_QC_receiveVote_94 : decode b_QC_receiveVote 94 = .ok (.aload_n 1, 1) := by decide +kernel
theorem d_QC_receiveVote_95 : decode b_QC_receiveVote 95 = .ok (.invokevirtual 93, 3) := by decide +kernel
theorem d_QC_receiveVote_98 : decode b_QC_receiveVote 98 = .ok (.return_, 1) := by decide +kernel
def f_QC_receiveVote (i1 : Nat) (a2 : Int32) (a3 : Int32) (S : St) : St :=
  lt (f_Blocks_viewOf a3 S) fun (r2 : Int32) =>
  lt (f_Store_hasBlock i1 a3 S) fun (r4 : Int32) =>
  if r4 = 0 then
    S
  else
    lt (f_QC_leaderOf (r2 + (1 : Int32)) S) fun (r6 : Int32) =>
    if r6 = (S.1 3 i1 0 0) then
      lt (f_Tally_keep i1 0 a3 a2 S) fun (r9 : Int32 × St) =>
      if r9.1 = (3 : Int32) then
        lt (f_Blocks_certify a3 r9.2) fun (S13 : St) =>
        if (r2 + (1 : Int32)) < (S13.1 3 i1 0 8) then
          S13
        else
          lt (f_Blocks_isAbove a3 (S13.1 3 i1 0 11) S13) fun (r16 : Int32) =>
          if r16 = 0 then
            S13
          else
            lt (si S13 3 i1 0 11 a3) fun (S18 : St) =>
            lt (f_Node_enter i1 (r2 + (1 : Int32)) S18) fun (S20 : St) =>
            lt (f_QC_propose i1 S20) fun (S23 : St) =>
            S23
      else
        r9.2
    else
      S
def ok_QC_receiveVote (i1 : Nat) (a2 : Int32) (a3 : Int32) (S : St) : Prop :=
  (ok_Blocks_viewOf a3 S) ∧ (
    lt (f_Blocks_viewOf a3 S) fun (r2 : Int32) =>
    (ok_Store_hasBlock i1 a3 S) ∧ (
      lt (f_Store_hasBlock i1 a3 S) fun (r4 : Int32) =>
      (r4 = 0 → (
        True)) ∧ (¬ (r4 = 0) → (
        lt (f_QC_leaderOf (r2 + (1 : Int32)) S) fun (r6 : Int32) =>
        (r6 = (S.1 3 i1 0 0) → (
          (ok_Tally_keep i1 0 a3 a2 S) ∧ (
            lt (f_Tally_keep i1 0 a3 a2 S) fun (r9 : Int32 × St) =>
            (r9.1 = (3 : Int32) → (
              (ok_Blocks_certify a3 r9.2) ∧ (
                lt (f_Blocks_certify a3 r9.2) fun (S13 : St) =>
                ((r2 + (1 : Int32)) < (S13.1 3 i1 0 8) → (
                  True)) ∧ (¬ ((r2 + (1 : Int32)) < (S13.1 3 i1 0 8)) → (
                  (ok_Blocks_isAbove a3 (S13.1 3 i1 0 11) S13) ∧ (
                    lt (f_Blocks_isAbove a3 (S13.1 3 i1 0 11) S13) fun (r16 : Int32) =>
                    (r16 = 0 → (
                      True)) ∧ (¬ (r16 = 0) → (
                      lt (si S13 3 i1 0 11 a3) fun (S18 : St) =>
                      lt (f_Node_enter i1 (r2 + (1 : Int32)) S18) fun (S20 : St) =>
                      (ok_QC_propose i1 S20) ∧ (
                        True))))))))) ∧ (¬ (r9.1 = (3 : Int32)) → (
              True))))) ∧ (¬ (r6 = (S.1 3 i1 0 0)) → (
          True))))))
set_option maxHeartbeats 4000000 in
set_option maxRecDepth 100000 in
theorem c_QC_receiveVote (l : Launch) (D : va_G) (X : va_W) (ad : N3 → Nat) (ca : Nat → ClassId) (i1 : Nat) (a2 : Int32) (a3 : Int32) (h1 : i1 < 4) (S : St) (hk : ok_QC_receiveVote i1 a2 a3 S) : cV l GG D clQ (tysQ ca) nwQ X ad TQ (cfQ ad ca) y_QC_receiveVote b_QC_receiveVote 5 5 165 [.ref (ad (1, 0, 0)), .ref (ad (3, i1, 0)), .int a2, .int a3] S (f_QC_receiveVote i1 a2 a3 S) := by
  generalize hr : f_QC_receiveVote i1 a2 a3 S = res
  refine zV_of pn_QC (Nat.le_of_ble_eq_true rfl) (fun p e s m below meth c A ls hy hW hA hl => ?_)
  have hF := hy.1
  have hx := hF.1
  have hb := hF.2.1
  have hK := hy.2.2.2
  have hl : lv_has ls 5 [(0, .ref (ad (1, 0, 0))), (1, .ref (ad (3, i1, 0))), (2, .int a2), (3, .int a3)] := hl
  refine lv_aload_n (pc := 0) hx hb d_QC_receiveVote_0 rfl (lv_at hl 0 rfl) ?_
  refine z_get (pc := 1) (v := .ref (ad (19, 0, 0))) hF hK.1 hW tq1 rfl rfl in_QC 1 (by decide) gw_345 rfl rfl d_QC_receiveVote_1 ?_
  refine lv_iload_n (pc := 4) hx hb d_QC_receiveVote_4 rfl (lv_at hl 3 rfl) ?_
  have o1 := hk.1
  have hk := hk.2
  obtain ⟨r2, er2⟩ : ∃ z : Int32, z = f_Blocks_viewOf a3 S := ⟨_, rfl⟩
  have hk := lt_p er2 hk
  have hr := lt_e er2 hr
  refine p_go (pc := 5) (congrArg Value.int er2) (p_runV hF hK hW (c_Blocks_viewOf l D X ad ca a3 S o1 _) cd_Blocks_viewOf gw_456 tq19 rfl rfl ⟨Nat.le_of_ble_eq_true rfl, Nat.le_of_ble_eq_true rfl⟩ ⟨Nat.zero_le _, Nat.zero_le _⟩ rfl rfl hl.1 (Nat.le_of_ble_eq_true rfl) d_QC_receiveVote_5) ?_
  refine lv_iconst (pc := 8) (v := 1) hx hb d_QC_receiveVote_8 (by decide) ?_
  refine lv_iadd (pc := 9) hx hb d_QC_receiveVote_9 ?_
  refine lv_istore (pc := 10) (lv' := [(4, .int (r2 + (1 : Int32))), (0, .ref (ad (1, 0, 0))), (1, .ref (ad (3, i1, 0))), (2, .int a2), (3, .int a3)]) hx hb d_QC_receiveVote_10 hl (by decide) rfl (fun ls hl => ?_)
  refine lv_aload_n (pc := 12) hx hb d_QC_receiveVote_12 rfl (lv_at hl 2 rfl) ?_
  refine z_get (pc := 13) (v := .ref (ad (4, i1, 0))) hF hK.1 hW (tq3 h1) rfl rfl in_Node 1 (by decide) gw_298 rfl rfl d_QC_receiveVote_13 ?_
  refine lv_iload_n (pc := 16) hx hb d_QC_receiveVote_16 rfl (lv_at hl 4 rfl) ?_
  have o3 := hk.1
  have hk := hk.2
  obtain ⟨r4, er4⟩ : ∃ z : Int32, z = f_Store_hasBlock i1 a3 S := ⟨_, rfl⟩
  have hk := lt_p er4 hk
  have hr := lt_e er4 hr
  refine p_go (pc := 17) (congrArg Value.int er4) (p_runV hF hK hW (c_Store_hasBlock l D X ad ca i1 a3 h1 S o3 _) cd_Store_hasBlock gw_477 (tq4 h1) rfl rfl ⟨Nat.le_of_ble_eq_true rfl, Nat.le_of_ble_eq_true rfl⟩ ⟨Nat.zero_le _, Nat.zero_le _⟩ rfl rfl hl.1 (Nat.le_of_ble_eq_true rfl) d_QC_receiveVote_17) ?_
  refine lv_if_eq (pc := 20) (tgt := 35) hx hb d_QC_receiveVote_20 (by decide) (fun c5 => ?_) (fun c5 => ?_)
  · have hk := hk.1 c5
    have hr := (if_pos c5).symm.trans hr
    exact z_vret hy hW hr.symm d_QC_receiveVote_35
  · have hk := hk.2 c5
    have hr := (if_neg c5).symm.trans hr
    refine lv_iload (pc := 23) hx hb d_QC_receiveVote_23 (lv_at hl 0 rfl) ?_
    obtain ⟨r6, er6⟩ : ∃ z : Int32, z = f_QC_leaderOf (r2 + (1 : Int32)) S := ⟨_, rfl⟩
    have hk := lt_p er6 hk
    have hr := lt_e er6 hr
    refine p_go (pc := 25) (congrArg Value.int er6) (p_runS hF hK hW (c_QC_leaderOf l D X ad ca (r2 + (1 : Int32)) S _) cd_QC_leaderOf gw_670 ⟨Nat.le_of_ble_eq_true rfl, Nat.le_of_ble_eq_true rfl⟩ ⟨Nat.zero_le _, Nat.zero_le _⟩ rfl rfl hl.1 (Nat.le_of_ble_eq_true rfl) d_QC_receiveVote_25) ?_
    refine lv_aload_n (pc := 28) hx hb d_QC_receiveVote_28 rfl (lv_at hl 2 rfl) ?_
    refine z_get (pc := 29) (v := .int (S.1 3 i1 0 0)) hF hK.1 hW (tq3 h1) rfl rfl in_Node 0 (by decide) gw_296 rfl rfl d_QC_receiveVote_29 ?_
    refine lv_icmp_eq (pc := 32) (tgt := 36) hx hb d_QC_receiveVote_32 (by decide) (fun c7 => ?_) (fun c7 => ?_)
    · have hk := hk.1 c7
      have hr := (if_pos c7).symm.trans hr
      refine lv_aload_n (pc := 36) hx hb d_QC_receiveVote_36 rfl (lv_at hl 2 rfl) ?_
      refine z_get (pc := 37) (v := .ref (ad (16, i1, 0))) hF hK.1 hW (tq3 h1) rfl rfl in_Node 3 (by decide) gw_302 rfl rfl d_QC_receiveVote_37 ?_
      refine lv_iload_n (pc := 40) hx hb d_QC_receiveVote_40 rfl (lv_at hl 4 rfl) ?_
      refine lv_iload_n (pc := 41) hx hb d_QC_receiveVote_41 rfl (lv_at hl 3 rfl) ?_
      have o8 := hk.1
      have hk := hk.2
      obtain ⟨r9, er9⟩ : ∃ z : Int32 × St, z = f_Tally_keep i1 0 a3 a2 S := ⟨_, rfl⟩
      have hk := lt_p er9 hk
      have hr := lt_e er9 hr
      refine z_goI (pc := 42) hW hA (show (r9.1, r9.2) = _ from er9) (z_runV hF hK hW (c_Tally_keep l D X ad ca i1 0 a3 a2 (⟨h1, by decide⟩) S o8 _) cd_Tally_keep gw_747 (tq16 (⟨h1, by decide⟩)) rfl rfl ⟨Nat.le_of_ble_eq_true rfl, Nat.le_of_ble_eq_true rfl⟩ ⟨Nat.zero_le _, Nat.zero_le _⟩ rfl rfl hl.1 (Nat.le_of_ble_eq_true rfl) d_QC_receiveVote_42) (fun H locs (hW : Wd D clQ A s.heap (zw X ad TQ (cfQ ad ca) r9.2) H locs) => ?_)
      refine lv_iconst (pc := 45) (v := 3) hx hb d_QC_receiveVote_45 (by decide) ?_
      refine lv_icmp_eq (pc := 46) (tgt := 50) hx hb d_QC_receiveVote_46 (by decide) (fun c10 => ?_) (fun c10 => ?_)
      · have hk := hk.1 c10
        have hr := (if_pos c10).symm.trans hr
        refine lv_aload_n (pc := 50) hx hb d_QC_receiveVote_50 rfl (lv_at hl 1 rfl) ?_
        refine z_get (pc := 51) (v := .ref (ad (19, 0, 0))) hF hK.1 hW tq1 rfl rfl in_QC 1 (by decide) gw_345 rfl rfl d_QC_receiveVote_51 ?_
        refine lv_iload_n (pc := 54) hx hb d_QC_receiveVote_54 rfl (lv_at hl 4 rfl) ?_
        have o11 := hk.1
        have hk := hk.2
        obtain ⟨S13, eS13⟩ : ∃ z : St, z = f_Blocks_certify a3 r9.2 := ⟨_, rfl⟩
        have hk := lt_p eS13 hk
        have hr := lt_e eS13 hr
        refine z_goV (pc := 55) hW hA eS13 (z_runV hF hK hW (c_Blocks_certify l D X ad ca a3 r9.2 o11 _) cd_Blocks_certify gw_757 tq19 rfl rfl ⟨Nat.le_of_ble_eq_true rfl, Nat.le_of_ble_eq_true rfl⟩ ⟨Nat.zero_le _, Nat.zero_le _⟩ rfl rfl hl.1 (Nat.le_of_ble_eq_true rfl) d_QC_receiveVote_55) (fun H locs (hW : Wd D clQ A s.heap (zw X ad TQ (cfQ ad ca) S13) H locs) => ?_)
        refine lv_iload (pc := 58) hx hb d_QC_receiveVote_58 (lv_at hl 0 rfl) ?_
        refine lv_aload_n (pc := 60) hx hb d_QC_receiveVote_60 rfl (lv_at hl 2 rfl) ?_
        refine z_get (pc := 61) (v := .int (S13.1 3 i1 0 8)) hF hK.1 hW (tq3 h1) rfl rfl in_Node 8 (by decide) gw_312 rfl rfl d_QC_receiveVote_61 ?_
        refine lv_icmp_lt (pc := 64) (tgt := 98) hx hb d_QC_receiveVote_64 (by decide) (fun c14 => ?_) (fun c14 => ?_)
        · have hk := hk.1 c14
          have hr := (if_pos c14).symm.trans hr
          exact z_vret hy hW hr.symm d_QC_receiveVote_98
        · have hk := hk.2 c14
          have hr := (if_neg c14).symm.trans hr
          refine lv_aload_n (pc := 67) hx hb d_QC_receiveVote_67 rfl (lv_at hl 1 rfl) ?_
          refine z_get (pc := 68) (v := .ref (ad (19, 0, 0))) hF hK.1 hW tq1 rfl rfl in_QC 1 (by decide) gw_345 rfl rfl d_QC_receiveVote_68 ?_
          refine lv_iload_n (pc := 71) hx hb d_QC_receiveVote_71 rfl (lv_at hl 4 rfl) ?_
          refine lv_aload_n (pc := 72) hx hb d_QC_receiveVote_72 rfl (lv_at hl 2 rfl) ?_
          refine z_get (pc := 73) (v := .int (S13.1 3 i1 0 11)) hF hK.1 hW (tq3 h1) rfl rfl in_Node 11 (by decide) gw_318 rfl rfl d_QC_receiveVote_73 ?_
          have o15 := hk.1
          have hk := hk.2
          obtain ⟨r16, er16⟩ : ∃ z : Int32, z = f_Blocks_isAbove a3 (S13.1 3 i1 0 11) S13 := ⟨_, rfl⟩
          have hk := lt_p er16 hk
          have hr := lt_e er16 hr
          refine p_go (pc := 76) (congrArg Value.int er16) (p_runV hF hK hW (c_Blocks_isAbove l D X ad ca a3 (S13.1 3 i1 0 11) S13 o15 _) cd_Blocks_isAbove gw_694 tq19 rfl rfl ⟨Nat.le_of_ble_eq_true rfl, Nat.le_of_ble_eq_true rfl⟩ ⟨Nat.zero_le _, Nat.zero_le _⟩ rfl rfl hl.1 (Nat.le_of_ble_eq_true rfl) d_QC_receiveVote_76) ?_
          refine lv_if_eq (pc := 79) (tgt := 98) hx hb d_QC_receiveVote_79 (by decide) (fun c17 => ?_) (fun c17 => ?_)
          · have hk := hk.1 c17
            have hr := (if_pos c17).symm.trans hr
            exact z_vret hy hW hr.symm d_QC_receiveVote_98
          · have hk := hk.2 c17
            have hr := (if_neg c17).symm.trans hr
            refine lv_aload_n (pc := 82) hx hb d_QC_receiveVote_82 rfl (lv_at hl 2 rfl) ?_
            refine lv_iload_n (pc := 83) hx hb d_QC_receiveVote_83 rfl (lv_at hl 4 rfl) ?_
            obtain ⟨S18, eS18⟩ : ∃ z : St, z = si S13 3 i1 0 11 a3 := ⟨_, rfl⟩
            have hk := lt_p eS18 hk
            have hr := lt_e eS18 hr
            refine z_put (pc := 84) (S' := S18) hF hK.1 hW (tq3 h1) rfl rfl in_Node t_Node tyo_Node nmo_Node 11 (by decide) gw_318 rfl rfl rfl rfl rfl (Nat.le_of_ble_eq_true rfl) (zs_si eS18 rfl) (zs_sio eS18) d_QC_receiveVote_84 (fun H locs (hW : Wd D clQ A s.heap (zw X ad TQ (cfQ ad ca) S18) H locs) => ?_)
            refine lv_aload_n (pc := 87) hx hb d_QC_receiveVote_87 rfl (lv_at hl 2 rfl) ?_
            refine lv_iload (pc := 88) hx hb d_QC_receiveVote_88 (lv_at hl 0 rfl) ?_
            obtain ⟨S20, eS20⟩ : ∃ z : St, z = f_Node_enter i1 (r2 + (1 : Int32)) S18 := ⟨_, rfl⟩
            have hk := lt_p eS20 hk
            have hr := lt_e eS20 hr
            refine z_goV (pc := 90) hW hA eS20 (z_runV hF hK hW (c_Node_enter l D X ad ca i1 (r2 + (1 : Int32)) h1 S18 _) cd_Node_enter gw_739 (tq3 h1) rfl rfl ⟨Nat.le_of_ble_eq_true rfl, Nat.le_of_ble_eq_true rfl⟩ ⟨Nat.zero_le _, Nat.zero_le _⟩ rfl rfl hl.1 (Nat.le_of_ble_eq_true rfl) d_QC_receiveVote_90) (fun H locs (hW : Wd D clQ A s.heap (zw X ad TQ (cfQ ad ca) S20) H locs) => ?_)
            refine lv_aload_n (pc := 93) hx hb d_QC_receiveVote_93 rfl (lv_at hl 1 rfl) ?_
            refine lv_aload_n (pc := 94) hx hb d_QC_receiveVote_94 rfl (lv_at hl 2 rfl) ?_
            have o21 := hk.1
            have hk := hk.2
            obtain ⟨S23, eS23⟩ : ∃ z : St, z = f_QC_propose i1 S20 := ⟨_, rfl⟩
            have hr := lt_e eS23 hr
            refine z_goV (pc := 95) hW hA eS23 (z_runV hF hK hW (c_QC_propose l D X ad ca i1 h1 S20 o21 _) cd_QC_propose gw_622 tq1 rfl rfl ⟨Nat.le_of_ble_eq_true rfl, Nat.le_of_ble_eq_true rfl⟩ ⟨Nat.zero_le _, Nat.zero_le _⟩ rfl rfl hl.1 (Nat.le_of_ble_eq_true rfl) d_QC_receiveVote_95) (fun H locs (hW : Wd D clQ A s.heap (zw X ad TQ (cfQ ad ca) S23) H locs) => ?_)
            exact z_vret hy hW hr.symm d_QC_receiveVote_98
      · have hk := hk.2 c10
        have hr := (if_neg c10).symm.trans hr
        exact z_vret hy hW hr.symm d_QC_receiveVote_49
    · have hk := hk.2 c7
      have hr := (if_neg c7).symm.trans hr
      exact z_vret hy hW hr.symm d_QC_receiveVote_35
theorem d_QC_receiveTimeout_0 : decode b_QC_receiveTimeout 0 = .ok (.aload_n 1, 1) := by decide +kernel
theorem d_QC_receiveTimeout_1 : decode b_QC_receiveTimeout 1 = .ok (.getfield 179, 3) := by decide +kernel
theorem d_QC_receiveTimeout_4 : decode b_QC_receiveTimeout 4 = .ok (.iload 4, 2) := by decide +kernel
theorem d_QC_receiveTimeout_6 : decode b_QC_receiveTimeout 6 = .ok (.invokevirtual 195, 3) := by decide +kernel
theorem d_QC_receiveTimeout_9 : decode b_QC_receiveTimeout 9 = .ok (.ifCond .eq 22, 3) := by decide +kernel
theorem d_QC_receiveTimeout_12 : decode b_QC_receiveTimeout 12 = .ok (.aload_n 0, 1) := by decide +kernel
theorem d_QC_receiveTimeout_13 : decode b_QC_receiveTimeout 13 = .ok (.getfield 18, 3) := by decide +kernel
theorem d_QC_receiveTimeout_16 : decode b_QC_receiveTimeout 16 = .ok (.iload 4, 2) := by decide +kernel
theorem d_QC_receiveTimeout_18 : decode b_QC_receiveTimeout 18 = .ok (.invokevirtual 200, 3) := by decide +kernel
theorem d_QC_receiveTimeout_21 : decode b_QC_receiveTimeout 21 = .ok (.ifCond .eq 10, 3) := by decide +kernel
theorem d_QC_receiveTimeout_24 : decode b_QC_receiveTimeout 24 = .ok (.aload_n 0, 1) := by decide +kernel
theorem d_QC_receiveTimeout_25 : decode b_QC_receiveTimeout 25 = .ok (.aload_n 1, 1) := by decide +kernel
theorem d_QC_receiveTimeout_26 : decode b_QC_receiveTimeout 26 = .ok (.iload 4, 2) := by decide +kernel
theorem d_QC_receiveTimeout_28 : decode b_QC_receiveTimeout 28 = .ok (.invokevirtual 323, 3) := by decide +kernel
theorem d_QC_receiveTimeout_31 : decode b_QC_receiveTimeout 31 = .ok (.aload_n 1, 1) := by decide +kernel
theorem d_QC_receiveTimeout_32 : decode b_QC_receiveTimeout 32 = .ok (.getfield 355, 3) := by decide +kernel
theorem d_QC_receiveTimeout_35 : decode b_QC_receiveTimeout 35 = .ok (.iload_n 3, 1) := by decide +kernel
theorem d_QC_receiveTimeout_36 : decode b_QC_receiveTimeout 36 = .ok (.iload_n 2, 1) := by decide +kernel
theorem d_QC_receiveTimeout_37 : decode b_QC_receiveTimeout 37 = .ok (.invokevirtual 346, 3) := by decide +kernel
theorem d_QC_receiveTimeout_40 : decode b_QC_receiveTimeout 40 = .ok (.iconst 3, 1) := by decide +kernel
theorem d_QC_receiveTimeout_41 : decode b_QC_receiveTimeout 41 = .ok (.if_icmp .ne 11, 3) := by decide +kernel
theorem d_QC_receiveTimeout_44 : decode b_QC_receiveTimeout 44 = .ok (.iload_n 3, 1) := by decide +kernel
theorem d_QC_receiveTimeout_45 : decode b_QC_receiveTimeout 45 = .ok (.aload_n 1, 1) := by decide +kernel
theorem d_QC_receiveTimeout_46 : decode b_QC_receiveTimeout 46 = .ok (.getfield 88, 3) := by decide +kernel
theorem d_QC_receiveTimeout_49 : decode b_QC_receiveTimeout 49 = .ok (.if_icmp .ge 4, 3) := by decide +kernel
theorem d_QC_receiveTimeout_52 : decode b_QC_receiveTimeout 52 = .ok (.return_, 1) := by decide +kernel
theorem d_QC_receiveTimeout_53 : decode b_QC_receiveTimeout 53 = .ok (.aload_n 1, 1) := by decide +kernel
theorem d_QC_receiveTimeout_54 : decode b_QC_receiveTimeout 54 = .ok (.iload_n 3, 1) := by decide +kernel
theorem d_QC_receiveTimeout_55 : decode b_QC_receiveTimeout 55 = .ok (.iconst 1, 1) := by decide +kernel
theorem d_QC_receiveTimeout_56 : decode b_QC_receiveTimeout 56 = .ok (.iadd, 1) := by decide +kernel
theorem d_QC_receiveTimeout_57 : decode b_QC_receiveTimeout 57 = .ok (.invokevirtual 336, 3) := by decide +kernel
theorem d_QC_receiveTimeout_60 : decode b_QC_receiveTimeout 60 = .ok (.aload_n 1, 1) := by decide +kernel
theorem d_QC_receiveTimeout_61 : decode b_QC_receiveTimeout 61 = .ok (.getfield 88, 3) := by decide +kernel
theorem d_QC_receiveTimeout_64 : decode b_QC_receiveTimeout 64 = .ok (.invokestatic 173, 3) := by decide +kernel
theorem d_QC_receiveTimeout_67 : decode b_QC_receiveTimeout 67 = .ok (.aload_n 1, 1) := by decide +kernel
theorem d_QC_receiveTimeout_68 : decode b_QC_receiveTimeout 68 = .ok (.getfield 339, 3) := by decide +kernel
theorem d_QC_receiveTimeout_71 : decode b_QC_receiveTimeout 71 = .ok (.if_icmp .ne 8, 3) := by decide +kernel
theorem d_QC_receiveTimeout_74 : decode b_QC_receiveTimeout 74 = .ok (.aload_n 0, 1) := by decide +kernel
theorem d_QC_receiveTimeout_75 : decode b_QC_receiveTimeout 75 = .ok (.aload_n 1, 1) := by decide +kernel
theorem d_QC_receiveTimeout_76 : decode b_QC_receiveTimeout 76 = .ok (.invokevirtual 93, 3) := by decide +kernel
theorem d_QC_receiveTimeout_79 : decode b_QC_receiveTimeout 79 = .ok (.return_, 1) := by decide +kernel
def f_QC_receiveTimeout_31 (i1 : Nat) (a2 : Int32) (a3 : Int32) (a4 : Int32) (S : St)  : St :=
  lt (f_Tally_keep i1 1 a3 a2 S) fun (r11 : Int32 × St) =>
  if r11.1 = (3 : Int32) then
    if (r11.2.1 3 i1 0 8) ≤ a3 then
      lt (f_Node_enter i1 (a3 + (1 : Int32)) r11.2) fun (S15 : St) =>
      lt (f_QC_leaderOf (S15.1 3 i1 0 8) S15) fun (r16 : Int32) =>
      if r16 = (S15.1 3 i1 0 0) then
        lt (f_QC_propose i1 S15) fun (S20 : St) =>
        S20
      else
        S15
    else
      r11.2
  else
    r11.2
def ok_QC_receiveTimeout_31 (i1 : Nat) (a2 : Int32) (a3 : Int32) (a4 : Int32) (S : St)  : Prop :=
  (ok_Tally_keep i1 1 a3 a2 S) ∧ (
    lt (f_Tally_keep i1 1 a3 a2 S) fun (r11 : Int32 × St) =>
    (r11.1 = (3 : Int32) → (
      ((r11.2.1 3 i1 0 8) ≤ a3 → (
        lt (f_Node_enter i1 (a3 + (1 : Int32)) r11.2) fun (S15 : St) =>
        lt (f_QC_leaderOf (S15.1 3 i1 0 8) S15) fun (r16 : Int32) =>
        (r16 = (S15.1 3 i1 0 0) → (
          (ok_QC_propose i1 S15) ∧ (
            True))) ∧ (¬ (r16 = (S15.1 3 i1 0 0)) → (
          True)))) ∧ (¬ ((r11.2.1 3 i1 0 8) ≤ a3) → (
        True)))) ∧ (¬ (r11.1 = (3 : Int32)) → (
      True)))
set_option maxHeartbeats 4000000 in
set_option maxRecDepth 100000 in
theorem w_QC_receiveTimeout_31 {l : Launch} {D : va_G} {X : va_W} {ad : N3 → Nat} {ca : Nat → ClassId} (i1 : Nat) (a2 : Int32) (a3 : Int32) (a4 : Int32) (h1 : i1 < 4) {p : Program} {e : Env} {s : State} {m : MethodId} {below : List Frame} {meth : Method} {c : Code} {A : Nat → Prop} (hy : Hy p s m ([.ref (ad (1, 0, 0)), .ref (ad (3, i1, 0)), .int a2, .int a3, .int a4] : List Value).toArray meth c b_QC_receiveTimeout 5 none R_QC GG D clQ (tysQ ca) nwQ) (hA : ∀ q, s.heap.size ≤ q → A q) {res : St} : ∀  (S : St)  , ok_QC_receiveTimeout_31 i1 a2 a3 a4 S → f_QC_receiveTimeout_31 i1 a2 a3 a4 S = res → ∀ (H : Heap) (locs : List Loc) (ls : Array Slot), Wd D clQ A s.heap (zw X ad TQ (cfQ ad ca) S) H locs → lv_has ls 5 [(0, .ref (ad (1, 0, 0))), (1, .ref (ad (3, i1, 0))), (2, .int a2), (3, .int a3)] → W p l e { frames := 5, cells := 0, slots := 0, locals := 165 } s m ([.ref (ad (1, 0, 0)), .ref (ad (3, i1, 0)), .int a2, .int a3, .int a4] : List Value).toArray below meth c H locs 0 0 (MQ below (eV D clQ X ad TQ (cfQ ad ca) A res) ([.ref (ad (1, 0, 0)), .ref (ad (3, i1, 0)), .int a2, .int a3, .int a4] : List Value).toArray s 0 0 A) (F0 m 31 ls []) := by
  have hF := hy.1
  have hx := hF.1
  have hb := hF.2.1
  have hK := hy.2.2.2
  intro S hk hr H locs ls hW hl
  refine lv_aload_n (pc := 31) hx hb d_QC_receiveTimeout_31 rfl (lv_at hl 1 rfl) ?_
  refine z_get (pc := 32) (v := .ref (ad (16, i1, 1))) hF hK.1 hW (tq3 h1) rfl rfl in_Node 4 (by decide) gw_304 rfl rfl d_QC_receiveTimeout_32 ?_
  refine lv_iload_n (pc := 35) hx hb d_QC_receiveTimeout_35 rfl (lv_at hl 3 rfl) ?_
  refine lv_iload_n (pc := 36) hx hb d_QC_receiveTimeout_36 rfl (lv_at hl 2 rfl) ?_
  have o10 := hk.1
  have hk := hk.2
  obtain ⟨r11, er11⟩ : ∃ z : Int32 × St, z = f_Tally_keep i1 1 a3 a2 S := ⟨_, rfl⟩
  have hk := lt_p er11 hk
  have hr := lt_e er11 hr
  refine z_goI (pc := 37) hW hA (show (r11.1, r11.2) = _ from er11) (z_runV hF hK hW (c_Tally_keep l D X ad ca i1 1 a3 a2 (⟨h1, by decide⟩) S o10 _) cd_Tally_keep gw_747 (tq16 (⟨h1, by decide⟩)) rfl rfl ⟨Nat.le_of_ble_eq_true rfl, Nat.le_of_ble_eq_true rfl⟩ ⟨Nat.zero_le _, Nat.zero_le _⟩ rfl rfl hl.1 (Nat.le_of_ble_eq_true rfl) d_QC_receiveTimeout_37) (fun H locs (hW : Wd D clQ A s.heap (zw X ad TQ (cfQ ad ca) r11.2) H locs) => ?_)
  refine lv_iconst (pc := 40) (v := 3) hx hb d_QC_receiveTimeout_40 (by decide) ?_
  refine lv_icmp_ne (pc := 41) (tgt := 52) hx hb d_QC_receiveTimeout_41 (by decide) (fun c12 => ?_) (fun c12 => ?_)
  · have hk := hk.2 c12
    have hr := (if_neg c12).symm.trans hr
    exact z_vret hy hW hr.symm d_QC_receiveTimeout_52
  · have hk := hk.1 c12
    have hr := (if_pos c12).symm.trans hr
    refine lv_iload_n (pc := 44) hx hb d_QC_receiveTimeout_44 rfl (lv_at hl 3 rfl) ?_
    refine lv_aload_n (pc := 45) hx hb d_QC_receiveTimeout_45 rfl (lv_at hl 1 rfl) ?_
    refine z_get (pc := 46) (v := .int (r11.2.1 3 i1 0 8)) hF hK.1 hW (tq3 h1) rfl rfl in_Node 8 (by decide) gw_312 rfl rfl d_QC_receiveTimeout_46 ?_
    refine lv_icmp_ge (pc := 49) (tgt := 53) hx hb d_QC_receiveTimeout_49 (by decide) (fun c13 => ?_) (fun c13 => ?_)
    · have hk := hk.1 c13
      have hr := (if_pos c13).symm.trans hr
      refine lv_aload_n (pc := 53) hx hb d_QC_receiveTimeout_53 rfl (lv_at hl 1 rfl) ?_
      refine lv_iload_n (pc := 54) hx hb d_QC_receiveTimeout_54 rfl (lv_at hl 3 rfl) ?_
      refine lv_iconst (pc := 55) (v := 1) hx hb d_QC_receiveTimeout_55 (by decide) ?_
      refine lv_iadd (pc := 56) hx hb d_QC_receiveTimeout_56 ?_
      obtain ⟨S15, eS15⟩ : ∃ z : St, z = f_Node_enter i1 (a3 + (1 : Int32)) r11.2 := ⟨_, rfl⟩
      have hk := lt_p eS15 hk
      have hr := lt_e eS15 hr
      refine z_goV (pc := 57) hW hA eS15 (z_runV hF hK hW (c_Node_enter l D X ad ca i1 (a3 + (1 : Int32)) h1 r11.2 _) cd_Node_enter gw_739 (tq3 h1) rfl rfl ⟨Nat.le_of_ble_eq_true rfl, Nat.le_of_ble_eq_true rfl⟩ ⟨Nat.zero_le _, Nat.zero_le _⟩ rfl rfl hl.1 (Nat.le_of_ble_eq_true rfl) d_QC_receiveTimeout_57) (fun H locs (hW : Wd D clQ A s.heap (zw X ad TQ (cfQ ad ca) S15) H locs) => ?_)
      refine lv_aload_n (pc := 60) hx hb d_QC_receiveTimeout_60 rfl (lv_at hl 1 rfl) ?_
      refine z_get (pc := 61) (v := .int (S15.1 3 i1 0 8)) hF hK.1 hW (tq3 h1) rfl rfl in_Node 8 (by decide) gw_312 rfl rfl d_QC_receiveTimeout_61 ?_
      obtain ⟨r16, er16⟩ : ∃ z : Int32, z = f_QC_leaderOf (S15.1 3 i1 0 8) S15 := ⟨_, rfl⟩
      have hk := lt_p er16 hk
      have hr := lt_e er16 hr
      refine p_go (pc := 64) (congrArg Value.int er16) (p_runS hF hK hW (c_QC_leaderOf l D X ad ca (S15.1 3 i1 0 8) S15 _) cd_QC_leaderOf gw_670 ⟨Nat.le_of_ble_eq_true rfl, Nat.le_of_ble_eq_true rfl⟩ ⟨Nat.zero_le _, Nat.zero_le _⟩ rfl rfl hl.1 (Nat.le_of_ble_eq_true rfl) d_QC_receiveTimeout_64) ?_
      refine lv_aload_n (pc := 67) hx hb d_QC_receiveTimeout_67 rfl (lv_at hl 1 rfl) ?_
      refine z_get (pc := 68) (v := .int (S15.1 3 i1 0 0)) hF hK.1 hW (tq3 h1) rfl rfl in_Node 0 (by decide) gw_296 rfl rfl d_QC_receiveTimeout_68 ?_
      refine lv_icmp_ne (pc := 71) (tgt := 79) hx hb d_QC_receiveTimeout_71 (by decide) (fun c17 => ?_) (fun c17 => ?_)
      · have hk := hk.2 c17
        have hr := (if_neg c17).symm.trans hr
        exact z_vret hy hW hr.symm d_QC_receiveTimeout_79
      · have hk := hk.1 c17
        have hr := (if_pos c17).symm.trans hr
        refine lv_aload_n (pc := 74) hx hb d_QC_receiveTimeout_74 rfl (lv_at hl 0 rfl) ?_
        refine lv_aload_n (pc := 75) hx hb d_QC_receiveTimeout_75 rfl (lv_at hl 1 rfl) ?_
        have o18 := hk.1
        have hk := hk.2
        obtain ⟨S20, eS20⟩ : ∃ z : St, z = f_QC_propose i1 S15 := ⟨_, rfl⟩
        have hr := lt_e eS20 hr
        refine z_goV (pc := 76) hW hA eS20 (z_runV hF hK hW (c_QC_propose l D X ad ca i1 h1 S15 o18 _) cd_QC_propose gw_622 tq1 rfl rfl ⟨Nat.le_of_ble_eq_true rfl, Nat.le_of_ble_eq_true rfl⟩ ⟨Nat.zero_le _, Nat.zero_le _⟩ rfl rfl hl.1 (Nat.le_of_ble_eq_true rfl) d_QC_receiveTimeout_76) (fun H locs (hW : Wd D clQ A s.heap (zw X ad TQ (cfQ ad ca) S20) H locs) => ?_)
        exact z_vret hy hW hr.symm d_QC_receiveTimeout_79
    · have hk := hk.2 c13
      have hr := (if_neg c13).symm.trans hr
      exact z_vret hy hW hr.symm d_QC_receiveTimeout_52
def f_QC_receiveTimeout (i1 : Nat) (a2 : Int32) (a3 : Int32) (a4 : Int32) (S : St) : St :=
  lt (f_Store_hasBlock i1 a4 S) fun (r2 : Int32) =>
  if r2 = 0 then
    f_QC_receiveTimeout_31 i1 a2 a3 a4 S
  else
    lt (f_Blocks_isCertified a4 S) fun (r5 : Int32) =>
    if r5 = 0 then
      f_QC_receiveTimeout_31 i1 a2 a3 a4 S
    else
      lt (f_QC_raiseHigh i1 a4 S) fun (S9 : St) =>
      f_QC_receiveTimeout_31 i1 a2 a3 a4 S9
def ok_QC_receiveTimeout (i1 : Nat) (a2 : Int32) (a3 : Int32) (a4 : Int32) (S : St) : Prop :=
  (ok_Store_hasBlock i1 a4 S) ∧ (
    lt (f_Store_hasBlock i1 a4 S) fun (r2 : Int32) =>
    (r2 = 0 → (
      ok_QC_receiveTimeout_31 i1 a2 a3 a4 S)) ∧ (¬ (r2 = 0) → (
      (ok_Blocks_isCertified a4 S) ∧ (
        lt (f_Blocks_isCertified a4 S) fun (r5 : Int32) =>
        (r5 = 0 → (
          ok_QC_receiveTimeout_31 i1 a2 a3 a4 S)) ∧ (¬ (r5 = 0) → (
          (ok_QC_raiseHigh i1 a4 S) ∧ (
            lt (f_QC_raiseHigh i1 a4 S) fun (S9 : St) =>
            ok_QC_receiveTimeout_31 i1 a2 a3 a4 S9)))))))
set_option maxHeartbeats 4000000 in
set_option maxRecDepth 100000 in
theorem c_QC_receiveTimeout (l : Launch) (D : va_G) (X : va_W) (ad : N3 → Nat) (ca : Nat → ClassId) (i1 : Nat) (a2 : Int32) (a3 : Int32) (a4 : Int32) (h1 : i1 < 4) (S : St) (hk : ok_QC_receiveTimeout i1 a2 a3 a4 S) : cV l GG D clQ (tysQ ca) nwQ X ad TQ (cfQ ad ca) y_QC_receiveTimeout b_QC_receiveTimeout 5 5 165 [.ref (ad (1, 0, 0)), .ref (ad (3, i1, 0)), .int a2, .int a3, .int a4] S (f_QC_receiveTimeout i1 a2 a3 a4 S) := by
  generalize hr : f_QC_receiveTimeout i1 a2 a3 a4 S = res
  refine zV_of pn_QC (Nat.le_of_ble_eq_true rfl) (fun p e s m below meth c A ls hy hW hA hl => ?_)
  have hF := hy.1
  have hx := hF.1
  have hb := hF.2.1
  have hK := hy.2.2.2
  have hl : lv_has ls 5 [(0, .ref (ad (1, 0, 0))), (1, .ref (ad (3, i1, 0))), (2, .int a2), (3, .int a3), (4, .int a4)] := hl
  refine lv_aload_n (pc := 0) hx hb d_QC_receiveTimeout_0 rfl (lv_at hl 1 rfl) ?_
  refine z_get (pc := 1) (v := .ref (ad (4, i1, 0))) hF hK.1 hW (tq3 h1) rfl rfl in_Node 1 (by decide) gw_298 rfl rfl d_QC_receiveTimeout_1 ?_
  refine lv_iload (pc := 4) hx hb d_QC_receiveTimeout_4 (lv_at hl 4 rfl) ?_
  have o1 := hk.1
  have hk := hk.2
  obtain ⟨r2, er2⟩ : ∃ z : Int32, z = f_Store_hasBlock i1 a4 S := ⟨_, rfl⟩
  have hk := lt_p er2 hk
  have hr := lt_e er2 hr
  refine p_go (pc := 6) (congrArg Value.int er2) (p_runV hF hK hW (c_Store_hasBlock l D X ad ca i1 a4 h1 S o1 _) cd_Store_hasBlock gw_477 (tq4 h1) rfl rfl ⟨Nat.le_of_ble_eq_true rfl, Nat.le_of_ble_eq_true rfl⟩ ⟨Nat.zero_le _, Nat.zero_le _⟩ rfl rfl hl.1 (Nat.le_of_ble_eq_true rfl) d_QC_receiveTimeout_6) ?_
  refine lv_if_eq (pc := 9) (tgt := 31) hx hb d_QC_receiveTimeout_9 (by decide) (fun c3 => ?_) (fun c3 => ?_)
  · have hk := hk.1 c3
    have hr := (if_pos c3).symm.trans hr
    exact w_QC_receiveTimeout_31 i1 a2 a3 a4 h1 hy hA S hk hr _ _ _ hW (lv_sub hl [0, 1, 2, 3] rfl)
  · have hk := hk.2 c3
    have hr := (if_neg c3).symm.trans hr
    refine lv_aload_n (pc := 12) hx hb d_QC_receiveTimeout_12 rfl (lv_at hl 0 rfl) ?_
    refine z_get (pc := 13) (v := .ref (ad (19, 0, 0))) hF hK.1 hW tq1 rfl rfl in_QC 1 (by decide) gw_345 rfl rfl d_QC_receiveTimeout_13 ?_
    refine lv_iload (pc := 16) hx hb d_QC_receiveTimeout_16 (lv_at hl 4 rfl) ?_
    have o4 := hk.1
    have hk := hk.2
    obtain ⟨r5, er5⟩ : ∃ z : Int32, z = f_Blocks_isCertified a4 S := ⟨_, rfl⟩
    have hk := lt_p er5 hk
    have hr := lt_e er5 hr
    refine p_go (pc := 18) (congrArg Value.int er5) (p_runV hF hK hW (c_Blocks_isCertified l D X ad ca a4 S o4 _) cd_Blocks_isCertified gw_469 tq19 rfl rfl ⟨Nat.le_of_ble_eq_true rfl, Nat.le_of_ble_eq_true rfl⟩ ⟨Nat.zero_le _, Nat.zero_le _⟩ rfl rfl hl.1 (Nat.le_of_ble_eq_true rfl) d_QC_receiveTimeout_18) ?_
    refine lv_if_eq (pc := 21) (tgt := 31) hx hb d_QC_receiveTimeout_21 (by decide) (fun c6 => ?_) (fun c6 => ?_)
    · have hk := hk.1 c6
      have hr := (if_pos c6).symm.trans hr
      exact w_QC_receiveTimeout_31 i1 a2 a3 a4 h1 hy hA S hk hr _ _ _ hW (lv_sub hl [0, 1, 2, 3] rfl)
    · have hk := hk.2 c6
      have hr := (if_neg c6).symm.trans hr
      refine lv_aload_n (pc := 24) hx hb d_QC_receiveTimeout_24 rfl (lv_at hl 0 rfl) ?_
      refine lv_aload_n (pc := 25) hx hb d_QC_receiveTimeout_25 rfl (lv_at hl 1 rfl) ?_
      refine lv_iload (pc := 26) hx hb d_QC_receiveTimeout_26 (lv_at hl 4 rfl) ?_
      have o7 := hk.1
      have hk := hk.2
      obtain ⟨S9, eS9⟩ : ∃ z : St, z = f_QC_raiseHigh i1 a4 S := ⟨_, rfl⟩
      have hk := lt_p eS9 hk
      have hr := lt_e eS9 hr
      refine z_goV (pc := 28) hW hA eS9 (z_runV hF hK hW (c_QC_raiseHigh l D X ad ca i1 a4 h1 S o7 _) cd_QC_raiseHigh gw_690 tq1 rfl rfl ⟨Nat.le_of_ble_eq_true rfl, Nat.le_of_ble_eq_true rfl⟩ ⟨Nat.zero_le _, Nat.zero_le _⟩ rfl rfl hl.1 (Nat.le_of_ble_eq_true rfl) d_QC_receiveTimeout_28) (fun H locs (hW : Wd D clQ A s.heap (zw X ad TQ (cfQ ad ca) S9) H locs) => ?_)
      exact w_QC_receiveTimeout_31 i1 a2 a3 a4 h1 hy hA S9 hk hr _ _ _ hW (lv_sub hl [0, 1, 2, 3] rfl)
theorem d_QC_receiveAsk_0 : decode b_QC_receiveAsk 0 = .ok (.aload_n 1, 1) := by decide +kernel
theorem d_QC_receiveAsk_1 : decode b_QC_receiveAsk 1 = .ok (.getfield 179, 3) := by decide +kernel
theorem d_QC_receiveAsk_4 : decode b_QC_receiveAsk 4 = .ok (.iload_n 3, 1) := by decide +kernel
theorem d_QC_receiveAsk_5 : decode b_QC_receiveAsk 5 = .ok (.invokevirtual 195, 3) := by decide +kernel
theorem d_QC_receiveAsk_8 : decode b_QC_receiveAsk 8 = .ok (.ifCond .eq 11, 3) := by decide +kernel
theorem d_QC_receiveAsk_11 : decode b_QC_receiveAsk 11 = .ok (.aload_n 0, 1) := by decide +kernel
theorem d_QC_receiveAsk_12 : decode b_QC_receiveAsk 12 = .ok (.aload_n 1, 1) := by decide +kernel
theorem d_QC_receiveAsk_13 : decode b_QC_receiveAsk 13 = .ok (.iconst 5, 1) := by decide +kernel
theorem d_QC_receiveAsk_14 : decode b_QC_receiveAsk 14 = .ok (.iload_n 3, 1) := by decide +kernel
theorem d_QC_receiveAsk_15 : decode b_QC_receiveAsk 15 = .ok (.iload_n 2, 1) := by decide +kernel
theorem d_QC_receiveAsk_16 : decode b_QC_receiveAsk 16 = .ok (.invokevirtual 309, 3) := by decide +kernel
theorem d_QC_receiveAsk_19 : decode b_QC_receiveAsk 19 = .ok (.return_, 1) := by decide +kernel
def f_QC_receiveAsk (i1 : Nat) (a2 : Int32) (a3 : Int32) (S : St) : St :=
  lt (f_Store_hasBlock i1 a3 S) fun (r2 : Int32) =>
  if r2 = 0 then
    S
  else
    lt (f_QC_sendUnsigned i1 (5 : Int32) a3 a2 S) fun (S6 : St) =>
    S6
def ok_QC_receiveAsk (i1 : Nat) (a2 : Int32) (a3 : Int32) (S : St) : Prop :=
  (ok_Store_hasBlock i1 a3 S) ∧ (
    lt (f_Store_hasBlock i1 a3 S) fun (r2 : Int32) =>
    (r2 = 0 → (
      True)) ∧ (¬ (r2 = 0) → (
      (ok_QC_sendUnsigned i1 (5 : Int32) a3 a2 S) ∧ (
        True))))
set_option maxHeartbeats 4000000 in
set_option maxRecDepth 100000 in
theorem c_QC_receiveAsk (l : Launch) (D : va_G) (X : va_W) (ad : N3 → Nat) (ca : Nat → ClassId) (i1 : Nat) (a2 : Int32) (a3 : Int32) (h1 : i1 < 4) (S : St) (hk : ok_QC_receiveAsk i1 a2 a3 S) : cV l GG D clQ (tysQ ca) nwQ X ad TQ (cfQ ad ca) y_QC_receiveAsk b_QC_receiveAsk 4 4 146 [.ref (ad (1, 0, 0)), .ref (ad (3, i1, 0)), .int a2, .int a3] S (f_QC_receiveAsk i1 a2 a3 S) := by
  generalize hr : f_QC_receiveAsk i1 a2 a3 S = res
  refine zV_of pn_QC (Nat.le_of_ble_eq_true rfl) (fun p e s m below meth c A ls hy hW hA hl => ?_)
  have hF := hy.1
  have hx := hF.1
  have hb := hF.2.1
  have hK := hy.2.2.2
  have hl : lv_has ls 4 [(0, .ref (ad (1, 0, 0))), (1, .ref (ad (3, i1, 0))), (2, .int a2), (3, .int a3)] := hl
  refine lv_aload_n (pc := 0) hx hb d_QC_receiveAsk_0 rfl (lv_at hl 1 rfl) ?_
  refine z_get (pc := 1) (v := .ref (ad (4, i1, 0))) hF hK.1 hW (tq3 h1) rfl rfl in_Node 1 (by decide) gw_298 rfl rfl d_QC_receiveAsk_1 ?_
  refine lv_iload_n (pc := 4) hx hb d_QC_receiveAsk_4 rfl (lv_at hl 3 rfl) ?_
  have o1 := hk.1
  have hk := hk.2
  obtain ⟨r2, er2⟩ : ∃ z : Int32, z = f_Store_hasBlock i1 a3 S := ⟨_, rfl⟩
  have hk := lt_p er2 hk
  have hr := lt_e er2 hr
  refine p_go (pc := 5) (congrArg Value.int er2) (p_runV hF hK hW (c_Store_hasBlock l D X ad ca i1 a3 h1 S o1 _) cd_Store_hasBlock gw_477 (tq4 h1) rfl rfl ⟨Nat.le_of_ble_eq_true rfl, Nat.le_of_ble_eq_true rfl⟩ ⟨Nat.zero_le _, Nat.zero_le _⟩ rfl rfl hl.1 (Nat.le_of_ble_eq_true rfl) d_QC_receiveAsk_5) ?_
  refine lv_if_eq (pc := 8) (tgt := 19) hx hb d_QC_receiveAsk_8 (by decide) (fun c3 => ?_) (fun c3 => ?_)
  · have hk := hk.1 c3
    have hr := (if_pos c3).symm.trans hr
    exact z_vret hy hW hr.symm d_QC_receiveAsk_19
  · have hk := hk.2 c3
    have hr := (if_neg c3).symm.trans hr
    refine lv_aload_n (pc := 11) hx hb d_QC_receiveAsk_11 rfl (lv_at hl 0 rfl) ?_
    refine lv_aload_n (pc := 12) hx hb d_QC_receiveAsk_12 rfl (lv_at hl 1 rfl) ?_
    refine lv_iconst (pc := 13) (v := 5) hx hb d_QC_receiveAsk_13 (by decide) ?_
    refine lv_iload_n (pc := 14) hx hb d_QC_receiveAsk_14 rfl (lv_at hl 3 rfl) ?_
    refine lv_iload_n (pc := 15) hx hb d_QC_receiveAsk_15 rfl (lv_at hl 2 rfl) ?_
    have o4 := hk.1
    have hk := hk.2
    obtain ⟨S6, eS6⟩ : ∃ z : St, z = f_QC_sendUnsigned i1 (5 : Int32) a3 a2 S := ⟨_, rfl⟩
    have hr := lt_e eS6 hr
    refine z_goV (pc := 16) hW hA eS6 (z_runV hF hK hW (c_QC_sendUnsigned l D X ad ca i1 (5 : Int32) a3 a2 h1 S o4 _) cd_QC_sendUnsigned gw_682 tq1 rfl rfl ⟨Nat.le_of_ble_eq_true rfl, Nat.le_of_ble_eq_true rfl⟩ ⟨Nat.zero_le _, Nat.zero_le _⟩ rfl rfl hl.1 (Nat.le_of_ble_eq_true rfl) d_QC_receiveAsk_16) (fun H locs (hW : Wd D clQ A s.heap (zw X ad TQ (cfQ ad ca) S6) H locs) => ?_)
    exact z_vret hy hW hr.symm d_QC_receiveAsk_19
theorem d_QC_receiveBlock_0 : decode b_QC_receiveBlock 0 = .ok (.aload_n 0, 1) := by decide +kernel
theorem d_QC_receiveBlock_1 : decode b_QC_receiveBlock 1 = .ok (.getfield 18, 3) := by decide +kernel
theorem d_QC_receiveBlock_4 : decode b_QC_receiveBlock 4 = .ok (.iload_n 3, 1) := by decide +kernel
theorem d_QC_receiveBlock_5 : decode b_QC_receiveBlock 5 = .ok (.invokevirtual 285, 3) := by decide +kernel
theorem d_QC_receiveBlock_8 : decode b_QC_receiveBlock 8 = .ok (.istore 4, 2) := by decide +kernel
theorem d_QC_receiveBlock_10 : decode b_QC_receiveBlock 10 = .ok (.aload_n 1, 1) := by decide +kernel
theorem d_QC_receiveBlock_11 : decode b_QC_receiveBlock 11 = .ok (.getfield 179, 3) := by decide +kernel
theorem d_QC_receiveBlock_14 : decode b_QC_receiveBlock 14 = .ok (.iload 4, 2) := by decide +kernel
theorem d_QC_receiveBlock_16 : decode b_QC_receiveBlock 16 = .ok (.invokevirtual 195, 3) := by decide +kernel
theorem d_QC_receiveBlock_19 : decode b_QC_receiveBlock 19 = .ok (.ifCond .eq 14, 3) := by decide +kernel
theorem d_QC_receiveBlock_22 : decode b_QC_receiveBlock 22 = .ok (.aload_n 1, 1) := by decide +kernel
theorem d_QC_receiveBlock_23 : decode b_QC_receiveBlock 23 = .ok (.getfield 179, 3) := by decide +kernel
theorem d_QC_receiveBlock_26 : decode b_QC_receiveBlock 26 = .ok (.iload_n 3, 1) := by decide +kernel
theorem d_QC_receiveBlock_27 : decode b_QC_receiveBlock 27 = .ok (.invokevirtual 212, 3) := by decide +kernel
theorem d_QC_receiveBlock_30 : decode b_QC_receiveBlock 30 = .ok (.goto 12, 3) := by decide +kernel
theorem d_QC_receiveBlock_33 : decode b_QC_receiveBlock 33 = .ok (.aload_n 0, 1) := by decide +kernel
theorem d_QC_receiveBlock_34 : decode b_QC_receiveBlock 34 = .ok (.aload_n 1, 1) := by decide +kernel
theorem d_QC_receiveBlock_35 : decode b_QC_receiveBlock 35 = .ok (.iconst 4, 1) := by decide +kernel
theorem d_QC_receiveBlock_36 : decode b_QC_receiveBlock 36 = .ok (.iload 4, 2) := by decide +kernel
theorem d_QC_receiveBlock_38 : decode b_QC_receiveBlock 38 = .ok (.iload_n 2, 1) := by decide +kernel
theorem d_QC_receiveBlock_39 : decode b_QC_receiveBlock 39 = .ok (.invokevirtual 309, 3) := by decide +kernel
theorem d_QC_receiveBlock_42 : decode b_QC_receiveBlock 42 = .ok (.return_, 1) := by decide +kernel
def f_QC_receiveBlock (i1 : Nat) (a2 : Int32) (a3 : Int32) (S : St) : St :=
  lt (f_Blocks_parentOf a3 S) fun (r2 : Int32) =>
  lt (f_Store_hasBlock i1 r2 S) fun (r4 : Int32) =>
  if r4 = 0 then
    lt (f_QC_sendUnsigned i1 (4 : Int32) r2 a2 S) fun (S8 : St) =>
    S8
  else
    lt (f_Store_keepBlock i1 a3 S) fun (S11 : St) =>
    S11
def ok_QC_receiveBlock (i1 : Nat) (a2 : Int32) (a3 : Int32) (S : St) : Prop :=
  (ok_Blocks_parentOf a3 S) ∧ (
    lt (f_Blocks_parentOf a3 S) fun (r2 : Int32) =>
    (ok_Store_hasBlock i1 r2 S) ∧ (
      lt (f_Store_hasBlock i1 r2 S) fun (r4 : Int32) =>
      (r4 = 0 → (
        (ok_QC_sendUnsigned i1 (4 : Int32) r2 a2 S) ∧ (
          True))) ∧ (¬ (r4 = 0) → (
        (ok_Store_keepBlock i1 a3 S) ∧ (
          True)))))
set_option maxHeartbeats 4000000 in
set_option maxRecDepth 100000 in
theorem c_QC_receiveBlock (l : Launch) (D : va_G) (X : va_W) (ad : N3 → Nat) (ca : Nat → ClassId) (i1 : Nat) (a2 : Int32) (a3 : Int32) (h1 : i1 < 4) (S : St) (hk : ok_QC_receiveBlock i1 a2 a3 S) : cV l GG D clQ (tysQ ca) nwQ X ad TQ (cfQ ad ca) y_QC_receiveBlock b_QC_receiveBlock 5 4 146 [.ref (ad (1, 0, 0)), .ref (ad (3, i1, 0)), .int a2, .int a3] S (f_QC_receiveBlock i1 a2 a3 S) := by
  generalize hr : f_QC_receiveBlock i1 a2 a3 S = res
  refine zV_of pn_QC (Nat.le_of_ble_eq_true rfl) (fun p e s m below meth c A ls hy hW hA hl => ?_)
  have hF := hy.1
  have hx := hF.1
  have hb := hF.2.1
  have hK := hy.2.2.2
  have hl : lv_has ls 5 [(0, .ref (ad (1, 0, 0))), (1, .ref (ad (3, i1, 0))), (2, .int a2), (3, .int a3)] := hl
  refine lv_aload_n (pc := 0) hx hb d_QC_receiveBlock_0 rfl (lv_at hl 0 rfl) ?_
  refine z_get (pc := 1) (v := .ref (ad (19, 0, 0))) hF hK.1 hW tq1 rfl rfl in_QC 1 (by decide) gw_345 rfl rfl d_QC_receiveBlock_1 ?_
  refine lv_iload_n (pc := 4) hx hb d_QC_receiveBlock_4 rfl (lv_at hl 3 rfl) ?_
  have o1 := hk.1
  have hk := hk.2
  obtain ⟨r2, er2⟩ : ∃ z : Int32, z = f_Blocks_parentOf a3 S := ⟨_, rfl⟩
  have hk := lt_p er2 hk
  have hr := lt_e er2 hr
  refine p_go (pc := 5) (congrArg Value.int er2) (p_runV hF hK hW (c_Blocks_parentOf l D X ad ca a3 S o1 _) cd_Blocks_parentOf gw_461 tq19 rfl rfl ⟨Nat.le_of_ble_eq_true rfl, Nat.le_of_ble_eq_true rfl⟩ ⟨Nat.zero_le _, Nat.zero_le _⟩ rfl rfl hl.1 (Nat.le_of_ble_eq_true rfl) d_QC_receiveBlock_5) ?_
  refine lv_istore (pc := 8) (lv' := [(4, .int r2), (0, .ref (ad (1, 0, 0))), (1, .ref (ad (3, i1, 0))), (2, .int a2), (3, .int a3)]) hx hb d_QC_receiveBlock_8 hl (by decide) rfl (fun ls hl => ?_)
  refine lv_aload_n (pc := 10) hx hb d_QC_receiveBlock_10 rfl (lv_at hl 2 rfl) ?_
  refine z_get (pc := 11) (v := .ref (ad (4, i1, 0))) hF hK.1 hW (tq3 h1) rfl rfl in_Node 1 (by decide) gw_298 rfl rfl d_QC_receiveBlock_11 ?_
  refine lv_iload (pc := 14) hx hb d_QC_receiveBlock_14 (lv_at hl 0 rfl) ?_
  have o3 := hk.1
  have hk := hk.2
  obtain ⟨r4, er4⟩ : ∃ z : Int32, z = f_Store_hasBlock i1 r2 S := ⟨_, rfl⟩
  have hk := lt_p er4 hk
  have hr := lt_e er4 hr
  refine p_go (pc := 16) (congrArg Value.int er4) (p_runV hF hK hW (c_Store_hasBlock l D X ad ca i1 r2 h1 S o3 _) cd_Store_hasBlock gw_477 (tq4 h1) rfl rfl ⟨Nat.le_of_ble_eq_true rfl, Nat.le_of_ble_eq_true rfl⟩ ⟨Nat.zero_le _, Nat.zero_le _⟩ rfl rfl hl.1 (Nat.le_of_ble_eq_true rfl) d_QC_receiveBlock_16) ?_
  refine lv_if_eq (pc := 19) (tgt := 33) hx hb d_QC_receiveBlock_19 (by decide) (fun c5 => ?_) (fun c5 => ?_)
  · have hk := hk.1 c5
    have hr := (if_pos c5).symm.trans hr
    refine lv_aload_n (pc := 33) hx hb d_QC_receiveBlock_33 rfl (lv_at hl 1 rfl) ?_
    refine lv_aload_n (pc := 34) hx hb d_QC_receiveBlock_34 rfl (lv_at hl 2 rfl) ?_
    refine lv_iconst (pc := 35) (v := 4) hx hb d_QC_receiveBlock_35 (by decide) ?_
    refine lv_iload (pc := 36) hx hb d_QC_receiveBlock_36 (lv_at hl 0 rfl) ?_
    refine lv_iload_n (pc := 38) hx hb d_QC_receiveBlock_38 rfl (lv_at hl 3 rfl) ?_
    have o6 := hk.1
    have hk := hk.2
    obtain ⟨S8, eS8⟩ : ∃ z : St, z = f_QC_sendUnsigned i1 (4 : Int32) r2 a2 S := ⟨_, rfl⟩
    have hr := lt_e eS8 hr
    refine z_goV (pc := 39) hW hA eS8 (z_runV hF hK hW (c_QC_sendUnsigned l D X ad ca i1 (4 : Int32) r2 a2 h1 S o6 _) cd_QC_sendUnsigned gw_682 tq1 rfl rfl ⟨Nat.le_of_ble_eq_true rfl, Nat.le_of_ble_eq_true rfl⟩ ⟨Nat.zero_le _, Nat.zero_le _⟩ rfl rfl hl.1 (Nat.le_of_ble_eq_true rfl) d_QC_receiveBlock_39) (fun H locs (hW : Wd D clQ A s.heap (zw X ad TQ (cfQ ad ca) S8) H locs) => ?_)
    exact z_vret hy hW hr.symm d_QC_receiveBlock_42
  · have hk := hk.2 c5
    have hr := (if_neg c5).symm.trans hr
    refine lv_aload_n (pc := 22) hx hb d_QC_receiveBlock_22 rfl (lv_at hl 2 rfl) ?_
    refine z_get (pc := 23) (v := .ref (ad (4, i1, 0))) hF hK.1 hW (tq3 h1) rfl rfl in_Node 1 (by decide) gw_298 rfl rfl d_QC_receiveBlock_23 ?_
    refine lv_iload_n (pc := 26) hx hb d_QC_receiveBlock_26 rfl (lv_at hl 4 rfl) ?_
    have o9 := hk.1
    have hk := hk.2
    obtain ⟨S11, eS11⟩ : ∃ z : St, z = f_Store_keepBlock i1 a3 S := ⟨_, rfl⟩
    have hr := lt_e eS11 hr
    refine z_goV (pc := 27) hW hA eS11 (z_runV hF hK hW (c_Store_keepBlock l D X ad ca i1 a3 h1 S o9 _) cd_Store_keepBlock gw_640 (tq4 h1) rfl rfl ⟨Nat.le_of_ble_eq_true rfl, Nat.le_of_ble_eq_true rfl⟩ ⟨Nat.zero_le _, Nat.zero_le _⟩ rfl rfl hl.1 (Nat.le_of_ble_eq_true rfl) d_QC_receiveBlock_27) (fun H locs (hW : Wd D clQ A s.heap (zw X ad TQ (cfQ ad ca) S11) H locs) => ?_)
    refine lv_goto (pc := 30) (tgt := 42) hx hb d_QC_receiveBlock_30 (by decide) ?_
    exact z_vret hy hW hr.symm d_QC_receiveBlock_42
