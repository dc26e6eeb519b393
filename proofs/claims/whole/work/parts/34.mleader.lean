theorem d_M_leader_0 : decode b_M_leader 0 = .ok (.iload_n 0, 1) := by decide +kernel
theorem d_M_leader_1 : decode b_M_leader 1 = .ok (.iconst 1, 1) := by decide +kernel
theorem d_M_leader_2 : decode b_M_leader 2 = .ok (.isub, 1) := by decide +kernel
theorem d_M_leader_3 : decode b_M_leader 3 = .ok (.iconst 4, 1) := by decide +kernel
theorem d_M_leader_4 : decode b_M_leader 4 = .ok (.idiv, 1) := by decide +kernel
theorem d_M_leader_5 : decode b_M_leader 5 = .ok (.iconst 4, 1) := by decide +kernel
theorem d_M_leader_6 : decode b_M_leader 6 = .ok (.irem, 1) := by decide +kernel
theorem d_M_leader_7 : decode b_M_leader 7 = .ok (.ireturn, 1) := by decide +kernel
def f_M_leader (a0 : Int32) (S : St) : Int32 :=
  ((a0 - (1 : Int32)) / (4 : Int32)) - ((a0 - (1 : Int32)) / (4 : Int32)) / (4 : Int32) * (4 : Int32)
set_option maxHeartbeats 4000000 in
set_option maxRecDepth 100000 in
theorem c_M_leader (l : Launch) (D : va_G) (X : va_W) (ad : N3 → Nat) (ca : Nat → ClassId) (a0 : Int32)  (S : St) : cP l GG D clM (tysM ca) nwM (zw X ad TM (cfM ad ca) S) y_M_leader b_M_leader 1 .int 0 0 [.int a0] (.int (f_M_leader a0 S)) := by
  generalize hr : f_M_leader a0 S = res
  refine zP_of pn_M (Nat.le_of_ble_eq_true rfl) (fun p e s m below meth c ls hy hW hl => ?_)
  have hF := hy.1
  have hx := hF.1
  have hb := hF.2.1
  have hK := hy.2.2.2
  have hl : lv_has ls 1 [(0, .int a0)] := hl
  refine lv_iload_n (pc := 0) hx hb d_M_leader_0 rfl (lv_at hl 0 rfl) ?_
  refine lv_iconst (pc := 1) (v := 1) hx hb d_M_leader_1 (by decide) ?_
  refine lv_isub (pc := 2) hx hb d_M_leader_2 ?_
  refine lv_iconst (pc := 3) (v := 4) hx hb d_M_leader_3 (by decide) ?_
  refine lv_idiv (pc := 4) hx hb d_M_leader_4 (by decide) ?_
  refine lv_iconst (pc := 5) (v := 4) hx hb d_M_leader_5 (by decide) ?_
  refine lv_irem (pc := 6) hx hb d_M_leader_6 (by decide) ?_
  exact p_iret (v := ((a0 - (1 : Int32)) / (4 : Int32)) - ((a0 - (1 : Int32)) / (4 : Int32)) / (4 : Int32) * (4 : Int32)) hy hr d_M_leader_7
theorem d_M_below_0 : decode b_M_below 0 = .ok (.aload_n 0, 1) := by decide +kernel
theorem d_M_below_1 : decode b_M_below 1 = .ok (.getfield 33, 3) := by decide +kernel
theorem d_M_below_4 : decode b_M_below 4 = .ok (.iload_n 2, 1) := by decide +kernel
theorem d_M_below_5 : decode b_M_below 5 = .ok (.iaload, 1) := by decide +kernel
theorem d_M_below_6 : decode b_M_below 6 = .ok (.istore_n 3, 1) := by decide +kernel
theorem d_M_below_7 : decode b_M_below 7 = .ok (.iload_n 3, 1) := by decide +kernel
theorem d_M_below_8 : decode b_M_below 8 = .ok (.iconst (-1), 1) := by decide +kernel
theorem d_M_below_9 : decode b_M_below 9 = .ok (.if_icmp .eq 18, 3) := by decide +kernel
theorem d_M_below_12 : decode b_M_below 12 = .ok (.iload_n 3, 1) := by decide +kernel
theorem d_M_below_13 : decode b_M_below 13 = .ok (.iload_n 1, 1) := by decide +kernel
theorem d_M_below_14 : decode b_M_below 14 = .ok (.if_icmp .eq 13, 3) := by decide +kernel
theorem d_M_below_17 : decode b_M_below 17 = .ok (.aload_n 0, 1) := by decide +kernel
theorem d_M_below_18 : decode b_M_below 18 = .ok (.getfield 33, 3) := by decide +kernel
theorem d_M_below_21 : decode b_M_below 21 = .ok (.iload_n 3, 1) := by decide +kernel
theorem d_M_below_22 : decode b_M_below 22 = .ok (.iaload, 1) := by decide +kernel
theorem d_M_below_23 : decode b_M_below 23 = .ok (.istore_n 3, 1) := by decide +kernel
theorem d_M_below_24 : decode b_M_below 24 = .ok (.goto (-17), 3) := by decide +kernel
theorem d_M_below_27 : decode b_M_below 27 = .ok (.iload_n 3, 1) := by decide +kernel
theorem d_M_below_28 : decode b_M_below 28 = .ok (.iload_n 1, 1) := by decide +kernel
theorem d_M_below_29 : decode b_M_below 29 = .ok (.if_icmp .ne 7, 3) := by decide +kernel
theorem d_M_below_32 : decode b_M_below 32 = .ok (.iconst 1, 1) := by decide +kernel
theorem d_M_below_33 : decode b_M_below 33 = .ok (.goto 4, 3) := by decide +kernel
theorem d_M_below_36 : decode b_M_below 36 = .ok (.iconst 0, 1) := by decide +kernel
theorem d_M_below_37 : decode b_M_below 37 = .ok (.ireturn, 1) := by decide +kernel
def f_M_below_27 (a1 : Int32) (a2 : Int32) (S : St) (l3 : Int32) : Int32 :=
  if l3 = a1 then
    (1 : Int32)
  else
    (0 : Int32)
def ok_M_below_27 (a1 : Int32) (a2 : Int32) (S : St) (l3 : Int32) : Prop :=
  True
set_option maxHeartbeats 4000000 in
set_option maxRecDepth 100000 in
theorem w_M_below_27 {l : Launch} {D : va_G} {X : va_W} {ad : N3 → Nat} {ca : Nat → ClassId} (a1 : Int32) (a2 : Int32)  (S : St) {p : Program} {e : Env} {s : State} {m : MethodId} {below : List Frame} {meth : Method} {c : Code} (hy : Hy p s m ([.ref (ad (1, 0, 0)), .int a1, .int a2] : List Value).toArray meth c b_M_below 4 (some .boolean) R_M GG D clM (tysM ca) nwM) (hW : Wd D clM (fun _ => True) s.heap (zw X ad TM (cfM ad ca) S) s.heap []) {res : Int32} : ∀  (l3 : Int32) , ok_M_below_27 a1 a2 S l3 → f_M_below_27 a1 a2 S l3 = res → ∀ (ls : Array Slot), lv_has ls 4 [(1, .int a1), (3, .int l3)] → W p l e { frames := 0, cells := 0, slots := 0, locals := 0 } s m ([.ref (ad (1, 0, 0)), .int a1, .int a2] : List Value).toArray below meth c s.heap [] 0 0 (MQ below (eP (.int res)) ([.ref (ad (1, 0, 0)), .int a1, .int a2] : List Value).toArray s 0 0 nof) (F0 m 27 ls []) := by
  have hF := hy.1
  have hx := hF.1
  have hb := hF.2.1
  have hK := hy.2.2.2
  intro l3 hk hr ls hl
  refine lv_iload_n (pc := 27) hx hb d_M_below_27 rfl (lv_at hl 1 rfl) ?_
  refine lv_iload_n (pc := 28) hx hb d_M_below_28 rfl (lv_at hl 0 rfl) ?_
  refine lv_icmp_ne (pc := 29) (tgt := 36) hx hb d_M_below_29 (by decide) (fun c5 => ?_) (fun c5 => ?_)
  · have hr := (if_neg c5).symm.trans hr
    refine lv_iconst (pc := 36) (v := 0) hx hb d_M_below_36 (by decide) ?_
    exact p_zret (v := (0 : Int32)) hy rfl hr d_M_below_37
  · have hr := (if_pos c5).symm.trans hr
    refine lv_iconst (pc := 32) (v := 1) hx hb d_M_below_32 (by decide) ?_
    refine lv_goto (pc := 33) (tgt := 37) hx hb d_M_below_33 (by decide) ?_
    exact p_zret (v := (1 : Int32)) hy rfl hr d_M_below_37
def f_M_below_7 (a1 : Int32) (a2 : Int32) : Nat → St → Int32 → Int32
  | 0, _, _ => 0
  | n + 1, S, l3 =>
    if l3 = (-1 : Int32) then
      f_M_below_27 a1 a2 S l3
    else
      if l3 = a1 then
        f_M_below_27 a1 a2 S l3
      else
        f_M_below_7 a1 a2 n S (S.1 8 0 0 l3.toNatClampNeg)
def ok_M_below_7 (a1 : Int32) (a2 : Int32) : Nat → St → Int32 → Prop
  | 0, _, _ => False
  | n + 1, S, l3 =>
    (l3 = (-1 : Int32) → (
      ok_M_below_27 a1 a2 S l3)) ∧ (¬ (l3 = (-1 : Int32)) → (
      (l3 = a1 → (
        ok_M_below_27 a1 a2 S l3)) ∧ (¬ (l3 = a1) → (
        (vp_in l3 100) ∧ (
          ok_M_below_7 a1 a2 n S (S.1 8 0 0 l3.toNatClampNeg))))))
set_option maxHeartbeats 4000000 in
set_option maxRecDepth 100000 in
theorem w_M_below_7 {l : Launch} {D : va_G} {X : va_W} {ad : N3 → Nat} {ca : Nat → ClassId} (a1 : Int32) (a2 : Int32)  (S : St) {p : Program} {e : Env} {s : State} {m : MethodId} {below : List Frame} {meth : Method} {c : Code} (hy : Hy p s m ([.ref (ad (1, 0, 0)), .int a1, .int a2] : List Value).toArray meth c b_M_below 4 (some .boolean) R_M GG D clM (tysM ca) nwM) (hW : Wd D clM (fun _ => True) s.heap (zw X ad TM (cfM ad ca) S) s.heap []) {res : Int32} : ∀ (n : Nat) (l3 : Int32) , ok_M_below_7 a1 a2 n S l3 → f_M_below_7 a1 a2 n S l3 = res → ∀ (ls : Array Slot), lv_has ls 4 [(0, .ref (ad (1, 0, 0))), (1, .int a1), (3, .int l3)] → W p l e { frames := 0, cells := 0, slots := 0, locals := 0 } s m ([.ref (ad (1, 0, 0)), .int a1, .int a2] : List Value).toArray below meth c s.heap [] 0 0 (MQ below (eP (.int res)) ([.ref (ad (1, 0, 0)), .int a1, .int a2] : List Value).toArray s 0 0 nof) (F0 m 7 ls []) := by
  have hF := hy.1
  have hx := hF.1
  have hb := hF.2.1
  have hK := hy.2.2.2
  intro n
  induction n with
  | zero =>
    intro l3 hk
    exact hk.elim
  | succ n ih =>
    intro l3 hk hr ls hl
    refine lv_iload_n (pc := 7) hx hb d_M_below_7 rfl (lv_at hl 2 rfl) ?_
    refine lv_iconst (pc := 8) (v := -1) hx hb d_M_below_8 (by decide) ?_
    refine lv_icmp_eq (pc := 9) (tgt := 27) hx hb d_M_below_9 (by decide) (fun c2 => ?_) (fun c2 => ?_)
    · have hk := hk.1 c2
      have hr := (if_pos c2).symm.trans hr
      exact w_M_below_27 a1 a2 S hy hW l3 hk hr _ (lv_sub hl [1, 2] rfl)
    · have hk := hk.2 c2
      have hr := (if_neg c2).symm.trans hr
      refine lv_iload_n (pc := 12) hx hb d_M_below_12 rfl (lv_at hl 2 rfl) ?_
      refine lv_iload_n (pc := 13) hx hb d_M_below_13 rfl (lv_at hl 1 rfl) ?_
      refine lv_icmp_eq (pc := 14) (tgt := 27) hx hb d_M_below_14 (by decide) (fun c3 => ?_) (fun c3 => ?_)
      · have hk := hk.1 c3
        have hr := (if_pos c3).symm.trans hr
        exact w_M_below_27 a1 a2 S hy hW l3 hk hr _ (lv_sub hl [1, 2] rfl)
      · have hk := hk.2 c3
        have hr := (if_neg c3).symm.trans hr
        refine lv_aload_n (pc := 17) hx hb d_M_below_17 rfl (lv_at hl 0 rfl) ?_
        refine z_get (pc := 18) (v := .ref (ad (8, 0, 0))) hF hK.1 hW tm1 rfl rfl in_M 13 (by decide) gw_897 rfl rfl d_M_below_18 ?_
        refine lv_iload_n (pc := 21) hx hb d_M_below_21 rfl (lv_at hl 2 rfl) ?_
        have b4 := hk.1
        have hk := hk.2
        refine z_iald (pc := 22) (v := S.1 8 0 0 l3.toNatClampNeg) hF hK.1 hW tm8 0 rfl rfl b4 rfl d_M_below_22 ?_
        refine lv_istore_n (pc := 23) (lv' := [(3, .int (S.1 8 0 0 l3.toNatClampNeg)), (0, .ref (ad (1, 0, 0))), (1, .int a1)]) hx hb d_M_below_23 rfl hl (by decide) rfl (fun ls hl => ?_)
        refine lv_goto (pc := 24) (tgt := 7) hx hb d_M_below_24 (by decide) ?_
        exact ih (S.1 8 0 0 l3.toNatClampNeg) hk hr _ (lv_sub hl [1, 2, 0] rfl)
def f_M_below (a1 : Int32) (a2 : Int32) (S : St) : Int32 :=
  f_M_below_7 a1 a2 200 S (S.1 8 0 0 a2.toNatClampNeg)
def ok_M_below (a1 : Int32) (a2 : Int32) (S : St) : Prop :=
  (vp_in a2 100) ∧ (
    ok_M_below_7 a1 a2 200 S (S.1 8 0 0 a2.toNatClampNeg))
set_option maxHeartbeats 4000000 in
set_option maxRecDepth 100000 in
theorem c_M_below (l : Launch) (D : va_G) (X : va_W) (ad : N3 → Nat) (ca : Nat → ClassId) (a1 : Int32) (a2 : Int32)  (S : St) (hk : ok_M_below a1 a2 S) : cP l GG D clM (tysM ca) nwM (zw X ad TM (cfM ad ca) S) y_M_below b_M_below 4 .boolean 0 0 [.ref (ad (1, 0, 0)), .int a1, .int a2] (.int (f_M_below a1 a2 S)) := by
  generalize hr : f_M_below a1 a2 S = res
  refine zP_of pn_M (Nat.le_of_ble_eq_true rfl) (fun p e s m below meth c ls hy hW hl => ?_)
  have hF := hy.1
  have hx := hF.1
  have hb := hF.2.1
  have hK := hy.2.2.2
  have hl : lv_has ls 4 [(0, .ref (ad (1, 0, 0))), (1, .int a1), (2, .int a2)] := hl
  refine lv_aload_n (pc := 0) hx hb d_M_below_0 rfl (lv_at hl 0 rfl) ?_
  refine z_get (pc := 1) (v := .ref (ad (8, 0, 0))) hF hK.1 hW tm1 rfl rfl in_M 13 (by decide) gw_897 rfl rfl d_M_below_1 ?_
  refine lv_iload_n (pc := 4) hx hb d_M_below_4 rfl (lv_at hl 2 rfl) ?_
  have b1 := hk.1
  have hk := hk.2
  refine z_iald (pc := 5) (v := S.1 8 0 0 a2.toNatClampNeg) hF hK.1 hW tm8 0 rfl rfl b1 rfl d_M_below_5 ?_
  refine lv_istore_n (pc := 6) (lv' := [(3, .int (S.1 8 0 0 a2.toNatClampNeg)), (0, .ref (ad (1, 0, 0))), (1, .int a1), (2, .int a2)]) hx hb d_M_below_6 rfl hl (by decide) rfl (fun ls hl => ?_)
  exact w_M_below_7 a1 a2 S hy hW 200 (S.1 8 0 0 a2.toNatClampNeg) hk hr _ (lv_sub hl [1, 2, 0] rfl)
theorem d_M_inChain_0 : decode b_M_inChain 0 = .ok (.iconst 0, 1) := by decide +kernel
theorem d_M_inChain_1 : decode b_M_inChain 1 = .ok (.istore_n 3, 1) := by decide +kernel
theorem d_M_inChain_2 : decode b_M_inChain 2 = .ok (.iload_n 2, 1) := by decide +kernel
theorem d_M_inChain_3 : decode b_M_inChain 3 = .ok (.istore 4, 2) := by decide +kernel
theorem d_M_inChain_5 : decode b_M_inChain 5 = .ok (.iload 4, 2) := by decide +kernel
theorem d_M_inChain_7 : decode b_M_inChain 7 = .ok (.iconst (-1), 1) := by decide +kernel
theorem d_M_inChain_8 : decode b_M_inChain 8 = .ok (.if_icmp .eq 36, 3) := by decide +kernel
theorem d_M_inChain_11 : decode b_M_inChain 11 = .ok (.iload_n 3, 1) := by decide +kernel
theorem d_M_inChain_12 : decode b_M_inChain 12 = .ok (.ifCond .ne 14, 3) := by decide +kernel
theorem d_M_inChain_15 : decode b_M_inChain 15 = .ok (.aload_n 0, 1) := by decide +kernel
theorem d_M_inChain_16 : decode b_M_inChain 16 = .ok (.getfield 36, 3) := by decide +kernel
theorem d_M_inChain_19 : decode b_M_inChain 19 = .ok (.iload 4, 2) := by decide +kernel
theorem d_M_inChain_21 : decode b_M_inChain 21 = .ok (.iaload, 1) := by decide +kernel
theorem d_M_inChain_22 : decode b_M_inChain 22 = .ok (.iload_n 1, 1) := by decide +kernel
theorem d_M_inChain_23 : decode b_M_inChain 23 = .ok (.if_icmp .ne 7, 3) := by decide +kernel
theorem d_M_inChain_26 : decode b_M_inChain 26 = .ok (.iconst 1, 1) := by decide +kernel
theorem d_M_inChain_27 : decode b_M_inChain 27 = .ok (.goto 4, 3) := by decide +kernel
theorem d_M_inChain_30 : decode b_M_inChain 30 = .ok (.iconst 0, 1) := by decide +kernel
theorem d_M_inChain_31 : decode b_M_inChain 31 = .ok (.istore_n 3, 1) := by decide +kernel
theorem d_M_inChain_32 : decode b_M_inChain 32 = .ok (.aload_n 0, 1) := by decide +kernel
theorem d_M_inChain_33 : decode b_M_inChain 33 = .ok (.getfield 33, 3) := by decide +kernel
theorem d_M_inChain_36 : decode b_M_inChain 36 = .ok (.iload 4, 2) := by decide +kernel
theorem d_M_inChain_38 : decode b_M_inChain 38 = .ok (.iaload, 1) := by decide +kernel
theorem d_M_inChain_39 : decode b_M_inChain 39 = .ok (.istore 4, 2) := by decide +kernel
theorem d_M_inChain_41 : decode b_M_inChain 41 = .ok (.goto (-36), 3) := by decide +kernel
theorem d_M_inChain_44 : decode b_M_inChain 44 = .ok (.iload_n 3, 1) := by decide +kernel
theorem d_M_inChain_45 : decode b_M_inChain 45 = .ok (.ireturn, 1) := by decide +kernel
def f_M_inChain_5 (a1 : Int32) (a2 : Int32) : Nat → St → Int32 → Int32 → Int32
  | 0, _, _, _ => 0
  | n + 1, S, l3, l4 =>
    if l4 = (-1 : Int32) then
      l3
    else
      if l3 = 0 then
        if (S.1 9 0 0 l4.toNatClampNeg) = a1 then
          f_M_inChain_5 a1 a2 n S (1 : Int32) (S.1 8 0 0 l4.toNatClampNeg)
        else
          f_M_inChain_5 a1 a2 n S (0 : Int32) (S.1 8 0 0 l4.toNatClampNeg)
      else
        f_M_inChain_5 a1 a2 n S (1 : Int32) (S.1 8 0 0 l4.toNatClampNeg)
def ok_M_inChain_5 (a1 : Int32) (a2 : Int32) : Nat → St → Int32 → Int32 → Prop
  | 0, _, _, _ => False
  | n + 1, S, l3, l4 =>
    (l4 = (-1 : Int32) → (
      (narrow .boolean (.int l3) = .int l3) ∧ (
        True))) ∧ (¬ (l4 = (-1 : Int32)) → (
      (l3 = 0 → (
        (vp_in l4 100) ∧ (
          ((S.1 9 0 0 l4.toNatClampNeg) = a1 → (
            (vp_in l4 100) ∧ (
              ok_M_inChain_5 a1 a2 n S (1 : Int32) (S.1 8 0 0 l4.toNatClampNeg)))) ∧ (¬ ((S.1 9 0 0 l4.toNatClampNeg) = a1) → (
            (vp_in l4 100) ∧ (
              ok_M_inChain_5 a1 a2 n S (0 : Int32) (S.1 8 0 0 l4.toNatClampNeg))))))) ∧ (¬ (l3 = 0) → (
        (vp_in l4 100) ∧ (
          ok_M_inChain_5 a1 a2 n S (1 : Int32) (S.1 8 0 0 l4.toNatClampNeg))))))
set_option maxHeartbeats 4000000 in
set_option maxRecDepth 100000 in
theorem w_M_inChain_5 {l : Launch} {D : va_G} {X : va_W} {ad : N3 → Nat} {ca : Nat → ClassId} (a1 : Int32) (a2 : Int32)  (S : St) {p : Program} {e : Env} {s : State} {m : MethodId} {below : List Frame} {meth : Method} {c : Code} (hy : Hy p s m ([.ref (ad (1, 0, 0)), .int a1, .int a2] : List Value).toArray meth c b_M_inChain 5 (some .boolean) R_M GG D clM (tysM ca) nwM) (hW : Wd D clM (fun _ => True) s.heap (zw X ad TM (cfM ad ca) S) s.heap []) {res : Int32} : ∀ (n : Nat) (l3 : Int32) (l4 : Int32) , ok_M_inChain_5 a1 a2 n S l3 l4 → f_M_inChain_5 a1 a2 n S l3 l4 = res → ∀ (ls : Array Slot), lv_has ls 5 [(0, .ref (ad (1, 0, 0))), (1, .int a1), (3, .int l3), (4, .int l4)] → W p l e { frames := 0, cells := 0, slots := 0, locals := 0 } s m ([.ref (ad (1, 0, 0)), .int a1, .int a2] : List Value).toArray below meth c s.heap [] 0 0 (MQ below (eP (.int res)) ([.ref (ad (1, 0, 0)), .int a1, .int a2] : List Value).toArray s 0 0 nof) (F0 m 5 ls []) := by
  have hF := hy.1
  have hx := hF.1
  have hb := hF.2.1
  have hK := hy.2.2.2
  intro n
  induction n with
  | zero =>
    intro l3 l4 hk
    exact hk.elim
  | succ n ih =>
    intro l3 l4 hk hr ls hl
    refine lv_iload (pc := 5) hx hb d_M_inChain_5 (lv_at hl 3 rfl) ?_
    refine lv_iconst (pc := 7) (v := -1) hx hb d_M_inChain_7 (by decide) ?_
    refine lv_icmp_eq (pc := 8) (tgt := 44) hx hb d_M_inChain_8 (by decide) (fun c1 => ?_) (fun c1 => ?_)
    · have hk := hk.1 c1
      have hr := (if_pos c1).symm.trans hr
      refine lv_iload_n (pc := 44) hx hb d_M_inChain_44 rfl (lv_at hl 2 rfl) ?_
      exact p_zret (v := l3) hy hk.1 hr d_M_inChain_45
    · have hk := hk.2 c1
      have hr := (if_neg c1).symm.trans hr
      refine lv_iload_n (pc := 11) hx hb d_M_inChain_11 rfl (lv_at hl 2 rfl) ?_
      refine lv_if_ne (pc := 12) (tgt := 26) hx hb d_M_inChain_12 (by decide) (fun c2 => ?_) (fun c2 => ?_)
      · have hk := hk.2 c2
        have hr := (if_neg c2).symm.trans hr
        refine lv_iconst (pc := 26) (v := 1) hx hb d_M_inChain_26 (by decide) ?_
        refine lv_goto (pc := 27) (tgt := 31) hx hb d_M_inChain_27 (by decide) ?_
        refine lv_istore_n (pc := 31) (lv' := [(3, .int (1 : Int32)), (0, .ref (ad (1, 0, 0))), (1, .int a1), (4, .int l4)]) hx hb d_M_inChain_31 rfl hl (by decide) rfl (fun ls hl => ?_)
        refine lv_aload_n (pc := 32) hx hb d_M_inChain_32 rfl (lv_at hl 1 rfl) ?_
        refine z_get (pc := 33) (v := .ref (ad (8, 0, 0))) hF hK.1 hW tm1 rfl rfl in_M 13 (by decide) gw_897 rfl rfl d_M_inChain_33 ?_
        refine lv_iload (pc := 36) hx hb d_M_inChain_36 (lv_at hl 3 rfl) ?_
        have b3 := hk.1
        have hk := hk.2
        refine z_iald (pc := 38) (v := S.1 8 0 0 l4.toNatClampNeg) hF hK.1 hW tm8 0 rfl rfl b3 rfl d_M_inChain_38 ?_
        refine lv_istore (pc := 39) (lv' := [(4, .int (S.1 8 0 0 l4.toNatClampNeg)), (3, .int (1 : Int32)), (0, .ref (ad (1, 0, 0))), (1, .int a1)]) hx hb d_M_inChain_39 hl (by decide) rfl (fun ls hl => ?_)
        refine lv_goto (pc := 41) (tgt := 5) hx hb d_M_inChain_41 (by decide) ?_
        exact ih (1 : Int32) (S.1 8 0 0 l4.toNatClampNeg) hk hr _ (lv_sub hl [2, 3, 1, 0] rfl)
      · have hk := hk.1 c2
        have hr := (if_pos c2).symm.trans hr
        refine lv_aload_n (pc := 15) hx hb d_M_inChain_15 rfl (lv_at hl 0 rfl) ?_
        refine z_get (pc := 16) (v := .ref (ad (9, 0, 0))) hF hK.1 hW tm1 rfl rfl in_M 14 (by decide) gw_898 rfl rfl d_M_inChain_16 ?_
        refine lv_iload (pc := 19) hx hb d_M_inChain_19 (lv_at hl 3 rfl) ?_
        have b4 := hk.1
        have hk := hk.2
        refine z_iald (pc := 21) (v := S.1 9 0 0 l4.toNatClampNeg) hF hK.1 hW tm9 0 rfl rfl b4 rfl d_M_inChain_21 ?_
        refine lv_iload_n (pc := 22) hx hb d_M_inChain_22 rfl (lv_at hl 1 rfl) ?_
        refine lv_icmp_ne (pc := 23) (tgt := 30) hx hb d_M_inChain_23 (by decide) (fun c5 => ?_) (fun c5 => ?_)
        · have hk := hk.2 c5
          have hr := (if_neg c5).symm.trans hr
          refine lv_iconst (pc := 30) (v := 0) hx hb d_M_inChain_30 (by decide) ?_
          refine lv_istore_n (pc := 31) (lv' := [(3, .int (0 : Int32)), (0, .ref (ad (1, 0, 0))), (1, .int a1), (4, .int l4)]) hx hb d_M_inChain_31 rfl hl (by decide) rfl (fun ls hl => ?_)
          refine lv_aload_n (pc := 32) hx hb d_M_inChain_32 rfl (lv_at hl 1 rfl) ?_
          refine z_get (pc := 33) (v := .ref (ad (8, 0, 0))) hF hK.1 hW tm1 rfl rfl in_M 13 (by decide) gw_897 rfl rfl d_M_inChain_33 ?_
          refine lv_iload (pc := 36) hx hb d_M_inChain_36 (lv_at hl 3 rfl) ?_
          have b6 := hk.1
          have hk := hk.2
          refine z_iald (pc := 38) (v := S.1 8 0 0 l4.toNatClampNeg) hF hK.1 hW tm8 0 rfl rfl b6 rfl d_M_inChain_38 ?_
          refine lv_istore (pc := 39) (lv' := [(4, .int (S.1 8 0 0 l4.toNatClampNeg)), (3, .int (0 : Int32)), (0, .ref (ad (1, 0, 0))), (1, .int a1)]) hx hb d_M_inChain_39 hl (by decide) rfl (fun ls hl => ?_)
          refine lv_goto (pc := 41) (tgt := 5) hx hb d_M_inChain_41 (by decide) ?_
          exact ih (0 : Int32) (S.1 8 0 0 l4.toNatClampNeg) hk hr _ (lv_sub hl [2, 3, 1, 0] rfl)
        · have hk := hk.1 c5
          have hr := (if_pos c5).symm.trans hr
          refine lv_iconst (pc := 26) (v := 1) hx hb d_M_inChain_26 (by decide) ?_
          refine lv_goto (pc := 27) (tgt := 31) hx hb d_M_inChain_27 (by decide) ?_
          refine lv_istore_n (pc := 31) (lv' := [(3, .int (1 : Int32)), (0, .ref (ad (1, 0, 0))), (1, .int a1), (4, .int l4)]) hx hb d_M_inChain_31 rfl hl (by decide) rfl (fun ls hl => ?_)
          refine lv_aload_n (pc := 32) hx hb d_M_inChain_32 rfl (lv_at hl 1 rfl) ?_
          refine z_get (pc := 33) (v := .ref (ad (8, 0, 0))) hF hK.1 hW tm1 rfl rfl in_M 13 (by decide) gw_897 rfl rfl d_M_inChain_33 ?_
          refine lv_iload (pc := 36) hx hb d_M_inChain_36 (lv_at hl 3 rfl) ?_
          have b7 := hk.1
          have hk := hk.2
          refine z_iald (pc := 38) (v := S.1 8 0 0 l4.toNatClampNeg) hF hK.1 hW tm8 0 rfl rfl b7 rfl d_M_inChain_38 ?_
          refine lv_istore (pc := 39) (lv' := [(4, .int (S.1 8 0 0 l4.toNatClampNeg)), (3, .int (1 : Int32)), (0, .ref (ad (1, 0, 0))), (1, .int a1)]) hx hb d_M_inChain_39 hl (by decide) rfl (fun ls hl => ?_)
          refine lv_goto (pc := 41) (tgt := 5) hx hb d_M_inChain_41 (by decide) ?_
          exact ih (1 : Int32) (S.1 8 0 0 l4.toNatClampNeg) hk hr _ (lv_sub hl [2, 3, 1, 0] rfl)
def f_M_inChain (a1 : Int32) (a2 : Int32) (S : St) : Int32 :=
  f_M_inChain_5 a1 a2 200 S (0 : Int32) a2
def ok_M_inChain (a1 : Int32) (a2 : Int32) (S : St) : Prop :=
  ok_M_inChain_5 a1 a2 200 S (0 : Int32) a2
set_option maxHeartbeats 4000000 in
set_option maxRecDepth 100000 in
theorem c_M_inChain (l : Launch) (D : va_G) (X : va_W) (ad : N3 → Nat) (ca : Nat → ClassId) (a1 : Int32) (a2 : Int32)  (S : St) (hk : ok_M_inChain a1 a2 S) : cP l GG D clM (tysM ca) nwM (zw X ad TM (cfM ad ca) S) y_M_inChain b_M_inChain 5 .boolean 0 0 [.ref (ad (1, 0, 0)), .int a1, .int a2] (.int (f_M_inChain a1 a2 S)) := by
  generalize hr : f_M_inChain a1 a2 S = res
  refine zP_of pn_M (Nat.le_of_ble_eq_true rfl) (fun p e s m below meth c ls hy hW hl => ?_)
  have hF := hy.1
  have hx := hF.1
  have hb := hF.2.1
  have hK := hy.2.2.2
  have hl : lv_has ls 5 [(0, .ref (ad (1, 0, 0))), (1, .int a1), (2, .int a2)] := hl
  refine lv_iconst (pc := 0) (v := 0) hx hb d_M_inChain_0 (by decide) ?_
  refine lv_istore_n (pc := 1) (lv' := [(3, .int (0 : Int32)), (0, .ref (ad (1, 0, 0))), (1, .int a1), (2, .int a2)]) hx hb d_M_inChain_1 rfl hl (by decide) rfl (fun ls hl => ?_)
  refine lv_iload_n (pc := 2) hx hb d_M_inChain_2 rfl (lv_at hl 3 rfl) ?_
  refine lv_istore (pc := 3) (lv' := [(4, .int a2), (3, .int (0 : Int32)), (0, .ref (ad (1, 0, 0))), (1, .int a1), (2, .int a2)]) hx hb d_M_inChain_3 hl (by decide) rfl (fun ls hl => ?_)
  exact w_M_inChain_5 a1 a2 S hy hW 200 (0 : Int32) a2 hk hr _ (lv_sub hl [2, 3, 1, 0] rfl)
theorem d_M_newBlock_0 : decode b_M_newBlock 0 = .ok (.aload_n 0, 1) := by decide +kernel
theorem d_M_newBlock_1 : decode b_M_newBlock 1 = .ok (.getfield 30, 3) := by decide +kernel
theorem d_M_newBlock_4 : decode b_M_newBlock 4 = .ok (.aload_n 0, 1) := by decide +kernel
theorem d_M_newBlock_5 : decode b_M_newBlock 5 = .ok (.getfield 26, 3) := by decide +kernel
theorem d_M_newBlock_8 : decode b_M_newBlock 8 = .ok (.iload_n 2, 1) := by decide +kernel
theorem d_M_newBlock_9 : decode b_M_newBlock 9 = .ok (.iastore, 1) := by decide +kernel
theorem d_M_newBlock_10 : decode b_M_newBlock 10 = .ok (.aload_n 0, 1) := by decide +kernel
theorem d_M_newBlock_11 : decode b_M_newBlock 11 = .ok (.getfield 33, 3) := by decide +kernel
theorem d_M_newBlock_14 : decode b_M_newBlock 14 = .ok (.aload_n 0, 1) := by decide +kernel
theorem d_M_newBlock_15 : decode b_M_newBlock 15 = .ok (.getfield 26, 3) := by decide +kernel
theorem d_M_newBlock_18 : decode b_M_newBlock 18 = .ok (.iload_n 3, 1) := by decide +kernel
theorem d_M_newBlock_19 : decode b_M_newBlock 19 = .ok (.iastore, 1) := by decide +kernel
theorem d_M_newBlock_20 : decode b_M_newBlock 20 = .ok (.aload_n 0, 1) := by decide +kernel
theorem d_M_newBlock_21 : decode b_M_newBlock 21 = .ok (.getfield 36, 3) := by decide +kernel
theorem d_M_newBlock_24 : decode b_M_newBlock 24 = .ok (.aload_n 0, 1) := by decide +kernel
theorem d_M_newBlock_25 : decode b_M_newBlock 25 = .ok (.getfield 26, 3) := by decide +kernel
theorem d_M_newBlock_28 : decode b_M_newBlock 28 = .ok (.iload 4, 2) := by decide +kernel
theorem d_M_newBlock_30 : decode b_M_newBlock 30 = .ok (.iastore, 1) := by decide +kernel
theorem d_M_newBlock_31 : decode b_M_newBlock 31 = .ok (.aload_n 0, 1) := by decide +kernel
theorem d_M_newBlock_32 : decode b_M_newBlock 32 = .ok (.getfield 67, 3) := by decide +kernel
theorem d_M_newBlock_35 : decode b_M_newBlock 35 = .ok (.bipush 100, 2) := by decide +kernel
theorem d_M_newBlock_37 : decode b_M_newBlock 37 = .ok (.iload_n 1, 1) := by decide +kernel
theorem d_M_newBlock_38 : decode b_M_newBlock 38 = .ok (.imul, 1) := by decide +kernel
theorem d_M_newBlock_39 : decode b_M_newBlock 39 = .ok (.aload_n 0, 1) := by decide +kernel
theorem d_M_newBlock_40 : decode b_M_newBlock 40 = .ok (.getfield 26, 3) := by decide +kernel
theorem d_M_newBlock_43 : decode b_M_newBlock 43 = .ok (.iadd, 1) := by decide +kernel
theorem d_M_newBlock_44 : decode b_M_newBlock 44 = .ok (.iconst 1, 1) := by decide +kernel
theorem d_M_newBlock_45 : decode b_M_newBlock 45 = .ok (.bastore, 1) := by decide +kernel
theorem d_M_newBlock_46 : decode b_M_newBlock 46 = .ok (.aload_n 0, 1) := by decide +kernel
theorem d_M_newBlock_47 : decode b_M_newBlock 47 = .ok (.dup, 1) := by decide +kernel
theorem d_M_newBlock_48 : decode b_M_newBlock 48 = .ok (.getfield 26, 3) := by decide +kernel
theorem d_M_newBlock_51 : decode b_M_newBlock 51 = .ok (.iconst 1, 1) := by decide +kernel
theorem d_M_newBlock_52 : decode b_M_newBlock 52 = .ok (.iadd, 1) := by decide +kernel
theorem d_M_newBlock_53 : decode b_M_newBlock 53 = .ok (.putfield 26, 3) := by decide +kernel
theorem d_M_newBlock_56 : decode b_M_newBlock 56 = .ok (.aload_n 0, 1) := by decide +kernel
theorem d_M_newBlock_57 : decode b_M_newBlock 57 = .ok (.getfield 26, 3) := by decide +kernel
theorem d_M_newBlock_60 : decode b_M_newBlock 60 = .ok (.iconst 1, 1) := by decide +kernel
theorem d_M_newBlock_61 : decode b_M_newBlock 61 = .ok (.isub, 1) := by decide +kernel
theorem d_M_newBlock_62 : decode b_M_newBlock 62 = .ok (.ireturn, 1) := by decide +kernel
def f_M_newBlock (a1 : Int32) (a2 : Int32) (a3 : Int32) (a4 : Int32) (S : St) : Int32 × St :=
  lt (si S 7 0 0 ((S.1 1 0 0 11).toNatClampNeg) a2) fun (S2 : St) =>
  lt (si S2 8 0 0 ((S2.1 1 0 0 11).toNatClampNeg) a3) fun (S4 : St) =>
  lt (si S4 9 0 0 ((S4.1 1 0 0 11).toNatClampNeg) a4) fun (S6 : St) =>
  lt (si S6 19 0 0 ((((100 : Int32) * a1) + (S6.1 1 0 0 11)).toNatClampNeg) (1 : Int32)) fun (S8 : St) =>
  lt (si S8 1 0 0 11 ((S8.1 1 0 0 11) + (1 : Int32))) fun (S9 : St) =>
  ((S9.1 1 0 0 11) - (1 : Int32), S9)
def ok_M_newBlock (a1 : Int32) (a2 : Int32) (a3 : Int32) (a4 : Int32) (S : St) : Prop :=
  (vp_in (S.1 1 0 0 11) 100) ∧ (
    lt (si S 7 0 0 ((S.1 1 0 0 11).toNatClampNeg) a2) fun (S2 : St) =>
    (vp_in (S2.1 1 0 0 11) 100) ∧ (
      lt (si S2 8 0 0 ((S2.1 1 0 0 11).toNatClampNeg) a3) fun (S4 : St) =>
      (vp_in (S4.1 1 0 0 11) 100) ∧ (
        lt (si S4 9 0 0 ((S4.1 1 0 0 11).toNatClampNeg) a4) fun (S6 : St) =>
        (vp_in (((100 : Int32) * a1) + (S6.1 1 0 0 11)) 400) ∧ (
          True))))
set_option maxHeartbeats 4000000 in
set_option maxRecDepth 100000 in
theorem c_M_newBlock (l : Launch) (D : va_G) (X : va_W) (ad : N3 → Nat) (ca : Nat → ClassId) (a1 : Int32) (a2 : Int32) (a3 : Int32) (a4 : Int32)  (S : St) (hk : ok_M_newBlock a1 a2 a3 a4 S) : cI l GG D clM (tysM ca) nwM X ad TM (cfM ad ca) y_M_newBlock b_M_newBlock 5 .int 0 0 [.ref (ad (1, 0, 0)), .int a1, .int a2, .int a3, .int a4] S (f_M_newBlock a1 a2 a3 a4 S) := by
  generalize hr : f_M_newBlock a1 a2 a3 a4 S = res
  refine zI_of pn_M (Nat.le_of_ble_eq_true rfl) (fun p e s m below meth c A ls hy hW hA hl => ?_)
  have hF := hy.1
  have hx := hF.1
  have hb := hF.2.1
  have hK := hy.2.2.2
  have hl : lv_has ls 5 [(0, .ref (ad (1, 0, 0))), (1, .int a1), (2, .int a2), (3, .int a3), (4, .int a4)] := hl
  refine lv_aload_n (pc := 0) hx hb d_M_newBlock_0 rfl (lv_at hl 0 rfl) ?_
  refine z_get (pc := 1) (v := .ref (ad (7, 0, 0))) hF hK.1 hW tm1 rfl rfl in_M 12 (by decide) gw_896 rfl rfl d_M_newBlock_1 ?_
  refine lv_aload_n (pc := 4) hx hb d_M_newBlock_4 rfl (lv_at hl 0 rfl) ?_
  refine z_get (pc := 5) (v := .int (S.1 1 0 0 11)) hF hK.1 hW tm1 rfl rfl in_M 11 (by decide) gw_895 rfl rfl d_M_newBlock_5 ?_
  refine lv_iload_n (pc := 8) hx hb d_M_newBlock_8 rfl (lv_at hl 2 rfl) ?_
  have b1 := hk.1
  have hk := hk.2
  obtain ⟨S2, eS2⟩ : ∃ z : St, z = si S 7 0 0 ((S.1 1 0 0 11).toNatClampNeg) a2 := ⟨_, rfl⟩
  have hk := lt_p eS2 hk
  have hr := lt_e eS2 hr
  refine z_iast (pc := 9) (S' := S2) hF hK.1 hW tm7 0 rfl rfl b1 (zs_si eS2 rfl) (zs_sio eS2) d_M_newBlock_9 (fun H locs (hW : Wd D clM A s.heap (zw X ad TM (cfM ad ca) S2) H locs) => ?_)
  refine lv_aload_n (pc := 10) hx hb d_M_newBlock_10 rfl (lv_at hl 0 rfl) ?_
  refine z_get (pc := 11) (v := .ref (ad (8, 0, 0))) hF hK.1 hW tm1 rfl rfl in_M 13 (by decide) gw_897 rfl rfl d_M_newBlock_11 ?_
  refine lv_aload_n (pc := 14) hx hb d_M_newBlock_14 rfl (lv_at hl 0 rfl) ?_
  refine z_get (pc := 15) (v := .int (S2.1 1 0 0 11)) hF hK.1 hW tm1 rfl rfl in_M 11 (by decide) gw_895 rfl rfl d_M_newBlock_15 ?_
  refine lv_iload_n (pc := 18) hx hb d_M_newBlock_18 rfl (lv_at hl 3 rfl) ?_
  have b3 := hk.1
  have hk := hk.2
  obtain ⟨S4, eS4⟩ : ∃ z : St, z = si S2 8 0 0 ((S2.1 1 0 0 11).toNatClampNeg) a3 := ⟨_, rfl⟩
  have hk := lt_p eS4 hk
  have hr := lt_e eS4 hr
  refine z_iast (pc := 19) (S' := S4) hF hK.1 hW tm8 0 rfl rfl b3 (zs_si eS4 rfl) (zs_sio eS4) d_M_newBlock_19 (fun H locs (hW : Wd D clM A s.heap (zw X ad TM (cfM ad ca) S4) H locs) => ?_)
  refine lv_aload_n (pc := 20) hx hb d_M_newBlock_20 rfl (lv_at hl 0 rfl) ?_
  refine z_get (pc := 21) (v := .ref (ad (9, 0, 0))) hF hK.1 hW tm1 rfl rfl in_M 14 (by decide) gw_898 rfl rfl d_M_newBlock_21 ?_
  refine lv_aload_n (pc := 24) hx hb d_M_newBlock_24 rfl (lv_at hl 0 rfl) ?_
  refine z_get (pc := 25) (v := .int (S4.1 1 0 0 11)) hF hK.1 hW tm1 rfl rfl in_M 11 (by decide) gw_895 rfl rfl d_M_newBlock_25 ?_
  refine lv_iload (pc := 28) hx hb d_M_newBlock_28 (lv_at hl 4 rfl) ?_
  have b5 := hk.1
  have hk := hk.2
  obtain ⟨S6, eS6⟩ : ∃ z : St, z = si S4 9 0 0 ((S4.1 1 0 0 11).toNatClampNeg) a4 := ⟨_, rfl⟩
  have hk := lt_p eS6 hk
  have hr := lt_e eS6 hr
  refine z_iast (pc := 30) (S' := S6) hF hK.1 hW tm9 0 rfl rfl b5 (zs_si eS6 rfl) (zs_sio eS6) d_M_newBlock_30 (fun H locs (hW : Wd D clM A s.heap (zw X ad TM (cfM ad ca) S6) H locs) => ?_)
  refine lv_aload_n (pc := 31) hx hb d_M_newBlock_31 rfl (lv_at hl 0 rfl) ?_
  refine z_get (pc := 32) (v := .ref (ad (19, 0, 0))) hF hK.1 hW tm1 rfl rfl in_M 24 (by decide) gw_908 rfl rfl d_M_newBlock_32 ?_
  refine lv_bipush (pc := 35) (v := 100) hx hb d_M_newBlock_35 (by decide) ?_
  refine lv_iload_n (pc := 37) hx hb d_M_newBlock_37 rfl (lv_at hl 1 rfl) ?_
  refine lv_imul (pc := 38) hx hb d_M_newBlock_38 ?_
  refine lv_aload_n (pc := 39) hx hb d_M_newBlock_39 rfl (lv_at hl 0 rfl) ?_
  refine z_get (pc := 40) (v := .int (S6.1 1 0 0 11)) hF hK.1 hW tm1 rfl rfl in_M 11 (by decide) gw_895 rfl rfl d_M_newBlock_40 ?_
  refine lv_iadd (pc := 43) hx hb d_M_newBlock_43 ?_
  refine lv_iconst (pc := 44) (v := 1) hx hb d_M_newBlock_44 (by decide) ?_
  have b7 := hk.1
  have hk := hk.2
  obtain ⟨S8, eS8⟩ : ∃ z : St, z = si S6 19 0 0 ((((100 : Int32) * a1) + (S6.1 1 0 0 11)).toNatClampNeg) (1 : Int32) := ⟨_, rfl⟩
  have hr := lt_e eS8 hr
  refine z_zast (pc := 45) (S' := S8) hF hK.1 hW tm19 2 rfl rfl b7 (zs_si eS8 rfl) (zs_sio eS8) d_M_newBlock_45 (fun H locs (hW : Wd D clM A s.heap (zw X ad TM (cfM ad ca) S8) H locs) => ?_)
  refine lv_aload_n (pc := 46) hx hb d_M_newBlock_46 rfl (lv_at hl 0 rfl) ?_
  refine lv_dup (pc := 47) hx hb d_M_newBlock_47 rfl ?_
  refine z_get (pc := 48) (v := .int (S8.1 1 0 0 11)) hF hK.1 hW tm1 rfl rfl in_M 11 (by decide) gw_895 rfl rfl d_M_newBlock_48 ?_
  refine lv_iconst (pc := 51) (v := 1) hx hb d_M_newBlock_51 (by decide) ?_
  refine lv_iadd (pc := 52) hx hb d_M_newBlock_52 ?_
  obtain ⟨S9, eS9⟩ : ∃ z : St, z = si S8 1 0 0 11 ((S8.1 1 0 0 11) + (1 : Int32)) := ⟨_, rfl⟩
  have hr := lt_e eS9 hr
  refine z_put (pc := 53) (S' := S9) hF hK.1 hW tm1 rfl rfl in_M t_M tyo_M nmo_M 11 (by decide) gw_895 rfl rfl rfl rfl rfl (Nat.le_of_ble_eq_true rfl) (zs_si eS9 rfl) (zs_sio eS9) d_M_newBlock_53 (fun H locs (hW : Wd D clM A s.heap (zw X ad TM (cfM ad ca) S9) H locs) => ?_)
  refine lv_aload_n (pc := 56) hx hb d_M_newBlock_56 rfl (lv_at hl 0 rfl) ?_
  refine z_get (pc := 57) (v := .int (S9.1 1 0 0 11)) hF hK.1 hW tm1 rfl rfl in_M 11 (by decide) gw_895 rfl rfl d_M_newBlock_57 ?_
  refine lv_iconst (pc := 60) (v := 1) hx hb d_M_newBlock_60 (by decide) ?_
  refine lv_isub (pc := 61) hx hb d_M_newBlock_61 ?_
  exact z_iret (v := (S9.1 1 0 0 11) - (1 : Int32)) hy hW hr.symm d_M_newBlock_62
theorem d_M_enter_0 : decode b_M_enter 0 = .ok (.aload_n 0, 1) := by decide +kernel
theorem d_M_enter_1 : decode b_M_enter 1 = .ok (.getfield 46, 3) := by decide +kernel
theorem d_M_enter_4 : decode b_M_enter 4 = .ok (.iload_n 1, 1) := by decide +kernel
theorem d_M_enter_5 : decode b_M_enter 5 = .ok (.iload_n 2, 1) := by decide +kernel
theorem d_M_enter_6 : decode b_M_enter 6 = .ok (.iastore, 1) := by decide +kernel
theorem d_M_enter_7 : decode b_M_enter 7 = .ok (.aload_n 0, 1) := by decide +kernel
theorem d_M_enter_8 : decode b_M_enter 8 = .ok (.getfield 49, 3) := by decide +kernel
theorem d_M_enter_11 : decode b_M_enter 11 = .ok (.iload_n 1, 1) := by decide +kernel
theorem d_M_enter_12 : decode b_M_enter 12 = .ok (.aload_n 0, 1) := by decide +kernel
theorem d_M_enter_13 : decode b_M_enter 13 = .ok (.getfield 52, 3) := by decide +kernel
theorem d_M_enter_16 : decode b_M_enter 16 = .ok (.iload_n 1, 1) := by decide +kernel
theorem d_M_enter_17 : decode b_M_enter 17 = .ok (.iaload, 1) := by decide +kernel
theorem d_M_enter_18 : decode b_M_enter 18 = .ok (.iastore, 1) := by decide +kernel
theorem d_M_enter_19 : decode b_M_enter 19 = .ok (.return_, 1) := by decide +kernel
def f_M_enter (a1 : Int32) (a2 : Int32) (S : St) : St :=
  lt (si S 12 0 0 (a1.toNatClampNeg) a2) fun (S2 : St) =>
  lt (si S2 13 0 0 (a1.toNatClampNeg) (S2.1 14 0 0 a1.toNatClampNeg)) fun (S5 : St) =>
  S5
def ok_M_enter (a1 : Int32) (a2 : Int32) (S : St) : Prop :=
  (vp_in a1 4) ∧ (
    lt (si S 12 0 0 (a1.toNatClampNeg) a2) fun (S2 : St) =>
    (vp_in a1 4) ∧ (
      (vp_in a1 4) ∧ (
        True)))
set_option maxHeartbeats 4000000 in
set_option maxRecDepth 100000 in
theorem c_M_enter (l : Launch) (D : va_G) (X : va_W) (ad : N3 → Nat) (ca : Nat → ClassId) (a1 : Int32) (a2 : Int32)  (S : St) (hk : ok_M_enter a1 a2 S) : cV l GG D clM (tysM ca) nwM X ad TM (cfM ad ca) y_M_enter b_M_enter 3 0 0 [.ref (ad (1, 0, 0)), .int a1, .int a2] S (f_M_enter a1 a2 S) := by
  generalize hr : f_M_enter a1 a2 S = res
  refine zV_of pn_M (Nat.le_of_ble_eq_true rfl) (fun p e s m below meth c A ls hy hW hA hl => ?_)
  have hF := hy.1
  have hx := hF.1
  have hb := hF.2.1
  have hK := hy.2.2.2
  have hl : lv_has ls 3 [(0, .ref (ad (1, 0, 0))), (1, .int a1), (2, .int a2)] := hl
  refine lv_aload_n (pc := 0) hx hb d_M_enter_0 rfl (lv_at hl 0 rfl) ?_
  refine z_get (pc := 1) (v := .ref (ad (12, 0, 0))) hF hK.1 hW tm1 rfl rfl in_M 17 (by decide) gw_901 rfl rfl d_M_enter_1 ?_
  refine lv_iload_n (pc := 4) hx hb d_M_enter_4 rfl (lv_at hl 1 rfl) ?_
  refine lv_iload_n (pc := 5) hx hb d_M_enter_5 rfl (lv_at hl 2 rfl) ?_
  have b1 := hk.1
  have hk := hk.2
  obtain ⟨S2, eS2⟩ : ∃ z : St, z = si S 12 0 0 (a1.toNatClampNeg) a2 := ⟨_, rfl⟩
  have hk := lt_p eS2 hk
  have hr := lt_e eS2 hr
  refine z_iast (pc := 6) (S' := S2) hF hK.1 hW tm12 0 rfl rfl b1 (zs_si eS2 rfl) (zs_sio eS2) d_M_enter_6 (fun H locs (hW : Wd D clM A s.heap (zw X ad TM (cfM ad ca) S2) H locs) => ?_)
  refine lv_aload_n (pc := 7) hx hb d_M_enter_7 rfl (lv_at hl 0 rfl) ?_
  refine z_get (pc := 8) (v := .ref (ad (13, 0, 0))) hF hK.1 hW tm1 rfl rfl in_M 18 (by decide) gw_902 rfl rfl d_M_enter_8 ?_
  refine lv_iload_n (pc := 11) hx hb d_M_enter_11 rfl (lv_at hl 1 rfl) ?_
  refine lv_aload_n (pc := 12) hx hb d_M_enter_12 rfl (lv_at hl 0 rfl) ?_
  refine z_get (pc := 13) (v := .ref (ad (14, 0, 0))) hF hK.1 hW tm1 rfl rfl in_M 19 (by decide) gw_903 rfl rfl d_M_enter_13 ?_
  refine lv_iload_n (pc := 16) hx hb d_M_enter_16 rfl (lv_at hl 1 rfl) ?_
  have b3 := hk.1
  have hk := hk.2
  refine z_iald (pc := 17) (v := S2.1 14 0 0 a1.toNatClampNeg) hF hK.1 hW tm14 0 rfl rfl b3 rfl d_M_enter_17 ?_
  have b4 := hk.1
  have hk := hk.2
  obtain ⟨S5, eS5⟩ : ∃ z : St, z = si S2 13 0 0 (a1.toNatClampNeg) (S2.1 14 0 0 a1.toNatClampNeg) := ⟨_, rfl⟩
  have hr := lt_e eS5 hr
  refine z_iast (pc := 18) (S' := S5) hF hK.1 hW tm13 0 rfl rfl b4 (zs_si eS5 rfl) (zs_sio eS5) d_M_enter_18 (fun H locs (hW : Wd D clM A s.heap (zw X ad TM (cfM ad ca) S5) H locs) => ?_)
  exact z_vret hy hW hr.symm d_M_enter_19
