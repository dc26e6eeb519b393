theorem d_Integer_bitCount_0 : decode b_Integer_bitCount 0 = .ok (.iload_n 0, 1) := by decide +kernel
theorem d_Integer_bitCount_1 : decode b_Integer_bitCount 1 = .ok (.iload_n 0, 1) := by decide +kernel
theorem d_Integer_bitCount_2 : decode b_Integer_bitCount 2 = .ok (.iconst 1, 1) := by decide +kernel
theorem d_Integer_bitCount_3 : decode b_Integer_bitCount 3 = .ok (.iushr, 1) := by decide +kernel
theorem d_Integer_bitCount_4 : decode b_Integer_bitCount 4 = .ok (.ldc_w 265, 3) := by decide +kernel
theorem d_Integer_bitCount_7 : decode b_Integer_bitCount 7 = .ok (.iand, 1) := by decide +kernel
theorem d_Integer_bitCount_8 : decode b_Integer_bitCount 8 = .ok (.isub, 1) := by decide +kernel
theorem d_Integer_bitCount_9 : decode b_Integer_bitCount 9 = .ok (.istore_n 0, 1) := by decide +kernel
theorem d_Integer_bitCount_10 : decode b_Integer_bitCount 10 = .ok (.iload_n 0, 1) := by decide +kernel
theorem d_Integer_bitCount_11 : decode b_Integer_bitCount 11 = .ok (.ldc_w 266, 3) := by decide +kernel
theorem d_Integer_bitCount_14 : decode b_Integer_bitCount 14 = .ok (.iand, 1) := by decide +kernel
theorem d_Integer_bitCount_15 : decode b_Integer_bitCount 15 = .ok (.iload_n 0, 1) := by decide +kernel
theorem d_Integer_bitCount_16 : decode b_Integer_bitCount 16 = .ok (.iconst 2, 1) := by decide +kernel
theorem d_Integer_bitCount_17 : decode b_Integer_bitCount 17 = .ok (.iushr, 1) := by decide +kernel
theorem d_Integer_bitCount_18 : decode b_Integer_bitCount 18 = .ok (.ldc_w 266, 3) := by decide +kernel
theorem d_Integer_bitCount_21 : decode b_Integer_bitCount 21 = .ok (.iand, 1) := by decide +kernel
theorem d_Integer_bitCount_22 : decode b_Integer_bitCount 22 = .ok (.iadd, 1) := by decide +kernel
theorem d_Integer_bitCount_23 : decode b_Integer_bitCount 23 = .ok (.istore_n 0, 1) := by decide +kernel
theorem d_Integer_bitCount_24 : decode b_Integer_bitCount 24 = .ok (.iload_n 0, 1) := by decide +kernel
theorem d_Integer_bitCount_25 : decode b_Integer_bitCount 25 = .ok (.iload_n 0, 1) := by decide +kernel
theorem d_Integer_bitCount_26 : decode b_Integer_bitCount 26 = .ok (.iconst 4, 1) := by decide +kernel
theorem d_Integer_bitCount_27 : decode b_Integer_bitCount 27 = .ok (.iushr, 1) := by decide +kernel
theorem d_Integer_bitCount_28 : decode b_Integer_bitCount 28 = .ok (.iadd, 1) := by decide +kernel
theorem d_Integer_bitCount_29 : decode b_Integer_bitCount 29 = .ok (.ldc_w 267, 3) := by decide +kernel
theorem d_Integer_bitCount_32 : decode b_Integer_bitCount 32 = .ok (.iand, 1) := by decide +kernel
theorem d_Integer_bitCount_33 : decode b_Integer_bitCount 33 = .ok (.istore_n 0, 1) := by decide +kernel
theorem d_Integer_bitCount_34 : decode b_Integer_bitCount 34 = .ok (.iload_n 0, 1) := by decide +kernel
theorem d_Integer_bitCount_35 : decode b_Integer_bitCount 35 = .ok (.iload_n 0, 1) := by decide +kernel
theorem d_Integer_bitCount_36 : decode b_Integer_bitCount 36 = .ok (.bipush 8, 2) := by decide +kernel
theorem d_Integer_bitCount_38 : decode b_Integer_bitCount 38 = .ok (.iushr, 1) := by decide +kernel
theorem d_Integer_bitCount_39 : decode b_Integer_bitCount 39 = .ok (.iadd, 1) := by decide +kernel
theorem d_Integer_bitCount_40 : decode b_Integer_bitCount 40 = .ok (.istore_n 0, 1) := by decide +kernel
theorem d_Integer_bitCount_41 : decode b_Integer_bitCount 41 = .ok (.iload_n 0, 1) := by decide +kernel
theorem d_Integer_bitCount_42 : decode b_Integer_bitCount 42 = .ok (.iload_n 0, 1) := by decide +kernel
theorem d_Integer_bitCount_43 : decode b_Integer_bitCount 43 = .ok (.bipush 16, 2) := by decide +kernel
theorem d_Integer_bitCount_45 : decode b_Integer_bitCount 45 = .ok (.iushr, 1) := by decide +kernel
theorem d_Integer_bitCount_46 : decode b_Integer_bitCount 46 = .ok (.iadd, 1) := by decide +kernel
theorem d_Integer_bitCount_47 : decode b_Integer_bitCount 47 = .ok (.istore_n 0, 1) := by decide +kernel
theorem d_Integer_bitCount_48 : decode b_Integer_bitCount 48 = .ok (.iload_n 0, 1) := by decide +kernel
theorem d_Integer_bitCount_49 : decode b_Integer_bitCount 49 = .ok (.bipush 63, 2) := by decide +kernel
theorem d_Integer_bitCount_51 : decode b_Integer_bitCount 51 = .ok (.iand, 1) := by decide +kernel
theorem d_Integer_bitCount_52 : decode b_Integer_bitCount 52 = .ok (.ireturn, 1) := by decide +kernel
def f_Integer_bitCount (a0 : Int32) (S : St) : Int32 :=
  (((((((a0 - (((a0.toUInt32 >>> ((1 : Int32).toUInt32 &&& Int32.toUInt32 31)).toInt32) &&& (1431655765 : Int32))) &&& (858993459 : Int32)) + ((((a0 - (((a0.toUInt32 >>> ((1 : Int32).toUInt32 &&& Int32.toUInt32 31)).toInt32) &&& (1431655765 : Int32))).toUInt32 >>> ((2 : Int32).toUInt32 &&& Int32.toUInt32 31)).toInt32) &&& (858993459 : Int32))) + (((((a0 - (((a0.toUInt32 >>> ((1 : Int32).toUInt32 &&& Int32.toUInt32 31)).toInt32) &&& (1431655765 : Int32))) &&& (858993459 : Int32)) + ((((a0 - (((a0.toUInt32 >>> ((1 : Int32).toUInt32 &&& Int32.toUInt32 31)).toInt32) &&& (1431655765 : Int32))).toUInt32 >>> ((2 : Int32).toUInt32 &&& Int32.toUInt32 31)).toInt32) &&& (858993459 : Int32))).toUInt32 >>> ((4 : Int32).toUInt32 &&& Int32.toUInt32 31)).toInt32)) &&& (252645135 : Int32)) + (((((((a0 - (((a0.toUInt32 >>> ((1 : Int32).toUInt32 &&& Int32.toUInt32 31)).toInt32) &&& (1431655765 : Int32))) &&& (858993459 : Int32)) + ((((a0 - (((a0.toUInt32 >>> ((1 : Int32).toUInt32 &&& Int32.toUInt32 31)).toInt32) &&& (1431655765 : Int32))).toUInt32 >>> ((2 : Int32).toUInt32 &&& Int32.toUInt32 31)).toInt32) &&& (858993459 : Int32))) + (((((a0 - (((a0.toUInt32 >>> ((1 : Int32).toUInt32 &&& Int32.toUInt32 31)).toInt32) &&& (1431655765 : Int32))) &&& (858993459 : Int32)) + ((((a0 - (((a0.toUInt32 >>> ((1 : Int32).toUInt32 &&& Int32.toUInt32 31)).toInt32) &&& (1431655765 : Int32))).toUInt32 >>> ((2 : Int32).toUInt32 &&& Int32.toUInt32 31)).toInt32) &&& (858993459 : Int32))).toUInt32 >>> ((4 : Int32).toUInt32 &&& Int32.toUInt32 31)).toInt32)) &&& (252645135 : Int32)).toUInt32 >>> ((8 : Int32).toUInt32 &&& Int32.toUInt32 31)).toInt32)) + ((((((((a0 - (((a0.toUInt32 >>> ((1 : Int32).toUInt32 &&& Int32.toUInt32 31)).toInt32) &&& (1431655765 : Int32))) &&& (858993459 : Int32)) + ((((a0 - (((a0.toUInt32 >>> ((1 : Int32).toUInt32 &&& Int32.toUInt32 31)).toInt32) &&& (1431655765 : Int32))).toUInt32 >>> ((2 : Int32).toUInt32 &&& Int32.toUInt32 31)).toInt32) &&& (858993459 : Int32))) + (((((a0 - (((a0.toUInt32 >>> ((1 : Int32).toUInt32 &&& Int32.toUInt32 31)).toInt32) &&& (1431655765 : Int32))) &&& (858993459 : Int32)) + ((((a0 - (((a0.toUInt32 >>> ((1 : Int32).toUInt32 &&& Int32.toUInt32 31)).toInt32) &&& (1431655765 : Int32))).toUInt32 >>> ((2 : Int32).toUInt32 &&& Int32.toUInt32 31)).toInt32) &&& (858993459 : Int32))).toUInt32 >>> ((4 : Int32).toUInt32 &&& Int32.toUInt32 31)).toInt32)) &&& (252645135 : Int32)) + (((((((a0 - (((a0.toUInt32 >>> ((1 : Int32).toUInt32 &&& Int32.toUInt32 31)).toInt32) &&& (1431655765 : Int32))) &&& (858993459 : Int32)) + ((((a0 - (((a0.toUInt32 >>> ((1 : Int32).toUInt32 &&& Int32.toUInt32 31)).toInt32) &&& (1431655765 : Int32))).toUInt32 >>> ((2 : Int32).toUInt32 &&& Int32.toUInt32 31)).toInt32) &&& (858993459 : Int32))) + (((((a0 - (((a0.toUInt32 >>> ((1 : Int32).toUInt32 &&& Int32.toUInt32 31)).toInt32) &&& (1431655765 : Int32))) &&& (858993459 : Int32)) + ((((a0 - (((a0.toUInt32 >>> ((1 : Int32).toUInt32 &&& Int32.toUInt32 31)).toInt32) &&& (1431655765 : Int32))).toUInt32 >>> ((2 : Int32).toUInt32 &&& Int32.toUInt32 31)).toInt32) &&& (858993459 : Int32))).toUInt32 >>> ((4 : Int32).toUInt32 &&& Int32.toUInt32 31)).toInt32)) &&& (252645135 : Int32)).toUInt32 >>> ((8 : Int32).toUInt32 &&& Int32.toUInt32 31)).toInt32)).toUInt32 >>> ((16 : Int32).toUInt32 &&& Int32.toUInt32 31)).toInt32)) &&& (63 : Int32)
set_option maxHeartbeats 4000000 in
set_option maxRecDepth 100000 in
theorem c_Integer_bitCount (l : Launch) (D : va_G) (X : va_W) (ad : N3 → Nat) (ca : Nat → ClassId) (a0 : Int32)  (S : St) : cP l GG D clQ (tysQ ca) nwQ (zw X ad TQ (cfQ ad ca) S) y_Integer_bitCount b_Integer_bitCount 1 .int 0 0 [.int a0] (.int (f_Integer_bitCount a0 S)) := by
  generalize hr : f_Integer_bitCount a0 S = res
  refine zP_of pn_Integer (Nat.le_of_ble_eq_true rfl) (fun p e s m below meth c ls hy hW hl => ?_)
  have hF := hy.1
  have hx := hF.1
  have hb := hF.2.1
  have hK := hy.2.2.2
  have hl : lv_has ls 1 [(0, .int a0)] := hl
  refine lv_iload_n (pc := 0) hx hb d_Integer_bitCount_0 rfl (lv_at hl 0 rfl) ?_
  refine lv_iload_n (pc := 1) hx hb d_Integer_bitCount_1 rfl (lv_at hl 0 rfl) ?_
  refine lv_iconst (pc := 2) (v := 1) hx hb d_Integer_bitCount_2 (by decide) ?_
  refine lv_iushr (pc := 3) hx hb d_Integer_bitCount_3 rfl ?_
  refine lv_ldcw (pc := 4) hx hb hF.2.2.2.1 (hF.2.2.2.2 _ gw_754) d_Integer_bitCount_4 ?_
  refine lv_iand (pc := 7) hx hb d_Integer_bitCount_7 ?_
  refine lv_isub (pc := 8) hx hb d_Integer_bitCount_8 ?_
  refine lv_istore_n (pc := 9) (lv' := [(0, .int (a0 - (((a0.toUInt32 >>> ((1 : Int32).toUInt32 &&& Int32.toUInt32 31)).toInt32) &&& (1431655765 : Int32))))]) hx hb d_Integer_bitCount_9 rfl hl (by decide) rfl (fun ls hl => ?_)
  refine lv_iload_n (pc := 10) hx hb d_Integer_bitCount_10 rfl (lv_at hl 0 rfl) ?_
  refine lv_ldcw (pc := 11) hx hb hF.2.2.2.1 (hF.2.2.2.2 _ gw_755) d_Integer_bitCount_11 ?_
  refine lv_iand (pc := 14) hx hb d_Integer_bitCount_14 ?_
  refine lv_iload_n (pc := 15) hx hb d_Integer_bitCount_15 rfl (lv_at hl 0 rfl) ?_
  refine lv_iconst (pc := 16) (v := 2) hx hb d_Integer_bitCount_16 (by decide) ?_
  refine lv_iushr (pc := 17) hx hb d_Integer_bitCount_17 rfl ?_
  refine lv_ldcw (pc := 18) hx hb hF.2.2.2.1 (hF.2.2.2.2 _ gw_755) d_Integer_bitCount_18 ?_
  refine lv_iand (pc := 21) hx hb d_Integer_bitCount_21 ?_
  refine lv_iadd (pc := 22) hx hb d_Integer_bitCount_22 ?_
  refine lv_istore_n (pc := 23) (lv' := [(0, .int (((a0 - (((a0.toUInt32 >>> ((1 : Int32).toUInt32 &&& Int32.toUInt32 31)).toInt32) &&& (1431655765 : Int32))) &&& (858993459 : Int32)) + ((((a0 - (((a0.toUInt32 >>> ((1 : Int32).toUInt32 &&& Int32.toUInt32 31)).toInt32) &&& (1431655765 : Int32))).toUInt32 >>> ((2 : Int32).toUInt32 &&& Int32.toUInt32 31)).toInt32) &&& (858993459 : Int32))))]) hx hb d_Integer_bitCount_23 rfl hl (by decide) rfl (fun ls hl => ?_)
  refine lv_iload_n (pc := 24) hx hb d_Integer_bitCount_24 rfl (lv_at hl 0 rfl) ?_
  refine lv_iload_n (pc := 25) hx hb d_Integer_bitCount_25 rfl (lv_at hl 0 rfl) ?_
  refine lv_iconst (pc := 26) (v := 4) hx hb d_Integer_bitCount_26 (by decide) ?_
  refine lv_iushr (pc := 27) hx hb d_Integer_bitCount_27 rfl ?_
  refine lv_iadd (pc := 28) hx hb d_Integer_bitCount_28 ?_
  refine lv_ldcw (pc := 29) hx hb hF.2.2.2.1 (hF.2.2.2.2 _ gw_756) d_Integer_bitCount_29 ?_
  refine lv_iand (pc := 32) hx hb d_Integer_bitCount_32 ?_
  refine lv_istore_n (pc := 33) (lv' := [(0, .int (((((a0 - (((a0.toUInt32 >>> ((1 : Int32).toUInt32 &&& Int32.toUInt32 31)).toInt32) &&& (1431655765 : Int32))) &&& (858993459 : Int32)) + ((((a0 - (((a0.toUInt32 >>> ((1 : Int32).toUInt32 &&& Int32.toUInt32 31)).toInt32) &&& (1431655765 : Int32))).toUInt32 >>> ((2 : Int32).toUInt32 &&& Int32.toUInt32 31)).toInt32) &&& (858993459 : Int32))) + (((((a0 - (((a0.toUInt32 >>> ((1 : Int32).toUInt32 &&& Int32.toUInt32 31)).toInt32) &&& (1431655765 : Int32))) &&& (858993459 : Int32)) + ((((a0 - (((a0.toUInt32 >>> ((1 : Int32).toUInt32 &&& Int32.toUInt32 31)).toInt32) &&& (1431655765 : Int32))).toUInt32 >>> ((2 : Int32).toUInt32 &&& Int32.toUInt32 31)).toInt32) &&& (858993459 : Int32))).toUInt32 >>> ((4 : Int32).toUInt32 &&& Int32.toUInt32 31)).toInt32)) &&& (252645135 : Int32)))]) hx hb d_Integer_bitCount_33 rfl hl (by decide) rfl (fun ls hl => ?_)
  refine lv_iload_n (pc := 34) hx hb d_Integer_bitCount_34 rfl (lv_at hl 0 rfl) ?_
  refine lv_iload_n (pc := 35) hx hb d_Integer_bitCount_35 rfl (lv_at hl 0 rfl) ?_
  refine lv_bipush (pc := 36) (v := 8) hx hb d_Integer_bitCount_36 (by decide) ?_
  refine lv_iushr (pc := 38) hx hb d_Integer_bitCount_38 rfl ?_
  refine lv_iadd (pc := 39) hx hb d_Integer_bitCount_39 ?_
  refine lv_istore_n (pc := 40) (lv' := [(0, .int ((((((a0 - (((a0.toUInt32 >>> ((1 : Int32).toUInt32 &&& Int32.toUInt32 31)).toInt32) &&& (1431655765 : Int32))) &&& (858993459 : Int32)) + ((((a0 - (((a0.toUInt32 >>> ((1 : Int32).toUInt32 &&& Int32.toUInt32 31)).toInt32) &&& (1431655765 : Int32))).toUInt32 >>> ((2 : Int32).toUInt32 &&& Int32.toUInt32 31)).toInt32) &&& (858993459 : Int32))) + (((((a0 - (((a0.toUInt32 >>> ((1 : Int32).toUInt32 &&& Int32.toUInt32 31)).toInt32) &&& (1431655765 : Int32))) &&& (858993459 : Int32)) + ((((a0 - (((a0.toUInt32 >>> ((1 : Int32).toUInt32 &&& Int32.toUInt32 31)).toInt32) &&& (1431655765 : Int32))).toUInt32 >>> ((2 : Int32).toUInt32 &&& Int32.toUInt32 31)).toInt32) &&& (858993459 : Int32))).toUInt32 >>> ((4 : Int32).toUInt32 &&& Int32.toUInt32 31)).toInt32)) &&& (252645135 : Int32)) + (((((((a0 - (((a0.toUInt32 >>> ((1 : Int32).toUInt32 &&& Int32.toUInt32 31)).toInt32) &&& (1431655765 : Int32))) &&& (858993459 : Int32)) + ((((a0 - (((a0.toUInt32 >>> ((1 : Int32).toUInt32 &&& Int32.toUInt32 31)).toInt32) &&& (1431655765 : Int32))).toUInt32 >>> ((2 : Int32).toUInt32 &&& Int32.toUInt32 31)).toInt32) &&& (858993459 : Int32))) + (((((a0 - (((a0.toUInt32 >>> ((1 : Int32).toUInt32 &&& Int32.toUInt32 31)).toInt32) &&& (1431655765 : Int32))) &&& (858993459 : Int32)) + ((((a0 - (((a0.toUInt32 >>> ((1 : Int32).toUInt32 &&& Int32.toUInt32 31)).toInt32) &&& (1431655765 : Int32))).toUInt32 >>> ((2 : Int32).toUInt32 &&& Int32.toUInt32 31)).toInt32) &&& (858993459 : Int32))).toUInt32 >>> ((4 : Int32).toUInt32 &&& Int32.toUInt32 31)).toInt32)) &&& (252645135 : Int32)).toUInt32 >>> ((8 : Int32).toUInt32 &&& Int32.toUInt32 31)).toInt32)))]) hx hb d_Integer_bitCount_40 rfl hl (by decide) rfl (fun ls hl => ?_)
  refine lv_iload_n (pc := 41) hx hb d_Integer_bitCount_41 rfl (lv_at hl 0 rfl) ?_
  refine lv_iload_n (pc := 42) hx hb d_Integer_bitCount_42 rfl (lv_at hl 0 rfl) ?_
  refine lv_bipush (pc := 43) (v := 16) hx hb d_Integer_bitCount_43 (by decide) ?_
  refine lv_iushr (pc := 45) hx hb d_Integer_bitCount_45 rfl ?_
  refine lv_iadd (pc := 46) hx hb d_Integer_bitCount_46 ?_
  refine lv_istore_n (pc := 47) (lv' := [(0, .int (((((((a0 - (((a0.toUInt32 >>> ((1 : Int32).toUInt32 &&& Int32.toUInt32 31)).toInt32) &&& (1431655765 : Int32))) &&& (858993459 : Int32)) + ((((a0 - (((a0.toUInt32 >>> ((1 : Int32).toUInt32 &&& Int32.toUInt32 31)).toInt32) &&& (1431655765 : Int32))).toUInt32 >>> ((2 : Int32).toUInt32 &&& Int32.toUInt32 31)).toInt32) &&& (858993459 : Int32))) + (((((a0 - (((a0.toUInt32 >>> ((1 : Int32).toUInt32 &&& Int32.toUInt32 31)).toInt32) &&& (1431655765 : Int32))) &&& (858993459 : Int32)) + ((((a0 - (((a0.toUInt32 >>> ((1 : Int32).toUInt32 &&& Int32.toUInt32 31)).toInt32) &&& (1431655765 : Int32))).toUInt32 >>> ((2 : Int32).toUInt32 &&& Int32.toUInt32 31)).toInt32) &&& (858993459 : Int32))).toUInt32 >>> ((4 : Int32).toUInt32 &&& Int32.toUInt32 31)).toInt32)) &&& (252645135 : Int32)) + (((((((a0 - (((a0.toUInt32 >>> ((1 : Int32).toUInt32 &&& Int32.toUInt32 31)).toInt32) &&& (1431655765 : Int32))) &&& (858993459 : Int32)) + ((((a0 - (((a0.toUInt32 >>> ((1 : Int32).toUInt32 &&& Int32.toUInt32 31)).toInt32) &&& (1431655765 : Int32))).toUInt32 >>> ((2 : Int32).toUInt32 &&& Int32.toUInt32 31)).toInt32) &&& (858993459 : Int32))) + (((((a0 - (((a0.toUInt32 >>> ((1 : Int32).toUInt32 &&& Int32.toUInt32 31)).toInt32) &&& (1431655765 : Int32))) &&& (858993459 : Int32)) + ((((a0 - (((a0.toUInt32 >>> ((1 : Int32).toUInt32 &&& Int32.toUInt32 31)).toInt32) &&& (1431655765 : Int32))).toUInt32 >>> ((2 : Int32).toUInt32 &&& Int32.toUInt32 31)).toInt32) &&& (858993459 : Int32))).toUInt32 >>> ((4 : Int32).toUInt32 &&& Int32.toUInt32 31)).toInt32)) &&& (252645135 : Int32)).toUInt32 >>> ((8 : Int32).toUInt32 &&& Int32.toUInt32 31)).toInt32)) + ((((((((a0 - (((a0.toUInt32 >>> ((1 : Int32).toUInt32 &&& Int32.toUInt32 31)).toInt32) &&& (1431655765 : Int32))) &&& (858993459 : Int32)) + ((((a0 - (((a0.toUInt32 >>> ((1 : Int32).toUInt32 &&& Int32.toUInt32 31)).toInt32) &&& (1431655765 : Int32))).toUInt32 >>> ((2 : Int32).toUInt32 &&& Int32.toUInt32 31)).toInt32) &&& (858993459 : Int32))) + (((((a0 - (((a0.toUInt32 >>> ((1 : Int32).toUInt32 &&& Int32.toUInt32 31)).toInt32) &&& (1431655765 : Int32))) &&& (858993459 : Int32)) + ((((a0 - (((a0.toUInt32 >>> ((1 : Int32).toUInt32 &&& Int32.toUInt32 31)).toInt32) &&& (1431655765 : Int32))).toUInt32 >>> ((2 : Int32).toUInt32 &&& Int32.toUInt32 31)).toInt32) &&& (858993459 : Int32))).toUInt32 >>> ((4 : Int32).toUInt32 &&& Int32.toUInt32 31)).toInt32)) &&& (252645135 : Int32)) + (((((((a0 - (((a0.toUInt32 >>> ((1 : Int32).toUInt32 &&& Int32.toUInt32 31)).toInt32) &&& (1431655765 : Int32))) &&& (858993459 : Int32)) + ((((a0 - (((a0.toUInt32 >>> ((1 : Int32).toUInt32 &&& Int32.toUInt32 31)).toInt32) &&& (1431655765 : Int32))).toUInt32 >>> ((2 : Int32).toUInt32 &&& Int32.toUInt32 31)).toInt32) &&& (858993459 : Int32))) + (((((a0 - (((a0.toUInt32 >>> ((1 : Int32).toUInt32 &&& Int32.toUInt32 31)).toInt32) &&& (1431655765 : Int32))) &&& (858993459 : Int32)) + ((((a0 - (((a0.toUInt32 >>> ((1 : Int32).toUInt32 &&& Int32.toUInt32 31)).toInt32) &&& (1431655765 : Int32))).toUInt32 >>> ((2 : Int32).toUInt32 &&& Int32.toUInt32 31)).toInt32) &&& (858993459 : Int32))).toUInt32 >>> ((4 : Int32).toUInt32 &&& Int32.toUInt32 31)).toInt32)) &&& (252645135 : Int32)).toUInt32 >>> ((8 : Int32).toUInt32 &&& Int32.toUInt32 31)).toInt32)).toUInt32 >>> ((16 : Int32).toUInt32 &&& Int32.toUInt32 31)).toInt32)))]) hx hb d_Integer_bitCount_47 rfl hl (by decide) rfl (fun ls hl => ?_)
  refine lv_iload_n (pc := 48) hx hb d_Integer_bitCount_48 rfl (lv_at hl 0 rfl) ?_
  refine lv_bipush (pc := 49) (v := 63) hx hb d_Integer_bitCount_49 (by decide) ?_
  refine lv_iand (pc := 51) hx hb d_Integer_bitCount_51 ?_
  exact p_iret (v := (((((((a0 - (((a0.toUInt32 >>> ((1 : Int32).toUInt32 &&& Int32.toUInt32 31)).toInt32) &&& (1431655765 : Int32))) &&& (858993459 : Int32)) + ((((a0 - (((a0.toUInt32 >>> ((1 : Int32).toUInt32 &&& Int32.toUInt32 31)).toInt32) &&& (1431655765 : Int32))).toUInt32 >>> ((2 : Int32).toUInt32 &&& Int32.toUInt32 31)).toInt32) &&& (858993459 : Int32))) + (((((a0 - (((a0.toUInt32 >>> ((1 : Int32).toUInt32 &&& Int32.toUInt32 31)).toInt32) &&& (1431655765 : Int32))) &&& (858993459 : Int32)) + ((((a0 - (((a0.toUInt32 >>> ((1 : Int32).toUInt32 &&& Int32.toUInt32 31)).toInt32) &&& (1431655765 : Int32))).toUInt32 >>> ((2 : Int32).toUInt32 &&& Int32.toUInt32 31)).toInt32) &&& (858993459 : Int32))).toUInt32 >>> ((4 : Int32).toUInt32 &&& Int32.toUInt32 31)).toInt32)) &&& (252645135 : Int32)) + (((((((a0 - (((a0.toUInt32 >>> ((1 : Int32).toUInt32 &&& Int32.toUInt32 31)).toInt32) &&& (1431655765 : Int32))) &&& (858993459 : Int32)) + ((((a0 - (((a0.toUInt32 >>> ((1 : Int32).toUInt32 &&& Int32.toUInt32 31)).toInt32) &&& (1431655765 : Int32))).toUInt32 >>> ((2 : Int32).toUInt32 &&& Int32.toUInt32 31)).toInt32) &&& (858993459 : Int32))) + (((((a0 - (((a0.toUInt32 >>> ((1 : Int32).toUInt32 &&& Int32.toUInt32 31)).toInt32) &&& (1431655765 : Int32))) &&& (858993459 : Int32)) + ((((a0 - (((a0.toUInt32 >>> ((1 : Int32).toUInt32 &&& Int32.toUInt32 31)).toInt32) &&& (1431655765 : Int32))).toUInt32 >>> ((2 : Int32).toUInt32 &&& Int32.toUInt32 31)).toInt32) &&& (858993459 : Int32))).toUInt32 >>> ((4 : Int32).toUInt32 &&& Int32.toUInt32 31)).toInt32)) &&& (252645135 : Int32)).toUInt32 >>> ((8 : Int32).toUInt32 &&& Int32.toUInt32 31)).toInt32)) + ((((((((a0 - (((a0.toUInt32 >>> ((1 : Int32).toUInt32 &&& Int32.toUInt32 31)).toInt32) &&& (1431655765 : Int32))) &&& (858993459 : Int32)) + ((((a0 - (((a0.toUInt32 >>> ((1 : Int32).toUInt32 &&& Int32.toUInt32 31)).toInt32) &&& (1431655765 : Int32))).toUInt32 >>> ((2 : Int32).toUInt32 &&& Int32.toUInt32 31)).toInt32) &&& (858993459 : Int32))) + (((((a0 - (((a0.toUInt32 >>> ((1 : Int32).toUInt32 &&& Int32.toUInt32 31)).toInt32) &&& (1431655765 : Int32))) &&& (858993459 : Int32)) + ((((a0 - (((a0.toUInt32 >>> ((1 : Int32).toUInt32 &&& Int32.toUInt32 31)).toInt32) &&& (1431655765 : Int32))).toUInt32 >>> ((2 : Int32).toUInt32 &&& Int32.toUInt32 31)).toInt32) &&& (858993459 : Int32))).toUInt32 >>> ((4 : Int32).toUInt32 &&& Int32.toUInt32 31)).toInt32)) &&& (252645135 : Int32)) + (((((((a0 - (((a0.toUInt32 >>> ((1 : Int32).toUInt32 &&& Int32.toUInt32 31)).toInt32) &&& (1431655765 : Int32))) &&& (858993459 : Int32)) + ((((a0 - (((a0.toUInt32 >>> ((1 : Int32).toUInt32 &&& Int32.toUInt32 31)).toInt32) &&& (1431655765 : Int32))).toUInt32 >>> ((2 : Int32).toUInt32 &&& Int32.toUInt32 31)).toInt32) &&& (858993459 : Int32))) + (((((a0 - (((a0.toUInt32 >>> ((1 : Int32).toUInt32 &&& Int32.toUInt32 31)).toInt32) &&& (1431655765 : Int32))) &&& (858993459 : Int32)) + ((((a0 - (((a0.toUInt32 >>> ((1 : Int32).toUInt32 &&& Int32.toUInt32 31)).toInt32) &&& (1431655765 : Int32))).toUInt32 >>> ((2 : Int32).toUInt32 &&& Int32.toUInt32 31)).toInt32) &&& (858993459 : Int32))).toUInt32 >>> ((4 : Int32).toUInt32 &&& Int32.toUInt32 31)).toInt32)) &&& (252645135 : Int32)).toUInt32 >>> ((8 : Int32).toUInt32 &&& Int32.toUInt32 31)).toInt32)).toUInt32 >>> ((16 : Int32).toUInt32 &&& Int32.toUInt32 31)).toInt32)) &&& (63 : Int32)) hy hr d_Integer_bitCount_52
theorem d_Tally_keep_0 : decode b_Tally_keep 0 = .ok (.iload_n 1, 1) := by decide +kernel
theorem d_Tally_keep_1 : decode b_Tally_keep 1 = .ok (.ifCond .lt 12, 3) := by decide +kernel
theorem d_Tally_keep_4 : decode b_Tally_keep 4 = .ok (.iload_n 1, 1) := by decide +kernel
theorem d_Tally_keep_5 : decode b_Tally_keep 5 = .ok (.aload_n 0, 1) := by decide +kernel
theorem d_Tally_keep_6 : decode b_Tally_keep 6 = .ok (.getfield 7, 3) := by decide +kernel
theorem d_Tally_keep_9 : decode b_Tally_keep 9 = .ok (.arraylength, 1) := by decide +kernel
theorem d_Tally_keep_10 : decode b_Tally_keep 10 = .ok (.if_icmp .lt 5, 3) := by decide +kernel
theorem d_Tally_keep_13 : decode b_Tally_keep 13 = .ok (.iconst 0, 1) := by decide +kernel
theorem d_Tally_keep_14 : decode b_Tally_keep 14 = .ok (.ireturn, 1) := by decide +kernel
theorem d_Tally_keep_15 : decode b_Tally_keep 15 = .ok (.aload_n 0, 1) := by decide +kernel
theorem d_Tally_keep_16 : decode b_Tally_keep 16 = .ok (.getfield 7, 3) := by decide +kernel
theorem d_Tally_keep_19 : decode b_Tally_keep 19 = .ok (.iload_n 1, 1) := by decide +kernel
theorem d_Tally_keep_20 : decode b_Tally_keep 20 = .ok (.iaload, 1) := by decide +kernel
theorem d_Tally_keep_21 : decode b_Tally_keep 21 = .ok (.istore_n 3, 1) := by decide +kernel
theorem d_Tally_keep_22 : decode b_Tally_keep 22 = .ok (.aload_n 0, 1) := by decide +kernel
theorem d_Tally_keep_23 : decode b_Tally_keep 23 = .ok (.getfield 7, 3) := by decide +kernel
theorem d_Tally_keep_26 : decode b_Tally_keep 26 = .ok (.iload_n 1, 1) := by decide +kernel
theorem d_Tally_keep_27 : decode b_Tally_keep 27 = .ok (.iload_n 3, 1) := by decide +kernel
theorem d_Tally_keep_28 : decode b_Tally_keep 28 = .ok (.iconst 1, 1) := by decide +kernel
theorem d_Tally_keep_29 : decode b_Tally_keep 29 = .ok (.iload_n 2, 1) := by decide +kernel
theorem d_Tally_keep_30 : decode b_Tally_keep 30 = .ok (.ishl, 1) := by decide +kernel
theorem d_Tally_keep_31 : decode b_Tally_keep 31 = .ok (.ior, 1) := by decide +kernel
theorem d_Tally_keep_32 : decode b_Tally_keep 32 = .ok (.iastore, 1) := by decide +kernel
theorem d_Tally_keep_33 : decode b_Tally_keep 33 = .ok (.aload_n 0, 1) := by decide +kernel
theorem d_Tally_keep_34 : decode b_Tally_keep 34 = .ok (.getfield 7, 3) := by decide +kernel
theorem d_Tally_keep_37 : decode b_Tally_keep 37 = .ok (.iload_n 1, 1) := by decide +kernel
theorem d_Tally_keep_38 : decode b_Tally_keep 38 = .ok (.iaload, 1) := by decide +kernel
theorem d_Tally_keep_39 : decode b_Tally_keep 39 = .ok (.iload_n 3, 1) := by decide +kernel
theorem d_Tally_keep_40 : decode b_Tally_keep 40 = .ok (.if_icmp .ne 7, 3) := by decide +kernel
theorem d_Tally_keep_43 : decode b_Tally_keep 43 = .ok (.iconst 0, 1) := by decide +kernel
theorem d_Tally_keep_44 : decode b_Tally_keep 44 = .ok (.goto 12, 3) := by decide +kernel
theorem d_Tally_keep_47 : decode b_Tally_keep 47 = .ok (.aload_n 0, 1) := by decide +kernel
theorem d_Tally_keep_48 : decode b_Tally_keep 48 = .ok (.getfield 7, 3) := by decide +kernel
theorem d_Tally_keep_51 : decode b_Tally_keep 51 = .ok (.iload_n 1, 1) := by decide +kernel
theorem d_Tally_keep_52 : decode b_Tally_keep 52 = .ok (.iaload, 1) := by decide +kernel
theorem d_Tally_keep_53 : decode b_Tally_keep 53 = .ok (.invokestatic 13, 3) := by decide +kernel
theorem d_Tally_keep_56 : decode b_Tally_keep 56 = .ok (.ireturn, 1) := by decide +kernel
def f_Tally_keep (i0 : Nat) (j0 : Nat) (a1 : Int32) (a2 : Int32) (S : St) : Int32 × St :=
  if a1 < 0 then
    ((0 : Int32), S)
  else
    if a1 < (Int32.ofNat (tlen j0)) then
      lt (si S 17 i0 j0 (a1.toNatClampNeg) ((S.1 17 i0 j0 a1.toNatClampNeg) ||| ((1 : Int32) <<< (a2 &&& 31)))) fun (S5 : St) =>
      if (S5.1 17 i0 j0 a1.toNatClampNeg) = (S.1 17 i0 j0 a1.toNatClampNeg) then
        ((0 : Int32), S5)
      else
        lt (f_Integer_bitCount (S5.1 17 i0 j0 a1.toNatClampNeg) S5) fun (r9 : Int32) =>
        (r9, S5)
    else
      ((0 : Int32), S)
def ok_Tally_keep (i0 : Nat) (j0 : Nat) (a1 : Int32) (a2 : Int32) (S : St) : Prop :=
  (a1 < 0 → (
    True)) ∧ (¬ (a1 < 0) → (
    (a1 < (Int32.ofNat (tlen j0)) → (
      (vp_in a1 (tlen j0)) ∧ (
        (vp_in a1 (tlen j0)) ∧ (
          lt (si S 17 i0 j0 (a1.toNatClampNeg) ((S.1 17 i0 j0 a1.toNatClampNeg) ||| ((1 : Int32) <<< (a2 &&& 31)))) fun (S5 : St) =>
          (vp_in a1 (tlen j0)) ∧ (
            ((S5.1 17 i0 j0 a1.toNatClampNeg) = (S.1 17 i0 j0 a1.toNatClampNeg) → (
              True)) ∧ (¬ ((S5.1 17 i0 j0 a1.toNatClampNeg) = (S.1 17 i0 j0 a1.toNatClampNeg)) → (
              (vp_in a1 (tlen j0)) ∧ (
                True)))))))) ∧ (¬ (a1 < (Int32.ofNat (tlen j0))) → (
      True))))
set_option maxHeartbeats 4000000 in
set_option maxRecDepth 100000 in
theorem c_Tally_keep (l : Launch) (D : va_G) (X : va_W) (ad : N3 → Nat) (ca : Nat → ClassId) (i0 : Nat) (j0 : Nat) (a1 : Int32) (a2 : Int32) (h0 : inT i0 j0) (S : St) (hk : ok_Tally_keep i0 j0 a1 a2 S) : cI l GG D clQ (tysQ ca) nwQ X ad TQ (cfQ ad ca) y_Tally_keep b_Tally_keep 4 .int 1 20 [.ref (ad (16, i0, j0)), .int a1, .int a2] S (f_Tally_keep i0 j0 a1 a2 S) := by
  generalize hr : f_Tally_keep i0 j0 a1 a2 S = res
  refine zI_of pn_Tally (Nat.le_of_ble_eq_true rfl) (fun p e s m below meth c A ls hy hW hA hl => ?_)
  have hF := hy.1
  have hx := hF.1
  have hb := hF.2.1
  have hK := hy.2.2.2
  have hl : lv_has ls 4 [(0, .ref (ad (16, i0, j0))), (1, .int a1), (2, .int a2)] := hl
  refine lv_iload_n (pc := 0) hx hb d_Tally_keep_0 rfl (lv_at hl 1 rfl) ?_
  refine lv_if_lt (pc := 1) (tgt := 13) hx hb d_Tally_keep_1 (by decide) (fun c1 => ?_) (fun c1 => ?_)
  · have hk := hk.1 c1
    have hr := (if_pos c1).symm.trans hr
    refine lv_iconst (pc := 13) (v := 0) hx hb d_Tally_keep_13 (by decide) ?_
    exact z_iret (v := (0 : Int32)) hy hW hr.symm d_Tally_keep_14
  · have hk := hk.2 c1
    have hr := (if_neg c1).symm.trans hr
    refine lv_iload_n (pc := 4) hx hb d_Tally_keep_4 rfl (lv_at hl 1 rfl) ?_
    refine lv_aload_n (pc := 5) hx hb d_Tally_keep_5 rfl (lv_at hl 0 rfl) ?_
    refine z_get (pc := 6) (v := .ref (ad (17, i0, j0))) hF hK.1 hW (tq16 h0) rfl rfl in_Tally 0 (by decide) gw_194 rfl rfl d_Tally_keep_6 ?_
    refine z_alen (pc := 9) (v := Int32.ofNat (tlen j0)) hF hK.1 hW (tq17 h0) 0 rfl rfl rfl d_Tally_keep_9 ?_
    refine lv_icmp_lt (pc := 10) (tgt := 15) hx hb d_Tally_keep_10 (by decide) (fun c2 => ?_) (fun c2 => ?_)
    · have hk := hk.1 c2
      have hr := (if_pos c2).symm.trans hr
      refine lv_aload_n (pc := 15) hx hb d_Tally_keep_15 rfl (lv_at hl 0 rfl) ?_
      refine z_get (pc := 16) (v := .ref (ad (17, i0, j0))) hF hK.1 hW (tq16 h0) rfl rfl in_Tally 0 (by decide) gw_194 rfl rfl d_Tally_keep_16 ?_
      refine lv_iload_n (pc := 19) hx hb d_Tally_keep_19 rfl (lv_at hl 1 rfl) ?_
      have b3 := hk.1
      have hk := hk.2
      refine z_iald (pc := 20) (v := S.1 17 i0 j0 a1.toNatClampNeg) hF hK.1 hW (tq17 h0) 0 rfl rfl b3 rfl d_Tally_keep_20 ?_
      refine lv_istore_n (pc := 21) (lv' := [(3, .int (S.1 17 i0 j0 a1.toNatClampNeg)), (0, .ref (ad (16, i0, j0))), (1, .int a1), (2, .int a2)]) hx hb d_Tally_keep_21 rfl hl (by decide) rfl (fun ls hl => ?_)
      refine lv_aload_n (pc := 22) hx hb d_Tally_keep_22 rfl (lv_at hl 1 rfl) ?_
      refine z_get (pc := 23) (v := .ref (ad (17, i0, j0))) hF hK.1 hW (tq16 h0) rfl rfl in_Tally 0 (by decide) gw_194 rfl rfl d_Tally_keep_23 ?_
      refine lv_iload_n (pc := 26) hx hb d_Tally_keep_26 rfl (lv_at hl 2 rfl) ?_
      refine lv_iload_n (pc := 27) hx hb d_Tally_keep_27 rfl (lv_at hl 0 rfl) ?_
      refine lv_iconst (pc := 28) (v := 1) hx hb d_Tally_keep_28 (by decide) ?_
      refine lv_iload_n (pc := 29) hx hb d_Tally_keep_29 rfl (lv_at hl 3 rfl) ?_
      refine lv_ishl (pc := 30) hx hb d_Tally_keep_30 ?_
      refine lv_ior (pc := 31) hx hb d_Tally_keep_31 ?_
      have b4 := hk.1
      have hk := hk.2
      obtain ⟨S5, eS5⟩ : ∃ z : St, z = si S 17 i0 j0 (a1.toNatClampNeg) ((S.1 17 i0 j0 a1.toNatClampNeg) ||| ((1 : Int32) <<< (a2 &&& 31))) := ⟨_, rfl⟩
      have hk := lt_p eS5 hk
      have hr := lt_e eS5 hr
      refine z_iast (pc := 32) (S' := S5) hF hK.1 hW (tq17 h0) 0 rfl rfl b4 (zs_si eS5 rfl) (zs_sio eS5) d_Tally_keep_32 (fun H locs (hW : Wd D clQ A s.heap (zw X ad TQ (cfQ ad ca) S5) H locs) => ?_)
      refine lv_aload_n (pc := 33) hx hb d_Tally_keep_33 rfl (lv_at hl 1 rfl) ?_
      refine z_get (pc := 34) (v := .ref (ad (17, i0, j0))) hF hK.1 hW (tq16 h0) rfl rfl in_Tally 0 (by decide) gw_194 rfl rfl d_Tally_keep_34 ?_
      refine lv_iload_n (pc := 37) hx hb d_Tally_keep_37 rfl (lv_at hl 2 rfl) ?_
      have b6 := hk.1
      have hk := hk.2
      refine z_iald (pc := 38) (v := S5.1 17 i0 j0 a1.toNatClampNeg) hF hK.1 hW (tq17 h0) 0 rfl rfl b6 rfl d_Tally_keep_38 ?_
      refine lv_iload_n (pc := 39) hx hb d_Tally_keep_39 rfl (lv_at hl 0 rfl) ?_
      refine lv_icmp_ne (pc := 40) (tgt := 47) hx hb d_Tally_keep_40 (by decide) (fun c7 => ?_) (fun c7 => ?_)
      · have hk := hk.2 c7
        have hr := (if_neg c7).symm.trans hr
        refine lv_aload_n (pc := 47) hx hb d_Tally_keep_47 rfl (lv_at hl 1 rfl) ?_
        refine z_get (pc := 48) (v := .ref (ad (17, i0, j0))) hF hK.1 hW (tq16 h0) rfl rfl in_Tally 0 (by decide) gw_194 rfl rfl d_Tally_keep_48 ?_
        refine lv_iload_n (pc := 51) hx hb d_Tally_keep_51 rfl (lv_at hl 2 rfl) ?_
        have b8 := hk.1
        have hk := hk.2
        refine z_iald (pc := 52) (v := S5.1 17 i0 j0 a1.toNatClampNeg) hF hK.1 hW (tq17 h0) 0 rfl rfl b8 rfl d_Tally_keep_52 ?_
        obtain ⟨r9, er9⟩ : ∃ z : Int32, z = f_Integer_bitCount (S5.1 17 i0 j0 a1.toNatClampNeg) S5 := ⟨_, rfl⟩
        have hr := lt_e er9 hr
        refine p_go (pc := 53) (congrArg Value.int er9) (p_runS hF hK hW (c_Integer_bitCount l D X ad ca (S5.1 17 i0 j0 a1.toNatClampNeg) S5 _) cd_Integer_bitCount gw_751 ⟨Nat.le_of_ble_eq_true rfl, Nat.le_of_ble_eq_true rfl⟩ ⟨Nat.zero_le _, Nat.zero_le _⟩ rfl rfl hl.1 (Nat.le_of_ble_eq_true rfl) d_Tally_keep_53) ?_
        exact z_iret (v := r9) hy hW hr.symm d_Tally_keep_56
      · have hk := hk.1 c7
        have hr := (if_pos c7).symm.trans hr
        refine lv_iconst (pc := 43) (v := 0) hx hb d_Tally_keep_43 (by decide) ?_
        refine lv_goto (pc := 44) (tgt := 56) hx hb d_Tally_keep_44 (by decide) ?_
        exact z_iret (v := (0 : Int32)) hy hW hr.symm d_Tally_keep_56
    · have hk := hk.2 c2
      have hr := (if_neg c2).symm.trans hr
      refine lv_iconst (pc := 13) (v := 0) hx hb d_Tally_keep_13 (by decide) ?_
      exact z_iret (v := (0 : Int32)) hy hW hr.symm d_Tally_keep_14
theorem d_Blocks_certify_0 : decode b_Blocks_certify 0 = .ok (.aload_n 0, 1) := by decide +kernel
theorem d_Blocks_certify_1 : decode b_Blocks_certify 1 = .ok (.iload_n 1, 1) := by decide +kernel
theorem d_Blocks_certify_2 : decode b_Blocks_certify 2 = .ok (.invokevirtual 29, 3) := by decide +kernel
theorem d_Blocks_certify_5 : decode b_Blocks_certify 5 = .ok (.ifCond .eq 10, 3) := by decide +kernel
theorem d_Blocks_certify_8 : decode b_Blocks_certify 8 = .ok (.aload_n 0, 1) := by decide +kernel
theorem d_Blocks_certify_9 : decode b_Blocks_certify 9 = .ok (.getfield 21, 3) := by decide +kernel
theorem d_Blocks_certify_12 : decode b_Blocks_certify 12 = .ok (.iload_n 1, 1) := by decide +kernel
theorem d_Blocks_certify_13 : decode b_Blocks_certify 13 = .ok (.iconst 1, 1) := by decide +kernel
theorem d_Blocks_certify_14 : decode b_Blocks_certify 14 = .ok (.bastore, 1) := by decide +kernel
theorem d_Blocks_certify_15 : decode b_Blocks_certify 15 = .ok (.return_, 1) := by decide +kernel
def f_Blocks_certify (a1 : Int32) (S : St) : St :=
  lt (f_Blocks_exists a1 S) fun (r1 : Int32) =>
  if r1 = 0 then
    S
  else
    lt (si S 23 0 0 (a1.toNatClampNeg) (1 : Int32)) fun (S4 : St) =>
    S4
def ok_Blocks_certify (a1 : Int32) (S : St) : Prop :=
  lt (f_Blocks_exists a1 S) fun (r1 : Int32) =>
  (r1 = 0 → (
    True)) ∧ (¬ (r1 = 0) → (
    (vp_in a1 100) ∧ (
      True)))
set_option maxHeartbeats 4000000 in
set_option maxRecDepth 100000 in
theorem c_Blocks_certify (l : Launch) (D : va_G) (X : va_W) (ad : N3 → Nat) (ca : Nat → ClassId) (a1 : Int32)  (S : St) (hk : ok_Blocks_certify a1 S) : cV l GG D clQ (tysQ ca) nwQ X ad TQ (cfQ ad ca) y_Blocks_certify b_Blocks_certify 2 1 21 [.ref (ad (19, 0, 0)), .int a1] S (f_Blocks_certify a1 S) := by
  generalize hr : f_Blocks_certify a1 S = res
  refine zV_of pn_Blocks (Nat.le_of_ble_eq_true rfl) (fun p e s m below meth c A ls hy hW hA hl => ?_)
  have hF := hy.1
  have hx := hF.1
  have hb := hF.2.1
  have hK := hy.2.2.2
  have hl : lv_has ls 2 [(0, .ref (ad (19, 0, 0))), (1, .int a1)] := hl
  refine lv_aload_n (pc := 0) hx hb d_Blocks_certify_0 rfl (lv_at hl 0 rfl) ?_
  refine lv_iload_n (pc := 1) hx hb d_Blocks_certify_1 rfl (lv_at hl 1 rfl) ?_
  obtain ⟨r1, er1⟩ : ∃ z : Int32, z = f_Blocks_exists a1 S := ⟨_, rfl⟩
  have hk := lt_p er1 hk
  have hr := lt_e er1 hr
  refine p_go (pc := 2) (congrArg Value.int er1) (p_runV hF hK hW (c_Blocks_exists l D X ad ca a1 S _) cd_Blocks_exists gw_460 tq19 rfl rfl ⟨Nat.le_of_ble_eq_true rfl, Nat.le_of_ble_eq_true rfl⟩ ⟨Nat.zero_le _, Nat.zero_le _⟩ rfl rfl hl.1 (Nat.le_of_ble_eq_true rfl) d_Blocks_certify_2) ?_
  refine lv_if_eq (pc := 5) (tgt := 15) hx hb d_Blocks_certify_5 (by decide) (fun c2 => ?_) (fun c2 => ?_)
  · have hk := hk.1 c2
    have hr := (if_pos c2).symm.trans hr
    exact z_vret hy hW hr.symm d_Blocks_certify_15
  · have hk := hk.2 c2
    have hr := (if_neg c2).symm.trans hr
    refine lv_aload_n (pc := 8) hx hb d_Blocks_certify_8 rfl (lv_at hl 0 rfl) ?_
    refine z_get (pc := 9) (v := .ref (ad (23, 0, 0))) hF hK.1 hW tq19 rfl rfl in_Blocks 3 (by decide) gw_91 rfl rfl d_Blocks_certify_9 ?_
    refine lv_iload_n (pc := 12) hx hb d_Blocks_certify_12 rfl (lv_at hl 1 rfl) ?_
    refine lv_iconst (pc := 13) (v := 1) hx hb d_Blocks_certify_13 (by decide) ?_
    have b3 := hk.1
    have hk := hk.2
    obtain ⟨S4, eS4⟩ : ∃ z : St, z = si S 23 0 0 (a1.toNatClampNeg) (1 : Int32) := ⟨_, rfl⟩
    have hr := lt_e eS4 hr
    refine z_zast (pc := 14) (S' := S4) hF hK.1 hW tq23 2 rfl rfl b3 (zs_si eS4 rfl) (zs_sio eS4) d_Blocks_certify_14 (fun H locs (hW : Wd D clQ A s.heap (zw X ad TQ (cfQ ad ca) S4) H locs) => ?_)
    exact z_vret hy hW hr.symm d_Blocks_certify_15
theorem d_Blocks_isInChain_0 : decode b_Blocks_isInChain 0 = .ok (.iload_n 2, 1) := by decide +kernel
theorem d_Blocks_isInChain_1 : decode b_Blocks_isInChain 1 = .ok (.istore_n 3, 1) := by decide +kernel
theorem d_Blocks_isInChain_2 : decode b_Blocks_isInChain 2 = .ok (.iconst 0, 1) := by decide +kernel
theorem d_Blocks_isInChain_3 : decode b_Blocks_isInChain 3 = .ok (.istore 4, 2) := by decide +kernel
theorem d_Blocks_isInChain_5 : decode b_Blocks_isInChain 5 = .ok (.iload 4, 2) := by decide +kernel
theorem d_Blocks_isInChain_7 : decode b_Blocks_isInChain 7 = .ok (.bipush 100, 2) := by decide +kernel
theorem d_Blocks_isInChain_9 : decode b_Blocks_isInChain 9 = .ok (.if_icmp .ge 31, 3) := by decide +kernel
theorem d_Blocks_isInChain_12 : decode b_Blocks_isInChain 12 = .ok (.iload_n 3, 1) := by decide +kernel
theorem d_Blocks_isInChain_13 : decode b_Blocks_isInChain 13 = .ok (.iconst (-1), 1) := by decide +kernel
theorem d_Blocks_isInChain_14 : decode b_Blocks_isInChain 14 = .ok (.if_icmp .eq 26, 3) := by decide +kernel
theorem d_Blocks_isInChain_17 : decode b_Blocks_isInChain 17 = .ok (.aload_n 0, 1) := by decide +kernel
theorem d_Blocks_isInChain_18 : decode b_Blocks_isInChain 18 = .ok (.iload_n 3, 1) := by decide +kernel
theorem d_Blocks_isInChain_19 : decode b_Blocks_isInChain 19 = .ok (.invokevirtual 44, 3) := by decide +kernel
theorem d_Blocks_isInChain_22 : decode b_Blocks_isInChain 22 = .ok (.iload_n 1, 1) := by decide +kernel
theorem d_Blocks_isInChain_23 : decode b_Blocks_isInChain 23 = .ok (.if_icmp .ne 5, 3) := by decide +kernel
theorem d_Blocks_isInChain_26 : decode b_Blocks_isInChain 26 = .ok (.iconst 1, 1) := by decide +kernel
theorem d_Blocks_isInChain_27 : decode b_Blocks_isInChain 27 = .ok (.ireturn, 1) := by decide +kernel
theorem d_Blocks_isInChain_28 : decode b_Blocks_isInChain 28 = .ok (.aload_n 0, 1) := by decide +kernel
theorem d_Blocks_isInChain_29 : decode b_Blocks_isInChain 29 = .ok (.iload_n 3, 1) := by decide +kernel
theorem d_Blocks_isInChain_30 : decode b_Blocks_isInChain 30 = .ok (.invokevirtual 41, 3) := by decide +kernel
theorem d_Blocks_isInChain_33 : decode b_Blocks_isInChain 33 = .ok (.istore_n 3, 1) := by decide +kernel
theorem d_Blocks_isInChain_34 : decode b_Blocks_isInChain 34 = .ok (.iinc 4 1, 3) := by decide +kernel
theorem d_Blocks_isInChain_37 : decode b_Blocks_isInChain 37 = .ok (.goto (-32), 3) := by decide +kernel
theorem d_Blocks_isInChain_40 : decode b_Blocks_isInChain 40 = .ok (.iconst 0, 1) := by decide +kernel
theorem d_Blocks_isInChain_41 : decode b_Blocks_isInChain 41 = .ok (.ireturn, 1) := by decide +kernel
def f_Blocks_isInChain_5 (a1 : Int32) (a2 : Int32) : Nat → St → Int32 → Int32 → Int32
  | 0, _, _, _ => 0
  | n + 1, S, l3, l4 =>
    if (100 : Int32) ≤ l4 then
      (0 : Int32)
    else
      if l3 = (-1 : Int32) then
        (0 : Int32)
      else
        lt (f_Blocks_transactionOf l3 S) fun (r4 : Int32) =>
        if r4 = a1 then
          (1 : Int32)
        else
          lt (f_Blocks_parentOf l3 S) fun (r7 : Int32) =>
          f_Blocks_isInChain_5 a1 a2 n S r7 (l4 + (1 : Int32))
def ok_Blocks_isInChain_5 (a1 : Int32) (a2 : Int32) : Nat → St → Int32 → Int32 → Prop
  | 0, _, _, _ => False
  | n + 1, S, l3, l4 =>
    ((100 : Int32) ≤ l4 → (
      True)) ∧ (¬ ((100 : Int32) ≤ l4) → (
      (l3 = (-1 : Int32) → (
        True)) ∧ (¬ (l3 = (-1 : Int32)) → (
        (ok_Blocks_transactionOf l3 S) ∧ (
          lt (f_Blocks_transactionOf l3 S) fun (r4 : Int32) =>
          (r4 = a1 → (
            True)) ∧ (¬ (r4 = a1) → (
            (ok_Blocks_parentOf l3 S) ∧ (
              lt (f_Blocks_parentOf l3 S) fun (r7 : Int32) =>
              ok_Blocks_isInChain_5 a1 a2 n S r7 (l4 + (1 : Int32))))))))))
set_option maxHeartbeats 4000000 in
set_option maxRecDepth 100000 in
theorem w_Blocks_isInChain_5 {l : Launch} {D : va_G} {X : va_W} {ad : N3 → Nat} {ca : Nat → ClassId} (a1 : Int32) (a2 : Int32)  (S : St) {p : Program} {e : Env} {s : State} {m : MethodId} {below : List Frame} {meth : Method} {c : Code} (hy : Hy p s m ([.ref (ad (19, 0, 0)), .int a1, .int a2] : List Value).toArray meth c b_Blocks_isInChain 5 (some .boolean) R_Blocks GG D clQ (tysQ ca) nwQ) (hW : Wd D clQ (fun _ => True) s.heap (zw X ad TQ (cfQ ad ca) S) s.heap []) {res : Int32} : ∀ (n : Nat) (l3 : Int32) (l4 : Int32) , ok_Blocks_isInChain_5 a1 a2 n S l3 l4 → f_Blocks_isInChain_5 a1 a2 n S l3 l4 = res → ∀ (ls : Array Slot), lv_has ls 5 [(0, .ref (ad (19, 0, 0))), (1, .int a1), (3, .int l3), (4, .int l4)] → W p l e { frames := 2, cells := 0, slots := 0, locals := 42 } s m ([.ref (ad (19, 0, 0)), .int a1, .int a2] : List Value).toArray below meth c s.heap [] 0 0 (MQ below (eP (.int res)) ([.ref (ad (19, 0, 0)), .int a1, .int a2] : List Value).toArray s 0 0 nof) (F0 m 5 ls []) := by
  have hF := hy.1
  have hx := hF.1
  have hb := hF.2.1
  have hK := hy.2.2.2
  intro n
  induction n with
  | zero =>
    intro l3 l4 hk
    exact hk.elim
  | succ n ih =>
    intro l3 l4 hk hr ls hl
    refine lv_iload (pc := 5) hx hb d_Blocks_isInChain_5 (lv_at hl 3 rfl) ?_
    refine lv_bipush (pc := 7) (v := 100) hx hb d_Blocks_isInChain_7 (by decide) ?_
    refine lv_icmp_ge (pc := 9) (tgt := 40) hx hb d_Blocks_isInChain_9 (by decide) (fun c1 => ?_) (fun c1 => ?_)
    · have hk := hk.1 c1
      have hr := (if_pos c1).symm.trans hr
      refine lv_iconst (pc := 40) (v := 0) hx hb d_Blocks_isInChain_40 (by decide) ?_
      exact p_zret (v := (0 : Int32)) hy rfl hr d_Blocks_isInChain_41
    · have hk := hk.2 c1
      have hr := (if_neg c1).symm.trans hr
      refine lv_iload_n (pc := 12) hx hb d_Blocks_isInChain_12 rfl (lv_at hl 2 rfl) ?_
      refine lv_iconst (pc := 13) (v := -1) hx hb d_Blocks_isInChain_13 (by decide) ?_
      refine lv_icmp_eq (pc := 14) (tgt := 40) hx hb d_Blocks_isInChain_14 (by decide) (fun c2 => ?_) (fun c2 => ?_)
      · have hk := hk.1 c2
        have hr := (if_pos c2).symm.trans hr
        refine lv_iconst (pc := 40) (v := 0) hx hb d_Blocks_isInChain_40 (by decide) ?_
        exact p_zret (v := (0 : Int32)) hy rfl hr d_Blocks_isInChain_41
      · have hk := hk.2 c2
        have hr := (if_neg c2).symm.trans hr
        refine lv_aload_n (pc := 17) hx hb d_Blocks_isInChain_17 rfl (lv_at hl 0 rfl) ?_
        refine lv_iload_n (pc := 18) hx hb d_Blocks_isInChain_18 rfl (lv_at hl 2 rfl) ?_
        have o3 := hk.1
        have hk := hk.2
        obtain ⟨r4, er4⟩ : ∃ z : Int32, z = f_Blocks_transactionOf l3 S := ⟨_, rfl⟩
        have hk := lt_p er4 hk
        have hr := lt_e er4 hr
        refine p_go (pc := 19) (congrArg Value.int er4) (p_runV hF hK hW (c_Blocks_transactionOf l D X ad ca l3 S o3 _) cd_Blocks_transactionOf gw_634 tq19 rfl rfl ⟨Nat.le_of_ble_eq_true rfl, Nat.le_of_ble_eq_true rfl⟩ ⟨Nat.zero_le _, Nat.zero_le _⟩ rfl rfl hl.1 (Nat.le_of_ble_eq_true rfl) d_Blocks_isInChain_19) ?_
        refine lv_iload_n (pc := 22) hx hb d_Blocks_isInChain_22 rfl (lv_at hl 1 rfl) ?_
        refine lv_icmp_ne (pc := 23) (tgt := 28) hx hb d_Blocks_isInChain_23 (by decide) (fun c5 => ?_) (fun c5 => ?_)
        · have hk := hk.2 c5
          have hr := (if_neg c5).symm.trans hr
          refine lv_aload_n (pc := 28) hx hb d_Blocks_isInChain_28 rfl (lv_at hl 0 rfl) ?_
          refine lv_iload_n (pc := 29) hx hb d_Blocks_isInChain_29 rfl (lv_at hl 2 rfl) ?_
          have o6 := hk.1
          have hk := hk.2
          obtain ⟨r7, er7⟩ : ∃ z : Int32, z = f_Blocks_parentOf l3 S := ⟨_, rfl⟩
          have hk := lt_p er7 hk
          have hr := lt_e er7 hr
          refine p_go (pc := 30) (congrArg Value.int er7) (p_runV hF hK hW (c_Blocks_parentOf l D X ad ca l3 S o6 _) cd_Blocks_parentOf gw_635 tq19 rfl rfl ⟨Nat.le_of_ble_eq_true rfl, Nat.le_of_ble_eq_true rfl⟩ ⟨Nat.zero_le _, Nat.zero_le _⟩ rfl rfl hl.1 (Nat.le_of_ble_eq_true rfl) d_Blocks_isInChain_30) ?_
          refine lv_istore_n (pc := 33) (lv' := [(3, .int r7), (0, .ref (ad (19, 0, 0))), (1, .int a1), (4, .int l4)]) hx hb d_Blocks_isInChain_33 rfl hl (by decide) rfl (fun ls hl => ?_)
          refine lv_iinc (pc := 34) (v := l4 + (1 : Int32)) (lv' := [(4, .int (l4 + (1 : Int32))), (3, .int r7), (0, .ref (ad (19, 0, 0))), (1, .int a1)]) (k := 3) hx hb d_Blocks_isInChain_34 hl rfl (z_inc (by decide)) (by decide) rfl (fun ls hl => ?_)
          refine lv_goto (pc := 37) (tgt := 5) hx hb d_Blocks_isInChain_37 (by decide) ?_
          exact ih r7 (l4 + (1 : Int32)) hk hr _ (lv_sub hl [2, 3, 1, 0] rfl)
        · have hk := hk.1 c5
          have hr := (if_pos c5).symm.trans hr
          refine lv_iconst (pc := 26) (v := 1) hx hb d_Blocks_isInChain_26 (by decide) ?_
          exact p_zret (v := (1 : Int32)) hy rfl hr d_Blocks_isInChain_27
def f_Blocks_isInChain (a1 : Int32) (a2 : Int32) (S : St) : Int32 :=
  f_Blocks_isInChain_5 a1 a2 200 S a2 (0 : Int32)
def ok_Blocks_isInChain (a1 : Int32) (a2 : Int32) (S : St) : Prop :=
  ok_Blocks_isInChain_5 a1 a2 200 S a2 (0 : Int32)
set_option maxHeartbeats 4000000 in
set_option maxRecDepth 100000 in
theorem c_Blocks_isInChain (l : Launch) (D : va_G) (X : va_W) (ad : N3 → Nat) (ca : Nat → ClassId) (a1 : Int32) (a2 : Int32)  (S : St) (hk : ok_Blocks_isInChain a1 a2 S) : cP l GG D clQ (tysQ ca) nwQ (zw X ad TQ (cfQ ad ca) S) y_Blocks_isInChain b_Blocks_isInChain 5 .boolean 2 42 [.ref (ad (19, 0, 0)), .int a1, .int a2] (.int (f_Blocks_isInChain a1 a2 S)) := by
  generalize hr : f_Blocks_isInChain a1 a2 S = res
  refine zP_of pn_Blocks (Nat.le_of_ble_eq_true rfl) (fun p e s m below meth c ls hy hW hl => ?_)
  have hF := hy.1
  have hx := hF.1
  have hb := hF.2.1
  have hK := hy.2.2.2
  have hl : lv_has ls 5 [(0, .ref (ad (19, 0, 0))), (1, .int a1), (2, .int a2)] := hl
  refine lv_iload_n (pc := 0) hx hb d_Blocks_isInChain_0 rfl (lv_at hl 2 rfl) ?_
  refine lv_istore_n (pc := 1) (lv' := [(3, .int a2), (0, .ref (ad (19, 0, 0))), (1, .int a1), (2, .int a2)]) hx hb d_Blocks_isInChain_1 rfl hl (by decide) rfl (fun ls hl => ?_)
  refine lv_iconst (pc := 2) (v := 0) hx hb d_Blocks_isInChain_2 (by decide) ?_
  refine lv_istore (pc := 3) (lv' := [(4, .int (0 : Int32)), (3, .int a2), (0, .ref (ad (19, 0, 0))), (1, .int a1), (2, .int a2)]) hx hb d_Blocks_isInChain_3 hl (by decide) rfl (fun ls hl => ?_)
  exact w_Blocks_isInChain_5 a1 a2 S hy hW 200 a2 (0 : Int32) hk hr _ (lv_sub hl [2, 3, 1, 0] rfl)
