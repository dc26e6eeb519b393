/-! The law: its eighteen cases. Written by wip/whole/law.py. -/
theorem lc_0 {p : Program} {l : Launch} {e : Env} {s : State} {m : MethodId} {args : Array Value} {below : List Frame} {meth : Method} {c : Code} {H : Heap} {locs : List Loc} {cells slots : Nat} {Q : State → Prop} {ls : Array Slot} {b L b0 : Nat} {xs : Nat → Int32} {D D2 : va_G} {ca ca2 : Nat → ClassId} {sd i : Int32} {S U : St} {a1 : Int32} {a2 : Int32} {a3 : Int32} {a4 : Int32} (q1 : vp_in (i + 1) L ∧ xs (i + 1).toNatClampNeg = a1) (q2 : vp_in (i + 2) L ∧ xs (i + 2).toNatClampNeg = a2) (q3 : vp_in (i + 3) L ∧ xs (i + 3).toNatClampNeg = a3) (q4 : vp_in (i + 4) L ∧ xs (i + 4).toNatClampNeg = a4) (hC : LX p l s m args c b L xs D D2 ca ca2) (hW : WW D D2 ca ca2 b0 (lA s) s.heap S U H locs) (hJ : JB sd S U) (hl : lv_has ls 7 (lvs b b0 i)) (h1 : cells + 1 ≤ 601024) (h2 : slots + 6 ≤ 7293000)
    (kk : ∀ (S' U' : St) (H' : Heap) (locs' : List Loc) (cells' slots' : Nat) (ls' : Array Slot), WW D D2 ca ca2 b0 (lA s) s.heap S' U' H' locs' → JB sd S' U' → lv_has ls' 7 (lvs b b0 i) → cells' ≤ cells + 1 → slots' ≤ slots + 6 → W p l e room_1 s m args below meth c H' locs' cells' slots' Q (F0 m 1170 ls' [])) : W p l e room_1 s m args below meth c H locs cells slots Q (F0 m 136 ls []) := by
  have hF := hC.1
  have hx := hF.1
  have hb := hF.2.1
  obtain ⟨cd, S', r, U', e1, e2, e3, e4, jb, o1, o2⟩ := l_transaction hJ a1 a2 a3 a4
  refine lv_aload_n (pc := 136) hx hb d_law_136 rfl (lv_at hl 3 rfl) ?_
  refine lv_aload_n (pc := 137) hx hb d_law_137 rfl (lv_at hl 4 rfl) ?_
  refine lv_iload (pc := 138) hx hb d_law_138 (lv_at hl 0 rfl) ?_
  refine lv_iconst (pc := 140) (v := 1) hx hb d_law_140 (by decide) ?_
  refine lv_iadd (pc := 141) hx hb d_law_141 ?_
  refine s_ld (pc := 142) hC hW q1.1 q1.2 d_law_142 ?_
  refine lv_aload_n (pc := 143) hx hb d_law_143 rfl (lv_at hl 4 rfl) ?_
  refine lv_iload (pc := 144) hx hb d_law_144 (lv_at hl 0 rfl) ?_
  refine lv_iconst (pc := 146) (v := 2) hx hb d_law_146 (by decide) ?_
  refine lv_iadd (pc := 147) hx hb d_law_147 ?_
  refine s_ld (pc := 148) hC hW q2.1 q2.2 d_law_148 ?_
  refine lv_aload_n (pc := 149) hx hb d_law_149 rfl (lv_at hl 4 rfl) ?_
  refine lv_iload (pc := 150) hx hb d_law_150 (lv_at hl 0 rfl) ?_
  refine lv_iconst (pc := 152) (v := 3) hx hb d_law_152 (by decide) ?_
  refine lv_iadd (pc := 153) hx hb d_law_153 ?_
  refine s_ld (pc := 154) hC hW q3.1 q3.2 d_law_154 ?_
  refine lv_aload_n (pc := 155) hx hb d_law_155 rfl (lv_at hl 4 rfl) ?_
  refine lv_iload (pc := 156) hx hb d_law_156 (lv_at hl 0 rfl) ?_
  refine lv_iconst (pc := 158) (v := 4) hx hb d_law_158 (by decide) ?_
  refine lv_iadd (pc := 159) hx hb d_law_159 ?_
  refine s_ld (pc := 160) hC hW q4.1 q4.2 d_law_160 ?_
  refine lv_aload_n (pc := 161) hx hb d_law_161 rfl (lv_at hl 1 rfl) ?_
  refine x_goI (mc := 1) (ms := 6) (pc := 162) hW (fun _ h => h) e1 (w_run hF hC.2.1 hW.1 (LX.xf hC hW) hC.2.2.2.2.1 (c_L_transaction l hC.2.2.2.2.2.2.2 D [] (adQ b0) ca a1 a2 a3 a4 S o1) cd_L_transaction gw_500 ⟨Nat.le_of_ble_eq_true rfl, Nat.le_of_ble_eq_true rfl⟩ ⟨h1, h2⟩ rfl rfl hl.1 (Nat.le_of_ble_eq_true rfl) d_law_162) (fun H locs hW => ?_)
  refine lv_istore (pc := 165) (lv' := (5, .int cd) :: lvs b b0 i) hx hb d_law_165 hl (by decide) rfl (fun ls hl => ?_)
  refine lv_aload_n (pc := 167) hx hb d_law_167 rfl (lv_at hl 3 rfl) ?_
  refine lv_aload_n (pc := 168) hx hb d_law_168 rfl (lv_at hl 5 rfl) ?_
  refine lv_iload (pc := 169) hx hb d_law_169 (lv_at hl 1 rfl) ?_
  refine lv_iconst (pc := 171) (v := 1) hx hb d_law_171 (by decide) ?_
  refine lv_iadd (pc := 172) hx hb d_law_172 ?_
  refine s_ld (pc := 173) hC hW q1.1 q1.2 d_law_173 ?_
  refine lv_aload_n (pc := 174) hx hb d_law_174 rfl (lv_at hl 5 rfl) ?_
  refine lv_iload (pc := 175) hx hb d_law_175 (lv_at hl 1 rfl) ?_
  refine lv_iconst (pc := 177) (v := 2) hx hb d_law_177 (by decide) ?_
  refine lv_iadd (pc := 178) hx hb d_law_178 ?_
  refine s_ld (pc := 179) hC hW q2.1 q2.2 d_law_179 ?_
  refine lv_aload_n (pc := 180) hx hb d_law_180 rfl (lv_at hl 5 rfl) ?_
  refine lv_iload (pc := 181) hx hb d_law_181 (lv_at hl 1 rfl) ?_
  refine lv_iconst (pc := 183) (v := 3) hx hb d_law_183 (by decide) ?_
  refine lv_iadd (pc := 184) hx hb d_law_184 ?_
  refine s_ld (pc := 185) hC hW q3.1 q3.2 d_law_185 ?_
  refine lv_aload_n (pc := 186) hx hb d_law_186 rfl (lv_at hl 5 rfl) ?_
  refine lv_iload (pc := 187) hx hb d_law_187 (lv_at hl 1 rfl) ?_
  refine lv_iconst (pc := 189) (v := 4) hx hb d_law_189 (by decide) ?_
  refine lv_iadd (pc := 190) hx hb d_law_190 ?_
  refine s_ld (pc := 191) hC hW q4.1 q4.2 d_law_191 ?_
  refine m_goI (mc := 0) (ms := 0) (pc := 192) hW (fun _ h => h) e2 (z_runV hF hC.2.2.1 hW.2 (c_M_transaction l D2 [] (adM (b0 + 208)) ca2 a1 a2 a3 a4 U o2 _) cd_M_transaction gw_1113 tm1 rfl rfl ⟨Nat.le_of_ble_eq_true rfl, Nat.le_of_ble_eq_true rfl⟩ ⟨h1, h2⟩ rfl rfl hl.1 (Nat.le_of_ble_eq_true rfl) d_law_192) (fun H locs hW => ?_)
  refine lv_istore (pc := 195) (lv' := (6, .int r) :: (5, .int cd) :: lvs b b0 i) hx hb d_law_195 hl (by decide) rfl (fun ls hl => ?_)
  refine lv_aload_n (pc := 197) hx hb d_law_197 rfl (lv_at hl 4 rfl) ?_
  refine p_go (pc := 198) rfl (p_runV hF hC.2.2.1 hW.2 (c_M_thrown l D2 [] (adM (b0 + 208)) ca2 U' _) cd_M_thrown gw_1014 tm1 rfl rfl ⟨Nat.le_of_ble_eq_true rfl, Nat.le_of_ble_eq_true rfl⟩ ⟨h1, h2⟩ rfl rfl hl.1 (Nat.le_of_ble_eq_true rfl) d_law_198) ?_
  refine lv_iload (pc := 201) hx hb d_law_201 (lv_at hl 1 rfl) ?_
  refine lv_icmp_eq (pc := 203) (tgt := 208) hx hb d_law_203 (by decide) (fun _ => ?_) (fun c9 => absurd e3 c9)
  refine lv_iload (pc := 208) hx hb d_law_208 (lv_at hl 1 rfl) ?_
  have fin : W p l e room_1 s m args below meth c H locs (cells + 1) (slots + 6) Q (F0 m 225 ls []) := by
    refine lv_goto (pc := 225) (tgt := 1170) hx hb d_law_225 (by decide) ?_
    exact kk _ _ _ _ _ _ _ hW jb (lv_sub hl [2, 3, 4, 5, 6] rfl) (Nat.le_refl _) (Nat.le_refl _)
  refine lv_if_ne (pc := 210) (tgt := 225) hx hb d_law_210 (by decide) (fun _ => fin) (fun z9 => ?_)
  have e5 := e4 z9
  refine lv_aload_n (pc := 213) hx hb d_law_213 rfl (lv_at hl 3 rfl) ?_
  refine lv_iconst (pc := 214) (v := 0) hx hb d_law_214 (by decide) ?_
  refine z_lald (pc := 215) hF hC.2.1.1 hW.1 tq29 1 rfl rfl (by unfold vp_in; decide) e5 d_law_215 ?_
  refine lv_iload (pc := 216) hx hb d_law_216 (lv_at hl 0 rfl) ?_
  refine lv_i2l (pc := 218) hx hb d_law_218 rfl ?_
  refine W.lcmp (pc := 219) hx hb d_law_219 ?_
  exact lv_if_eq (pc := 220) (tgt := 225) hx hb d_law_220 (by decide) (fun _ => fin) (fun c9 => absurd (cmp_self _) c9)
theorem lc_1 {p : Program} {l : Launch} {e : Env} {s : State} {m : MethodId} {args : Array Value} {below : List Frame} {meth : Method} {c : Code} {H : Heap} {locs : List Loc} {cells slots : Nat} {Q : State → Prop} {ls : Array Slot} {b L b0 : Nat} {xs : Nat → Int32} {D D2 : va_G} {ca ca2 : Nat → ClassId} {sd i : Int32} {S U : St} {a1 : Int32} {a2 : Int32} (q1 : vp_in (i + 1) L ∧ xs (i + 1).toNatClampNeg = a1) (q2 : vp_in (i + 2) L ∧ xs (i + 2).toNatClampNeg = a2) (hC : LX p l s m args c b L xs D D2 ca ca2) (hW : WW D D2 ca ca2 b0 (lA s) s.heap S U H locs) (hJ : JB sd S U) (hl : lv_has ls 7 (lvs b b0 i)) (h1 : cells + 1 ≤ 601024) (h2 : slots + 6 ≤ 7293000)
    (kk : ∀ (S' U' : St) (H' : Heap) (locs' : List Loc) (cells' slots' : Nat) (ls' : Array Slot), WW D D2 ca ca2 b0 (lA s) s.heap S' U' H' locs' → JB sd S' U' → lv_has ls' 7 (lvs b b0 i) → cells' ≤ cells + 1 → slots' ≤ slots + 6 → W p l e room_1 s m args below meth c H' locs' cells' slots' Q (F0 m 1170 ls' [])) : W p l e room_1 s m args below meth c H locs cells slots Q (F0 m 228 ls []) := by
  have hF := hC.1
  have hx := hF.1
  have hb := hF.2.1
  obtain ⟨cd, S', r, U', e1, e2, e3, e4, jb, o1, o2⟩ := l_submit hJ a1 a2
  refine lv_aload_n (pc := 228) hx hb d_law_228 rfl (lv_at hl 3 rfl) ?_
  refine lv_aload_n (pc := 229) hx hb d_law_229 rfl (lv_at hl 4 rfl) ?_
  refine lv_iload (pc := 230) hx hb d_law_230 (lv_at hl 0 rfl) ?_
  refine lv_iconst (pc := 232) (v := 1) hx hb d_law_232 (by decide) ?_
  refine lv_iadd (pc := 233) hx hb d_law_233 ?_
  refine s_ld (pc := 234) hC hW q1.1 q1.2 d_law_234 ?_
  refine lv_aload_n (pc := 235) hx hb d_law_235 rfl (lv_at hl 4 rfl) ?_
  refine lv_iload (pc := 236) hx hb d_law_236 (lv_at hl 0 rfl) ?_
  refine lv_iconst (pc := 238) (v := 2) hx hb d_law_238 (by decide) ?_
  refine lv_iadd (pc := 239) hx hb d_law_239 ?_
  refine s_ld (pc := 240) hC hW q2.1 q2.2 d_law_240 ?_
  refine lv_aload_n (pc := 241) hx hb d_law_241 rfl (lv_at hl 1 rfl) ?_
  refine x_goI (mc := 1) (ms := 6) (pc := 242) hW (fun _ h => h) e1 (w_run hF hC.2.1 hW.1 (LX.xf hC hW) hC.2.2.2.2.1 (c_L_submit l hC.2.2.2.2.2.2.2 D [] (adQ b0) ca a1 a2 S o1) cd_L_submit gw_597 ⟨Nat.le_of_ble_eq_true rfl, Nat.le_of_ble_eq_true rfl⟩ ⟨h1, h2⟩ rfl rfl hl.1 (Nat.le_of_ble_eq_true rfl) d_law_242) (fun H locs hW => ?_)
  refine lv_istore (pc := 245) (lv' := (5, .int cd) :: lvs b b0 i) hx hb d_law_245 hl (by decide) rfl (fun ls hl => ?_)
  refine lv_aload_n (pc := 247) hx hb d_law_247 rfl (lv_at hl 3 rfl) ?_
  refine lv_aload_n (pc := 248) hx hb d_law_248 rfl (lv_at hl 5 rfl) ?_
  refine lv_iload (pc := 249) hx hb d_law_249 (lv_at hl 1 rfl) ?_
  refine lv_iconst (pc := 251) (v := 1) hx hb d_law_251 (by decide) ?_
  refine lv_iadd (pc := 252) hx hb d_law_252 ?_
  refine s_ld (pc := 253) hC hW q1.1 q1.2 d_law_253 ?_
  refine lv_aload_n (pc := 254) hx hb d_law_254 rfl (lv_at hl 5 rfl) ?_
  refine lv_iload (pc := 255) hx hb d_law_255 (lv_at hl 1 rfl) ?_
  refine lv_iconst (pc := 257) (v := 2) hx hb d_law_257 (by decide) ?_
  refine lv_iadd (pc := 258) hx hb d_law_258 ?_
  refine s_ld (pc := 259) hC hW q2.1 q2.2 d_law_259 ?_
  refine m_goI (mc := 0) (ms := 0) (pc := 260) hW (fun _ h => h) e2 (z_runV hF hC.2.2.1 hW.2 (c_M_submit l D2 [] (adM (b0 + 208)) ca2 a1 a2 U o2 _) cd_M_submit gw_1117 tm1 rfl rfl ⟨Nat.le_of_ble_eq_true rfl, Nat.le_of_ble_eq_true rfl⟩ ⟨h1, h2⟩ rfl rfl hl.1 (Nat.le_of_ble_eq_true rfl) d_law_260) (fun H locs hW => ?_)
  refine lv_istore (pc := 263) (lv' := (6, .int r) :: (5, .int cd) :: lvs b b0 i) hx hb d_law_263 hl (by decide) rfl (fun ls hl => ?_)
  refine lv_aload_n (pc := 265) hx hb d_law_265 rfl (lv_at hl 4 rfl) ?_
  refine p_go (pc := 266) rfl (p_runV hF hC.2.2.1 hW.2 (c_M_thrown l D2 [] (adM (b0 + 208)) ca2 U' _) cd_M_thrown gw_1014 tm1 rfl rfl ⟨Nat.le_of_ble_eq_true rfl, Nat.le_of_ble_eq_true rfl⟩ ⟨h1, h2⟩ rfl rfl hl.1 (Nat.le_of_ble_eq_true rfl) d_law_266) ?_
  refine lv_iload (pc := 269) hx hb d_law_269 (lv_at hl 1 rfl) ?_
  refine lv_icmp_eq (pc := 271) (tgt := 276) hx hb d_law_271 (by decide) (fun _ => ?_) (fun c9 => absurd e3 c9)
  refine lv_iload (pc := 276) hx hb d_law_276 (lv_at hl 1 rfl) ?_
  have fin : W p l e room_1 s m args below meth c H locs (cells + 1) (slots + 6) Q (F0 m 300 ls []) := by
    refine lv_goto (pc := 300) (tgt := 1170) hx hb d_law_300 (by decide) ?_
    exact kk _ _ _ _ _ _ _ hW jb (lv_sub hl [2, 3, 4, 5, 6] rfl) (Nat.le_refl _) (Nat.le_refl _)
  refine lv_if_ne (pc := 278) (tgt := 300) hx hb d_law_278 (by decide) (fun _ => fin) (fun z9 => ?_)
  have e5 := e4 z9
  refine lv_aload_n (pc := 281) hx hb d_law_281 rfl (lv_at hl 3 rfl) ?_
  refine lv_iconst (pc := 282) (v := 0) hx hb d_law_282 (by decide) ?_
  refine z_lald (pc := 283) hF hC.2.1.1 hW.1 tq29 1 rfl rfl (by unfold vp_in; decide) e5 d_law_283 ?_
  refine lv_iload (pc := 284) hx hb d_law_284 (lv_at hl 0 rfl) ?_
  refine lv_if_eq (pc := 286) (tgt := 293) hx hb d_law_286 (by decide) (fun z8 => ?_) (fun z8 => ?_)
  · refine lv_lconst (pc := 293) (v := 0) hx hb d_law_293 (by decide) ?_
    refine W.lcmp (pc := 294) hx hb d_law_294 ?_
    exact lv_if_eq (pc := 295) (tgt := 300) hx hb d_law_295 (by decide) (fun _ => fin) (fun c9 => absurd (cmp_eq (if_pos z8)) c9)
  · refine lv_lconst (pc := 289) (v := 1) hx hb d_law_289 (by decide) ?_
    refine lv_goto (pc := 290) (tgt := 294) hx hb d_law_290 (by decide) ?_
    refine W.lcmp (pc := 294) hx hb d_law_294 ?_
    exact lv_if_eq (pc := 295) (tgt := 300) hx hb d_law_295 (by decide) (fun _ => fin) (fun c9 => absurd (cmp_eq (if_neg z8)) c9)
theorem lc_2 {p : Program} {l : Launch} {e : Env} {s : State} {m : MethodId} {args : Array Value} {below : List Frame} {meth : Method} {c : Code} {H : Heap} {locs : List Loc} {cells slots : Nat} {Q : State → Prop} {ls : Array Slot} {b L b0 : Nat} {xs : Nat → Int32} {D D2 : va_G} {ca ca2 : Nat → ClassId} {sd i : Int32} {S U : St}   (hC : LX p l s m args c b L xs D D2 ca ca2) (hW : WW D D2 ca ca2 b0 (lA s) s.heap S U H locs) (hJ : JB sd S U) (hl : lv_has ls 7 (lvs b b0 i)) (h1 : cells + 1 ≤ 601024) (h2 : slots + 6 ≤ 7293000)
    (kk : ∀ (S' U' : St) (H' : Heap) (locs' : List Loc) (cells' slots' : Nat) (ls' : Array Slot), WW D D2 ca ca2 b0 (lA s) s.heap S' U' H' locs' → JB sd S' U' → lv_has ls' 7 (lvs b b0 i) → cells' ≤ cells + 1 → slots' ≤ slots + 6 → W p l e room_1 s m args below meth c H' locs' cells' slots' Q (F0 m 1170 ls' [])) : W p l e room_1 s m args below meth c H locs cells slots Q (F0 m 303 ls []) := by
  have hF := hC.1
  have hx := hF.1
  have hb := hF.2.1
  obtain ⟨cd, S', r, U', e1, e2, e3, e4, jb, o1, o2⟩ := l_begin hJ 
  refine lv_aload_n (pc := 303) hx hb d_law_303 rfl (lv_at hl 3 rfl) ?_
  refine lv_aload_n (pc := 304) hx hb d_law_304 rfl (lv_at hl 1 rfl) ?_
  refine x_goI (mc := 1) (ms := 6) (pc := 305) hW (fun _ h => h) e1 (w_run hF hC.2.1 hW.1 (LX.xf hC hW) hC.2.2.2.2.1 (c_L_begin l hC.2.2.2.2.2.2.2 D [] (adQ b0) ca  S o1) cd_L_begin gw_614 ⟨Nat.le_of_ble_eq_true rfl, Nat.le_of_ble_eq_true rfl⟩ ⟨h1, h2⟩ rfl rfl hl.1 (Nat.le_of_ble_eq_true rfl) d_law_305) (fun H locs hW => ?_)
  refine lv_istore (pc := 308) (lv' := (5, .int cd) :: lvs b b0 i) hx hb d_law_308 hl (by decide) rfl (fun ls hl => ?_)
  refine lv_aload_n (pc := 310) hx hb d_law_310 rfl (lv_at hl 3 rfl) ?_
  refine m_goI (mc := 0) (ms := 0) (pc := 311) hW (fun _ h => h) e2 (z_runV hF hC.2.2.1 hW.2 (c_M_begin l D2 [] (adM (b0 + 208)) ca2  U o2 _) cd_M_begin gw_1125 tm1 rfl rfl ⟨Nat.le_of_ble_eq_true rfl, Nat.le_of_ble_eq_true rfl⟩ ⟨h1, h2⟩ rfl rfl hl.1 (Nat.le_of_ble_eq_true rfl) d_law_311) (fun H locs hW => ?_)
  refine lv_istore (pc := 314) (lv' := (6, .int r) :: (5, .int cd) :: lvs b b0 i) hx hb d_law_314 hl (by decide) rfl (fun ls hl => ?_)
  refine lv_aload_n (pc := 316) hx hb d_law_316 rfl (lv_at hl 4 rfl) ?_
  refine p_go (pc := 317) rfl (p_runV hF hC.2.2.1 hW.2 (c_M_thrown l D2 [] (adM (b0 + 208)) ca2 U' _) cd_M_thrown gw_1014 tm1 rfl rfl ⟨Nat.le_of_ble_eq_true rfl, Nat.le_of_ble_eq_true rfl⟩ ⟨h1, h2⟩ rfl rfl hl.1 (Nat.le_of_ble_eq_true rfl) d_law_317) ?_
  refine lv_iload (pc := 320) hx hb d_law_320 (lv_at hl 1 rfl) ?_
  refine lv_icmp_eq (pc := 322) (tgt := 327) hx hb d_law_322 (by decide) (fun _ => ?_) (fun c9 => absurd e3 c9)
  refine lv_iload (pc := 327) hx hb d_law_327 (lv_at hl 1 rfl) ?_
  have fin : W p l e room_1 s m args below meth c H locs (cells + 1) (slots + 6) Q (F0 m 351 ls []) := by
    refine lv_goto (pc := 351) (tgt := 1170) hx hb d_law_351 (by decide) ?_
    exact kk _ _ _ _ _ _ _ hW jb (lv_sub hl [2, 3, 4, 5, 6] rfl) (Nat.le_refl _) (Nat.le_refl _)
  refine lv_if_ne (pc := 329) (tgt := 351) hx hb d_law_329 (by decide) (fun _ => fin) (fun z9 => ?_)
  have e5 := e4 z9
  refine lv_aload_n (pc := 332) hx hb d_law_332 rfl (lv_at hl 3 rfl) ?_
  refine lv_iconst (pc := 333) (v := 0) hx hb d_law_333 (by decide) ?_
  refine z_lald (pc := 334) hF hC.2.1.1 hW.1 tq29 1 rfl rfl (by unfold vp_in; decide) e5 d_law_334 ?_
  refine lv_iload (pc := 335) hx hb d_law_335 (lv_at hl 0 rfl) ?_
  refine lv_if_eq (pc := 337) (tgt := 344) hx hb d_law_337 (by decide) (fun z8 => ?_) (fun z8 => ?_)
  · refine lv_lconst (pc := 344) (v := 0) hx hb d_law_344 (by decide) ?_
    refine W.lcmp (pc := 345) hx hb d_law_345 ?_
    exact lv_if_eq (pc := 346) (tgt := 351) hx hb d_law_346 (by decide) (fun _ => fin) (fun c9 => absurd (cmp_eq (if_pos z8)) c9)
  · refine lv_lconst (pc := 340) (v := 1) hx hb d_law_340 (by decide) ?_
    refine lv_goto (pc := 341) (tgt := 345) hx hb d_law_341 (by decide) ?_
    refine W.lcmp (pc := 345) hx hb d_law_345 ?_
    exact lv_if_eq (pc := 346) (tgt := 351) hx hb d_law_346 (by decide) (fun _ => fin) (fun c9 => absurd (cmp_eq (if_neg z8)) c9)
theorem lc_3 {p : Program} {l : Launch} {e : Env} {s : State} {m : MethodId} {args : Array Value} {below : List Frame} {meth : Method} {c : Code} {H : Heap} {locs : List Loc} {cells slots : Nat} {Q : State → Prop} {ls : Array Slot} {b L b0 : Nat} {xs : Nat → Int32} {D D2 : va_G} {ca ca2 : Nat → ClassId} {sd i : Int32} {S U : St} {a1 : Int32} (q1 : vp_in (i + 1) L ∧ xs (i + 1).toNatClampNeg = a1) (hC : LX p l s m args c b L xs D D2 ca ca2) (hW : WW D D2 ca ca2 b0 (lA s) s.heap S U H locs) (hJ : JB sd S U) (hl : lv_has ls 7 (lvs b b0 i)) (h1 : cells + 1 ≤ 601024) (h2 : slots + 6 ≤ 7293000)
    (kk : ∀ (S' U' : St) (H' : Heap) (locs' : List Loc) (cells' slots' : Nat) (ls' : Array Slot), WW D D2 ca ca2 b0 (lA s) s.heap S' U' H' locs' → JB sd S' U' → lv_has ls' 7 (lvs b b0 i) → cells' ≤ cells + 1 → slots' ≤ slots + 6 → W p l e room_1 s m args below meth c H' locs' cells' slots' Q (F0 m 1170 ls' [])) : W p l e room_1 s m args below meth c H locs cells slots Q (F0 m 354 ls []) := by
  have hF := hC.1
  have hx := hF.1
  have hb := hF.2.1
  obtain ⟨cd, S', r, U', e1, e2, e3, e4, jb, o1, o2⟩ := l_deliver hJ a1
  refine lv_aload_n (pc := 354) hx hb d_law_354 rfl (lv_at hl 3 rfl) ?_
  refine lv_aload_n (pc := 355) hx hb d_law_355 rfl (lv_at hl 4 rfl) ?_
  refine lv_iload (pc := 356) hx hb d_law_356 (lv_at hl 0 rfl) ?_
  refine lv_iconst (pc := 358) (v := 1) hx hb d_law_358 (by decide) ?_
  refine lv_iadd (pc := 359) hx hb d_law_359 ?_
  refine s_ld (pc := 360) hC hW q1.1 q1.2 d_law_360 ?_
  refine lv_aload_n (pc := 361) hx hb d_law_361 rfl (lv_at hl 1 rfl) ?_
  refine x_goI (mc := 1) (ms := 6) (pc := 362) hW (fun _ h => h) e1 (w_run hF hC.2.1 hW.1 (LX.xf hC hW) hC.2.2.2.2.1 (c_L_deliver l hC.2.2.2.2.2.2.2 D [] (adQ b0) ca a1 S o1) cd_L_deliver gw_644 ⟨Nat.le_of_ble_eq_true rfl, Nat.le_of_ble_eq_true rfl⟩ ⟨h1, h2⟩ rfl rfl hl.1 (Nat.le_of_ble_eq_true rfl) d_law_362) (fun H locs hW => ?_)
  refine lv_istore (pc := 365) (lv' := (5, .int cd) :: lvs b b0 i) hx hb d_law_365 hl (by decide) rfl (fun ls hl => ?_)
  refine lv_aload_n (pc := 367) hx hb d_law_367 rfl (lv_at hl 3 rfl) ?_
  refine lv_aload_n (pc := 368) hx hb d_law_368 rfl (lv_at hl 5 rfl) ?_
  refine lv_iload (pc := 369) hx hb d_law_369 (lv_at hl 1 rfl) ?_
  refine lv_iconst (pc := 371) (v := 1) hx hb d_law_371 (by decide) ?_
  refine lv_iadd (pc := 372) hx hb d_law_372 ?_
  refine s_ld (pc := 373) hC hW q1.1 q1.2 d_law_373 ?_
  refine m_goI (mc := 0) (ms := 0) (pc := 374) hW (fun _ h => h) e2 (z_runV hF hC.2.2.1 hW.2 (c_M_deliver l D2 [] (adM (b0 + 208)) ca2 a1 U o2 _) cd_M_deliver gw_1018 tm1 rfl rfl ⟨Nat.le_of_ble_eq_true rfl, Nat.le_of_ble_eq_true rfl⟩ ⟨h1, h2⟩ rfl rfl hl.1 (Nat.le_of_ble_eq_true rfl) d_law_374) (fun H locs hW => ?_)
  refine lv_istore (pc := 377) (lv' := (6, .int r) :: (5, .int cd) :: lvs b b0 i) hx hb d_law_377 hl (by decide) rfl (fun ls hl => ?_)
  refine lv_aload_n (pc := 379) hx hb d_law_379 rfl (lv_at hl 4 rfl) ?_
  refine p_go (pc := 380) rfl (p_runV hF hC.2.2.1 hW.2 (c_M_thrown l D2 [] (adM (b0 + 208)) ca2 U' _) cd_M_thrown gw_1014 tm1 rfl rfl ⟨Nat.le_of_ble_eq_true rfl, Nat.le_of_ble_eq_true rfl⟩ ⟨h1, h2⟩ rfl rfl hl.1 (Nat.le_of_ble_eq_true rfl) d_law_380) ?_
  refine lv_iload (pc := 383) hx hb d_law_383 (lv_at hl 1 rfl) ?_
  refine lv_icmp_eq (pc := 385) (tgt := 390) hx hb d_law_385 (by decide) (fun _ => ?_) (fun c9 => absurd e3 c9)
  refine lv_iload (pc := 390) hx hb d_law_390 (lv_at hl 1 rfl) ?_
  have fin : W p l e room_1 s m args below meth c H locs (cells + 1) (slots + 6) Q (F0 m 407 ls []) := by
    refine lv_goto (pc := 407) (tgt := 1170) hx hb d_law_407 (by decide) ?_
    exact kk _ _ _ _ _ _ _ hW jb (lv_sub hl [2, 3, 4, 5, 6] rfl) (Nat.le_refl _) (Nat.le_refl _)
  refine lv_if_ne (pc := 392) (tgt := 407) hx hb d_law_392 (by decide) (fun _ => fin) (fun z9 => ?_)
  have e5 := e4 z9
  refine lv_aload_n (pc := 395) hx hb d_law_395 rfl (lv_at hl 3 rfl) ?_
  refine lv_iconst (pc := 396) (v := 0) hx hb d_law_396 (by decide) ?_
  refine z_lald (pc := 397) hF hC.2.1.1 hW.1 tq29 1 rfl rfl (by unfold vp_in; decide) e5 d_law_397 ?_
  refine lv_iload (pc := 398) hx hb d_law_398 (lv_at hl 0 rfl) ?_
  refine lv_i2l (pc := 400) hx hb d_law_400 rfl ?_
  refine W.lcmp (pc := 401) hx hb d_law_401 ?_
  exact lv_if_eq (pc := 402) (tgt := 407) hx hb d_law_402 (by decide) (fun _ => fin) (fun c9 => absurd (cmp_self _) c9)
theorem lc_4 {p : Program} {l : Launch} {e : Env} {s : State} {m : MethodId} {args : Array Value} {below : List Frame} {meth : Method} {c : Code} {H : Heap} {locs : List Loc} {cells slots : Nat} {Q : State → Prop} {ls : Array Slot} {b L b0 : Nat} {xs : Nat → Int32} {D D2 : va_G} {ca ca2 : Nat → ClassId} {sd i : Int32} {S U : St} {a1 : Int32} {a2 : Int32} (q1 : vp_in (i + 1) L ∧ xs (i + 1).toNatClampNeg = a1) (q2 : vp_in (i + 2) L ∧ xs (i + 2).toNatClampNeg = a2) (hC : LX p l s m args c b L xs D D2 ca ca2) (hW : WW D D2 ca ca2 b0 (lA s) s.heap S U H locs) (hJ : JB sd S U) (hl : lv_has ls 7 (lvs b b0 i)) (h1 : cells + 1 ≤ 601024) (h2 : slots + 6 ≤ 7293000)
    (kk : ∀ (S' U' : St) (H' : Heap) (locs' : List Loc) (cells' slots' : Nat) (ls' : Array Slot), WW D D2 ca ca2 b0 (lA s) s.heap S' U' H' locs' → JB sd S' U' → lv_has ls' 7 (lvs b b0 i) → cells' ≤ cells + 1 → slots' ≤ slots + 6 → W p l e room_1 s m args below meth c H' locs' cells' slots' Q (F0 m 1170 ls' [])) : W p l e room_1 s m args below meth c H locs cells slots Q (F0 m 410 ls []) := by
  have hF := hC.1
  have hx := hF.1
  have hb := hF.2.1
  obtain ⟨cd, S', r, U', e1, e2, e3, e4, jb, o1, o2⟩ := l_disturb hJ a1 a2
  refine lv_aload_n (pc := 410) hx hb d_law_410 rfl (lv_at hl 3 rfl) ?_
  refine lv_aload_n (pc := 411) hx hb d_law_411 rfl (lv_at hl 4 rfl) ?_
  refine lv_iload (pc := 412) hx hb d_law_412 (lv_at hl 0 rfl) ?_
  refine lv_iconst (pc := 414) (v := 1) hx hb d_law_414 (by decide) ?_
  refine lv_iadd (pc := 415) hx hb d_law_415 ?_
  refine s_ld (pc := 416) hC hW q1.1 q1.2 d_law_416 ?_
  refine lv_aload_n (pc := 417) hx hb d_law_417 rfl (lv_at hl 4 rfl) ?_
  refine lv_iload (pc := 418) hx hb d_law_418 (lv_at hl 0 rfl) ?_
  refine lv_iconst (pc := 420) (v := 2) hx hb d_law_420 (by decide) ?_
  refine lv_iadd (pc := 421) hx hb d_law_421 ?_
  refine s_ld (pc := 422) hC hW q2.1 q2.2 d_law_422 ?_
  refine lv_aload_n (pc := 423) hx hb d_law_423 rfl (lv_at hl 1 rfl) ?_
  refine x_goI (mc := 1) (ms := 6) (pc := 424) hW (fun _ h => h) e1 (w_run hF hC.2.1 hW.1 (LX.xf hC hW) hC.2.2.2.2.1 (c_L_disturb l hC.2.2.2.2.2.2.2 D [] (adQ b0) ca a1 a2 S o1) cd_L_disturb gw_773 ⟨Nat.le_of_ble_eq_true rfl, Nat.le_of_ble_eq_true rfl⟩ ⟨h1, h2⟩ rfl rfl hl.1 (Nat.le_of_ble_eq_true rfl) d_law_424) (fun H locs hW => ?_)
  refine lv_istore (pc := 427) (lv' := (5, .int cd) :: lvs b b0 i) hx hb d_law_427 hl (by decide) rfl (fun ls hl => ?_)
  refine lv_aload_n (pc := 429) hx hb d_law_429 rfl (lv_at hl 3 rfl) ?_
  refine lv_aload_n (pc := 430) hx hb d_law_430 rfl (lv_at hl 5 rfl) ?_
  refine lv_iload (pc := 431) hx hb d_law_431 (lv_at hl 1 rfl) ?_
  refine lv_iconst (pc := 433) (v := 1) hx hb d_law_433 (by decide) ?_
  refine lv_iadd (pc := 434) hx hb d_law_434 ?_
  refine s_ld (pc := 435) hC hW q1.1 q1.2 d_law_435 ?_
  refine lv_aload_n (pc := 436) hx hb d_law_436 rfl (lv_at hl 5 rfl) ?_
  refine lv_iload (pc := 437) hx hb d_law_437 (lv_at hl 1 rfl) ?_
  refine lv_iconst (pc := 439) (v := 2) hx hb d_law_439 (by decide) ?_
  refine lv_iadd (pc := 440) hx hb d_law_440 ?_
  refine s_ld (pc := 441) hC hW q2.1 q2.2 d_law_441 ?_
  refine m_goI (mc := 0) (ms := 0) (pc := 442) hW (fun _ h => h) e2 (z_runV hF hC.2.2.1 hW.2 (c_M_disturb l D2 [] (adM (b0 + 208)) ca2 a1 a2 U o2 _) cd_M_disturb gw_1129 tm1 rfl rfl ⟨Nat.le_of_ble_eq_true rfl, Nat.le_of_ble_eq_true rfl⟩ ⟨h1, h2⟩ rfl rfl hl.1 (Nat.le_of_ble_eq_true rfl) d_law_442) (fun H locs hW => ?_)
  refine lv_istore (pc := 445) (lv' := (6, .int r) :: (5, .int cd) :: lvs b b0 i) hx hb d_law_445 hl (by decide) rfl (fun ls hl => ?_)
  refine lv_aload_n (pc := 447) hx hb d_law_447 rfl (lv_at hl 4 rfl) ?_
  refine p_go (pc := 448) rfl (p_runV hF hC.2.2.1 hW.2 (c_M_thrown l D2 [] (adM (b0 + 208)) ca2 U' _) cd_M_thrown gw_1014 tm1 rfl rfl ⟨Nat.le_of_ble_eq_true rfl, Nat.le_of_ble_eq_true rfl⟩ ⟨h1, h2⟩ rfl rfl hl.1 (Nat.le_of_ble_eq_true rfl) d_law_448) ?_
  refine lv_iload (pc := 451) hx hb d_law_451 (lv_at hl 1 rfl) ?_
  refine lv_icmp_eq (pc := 453) (tgt := 458) hx hb d_law_453 (by decide) (fun _ => ?_) (fun c9 => absurd e3 c9)
  refine lv_iload (pc := 458) hx hb d_law_458 (lv_at hl 1 rfl) ?_
  have fin : W p l e room_1 s m args below meth c H locs (cells + 1) (slots + 6) Q (F0 m 482 ls []) := by
    refine lv_goto (pc := 482) (tgt := 1170) hx hb d_law_482 (by decide) ?_
    exact kk _ _ _ _ _ _ _ hW jb (lv_sub hl [2, 3, 4, 5, 6] rfl) (Nat.le_refl _) (Nat.le_refl _)
  refine lv_if_ne (pc := 460) (tgt := 482) hx hb d_law_460 (by decide) (fun _ => fin) (fun z9 => ?_)
  have e5 := e4 z9
  refine lv_aload_n (pc := 463) hx hb d_law_463 rfl (lv_at hl 3 rfl) ?_
  refine lv_iconst (pc := 464) (v := 0) hx hb d_law_464 (by decide) ?_
  refine z_lald (pc := 465) hF hC.2.1.1 hW.1 tq29 1 rfl rfl (by unfold vp_in; decide) e5 d_law_465 ?_
  refine lv_iload (pc := 466) hx hb d_law_466 (lv_at hl 0 rfl) ?_
  refine lv_if_eq (pc := 468) (tgt := 475) hx hb d_law_468 (by decide) (fun z8 => ?_) (fun z8 => ?_)
  · refine lv_lconst (pc := 475) (v := 0) hx hb d_law_475 (by decide) ?_
    refine W.lcmp (pc := 476) hx hb d_law_476 ?_
    exact lv_if_eq (pc := 477) (tgt := 482) hx hb d_law_477 (by decide) (fun _ => fin) (fun c9 => absurd (cmp_eq (if_pos z8)) c9)
  · refine lv_lconst (pc := 471) (v := 1) hx hb d_law_471 (by decide) ?_
    refine lv_goto (pc := 472) (tgt := 476) hx hb d_law_472 (by decide) ?_
    refine W.lcmp (pc := 476) hx hb d_law_476 ?_
    exact lv_if_eq (pc := 477) (tgt := 482) hx hb d_law_477 (by decide) (fun _ => fin) (fun c9 => absurd (cmp_eq (if_neg z8)) c9)
theorem lc_5 {p : Program} {l : Launch} {e : Env} {s : State} {m : MethodId} {args : Array Value} {below : List Frame} {meth : Method} {c : Code} {H : Heap} {locs : List Loc} {cells slots : Nat} {Q : State → Prop} {ls : Array Slot} {b L b0 : Nat} {xs : Nat → Int32} {D D2 : va_G} {ca ca2 : Nat → ClassId} {sd i : Int32} {S U : St} {a1 : Int32} {a2 : Int32} {a3 : Int32} {a4 : Int32} (q1 : vp_in (i + 1) L ∧ xs (i + 1).toNatClampNeg = a1) (q2 : vp_in (i + 2) L ∧ xs (i + 2).toNatClampNeg = a2) (q3 : vp_in (i + 3) L ∧ xs (i + 3).toNatClampNeg = a3) (q4 : vp_in (i + 4) L ∧ xs (i + 4).toNatClampNeg = a4) (hC : LX p l s m args c b L xs D D2 ca ca2) (hW : WW D D2 ca ca2 b0 (lA s) s.heap S U H locs) (hJ : JB sd S U) (hl : lv_has ls 7 (lvs b b0 i)) (h1 : cells + 1 ≤ 601024) (h2 : slots + 6 ≤ 7293000)
    (kk : ∀ (S' U' : St) (H' : Heap) (locs' : List Loc) (cells' slots' : Nat) (ls' : Array Slot), WW D D2 ca ca2 b0 (lA s) s.heap S' U' H' locs' → JB sd S' U' → lv_has ls' 7 (lvs b b0 i) → cells' ≤ cells + 1 → slots' ≤ slots + 6 → W p l e room_1 s m args below meth c H' locs' cells' slots' Q (F0 m 1170 ls' [])) : W p l e room_1 s m args below meth c H locs cells slots Q (F0 m 485 ls []) := by
  have hF := hC.1
  have hx := hF.1
  have hb := hF.2.1
  obtain ⟨av, hv⟩ : ∃ av, av = a3.toInt64 <<< ((32 : Int32).toInt64 &&& 63) ||| a4.toInt64 &&& 4294967295 := ⟨_, rfl⟩
  obtain ⟨cd, S', r, U', e1, e2, e3, e4, jb, o1, o2⟩ := l_alter hJ a1 a2 av
  refine lv_aload_n (pc := 485) hx hb d_law_485 rfl (lv_at hl 3 rfl) ?_
  refine lv_aload_n (pc := 486) hx hb d_law_486 rfl (lv_at hl 4 rfl) ?_
  refine lv_iload (pc := 487) hx hb d_law_487 (lv_at hl 0 rfl) ?_
  refine lv_iconst (pc := 489) (v := 1) hx hb d_law_489 (by decide) ?_
  refine lv_iadd (pc := 490) hx hb d_law_490 ?_
  refine s_ld (pc := 491) hC hW q1.1 q1.2 d_law_491 ?_
  refine lv_aload_n (pc := 492) hx hb d_law_492 rfl (lv_at hl 4 rfl) ?_
  refine lv_iload (pc := 493) hx hb d_law_493 (lv_at hl 0 rfl) ?_
  refine lv_iconst (pc := 495) (v := 2) hx hb d_law_495 (by decide) ?_
  refine lv_iadd (pc := 496) hx hb d_law_496 ?_
  refine s_ld (pc := 497) hC hW q2.1 q2.2 d_law_497 ?_
  refine lv_aload_n (pc := 498) hx hb d_law_498 rfl (lv_at hl 4 rfl) ?_
  refine lv_iload (pc := 499) hx hb d_law_499 (lv_at hl 0 rfl) ?_
  refine lv_iconst (pc := 501) (v := 3) hx hb d_law_501 (by decide) ?_
  refine lv_iadd (pc := 502) hx hb d_law_502 ?_
  refine s_ld (pc := 503) hC hW q3.1 q3.2 d_law_503 ?_
  refine lv_i2l (pc := 504) hx hb d_law_504 rfl ?_
  refine lv_bipush (pc := 505) (v := 32) hx hb d_law_505 (by decide) ?_
  refine lv_lshl (pc := 507) hx hb d_law_507 rfl ?_
  refine lv_aload_n (pc := 508) hx hb d_law_508 rfl (lv_at hl 4 rfl) ?_
  refine lv_iload (pc := 509) hx hb d_law_509 (lv_at hl 0 rfl) ?_
  refine lv_iconst (pc := 511) (v := 4) hx hb d_law_511 (by decide) ?_
  refine lv_iadd (pc := 512) hx hb d_law_512 ?_
  refine s_ld (pc := 513) hC hW q4.1 q4.2 d_law_513 ?_
  refine lv_i2l (pc := 514) hx hb d_law_514 rfl ?_
  refine lv_ldc2 (pc := 515) hx hb hF.2.2.2.1 (hF.2.2.2.2 _ gw_1197) d_law_515 ?_
  refine lv_land (pc := 518) hx hb d_law_518 ?_
  refine lv_lor (pc := 519) hx hb d_law_519 ?_
  refine W.eq (g2 := F0 m 520 ls [.long av, .int a2, .int a1, .ref (adQ b0 (1, 0, 0))]) (by rw [hv]) ?_
  refine lv_aload_n (pc := 520) hx hb d_law_520 rfl (lv_at hl 1 rfl) ?_
  refine x_goI (mc := 1) (ms := 6) (pc := 521) hW (fun _ h => h) e1 (w_run hF hC.2.1 hW.1 (LX.xf hC hW) hC.2.2.2.2.1 (c_L_alter l hC.2.2.2.2.2.2.2 D [] (adQ b0) ca a1 a2 av S o1) cd_L_alter gw_783 ⟨Nat.le_of_ble_eq_true rfl, Nat.le_of_ble_eq_true rfl⟩ ⟨h1, h2⟩ rfl rfl hl.1 (Nat.le_of_ble_eq_true rfl) d_law_521) (fun H locs hW => ?_)
  refine lv_istore (pc := 524) (lv' := (5, .int cd) :: lvs b b0 i) hx hb d_law_524 hl (by decide) rfl (fun ls hl => ?_)
  refine lv_aload_n (pc := 526) hx hb d_law_526 rfl (lv_at hl 3 rfl) ?_
  refine lv_aload_n (pc := 527) hx hb d_law_527 rfl (lv_at hl 5 rfl) ?_
  refine lv_iload (pc := 528) hx hb d_law_528 (lv_at hl 1 rfl) ?_
  refine lv_iconst (pc := 530) (v := 1) hx hb d_law_530 (by decide) ?_
  refine lv_iadd (pc := 531) hx hb d_law_531 ?_
  refine s_ld (pc := 532) hC hW q1.1 q1.2 d_law_532 ?_
  refine lv_aload_n (pc := 533) hx hb d_law_533 rfl (lv_at hl 5 rfl) ?_
  refine lv_iload (pc := 534) hx hb d_law_534 (lv_at hl 1 rfl) ?_
  refine lv_iconst (pc := 536) (v := 2) hx hb d_law_536 (by decide) ?_
  refine lv_iadd (pc := 537) hx hb d_law_537 ?_
  refine s_ld (pc := 538) hC hW q2.1 q2.2 d_law_538 ?_
  refine lv_aload_n (pc := 539) hx hb d_law_539 rfl (lv_at hl 5 rfl) ?_
  refine lv_iload (pc := 540) hx hb d_law_540 (lv_at hl 1 rfl) ?_
  refine lv_iconst (pc := 542) (v := 3) hx hb d_law_542 (by decide) ?_
  refine lv_iadd (pc := 543) hx hb d_law_543 ?_
  refine s_ld (pc := 544) hC hW q3.1 q3.2 d_law_544 ?_
  refine lv_i2l (pc := 545) hx hb d_law_545 rfl ?_
  refine lv_bipush (pc := 546) (v := 32) hx hb d_law_546 (by decide) ?_
  refine lv_lshl (pc := 548) hx hb d_law_548 rfl ?_
  refine lv_aload_n (pc := 549) hx hb d_law_549 rfl (lv_at hl 5 rfl) ?_
  refine lv_iload (pc := 550) hx hb d_law_550 (lv_at hl 1 rfl) ?_
  refine lv_iconst (pc := 552) (v := 4) hx hb d_law_552 (by decide) ?_
  refine lv_iadd (pc := 553) hx hb d_law_553 ?_
  refine s_ld (pc := 554) hC hW q4.1 q4.2 d_law_554 ?_
  refine lv_i2l (pc := 555) hx hb d_law_555 rfl ?_
  refine lv_ldc2 (pc := 556) hx hb hF.2.2.2.1 (hF.2.2.2.2 _ gw_1197) d_law_556 ?_
  refine lv_land (pc := 559) hx hb d_law_559 ?_
  refine lv_lor (pc := 560) hx hb d_law_560 ?_
  refine W.eq (g2 := F0 m 561 ls [.long av, .int a2, .int a1, .ref (adM (b0 + 208) (1, 0, 0))]) (by rw [hv]) ?_
  refine m_goI (mc := 0) (ms := 0) (pc := 561) hW (fun _ h => h) e2 (z_runV hF hC.2.2.1 hW.2 (c_M_alter l D2 [] (adM (b0 + 208)) ca2 a1 a2 av U o2 _) cd_M_alter gw_1133 tm1 rfl rfl ⟨Nat.le_of_ble_eq_true rfl, Nat.le_of_ble_eq_true rfl⟩ ⟨h1, h2⟩ rfl rfl hl.1 (Nat.le_of_ble_eq_true rfl) d_law_561) (fun H locs hW => ?_)
  refine lv_istore (pc := 564) (lv' := (6, .int r) :: (5, .int cd) :: lvs b b0 i) hx hb d_law_564 hl (by decide) rfl (fun ls hl => ?_)
  refine lv_aload_n (pc := 566) hx hb d_law_566 rfl (lv_at hl 4 rfl) ?_
  refine p_go (pc := 567) rfl (p_runV hF hC.2.2.1 hW.2 (c_M_thrown l D2 [] (adM (b0 + 208)) ca2 U' _) cd_M_thrown gw_1014 tm1 rfl rfl ⟨Nat.le_of_ble_eq_true rfl, Nat.le_of_ble_eq_true rfl⟩ ⟨h1, h2⟩ rfl rfl hl.1 (Nat.le_of_ble_eq_true rfl) d_law_567) ?_
  refine lv_iload (pc := 570) hx hb d_law_570 (lv_at hl 1 rfl) ?_
  refine lv_icmp_eq (pc := 572) (tgt := 577) hx hb d_law_572 (by decide) (fun _ => ?_) (fun c9 => absurd e3 c9)
  refine lv_iload (pc := 577) hx hb d_law_577 (lv_at hl 1 rfl) ?_
  have fin : W p l e room_1 s m args below meth c H locs (cells + 1) (slots + 6) Q (F0 m 601 ls []) := by
    refine lv_goto (pc := 601) (tgt := 1170) hx hb d_law_601 (by decide) ?_
    exact kk _ _ _ _ _ _ _ hW jb (lv_sub hl [2, 3, 4, 5, 6] rfl) (Nat.le_refl _) (Nat.le_refl _)
  refine lv_if_ne (pc := 579) (tgt := 601) hx hb d_law_579 (by decide) (fun _ => fin) (fun z9 => ?_)
  have e5 := e4 z9
  refine lv_aload_n (pc := 582) hx hb d_law_582 rfl (lv_at hl 3 rfl) ?_
  refine lv_iconst (pc := 583) (v := 0) hx hb d_law_583 (by decide) ?_
  refine z_lald (pc := 584) hF hC.2.1.1 hW.1 tq29 1 rfl rfl (by unfold vp_in; decide) e5 d_law_584 ?_
  refine lv_iload (pc := 585) hx hb d_law_585 (lv_at hl 0 rfl) ?_
  refine lv_if_eq (pc := 587) (tgt := 594) hx hb d_law_587 (by decide) (fun z8 => ?_) (fun z8 => ?_)
  · refine lv_lconst (pc := 594) (v := 0) hx hb d_law_594 (by decide) ?_
    refine W.lcmp (pc := 595) hx hb d_law_595 ?_
    exact lv_if_eq (pc := 596) (tgt := 601) hx hb d_law_596 (by decide) (fun _ => fin) (fun c9 => absurd (cmp_eq (if_pos z8)) c9)
  · refine lv_lconst (pc := 590) (v := 1) hx hb d_law_590 (by decide) ?_
    refine lv_goto (pc := 591) (tgt := 595) hx hb d_law_591 (by decide) ?_
    refine W.lcmp (pc := 595) hx hb d_law_595 ?_
    exact lv_if_eq (pc := 596) (tgt := 601) hx hb d_law_596 (by decide) (fun _ => fin) (fun c9 => absurd (cmp_eq (if_neg z8)) c9)
theorem lc_6 {p : Program} {l : Launch} {e : Env} {s : State} {m : MethodId} {args : Array Value} {below : List Frame} {meth : Method} {c : Code} {H : Heap} {locs : List Loc} {cells slots : Nat} {Q : State → Prop} {ls : Array Slot} {b L b0 : Nat} {xs : Nat → Int32} {D D2 : va_G} {ca ca2 : Nat → ClassId} {sd i : Int32} {S U : St} {a1 : Int32} {a2 : Int32} {a3 : Int32} {a4 : Int32} (q1 : vp_in (i + 1) L ∧ xs (i + 1).toNatClampNeg = a1) (q2 : vp_in (i + 2) L ∧ xs (i + 2).toNatClampNeg = a2) (q3 : vp_in (i + 3) L ∧ xs (i + 3).toNatClampNeg = a3) (q4 : vp_in (i + 4) L ∧ xs (i + 4).toNatClampNeg = a4) (hC : LX p l s m args c b L xs D D2 ca ca2) (hW : WW D D2 ca ca2 b0 (lA s) s.heap S U H locs) (hJ : JB sd S U) (hl : lv_has ls 7 (lvs b b0 i)) (h1 : cells + 1 ≤ 601024) (h2 : slots + 6 ≤ 7293000)
    (kk : ∀ (S' U' : St) (H' : Heap) (locs' : List Loc) (cells' slots' : Nat) (ls' : Array Slot), WW D D2 ca ca2 b0 (lA s) s.heap S' U' H' locs' → JB sd S' U' → lv_has ls' 7 (lvs b b0 i) → cells' ≤ cells + 1 → slots' ≤ slots + 6 → W p l e room_1 s m args below meth c H' locs' cells' slots' Q (F0 m 1170 ls' [])) : W p l e room_1 s m args below meth c H locs cells slots Q (F0 m 604 ls []) := by
  have hF := hC.1
  have hx := hF.1
  have hb := hF.2.1
  obtain ⟨cd, S', r, U', e1, e2, e3, e4, jb, o1, o2⟩ := l_lie hJ a1 a2 a3 a4
  refine lv_aload_n (pc := 604) hx hb d_law_604 rfl (lv_at hl 3 rfl) ?_
  refine lv_aload_n (pc := 605) hx hb d_law_605 rfl (lv_at hl 4 rfl) ?_
  refine lv_iload (pc := 606) hx hb d_law_606 (lv_at hl 0 rfl) ?_
  refine lv_iconst (pc := 608) (v := 1) hx hb d_law_608 (by decide) ?_
  refine lv_iadd (pc := 609) hx hb d_law_609 ?_
  refine s_ld (pc := 610) hC hW q1.1 q1.2 d_law_610 ?_
  refine lv_aload_n (pc := 611) hx hb d_law_611 rfl (lv_at hl 4 rfl) ?_
  refine lv_iload (pc := 612) hx hb d_law_612 (lv_at hl 0 rfl) ?_
  refine lv_iconst (pc := 614) (v := 2) hx hb d_law_614 (by decide) ?_
  refine lv_iadd (pc := 615) hx hb d_law_615 ?_
  refine s_ld (pc := 616) hC hW q2.1 q2.2 d_law_616 ?_
  refine lv_aload_n (pc := 617) hx hb d_law_617 rfl (lv_at hl 4 rfl) ?_
  refine lv_iload (pc := 618) hx hb d_law_618 (lv_at hl 0 rfl) ?_
  refine lv_iconst (pc := 620) (v := 3) hx hb d_law_620 (by decide) ?_
  refine lv_iadd (pc := 621) hx hb d_law_621 ?_
  refine s_ld (pc := 622) hC hW q3.1 q3.2 d_law_622 ?_
  refine lv_aload_n (pc := 623) hx hb d_law_623 rfl (lv_at hl 4 rfl) ?_
  refine lv_iload (pc := 624) hx hb d_law_624 (lv_at hl 0 rfl) ?_
  refine lv_iconst (pc := 626) (v := 4) hx hb d_law_626 (by decide) ?_
  refine lv_iadd (pc := 627) hx hb d_law_627 ?_
  refine s_ld (pc := 628) hC hW q4.1 q4.2 d_law_628 ?_
  refine lv_aload_n (pc := 629) hx hb d_law_629 rfl (lv_at hl 1 rfl) ?_
  refine x_goI (mc := 1) (ms := 6) (pc := 630) hW (fun _ h => h) e1 (w_run hF hC.2.1 hW.1 (LX.xf hC hW) hC.2.2.2.2.1 (c_L_lie l hC.2.2.2.2.2.2.2 D [] (adQ b0) ca a1 a2 a3 a4 S o1) cd_L_lie gw_792 ⟨Nat.le_of_ble_eq_true rfl, Nat.le_of_ble_eq_true rfl⟩ ⟨h1, h2⟩ rfl rfl hl.1 (Nat.le_of_ble_eq_true rfl) d_law_630) (fun H locs hW => ?_)
  refine lv_istore (pc := 633) (lv' := (5, .int cd) :: lvs b b0 i) hx hb d_law_633 hl (by decide) rfl (fun ls hl => ?_)
  refine lv_aload_n (pc := 635) hx hb d_law_635 rfl (lv_at hl 3 rfl) ?_
  refine lv_aload_n (pc := 636) hx hb d_law_636 rfl (lv_at hl 5 rfl) ?_
  refine lv_iload (pc := 637) hx hb d_law_637 (lv_at hl 1 rfl) ?_
  refine lv_iconst (pc := 639) (v := 1) hx hb d_law_639 (by decide) ?_
  refine lv_iadd (pc := 640) hx hb d_law_640 ?_
  refine s_ld (pc := 641) hC hW q1.1 q1.2 d_law_641 ?_
  refine lv_aload_n (pc := 642) hx hb d_law_642 rfl (lv_at hl 5 rfl) ?_
  refine lv_iload (pc := 643) hx hb d_law_643 (lv_at hl 1 rfl) ?_
  refine lv_iconst (pc := 645) (v := 2) hx hb d_law_645 (by decide) ?_
  refine lv_iadd (pc := 646) hx hb d_law_646 ?_
  refine s_ld (pc := 647) hC hW q2.1 q2.2 d_law_647 ?_
  refine lv_aload_n (pc := 648) hx hb d_law_648 rfl (lv_at hl 5 rfl) ?_
  refine lv_iload (pc := 649) hx hb d_law_649 (lv_at hl 1 rfl) ?_
  refine lv_iconst (pc := 651) (v := 3) hx hb d_law_651 (by decide) ?_
  refine lv_iadd (pc := 652) hx hb d_law_652 ?_
  refine s_ld (pc := 653) hC hW q3.1 q3.2 d_law_653 ?_
  refine lv_aload_n (pc := 654) hx hb d_law_654 rfl (lv_at hl 5 rfl) ?_
  refine lv_iload (pc := 655) hx hb d_law_655 (lv_at hl 1 rfl) ?_
  refine lv_iconst (pc := 657) (v := 4) hx hb d_law_657 (by decide) ?_
  refine lv_iadd (pc := 658) hx hb d_law_658 ?_
  refine s_ld (pc := 659) hC hW q4.1 q4.2 d_law_659 ?_
  refine m_goI (mc := 0) (ms := 0) (pc := 660) hW (fun _ h => h) e2 (z_runV hF hC.2.2.1 hW.2 (c_M_lie l D2 [] (adM (b0 + 208)) ca2 a1 a2 a3 a4 U o2 _) cd_M_lie gw_1137 tm1 rfl rfl ⟨Nat.le_of_ble_eq_true rfl, Nat.le_of_ble_eq_true rfl⟩ ⟨h1, h2⟩ rfl rfl hl.1 (Nat.le_of_ble_eq_true rfl) d_law_660) (fun H locs hW => ?_)
  refine lv_istore (pc := 663) (lv' := (6, .int r) :: (5, .int cd) :: lvs b b0 i) hx hb d_law_663 hl (by decide) rfl (fun ls hl => ?_)
  refine lv_aload_n (pc := 665) hx hb d_law_665 rfl (lv_at hl 4 rfl) ?_
  refine p_go (pc := 666) rfl (p_runV hF hC.2.2.1 hW.2 (c_M_thrown l D2 [] (adM (b0 + 208)) ca2 U' _) cd_M_thrown gw_1014 tm1 rfl rfl ⟨Nat.le_of_ble_eq_true rfl, Nat.le_of_ble_eq_true rfl⟩ ⟨h1, h2⟩ rfl rfl hl.1 (Nat.le_of_ble_eq_true rfl) d_law_666) ?_
  refine lv_iload (pc := 669) hx hb d_law_669 (lv_at hl 1 rfl) ?_
  refine lv_icmp_eq (pc := 671) (tgt := 676) hx hb d_law_671 (by decide) (fun _ => ?_) (fun c9 => absurd e3 c9)
  refine lv_iload (pc := 676) hx hb d_law_676 (lv_at hl 1 rfl) ?_
  have fin : W p l e room_1 s m args below meth c H locs (cells + 1) (slots + 6) Q (F0 m 693 ls []) := by
    refine lv_goto (pc := 693) (tgt := 1170) hx hb d_law_693 (by decide) ?_
    exact kk _ _ _ _ _ _ _ hW jb (lv_sub hl [2, 3, 4, 5, 6] rfl) (Nat.le_refl _) (Nat.le_refl _)
  refine lv_if_ne (pc := 678) (tgt := 693) hx hb d_law_678 (by decide) (fun _ => fin) (fun z9 => ?_)
  have e5 := e4 z9
  refine lv_aload_n (pc := 681) hx hb d_law_681 rfl (lv_at hl 3 rfl) ?_
  refine lv_iconst (pc := 682) (v := 0) hx hb d_law_682 (by decide) ?_
  refine z_lald (pc := 683) hF hC.2.1.1 hW.1 tq29 1 rfl rfl (by unfold vp_in; decide) e5 d_law_683 ?_
  refine lv_iload (pc := 684) hx hb d_law_684 (lv_at hl 0 rfl) ?_
  refine lv_i2l (pc := 686) hx hb d_law_686 rfl ?_
  refine W.lcmp (pc := 687) hx hb d_law_687 ?_
  exact lv_if_eq (pc := 688) (tgt := 693) hx hb d_law_688 (by decide) (fun _ => fin) (fun c9 => absurd (cmp_self _) c9)
theorem lc_7 {p : Program} {l : Launch} {e : Env} {s : State} {m : MethodId} {args : Array Value} {below : List Frame} {meth : Method} {c : Code} {H : Heap} {locs : List Loc} {cells slots : Nat} {Q : State → Prop} {ls : Array Slot} {b L b0 : Nat} {xs : Nat → Int32} {D D2 : va_G} {ca ca2 : Nat → ClassId} {sd i : Int32} {S U : St} {a1 : Int32} {a2 : Int32} (q1 : vp_in (i + 1) L ∧ xs (i + 1).toNatClampNeg = a1) (q2 : vp_in (i + 2) L ∧ xs (i + 2).toNatClampNeg = a2) (hC : LX p l s m args c b L xs D D2 ca ca2) (hW : WW D D2 ca ca2 b0 (lA s) s.heap S U H locs) (hJ : JB sd S U) (hl : lv_has ls 7 (lvs b b0 i)) (h1 : cells + 1 ≤ 601024) (h2 : slots + 6 ≤ 7293000)
    (kk : ∀ (S' U' : St) (H' : Heap) (locs' : List Loc) (cells' slots' : Nat) (ls' : Array Slot), WW D D2 ca ca2 b0 (lA s) s.heap S' U' H' locs' → JB sd S' U' → lv_has ls' 7 (lvs b b0 i) → cells' ≤ cells + 1 → slots' ≤ slots + 6 → W p l e room_1 s m args below meth c H' locs' cells' slots' Q (F0 m 1170 ls' [])) : W p l e room_1 s m args below meth c H locs cells slots Q (F0 m 696 ls []) := by
  have hF := hC.1
  have hx := hF.1
  have hb := hF.2.1
  obtain ⟨cd, S', r, U', e1, e2, e3, e4, jb, o1, o2⟩ := l_lieVote hJ a1 a2
  refine lv_aload_n (pc := 696) hx hb d_law_696 rfl (lv_at hl 3 rfl) ?_
  refine lv_aload_n (pc := 697) hx hb d_law_697 rfl (lv_at hl 4 rfl) ?_
  refine lv_iload (pc := 698) hx hb d_law_698 (lv_at hl 0 rfl) ?_
  refine lv_iconst (pc := 700) (v := 1) hx hb d_law_700 (by decide) ?_
  refine lv_iadd (pc := 701) hx hb d_law_701 ?_
  refine s_ld (pc := 702) hC hW q1.1 q1.2 d_law_702 ?_
  refine lv_aload_n (pc := 703) hx hb d_law_703 rfl (lv_at hl 4 rfl) ?_
  refine lv_iload (pc := 704) hx hb d_law_704 (lv_at hl 0 rfl) ?_
  refine lv_iconst (pc := 706) (v := 2) hx hb d_law_706 (by decide) ?_
  refine lv_iadd (pc := 707) hx hb d_law_707 ?_
  refine s_ld (pc := 708) hC hW q2.1 q2.2 d_law_708 ?_
  refine lv_aload_n (pc := 709) hx hb d_law_709 rfl (lv_at hl 1 rfl) ?_
  refine x_goI (mc := 1) (ms := 6) (pc := 710) hW (fun _ h => h) e1 (w_run hF hC.2.1 hW.1 (LX.xf hC hW) hC.2.2.2.2.1 (c_L_lieVote l hC.2.2.2.2.2.2.2 D [] (adQ b0) ca a1 a2 S o1) cd_L_lieVote gw_804 ⟨Nat.le_of_ble_eq_true rfl, Nat.le_of_ble_eq_true rfl⟩ ⟨h1, h2⟩ rfl rfl hl.1 (Nat.le_of_ble_eq_true rfl) d_law_710) (fun H locs hW => ?_)
  refine lv_istore (pc := 713) (lv' := (5, .int cd) :: lvs b b0 i) hx hb d_law_713 hl (by decide) rfl (fun ls hl => ?_)
  refine lv_aload_n (pc := 715) hx hb d_law_715 rfl (lv_at hl 3 rfl) ?_
  refine lv_aload_n (pc := 716) hx hb d_law_716 rfl (lv_at hl 5 rfl) ?_
  refine lv_iload (pc := 717) hx hb d_law_717 (lv_at hl 1 rfl) ?_
  refine lv_iconst (pc := 719) (v := 1) hx hb d_law_719 (by decide) ?_
  refine lv_iadd (pc := 720) hx hb d_law_720 ?_
  refine s_ld (pc := 721) hC hW q1.1 q1.2 d_law_721 ?_
  refine lv_aload_n (pc := 722) hx hb d_law_722 rfl (lv_at hl 5 rfl) ?_
  refine lv_iload (pc := 723) hx hb d_law_723 (lv_at hl 1 rfl) ?_
  refine lv_iconst (pc := 725) (v := 2) hx hb d_law_725 (by decide) ?_
  refine lv_iadd (pc := 726) hx hb d_law_726 ?_
  refine s_ld (pc := 727) hC hW q2.1 q2.2 d_law_727 ?_
  refine m_goI (mc := 0) (ms := 0) (pc := 728) hW (fun _ h => h) e2 (z_runV hF hC.2.2.1 hW.2 (c_M_lieVote l D2 [] (adM (b0 + 208)) ca2 a1 a2 U o2 _) cd_M_lieVote gw_1145 tm1 rfl rfl ⟨Nat.le_of_ble_eq_true rfl, Nat.le_of_ble_eq_true rfl⟩ ⟨h1, h2⟩ rfl rfl hl.1 (Nat.le_of_ble_eq_true rfl) d_law_728) (fun H locs hW => ?_)
  refine lv_istore (pc := 731) (lv' := (6, .int r) :: (5, .int cd) :: lvs b b0 i) hx hb d_law_731 hl (by decide) rfl (fun ls hl => ?_)
  refine lv_aload_n (pc := 733) hx hb d_law_733 rfl (lv_at hl 4 rfl) ?_
  refine p_go (pc := 734) rfl (p_runV hF hC.2.2.1 hW.2 (c_M_thrown l D2 [] (adM (b0 + 208)) ca2 U' _) cd_M_thrown gw_1014 tm1 rfl rfl ⟨Nat.le_of_ble_eq_true rfl, Nat.le_of_ble_eq_true rfl⟩ ⟨h1, h2⟩ rfl rfl hl.1 (Nat.le_of_ble_eq_true rfl) d_law_734) ?_
  refine lv_iload (pc := 737) hx hb d_law_737 (lv_at hl 1 rfl) ?_
  refine lv_icmp_eq (pc := 739) (tgt := 744) hx hb d_law_739 (by decide) (fun _ => ?_) (fun c9 => absurd e3 c9)
  refine lv_iload (pc := 744) hx hb d_law_744 (lv_at hl 1 rfl) ?_
  have fin : W p l e room_1 s m args below meth c H locs (cells + 1) (slots + 6) Q (F0 m 768 ls []) := by
    refine lv_goto (pc := 768) (tgt := 1170) hx hb d_law_768 (by decide) ?_
    exact kk _ _ _ _ _ _ _ hW jb (lv_sub hl [2, 3, 4, 5, 6] rfl) (Nat.le_refl _) (Nat.le_refl _)
  refine lv_if_ne (pc := 746) (tgt := 768) hx hb d_law_746 (by decide) (fun _ => fin) (fun z9 => ?_)
  have e5 := e4 z9
  refine lv_aload_n (pc := 749) hx hb d_law_749 rfl (lv_at hl 3 rfl) ?_
  refine lv_iconst (pc := 750) (v := 0) hx hb d_law_750 (by decide) ?_
  refine z_lald (pc := 751) hF hC.2.1.1 hW.1 tq29 1 rfl rfl (by unfold vp_in; decide) e5 d_law_751 ?_
  refine lv_iload (pc := 752) hx hb d_law_752 (lv_at hl 0 rfl) ?_
  refine lv_if_eq (pc := 754) (tgt := 761) hx hb d_law_754 (by decide) (fun z8 => ?_) (fun z8 => ?_)
  · refine lv_lconst (pc := 761) (v := 0) hx hb d_law_761 (by decide) ?_
    refine W.lcmp (pc := 762) hx hb d_law_762 ?_
    exact lv_if_eq (pc := 763) (tgt := 768) hx hb d_law_763 (by decide) (fun _ => fin) (fun c9 => absurd (cmp_eq (if_pos z8)) c9)
  · refine lv_lconst (pc := 757) (v := 1) hx hb d_law_757 (by decide) ?_
    refine lv_goto (pc := 758) (tgt := 762) hx hb d_law_758 (by decide) ?_
    refine W.lcmp (pc := 762) hx hb d_law_762 ?_
    exact lv_if_eq (pc := 763) (tgt := 768) hx hb d_law_763 (by decide) (fun _ => fin) (fun c9 => absurd (cmp_eq (if_neg z8)) c9)
theorem lc_8 {p : Program} {l : Launch} {e : Env} {s : State} {m : MethodId} {args : Array Value} {below : List Frame} {meth : Method} {c : Code} {H : Heap} {locs : List Loc} {cells slots : Nat} {Q : State → Prop} {ls : Array Slot} {b L b0 : Nat} {xs : Nat → Int32} {D D2 : va_G} {ca ca2 : Nat → ClassId} {sd i : Int32} {S U : St}   (hC : LX p l s m args c b L xs D D2 ca ca2) (hW : WW D D2 ca ca2 b0 (lA s) s.heap S U H locs) (hJ : JB sd S U) (hl : lv_has ls 7 (lvs b b0 i)) (h1 : cells + 1 ≤ 601024) (h2 : slots + 6 ≤ 7293000)
    (kk : ∀ (S' U' : St) (H' : Heap) (locs' : List Loc) (cells' slots' : Nat) (ls' : Array Slot), WW D D2 ca ca2 b0 (lA s) s.heap S' U' H' locs' → JB sd S' U' → lv_has ls' 7 (lvs b b0 i) → cells' ≤ cells + 1 → slots' ≤ slots + 6 → W p l e room_1 s m args below meth c H' locs' cells' slots' Q (F0 m 1170 ls' [])) : W p l e room_1 s m args below meth c H locs cells slots Q (F0 m 771 ls []) := by
  have hF := hC.1
  have hx := hF.1
  have hb := hF.2.1
  obtain ⟨S', U', r, e1, e2, jb, o1, o2⟩ := b_tick hJ
  refine lv_aload_n (pc := 771) hx hb d_law_771 rfl (lv_at hl 3 rfl) ?_
  refine x_goI (mc := 0) (ms := 0) (pc := 772) hW (fun _ h => h) e1 (z_runV hF hC.2.1 hW.1 (c_QC_tick l D [] (adQ b0) ca S o1 _) cd_QC_tick gw_366 tq1 rfl rfl ⟨Nat.le_of_ble_eq_true rfl, Nat.le_of_ble_eq_true rfl⟩ ⟨Nat.le_of_succ_le h1, Nat.le_trans (Nat.le_add_right _ 6) h2⟩ rfl rfl hl.1 (Nat.le_of_ble_eq_true rfl) d_law_772) (fun H locs hW => ?_)
  refine lv_aload_n (pc := 775) hx hb d_law_775 rfl (lv_at hl 2 rfl) ?_
  refine m_goI (mc := 0) (ms := 0) (pc := 776) hW (fun _ h => h) e2 (z_runV hF hC.2.2.1 hW.2 (c_M_tick l D2 [] (adM (b0 + 208)) ca2  U o2 _) cd_M_tick gw_1149 tm1 rfl rfl ⟨Nat.le_of_ble_eq_true rfl, Nat.le_of_ble_eq_true rfl⟩ ⟨Nat.le_of_succ_le h1, Nat.le_trans (Nat.le_add_right _ 6) h2⟩ rfl rfl hl.1 (Nat.le_of_ble_eq_true rfl) d_law_776) (fun H locs hW => ?_)
  exact lv_icmp_eq (pc := 779) (tgt := 1170) hx hb d_law_779 (by decide) (fun _ => (kk _ _ _ _ _ _ _ hW jb hl (Nat.le_succ _) (Nat.le_add_right _ 6))) (fun c9 => absurd rfl c9)
theorem lc_9 {p : Program} {l : Launch} {e : Env} {s : State} {m : MethodId} {args : Array Value} {below : List Frame} {meth : Method} {c : Code} {H : Heap} {locs : List Loc} {cells slots : Nat} {Q : State → Prop} {ls : Array Slot} {b L b0 : Nat} {xs : Nat → Int32} {D D2 : va_G} {ca ca2 : Nat → ClassId} {sd i : Int32} {S U : St} {a1 : Int32} (q1 : vp_in (i + 1) L ∧ xs (i + 1).toNatClampNeg = a1) (hC : LX p l s m args c b L xs D D2 ca ca2) (hW : WW D D2 ca ca2 b0 (lA s) s.heap S U H locs) (hJ : JB sd S U) (hl : lv_has ls 7 (lvs b b0 i)) (h1 : cells + 1 ≤ 601024) (h2 : slots + 6 ≤ 7293000)
    (kk : ∀ (S' U' : St) (H' : Heap) (locs' : List Loc) (cells' slots' : Nat) (ls' : Array Slot), WW D D2 ca ca2 b0 (lA s) s.heap S' U' H' locs' → JB sd S' U' → lv_has ls' 7 (lvs b b0 i) → cells' ≤ cells + 1 → slots' ≤ slots + 6 → W p l e room_1 s m args below meth c H' locs' cells' slots' Q (F0 m 1170 ls' [])) : W p l e room_1 s m args below meth c H locs cells slots Q (F0 m 784 ls []) := by
  have hF := hC.1
  have hx := hF.1
  have hb := hF.2.1
  obtain ⟨cd, S', r, U', e1, e2, e3, e4, jb, o1, o2⟩ := l_crash hJ a1
  refine lv_aload_n (pc := 784) hx hb d_law_784 rfl (lv_at hl 3 rfl) ?_
  refine lv_aload_n (pc := 785) hx hb d_law_785 rfl (lv_at hl 4 rfl) ?_
  refine lv_iload (pc := 786) hx hb d_law_786 (lv_at hl 0 rfl) ?_
  refine lv_iconst (pc := 788) (v := 1) hx hb d_law_788 (by decide) ?_
  refine lv_iadd (pc := 789) hx hb d_law_789 ?_
  refine s_ld (pc := 790) hC hW q1.1 q1.2 d_law_790 ?_
  refine lv_aload_n (pc := 791) hx hb d_law_791 rfl (lv_at hl 1 rfl) ?_
  refine x_goI (mc := 1) (ms := 6) (pc := 792) hW (fun _ h => h) e1 (w_run hF hC.2.1 hW.1 (LX.xf hC hW) hC.2.2.2.2.1 (c_L_crash l hC.2.2.2.2.2.2.2 D [] (adQ b0) ca a1 S o1) cd_L_crash gw_813 ⟨Nat.le_of_ble_eq_true rfl, Nat.le_of_ble_eq_true rfl⟩ ⟨h1, h2⟩ rfl rfl hl.1 (Nat.le_of_ble_eq_true rfl) d_law_792) (fun H locs hW => ?_)
  refine lv_istore (pc := 795) (lv' := (5, .int cd) :: lvs b b0 i) hx hb d_law_795 hl (by decide) rfl (fun ls hl => ?_)
  refine lv_aload_n (pc := 797) hx hb d_law_797 rfl (lv_at hl 3 rfl) ?_
  refine lv_aload_n (pc := 798) hx hb d_law_798 rfl (lv_at hl 5 rfl) ?_
  refine lv_iload (pc := 799) hx hb d_law_799 (lv_at hl 1 rfl) ?_
  refine lv_iconst (pc := 801) (v := 1) hx hb d_law_801 (by decide) ?_
  refine lv_iadd (pc := 802) hx hb d_law_802 ?_
  refine s_ld (pc := 803) hC hW q1.1 q1.2 d_law_803 ?_
  refine m_goI (mc := 0) (ms := 0) (pc := 804) hW (fun _ h => h) e2 (z_runV hF hC.2.2.1 hW.2 (c_M_crash l D2 [] (adM (b0 + 208)) ca2 a1 U o2 _) cd_M_crash gw_1157 tm1 rfl rfl ⟨Nat.le_of_ble_eq_true rfl, Nat.le_of_ble_eq_true rfl⟩ ⟨h1, h2⟩ rfl rfl hl.1 (Nat.le_of_ble_eq_true rfl) d_law_804) (fun H locs hW => ?_)
  refine lv_istore (pc := 807) (lv' := (6, .int r) :: (5, .int cd) :: lvs b b0 i) hx hb d_law_807 hl (by decide) rfl (fun ls hl => ?_)
  refine lv_aload_n (pc := 809) hx hb d_law_809 rfl (lv_at hl 4 rfl) ?_
  refine p_go (pc := 810) rfl (p_runV hF hC.2.2.1 hW.2 (c_M_thrown l D2 [] (adM (b0 + 208)) ca2 U' _) cd_M_thrown gw_1014 tm1 rfl rfl ⟨Nat.le_of_ble_eq_true rfl, Nat.le_of_ble_eq_true rfl⟩ ⟨h1, h2⟩ rfl rfl hl.1 (Nat.le_of_ble_eq_true rfl) d_law_810) ?_
  refine lv_iload (pc := 813) hx hb d_law_813 (lv_at hl 1 rfl) ?_
  refine lv_icmp_eq (pc := 815) (tgt := 820) hx hb d_law_815 (by decide) (fun _ => ?_) (fun c9 => absurd e3 c9)
  refine lv_iload (pc := 820) hx hb d_law_820 (lv_at hl 1 rfl) ?_
  have fin : W p l e room_1 s m args below meth c H locs (cells + 1) (slots + 6) Q (F0 m 844 ls []) := by
    refine lv_goto (pc := 844) (tgt := 1170) hx hb d_law_844 (by decide) ?_
    exact kk _ _ _ _ _ _ _ hW jb (lv_sub hl [2, 3, 4, 5, 6] rfl) (Nat.le_refl _) (Nat.le_refl _)
  refine lv_if_ne (pc := 822) (tgt := 844) hx hb d_law_822 (by decide) (fun _ => fin) (fun z9 => ?_)
  have e5 := e4 z9
  refine lv_aload_n (pc := 825) hx hb d_law_825 rfl (lv_at hl 3 rfl) ?_
  refine lv_iconst (pc := 826) (v := 0) hx hb d_law_826 (by decide) ?_
  refine z_lald (pc := 827) hF hC.2.1.1 hW.1 tq29 1 rfl rfl (by unfold vp_in; decide) e5 d_law_827 ?_
  refine lv_iload (pc := 828) hx hb d_law_828 (lv_at hl 0 rfl) ?_
  refine lv_if_eq (pc := 830) (tgt := 837) hx hb d_law_830 (by decide) (fun z8 => ?_) (fun z8 => ?_)
  · refine lv_lconst (pc := 837) (v := 0) hx hb d_law_837 (by decide) ?_
    refine W.lcmp (pc := 838) hx hb d_law_838 ?_
    exact lv_if_eq (pc := 839) (tgt := 844) hx hb d_law_839 (by decide) (fun _ => fin) (fun c9 => absurd (cmp_eq (if_pos z8)) c9)
  · refine lv_lconst (pc := 833) (v := 1) hx hb d_law_833 (by decide) ?_
    refine lv_goto (pc := 834) (tgt := 838) hx hb d_law_834 (by decide) ?_
    refine W.lcmp (pc := 838) hx hb d_law_838 ?_
    exact lv_if_eq (pc := 839) (tgt := 844) hx hb d_law_839 (by decide) (fun _ => fin) (fun c9 => absurd (cmp_eq (if_neg z8)) c9)
theorem lc_10 {p : Program} {l : Launch} {e : Env} {s : State} {m : MethodId} {args : Array Value} {below : List Frame} {meth : Method} {c : Code} {H : Heap} {locs : List Loc} {cells slots : Nat} {Q : State → Prop} {ls : Array Slot} {b L b0 : Nat} {xs : Nat → Int32} {D D2 : va_G} {ca ca2 : Nat → ClassId} {sd i : Int32} {S U : St} {a1 : Int32} (q1 : vp_in (i + 1) L ∧ xs (i + 1).toNatClampNeg = a1) (hC : LX p l s m args c b L xs D D2 ca ca2) (hW : WW D D2 ca ca2 b0 (lA s) s.heap S U H locs) (hJ : JB sd S U) (hl : lv_has ls 7 (lvs b b0 i)) (h1 : cells + 1 ≤ 601024) (h2 : slots + 6 ≤ 7293000)
    (kk : ∀ (S' U' : St) (H' : Heap) (locs' : List Loc) (cells' slots' : Nat) (ls' : Array Slot), WW D D2 ca ca2 b0 (lA s) s.heap S' U' H' locs' → JB sd S' U' → lv_has ls' 7 (lvs b b0 i) → cells' ≤ cells + 1 → slots' ≤ slots + 6 → W p l e room_1 s m args below meth c H' locs' cells' slots' Q (F0 m 1170 ls' [])) : W p l e room_1 s m args below meth c H locs cells slots Q (F0 m 847 ls []) := by
  have hF := hC.1
  have hx := hF.1
  have hb := hF.2.1
  obtain ⟨cd, S', r, U', e1, e2, e3, e4, jb, o1, o2⟩ := l_restart hJ a1
  refine lv_aload_n (pc := 847) hx hb d_law_847 rfl (lv_at hl 3 rfl) ?_
  refine lv_aload_n (pc := 848) hx hb d_law_848 rfl (lv_at hl 4 rfl) ?_
  refine lv_iload (pc := 849) hx hb d_law_849 (lv_at hl 0 rfl) ?_
  refine lv_iconst (pc := 851) (v := 1) hx hb d_law_851 (by decide) ?_
  refine lv_iadd (pc := 852) hx hb d_law_852 ?_
  refine s_ld (pc := 853) hC hW q1.1 q1.2 d_law_853 ?_
  refine lv_aload_n (pc := 854) hx hb d_law_854 rfl (lv_at hl 1 rfl) ?_
  refine x_goI (mc := 1) (ms := 6) (pc := 855) hW (fun _ h => h) e1 (w_run hF hC.2.1 hW.1 (LX.xf hC hW) hC.2.2.2.2.1 (c_L_restart l hC.2.2.2.2.2.2.2 D [] (adQ b0) ca a1 S o1) cd_L_restart gw_828 ⟨Nat.le_of_ble_eq_true rfl, Nat.le_of_ble_eq_true rfl⟩ ⟨h1, h2⟩ rfl rfl hl.1 (Nat.le_of_ble_eq_true rfl) d_law_855) (fun H locs hW => ?_)
  refine lv_istore (pc := 858) (lv' := (5, .int cd) :: lvs b b0 i) hx hb d_law_858 hl (by decide) rfl (fun ls hl => ?_)
  refine lv_aload_n (pc := 860) hx hb d_law_860 rfl (lv_at hl 3 rfl) ?_
  refine lv_aload_n (pc := 861) hx hb d_law_861 rfl (lv_at hl 5 rfl) ?_
  refine lv_iload (pc := 862) hx hb d_law_862 (lv_at hl 1 rfl) ?_
  refine lv_iconst (pc := 864) (v := 1) hx hb d_law_864 (by decide) ?_
  refine lv_iadd (pc := 865) hx hb d_law_865 ?_
  refine s_ld (pc := 866) hC hW q1.1 q1.2 d_law_866 ?_
  refine m_goI (mc := 0) (ms := 0) (pc := 867) hW (fun _ h => h) e2 (z_runV hF hC.2.2.1 hW.2 (c_M_restart l D2 [] (adM (b0 + 208)) ca2 a1 U o2 _) cd_M_restart gw_1161 tm1 rfl rfl ⟨Nat.le_of_ble_eq_true rfl, Nat.le_of_ble_eq_true rfl⟩ ⟨h1, h2⟩ rfl rfl hl.1 (Nat.le_of_ble_eq_true rfl) d_law_867) (fun H locs hW => ?_)
  refine lv_istore (pc := 870) (lv' := (6, .int r) :: (5, .int cd) :: lvs b b0 i) hx hb d_law_870 hl (by decide) rfl (fun ls hl => ?_)
  refine lv_aload_n (pc := 872) hx hb d_law_872 rfl (lv_at hl 4 rfl) ?_
  refine p_go (pc := 873) rfl (p_runV hF hC.2.2.1 hW.2 (c_M_thrown l D2 [] (adM (b0 + 208)) ca2 U' _) cd_M_thrown gw_1014 tm1 rfl rfl ⟨Nat.le_of_ble_eq_true rfl, Nat.le_of_ble_eq_true rfl⟩ ⟨h1, h2⟩ rfl rfl hl.1 (Nat.le_of_ble_eq_true rfl) d_law_873) ?_
  refine lv_iload (pc := 876) hx hb d_law_876 (lv_at hl 1 rfl) ?_
  refine lv_icmp_eq (pc := 878) (tgt := 883) hx hb d_law_878 (by decide) (fun _ => ?_) (fun c9 => absurd e3 c9)
  refine lv_iload (pc := 883) hx hb d_law_883 (lv_at hl 1 rfl) ?_
  have fin : W p l e room_1 s m args below meth c H locs (cells + 1) (slots + 6) Q (F0 m 907 ls []) := by
    refine lv_goto (pc := 907) (tgt := 1170) hx hb d_law_907 (by decide) ?_
    exact kk _ _ _ _ _ _ _ hW jb (lv_sub hl [2, 3, 4, 5, 6] rfl) (Nat.le_refl _) (Nat.le_refl _)
  refine lv_if_ne (pc := 885) (tgt := 907) hx hb d_law_885 (by decide) (fun _ => fin) (fun z9 => ?_)
  have e5 := e4 z9
  refine lv_aload_n (pc := 888) hx hb d_law_888 rfl (lv_at hl 3 rfl) ?_
  refine lv_iconst (pc := 889) (v := 0) hx hb d_law_889 (by decide) ?_
  refine z_lald (pc := 890) hF hC.2.1.1 hW.1 tq29 1 rfl rfl (by unfold vp_in; decide) e5 d_law_890 ?_
  refine lv_iload (pc := 891) hx hb d_law_891 (lv_at hl 0 rfl) ?_
  refine lv_if_eq (pc := 893) (tgt := 900) hx hb d_law_893 (by decide) (fun z8 => ?_) (fun z8 => ?_)
  · refine lv_lconst (pc := 900) (v := 0) hx hb d_law_900 (by decide) ?_
    refine W.lcmp (pc := 901) hx hb d_law_901 ?_
    exact lv_if_eq (pc := 902) (tgt := 907) hx hb d_law_902 (by decide) (fun _ => fin) (fun c9 => absurd (cmp_eq (if_pos z8)) c9)
  · refine lv_lconst (pc := 896) (v := 1) hx hb d_law_896 (by decide) ?_
    refine lv_goto (pc := 897) (tgt := 901) hx hb d_law_897 (by decide) ?_
    refine W.lcmp (pc := 901) hx hb d_law_901 ?_
    exact lv_if_eq (pc := 902) (tgt := 907) hx hb d_law_902 (by decide) (fun _ => fin) (fun c9 => absurd (cmp_eq (if_neg z8)) c9)
theorem lc_11 {p : Program} {l : Launch} {e : Env} {s : State} {m : MethodId} {args : Array Value} {below : List Frame} {meth : Method} {c : Code} {H : Heap} {locs : List Loc} {cells slots : Nat} {Q : State → Prop} {ls : Array Slot} {b L b0 : Nat} {xs : Nat → Int32} {D D2 : va_G} {ca ca2 : Nat → ClassId} {sd i : Int32} {S U : St} {a1 : Int32} {a2 : Int32} (q1 : vp_in (i + 1) L ∧ xs (i + 1).toNatClampNeg = a1) (q2 : vp_in (i + 2) L ∧ xs (i + 2).toNatClampNeg = a2) (hC : LX p l s m args c b L xs D D2 ca ca2) (hW : WW D D2 ca ca2 b0 (lA s) s.heap S U H locs) (hJ : JB sd S U) (hl : lv_has ls 7 (lvs b b0 i)) (h1 : cells + 1 ≤ 601024) (h2 : slots + 6 ≤ 7293000)
    (kk : ∀ (S' U' : St) (H' : Heap) (locs' : List Loc) (cells' slots' : Nat) (ls' : Array Slot), WW D D2 ca ca2 b0 (lA s) s.heap S' U' H' locs' → JB sd S' U' → lv_has ls' 7 (lvs b b0 i) → cells' ≤ cells + 1 → slots' ≤ slots + 6 → W p l e room_1 s m args below meth c H' locs' cells' slots' Q (F0 m 1170 ls' [])) : W p l e room_1 s m args below meth c H locs cells slots Q (F0 m 910 ls []) := by
  have hF := hC.1
  have hx := hF.1
  have hb := hF.2.1
  obtain ⟨e2, o1, o2⟩ := b_node hJ a1 a2
  refine lv_aload_n (pc := 910) hx hb d_law_910 rfl (lv_at hl 3 rfl) ?_
  refine lv_aload_n (pc := 911) hx hb d_law_911 rfl (lv_at hl 4 rfl) ?_
  refine lv_iload (pc := 912) hx hb d_law_912 (lv_at hl 0 rfl) ?_
  refine lv_iconst (pc := 914) (v := 1) hx hb d_law_914 (by decide) ?_
  refine lv_iadd (pc := 915) hx hb d_law_915 ?_
  refine s_ld (pc := 916) hC hW q1.1 q1.2 d_law_916 ?_
  refine lv_aload_n (pc := 917) hx hb d_law_917 rfl (lv_at hl 4 rfl) ?_
  refine lv_iload (pc := 918) hx hb d_law_918 (lv_at hl 0 rfl) ?_
  refine lv_iconst (pc := 920) (v := 2) hx hb d_law_920 (by decide) ?_
  refine lv_iadd (pc := 921) hx hb d_law_921 ?_
  refine s_ld (pc := 922) hC hW q2.1 q2.2 d_law_922 ?_
  refine p_go (pc := 923) rfl (p_runV hF hC.2.1 hW.1 (c_QC_node l D [] (adQ b0) ca a1 a2 S o1 _) cd_QC_node gw_426 tq1 rfl rfl ⟨Nat.le_of_ble_eq_true rfl, Nat.le_of_ble_eq_true rfl⟩ ⟨Nat.le_of_succ_le h1, Nat.le_trans (Nat.le_add_right _ 6) h2⟩ rfl rfl hl.1 (Nat.le_of_ble_eq_true rfl) d_law_923) ?_
  refine lv_aload_n (pc := 926) hx hb d_law_926 rfl (lv_at hl 2 rfl) ?_
  refine lv_aload_n (pc := 927) hx hb d_law_927 rfl (lv_at hl 4 rfl) ?_
  refine lv_iload (pc := 928) hx hb d_law_928 (lv_at hl 0 rfl) ?_
  refine lv_iconst (pc := 930) (v := 1) hx hb d_law_930 (by decide) ?_
  refine lv_iadd (pc := 931) hx hb d_law_931 ?_
  refine s_ld (pc := 932) hC hW q1.1 q1.2 d_law_932 ?_
  refine lv_aload_n (pc := 933) hx hb d_law_933 rfl (lv_at hl 4 rfl) ?_
  refine lv_iload (pc := 934) hx hb d_law_934 (lv_at hl 0 rfl) ?_
  refine lv_iconst (pc := 936) (v := 2) hx hb d_law_936 (by decide) ?_
  refine lv_iadd (pc := 937) hx hb d_law_937 ?_
  refine s_ld (pc := 938) hC hW q2.1 q2.2 d_law_938 ?_
  refine m_goI (mc := 0) (ms := 0) (pc := 939) hW (fun _ h => h) e2 (z_runV hF hC.2.2.1 hW.2 (c_M_node l D2 [] (adM (b0 + 208)) ca2 a1 a2 U o2 _) cd_M_node gw_1165 tm1 rfl rfl ⟨Nat.le_of_ble_eq_true rfl, Nat.le_of_ble_eq_true rfl⟩ ⟨Nat.le_of_succ_le h1, Nat.le_trans (Nat.le_add_right _ 6) h2⟩ rfl rfl hl.1 (Nat.le_of_ble_eq_true rfl) d_law_939) (fun H locs hW => ?_)
  exact lv_icmp_eq (pc := 942) (tgt := 1170) hx hb d_law_942 (by decide) (fun _ => (kk _ _ _ _ _ _ _ hW (hJ.thr 0) hl (Nat.le_succ _) (Nat.le_add_right _ 6))) (fun c9 => absurd rfl c9)
theorem lc_12 {p : Program} {l : Launch} {e : Env} {s : State} {m : MethodId} {args : Array Value} {below : List Frame} {meth : Method} {c : Code} {H : Heap} {locs : List Loc} {cells slots : Nat} {Q : State → Prop} {ls : Array Slot} {b L b0 : Nat} {xs : Nat → Int32} {D D2 : va_G} {ca ca2 : Nat → ClassId} {sd i : Int32} {S U : St} {a1 : Int32} {a2 : Int32} (q1 : vp_in (i + 1) L ∧ xs (i + 1).toNatClampNeg = a1) (q2 : vp_in (i + 2) L ∧ xs (i + 2).toNatClampNeg = a2) (hC : LX p l s m args c b L xs D D2 ca ca2) (hW : WW D D2 ca ca2 b0 (lA s) s.heap S U H locs) (hJ : JB sd S U) (hl : lv_has ls 7 (lvs b b0 i)) (h1 : cells + 1 ≤ 601024) (h2 : slots + 6 ≤ 7293000)
    (kk : ∀ (S' U' : St) (H' : Heap) (locs' : List Loc) (cells' slots' : Nat) (ls' : Array Slot), WW D D2 ca ca2 b0 (lA s) s.heap S' U' H' locs' → JB sd S' U' → lv_has ls' 7 (lvs b b0 i) → cells' ≤ cells + 1 → slots' ≤ slots + 6 → W p l e room_1 s m args below meth c H' locs' cells' slots' Q (F0 m 1170 ls' [])) : W p l e room_1 s m args below meth c H locs cells slots Q (F0 m 947 ls []) := by
  have hF := hC.1
  have hx := hF.1
  have hb := hF.2.1
  obtain ⟨e2, o1, o2⟩ := b_log hJ a1 a2
  refine lv_aload_n (pc := 947) hx hb d_law_947 rfl (lv_at hl 3 rfl) ?_
  refine lv_aload_n (pc := 948) hx hb d_law_948 rfl (lv_at hl 4 rfl) ?_
  refine lv_iload (pc := 949) hx hb d_law_949 (lv_at hl 0 rfl) ?_
  refine lv_iconst (pc := 951) (v := 1) hx hb d_law_951 (by decide) ?_
  refine lv_iadd (pc := 952) hx hb d_law_952 ?_
  refine s_ld (pc := 953) hC hW q1.1 q1.2 d_law_953 ?_
  refine lv_aload_n (pc := 954) hx hb d_law_954 rfl (lv_at hl 4 rfl) ?_
  refine lv_iload (pc := 955) hx hb d_law_955 (lv_at hl 0 rfl) ?_
  refine lv_iconst (pc := 957) (v := 2) hx hb d_law_957 (by decide) ?_
  refine lv_iadd (pc := 958) hx hb d_law_958 ?_
  refine s_ld (pc := 959) hC hW q2.1 q2.2 d_law_959 ?_
  refine p_go (pc := 960) rfl (p_runV hF hC.2.1 hW.1 (c_QC_log l D [] (adQ b0) ca a1 a2 S o1 _) cd_QC_log gw_433 tq1 rfl rfl ⟨Nat.le_of_ble_eq_true rfl, Nat.le_of_ble_eq_true rfl⟩ ⟨Nat.le_of_succ_le h1, Nat.le_trans (Nat.le_add_right _ 6) h2⟩ rfl rfl hl.1 (Nat.le_of_ble_eq_true rfl) d_law_960) ?_
  refine lv_aload_n (pc := 963) hx hb d_law_963 rfl (lv_at hl 2 rfl) ?_
  refine lv_aload_n (pc := 964) hx hb d_law_964 rfl (lv_at hl 4 rfl) ?_
  refine lv_iload (pc := 965) hx hb d_law_965 (lv_at hl 0 rfl) ?_
  refine lv_iconst (pc := 967) (v := 1) hx hb d_law_967 (by decide) ?_
  refine lv_iadd (pc := 968) hx hb d_law_968 ?_
  refine s_ld (pc := 969) hC hW q1.1 q1.2 d_law_969 ?_
  refine lv_aload_n (pc := 970) hx hb d_law_970 rfl (lv_at hl 4 rfl) ?_
  refine lv_iload (pc := 971) hx hb d_law_971 (lv_at hl 0 rfl) ?_
  refine lv_iconst (pc := 973) (v := 2) hx hb d_law_973 (by decide) ?_
  refine lv_iadd (pc := 974) hx hb d_law_974 ?_
  refine s_ld (pc := 975) hC hW q2.1 q2.2 d_law_975 ?_
  refine m_goI (mc := 0) (ms := 0) (pc := 976) hW (fun _ h => h) e2 (z_runV hF hC.2.2.1 hW.2 (c_M_log l D2 [] (adM (b0 + 208)) ca2 a1 a2 U o2 _) cd_M_log gw_1173 tm1 rfl rfl ⟨Nat.le_of_ble_eq_true rfl, Nat.le_of_ble_eq_true rfl⟩ ⟨Nat.le_of_succ_le h1, Nat.le_trans (Nat.le_add_right _ 6) h2⟩ rfl rfl hl.1 (Nat.le_of_ble_eq_true rfl) d_law_976) (fun H locs hW => ?_)
  exact lv_icmp_eq (pc := 979) (tgt := 1170) hx hb d_law_979 (by decide) (fun _ => (kk _ _ _ _ _ _ _ hW (hJ.thr 0) hl (Nat.le_succ _) (Nat.le_add_right _ 6))) (fun c9 => absurd rfl c9)
theorem lc_13 {p : Program} {l : Launch} {e : Env} {s : State} {m : MethodId} {args : Array Value} {below : List Frame} {meth : Method} {c : Code} {H : Heap} {locs : List Loc} {cells slots : Nat} {Q : State → Prop} {ls : Array Slot} {b L b0 : Nat} {xs : Nat → Int32} {D D2 : va_G} {ca ca2 : Nat → ClassId} {sd i : Int32} {S U : St} {a1 : Int32} {a2 : Int32} {a3 : Int32} (q1 : vp_in (i + 1) L ∧ xs (i + 1).toNatClampNeg = a1) (q2 : vp_in (i + 2) L ∧ xs (i + 2).toNatClampNeg = a2) (q3 : vp_in (i + 3) L ∧ xs (i + 3).toNatClampNeg = a3) (hC : LX p l s m args c b L xs D D2 ca ca2) (hW : WW D D2 ca ca2 b0 (lA s) s.heap S U H locs) (hJ : JB sd S U) (hl : lv_has ls 7 (lvs b b0 i)) (h1 : cells + 1 ≤ 601024) (h2 : slots + 6 ≤ 7293000)
    (kk : ∀ (S' U' : St) (H' : Heap) (locs' : List Loc) (cells' slots' : Nat) (ls' : Array Slot), WW D D2 ca ca2 b0 (lA s) s.heap S' U' H' locs' → JB sd S' U' → lv_has ls' 7 (lvs b b0 i) → cells' ≤ cells + 1 → slots' ≤ slots + 6 → W p l e room_1 s m args below meth c H' locs' cells' slots' Q (F0 m 1170 ls' [])) : W p l e room_1 s m args below meth c H locs cells slots Q (F0 m 984 ls []) := by
  have hF := hC.1
  have hx := hF.1
  have hb := hF.2.1
  obtain ⟨e2, o1, o2⟩ := b_account hJ a1 a2 a3
  refine lv_aload_n (pc := 984) hx hb d_law_984 rfl (lv_at hl 3 rfl) ?_
  refine lv_aload_n (pc := 985) hx hb d_law_985 rfl (lv_at hl 4 rfl) ?_
  refine lv_iload (pc := 986) hx hb d_law_986 (lv_at hl 0 rfl) ?_
  refine lv_iconst (pc := 988) (v := 1) hx hb d_law_988 (by decide) ?_
  refine lv_iadd (pc := 989) hx hb d_law_989 ?_
  refine s_ld (pc := 990) hC hW q1.1 q1.2 d_law_990 ?_
  refine lv_aload_n (pc := 991) hx hb d_law_991 rfl (lv_at hl 4 rfl) ?_
  refine lv_iload (pc := 992) hx hb d_law_992 (lv_at hl 0 rfl) ?_
  refine lv_iconst (pc := 994) (v := 2) hx hb d_law_994 (by decide) ?_
  refine lv_iadd (pc := 995) hx hb d_law_995 ?_
  refine s_ld (pc := 996) hC hW q2.1 q2.2 d_law_996 ?_
  refine lv_aload_n (pc := 997) hx hb d_law_997 rfl (lv_at hl 4 rfl) ?_
  refine lv_iload (pc := 998) hx hb d_law_998 (lv_at hl 0 rfl) ?_
  refine lv_iconst (pc := 1000) (v := 3) hx hb d_law_1000 (by decide) ?_
  refine lv_iadd (pc := 1001) hx hb d_law_1001 ?_
  refine s_ld (pc := 1002) hC hW q3.1 q3.2 d_law_1002 ?_
  refine p_go (pc := 1003) rfl (p_runV hF hC.2.1 hW.1 (c_QC_account l D [] (adQ b0) ca a1 a2 a3 S o1 _) cd_QC_account gw_441 tq1 rfl rfl ⟨Nat.le_of_ble_eq_true rfl, Nat.le_of_ble_eq_true rfl⟩ ⟨Nat.le_of_succ_le h1, Nat.le_trans (Nat.le_add_right _ 6) h2⟩ rfl rfl hl.1 (Nat.le_of_ble_eq_true rfl) d_law_1003) ?_
  refine lv_aload_n (pc := 1006) hx hb d_law_1006 rfl (lv_at hl 2 rfl) ?_
  refine lv_aload_n (pc := 1007) hx hb d_law_1007 rfl (lv_at hl 4 rfl) ?_
  refine lv_iload (pc := 1008) hx hb d_law_1008 (lv_at hl 0 rfl) ?_
  refine lv_iconst (pc := 1010) (v := 1) hx hb d_law_1010 (by decide) ?_
  refine lv_iadd (pc := 1011) hx hb d_law_1011 ?_
  refine s_ld (pc := 1012) hC hW q1.1 q1.2 d_law_1012 ?_
  refine lv_aload_n (pc := 1013) hx hb d_law_1013 rfl (lv_at hl 4 rfl) ?_
  refine lv_iload (pc := 1014) hx hb d_law_1014 (lv_at hl 0 rfl) ?_
  refine lv_iconst (pc := 1016) (v := 2) hx hb d_law_1016 (by decide) ?_
  refine lv_iadd (pc := 1017) hx hb d_law_1017 ?_
  refine s_ld (pc := 1018) hC hW q2.1 q2.2 d_law_1018 ?_
  refine lv_aload_n (pc := 1019) hx hb d_law_1019 rfl (lv_at hl 4 rfl) ?_
  refine lv_iload (pc := 1020) hx hb d_law_1020 (lv_at hl 0 rfl) ?_
  refine lv_iconst (pc := 1022) (v := 3) hx hb d_law_1022 (by decide) ?_
  refine lv_iadd (pc := 1023) hx hb d_law_1023 ?_
  refine s_ld (pc := 1024) hC hW q3.1 q3.2 d_law_1024 ?_
  refine m_goI (mc := 0) (ms := 0) (pc := 1025) hW (fun _ h => h) e2 (z_runV hF hC.2.2.1 hW.2 (c_M_account l D2 [] (adM (b0 + 208)) ca2 a1 a2 a3 U o2 _) cd_M_account gw_1177 tm1 rfl rfl ⟨Nat.le_of_ble_eq_true rfl, Nat.le_of_ble_eq_true rfl⟩ ⟨Nat.le_of_succ_le h1, Nat.le_trans (Nat.le_add_right _ 6) h2⟩ rfl rfl hl.1 (Nat.le_of_ble_eq_true rfl) d_law_1025) (fun H locs hW => ?_)
  exact lv_icmp_eq (pc := 1028) (tgt := 1170) hx hb d_law_1028 (by decide) (fun _ => (kk _ _ _ _ _ _ _ hW (hJ.thr 0) hl (Nat.le_succ _) (Nat.le_add_right _ 6))) (fun c9 => absurd rfl c9)
theorem lc_14 {p : Program} {l : Launch} {e : Env} {s : State} {m : MethodId} {args : Array Value} {below : List Frame} {meth : Method} {c : Code} {H : Heap} {locs : List Loc} {cells slots : Nat} {Q : State → Prop} {ls : Array Slot} {b L b0 : Nat} {xs : Nat → Int32} {D D2 : va_G} {ca ca2 : Nat → ClassId} {sd i : Int32} {S U : St} {a1 : Int32} {a2 : Int32} (q1 : vp_in (i + 1) L ∧ xs (i + 1).toNatClampNeg = a1) (q2 : vp_in (i + 2) L ∧ xs (i + 2).toNatClampNeg = a2) (hC : LX p l s m args c b L xs D D2 ca ca2) (hW : WW D D2 ca ca2 b0 (lA s) s.heap S U H locs) (hJ : JB sd S U) (hl : lv_has ls 7 (lvs b b0 i)) (h1 : cells + 1 ≤ 601024) (h2 : slots + 6 ≤ 7293000)
    (kk : ∀ (S' U' : St) (H' : Heap) (locs' : List Loc) (cells' slots' : Nat) (ls' : Array Slot), WW D D2 ca ca2 b0 (lA s) s.heap S' U' H' locs' → JB sd S' U' → lv_has ls' 7 (lvs b b0 i) → cells' ≤ cells + 1 → slots' ≤ slots + 6 → W p l e room_1 s m args below meth c H' locs' cells' slots' Q (F0 m 1170 ls' [])) : W p l e room_1 s m args below meth c H locs cells slots Q (F0 m 1033 ls []) := by
  have hF := hC.1
  have hx := hF.1
  have hb := hF.2.1
  obtain ⟨e2, o1, o2⟩ := b_block hJ a1 a2
  refine lv_aload_n (pc := 1033) hx hb d_law_1033 rfl (lv_at hl 3 rfl) ?_
  refine lv_aload_n (pc := 1034) hx hb d_law_1034 rfl (lv_at hl 4 rfl) ?_
  refine lv_iload (pc := 1035) hx hb d_law_1035 (lv_at hl 0 rfl) ?_
  refine lv_iconst (pc := 1037) (v := 1) hx hb d_law_1037 (by decide) ?_
  refine lv_iadd (pc := 1038) hx hb d_law_1038 ?_
  refine s_ld (pc := 1039) hC hW q1.1 q1.2 d_law_1039 ?_
  refine lv_aload_n (pc := 1040) hx hb d_law_1040 rfl (lv_at hl 4 rfl) ?_
  refine lv_iload (pc := 1041) hx hb d_law_1041 (lv_at hl 0 rfl) ?_
  refine lv_iconst (pc := 1043) (v := 2) hx hb d_law_1043 (by decide) ?_
  refine lv_iadd (pc := 1044) hx hb d_law_1044 ?_
  refine s_ld (pc := 1045) hC hW q2.1 q2.2 d_law_1045 ?_
  refine p_go (pc := 1046) rfl (p_runV hF hC.2.1 hW.1 (c_QC_block l D [] (adQ b0) ca a1 a2 S o1 _) cd_QC_block gw_448 tq1 rfl rfl ⟨Nat.le_of_ble_eq_true rfl, Nat.le_of_ble_eq_true rfl⟩ ⟨Nat.le_of_succ_le h1, Nat.le_trans (Nat.le_add_right _ 6) h2⟩ rfl rfl hl.1 (Nat.le_of_ble_eq_true rfl) d_law_1046) ?_
  refine lv_aload_n (pc := 1049) hx hb d_law_1049 rfl (lv_at hl 2 rfl) ?_
  refine lv_aload_n (pc := 1050) hx hb d_law_1050 rfl (lv_at hl 4 rfl) ?_
  refine lv_iload (pc := 1051) hx hb d_law_1051 (lv_at hl 0 rfl) ?_
  refine lv_iconst (pc := 1053) (v := 1) hx hb d_law_1053 (by decide) ?_
  refine lv_iadd (pc := 1054) hx hb d_law_1054 ?_
  refine s_ld (pc := 1055) hC hW q1.1 q1.2 d_law_1055 ?_
  refine lv_aload_n (pc := 1056) hx hb d_law_1056 rfl (lv_at hl 4 rfl) ?_
  refine lv_iload (pc := 1057) hx hb d_law_1057 (lv_at hl 0 rfl) ?_
  refine lv_iconst (pc := 1059) (v := 2) hx hb d_law_1059 (by decide) ?_
  refine lv_iadd (pc := 1060) hx hb d_law_1060 ?_
  refine s_ld (pc := 1061) hC hW q2.1 q2.2 d_law_1061 ?_
  refine m_goI (mc := 0) (ms := 0) (pc := 1062) hW (fun _ h => h) e2 (z_runV hF hC.2.2.1 hW.2 (c_M_block l D2 [] (adM (b0 + 208)) ca2 a1 a2 U o2 _) cd_M_block gw_1181 tm1 rfl rfl ⟨Nat.le_of_ble_eq_true rfl, Nat.le_of_ble_eq_true rfl⟩ ⟨Nat.le_of_succ_le h1, Nat.le_trans (Nat.le_add_right _ 6) h2⟩ rfl rfl hl.1 (Nat.le_of_ble_eq_true rfl) d_law_1062) (fun H locs hW => ?_)
  exact lv_icmp_eq (pc := 1065) (tgt := 1170) hx hb d_law_1065 (by decide) (fun _ => (kk _ _ _ _ _ _ _ hW (hJ.thr 0) hl (Nat.le_succ _) (Nat.le_add_right _ 6))) (fun c9 => absurd rfl c9)
theorem lc_15 {p : Program} {l : Launch} {e : Env} {s : State} {m : MethodId} {args : Array Value} {below : List Frame} {meth : Method} {c : Code} {H : Heap} {locs : List Loc} {cells slots : Nat} {Q : State → Prop} {ls : Array Slot} {b L b0 : Nat} {xs : Nat → Int32} {D D2 : va_G} {ca ca2 : Nat → ClassId} {sd i : Int32} {S U : St} {a1 : Int32} {a2 : Int32} {a3 : Int32} (q1 : vp_in (i + 1) L ∧ xs (i + 1).toNatClampNeg = a1) (q2 : vp_in (i + 2) L ∧ xs (i + 2).toNatClampNeg = a2) (q3 : vp_in (i + 3) L ∧ xs (i + 3).toNatClampNeg = a3) (hC : LX p l s m args c b L xs D D2 ca ca2) (hW : WW D D2 ca ca2 b0 (lA s) s.heap S U H locs) (hJ : JB sd S U) (hl : lv_has ls 7 (lvs b b0 i)) (h1 : cells + 1 ≤ 601024) (h2 : slots + 6 ≤ 7293000)
    (kk : ∀ (S' U' : St) (H' : Heap) (locs' : List Loc) (cells' slots' : Nat) (ls' : Array Slot), WW D D2 ca ca2 b0 (lA s) s.heap S' U' H' locs' → JB sd S' U' → lv_has ls' 7 (lvs b b0 i) → cells' ≤ cells + 1 → slots' ≤ slots + 6 → W p l e room_1 s m args below meth c H' locs' cells' slots' Q (F0 m 1170 ls' [])) : W p l e room_1 s m args below meth c H locs cells slots Q (F0 m 1070 ls []) := by
  have hF := hC.1
  have hx := hF.1
  have hb := hF.2.1
  obtain ⟨e2, o1, o2⟩ := b_message hJ a1 a2 a3
  refine lv_aload_n (pc := 1070) hx hb d_law_1070 rfl (lv_at hl 3 rfl) ?_
  refine lv_aload_n (pc := 1071) hx hb d_law_1071 rfl (lv_at hl 4 rfl) ?_
  refine lv_iload (pc := 1072) hx hb d_law_1072 (lv_at hl 0 rfl) ?_
  refine lv_iconst (pc := 1074) (v := 1) hx hb d_law_1074 (by decide) ?_
  refine lv_iadd (pc := 1075) hx hb d_law_1075 ?_
  refine s_ld (pc := 1076) hC hW q1.1 q1.2 d_law_1076 ?_
  refine lv_aload_n (pc := 1077) hx hb d_law_1077 rfl (lv_at hl 4 rfl) ?_
  refine lv_iload (pc := 1078) hx hb d_law_1078 (lv_at hl 0 rfl) ?_
  refine lv_iconst (pc := 1080) (v := 2) hx hb d_law_1080 (by decide) ?_
  refine lv_iadd (pc := 1081) hx hb d_law_1081 ?_
  refine s_ld (pc := 1082) hC hW q2.1 q2.2 d_law_1082 ?_
  refine lv_aload_n (pc := 1083) hx hb d_law_1083 rfl (lv_at hl 4 rfl) ?_
  refine lv_iload (pc := 1084) hx hb d_law_1084 (lv_at hl 0 rfl) ?_
  refine lv_iconst (pc := 1086) (v := 3) hx hb d_law_1086 (by decide) ?_
  refine lv_iadd (pc := 1087) hx hb d_law_1087 ?_
  refine s_ld (pc := 1088) hC hW q3.1 q3.2 d_law_1088 ?_
  refine p_go (pc := 1089) rfl (p_runV hF hC.2.1 hW.1 (c_QC_message l D [] (adQ b0) ca a1 a2 a3 S o1 _) cd_QC_message gw_481 tq1 rfl rfl ⟨Nat.le_of_ble_eq_true rfl, Nat.le_of_ble_eq_true rfl⟩ ⟨Nat.le_of_succ_le h1, Nat.le_trans (Nat.le_add_right _ 6) h2⟩ rfl rfl hl.1 (Nat.le_of_ble_eq_true rfl) d_law_1089) ?_
  refine lv_aload_n (pc := 1092) hx hb d_law_1092 rfl (lv_at hl 2 rfl) ?_
  refine lv_aload_n (pc := 1093) hx hb d_law_1093 rfl (lv_at hl 4 rfl) ?_
  refine lv_iload (pc := 1094) hx hb d_law_1094 (lv_at hl 0 rfl) ?_
  refine lv_iconst (pc := 1096) (v := 1) hx hb d_law_1096 (by decide) ?_
  refine lv_iadd (pc := 1097) hx hb d_law_1097 ?_
  refine s_ld (pc := 1098) hC hW q1.1 q1.2 d_law_1098 ?_
  refine lv_aload_n (pc := 1099) hx hb d_law_1099 rfl (lv_at hl 4 rfl) ?_
  refine lv_iload (pc := 1100) hx hb d_law_1100 (lv_at hl 0 rfl) ?_
  refine lv_iconst (pc := 1102) (v := 2) hx hb d_law_1102 (by decide) ?_
  refine lv_iadd (pc := 1103) hx hb d_law_1103 ?_
  refine s_ld (pc := 1104) hC hW q2.1 q2.2 d_law_1104 ?_
  refine lv_aload_n (pc := 1105) hx hb d_law_1105 rfl (lv_at hl 4 rfl) ?_
  refine lv_iload (pc := 1106) hx hb d_law_1106 (lv_at hl 0 rfl) ?_
  refine lv_iconst (pc := 1108) (v := 3) hx hb d_law_1108 (by decide) ?_
  refine lv_iadd (pc := 1109) hx hb d_law_1109 ?_
  refine s_ld (pc := 1110) hC hW q3.1 q3.2 d_law_1110 ?_
  refine m_goI (mc := 0) (ms := 0) (pc := 1111) hW (fun _ h => h) e2 (z_runV hF hC.2.2.1 hW.2 (c_M_message l D2 [] (adM (b0 + 208)) ca2 a1 a2 a3 U o2 _) cd_M_message gw_1185 tm1 rfl rfl ⟨Nat.le_of_ble_eq_true rfl, Nat.le_of_ble_eq_true rfl⟩ ⟨Nat.le_of_succ_le h1, Nat.le_trans (Nat.le_add_right _ 6) h2⟩ rfl rfl hl.1 (Nat.le_of_ble_eq_true rfl) d_law_1111) (fun H locs hW => ?_)
  exact lv_icmp_eq (pc := 1114) (tgt := 1170) hx hb d_law_1114 (by decide) (fun _ => (kk _ _ _ _ _ _ _ hW (hJ.thr 0) hl (Nat.le_succ _) (Nat.le_add_right _ 6))) (fun c9 => absurd rfl c9)
theorem lc_16 {p : Program} {l : Launch} {e : Env} {s : State} {m : MethodId} {args : Array Value} {below : List Frame} {meth : Method} {c : Code} {H : Heap} {locs : List Loc} {cells slots : Nat} {Q : State → Prop} {ls : Array Slot} {b L b0 : Nat} {xs : Nat → Int32} {D D2 : va_G} {ca ca2 : Nat → ClassId} {sd i : Int32} {S U : St} {a1 : Int32} (q1 : vp_in (i + 1) L ∧ xs (i + 1).toNatClampNeg = a1) (hC : LX p l s m args c b L xs D D2 ca ca2) (hW : WW D D2 ca ca2 b0 (lA s) s.heap S U H locs) (hJ : JB sd S U) (hl : lv_has ls 7 (lvs b b0 i)) (h1 : cells + 1 ≤ 601024) (h2 : slots + 6 ≤ 7293000)
    (kk : ∀ (S' U' : St) (H' : Heap) (locs' : List Loc) (cells' slots' : Nat) (ls' : Array Slot), WW D D2 ca ca2 b0 (lA s) s.heap S' U' H' locs' → JB sd S' U' → lv_has ls' 7 (lvs b b0 i) → cells' ≤ cells + 1 → slots' ≤ slots + 6 → W p l e room_1 s m args below meth c H' locs' cells' slots' Q (F0 m 1170 ls' [])) : W p l e room_1 s m args below meth c H locs cells slots Q (F0 m 1119 ls []) := by
  have hF := hC.1
  have hx := hF.1
  have hb := hF.2.1
  obtain ⟨e2, o1, o2⟩ := b_root hJ a1
  refine lv_aload_n (pc := 1119) hx hb d_law_1119 rfl (lv_at hl 3 rfl) ?_
  refine lv_aload_n (pc := 1120) hx hb d_law_1120 rfl (lv_at hl 4 rfl) ?_
  refine lv_iload (pc := 1121) hx hb d_law_1121 (lv_at hl 0 rfl) ?_
  refine lv_iconst (pc := 1123) (v := 1) hx hb d_law_1123 (by decide) ?_
  refine lv_iadd (pc := 1124) hx hb d_law_1124 ?_
  refine s_ld (pc := 1125) hC hW q1.1 q1.2 d_law_1125 ?_
  refine p_go (pc := 1126) rfl (p_runV hF hC.2.1 hW.1 (c_QC_root l D [] (adQ b0) ca a1 S o1 _) cd_QC_root gw_485 tq1 rfl rfl ⟨Nat.le_of_ble_eq_true rfl, Nat.le_of_ble_eq_true rfl⟩ ⟨Nat.le_of_succ_le h1, Nat.le_trans (Nat.le_add_right _ 6) h2⟩ rfl rfl hl.1 (Nat.le_of_ble_eq_true rfl) d_law_1126) ?_
  refine lv_aload_n (pc := 1129) hx hb d_law_1129 rfl (lv_at hl 2 rfl) ?_
  refine lv_aload_n (pc := 1130) hx hb d_law_1130 rfl (lv_at hl 4 rfl) ?_
  refine lv_iload (pc := 1131) hx hb d_law_1131 (lv_at hl 0 rfl) ?_
  refine lv_iconst (pc := 1133) (v := 1) hx hb d_law_1133 (by decide) ?_
  refine lv_iadd (pc := 1134) hx hb d_law_1134 ?_
  refine s_ld (pc := 1135) hC hW q1.1 q1.2 d_law_1135 ?_
  refine m_goL (mc := 0) (ms := 0) (pc := 1136) hW (fun _ h => h) e2 (z_runV hF hC.2.2.1 hW.2 (c_M_root l D2 [] (adM (b0 + 208)) ca2 a1 U o2 _) cd_M_root gw_1189 tm1 rfl rfl ⟨Nat.le_of_ble_eq_true rfl, Nat.le_of_ble_eq_true rfl⟩ ⟨Nat.le_of_succ_le h1, Nat.le_trans (Nat.le_add_right _ 6) h2⟩ rfl rfl hl.1 (Nat.le_of_ble_eq_true rfl) d_law_1136) (fun H locs hW => ?_)
  refine W.lcmp (pc := 1139) hx hb d_law_1139 ?_
  exact lv_if_eq (pc := 1140) (tgt := 1170) hx hb d_law_1140 (by decide) (fun _ => (kk _ _ _ _ _ _ _ hW (hJ.thr 0) hl (Nat.le_succ _) (Nat.le_add_right _ 6))) (fun c9 => absurd (cmp_self _) c9)
theorem lc_17 {p : Program} {l : Launch} {e : Env} {s : State} {m : MethodId} {args : Array Value} {below : List Frame} {meth : Method} {c : Code} {H : Heap} {locs : List Loc} {cells slots : Nat} {Q : State → Prop} {ls : Array Slot} {b L b0 : Nat} {xs : Nat → Int32} {D D2 : va_G} {ca ca2 : Nat → ClassId} {sd i : Int32} {S U : St} {a1 : Int32} (q1 : vp_in (i + 1) L ∧ xs (i + 1).toNatClampNeg = a1) (hC : LX p l s m args c b L xs D D2 ca ca2) (hW : WW D D2 ca ca2 b0 (lA s) s.heap S U H locs) (hJ : JB sd S U) (hl : lv_has ls 7 (lvs b b0 i)) (h1 : cells + 1 ≤ 601024) (h2 : slots + 6 ≤ 7293000)
    (kk : ∀ (S' U' : St) (H' : Heap) (locs' : List Loc) (cells' slots' : Nat) (ls' : Array Slot), WW D D2 ca ca2 b0 (lA s) s.heap S' U' H' locs' → JB sd S' U' → lv_has ls' 7 (lvs b b0 i) → cells' ≤ cells + 1 → slots' ≤ slots + 6 → W p l e room_1 s m args below meth c H' locs' cells' slots' Q (F0 m 1170 ls' [])) : W p l e room_1 s m args below meth c H locs cells slots Q (F0 m 1145 ls []) := by
  have hF := hC.1
  have hx := hF.1
  have hb := hF.2.1
  have e2 := b_about hJ a1
  refine lv_aload_n (pc := 1145) hx hb d_law_1145 rfl (lv_at hl 3 rfl) ?_
  refine lv_aload_n (pc := 1146) hx hb d_law_1146 rfl (lv_at hl 4 rfl) ?_
  refine lv_iload (pc := 1147) hx hb d_law_1147 (lv_at hl 0 rfl) ?_
  refine lv_iconst (pc := 1149) (v := 1) hx hb d_law_1149 (by decide) ?_
  refine lv_iadd (pc := 1150) hx hb d_law_1150 ?_
  refine s_ld (pc := 1151) hC hW q1.1 q1.2 d_law_1151 ?_
  refine p_go (pc := 1152) rfl (p_runV hF hC.2.1 hW.1 (c_QC_about l D [] (adQ b0) ca a1 S _) cd_QC_about gw_493 tq1 rfl rfl ⟨Nat.le_of_ble_eq_true rfl, Nat.le_of_ble_eq_true rfl⟩ ⟨Nat.le_of_succ_le h1, Nat.le_trans (Nat.le_add_right _ 6) h2⟩ rfl rfl hl.1 (Nat.le_of_ble_eq_true rfl) d_law_1152) ?_
  refine lv_aload_n (pc := 1155) hx hb d_law_1155 rfl (lv_at hl 2 rfl) ?_
  refine lv_aload_n (pc := 1156) hx hb d_law_1156 rfl (lv_at hl 4 rfl) ?_
  refine lv_iload (pc := 1157) hx hb d_law_1157 (lv_at hl 0 rfl) ?_
  refine lv_iconst (pc := 1159) (v := 1) hx hb d_law_1159 (by decide) ?_
  refine lv_iadd (pc := 1160) hx hb d_law_1160 ?_
  refine s_ld (pc := 1161) hC hW q1.1 q1.2 d_law_1161 ?_
  refine m_goI (mc := 0) (ms := 0) (pc := 1162) hW (fun _ h => h) e2 (z_runV hF hC.2.2.1 hW.2 (c_M_about l D2 [] (adM (b0 + 208)) ca2 a1 U _) cd_M_about gw_1193 tm1 rfl rfl ⟨Nat.le_of_ble_eq_true rfl, Nat.le_of_ble_eq_true rfl⟩ ⟨Nat.le_of_succ_le h1, Nat.le_trans (Nat.le_add_right _ 6) h2⟩ rfl rfl hl.1 (Nat.le_of_ble_eq_true rfl) d_law_1162) (fun H locs hW => ?_)
  exact lv_icmp_eq (pc := 1165) (tgt := 1170) hx hb d_law_1165 (by decide) (fun _ => (kk _ _ _ _ _ _ _ hW (hJ.thr 0) hl (Nat.le_succ _) (Nat.le_add_right _ 6))) (fun c9 => absurd rfl c9)
