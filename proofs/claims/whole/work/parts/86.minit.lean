abbrev b_M_init : ByteArray := prog_13_method_1_code
def y_M_init : MethodName := ⟨R_M, "<init>", "(I)V"⟩
theorem gw_849 : (Jvm.Cond.instanceMethod ({ cls := "QuorumChainModel", name := "<init>", desc := "(I)V" } : Jvm.MethodName)) ∈ GG := GG_in (i := 849) (by decide +kernel) (by decide +kernel)
set_option maxRecDepth 100000 in
theorem gw_850 : (Jvm.Cond.code ({ cls := "QuorumChainModel", name := "<init>", desc := "(I)V" } : Jvm.MethodName) prog_13_method_1_code (7 : Nat) (Option.none : Option Jvm.ClassFile.FieldType)) ∈ GG := GG_in (i := 850) rfl rfl
theorem gw_851 : (Jvm.Cond.methodLink "QuorumChainModel" (1 : Nat) ({ cls := "java/lang/Object", name := "<init>", desc := "()V" } : Jvm.MethodName)) ∈ GG := GG_in (i := 851) (by decide +kernel) (by decide +kernel)
theorem cd_M_init : cdI GG y_M_init b_M_init 7 1 := ⟨gw_850, gw_849, gw_63, by decide +kernel, rfl, GG_good⟩
def adM (b1 : Nat) : N3 → Nat := fun t => b1 + (t.1 - 1)
/-- the reference's state behind its fields' first values -/
def S1m (sd : Int32) : St := (fun k _ _ => match k with
  | 1 => fun x => match x with | 11 => 1 | _ => 0
  | 11 => upd (upd (upd (upd (fun _ => 0) 0 1) 1 1) 2 1) 3 1
  | 12 => upd (upd (upd (upd (fun _ => 0) 0 1) 1 1) 2 1) 3 1
  | 13 => upd (upd (upd (upd (fun _ => 0) 0 6) 1 6) 2 6) 3 6
  | 14 => upd (upd (upd (upd (fun _ => 0) 0 6) 1 6) 2 6) 3 6
  | 24 => upd (upd (upd (upd (fun _ => 0) 0 1) 1 1) 2 1) 3 1
  | _ => fun _ => 0, fun k _ _ => match k with
  | 1 => fun x => match x with | 0 => sd.toInt64 | _ => 0
  | _ => fun _ => 0, fun _ _ _ _ => 0)
theorem d_M_init_0 : decode b_M_init 0 = .ok (.aload_n 0, 1) := by decide +kernel
theorem d_M_init_1 : decode b_M_init 1 = .ok (.invokespecial 1, 3) := by decide +kernel
theorem d_M_init_4 : decode b_M_init 4 = .ok (.aload_n 0, 1) := by decide +kernel
theorem d_M_init_5 : decode b_M_init 5 = .ok (.sipush 256, 3) := by decide +kernel
theorem d_M_init_8 : decode b_M_init 8 = .ok (.newarray .long, 2) := by decide +kernel
theorem d_M_init_10 : decode b_M_init 10 = .ok (.putfield 7, 3) := by decide +kernel
theorem d_M_init_13 : decode b_M_init 13 = .ok (.aload_n 0, 1) := by decide +kernel
theorem d_M_init_14 : decode b_M_init 14 = .ok (.bipush 40, 2) := by decide +kernel
theorem d_M_init_16 : decode b_M_init 16 = .ok (.newarray .int, 2) := by decide +kernel
theorem d_M_init_18 : decode b_M_init 18 = .ok (.putfield 13, 3) := by decide +kernel
theorem d_M_init_21 : decode b_M_init 21 = .ok (.aload_n 0, 1) := by decide +kernel
theorem d_M_init_22 : decode b_M_init 22 = .ok (.bipush 40, 2) := by decide +kernel
theorem d_M_init_24 : decode b_M_init 24 = .ok (.newarray .int, 2) := by decide +kernel
theorem d_M_init_26 : decode b_M_init 26 = .ok (.putfield 17, 3) := by decide +kernel
theorem d_M_init_29 : decode b_M_init 29 = .ok (.aload_n 0, 1) := by decide +kernel
theorem d_M_init_30 : decode b_M_init 30 = .ok (.bipush 40, 2) := by decide +kernel
theorem d_M_init_32 : decode b_M_init 32 = .ok (.newarray .int, 2) := by decide +kernel
theorem d_M_init_34 : decode b_M_init 34 = .ok (.putfield 20, 3) := by decide +kernel
theorem d_M_init_37 : decode b_M_init 37 = .ok (.aload_n 0, 1) := by decide +kernel
theorem d_M_init_38 : decode b_M_init 38 = .ok (.bipush 40, 2) := by decide +kernel
theorem d_M_init_40 : decode b_M_init 40 = .ok (.newarray .int, 2) := by decide +kernel
theorem d_M_init_42 : decode b_M_init 42 = .ok (.putfield 23, 3) := by decide +kernel
theorem d_M_init_45 : decode b_M_init 45 = .ok (.aload_n 0, 1) := by decide +kernel
theorem d_M_init_46 : decode b_M_init 46 = .ok (.iconst 1, 1) := by decide +kernel
theorem d_M_init_47 : decode b_M_init 47 = .ok (.putfield 26, 3) := by decide +kernel
theorem d_M_init_50 : decode b_M_init 50 = .ok (.aload_n 0, 1) := by decide +kernel
theorem d_M_init_51 : decode b_M_init 51 = .ok (.bipush 100, 2) := by decide +kernel
theorem d_M_init_53 : decode b_M_init 53 = .ok (.newarray .int, 2) := by decide +kernel
theorem d_M_init_55 : decode b_M_init 55 = .ok (.putfield 30, 3) := by decide +kernel
theorem d_M_init_58 : decode b_M_init 58 = .ok (.aload_n 0, 1) := by decide +kernel
theorem d_M_init_59 : decode b_M_init 59 = .ok (.bipush 100, 2) := by decide +kernel
theorem d_M_init_61 : decode b_M_init 61 = .ok (.newarray .int, 2) := by decide +kernel
theorem d_M_init_63 : decode b_M_init 63 = .ok (.putfield 33, 3) := by decide +kernel
theorem d_M_init_66 : decode b_M_init 66 = .ok (.aload_n 0, 1) := by decide +kernel
theorem d_M_init_67 : decode b_M_init 67 = .ok (.bipush 100, 2) := by decide +kernel
theorem d_M_init_69 : decode b_M_init 69 = .ok (.newarray .int, 2) := by decide +kernel
theorem d_M_init_71 : decode b_M_init 71 = .ok (.putfield 36, 3) := by decide +kernel
theorem d_M_init_74 : decode b_M_init 74 = .ok (.aload_n 0, 1) := by decide +kernel
theorem d_M_init_75 : decode b_M_init 75 = .ok (.bipush 100, 2) := by decide +kernel
theorem d_M_init_77 : decode b_M_init 77 = .ok (.newarray .boolean, 2) := by decide +kernel
theorem d_M_init_79 : decode b_M_init 79 = .ok (.putfield 39, 3) := by decide +kernel
theorem d_M_init_82 : decode b_M_init 82 = .ok (.aload_n 0, 1) := by decide +kernel
theorem d_M_init_83 : decode b_M_init 83 = .ok (.iconst 4, 1) := by decide +kernel
theorem d_M_init_84 : decode b_M_init 84 = .ok (.newarray .boolean, 2) := by decide +kernel
theorem d_M_init_86 : decode b_M_init 86 = .ok (.dup, 1) := by decide +kernel
theorem d_M_init_87 : decode b_M_init 87 = .ok (.iconst 0, 1) := by decide +kernel
theorem d_M_init_88 : decode b_M_init 88 = .ok (.iconst 1, 1) := by decide +kernel
theorem d_M_init_89 : decode b_M_init 89 = .ok (.bastore, 1) := by decide +kernel
theorem d_M_init_90 : decode b_M_init 90 = .ok (.dup, 1) := by decide +kernel
theorem d_M_init_91 : decode b_M_init 91 = .ok (.iconst 1, 1) := by decide +kernel
theorem d_M_init_92 : decode b_M_init 92 = .ok (.iconst 1, 1) := by decide +kernel
theorem d_M_init_93 : decode b_M_init 93 = .ok (.bastore, 1) := by decide +kernel
theorem d_M_init_94 : decode b_M_init 94 = .ok (.dup, 1) := by decide +kernel
theorem d_M_init_95 : decode b_M_init 95 = .ok (.iconst 2, 1) := by decide +kernel
theorem d_M_init_96 : decode b_M_init 96 = .ok (.iconst 1, 1) := by decide +kernel
theorem d_M_init_97 : decode b_M_init 97 = .ok (.bastore, 1) := by decide +kernel
theorem d_M_init_98 : decode b_M_init 98 = .ok (.dup, 1) := by decide +kernel
theorem d_M_init_99 : decode b_M_init 99 = .ok (.iconst 3, 1) := by decide +kernel
theorem d_M_init_100 : decode b_M_init 100 = .ok (.iconst 1, 1) := by decide +kernel
theorem d_M_init_101 : decode b_M_init 101 = .ok (.bastore, 1) := by decide +kernel
theorem d_M_init_102 : decode b_M_init 102 = .ok (.putfield 43, 3) := by decide +kernel
theorem d_M_init_105 : decode b_M_init 105 = .ok (.aload_n 0, 1) := by decide +kernel
theorem d_M_init_106 : decode b_M_init 106 = .ok (.iconst 4, 1) := by decide +kernel
theorem d_M_init_107 : decode b_M_init 107 = .ok (.newarray .int, 2) := by decide +kernel
theorem d_M_init_109 : decode b_M_init 109 = .ok (.dup, 1) := by decide +kernel
theorem d_M_init_110 : decode b_M_init 110 = .ok (.iconst 0, 1) := by decide +kernel
theorem d_M_init_111 : decode b_M_init 111 = .ok (.iconst 1, 1) := by decide +kernel
theorem d_M_init_112 : decode b_M_init 112 = .ok (.iastore, 1) := by decide +kernel
theorem d_M_init_113 : decode b_M_init 113 = .ok (.dup, 1) := by decide +kernel
theorem d_M_init_114 : decode b_M_init 114 = .ok (.iconst 1, 1) := by decide +kernel
theorem d_M_init_115 : decode b_M_init 115 = .ok (.iconst 1, 1) := by decide +kernel
theorem d_M_init_116 : decode b_M_init 116 = .ok (.iastore, 1) := by decide +kernel
theorem d_M_init_117 : decode b_M_init 117 = .ok (.dup, 1) := by decide +kernel
theorem d_M_init_118 : decode b_M_init 118 = .ok (.iconst 2, 1) := by decide +kernel
theorem d_M_init_119 : decode b_M_init 119 = .ok (.iconst 1, 1) := by decide +kernel
theorem d_M_init_120 : decode b_M_init 120 = .ok (.iastore, 1) := by decide +kernel
theorem d_M_init_121 : decode b_M_init 121 = .ok (.dup, 1) := by decide +kernel
theorem d_M_init_122 : decode b_M_init 122 = .ok (.iconst 3, 1) := by decide +kernel
theorem d_M_init_123 : decode b_M_init 123 = .ok (.iconst 1, 1) := by decide +kernel
theorem d_M_init_124 : decode b_M_init 124 = .ok (.iastore, 1) := by decide +kernel
theorem d_M_init_125 : decode b_M_init 125 = .ok (.putfield 46, 3) := by decide +kernel
theorem d_M_init_128 : decode b_M_init 128 = .ok (.aload_n 0, 1) := by decide +kernel
theorem d_M_init_129 : decode b_M_init 129 = .ok (.iconst 4, 1) := by decide +kernel
theorem d_M_init_130 : decode b_M_init 130 = .ok (.newarray .int, 2) := by decide +kernel
theorem d_M_init_132 : decode b_M_init 132 = .ok (.dup, 1) := by decide +kernel
theorem d_M_init_133 : decode b_M_init 133 = .ok (.iconst 0, 1) := by decide +kernel
theorem d_M_init_134 : decode b_M_init 134 = .ok (.bipush 6, 2) := by decide +kernel
theorem d_M_init_136 : decode b_M_init 136 = .ok (.iastore, 1) := by decide +kernel
theorem d_M_init_137 : decode b_M_init 137 = .ok (.dup, 1) := by decide +kernel
theorem d_M_init_138 : decode b_M_init 138 = .ok (.iconst 1, 1) := by decide +kernel
theorem d_M_init_139 : decode b_M_init 139 = .ok (.bipush 6, 2) := by decide +kernel
theorem d_M_init_141 : decode b_M_init 141 = .ok (.iastore, 1) := by decide +kernel
theorem d_M_init_142 : decode b_M_init 142 = .ok (.dup, 1) := by decide +kernel
theorem d_M_init_143 : decode b_M_init 143 = .ok (.iconst 2, 1) := by decide +kernel
theorem d_M_init_144 : decode b_M_init 144 = .ok (.bipush 6, 2) := by decide +kernel
theorem d_M_init_146 : decode b_M_init 146 = .ok (.iastore, 1) := by decide +kernel
theorem d_M_init_147 : decode b_M_init 147 = .ok (.dup, 1) := by decide +kernel
theorem d_M_init_148 : decode b_M_init 148 = .ok (.iconst 3, 1) := by decide +kernel
theorem d_M_init_149 : decode b_M_init 149 = .ok (.bipush 6, 2) := by decide +kernel
theorem d_M_init_151 : decode b_M_init 151 = .ok (.iastore, 1) := by decide +kernel
theorem d_M_init_152 : decode b_M_init 152 = .ok (.putfield 49, 3) := by decide +kernel
theorem d_M_init_155 : decode b_M_init 155 = .ok (.aload_n 0, 1) := by decide +kernel
theorem d_M_init_156 : decode b_M_init 156 = .ok (.iconst 4, 1) := by decide +kernel
theorem d_M_init_157 : decode b_M_init 157 = .ok (.newarray .int, 2) := by decide +kernel
theorem d_M_init_159 : decode b_M_init 159 = .ok (.dup, 1) := by decide +kernel
theorem d_M_init_160 : decode b_M_init 160 = .ok (.iconst 0, 1) := by decide +kernel
theorem d_M_init_161 : decode b_M_init 161 = .ok (.bipush 6, 2) := by decide +kernel
theorem d_M_init_163 : decode b_M_init 163 = .ok (.iastore, 1) := by decide +kernel
theorem d_M_init_164 : decode b_M_init 164 = .ok (.dup, 1) := by decide +kernel
theorem d_M_init_165 : decode b_M_init 165 = .ok (.iconst 1, 1) := by decide +kernel
theorem d_M_init_166 : decode b_M_init 166 = .ok (.bipush 6, 2) := by decide +kernel
theorem d_M_init_168 : decode b_M_init 168 = .ok (.iastore, 1) := by decide +kernel
theorem d_M_init_169 : decode b_M_init 169 = .ok (.dup, 1) := by decide +kernel
theorem d_M_init_170 : decode b_M_init 170 = .ok (.iconst 2, 1) := by decide +kernel
theorem d_M_init_171 : decode b_M_init 171 = .ok (.bipush 6, 2) := by decide +kernel
theorem d_M_init_173 : decode b_M_init 173 = .ok (.iastore, 1) := by decide +kernel
theorem d_M_init_174 : decode b_M_init 174 = .ok (.dup, 1) := by decide +kernel
theorem d_M_init_175 : decode b_M_init 175 = .ok (.iconst 3, 1) := by decide +kernel
theorem d_M_init_176 : decode b_M_init 176 = .ok (.bipush 6, 2) := by decide +kernel
theorem d_M_init_178 : decode b_M_init 178 = .ok (.iastore, 1) := by decide +kernel
theorem d_M_init_179 : decode b_M_init 179 = .ok (.putfield 52, 3) := by decide +kernel
theorem d_M_init_182 : decode b_M_init 182 = .ok (.aload_n 0, 1) := by decide +kernel
theorem d_M_init_183 : decode b_M_init 183 = .ok (.iconst 4, 1) := by decide +kernel
theorem d_M_init_184 : decode b_M_init 184 = .ok (.newarray .int, 2) := by decide +kernel
theorem d_M_init_186 : decode b_M_init 186 = .ok (.putfield 55, 3) := by decide +kernel
theorem d_M_init_189 : decode b_M_init 189 = .ok (.aload_n 0, 1) := by decide +kernel
theorem d_M_init_190 : decode b_M_init 190 = .ok (.iconst 4, 1) := by decide +kernel
theorem d_M_init_191 : decode b_M_init 191 = .ok (.newarray .int, 2) := by decide +kernel
theorem d_M_init_193 : decode b_M_init 193 = .ok (.putfield 58, 3) := by decide +kernel
theorem d_M_init_196 : decode b_M_init 196 = .ok (.aload_n 0, 1) := by decide +kernel
theorem d_M_init_197 : decode b_M_init 197 = .ok (.iconst 4, 1) := by decide +kernel
theorem d_M_init_198 : decode b_M_init 198 = .ok (.newarray .int, 2) := by decide +kernel
theorem d_M_init_200 : decode b_M_init 200 = .ok (.putfield 61, 3) := by decide +kernel
theorem d_M_init_203 : decode b_M_init 203 = .ok (.aload_n 0, 1) := by decide +kernel
theorem d_M_init_204 : decode b_M_init 204 = .ok (.iconst 4, 1) := by decide +kernel
theorem d_M_init_205 : decode b_M_init 205 = .ok (.newarray .int, 2) := by decide +kernel
theorem d_M_init_207 : decode b_M_init 207 = .ok (.putfield 64, 3) := by decide +kernel
theorem d_M_init_210 : decode b_M_init 210 = .ok (.aload_n 0, 1) := by decide +kernel
theorem d_M_init_211 : decode b_M_init 211 = .ok (.sipush 400, 3) := by decide +kernel
theorem d_M_init_214 : decode b_M_init 214 = .ok (.newarray .boolean, 2) := by decide +kernel
theorem d_M_init_216 : decode b_M_init 216 = .ok (.putfield 67, 3) := by decide +kernel
theorem d_M_init_219 : decode b_M_init 219 = .ok (.aload_n 0, 1) := by decide +kernel
theorem d_M_init_220 : decode b_M_init 220 = .ok (.sipush 400, 3) := by decide +kernel
theorem d_M_init_223 : decode b_M_init 223 = .ok (.newarray .int, 2) := by decide +kernel
theorem d_M_init_225 : decode b_M_init 225 = .ok (.putfield 70, 3) := by decide +kernel
theorem d_M_init_228 : decode b_M_init 228 = .ok (.aload_n 0, 1) := by decide +kernel
theorem d_M_init_229 : decode b_M_init 229 = .ok (.sipush 800, 3) := by decide +kernel
theorem d_M_init_232 : decode b_M_init 232 = .ok (.newarray .int, 2) := by decide +kernel
theorem d_M_init_234 : decode b_M_init 234 = .ok (.putfield 73, 3) := by decide +kernel
theorem d_M_init_237 : decode b_M_init 237 = .ok (.aload_n 0, 1) := by decide +kernel
theorem d_M_init_238 : decode b_M_init 238 = .ok (.iconst 4, 1) := by decide +kernel
theorem d_M_init_239 : decode b_M_init 239 = .ok (.newarray .int, 2) := by decide +kernel
theorem d_M_init_241 : decode b_M_init 241 = .ok (.putfield 76, 3) := by decide +kernel
theorem d_M_init_244 : decode b_M_init 244 = .ok (.aload_n 0, 1) := by decide +kernel
theorem d_M_init_245 : decode b_M_init 245 = .ok (.sipush 160, 3) := by decide +kernel
theorem d_M_init_248 : decode b_M_init 248 = .ok (.newarray .int, 2) := by decide +kernel
theorem d_M_init_250 : decode b_M_init 250 = .ok (.putfield 79, 3) := by decide +kernel
theorem d_M_init_253 : decode b_M_init 253 = .ok (.aload_n 0, 1) := by decide +kernel
theorem d_M_init_254 : decode b_M_init 254 = .ok (.iconst 4, 1) := by decide +kernel
theorem d_M_init_255 : decode b_M_init 255 = .ok (.newarray .int, 2) := by decide +kernel
theorem d_M_init_257 : decode b_M_init 257 = .ok (.dup, 1) := by decide +kernel
theorem d_M_init_258 : decode b_M_init 258 = .ok (.iconst 0, 1) := by decide +kernel
theorem d_M_init_259 : decode b_M_init 259 = .ok (.iconst 1, 1) := by decide +kernel
theorem d_M_init_260 : decode b_M_init 260 = .ok (.iastore, 1) := by decide +kernel
theorem d_M_init_261 : decode b_M_init 261 = .ok (.dup, 1) := by decide +kernel
theorem d_M_init_262 : decode b_M_init 262 = .ok (.iconst 1, 1) := by decide +kernel
theorem d_M_init_263 : decode b_M_init 263 = .ok (.iconst 1, 1) := by decide +kernel
theorem d_M_init_264 : decode b_M_init 264 = .ok (.iastore, 1) := by decide +kernel
theorem d_M_init_265 : decode b_M_init 265 = .ok (.dup, 1) := by decide +kernel
theorem d_M_init_266 : decode b_M_init 266 = .ok (.iconst 2, 1) := by decide +kernel
theorem d_M_init_267 : decode b_M_init 267 = .ok (.iconst 1, 1) := by decide +kernel
theorem d_M_init_268 : decode b_M_init 268 = .ok (.iastore, 1) := by decide +kernel
theorem d_M_init_269 : decode b_M_init 269 = .ok (.dup, 1) := by decide +kernel
theorem d_M_init_270 : decode b_M_init 270 = .ok (.iconst 3, 1) := by decide +kernel
theorem d_M_init_271 : decode b_M_init 271 = .ok (.iconst 1, 1) := by decide +kernel
theorem d_M_init_272 : decode b_M_init 272 = .ok (.iastore, 1) := by decide +kernel
theorem d_M_init_273 : decode b_M_init 273 = .ok (.putfield 82, 3) := by decide +kernel
theorem d_M_init_276 : decode b_M_init 276 = .ok (.aload_n 0, 1) := by decide +kernel
theorem d_M_init_277 : decode b_M_init 277 = .ok (.sipush 404, 3) := by decide +kernel
theorem d_M_init_280 : decode b_M_init 280 = .ok (.newarray .int, 2) := by decide +kernel
theorem d_M_init_282 : decode b_M_init 282 = .ok (.putfield 85, 3) := by decide +kernel
theorem d_M_init_285 : decode b_M_init 285 = .ok (.aload_n 0, 1) := by decide +kernel
theorem d_M_init_286 : decode b_M_init 286 = .ok (.bipush 16, 2) := by decide +kernel
theorem d_M_init_288 : decode b_M_init 288 = .ok (.newarray .int, 2) := by decide +kernel
theorem d_M_init_290 : decode b_M_init 290 = .ok (.putfield 88, 3) := by decide +kernel
theorem d_M_init_293 : decode b_M_init 293 = .ok (.aload_n 0, 1) := by decide +kernel
theorem d_M_init_294 : decode b_M_init 294 = .ok (.bipush 16, 2) := by decide +kernel
theorem d_M_init_296 : decode b_M_init 296 = .ok (.newarray .int, 2) := by decide +kernel
theorem d_M_init_298 : decode b_M_init 298 = .ok (.putfield 91, 3) := by decide +kernel
theorem d_M_init_301 : decode b_M_init 301 = .ok (.aload_n 0, 1) := by decide +kernel
theorem d_M_init_302 : decode b_M_init 302 = .ok (.iconst 4, 1) := by decide +kernel
theorem d_M_init_303 : decode b_M_init 303 = .ok (.newarray .int, 2) := by decide +kernel
theorem d_M_init_305 : decode b_M_init 305 = .ok (.putfield 94, 3) := by decide +kernel
theorem d_M_init_308 : decode b_M_init 308 = .ok (.aload_n 0, 1) := by decide +kernel
theorem d_M_init_309 : decode b_M_init 309 = .ok (.bipush 64, 2) := by decide +kernel
theorem d_M_init_311 : decode b_M_init 311 = .ok (.newarray .int, 2) := by decide +kernel
theorem d_M_init_313 : decode b_M_init 313 = .ok (.putfield 97, 3) := by decide +kernel
theorem d_M_init_316 : decode b_M_init 316 = .ok (.aload_n 0, 1) := by decide +kernel
theorem d_M_init_317 : decode b_M_init 317 = .ok (.bipush 64, 2) := by decide +kernel
theorem d_M_init_319 : decode b_M_init 319 = .ok (.newarray .int, 2) := by decide +kernel
theorem d_M_init_321 : decode b_M_init 321 = .ok (.putfield 100, 3) := by decide +kernel
theorem d_M_init_324 : decode b_M_init 324 = .ok (.aload_n 0, 1) := by decide +kernel
theorem d_M_init_325 : decode b_M_init 325 = .ok (.bipush 64, 2) := by decide +kernel
theorem d_M_init_327 : decode b_M_init 327 = .ok (.newarray .int, 2) := by decide +kernel
theorem d_M_init_329 : decode b_M_init 329 = .ok (.putfield 103, 3) := by decide +kernel
theorem d_M_init_332 : decode b_M_init 332 = .ok (.aload_n 0, 1) := by decide +kernel
theorem d_M_init_333 : decode b_M_init 333 = .ok (.bipush 64, 2) := by decide +kernel
theorem d_M_init_335 : decode b_M_init 335 = .ok (.newarray .int, 2) := by decide +kernel
theorem d_M_init_337 : decode b_M_init 337 = .ok (.putfield 106, 3) := by decide +kernel
theorem d_M_init_340 : decode b_M_init 340 = .ok (.aload_n 0, 1) := by decide +kernel
theorem d_M_init_341 : decode b_M_init 341 = .ok (.bipush 64, 2) := by decide +kernel
theorem d_M_init_343 : decode b_M_init 343 = .ok (.newarray .int, 2) := by decide +kernel
theorem d_M_init_345 : decode b_M_init 345 = .ok (.putfield 109, 3) := by decide +kernel
theorem d_M_init_348 : decode b_M_init 348 = .ok (.aload_n 0, 1) := by decide +kernel
theorem d_M_init_349 : decode b_M_init 349 = .ok (.sipush 704, 3) := by decide +kernel
theorem d_M_init_352 : decode b_M_init 352 = .ok (.newarray .long, 2) := by decide +kernel
theorem d_M_init_354 : decode b_M_init 354 = .ok (.putfield 112, 3) := by decide +kernel
theorem d_M_init_357 : decode b_M_init 357 = .ok (.aload_n 0, 1) := by decide +kernel
theorem d_M_init_358 : decode b_M_init 358 = .ok (.bipush 11, 2) := by decide +kernel
theorem d_M_init_360 : decode b_M_init 360 = .ok (.newarray .long, 2) := by decide +kernel
theorem d_M_init_362 : decode b_M_init 362 = .ok (.putfield 115, 3) := by decide +kernel
theorem d_M_init_365 : decode b_M_init 365 = .ok (.aload_n 0, 1) := by decide +kernel
theorem d_M_init_366 : decode b_M_init 366 = .ok (.bipush 6, 2) := by decide +kernel
theorem d_M_init_368 : decode b_M_init 368 = .ok (.newarray .int, 2) := by decide +kernel
theorem d_M_init_370 : decode b_M_init 370 = .ok (.putfield 118, 3) := by decide +kernel
theorem d_M_init_373 : decode b_M_init 373 = .ok (.aload_n 0, 1) := by decide +kernel
theorem d_M_init_374 : decode b_M_init 374 = .ok (.iload_n 1, 1) := by decide +kernel
theorem d_M_init_375 : decode b_M_init 375 = .ok (.i2l, 1) := by decide +kernel
theorem d_M_init_376 : decode b_M_init 376 = .ok (.putfield 121, 3) := by decide +kernel
theorem d_M_init_379 : decode b_M_init 379 = .ok (.aload_n 0, 1) := by decide +kernel
theorem d_M_init_380 : decode b_M_init 380 = .ok (.getfield 33, 3) := by decide +kernel
theorem d_M_init_383 : decode b_M_init 383 = .ok (.iconst 0, 1) := by decide +kernel
theorem d_M_init_384 : decode b_M_init 384 = .ok (.iconst (-1), 1) := by decide +kernel
theorem d_M_init_385 : decode b_M_init 385 = .ok (.iastore, 1) := by decide +kernel
theorem d_M_init_386 : decode b_M_init 386 = .ok (.aload_n 0, 1) := by decide +kernel
theorem d_M_init_387 : decode b_M_init 387 = .ok (.getfield 36, 3) := by decide +kernel
theorem d_M_init_390 : decode b_M_init 390 = .ok (.iconst 0, 1) := by decide +kernel
theorem d_M_init_391 : decode b_M_init 391 = .ok (.iconst (-1), 1) := by decide +kernel
theorem d_M_init_392 : decode b_M_init 392 = .ok (.iastore, 1) := by decide +kernel
theorem d_M_init_393 : decode b_M_init 393 = .ok (.aload_n 0, 1) := by decide +kernel
theorem d_M_init_394 : decode b_M_init 394 = .ok (.getfield 39, 3) := by decide +kernel
theorem d_M_init_397 : decode b_M_init 397 = .ok (.iconst 0, 1) := by decide +kernel
theorem d_M_init_398 : decode b_M_init 398 = .ok (.iconst 1, 1) := by decide +kernel
theorem d_M_init_399 : decode b_M_init 399 = .ok (.bastore, 1) := by decide +kernel
theorem d_M_init_400 : decode b_M_init 400 = .ok (.iconst 0, 1) := by decide +kernel
theorem d_M_init_401 : decode b_M_init 401 = .ok (.istore_n 2, 1) := by decide +kernel
theorem d_M_init_402 : decode b_M_init 402 = .ok (.iload_n 2, 1) := by decide +kernel
theorem d_M_init_403 : decode b_M_init 403 = .ok (.iconst 4, 1) := by decide +kernel
theorem d_M_init_404 : decode b_M_init 404 = .ok (.if_icmp .ge 173, 3) := by decide +kernel
theorem d_M_init_407 : decode b_M_init 407 = .ok (.aload_n 0, 1) := by decide +kernel
theorem d_M_init_408 : decode b_M_init 408 = .ok (.getfield 67, 3) := by decide +kernel
theorem d_M_init_411 : decode b_M_init 411 = .ok (.bipush 100, 2) := by decide +kernel
theorem d_M_init_413 : decode b_M_init 413 = .ok (.iload_n 2, 1) := by decide +kernel
theorem d_M_init_414 : decode b_M_init 414 = .ok (.imul, 1) := by decide +kernel
theorem d_M_init_415 : decode b_M_init 415 = .ok (.iconst 1, 1) := by decide +kernel
theorem d_M_init_416 : decode b_M_init 416 = .ok (.bastore, 1) := by decide +kernel
theorem d_M_init_417 : decode b_M_init 417 = .ok (.iconst 0, 1) := by decide +kernel
theorem d_M_init_418 : decode b_M_init 418 = .ok (.istore_n 3, 1) := by decide +kernel
theorem d_M_init_419 : decode b_M_init 419 = .ok (.iload_n 3, 1) := by decide +kernel
theorem d_M_init_420 : decode b_M_init 420 = .ok (.iconst 4, 1) := by decide +kernel
theorem d_M_init_421 : decode b_M_init 421 = .ok (.if_icmp .ge 21, 3) := by decide +kernel
theorem d_M_init_424 : decode b_M_init 424 = .ok (.aload_n 0, 1) := by decide +kernel
theorem d_M_init_425 : decode b_M_init 425 = .ok (.getfield 88, 3) := by decide +kernel
theorem d_M_init_428 : decode b_M_init 428 = .ok (.iconst 4, 1) := by decide +kernel
theorem d_M_init_429 : decode b_M_init 429 = .ok (.iload_n 2, 1) := by decide +kernel
theorem d_M_init_430 : decode b_M_init 430 = .ok (.imul, 1) := by decide +kernel
theorem d_M_init_431 : decode b_M_init 431 = .ok (.iload_n 3, 1) := by decide +kernel
theorem d_M_init_432 : decode b_M_init 432 = .ok (.iadd, 1) := by decide +kernel
theorem d_M_init_433 : decode b_M_init 433 = .ok (.bipush 100, 2) := by decide +kernel
theorem d_M_init_435 : decode b_M_init 435 = .ok (.iastore, 1) := by decide +kernel
theorem d_M_init_436 : decode b_M_init 436 = .ok (.iinc 3 1, 3) := by decide +kernel
theorem d_M_init_439 : decode b_M_init 439 = .ok (.goto (-20), 3) := by decide +kernel
theorem d_M_init_442 : decode b_M_init 442 = .ok (.iconst 0, 1) := by decide +kernel
theorem d_M_init_443 : decode b_M_init 443 = .ok (.istore_n 3, 1) := by decide +kernel
theorem d_M_init_444 : decode b_M_init 444 = .ok (.iload_n 3, 1) := by decide +kernel
theorem d_M_init_445 : decode b_M_init 445 = .ok (.bipush 32, 2) := by decide +kernel
theorem d_M_init_447 : decode b_M_init 447 = .ok (.if_icmp .ge 68, 3) := by decide +kernel
theorem d_M_init_450 : decode b_M_init 450 = .ok (.iconst 0, 1) := by decide +kernel
theorem d_M_init_451 : decode b_M_init 451 = .ok (.istore 4, 2) := by decide +kernel
theorem d_M_init_453 : decode b_M_init 453 = .ok (.iload 4, 2) := by decide +kernel
theorem d_M_init_455 : decode b_M_init 455 = .ok (.bipush 6, 2) := by decide +kernel
theorem d_M_init_457 : decode b_M_init 457 = .ok (.if_icmp .ge 34, 3) := by decide +kernel
theorem d_M_init_460 : decode b_M_init 460 = .ok (.aload_n 0, 1) := by decide +kernel
theorem d_M_init_461 : decode b_M_init 461 = .ok (.aload_n 0, 1) := by decide +kernel
theorem d_M_init_462 : decode b_M_init 462 = .ok (.iload_n 2, 1) := by decide +kernel
theorem d_M_init_463 : decode b_M_init 463 = .ok (.iload_n 3, 1) := by decide +kernel
theorem d_M_init_464 : decode b_M_init 464 = .ok (.iload 4, 2) := by decide +kernel
theorem d_M_init_466 : decode b_M_init 466 = .ok (.invokevirtual 125, 3) := by decide +kernel
theorem d_M_init_469 : decode b_M_init 469 = .ok (.bipush 15, 2) := by decide +kernel
theorem d_M_init_471 : decode b_M_init 471 = .ok (.invokevirtual 129, 3) := by decide +kernel
theorem d_M_init_474 : decode b_M_init 474 = .ok (.lstore 5, 2) := by decide +kernel
theorem d_M_init_476 : decode b_M_init 476 = .ok (.aload_n 0, 1) := by decide +kernel
theorem d_M_init_477 : decode b_M_init 477 = .ok (.getfield 115, 3) := by decide +kernel
theorem d_M_init_480 : decode b_M_init 480 = .ok (.iload 4, 2) := by decide +kernel
theorem d_M_init_482 : decode b_M_init 482 = .ok (.lload 5, 2) := by decide +kernel
theorem d_M_init_484 : decode b_M_init 484 = .ok (.lastore, 1) := by decide +kernel
theorem d_M_init_485 : decode b_M_init 485 = .ok (.iinc 4 1, 3) := by decide +kernel
theorem d_M_init_488 : decode b_M_init 488 = .ok (.goto (-35), 3) := by decide +kernel
theorem d_M_init_491 : decode b_M_init 491 = .ok (.aload_n 0, 1) := by decide +kernel
theorem d_M_init_492 : decode b_M_init 492 = .ok (.getfield 7, 3) := by decide +kernel
theorem d_M_init_495 : decode b_M_init 495 = .ok (.bipush 64, 2) := by decide +kernel
theorem d_M_init_497 : decode b_M_init 497 = .ok (.iload_n 2, 1) := by decide +kernel
theorem d_M_init_498 : decode b_M_init 498 = .ok (.imul, 1) := by decide +kernel
theorem d_M_init_499 : decode b_M_init 499 = .ok (.bipush 32, 2) := by decide +kernel
theorem d_M_init_501 : decode b_M_init 501 = .ok (.iadd, 1) := by decide +kernel
theorem d_M_init_502 : decode b_M_init 502 = .ok (.iload_n 3, 1) := by decide +kernel
theorem d_M_init_503 : decode b_M_init 503 = .ok (.iadd, 1) := by decide +kernel
theorem d_M_init_504 : decode b_M_init 504 = .ok (.aload_n 0, 1) := by decide +kernel
theorem d_M_init_505 : decode b_M_init 505 = .ok (.invokevirtual 133, 3) := by decide +kernel
theorem d_M_init_508 : decode b_M_init 508 = .ok (.lastore, 1) := by decide +kernel
theorem d_M_init_509 : decode b_M_init 509 = .ok (.iinc 3 1, 3) := by decide +kernel
theorem d_M_init_512 : decode b_M_init 512 = .ok (.goto (-68), 3) := by decide +kernel
theorem d_M_init_515 : decode b_M_init 515 = .ok (.bipush 31, 2) := by decide +kernel
theorem d_M_init_517 : decode b_M_init 517 = .ok (.istore_n 3, 1) := by decide +kernel
theorem d_M_init_518 : decode b_M_init 518 = .ok (.iload_n 3, 1) := by decide +kernel
theorem d_M_init_519 : decode b_M_init 519 = .ok (.ifCond .le 52, 3) := by decide +kernel
theorem d_M_init_522 : decode b_M_init 522 = .ok (.aload_n 0, 1) := by decide +kernel
theorem d_M_init_523 : decode b_M_init 523 = .ok (.getfield 7, 3) := by decide +kernel
theorem d_M_init_526 : decode b_M_init 526 = .ok (.bipush 64, 2) := by decide +kernel
theorem d_M_init_528 : decode b_M_init 528 = .ok (.iload_n 2, 1) := by decide +kernel
theorem d_M_init_529 : decode b_M_init 529 = .ok (.imul, 1) := by decide +kernel
theorem d_M_init_530 : decode b_M_init 530 = .ok (.iload_n 3, 1) := by decide +kernel
theorem d_M_init_531 : decode b_M_init 531 = .ok (.iadd, 1) := by decide +kernel
theorem d_M_init_532 : decode b_M_init 532 = .ok (.aload_n 0, 1) := by decide +kernel
theorem d_M_init_533 : decode b_M_init 533 = .ok (.aload_n 0, 1) := by decide +kernel
theorem d_M_init_534 : decode b_M_init 534 = .ok (.getfield 7, 3) := by decide +kernel
theorem d_M_init_537 : decode b_M_init 537 = .ok (.bipush 64, 2) := by decide +kernel
theorem d_M_init_539 : decode b_M_init 539 = .ok (.iload_n 2, 1) := by decide +kernel
theorem d_M_init_540 : decode b_M_init 540 = .ok (.imul, 1) := by decide +kernel
theorem d_M_init_541 : decode b_M_init 541 = .ok (.iconst 2, 1) := by decide +kernel
theorem d_M_init_542 : decode b_M_init 542 = .ok (.iload_n 3, 1) := by decide +kernel
theorem d_M_init_543 : decode b_M_init 543 = .ok (.imul, 1) := by decide +kernel
theorem d_M_init_544 : decode b_M_init 544 = .ok (.iadd, 1) := by decide +kernel
theorem d_M_init_545 : decode b_M_init 545 = .ok (.laload, 1) := by decide +kernel
theorem d_M_init_546 : decode b_M_init 546 = .ok (.aload_n 0, 1) := by decide +kernel
theorem d_M_init_547 : decode b_M_init 547 = .ok (.getfield 7, 3) := by decide +kernel
theorem d_M_init_550 : decode b_M_init 550 = .ok (.bipush 64, 2) := by decide +kernel
theorem d_M_init_552 : decode b_M_init 552 = .ok (.iload_n 2, 1) := by decide +kernel
theorem d_M_init_553 : decode b_M_init 553 = .ok (.imul, 1) := by decide +kernel
theorem d_M_init_554 : decode b_M_init 554 = .ok (.iconst 2, 1) := by decide +kernel
theorem d_M_init_555 : decode b_M_init 555 = .ok (.iload_n 3, 1) := by decide +kernel
theorem d_M_init_556 : decode b_M_init 556 = .ok (.imul, 1) := by decide +kernel
theorem d_M_init_557 : decode b_M_init 557 = .ok (.iadd, 1) := by decide +kernel
theorem d_M_init_558 : decode b_M_init 558 = .ok (.iconst 1, 1) := by decide +kernel
theorem d_M_init_559 : decode b_M_init 559 = .ok (.iadd, 1) := by decide +kernel
theorem d_M_init_560 : decode b_M_init 560 = .ok (.laload, 1) := by decide +kernel
theorem d_M_init_561 : decode b_M_init 561 = .ok (.invokevirtual 137, 3) := by decide +kernel
theorem d_M_init_564 : decode b_M_init 564 = .ok (.lastore, 1) := by decide +kernel
theorem d_M_init_565 : decode b_M_init 565 = .ok (.iinc 3 (-1), 3) := by decide +kernel
theorem d_M_init_568 : decode b_M_init 568 = .ok (.goto (-50), 3) := by decide +kernel
theorem d_M_init_571 : decode b_M_init 571 = .ok (.iinc 2 1, 3) := by decide +kernel
theorem d_M_init_574 : decode b_M_init 574 = .ok (.goto (-172), 3) := by decide +kernel
theorem d_M_init_577 : decode b_M_init 577 = .ok (.return_, 1) := by decide +kernel
def f_M_init_518 (a1 : Int32) : Nat → St → Int32 → Int32 → St
  | 0, S, _, _ => S
  | n + 1, S, l2, l3 =>
    if l3 ≤ 0 then
      S
    else
      lt (f_M_two (S.2.1 2 0 0 (((64 : Int32) * l2) + ((2 : Int32) * l3)).toNatClampNeg) (S.2.1 2 0 0 ((((64 : Int32) * l2) + ((2 : Int32) * l3)) + (1 : Int32)).toNatClampNeg) S) fun (r19 : Int64 × St) =>
      lt (sl r19.2 2 0 0 ((((64 : Int32) * l2) + l3).toNatClampNeg) r19.1) fun (S21 : St) =>
      f_M_init_518 a1 n S21 l2 (l3 + (-1 : Int32))
def ok_M_init_518 (a1 : Int32) : Nat → St → Int32 → Int32 → Prop
  | 0, _, _, _ => False
  | n + 1, S, l2, l3 =>
    (l3 ≤ 0 → (
      True)) ∧ (¬ (l3 ≤ 0) → (
      (vp_in (((64 : Int32) * l2) + ((2 : Int32) * l3)) 256) ∧ (
        (vp_in ((((64 : Int32) * l2) + ((2 : Int32) * l3)) + (1 : Int32)) 256) ∧ (
          lt (f_M_two (S.2.1 2 0 0 (((64 : Int32) * l2) + ((2 : Int32) * l3)).toNatClampNeg) (S.2.1 2 0 0 ((((64 : Int32) * l2) + ((2 : Int32) * l3)) + (1 : Int32)).toNatClampNeg) S) fun (r19 : Int64 × St) =>
          (vp_in (((64 : Int32) * l2) + l3) 256) ∧ (
            lt (sl r19.2 2 0 0 ((((64 : Int32) * l2) + l3).toNatClampNeg) r19.1) fun (S21 : St) =>
            ok_M_init_518 a1 n S21 l2 (l3 + (-1 : Int32)))))))
set_option maxHeartbeats 4000000 in
set_option maxRecDepth 100000 in
theorem w_M_init_518 {l : Launch} {D : va_G} {X : va_W} {ad : N3 → Nat} {ca : Nat → ClassId} (a1 : Int32)  {p : Program} {e : Env} {s : State} {m : MethodId} {below : List Frame} {meth : Method} {c : Code} {A : Nat → Prop} {Q : State → Prop} (hy : Hy p s m ([.ref (ad (1, 0, 0)), .int a1] : List Value).toArray meth c b_M_init 7 none R_M GG D clM (tysM ca) nwM) (hA : ∀ q, s.heap.size ≤ q → A q) : ∀ (n : Nat) (S : St) (l2 : Int32) (l3 : Int32), ok_M_init_518 a1 n S l2 l3 → ∀ r : St, f_M_init_518 a1 n S l2 l3 = r → ∀ (H : Heap) (locs : List Loc) (ls : Array Slot), Wd D clM A s.heap (zw X ad TM (cfM ad ca) S) H locs → lv_has ls 7 [(0, .ref (ad (1, 0, 0))), (2, .int l2), (3, .int l3)] → (∀ (H : Heap) (locs : List Loc) (ls : Array Slot), Wd D clM A s.heap (zw X ad TM (cfM ad ca) r) H locs → lv_has ls 7 [(0, .ref (ad (1, 0, 0))), (2, .int l2)] → W p l e { frames := 3, cells := 35, slots := 4097, locals := 72 } s m ([.ref (ad (1, 0, 0)), .int a1] : List Value).toArray below meth c H locs 35 4097 Q (F0 m 571 ls [])) → W p l e { frames := 3, cells := 35, slots := 4097, locals := 72 } s m ([.ref (ad (1, 0, 0)), .int a1] : List Value).toArray below meth c H locs 35 4097 Q (F0 m 518 ls []) := by
  have hF := hy.1
  have hx := hF.1
  have hb := hF.2.1
  have hK := hy.2.2.2
  intro n
  induction n with
  | zero =>
    intro S l2 l3 hk
    exact hk.elim
  | succ n ih =>
    intro S l2 l3 hk r hr H locs ls hW hl kk
    refine lv_iload_n (pc := 518) hx hb d_M_init_518 rfl (lv_at hl 2 rfl) ?_
    refine lv_if_le (pc := 519) (tgt := 571) hx hb d_M_init_519 (by decide) (fun c16 => ?_) (fun c16 => ?_)
    · have hk := hk.1 c16
      have hr := (if_pos c16).symm.trans hr
      subst hr
      exact kk _ _ _ hW (lv_sub hl [0, 1] rfl)
    · have hk := hk.2 c16
      have hr := (if_neg c16).symm.trans hr
      refine lv_aload_n (pc := 522) hx hb d_M_init_522 rfl (lv_at hl 0 rfl) ?_
      refine z_get (pc := 523) (v := .ref (ad (2, 0, 0))) hF hK.1 hW tm1 rfl rfl in_M 5 (by decide) gw_889 rfl rfl d_M_init_523 ?_
      refine lv_bipush (pc := 526) (v := 64) hx hb d_M_init_526 (by decide) ?_
      refine lv_iload_n (pc := 528) hx hb d_M_init_528 rfl (lv_at hl 1 rfl) ?_
      refine lv_imul (pc := 529) hx hb d_M_init_529 ?_
      refine lv_iload_n (pc := 530) hx hb d_M_init_530 rfl (lv_at hl 2 rfl) ?_
      refine lv_iadd (pc := 531) hx hb d_M_init_531 ?_
      refine lv_aload_n (pc := 532) hx hb d_M_init_532 rfl (lv_at hl 0 rfl) ?_
      refine lv_aload_n (pc := 533) hx hb d_M_init_533 rfl (lv_at hl 0 rfl) ?_
      refine z_get (pc := 534) (v := .ref (ad (2, 0, 0))) hF hK.1 hW tm1 rfl rfl in_M 5 (by decide) gw_889 rfl rfl d_M_init_534 ?_
      refine lv_bipush (pc := 537) (v := 64) hx hb d_M_init_537 (by decide) ?_
      refine lv_iload_n (pc := 539) hx hb d_M_init_539 rfl (lv_at hl 1 rfl) ?_
      refine lv_imul (pc := 540) hx hb d_M_init_540 ?_
      refine lv_iconst (pc := 541) (v := 2) hx hb d_M_init_541 (by decide) ?_
      refine lv_iload_n (pc := 542) hx hb d_M_init_542 rfl (lv_at hl 2 rfl) ?_
      refine lv_imul (pc := 543) hx hb d_M_init_543 ?_
      refine lv_iadd (pc := 544) hx hb d_M_init_544 ?_
      have b17 := hk.1
      have hk := hk.2
      refine z_lald (pc := 545) (v := S.2.1 2 0 0 (((64 : Int32) * l2) + ((2 : Int32) * l3)).toNatClampNeg) hF hK.1 hW tm2 1 rfl rfl b17 rfl d_M_init_545 ?_
      refine lv_aload_n (pc := 546) hx hb d_M_init_546 rfl (lv_at hl 0 rfl) ?_
      refine z_get (pc := 547) (v := .ref (ad (2, 0, 0))) hF hK.1 hW tm1 rfl rfl in_M 5 (by decide) gw_889 rfl rfl d_M_init_547 ?_
      refine lv_bipush (pc := 550) (v := 64) hx hb d_M_init_550 (by decide) ?_
      refine lv_iload_n (pc := 552) hx hb d_M_init_552 rfl (lv_at hl 1 rfl) ?_
      refine lv_imul (pc := 553) hx hb d_M_init_553 ?_
      refine lv_iconst (pc := 554) (v := 2) hx hb d_M_init_554 (by decide) ?_
      refine lv_iload_n (pc := 555) hx hb d_M_init_555 rfl (lv_at hl 2 rfl) ?_
      refine lv_imul (pc := 556) hx hb d_M_init_556 ?_
      refine lv_iadd (pc := 557) hx hb d_M_init_557 ?_
      refine lv_iconst (pc := 558) (v := 1) hx hb d_M_init_558 (by decide) ?_
      refine lv_iadd (pc := 559) hx hb d_M_init_559 ?_
      have b18 := hk.1
      have hk := hk.2
      refine z_lald (pc := 560) (v := S.2.1 2 0 0 ((((64 : Int32) * l2) + ((2 : Int32) * l3)) + (1 : Int32)).toNatClampNeg) hF hK.1 hW tm2 1 rfl rfl b18 rfl d_M_init_560 ?_
      obtain ⟨r19, er19⟩ : ∃ z : Int64 × St, z = f_M_two (S.2.1 2 0 0 (((64 : Int32) * l2) + ((2 : Int32) * l3)).toNatClampNeg) (S.2.1 2 0 0 ((((64 : Int32) * l2) + ((2 : Int32) * l3)) + (1 : Int32)).toNatClampNeg) S := ⟨_, rfl⟩
      have hk := lt_p er19 hk
      have hr := lt_e er19 hr
      refine z_goL (pc := 561) hW hA (show (r19.1, r19.2) = _ from er19) (z_runV hF hK hW (c_M_two l D X ad ca (S.2.1 2 0 0 (((64 : Int32) * l2) + ((2 : Int32) * l3)).toNatClampNeg) (S.2.1 2 0 0 ((((64 : Int32) * l2) + ((2 : Int32) * l3)) + (1 : Int32)).toNatClampNeg) S _) cd_M_two gw_876 tm1 rfl rfl ⟨Nat.le_of_ble_eq_true rfl, Nat.le_of_ble_eq_true rfl⟩ ⟨Nat.le_refl _, Nat.le_refl _⟩ rfl rfl hl.1 (Nat.le_of_ble_eq_true rfl) d_M_init_561) (fun H locs (hW : Wd D clM A s.heap (zw X ad TM (cfM ad ca) r19.2) H locs) => ?_)
      have b20 := hk.1
      have hk := hk.2
      obtain ⟨S21, eS21⟩ : ∃ z : St, z = sl r19.2 2 0 0 ((((64 : Int32) * l2) + l3).toNatClampNeg) r19.1 := ⟨_, rfl⟩
      have hk := lt_p eS21 hk
      have hr := lt_e eS21 hr
      refine z_last (pc := 564) (S' := S21) hF hK.1 hW tm2 1 rfl rfl b20 (zs_sl eS21 rfl) (zs_slo eS21) d_M_init_564 (fun H locs (hW : Wd D clM A s.heap (zw X ad TM (cfM ad ca) S21) H locs) => ?_)
      refine lv_iinc (pc := 565) (v := l3 + (-1 : Int32)) (lv' := [(3, .int (l3 + (-1 : Int32))), (0, .ref (ad (1, 0, 0))), (2, .int l2)]) (k := 2) hx hb d_M_init_565 hl rfl (z_inc (by decide)) (by decide) rfl (fun ls hl => ?_)
      refine lv_goto (pc := 568) (tgt := 518) hx hb d_M_init_568 (by decide) ?_
      exact ih S21 l2 (l3 + (-1 : Int32)) hk _ hr _ _ _ hW (lv_sub hl [1, 2, 0] rfl) kk
def f_M_init_453 (a1 : Int32) : Nat → St → Int32 → Int32 → Int32 → St
  | 0, S, _, _, _ => S
  | n + 1, S, l2, l3, l4 =>
    if (6 : Int32) ≤ l4 then
      S
    else
      lt (f_M_secret l2 l3 l4 S) fun (r30 : Int64 × St) =>
      lt (f_M_after r30.1 (15 : Int32) r30.2) fun (r32 : Int64 × St) =>
      lt (sl r32.2 35 0 0 (l4.toNatClampNeg) r32.1) fun (S34 : St) =>
      f_M_init_453 a1 n S34 l2 l3 (l4 + (1 : Int32))
def ok_M_init_453 (a1 : Int32) : Nat → St → Int32 → Int32 → Int32 → Prop
  | 0, _, _, _, _ => False
  | n + 1, S, l2, l3, l4 =>
    ((6 : Int32) ≤ l4 → (
      True)) ∧ (¬ ((6 : Int32) ≤ l4) → (
      lt (f_M_secret l2 l3 l4 S) fun (r30 : Int64 × St) =>
      (ok_M_after r30.1 (15 : Int32) r30.2) ∧ (
        lt (f_M_after r30.1 (15 : Int32) r30.2) fun (r32 : Int64 × St) =>
        (vp_in l4 11) ∧ (
          lt (sl r32.2 35 0 0 (l4.toNatClampNeg) r32.1) fun (S34 : St) =>
          ok_M_init_453 a1 n S34 l2 l3 (l4 + (1 : Int32))))))
set_option maxHeartbeats 4000000 in
set_option maxRecDepth 100000 in
theorem w_M_init_453 {l : Launch} {D : va_G} {X : va_W} {ad : N3 → Nat} {ca : Nat → ClassId} (a1 : Int32)  {p : Program} {e : Env} {s : State} {m : MethodId} {below : List Frame} {meth : Method} {c : Code} {A : Nat → Prop} {Q : State → Prop} (hy : Hy p s m ([.ref (ad (1, 0, 0)), .int a1] : List Value).toArray meth c b_M_init 7 none R_M GG D clM (tysM ca) nwM) (hA : ∀ q, s.heap.size ≤ q → A q) : ∀ (n : Nat) (S : St) (l2 : Int32) (l3 : Int32) (l4 : Int32), ok_M_init_453 a1 n S l2 l3 l4 → ∀ r : St, f_M_init_453 a1 n S l2 l3 l4 = r → ∀ (H : Heap) (locs : List Loc) (ls : Array Slot), Wd D clM A s.heap (zw X ad TM (cfM ad ca) S) H locs → lv_has ls 7 [(0, .ref (ad (1, 0, 0))), (2, .int l2), (3, .int l3), (4, .int l4)] → (∀ (H : Heap) (locs : List Loc) (ls : Array Slot), Wd D clM A s.heap (zw X ad TM (cfM ad ca) r) H locs → lv_has ls 7 [(0, .ref (ad (1, 0, 0))), (2, .int l2), (3, .int l3)] → W p l e { frames := 3, cells := 35, slots := 4097, locals := 72 } s m ([.ref (ad (1, 0, 0)), .int a1] : List Value).toArray below meth c H locs 35 4097 Q (F0 m 491 ls [])) → W p l e { frames := 3, cells := 35, slots := 4097, locals := 72 } s m ([.ref (ad (1, 0, 0)), .int a1] : List Value).toArray below meth c H locs 35 4097 Q (F0 m 453 ls []) := by
  have hF := hy.1
  have hx := hF.1
  have hb := hF.2.1
  have hK := hy.2.2.2
  intro n
  induction n with
  | zero =>
    intro S l2 l3 l4 hk
    exact hk.elim
  | succ n ih =>
    intro S l2 l3 l4 hk r hr H locs ls hW hl kk
    refine lv_iload (pc := 453) hx hb d_M_init_453 (lv_at hl 3 rfl) ?_
    refine lv_bipush (pc := 455) (v := 6) hx hb d_M_init_455 (by decide) ?_
    refine lv_icmp_ge (pc := 457) (tgt := 491) hx hb d_M_init_457 (by decide) (fun c29 => ?_) (fun c29 => ?_)
    · have hk := hk.1 c29
      have hr := (if_pos c29).symm.trans hr
      subst hr
      exact kk _ _ _ hW (lv_sub hl [0, 1, 2] rfl)
    · have hk := hk.2 c29
      have hr := (if_neg c29).symm.trans hr
      refine lv_aload_n (pc := 460) hx hb d_M_init_460 rfl (lv_at hl 0 rfl) ?_
      refine lv_aload_n (pc := 461) hx hb d_M_init_461 rfl (lv_at hl 0 rfl) ?_
      refine lv_iload_n (pc := 462) hx hb d_M_init_462 rfl (lv_at hl 1 rfl) ?_
      refine lv_iload_n (pc := 463) hx hb d_M_init_463 rfl (lv_at hl 2 rfl) ?_
      refine lv_iload (pc := 464) hx hb d_M_init_464 (lv_at hl 3 rfl) ?_
      obtain ⟨r30, er30⟩ : ∃ z : Int64 × St, z = f_M_secret l2 l3 l4 S := ⟨_, rfl⟩
      have hk := lt_p er30 hk
      have hr := lt_e er30 hr
      refine z_goL (pc := 466) hW hA (show (r30.1, r30.2) = _ from er30) (z_runV hF hK hW (c_M_secret l D X ad ca l2 l3 l4 S _) cd_M_secret gw_852 tm1 rfl rfl ⟨Nat.le_of_ble_eq_true rfl, Nat.le_of_ble_eq_true rfl⟩ ⟨Nat.le_refl _, Nat.le_refl _⟩ rfl rfl hl.1 (Nat.le_of_ble_eq_true rfl) d_M_init_466) (fun H locs (hW : Wd D clM A s.heap (zw X ad TM (cfM ad ca) r30.2) H locs) => ?_)
      refine lv_bipush (pc := 469) (v := 15) hx hb d_M_init_469 (by decide) ?_
      have o31 := hk.1
      have hk := hk.2
      obtain ⟨r32, er32⟩ : ∃ z : Int64 × St, z = f_M_after r30.1 (15 : Int32) r30.2 := ⟨_, rfl⟩
      have hk := lt_p er32 hk
      have hr := lt_e er32 hr
      refine z_goL (pc := 471) hW hA (show (r32.1, r32.2) = _ from er32) (z_runV hF hK hW (c_M_after l D X ad ca r30.1 (15 : Int32) r30.2 o31 _) cd_M_after gw_871 tm1 rfl rfl ⟨Nat.le_of_ble_eq_true rfl, Nat.le_of_ble_eq_true rfl⟩ ⟨Nat.le_refl _, Nat.le_refl _⟩ rfl rfl hl.1 (Nat.le_of_ble_eq_true rfl) d_M_init_471) (fun H locs (hW : Wd D clM A s.heap (zw X ad TM (cfM ad ca) r32.2) H locs) => ?_)
      refine lv_lstore (pc := 474) (lv' := [(5, .long r32.1), (0, .ref (ad (1, 0, 0))), (2, .int l2), (3, .int l3), (4, .int l4)]) hx hb d_M_init_474 hl (by decide) rfl (fun ls hl => ?_)
      refine lv_aload_n (pc := 476) hx hb d_M_init_476 rfl (lv_at hl 1 rfl) ?_
      refine z_get (pc := 477) (v := .ref (ad (35, 0, 0))) hF hK.1 hW tm1 rfl rfl in_M 41 (by decide) gw_925 rfl rfl d_M_init_477 ?_
      refine lv_iload (pc := 480) hx hb d_M_init_480 (lv_at hl 4 rfl) ?_
      refine lv_lload (pc := 482) hx hb d_M_init_482 (lv_at hl 0 rfl) ?_
      have b33 := hk.1
      have hk := hk.2
      obtain ⟨S34, eS34⟩ : ∃ z : St, z = sl r32.2 35 0 0 (l4.toNatClampNeg) r32.1 := ⟨_, rfl⟩
      have hk := lt_p eS34 hk
      have hr := lt_e eS34 hr
      refine z_last (pc := 484) (S' := S34) hF hK.1 hW tm35 1 rfl rfl b33 (zs_sl eS34 rfl) (zs_slo eS34) d_M_init_484 (fun H locs (hW : Wd D clM A s.heap (zw X ad TM (cfM ad ca) S34) H locs) => ?_)
      refine lv_iinc (pc := 485) (v := l4 + (1 : Int32)) (lv' := [(4, .int (l4 + (1 : Int32))), (5, .long r32.1), (0, .ref (ad (1, 0, 0))), (2, .int l2), (3, .int l3)]) (k := 4) hx hb d_M_init_485 hl rfl (z_inc (by decide)) (by decide) rfl (fun ls hl => ?_)
      refine lv_goto (pc := 488) (tgt := 453) hx hb d_M_init_488 (by decide) ?_
      exact ih S34 l2 l3 (l4 + (1 : Int32)) hk _ hr _ _ _ hW (lv_sub hl [2, 3, 4, 0] rfl) kk
def f_M_init_444 (a1 : Int32) : Nat → St → Int32 → Int32 → St
  | 0, S, _, _ => S
  | n + 1, S, l2, l3 =>
    if (32 : Int32) ≤ l3 then
      S
    else
      lt (f_M_init_453 a1 200 S l2 l3 (0 : Int32)) fun (r23 : St) =>
      lt (f_M_leaf r23) fun (r26 : Int64 × St) =>
      lt (sl r26.2 2 0 0 (((((64 : Int32) * l2) + (32 : Int32)) + l3).toNatClampNeg) r26.1) fun (S28 : St) =>
      f_M_init_444 a1 n S28 l2 (l3 + (1 : Int32))
def ok_M_init_444 (a1 : Int32) : Nat → St → Int32 → Int32 → Prop
  | 0, _, _, _ => False
  | n + 1, S, l2, l3 =>
    ((32 : Int32) ≤ l3 → (
      True)) ∧ (¬ ((32 : Int32) ≤ l3) → (
      (ok_M_init_453 a1 200 S l2 l3 (0 : Int32)) ∧ (
        lt (f_M_init_453 a1 200 S l2 l3 (0 : Int32)) fun (r23 : St) =>
        (ok_M_leaf r23) ∧ (
          lt (f_M_leaf r23) fun (r26 : Int64 × St) =>
          (vp_in ((((64 : Int32) * l2) + (32 : Int32)) + l3) 256) ∧ (
            lt (sl r26.2 2 0 0 (((((64 : Int32) * l2) + (32 : Int32)) + l3).toNatClampNeg) r26.1) fun (S28 : St) =>
            ok_M_init_444 a1 n S28 l2 (l3 + (1 : Int32)))))))
set_option maxHeartbeats 4000000 in
set_option maxRecDepth 100000 in
theorem w_M_init_444 {l : Launch} {D : va_G} {X : va_W} {ad : N3 → Nat} {ca : Nat → ClassId} (a1 : Int32)  {p : Program} {e : Env} {s : State} {m : MethodId} {below : List Frame} {meth : Method} {c : Code} {A : Nat → Prop} {Q : State → Prop} (hy : Hy p s m ([.ref (ad (1, 0, 0)), .int a1] : List Value).toArray meth c b_M_init 7 none R_M GG D clM (tysM ca) nwM) (hA : ∀ q, s.heap.size ≤ q → A q) : ∀ (n : Nat) (S : St) (l2 : Int32) (l3 : Int32), ok_M_init_444 a1 n S l2 l3 → ∀ r : St, f_M_init_444 a1 n S l2 l3 = r → ∀ (H : Heap) (locs : List Loc) (ls : Array Slot), Wd D clM A s.heap (zw X ad TM (cfM ad ca) S) H locs → lv_has ls 7 [(0, .ref (ad (1, 0, 0))), (2, .int l2), (3, .int l3)] → (∀ (H : Heap) (locs : List Loc) (ls : Array Slot), Wd D clM A s.heap (zw X ad TM (cfM ad ca) r) H locs → lv_has ls 7 [(0, .ref (ad (1, 0, 0))), (2, .int l2)] → W p l e { frames := 3, cells := 35, slots := 4097, locals := 72 } s m ([.ref (ad (1, 0, 0)), .int a1] : List Value).toArray below meth c H locs 35 4097 Q (F0 m 515 ls [])) → W p l e { frames := 3, cells := 35, slots := 4097, locals := 72 } s m ([.ref (ad (1, 0, 0)), .int a1] : List Value).toArray below meth c H locs 35 4097 Q (F0 m 444 ls []) := by
  have hF := hy.1
  have hx := hF.1
  have hb := hF.2.1
  have hK := hy.2.2.2
  intro n
  induction n with
  | zero =>
    intro S l2 l3 hk
    exact hk.elim
  | succ n ih =>
    intro S l2 l3 hk r hr H locs ls hW hl kk
    refine lv_iload_n (pc := 444) hx hb d_M_init_444 rfl (lv_at hl 2 rfl) ?_
    refine lv_bipush (pc := 445) (v := 32) hx hb d_M_init_445 (by decide) ?_
    refine lv_icmp_ge (pc := 447) (tgt := 515) hx hb d_M_init_447 (by decide) (fun c22 => ?_) (fun c22 => ?_)
    · have hk := hk.1 c22
      have hr := (if_pos c22).symm.trans hr
      subst hr
      exact kk _ _ _ hW (lv_sub hl [0, 1] rfl)
    · have hk := hk.2 c22
      have hr := (if_neg c22).symm.trans hr
      refine lv_iconst (pc := 450) (v := 0) hx hb d_M_init_450 (by decide) ?_
      refine lv_istore (pc := 451) (lv' := [(4, .int (0 : Int32)), (0, .ref (ad (1, 0, 0))), (2, .int l2), (3, .int l3)]) hx hb d_M_init_451 hl (by decide) rfl (fun ls hl => ?_)
      have o24 := hk.1
      have hk := hk.2
      obtain ⟨r23, er23⟩ : ∃ z : St, z = f_M_init_453 a1 200 S l2 l3 (0 : Int32) := ⟨_, rfl⟩
      have hk := lt_p er23 hk
      have hr := lt_e er23 hr
      refine w_M_init_453 a1 hy hA 200 S l2 l3 (0 : Int32) o24 _ er23.symm _ _ _ hW (lv_sub hl [1, 2, 3, 0] rfl) (fun H locs ls hW hl => ?_)
      refine lv_aload_n (pc := 491) hx hb d_M_init_491 rfl (lv_at hl 0 rfl) ?_
      refine z_get (pc := 492) (v := .ref (ad (2, 0, 0))) hF hK.1 hW tm1 rfl rfl in_M 5 (by decide) gw_889 rfl rfl d_M_init_492 ?_
      refine lv_bipush (pc := 495) (v := 64) hx hb d_M_init_495 (by decide) ?_
      refine lv_iload_n (pc := 497) hx hb d_M_init_497 rfl (lv_at hl 1 rfl) ?_
      refine lv_imul (pc := 498) hx hb d_M_init_498 ?_
      refine lv_bipush (pc := 499) (v := 32) hx hb d_M_init_499 (by decide) ?_
      refine lv_iadd (pc := 501) hx hb d_M_init_501 ?_
      refine lv_iload_n (pc := 502) hx hb d_M_init_502 rfl (lv_at hl 2 rfl) ?_
      refine lv_iadd (pc := 503) hx hb d_M_init_503 ?_
      refine lv_aload_n (pc := 504) hx hb d_M_init_504 rfl (lv_at hl 0 rfl) ?_
      have o25 := hk.1
      have hk := hk.2
      obtain ⟨r26, er26⟩ : ∃ z : Int64 × St, z = f_M_leaf r23 := ⟨_, rfl⟩
      have hk := lt_p er26 hk
      have hr := lt_e er26 hr
      refine z_goL (pc := 505) hW hA (show (r26.1, r26.2) = _ from er26) (z_runV hF hK hW (c_M_leaf l D X ad ca r23 o25 _) cd_M_leaf gw_880 tm1 rfl rfl ⟨Nat.le_of_ble_eq_true rfl, Nat.le_of_ble_eq_true rfl⟩ ⟨Nat.le_refl _, Nat.le_refl _⟩ rfl rfl hl.1 (Nat.le_of_ble_eq_true rfl) d_M_init_505) (fun H locs (hW : Wd D clM A s.heap (zw X ad TM (cfM ad ca) r26.2) H locs) => ?_)
      have b27 := hk.1
      have hk := hk.2
      obtain ⟨S28, eS28⟩ : ∃ z : St, z = sl r26.2 2 0 0 (((((64 : Int32) * l2) + (32 : Int32)) + l3).toNatClampNeg) r26.1 := ⟨_, rfl⟩
      have hk := lt_p eS28 hk
      have hr := lt_e eS28 hr
      refine z_last (pc := 508) (S' := S28) hF hK.1 hW tm2 1 rfl rfl b27 (zs_sl eS28 rfl) (zs_slo eS28) d_M_init_508 (fun H locs (hW : Wd D clM A s.heap (zw X ad TM (cfM ad ca) S28) H locs) => ?_)
      refine lv_iinc (pc := 509) (v := l3 + (1 : Int32)) (lv' := [(3, .int (l3 + (1 : Int32))), (0, .ref (ad (1, 0, 0))), (2, .int l2)]) (k := 2) hx hb d_M_init_509 hl rfl (z_inc (by decide)) (by decide) rfl (fun ls hl => ?_)
      refine lv_goto (pc := 512) (tgt := 444) hx hb d_M_init_512 (by decide) ?_
      exact ih S28 l2 (l3 + (1 : Int32)) hk _ hr _ _ _ hW (lv_sub hl [1, 2, 0] rfl) kk
def f_M_init_419 (a1 : Int32) : Nat → St → Int32 → Int32 → St
  | 0, S, _, _ => S
  | n + 1, S, l2, l3 =>
    if (4 : Int32) ≤ l3 then
      S
    else
      lt (si S 26 0 0 ((((4 : Int32) * l2) + l3).toNatClampNeg) (100 : Int32)) fun (S37 : St) =>
      f_M_init_419 a1 n S37 l2 (l3 + (1 : Int32))
def ok_M_init_419 (a1 : Int32) : Nat → St → Int32 → Int32 → Prop
  | 0, _, _, _ => False
  | n + 1, S, l2, l3 =>
    ((4 : Int32) ≤ l3 → (
      True)) ∧ (¬ ((4 : Int32) ≤ l3) → (
      (vp_in (((4 : Int32) * l2) + l3) 16) ∧ (
        lt (si S 26 0 0 ((((4 : Int32) * l2) + l3).toNatClampNeg) (100 : Int32)) fun (S37 : St) =>
        ok_M_init_419 a1 n S37 l2 (l3 + (1 : Int32)))))
set_option maxHeartbeats 4000000 in
set_option maxRecDepth 100000 in
theorem w_M_init_419 {l : Launch} {D : va_G} {X : va_W} {ad : N3 → Nat} {ca : Nat → ClassId} (a1 : Int32)  {p : Program} {e : Env} {s : State} {m : MethodId} {below : List Frame} {meth : Method} {c : Code} {A : Nat → Prop} {Q : State → Prop} (hy : Hy p s m ([.ref (ad (1, 0, 0)), .int a1] : List Value).toArray meth c b_M_init 7 none R_M GG D clM (tysM ca) nwM) (hA : ∀ q, s.heap.size ≤ q → A q) : ∀ (n : Nat) (S : St) (l2 : Int32) (l3 : Int32), ok_M_init_419 a1 n S l2 l3 → ∀ r : St, f_M_init_419 a1 n S l2 l3 = r → ∀ (H : Heap) (locs : List Loc) (ls : Array Slot), Wd D clM A s.heap (zw X ad TM (cfM ad ca) S) H locs → lv_has ls 7 [(0, .ref (ad (1, 0, 0))), (2, .int l2), (3, .int l3)] → (∀ (H : Heap) (locs : List Loc) (ls : Array Slot), Wd D clM A s.heap (zw X ad TM (cfM ad ca) r) H locs → lv_has ls 7 [(0, .ref (ad (1, 0, 0))), (2, .int l2)] → W p l e { frames := 3, cells := 35, slots := 4097, locals := 72 } s m ([.ref (ad (1, 0, 0)), .int a1] : List Value).toArray below meth c H locs 35 4097 Q (F0 m 442 ls [])) → W p l e { frames := 3, cells := 35, slots := 4097, locals := 72 } s m ([.ref (ad (1, 0, 0)), .int a1] : List Value).toArray below meth c H locs 35 4097 Q (F0 m 419 ls []) := by
  have hF := hy.1
  have hx := hF.1
  have hb := hF.2.1
  have hK := hy.2.2.2
  intro n
  induction n with
  | zero =>
    intro S l2 l3 hk
    exact hk.elim
  | succ n ih =>
    intro S l2 l3 hk r hr H locs ls hW hl kk
    refine lv_iload_n (pc := 419) hx hb d_M_init_419 rfl (lv_at hl 2 rfl) ?_
    refine lv_iconst (pc := 420) (v := 4) hx hb d_M_init_420 (by decide) ?_
    refine lv_icmp_ge (pc := 421) (tgt := 442) hx hb d_M_init_421 (by decide) (fun c35 => ?_) (fun c35 => ?_)
    · have hk := hk.1 c35
      have hr := (if_pos c35).symm.trans hr
      subst hr
      exact kk _ _ _ hW (lv_sub hl [0, 1] rfl)
    · have hk := hk.2 c35
      have hr := (if_neg c35).symm.trans hr
      refine lv_aload_n (pc := 424) hx hb d_M_init_424 rfl (lv_at hl 0 rfl) ?_
      refine z_get (pc := 425) (v := .ref (ad (26, 0, 0))) hF hK.1 hW tm1 rfl rfl in_M 31 (by decide) gw_915 rfl rfl d_M_init_425 ?_
      refine lv_iconst (pc := 428) (v := 4) hx hb d_M_init_428 (by decide) ?_
      refine lv_iload_n (pc := 429) hx hb d_M_init_429 rfl (lv_at hl 1 rfl) ?_
      refine lv_imul (pc := 430) hx hb d_M_init_430 ?_
      refine lv_iload_n (pc := 431) hx hb d_M_init_431 rfl (lv_at hl 2 rfl) ?_
      refine lv_iadd (pc := 432) hx hb d_M_init_432 ?_
      refine lv_bipush (pc := 433) (v := 100) hx hb d_M_init_433 (by decide) ?_
      have b36 := hk.1
      have hk := hk.2
      obtain ⟨S37, eS37⟩ : ∃ z : St, z = si S 26 0 0 ((((4 : Int32) * l2) + l3).toNatClampNeg) (100 : Int32) := ⟨_, rfl⟩
      have hk := lt_p eS37 hk
      have hr := lt_e eS37 hr
      refine z_iast (pc := 435) (S' := S37) hF hK.1 hW tm26 0 rfl rfl b36 (zs_si eS37 rfl) (zs_sio eS37) d_M_init_435 (fun H locs (hW : Wd D clM A s.heap (zw X ad TM (cfM ad ca) S37) H locs) => ?_)
      refine lv_iinc (pc := 436) (v := l3 + (1 : Int32)) (lv' := [(3, .int (l3 + (1 : Int32))), (0, .ref (ad (1, 0, 0))), (2, .int l2)]) (k := 2) hx hb d_M_init_436 hl rfl (z_inc (by decide)) (by decide) rfl (fun ls hl => ?_)
      refine lv_goto (pc := 439) (tgt := 419) hx hb d_M_init_439 (by decide) ?_
      exact ih S37 l2 (l3 + (1 : Int32)) hk _ hr _ _ _ hW (lv_sub hl [1, 2, 0] rfl) kk
def f_M_init_402 (a1 : Int32) : Nat → St → Int32 → St
  | 0, S, _ => S
  | n + 1, S, l2 =>
    if (4 : Int32) ≤ l2 then
      S
    else
      lt (si S 19 0 0 (((100 : Int32) * l2).toNatClampNeg) (1 : Int32)) fun (S9 : St) =>
      lt (f_M_init_419 a1 200 S9 l2 (0 : Int32)) fun (r10 : St) =>
      lt (f_M_init_444 a1 200 r10 l2 (0 : Int32)) fun (r12 : St) =>
      lt (f_M_init_518 a1 200 r12 l2 (31 : Int32)) fun (r14 : St) =>
      f_M_init_402 a1 n r14 (l2 + (1 : Int32))
def ok_M_init_402 (a1 : Int32) : Nat → St → Int32 → Prop
  | 0, _, _ => False
  | n + 1, S, l2 =>
    ((4 : Int32) ≤ l2 → (
      True)) ∧ (¬ ((4 : Int32) ≤ l2) → (
      (vp_in ((100 : Int32) * l2) 400) ∧ (
        lt (si S 19 0 0 (((100 : Int32) * l2).toNatClampNeg) (1 : Int32)) fun (S9 : St) =>
        (ok_M_init_419 a1 200 S9 l2 (0 : Int32)) ∧ (
          lt (f_M_init_419 a1 200 S9 l2 (0 : Int32)) fun (r10 : St) =>
          (ok_M_init_444 a1 200 r10 l2 (0 : Int32)) ∧ (
            lt (f_M_init_444 a1 200 r10 l2 (0 : Int32)) fun (r12 : St) =>
            (ok_M_init_518 a1 200 r12 l2 (31 : Int32)) ∧ (
              lt (f_M_init_518 a1 200 r12 l2 (31 : Int32)) fun (r14 : St) =>
              ok_M_init_402 a1 n r14 (l2 + (1 : Int32))))))))
set_option maxHeartbeats 4000000 in
set_option maxRecDepth 100000 in
theorem w_M_init_402 {l : Launch} {D : va_G} {X : va_W} {ad : N3 → Nat} {ca : Nat → ClassId} (a1 : Int32)  {p : Program} {e : Env} {s : State} {m : MethodId} {below : List Frame} {meth : Method} {c : Code} {A : Nat → Prop} (hy : Hy p s m ([.ref (ad (1, 0, 0)), .int a1] : List Value).toArray meth c b_M_init 7 none R_M GG D clM (tysM ca) nwM) (hA : ∀ q, s.heap.size ≤ q → A q) {res : St} : ∀ (n : Nat) (S : St) (l2 : Int32) , ok_M_init_402 a1 n S l2 → f_M_init_402 a1 n S l2 = res → ∀ (H : Heap) (locs : List Loc) (ls : Array Slot), Wd D clM A s.heap (zw X ad TM (cfM ad ca) S) H locs → lv_has ls 7 [(0, .ref (ad (1, 0, 0))), (2, .int l2)] → W p l e { frames := 3, cells := 35, slots := 4097, locals := 72 } s m ([.ref (ad (1, 0, 0)), .int a1] : List Value).toArray below meth c H locs 35 4097 (MQ below (eN D clM (zw X ad TM (cfM ad ca) res) A) ([.ref (ad (1, 0, 0)), .int a1] : List Value).toArray s 35 4097 A) (F0 m 402 ls []) := by
  have hF := hy.1
  have hx := hF.1
  have hb := hF.2.1
  have hK := hy.2.2.2
  intro n
  induction n with
  | zero =>
    intro S l2 hk
    exact hk.elim
  | succ n ih =>
    intro S l2 hk hr H locs ls hW hl
    refine lv_iload_n (pc := 402) hx hb d_M_init_402 rfl (lv_at hl 1 rfl) ?_
    refine lv_iconst (pc := 403) (v := 4) hx hb d_M_init_403 (by decide) ?_
    refine lv_icmp_ge (pc := 404) (tgt := 577) hx hb d_M_init_404 (by decide) (fun c7 => ?_) (fun c7 => ?_)
    · have hk := hk.1 c7
      have hr := (if_pos c7).symm.trans hr
      subst hr
      exact n_vret hy hW (Nat.le_refl _) (Nat.le_refl _) d_M_init_577
    · have hk := hk.2 c7
      have hr := (if_neg c7).symm.trans hr
      refine lv_aload_n (pc := 407) hx hb d_M_init_407 rfl (lv_at hl 0 rfl) ?_
      refine z_get (pc := 408) (v := .ref (ad (19, 0, 0))) hF hK.1 hW tm1 rfl rfl in_M 24 (by decide) gw_908 rfl rfl d_M_init_408 ?_
      refine lv_bipush (pc := 411) (v := 100) hx hb d_M_init_411 (by decide) ?_
      refine lv_iload_n (pc := 413) hx hb d_M_init_413 rfl (lv_at hl 1 rfl) ?_
      refine lv_imul (pc := 414) hx hb d_M_init_414 ?_
      refine lv_iconst (pc := 415) (v := 1) hx hb d_M_init_415 (by decide) ?_
      have b8 := hk.1
      have hk := hk.2
      obtain ⟨S9, eS9⟩ : ∃ z : St, z = si S 19 0 0 (((100 : Int32) * l2).toNatClampNeg) (1 : Int32) := ⟨_, rfl⟩
      have hk := lt_p eS9 hk
      have hr := lt_e eS9 hr
      refine z_zast (pc := 416) (S' := S9) hF hK.1 hW tm19 2 rfl rfl b8 (zs_si eS9 rfl) (zs_sio eS9) d_M_init_416 (fun H locs (hW : Wd D clM A s.heap (zw X ad TM (cfM ad ca) S9) H locs) => ?_)
      refine lv_iconst (pc := 417) (v := 0) hx hb d_M_init_417 (by decide) ?_
      refine lv_istore_n (pc := 418) (lv' := [(3, .int (0 : Int32)), (0, .ref (ad (1, 0, 0))), (2, .int l2)]) hx hb d_M_init_418 rfl hl (by decide) rfl (fun ls hl => ?_)
      have o11 := hk.1
      have hk := hk.2
      obtain ⟨r10, er10⟩ : ∃ z : St, z = f_M_init_419 a1 200 S9 l2 (0 : Int32) := ⟨_, rfl⟩
      have hk := lt_p er10 hk
      have hr := lt_e er10 hr
      refine w_M_init_419 a1 hy hA 200 S9 l2 (0 : Int32) o11 _ er10.symm _ _ _ hW (lv_sub hl [1, 2, 0] rfl) (fun H locs ls hW hl => ?_)
      refine lv_iconst (pc := 442) (v := 0) hx hb d_M_init_442 (by decide) ?_
      refine lv_istore_n (pc := 443) (lv' := [(3, .int (0 : Int32)), (0, .ref (ad (1, 0, 0))), (2, .int l2)]) hx hb d_M_init_443 rfl hl (by decide) rfl (fun ls hl => ?_)
      have o13 := hk.1
      have hk := hk.2
      obtain ⟨r12, er12⟩ : ∃ z : St, z = f_M_init_444 a1 200 r10 l2 (0 : Int32) := ⟨_, rfl⟩
      have hk := lt_p er12 hk
      have hr := lt_e er12 hr
      refine w_M_init_444 a1 hy hA 200 r10 l2 (0 : Int32) o13 _ er12.symm _ _ _ hW (lv_sub hl [1, 2, 0] rfl) (fun H locs ls hW hl => ?_)
      refine lv_bipush (pc := 515) (v := 31) hx hb d_M_init_515 (by decide) ?_
      refine lv_istore_n (pc := 517) (lv' := [(3, .int (31 : Int32)), (0, .ref (ad (1, 0, 0))), (2, .int l2)]) hx hb d_M_init_517 rfl hl (by decide) rfl (fun ls hl => ?_)
      have o15 := hk.1
      have hk := hk.2
      obtain ⟨r14, er14⟩ : ∃ z : St, z = f_M_init_518 a1 200 r12 l2 (31 : Int32) := ⟨_, rfl⟩
      have hk := lt_p er14 hk
      have hr := lt_e er14 hr
      refine w_M_init_518 a1 hy hA 200 r12 l2 (31 : Int32) o15 _ er14.symm _ _ _ hW (lv_sub hl [1, 2, 0] rfl) (fun H locs ls hW hl => ?_)
      refine lv_iinc (pc := 571) (v := l2 + (1 : Int32)) (lv' := [(2, .int (l2 + (1 : Int32))), (0, .ref (ad (1, 0, 0)))]) (k := 1) hx hb d_M_init_571 hl rfl (z_inc (by decide)) (by decide) rfl (fun ls hl => ?_)
      refine lv_goto (pc := 574) (tgt := 402) hx hb d_M_init_574 (by decide) ?_
      exact ih r14 (l2 + (1 : Int32)) hk hr _ _ _ hW (lv_sub hl [1, 0] rfl)
def f_M_init_379 (a1 : Int32) (S : St)  : St :=
  lt (si S 8 0 0 0 (-1 : Int32)) fun (S2 : St) =>
  lt (si S2 9 0 0 0 (-1 : Int32)) fun (S4 : St) =>
  lt (si S4 10 0 0 0 (1 : Int32)) fun (S6 : St) =>
  f_M_init_402 a1 200 S6 (0 : Int32)
def ok_M_init_379 (a1 : Int32) (S : St)  : Prop :=
  lt (si S 8 0 0 0 (-1 : Int32)) fun (S2 : St) =>
  lt (si S2 9 0 0 0 (-1 : Int32)) fun (S4 : St) =>
  lt (si S4 10 0 0 0 (1 : Int32)) fun (S6 : St) =>
  ok_M_init_402 a1 200 S6 (0 : Int32)
set_option maxHeartbeats 4000000 in
set_option maxRecDepth 100000 in
theorem w_M_init_379 {l : Launch} {D : va_G} {X : va_W} {ad : N3 → Nat} {ca : Nat → ClassId} (a1 : Int32)  {p : Program} {e : Env} {s : State} {m : MethodId} {below : List Frame} {meth : Method} {c : Code} {A : Nat → Prop} (hy : Hy p s m ([.ref (ad (1, 0, 0)), .int a1] : List Value).toArray meth c b_M_init 7 none R_M GG D clM (tysM ca) nwM) (hA : ∀ q, s.heap.size ≤ q → A q) {res : St} : ∀  (S : St)  , ok_M_init_379 a1 S → f_M_init_379 a1 S = res → ∀ (H : Heap) (locs : List Loc) (ls : Array Slot), Wd D clM A s.heap (zw X ad TM (cfM ad ca) S) H locs → lv_has ls 7 [(0, .ref (ad (1, 0, 0)))] → W p l e { frames := 3, cells := 35, slots := 4097, locals := 72 } s m ([.ref (ad (1, 0, 0)), .int a1] : List Value).toArray below meth c H locs 35 4097 (MQ below (eN D clM (zw X ad TM (cfM ad ca) res) A) ([.ref (ad (1, 0, 0)), .int a1] : List Value).toArray s 35 4097 A) (F0 m 379 ls []) := by
  have hF := hy.1
  have hx := hF.1
  have hb := hF.2.1
  have hK := hy.2.2.2
  intro S hk hr H locs ls hW hl
  refine lv_aload_n (pc := 379) hx hb d_M_init_379 rfl (lv_at hl 0 rfl) ?_
  refine z_get (pc := 380) (v := .ref (ad (8, 0, 0))) hF hK.1 hW tm1 rfl rfl in_M 13 (by decide) gw_897 rfl rfl d_M_init_380 ?_
  refine lv_iconst (pc := 383) (v := 0) hx hb d_M_init_383 (by decide) ?_
  refine lv_iconst (pc := 384) (v := -1) hx hb d_M_init_384 (by decide) ?_
  have b1 : vp_in (0 : Int32) 100 := by unfold vp_in; decide
  obtain ⟨S2, eS2⟩ : ∃ z : St, z = si S 8 0 0 0 (-1 : Int32) := ⟨_, rfl⟩
  have hk := lt_p eS2 hk
  have hr := lt_e eS2 hr
  refine z_iast (pc := 385) (S' := S2) hF hK.1 hW tm8 0 rfl rfl b1 (zs_si eS2 rfl) (zs_sio eS2) d_M_init_385 (fun H locs (hW : Wd D clM A s.heap (zw X ad TM (cfM ad ca) S2) H locs) => ?_)
  refine lv_aload_n (pc := 386) hx hb d_M_init_386 rfl (lv_at hl 0 rfl) ?_
  refine z_get (pc := 387) (v := .ref (ad (9, 0, 0))) hF hK.1 hW tm1 rfl rfl in_M 14 (by decide) gw_898 rfl rfl d_M_init_387 ?_
  refine lv_iconst (pc := 390) (v := 0) hx hb d_M_init_390 (by decide) ?_
  refine lv_iconst (pc := 391) (v := -1) hx hb d_M_init_391 (by decide) ?_
  have b3 : vp_in (0 : Int32) 100 := by unfold vp_in; decide
  obtain ⟨S4, eS4⟩ : ∃ z : St, z = si S2 9 0 0 0 (-1 : Int32) := ⟨_, rfl⟩
  have hk := lt_p eS4 hk
  have hr := lt_e eS4 hr
  refine z_iast (pc := 392) (S' := S4) hF hK.1 hW tm9 0 rfl rfl b3 (zs_si eS4 rfl) (zs_sio eS4) d_M_init_392 (fun H locs (hW : Wd D clM A s.heap (zw X ad TM (cfM ad ca) S4) H locs) => ?_)
  refine lv_aload_n (pc := 393) hx hb d_M_init_393 rfl (lv_at hl 0 rfl) ?_
  refine z_get (pc := 394) (v := .ref (ad (10, 0, 0))) hF hK.1 hW tm1 rfl rfl in_M 15 (by decide) gw_899 rfl rfl d_M_init_394 ?_
  refine lv_iconst (pc := 397) (v := 0) hx hb d_M_init_397 (by decide) ?_
  refine lv_iconst (pc := 398) (v := 1) hx hb d_M_init_398 (by decide) ?_
  have b5 : vp_in (0 : Int32) 100 := by unfold vp_in; decide
  obtain ⟨S6, eS6⟩ : ∃ z : St, z = si S4 10 0 0 0 (1 : Int32) := ⟨_, rfl⟩
  have hk := lt_p eS6 hk
  have hr := lt_e eS6 hr
  refine z_zast (pc := 399) (S' := S6) hF hK.1 hW tm10 2 rfl rfl b5 (zs_si eS6 rfl) (zs_sio eS6) d_M_init_399 (fun H locs (hW : Wd D clM A s.heap (zw X ad TM (cfM ad ca) S6) H locs) => ?_)
  refine lv_iconst (pc := 400) (v := 0) hx hb d_M_init_400 (by decide) ?_
  refine lv_istore_n (pc := 401) (lv' := [(2, .int (0 : Int32)), (0, .ref (ad (1, 0, 0)))]) hx hb d_M_init_401 rfl hl (by decide) rfl (fun ls hl => ?_)
  exact w_M_init_402 a1 hy hA 200 S6 (0 : Int32) hk hr _ _ _ hW (lv_sub hl [1, 0] rfl)
