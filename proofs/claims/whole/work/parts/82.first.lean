abbrev b_Message_init : ByteArray := prog_7_method_1_code
def y_Message_init : MethodName := ⟨R_Message, "<init>", "()V"⟩
abbrev b_Transactions_init : ByteArray := prog_11_method_1_code
def y_Transactions_init : MethodName := ⟨R_Transactions, "<init>", "()V"⟩
abbrev b_Blocks_init : ByteArray := prog_3_method_1_code
def y_Blocks_init : MethodName := ⟨R_Blocks, "<init>", "()V"⟩
abbrev b_Tally_init : ByteArray := prog_10_method_1_code
def y_Tally_init : MethodName := ⟨R_Tally, "<init>", "(I)V"⟩
abbrev b_Accounts_init : ByteArray := prog_2_method_1_code
def y_Accounts_init : MethodName := ⟨R_Accounts, "<init>", "()V"⟩
abbrev b_Store_init : ByteArray := prog_9_method_1_code
def y_Store_init : MethodName := ⟨R_Store, "<init>", "(II)V"⟩
abbrev b_Inbox_init : ByteArray := prog_5_method_1_code
def y_Inbox_init : MethodName := ⟨R_Inbox, "<init>", "()V"⟩
abbrev b_Node_init : ByteArray := prog_8_method_1_code
def y_Node_init : MethodName := ⟨R_Node, "<init>", "(II)V"⟩
abbrev b_QC_init : ByteArray := prog_1_method_1_code
def y_QC_init : MethodName := ⟨R_QC, "<init>", "(I)V"⟩
abbrev b_KeyTree_init : ByteArray := prog_6_method_1_code
def y_KeyTree_init : MethodName := ⟨R_KeyTree, "<init>", "(II)V"⟩
theorem gw_75 : (Jvm.Cond.instanceMethod ({ cls := "QuorumChain", name := "<init>", desc := "(I)V" } : Jvm.MethodName)) ∈ GG := GG_in (i := 75) (by decide +kernel) (by decide +kernel)
theorem gw_76 : (Jvm.Cond.code ({ cls := "QuorumChain", name := "<init>", desc := "(I)V" } : Jvm.MethodName) prog_1_method_1_code (3 : Nat) (Option.none : Option Jvm.ClassFile.FieldType)) ∈ GG := GG_in (i := 76) (by decide +kernel) (by decide +kernel)
theorem gw_77 : (Jvm.Cond.methodLink "QuorumChain" (1 : Nat) ({ cls := "java/lang/Object", name := "<init>", desc := "()V" } : Jvm.MethodName)) ∈ GG := GG_in (i := 77) (by decide +kernel) (by decide +kernel)
theorem gw_78 : (Jvm.Cond.instanceMethod ({ cls := "java/lang/Object", name := "<init>", desc := "()V" } : Jvm.MethodName)) ∈ GG := GG_in (i := 78) (by decide +kernel) (by decide +kernel)
theorem gw_79 : (Jvm.Cond.code ({ cls := "java/lang/Object", name := "<init>", desc := "()V" } : Jvm.MethodName) object_method_1_code (1 : Nat) (Option.none : Option Jvm.ClassFile.FieldType)) ∈ GG := GG_in (i := 79) (by decide +kernel) (by decide +kernel)
theorem gw_80 : (Jvm.Cond.classLink "QuorumChain" (9 : Nat) "QuorumChain$Node") ∈ GG := GG_in (i := 80) (by decide +kernel) (by decide +kernel)
theorem gw_82 : (Jvm.Cond.classLink "QuorumChain" (15 : Nat) "QuorumChain$Blocks") ∈ GG := GG_in (i := 82) (by decide +kernel) (by decide +kernel)
theorem gw_83 : (Jvm.Cond.instantiable "QuorumChain$Blocks" (5 : Nat)) ∈ GG := GG_in (i := 83) (by decide +kernel) (by decide +kernel)
theorem gw_84 : (Jvm.Cond.methodLink "QuorumChain" (17 : Nat) ({ cls := "QuorumChain$Blocks", name := "<init>", desc := "()V" } : Jvm.MethodName)) ∈ GG := GG_in (i := 84) (by decide +kernel) (by decide +kernel)
theorem gw_85 : (Jvm.Cond.instanceMethod ({ cls := "QuorumChain$Blocks", name := "<init>", desc := "()V" } : Jvm.MethodName)) ∈ GG := GG_in (i := 85) (by decide +kernel) (by decide +kernel)
theorem gw_86 : (Jvm.Cond.code ({ cls := "QuorumChain$Blocks", name := "<init>", desc := "()V" } : Jvm.MethodName) prog_3_method_1_code (1 : Nat) (Option.none : Option Jvm.ClassFile.FieldType)) ∈ GG := GG_in (i := 86) (by decide +kernel) (by decide +kernel)
theorem gw_87 : (Jvm.Cond.methodLink "QuorumChain$Blocks" (3 : Nat) ({ cls := "java/lang/Object", name := "<init>", desc := "()V" } : Jvm.MethodName)) ∈ GG := GG_in (i := 87) (by decide +kernel) (by decide +kernel)
theorem gw_105 : (Jvm.Cond.arrayClass Jvm.ClassFile.FieldType.int) ∈ GG := GG_in (i := 105) (by decide +kernel) (by decide +kernel)
theorem gw_106 : (Jvm.Cond.arrayClass Jvm.ClassFile.FieldType.boolean) ∈ GG := GG_in (i := 106) (by decide +kernel) (by decide +kernel)
theorem gw_107 : (Jvm.Cond.classLink "QuorumChain" (22 : Nat) "QuorumChain$Transactions") ∈ GG := GG_in (i := 107) (by decide +kernel) (by decide +kernel)
theorem gw_108 : (Jvm.Cond.instantiable "QuorumChain$Transactions" (5 : Nat)) ∈ GG := GG_in (i := 108) (by decide +kernel) (by decide +kernel)
theorem gw_110 : (Jvm.Cond.instanceMethod ({ cls := "QuorumChain$Transactions", name := "<init>", desc := "()V" } : Jvm.MethodName)) ∈ GG := GG_in (i := 110) (by decide +kernel) (by decide +kernel)
theorem gw_111 : (Jvm.Cond.code ({ cls := "QuorumChain$Transactions", name := "<init>", desc := "()V" } : Jvm.MethodName) prog_11_method_1_code (1 : Nat) (Option.none : Option Jvm.ClassFile.FieldType)) ∈ GG := GG_in (i := 111) (by decide +kernel) (by decide +kernel)
theorem gw_112 : (Jvm.Cond.methodLink "QuorumChain$Transactions" (3 : Nat) ({ cls := "java/lang/Object", name := "<init>", desc := "()V" } : Jvm.MethodName)) ∈ GG := GG_in (i := 112) (by decide +kernel) (by decide +kernel)
theorem gw_130 : (Jvm.Cond.classLink "QuorumChain" (29 : Nat) "QuorumChain$Message") ∈ GG := GG_in (i := 130) (by decide +kernel) (by decide +kernel)
theorem gw_131 : (Jvm.Cond.instantiable "QuorumChain$Message" (6 : Nat)) ∈ GG := GG_in (i := 131) (by decide +kernel) (by decide +kernel)
theorem gw_133 : (Jvm.Cond.instanceMethod ({ cls := "QuorumChain$Message", name := "<init>", desc := "()V" } : Jvm.MethodName)) ∈ GG := GG_in (i := 133) (by decide +kernel) (by decide +kernel)
theorem gw_134 : (Jvm.Cond.code ({ cls := "QuorumChain$Message", name := "<init>", desc := "()V" } : Jvm.MethodName) prog_7_method_1_code (1 : Nat) (Option.none : Option Jvm.ClassFile.FieldType)) ∈ GG := GG_in (i := 134) (by decide +kernel) (by decide +kernel)
theorem gw_135 : (Jvm.Cond.methodLink "QuorumChain$Message" (3 : Nat) ({ cls := "java/lang/Object", name := "<init>", desc := "()V" } : Jvm.MethodName)) ∈ GG := GG_in (i := 135) (by decide +kernel) (by decide +kernel)
theorem gw_163 : (Jvm.Cond.arrayClass Jvm.ClassFile.FieldType.long) ∈ GG := GG_in (i := 163) (by decide +kernel) (by decide +kernel)
theorem gw_164 : (Jvm.Cond.instantiable "QuorumChain$Node" (12 : Nat)) ∈ GG := GG_in (i := 164) (by decide +kernel) (by decide +kernel)
theorem gw_165 : (Jvm.Cond.methodLink "QuorumChain" (39 : Nat) ({ cls := "QuorumChain$Node", name := "<init>", desc := "(II)V" } : Jvm.MethodName)) ∈ GG := GG_in (i := 165) (by decide +kernel) (by decide +kernel)
theorem gw_166 : (Jvm.Cond.instanceMethod ({ cls := "QuorumChain$Node", name := "<init>", desc := "(II)V" } : Jvm.MethodName)) ∈ GG := GG_in (i := 166) (by decide +kernel) (by decide +kernel)
theorem gw_167 : (Jvm.Cond.code ({ cls := "QuorumChain$Node", name := "<init>", desc := "(II)V" } : Jvm.MethodName) prog_8_method_1_code (3 : Nat) (Option.none : Option Jvm.ClassFile.FieldType)) ∈ GG := GG_in (i := 167) (by decide +kernel) (by decide +kernel)
theorem gw_168 : (Jvm.Cond.methodLink "QuorumChain$Node" (3 : Nat) ({ cls := "java/lang/Object", name := "<init>", desc := "()V" } : Jvm.MethodName)) ∈ GG := GG_in (i := 168) (by decide +kernel) (by decide +kernel)
theorem gw_169 : (Jvm.Cond.classLink "QuorumChain$Node" (9 : Nat) "QuorumChain$Inbox") ∈ GG := GG_in (i := 169) (by decide +kernel) (by decide +kernel)
theorem gw_170 : (Jvm.Cond.instantiable "QuorumChain$Inbox" (2 : Nat)) ∈ GG := GG_in (i := 170) (by decide +kernel) (by decide +kernel)
theorem gw_171 : (Jvm.Cond.methodLink "QuorumChain$Node" (11 : Nat) ({ cls := "QuorumChain$Inbox", name := "<init>", desc := "()V" } : Jvm.MethodName)) ∈ GG := GG_in (i := 171) (by decide +kernel) (by decide +kernel)
theorem gw_172 : (Jvm.Cond.instanceMethod ({ cls := "QuorumChain$Inbox", name := "<init>", desc := "()V" } : Jvm.MethodName)) ∈ GG := GG_in (i := 172) (by decide +kernel) (by decide +kernel)
theorem gw_173 : (Jvm.Cond.code ({ cls := "QuorumChain$Inbox", name := "<init>", desc := "()V" } : Jvm.MethodName) prog_5_method_1_code (2 : Nat) (Option.none : Option Jvm.ClassFile.FieldType)) ∈ GG := GG_in (i := 173) (by decide +kernel) (by decide +kernel)
theorem gw_174 : (Jvm.Cond.methodLink "QuorumChain$Inbox" (3 : Nat) ({ cls := "java/lang/Object", name := "<init>", desc := "()V" } : Jvm.MethodName)) ∈ GG := GG_in (i := 174) (by decide +kernel) (by decide +kernel)
theorem gw_175 : (Jvm.Cond.classLink "QuorumChain$Inbox" (9 : Nat) "QuorumChain$Message") ∈ GG := GG_in (i := 175) (by decide +kernel) (by decide +kernel)
theorem gw_188 : (Jvm.Cond.classLink "QuorumChain$Node" (18 : Nat) "QuorumChain$Tally") ∈ GG := GG_in (i := 188) (by decide +kernel) (by decide +kernel)
theorem gw_189 : (Jvm.Cond.instantiable "QuorumChain$Tally" (1 : Nat)) ∈ GG := GG_in (i := 189) (by decide +kernel) (by decide +kernel)
theorem gw_190 : (Jvm.Cond.methodLink "QuorumChain$Node" (20 : Nat) ({ cls := "QuorumChain$Tally", name := "<init>", desc := "(I)V" } : Jvm.MethodName)) ∈ GG := GG_in (i := 190) (by decide +kernel) (by decide +kernel)
theorem gw_191 : (Jvm.Cond.instanceMethod ({ cls := "QuorumChain$Tally", name := "<init>", desc := "(I)V" } : Jvm.MethodName)) ∈ GG := GG_in (i := 191) (by decide +kernel) (by decide +kernel)
theorem gw_192 : (Jvm.Cond.code ({ cls := "QuorumChain$Tally", name := "<init>", desc := "(I)V" } : Jvm.MethodName) prog_10_method_1_code (2 : Nat) (Option.none : Option Jvm.ClassFile.FieldType)) ∈ GG := GG_in (i := 192) (by decide +kernel) (by decide +kernel)
theorem gw_193 : (Jvm.Cond.methodLink "QuorumChain$Tally" (1 : Nat) ({ cls := "java/lang/Object", name := "<init>", desc := "()V" } : Jvm.MethodName)) ∈ GG := GG_in (i := 193) (by decide +kernel) (by decide +kernel)
theorem gw_198 : (Jvm.Cond.classLink "QuorumChain$Node" (51 : Nat) "QuorumChain$Store") ∈ GG := GG_in (i := 198) (by decide +kernel) (by decide +kernel)
theorem gw_199 : (Jvm.Cond.instantiable "QuorumChain$Store" (8 : Nat)) ∈ GG := GG_in (i := 199) (by decide +kernel) (by decide +kernel)
theorem gw_200 : (Jvm.Cond.methodLink "QuorumChain$Node" (53 : Nat) ({ cls := "QuorumChain$Store", name := "<init>", desc := "(II)V" } : Jvm.MethodName)) ∈ GG := GG_in (i := 200) (by decide +kernel) (by decide +kernel)
theorem gw_201 : (Jvm.Cond.instanceMethod ({ cls := "QuorumChain$Store", name := "<init>", desc := "(II)V" } : Jvm.MethodName)) ∈ GG := GG_in (i := 201) (by decide +kernel) (by decide +kernel)
theorem gw_202 : (Jvm.Cond.code ({ cls := "QuorumChain$Store", name := "<init>", desc := "(II)V" } : Jvm.MethodName) prog_9_method_1_code (3 : Nat) (Option.none : Option Jvm.ClassFile.FieldType)) ∈ GG := GG_in (i := 202) (by decide +kernel) (by decide +kernel)
theorem gw_203 : (Jvm.Cond.methodLink "QuorumChain$Store" (3 : Nat) ({ cls := "java/lang/Object", name := "<init>", desc := "()V" } : Jvm.MethodName)) ∈ GG := GG_in (i := 203) (by decide +kernel) (by decide +kernel)
theorem gw_204 : (Jvm.Cond.classLink "QuorumChain$Store" (19 : Nat) "QuorumChain$Accounts") ∈ GG := GG_in (i := 204) (by decide +kernel) (by decide +kernel)
theorem gw_205 : (Jvm.Cond.instantiable "QuorumChain$Accounts" (2 : Nat)) ∈ GG := GG_in (i := 205) (by decide +kernel) (by decide +kernel)
theorem gw_206 : (Jvm.Cond.methodLink "QuorumChain$Store" (21 : Nat) ({ cls := "QuorumChain$Accounts", name := "<init>", desc := "()V" } : Jvm.MethodName)) ∈ GG := GG_in (i := 206) (by decide +kernel) (by decide +kernel)
theorem gw_207 : (Jvm.Cond.instanceMethod ({ cls := "QuorumChain$Accounts", name := "<init>", desc := "()V" } : Jvm.MethodName)) ∈ GG := GG_in (i := 207) (by decide +kernel) (by decide +kernel)
theorem gw_208 : (Jvm.Cond.code ({ cls := "QuorumChain$Accounts", name := "<init>", desc := "()V" } : Jvm.MethodName) prog_2_method_1_code (2 : Nat) (Option.none : Option Jvm.ClassFile.FieldType)) ∈ GG := GG_in (i := 208) (by decide +kernel) (by decide +kernel)
theorem gw_209 : (Jvm.Cond.methodLink "QuorumChain$Accounts" (3 : Nat) ({ cls := "java/lang/Object", name := "<init>", desc := "()V" } : Jvm.MethodName)) ∈ GG := GG_in (i := 209) (by decide +kernel) (by decide +kernel)
theorem gw_219 : (Jvm.Cond.classLink "QuorumChain$Store" (26 : Nat) "QuorumChain$KeyTree") ∈ GG := GG_in (i := 219) (by decide +kernel) (by decide +kernel)
theorem gw_220 : (Jvm.Cond.instantiable "QuorumChain$KeyTree" (4 : Nat)) ∈ GG := GG_in (i := 220) (by decide +kernel) (by decide +kernel)
theorem gw_221 : (Jvm.Cond.methodLink "QuorumChain$Store" (28 : Nat) ({ cls := "QuorumChain$KeyTree", name := "<init>", desc := "(II)V" } : Jvm.MethodName)) ∈ GG := GG_in (i := 221) (by decide +kernel) (by decide +kernel)
theorem gw_222 : (Jvm.Cond.instanceMethod ({ cls := "QuorumChain$KeyTree", name := "<init>", desc := "(II)V" } : Jvm.MethodName)) ∈ GG := GG_in (i := 222) (by decide +kernel) (by decide +kernel)
theorem gw_223 : (Jvm.Cond.code ({ cls := "QuorumChain$KeyTree", name := "<init>", desc := "(II)V" } : Jvm.MethodName) prog_6_method_1_code (4 : Nat) (Option.none : Option Jvm.ClassFile.FieldType)) ∈ GG := GG_in (i := 223) (by decide +kernel) (by decide +kernel)
theorem gw_224 : (Jvm.Cond.methodLink "QuorumChain$KeyTree" (3 : Nat) ({ cls := "java/lang/Object", name := "<init>", desc := "()V" } : Jvm.MethodName)) ∈ GG := GG_in (i := 224) (by decide +kernel) (by decide +kernel)
theorem gw_225 : (Jvm.Cond.methodLink "QuorumChain$KeyTree" (22 : Nat) ({ cls := "QuorumChain$KeyTree", name := "leafOf", desc := "(III)J" } : Jvm.MethodName)) ∈ GG := GG_in (i := 225) (by decide +kernel) (by decide +kernel)
theorem gw_267 : (Jvm.Cond.fieldLink "QuorumChain$Store" (22 : Nat) "QuorumChain$Store" "accounts" "LQuorumChain$Accounts;") ∈ GG := GG_in (i := 267) (by decide +kernel) (by decide +kernel)
theorem gw_269 : (Jvm.Cond.fieldLink "QuorumChain$Store" (31 : Nat) "QuorumChain$Store" "keys" "LQuorumChain$KeyTree;") ∈ GG := GG_in (i := 269) (by decide +kernel) (by decide +kernel)
theorem gw_295 : (Jvm.Cond.fieldLink "QuorumChain$Node" (48 : Nat) "QuorumChain$Node" "id" "I") ∈ GG := GG_in (i := 295) (by decide +kernel) (by decide +kernel)
theorem cd_Message_init : cdI GG y_Message_init b_Message_init 1 0 := ⟨gw_134, gw_133, gw_55, by decide +kernel, rfl, GG_good⟩
theorem cd_Transactions_init : cdI GG y_Transactions_init b_Transactions_init 1 0 := ⟨gw_111, gw_110, gw_54, by decide +kernel, rfl, GG_good⟩
theorem cd_Blocks_init : cdI GG y_Blocks_init b_Blocks_init 1 0 := ⟨gw_86, gw_85, gw_53, by decide +kernel, rfl, GG_good⟩
theorem cd_Tally_init : cdI GG y_Tally_init b_Tally_init 2 1 := ⟨gw_192, gw_191, gw_58, by decide +kernel, rfl, GG_good⟩
theorem cd_Accounts_init : cdI GG y_Accounts_init b_Accounts_init 2 0 := ⟨gw_208, gw_207, gw_60, by decide +kernel, rfl, GG_good⟩
theorem cd_Store_init : cdI GG y_Store_init b_Store_init 3 2 := ⟨gw_202, gw_201, gw_59, by decide +kernel, rfl, GG_good⟩
theorem cd_Inbox_init : cdI GG y_Inbox_init b_Inbox_init 2 0 := ⟨gw_173, gw_172, gw_57, by decide +kernel, rfl, GG_good⟩
theorem cd_Node_init : cdI GG y_Node_init b_Node_init 3 2 := ⟨gw_167, gw_166, gw_56, by decide +kernel, rfl, GG_good⟩
theorem cd_QC_init : cdI GG y_QC_init b_QC_init 3 1 := ⟨gw_76, gw_75, gw_52, by decide +kernel, rfl, GG_good⟩
theorem cd_KeyTree_init : cdI GG y_KeyTree_init b_KeyTree_init 4 2 := ⟨gw_223, gw_222, gw_61, by decide +kernel, rfl, GG_good⟩
theorem dfs_QC : ∀ j, j < 7 → defaultValue (t_QC j) = vp_V [.null, .null, .null, .null, .null, .int 0, .int 0] j := by
  intro j hj
  rcases (show j = 0 ∨ j = 1 ∨ j = 2 ∨ j = 3 ∨ j = 4 ∨ j = 5 ∨ j = 6 by omega) with rfl | rfl | rfl | rfl | rfl | rfl | rfl <;> rfl
theorem dfs_Node : ∀ j, j < 12 → defaultValue (t_Node j) = vp_V [.int 0, .null, .null, .null, .null, .null, .int 0, .int 0, .int 0, .int 0, .int 0, .int 0] j := by
  intro j hj
  rcases (show j = 0 ∨ j = 1 ∨ j = 2 ∨ j = 3 ∨ j = 4 ∨ j = 5 ∨ j = 6 ∨ j = 7 ∨ j = 8 ∨ j = 9 ∨ j = 10 ∨ j = 11 by omega) with rfl | rfl | rfl | rfl | rfl | rfl | rfl | rfl | rfl | rfl | rfl | rfl <;> rfl
theorem dfs_Store : ∀ j, j < 8 → defaultValue (t_Store j) = vp_V [.null, .null, .null, .null, .int 0, .int 0, .int 0, .int 0] j := by
  intro j hj
  rcases (show j = 0 ∨ j = 1 ∨ j = 2 ∨ j = 3 ∨ j = 4 ∨ j = 5 ∨ j = 6 ∨ j = 7 by omega) with rfl | rfl | rfl | rfl | rfl | rfl | rfl | rfl <;> rfl
theorem dfs_Accounts : ∀ j, j < 2 → defaultValue (t_Accounts j) = vp_V [.null, .null] j := by
  intro j hj
  rcases (show j = 0 ∨ j = 1 by omega) with rfl | rfl <;> rfl
theorem dfs_KeyTree : ∀ j, j < 4 → defaultValue (t_KeyTree j) = vp_V [.null, .int 0, .int 0, .int 0] j := by
  intro j hj
  rcases (show j = 0 ∨ j = 1 ∨ j = 2 ∨ j = 3 by omega) with rfl | rfl | rfl | rfl <;> rfl
theorem dfs_Inbox : ∀ j, j < 2 → defaultValue (t_Inbox j) = vp_V [.null, .int 0] j := by
  intro j hj
  rcases (show j = 0 ∨ j = 1 by omega) with rfl | rfl <;> rfl
theorem dfs_Message : ∀ j, j < 6 → defaultValue (t_Message j) = vp_V [.null, .int 0, .int 0, .int 0, .int 0, .int 0] j := by
  intro j hj
  rcases (show j = 0 ∨ j = 1 ∨ j = 2 ∨ j = 3 ∨ j = 4 ∨ j = 5 by omega) with rfl | rfl | rfl | rfl | rfl | rfl <;> rfl
theorem dfs_Tally : ∀ j, j < 1 → defaultValue (t_Tally j) = vp_V [.null] j := by
  intro j hj
  rcases (show j = 0 by omega) with rfl <;> rfl
theorem dfs_Blocks : ∀ j, j < 5 → defaultValue (t_Blocks j) = vp_V [.null, .null, .null, .null, .int 0] j := by
  intro j hj
  rcases (show j = 0 ∨ j = 1 ∨ j = 2 ∨ j = 3 ∨ j = 4 by omega) with rfl | rfl | rfl | rfl | rfl <;> rfl
theorem dfs_Transactions : ∀ j, j < 5 → defaultValue (t_Transactions j) = vp_V [.null, .null, .null, .null, .int 0] j := by
  intro j hj
  rcases (show j = 0 ∨ j = 1 ∨ j = 2 ∨ j = 3 ∨ j = 4 by omega) with rfl | rfl | rfl | rfl | rfl <;> rfl
def nwN : List (String × Nat × MethodName × String) := [(R_QC, 24, y_Transactions_init, "QuorumChain"), (R_QC, 31, y_Message_init, "QuorumChain"), (R_Inbox, 17, y_Message_init, "QuorumChain")]
theorem nw_QC_24 : (R_QC, 24, y_Transactions_init, "QuorumChain") ∈ nwN := List.mem_of_getElem? (i := 0) rfl
theorem nw_QC_31 : (R_QC, 31, y_Message_init, "QuorumChain") ∈ nwN := List.mem_of_getElem? (i := 1) rfl
theorem nw_Inbox_17 : (R_Inbox, 17, y_Message_init, "QuorumChain") ∈ nwN := List.mem_of_getElem? (i := 2) rfl
def aoN : List String := ["QuorumChain$Node", "QuorumChain$Message"]
/-- where the class's cells lie, in the order in which the constructor makes them -/
def offQ : Nat → Nat → Nat → Nat
  | 1, _, _ => 0
  | 2, _, _ => 1
  | 19, _, _ => 2
  | 20, _, _ => 3
  | 21, _, _ => 4
  | 22, _, _ => 5
  | 23, _, _ => 6
  | 24, _, _ => 7
  | 25, _, _ => 8
  | 26, _, _ => 9
  | 27, _, _ => 10
  | 28, _, _ => 11
  | 14, i, j => if i = 4 then 12 + 2 * j else 19 + 48 * i + 2 * j
  | 15, i, j => (if i = 4 then 12 + 2 * j else 19 + 48 * i + 2 * j) + 1
  | 3, i, _ => 16 + 48 * i
  | 12, i, _ => 17 + 48 * i
  | 13, i, _ => 18 + 48 * i
  | 16, i, j => 51 + 48 * i + 2 * j
  | 17, i, j => 52 + 48 * i + 2 * j
  | 18, i, _ => 55 + 48 * i
  | 4, i, _ => 56 + 48 * i
  | 5, i, _ => 57 + 48 * i
  | 6, i, _ => 58 + 48 * i
  | 7, i, _ => 59 + 48 * i
  | 8, i, _ => 60 + 48 * i
  | 9, i, _ => 61 + 48 * i
  | 10, i, _ => 62 + 48 * i
  | 11, i, _ => 63 + 48 * i
  | _, _, _ => 244
def adQ (b0 : Nat) : N3 → Nat := fun t => b0 + offQ t.1 t.2.1 t.2.2
section AQ
variable {b0 i j : Nat}
theorem ad_1 : adQ b0 (1, i, j) = b0 + 0 := rfl
theorem ad_2 : adQ b0 (2, i, j) = b0 + 1 := rfl
theorem ad_19 : adQ b0 (19, i, j) = b0 + 2 := rfl
theorem ad_20 : adQ b0 (20, i, j) = b0 + 3 := rfl
theorem ad_21 : adQ b0 (21, i, j) = b0 + 4 := rfl
theorem ad_22 : adQ b0 (22, i, j) = b0 + 5 := rfl
theorem ad_23 : adQ b0 (23, i, j) = b0 + 6 := rfl
theorem ad_24 : adQ b0 (24, i, j) = b0 + 7 := rfl
theorem ad_25 : adQ b0 (25, i, j) = b0 + 8 := rfl
theorem ad_26 : adQ b0 (26, i, j) = b0 + 9 := rfl
theorem ad_27 : adQ b0 (27, i, j) = b0 + 10 := rfl
theorem ad_28 : adQ b0 (28, i, j) = b0 + 11 := rfl
theorem ad_14d : adQ b0 (14, 4, j) = b0 + (12 + 2 * j) := rfl
theorem ad_15d : adQ b0 (15, 4, j) = b0 + (13 + 2 * j) := by
  show b0 + (12 + 2 * j + 1) = _
  omega
theorem ad_14 (h : i < 4) : adQ b0 (14, i, j) = b0 + (19 + 48 * i + 2 * j) := by
  show b0 + (if i = 4 then 12 + 2 * j else 19 + 48 * i + 2 * j) = _
  rw [if_neg (by omega)]
theorem ad_15 (h : i < 4) : adQ b0 (15, i, j) = b0 + (20 + 48 * i + 2 * j) := by
  show b0 + ((if i = 4 then 12 + 2 * j else 19 + 48 * i + 2 * j) + 1) = _
  rw [if_neg (by omega)]
  omega
theorem ad_15s : adQ b0 (15, i, j) = adQ b0 (14, i, j) + 1 := rfl
theorem ad_3 : adQ b0 (3, i, j) = b0 + (16 + 48 * i) := rfl
theorem ad_12 : adQ b0 (12, i, j) = b0 + (17 + 48 * i) := rfl
theorem ad_13 : adQ b0 (13, i, j) = b0 + (18 + 48 * i) := rfl
theorem ad_16 : adQ b0 (16, i, j) = b0 + (51 + 48 * i + 2 * j) := rfl
theorem ad_17 : adQ b0 (17, i, j) = b0 + (52 + 48 * i + 2 * j) := rfl
theorem ad_18 : adQ b0 (18, i, j) = b0 + (55 + 48 * i) := rfl
theorem ad_4 : adQ b0 (4, i, j) = b0 + (56 + 48 * i) := rfl
theorem ad_5 : adQ b0 (5, i, j) = b0 + (57 + 48 * i) := rfl
theorem ad_6 : adQ b0 (6, i, j) = b0 + (58 + 48 * i) := rfl
theorem ad_7 : adQ b0 (7, i, j) = b0 + (59 + 48 * i) := rfl
theorem ad_8 : adQ b0 (8, i, j) = b0 + (60 + 48 * i) := rfl
theorem ad_9 : adQ b0 (9, i, j) = b0 + (61 + 48 * i) := rfl
theorem ad_10 : adQ b0 (10, i, j) = b0 + (62 + 48 * i) := rfl
theorem ad_11 : adQ b0 (11, i, j) = b0 + (63 + 48 * i) := rfl
end AQ
/-- the tree of hashes as the loops make it: n leaves from k on, then the knots from n down -/
noncomputable def tLeaf (lf : Nat → Int64) (n : Nat) : Nat → (Nat → Int64) → Nat → Int64 := Nat.rec (fun _ g => g) (fun _ r k g => r (k + 1) (vp_updL g (32 + k) (lf k))) n
noncomputable def tKnot (n : Nat) : (Nat → Int64) → Nat → Int64 := Nat.rec (fun g => g) (fun n r g => r (vp_updL g (n + 1) (h2 (g (2 * (n + 1))) (g (2 * (n + 1) + 1))))) n
/-- a leaf: the ends of the six chains of key k of node i -/
noncomputable def hCh (f : Nat → Int64) (n : Nat) : Nat → Int64 → Int64 := Nat.rec (fun _ h => h) (fun _ r c h => r (c + 1) (hA h (f c))) n
noncomputable def tEnds (sd : Int32) (i k : Nat) : Int64 := hE (hCh (fun c => hIt 15 (hSec sd.toInt64 (nI i) (nI k) (nI c))) 6 0 hS)
noncomputable def tTree (sd : Int32) (i : Nat) : Nat → Int64 := tKnot 31 (tLeaf (tEnds sd i) 32 0 (fun _ => 0))
/-- the class's first state -/
def S0i (sd : Int32) : IM := fun k i _ => match k with
  | 3 => fun x => match x with | 0 => nI i | 7 => 1 | 8 => 1 | 9 => 6 | 10 => 6 | _ => 0
  | 4 => fun x => match x with | 4 => 1 | 5 => 1 | _ => 0
  | 5 => upd (fun _ => 0) 0 1
  | 8 => upd (upd (upd (upd (fun _ => 0) 0 100) 1 100) 2 100) 3 100
  | 10 => fun x => match x with | 1 => sd | 2 => nI i | _ => 0
  | 14 => fun x => match x with | 5 => -1 | _ => 0
  | 19 => fun x => match x with | 4 => 1 | _ => 0
  | 21 => upd (fun _ => 0) 0 (-1)
  | 22 => upd (fun _ => 0) 0 (-1)
  | 23 => upd (fun _ => 0) 0 1
  | _ => fun _ => 0
noncomputable def S0l (sd : Int32) : LM := fun k i _ => match k with
  | 11 => tTree sd i
  | _ => fun _ => 0
noncomputable def S0q (sd : Int32) : St := (S0i sd, S0l sd, fun _ _ _ x => x)

theorem d_Message_init_0 : decode b_Message_init 0 = .ok (.aload_n 0, 1) := by decide +kernel
theorem d_Message_init_1 : decode b_Message_init 1 = .ok (.invokespecial 3, 3) := by decide +kernel
theorem d_Message_init_4 : decode b_Message_init 4 = .ok (.aload_n 0, 1) := by decide +kernel
theorem d_Message_init_5 : decode b_Message_init 5 = .ok (.bipush 11, 2) := by decide +kernel
theorem d_Message_init_7 : decode b_Message_init 7 = .ok (.newarray .long, 2) := by decide +kernel
theorem d_Message_init_9 : decode b_Message_init 9 = .ok (.putfield 9, 3) := by decide +kernel
theorem d_Message_init_12 : decode b_Message_init 12 = .ok (.aload_n 0, 1) := by decide +kernel
theorem d_Message_init_13 : decode b_Message_init 13 = .ok (.iconst (-1), 1) := by decide +kernel
theorem d_Message_init_14 : decode b_Message_init 14 = .ok (.putfield 15, 3) := by decide +kernel
theorem d_Message_init_17 : decode b_Message_init 17 = .ok (.return_, 1) := by decide +kernel
theorem d_Transactions_init_0 : decode b_Transactions_init 0 = .ok (.aload_n 0, 1) := by decide +kernel
theorem d_Transactions_init_1 : decode b_Transactions_init 1 = .ok (.invokespecial 3, 3) := by decide +kernel
theorem d_Transactions_init_4 : decode b_Transactions_init 4 = .ok (.aload_n 0, 1) := by decide +kernel
theorem d_Transactions_init_5 : decode b_Transactions_init 5 = .ok (.bipush 40, 2) := by decide +kernel
theorem d_Transactions_init_7 : decode b_Transactions_init 7 = .ok (.newarray .int, 2) := by decide +kernel
theorem d_Transactions_init_9 : decode b_Transactions_init 9 = .ok (.putfield 9, 3) := by decide +kernel
theorem d_Transactions_init_12 : decode b_Transactions_init 12 = .ok (.aload_n 0, 1) := by decide +kernel
theorem d_Transactions_init_13 : decode b_Transactions_init 13 = .ok (.bipush 40, 2) := by decide +kernel
theorem d_Transactions_init_15 : decode b_Transactions_init 15 = .ok (.newarray .int, 2) := by decide +kernel
theorem d_Transactions_init_17 : decode b_Transactions_init 17 = .ok (.putfield 15, 3) := by decide +kernel
theorem d_Transactions_init_20 : decode b_Transactions_init 20 = .ok (.aload_n 0, 1) := by decide +kernel
theorem d_Transactions_init_21 : decode b_Transactions_init 21 = .ok (.bipush 40, 2) := by decide +kernel
theorem d_Transactions_init_23 : decode b_Transactions_init 23 = .ok (.newarray .int, 2) := by decide +kernel
theorem d_Transactions_init_25 : decode b_Transactions_init 25 = .ok (.putfield 18, 3) := by decide +kernel
theorem d_Transactions_init_28 : decode b_Transactions_init 28 = .ok (.aload_n 0, 1) := by decide +kernel
theorem d_Transactions_init_29 : decode b_Transactions_init 29 = .ok (.bipush 40, 2) := by decide +kernel
theorem d_Transactions_init_31 : decode b_Transactions_init 31 = .ok (.newarray .int, 2) := by decide +kernel
theorem d_Transactions_init_33 : decode b_Transactions_init 33 = .ok (.putfield 21, 3) := by decide +kernel
theorem d_Transactions_init_36 : decode b_Transactions_init 36 = .ok (.return_, 1) := by decide +kernel
theorem d_Blocks_init_0 : decode b_Blocks_init 0 = .ok (.aload_n 0, 1) := by decide +kernel
theorem d_Blocks_init_1 : decode b_Blocks_init 1 = .ok (.invokespecial 3, 3) := by decide +kernel
theorem d_Blocks_init_4 : decode b_Blocks_init 4 = .ok (.aload_n 0, 1) := by decide +kernel
theorem d_Blocks_init_5 : decode b_Blocks_init 5 = .ok (.bipush 100, 2) := by decide +kernel
theorem d_Blocks_init_7 : decode b_Blocks_init 7 = .ok (.newarray .int, 2) := by decide +kernel
theorem d_Blocks_init_9 : decode b_Blocks_init 9 = .ok (.putfield 9, 3) := by decide +kernel
theorem d_Blocks_init_12 : decode b_Blocks_init 12 = .ok (.aload_n 0, 1) := by decide +kernel
theorem d_Blocks_init_13 : decode b_Blocks_init 13 = .ok (.bipush 100, 2) := by decide +kernel
theorem d_Blocks_init_15 : decode b_Blocks_init 15 = .ok (.newarray .int, 2) := by decide +kernel
theorem d_Blocks_init_17 : decode b_Blocks_init 17 = .ok (.putfield 15, 3) := by decide +kernel
theorem d_Blocks_init_20 : decode b_Blocks_init 20 = .ok (.aload_n 0, 1) := by decide +kernel
theorem d_Blocks_init_21 : decode b_Blocks_init 21 = .ok (.bipush 100, 2) := by decide +kernel
theorem d_Blocks_init_23 : decode b_Blocks_init 23 = .ok (.newarray .int, 2) := by decide +kernel
theorem d_Blocks_init_25 : decode b_Blocks_init 25 = .ok (.putfield 18, 3) := by decide +kernel
theorem d_Blocks_init_28 : decode b_Blocks_init 28 = .ok (.aload_n 0, 1) := by decide +kernel
theorem d_Blocks_init_29 : decode b_Blocks_init 29 = .ok (.bipush 100, 2) := by decide +kernel
theorem d_Blocks_init_31 : decode b_Blocks_init 31 = .ok (.newarray .boolean, 2) := by decide +kernel
theorem d_Blocks_init_33 : decode b_Blocks_init 33 = .ok (.putfield 21, 3) := by decide +kernel
theorem d_Blocks_init_36 : decode b_Blocks_init 36 = .ok (.aload_n 0, 1) := by decide +kernel
theorem d_Blocks_init_37 : decode b_Blocks_init 37 = .ok (.getfield 15, 3) := by decide +kernel
theorem d_Blocks_init_40 : decode b_Blocks_init 40 = .ok (.iconst 0, 1) := by decide +kernel
theorem d_Blocks_init_41 : decode b_Blocks_init 41 = .ok (.iconst (-1), 1) := by decide +kernel
theorem d_Blocks_init_42 : decode b_Blocks_init 42 = .ok (.iastore, 1) := by decide +kernel
theorem d_Blocks_init_43 : decode b_Blocks_init 43 = .ok (.aload_n 0, 1) := by decide +kernel
theorem d_Blocks_init_44 : decode b_Blocks_init 44 = .ok (.getfield 18, 3) := by decide +kernel
theorem d_Blocks_init_47 : decode b_Blocks_init 47 = .ok (.iconst 0, 1) := by decide +kernel
theorem d_Blocks_init_48 : decode b_Blocks_init 48 = .ok (.iconst (-1), 1) := by decide +kernel
theorem d_Blocks_init_49 : decode b_Blocks_init 49 = .ok (.iastore, 1) := by decide +kernel
theorem d_Blocks_init_50 : decode b_Blocks_init 50 = .ok (.aload_n 0, 1) := by decide +kernel
theorem d_Blocks_init_51 : decode b_Blocks_init 51 = .ok (.getfield 21, 3) := by decide +kernel
theorem d_Blocks_init_54 : decode b_Blocks_init 54 = .ok (.iconst 0, 1) := by decide +kernel
theorem d_Blocks_init_55 : decode b_Blocks_init 55 = .ok (.iconst 1, 1) := by decide +kernel
theorem d_Blocks_init_56 : decode b_Blocks_init 56 = .ok (.bastore, 1) := by decide +kernel
theorem d_Blocks_init_57 : decode b_Blocks_init 57 = .ok (.aload_n 0, 1) := by decide +kernel
theorem d_Blocks_init_58 : decode b_Blocks_init 58 = .ok (.iconst 1, 1) := by decide +kernel
theorem d_Blocks_init_59 : decode b_Blocks_init 59 = .ok (.putfield 25, 3) := by decide +kernel
theorem d_Blocks_init_62 : decode b_Blocks_init 62 = .ok (.return_, 1) := by decide +kernel
theorem d_Tally_init_0 : decode b_Tally_init 0 = .ok (.aload_n 0, 1) := by decide +kernel
theorem d_Tally_init_1 : decode b_Tally_init 1 = .ok (.invokespecial 1, 3) := by decide +kernel
theorem d_Tally_init_4 : decode b_Tally_init 4 = .ok (.aload_n 0, 1) := by decide +kernel
theorem d_Tally_init_5 : decode b_Tally_init 5 = .ok (.iload_n 1, 1) := by decide +kernel
theorem d_Tally_init_6 : decode b_Tally_init 6 = .ok (.newarray .int, 2) := by decide +kernel
theorem d_Tally_init_8 : decode b_Tally_init 8 = .ok (.putfield 7, 3) := by decide +kernel
theorem d_Tally_init_11 : decode b_Tally_init 11 = .ok (.return_, 1) := by decide +kernel
theorem d_Accounts_init_0 : decode b_Accounts_init 0 = .ok (.aload_n 0, 1) := by decide +kernel
theorem d_Accounts_init_1 : decode b_Accounts_init 1 = .ok (.invokespecial 3, 3) := by decide +kernel
theorem d_Accounts_init_4 : decode b_Accounts_init 4 = .ok (.aload_n 0, 1) := by decide +kernel
theorem d_Accounts_init_5 : decode b_Accounts_init 5 = .ok (.iconst 4, 1) := by decide +kernel
theorem d_Accounts_init_6 : decode b_Accounts_init 6 = .ok (.newarray .int, 2) := by decide +kernel
theorem d_Accounts_init_8 : decode b_Accounts_init 8 = .ok (.putfield 9, 3) := by decide +kernel
theorem d_Accounts_init_11 : decode b_Accounts_init 11 = .ok (.aload_n 0, 1) := by decide +kernel
theorem d_Accounts_init_12 : decode b_Accounts_init 12 = .ok (.iconst 4, 1) := by decide +kernel
theorem d_Accounts_init_13 : decode b_Accounts_init 13 = .ok (.newarray .int, 2) := by decide +kernel
theorem d_Accounts_init_15 : decode b_Accounts_init 15 = .ok (.putfield 15, 3) := by decide +kernel
theorem d_Accounts_init_18 : decode b_Accounts_init 18 = .ok (.iconst 0, 1) := by decide +kernel
theorem d_Accounts_init_19 : decode b_Accounts_init 19 = .ok (.istore_n 1, 1) := by decide +kernel
theorem d_Accounts_init_20 : decode b_Accounts_init 20 = .ok (.iload_n 1, 1) := by decide +kernel
theorem d_Accounts_init_21 : decode b_Accounts_init 21 = .ok (.iconst 4, 1) := by decide +kernel
theorem d_Accounts_init_22 : decode b_Accounts_init 22 = .ok (.if_icmp .ge 17, 3) := by decide +kernel
theorem d_Accounts_init_25 : decode b_Accounts_init 25 = .ok (.aload_n 0, 1) := by decide +kernel
theorem d_Accounts_init_26 : decode b_Accounts_init 26 = .ok (.getfield 9, 3) := by decide +kernel
theorem d_Accounts_init_29 : decode b_Accounts_init 29 = .ok (.iload_n 1, 1) := by decide +kernel
theorem d_Accounts_init_30 : decode b_Accounts_init 30 = .ok (.bipush 100, 2) := by decide +kernel
theorem d_Accounts_init_32 : decode b_Accounts_init 32 = .ok (.iastore, 1) := by decide +kernel
theorem d_Accounts_init_33 : decode b_Accounts_init 33 = .ok (.iinc 1 1, 3) := by decide +kernel
theorem d_Accounts_init_36 : decode b_Accounts_init 36 = .ok (.goto (-16), 3) := by decide +kernel
theorem d_Accounts_init_39 : decode b_Accounts_init 39 = .ok (.return_, 1) := by decide +kernel
theorem d_Store_init_0 : decode b_Store_init 0 = .ok (.aload_n 0, 1) := by decide +kernel
theorem d_Store_init_1 : decode b_Store_init 1 = .ok (.invokespecial 3, 3) := by decide +kernel
theorem d_Store_init_4 : decode b_Store_init 4 = .ok (.aload_n 0, 1) := by decide +kernel
theorem d_Store_init_5 : decode b_Store_init 5 = .ok (.bipush 100, 2) := by decide +kernel
theorem d_Store_init_7 : decode b_Store_init 7 = .ok (.newarray .boolean, 2) := by decide +kernel
theorem d_Store_init_9 : decode b_Store_init 9 = .ok (.putfield 9, 3) := by decide +kernel
theorem d_Store_init_12 : decode b_Store_init 12 = .ok (.aload_n 0, 1) := by decide +kernel
theorem d_Store_init_13 : decode b_Store_init 13 = .ok (.bipush 100, 2) := by decide +kernel
theorem d_Store_init_15 : decode b_Store_init 15 = .ok (.newarray .int, 2) := by decide +kernel
theorem d_Store_init_17 : decode b_Store_init 17 = .ok (.putfield 15, 3) := by decide +kernel
theorem d_Store_init_20 : decode b_Store_init 20 = .ok (.aload_n 0, 1) := by decide +kernel
theorem d_Store_init_21 : decode b_Store_init 21 = .ok (.new 19, 3) := by decide +kernel
theorem d_Store_init_24 : decode b_Store_init 24 = .ok (.dup, 1) := by decide +kernel
theorem d_Store_init_25 : decode b_Store_init 25 = .ok (.invokespecial 21, 3) := by decide +kernel
theorem d_Store_init_28 : decode b_Store_init 28 = .ok (.putfield 22, 3) := by decide +kernel
theorem d_Store_init_31 : decode b_Store_init 31 = .ok (.aload_n 0, 1) := by decide +kernel
theorem d_Store_init_32 : decode b_Store_init 32 = .ok (.new 26, 3) := by decide +kernel
theorem d_Store_init_35 : decode b_Store_init 35 = .ok (.dup, 1) := by decide +kernel
theorem d_Store_init_36 : decode b_Store_init 36 = .ok (.iload_n 1, 1) := by decide +kernel
theorem d_Store_init_37 : decode b_Store_init 37 = .ok (.iload_n 2, 1) := by decide +kernel
theorem d_Store_init_38 : decode b_Store_init 38 = .ok (.invokespecial 28, 3) := by decide +kernel
theorem d_Store_init_41 : decode b_Store_init 41 = .ok (.putfield 31, 3) := by decide +kernel
theorem d_Store_init_44 : decode b_Store_init 44 = .ok (.aload_n 0, 1) := by decide +kernel
theorem d_Store_init_45 : decode b_Store_init 45 = .ok (.getfield 9, 3) := by decide +kernel
theorem d_Store_init_48 : decode b_Store_init 48 = .ok (.iconst 0, 1) := by decide +kernel
theorem d_Store_init_49 : decode b_Store_init 49 = .ok (.iconst 1, 1) := by decide +kernel
theorem d_Store_init_50 : decode b_Store_init 50 = .ok (.bastore, 1) := by decide +kernel
theorem d_Store_init_51 : decode b_Store_init 51 = .ok (.aload_n 0, 1) := by decide +kernel
theorem d_Store_init_52 : decode b_Store_init 52 = .ok (.iconst 1, 1) := by decide +kernel
theorem d_Store_init_53 : decode b_Store_init 53 = .ok (.putfield 35, 3) := by decide +kernel
theorem d_Store_init_56 : decode b_Store_init 56 = .ok (.aload_n 0, 1) := by decide +kernel
theorem d_Store_init_57 : decode b_Store_init 57 = .ok (.iconst 1, 1) := by decide +kernel
theorem d_Store_init_58 : decode b_Store_init 58 = .ok (.putfield 39, 3) := by decide +kernel
theorem d_Store_init_61 : decode b_Store_init 61 = .ok (.return_, 1) := by decide +kernel
theorem d_Inbox_init_0 : decode b_Inbox_init 0 = .ok (.aload_n 0, 1) := by decide +kernel
theorem d_Inbox_init_1 : decode b_Inbox_init 1 = .ok (.invokespecial 3, 3) := by decide +kernel
theorem d_Inbox_init_4 : decode b_Inbox_init 4 = .ok (.aload_n 0, 1) := by decide +kernel
theorem d_Inbox_init_5 : decode b_Inbox_init 5 = .ok (.bipush 16, 2) := by decide +kernel
theorem d_Inbox_init_7 : decode b_Inbox_init 7 = .ok (.anewarray 9, 3) := by decide +kernel
theorem d_Inbox_init_10 : decode b_Inbox_init 10 = .ok (.putfield 11, 3) := by decide +kernel
theorem d_Inbox_init_13 : decode b_Inbox_init 13 = .ok (.iconst 0, 1) := by decide +kernel
theorem d_Inbox_init_14 : decode b_Inbox_init 14 = .ok (.istore_n 1, 1) := by decide +kernel
theorem d_Inbox_init_15 : decode b_Inbox_init 15 = .ok (.iload_n 1, 1) := by decide +kernel
theorem d_Inbox_init_16 : decode b_Inbox_init 16 = .ok (.bipush 16, 2) := by decide +kernel
theorem d_Inbox_init_18 : decode b_Inbox_init 18 = .ok (.if_icmp .ge 22, 3) := by decide +kernel
theorem d_Inbox_init_21 : decode b_Inbox_init 21 = .ok (.aload_n 0, 1) := by decide +kernel
theorem d_Inbox_init_22 : decode b_Inbox_init 22 = .ok (.getfield 11, 3) := by decide +kernel
theorem d_Inbox_init_25 : decode b_Inbox_init 25 = .ok (.iload_n 1, 1) := by decide +kernel
theorem d_Inbox_init_26 : decode b_Inbox_init 26 = .ok (.new 9, 3) := by decide +kernel
theorem d_Inbox_init_29 : decode b_Inbox_init 29 = .ok (.dup, 1) := by decide +kernel
theorem d_Inbox_init_30 : decode b_Inbox_init 30 = .ok (.invokespecial 17, 3) := by decide +kernel
theorem d_Inbox_init_33 : decode b_Inbox_init 33 = .ok (.aastore, 1) := by decide +kernel
theorem d_Inbox_init_34 : decode b_Inbox_init 34 = .ok (.iinc 1 1, 3) := by decide +kernel
theorem d_Inbox_init_37 : decode b_Inbox_init 37 = .ok (.goto (-22), 3) := by decide +kernel
theorem d_Inbox_init_40 : decode b_Inbox_init 40 = .ok (.return_, 1) := by decide +kernel
theorem d_Node_init_0 : decode b_Node_init 0 = .ok (.aload_n 0, 1) := by decide +kernel
theorem d_Node_init_1 : decode b_Node_init 1 = .ok (.invokespecial 3, 3) := by decide +kernel
theorem d_Node_init_4 : decode b_Node_init 4 = .ok (.aload_n 0, 1) := by decide +kernel
theorem d_Node_init_5 : decode b_Node_init 5 = .ok (.new 9, 3) := by decide +kernel
theorem d_Node_init_8 : decode b_Node_init 8 = .ok (.dup, 1) := by decide +kernel
theorem d_Node_init_9 : decode b_Node_init 9 = .ok (.invokespecial 11, 3) := by decide +kernel
theorem d_Node_init_12 : decode b_Node_init 12 = .ok (.putfield 12, 3) := by decide +kernel
theorem d_Node_init_15 : decode b_Node_init 15 = .ok (.aload_n 0, 1) := by decide +kernel
theorem d_Node_init_16 : decode b_Node_init 16 = .ok (.new 18, 3) := by decide +kernel
theorem d_Node_init_19 : decode b_Node_init 19 = .ok (.dup, 1) := by decide +kernel
theorem d_Node_init_20 : decode b_Node_init 20 = .ok (.bipush 100, 2) := by decide +kernel
theorem d_Node_init_22 : decode b_Node_init 22 = .ok (.invokespecial 20, 3) := by decide +kernel
theorem d_Node_init_25 : decode b_Node_init 25 = .ok (.putfield 23, 3) := by decide +kernel
theorem d_Node_init_28 : decode b_Node_init 28 = .ok (.aload_n 0, 1) := by decide +kernel
theorem d_Node_init_29 : decode b_Node_init 29 = .ok (.new 18, 3) := by decide +kernel
theorem d_Node_init_32 : decode b_Node_init 32 = .ok (.dup, 1) := by decide +kernel
theorem d_Node_init_33 : decode b_Node_init 33 = .ok (.sipush 128, 3) := by decide +kernel
theorem d_Node_init_36 : decode b_Node_init 36 = .ok (.invokespecial 20, 3) := by decide +kernel
theorem d_Node_init_39 : decode b_Node_init 39 = .ok (.putfield 27, 3) := by decide +kernel
theorem d_Node_init_42 : decode b_Node_init 42 = .ok (.aload_n 0, 1) := by decide +kernel
theorem d_Node_init_43 : decode b_Node_init 43 = .ok (.bipush 40, 2) := by decide +kernel
theorem d_Node_init_45 : decode b_Node_init 45 = .ok (.newarray .int, 2) := by decide +kernel
theorem d_Node_init_47 : decode b_Node_init 47 = .ok (.putfield 30, 3) := by decide +kernel
theorem d_Node_init_50 : decode b_Node_init 50 = .ok (.aload_n 0, 1) := by decide +kernel
theorem d_Node_init_51 : decode b_Node_init 51 = .ok (.iconst 1, 1) := by decide +kernel
theorem d_Node_init_52 : decode b_Node_init 52 = .ok (.putfield 34, 3) := by decide +kernel
theorem d_Node_init_55 : decode b_Node_init 55 = .ok (.aload_n 0, 1) := by decide +kernel
theorem d_Node_init_56 : decode b_Node_init 56 = .ok (.iconst 1, 1) := by decide +kernel
theorem d_Node_init_57 : decode b_Node_init 57 = .ok (.putfield 38, 3) := by decide +kernel
theorem d_Node_init_60 : decode b_Node_init 60 = .ok (.aload_n 0, 1) := by decide +kernel
theorem d_Node_init_61 : decode b_Node_init 61 = .ok (.bipush 6, 2) := by decide +kernel
theorem d_Node_init_63 : decode b_Node_init 63 = .ok (.putfield 42, 3) := by decide +kernel
theorem d_Node_init_66 : decode b_Node_init 66 = .ok (.aload_n 0, 1) := by decide +kernel
theorem d_Node_init_67 : decode b_Node_init 67 = .ok (.bipush 6, 2) := by decide +kernel
theorem d_Node_init_69 : decode b_Node_init 69 = .ok (.putfield 45, 3) := by decide +kernel
theorem d_Node_init_72 : decode b_Node_init 72 = .ok (.aload_n 0, 1) := by decide +kernel
theorem d_Node_init_73 : decode b_Node_init 73 = .ok (.iload_n 2, 1) := by decide +kernel
theorem d_Node_init_74 : decode b_Node_init 74 = .ok (.putfield 48, 3) := by decide +kernel
theorem d_Node_init_77 : decode b_Node_init 77 = .ok (.aload_n 0, 1) := by decide +kernel
theorem d_Node_init_78 : decode b_Node_init 78 = .ok (.new 51, 3) := by decide +kernel
theorem d_Node_init_81 : decode b_Node_init 81 = .ok (.dup, 1) := by decide +kernel
theorem d_Node_init_82 : decode b_Node_init 82 = .ok (.iload_n 1, 1) := by decide +kernel
theorem d_Node_init_83 : decode b_Node_init 83 = .ok (.iload_n 2, 1) := by decide +kernel
theorem d_Node_init_84 : decode b_Node_init 84 = .ok (.invokespecial 53, 3) := by decide +kernel
theorem d_Node_init_87 : decode b_Node_init 87 = .ok (.putfield 56, 3) := by decide +kernel
theorem d_Node_init_90 : decode b_Node_init 90 = .ok (.return_, 1) := by decide +kernel
theorem d_QC_init_0 : decode b_QC_init 0 = .ok (.aload_n 0, 1) := by decide +kernel
theorem d_QC_init_1 : decode b_QC_init 1 = .ok (.invokespecial 1, 3) := by decide +kernel
theorem d_QC_init_4 : decode b_QC_init 4 = .ok (.aload_n 0, 1) := by decide +kernel
theorem d_QC_init_5 : decode b_QC_init 5 = .ok (.iconst 4, 1) := by decide +kernel
theorem d_QC_init_6 : decode b_QC_init 6 = .ok (.anewarray 9, 3) := by decide +kernel
theorem d_QC_init_9 : decode b_QC_init 9 = .ok (.putfield 11, 3) := by decide +kernel
theorem d_QC_init_12 : decode b_QC_init 12 = .ok (.aload_n 0, 1) := by decide +kernel
theorem d_QC_init_13 : decode b_QC_init 13 = .ok (.new 15, 3) := by decide +kernel
theorem d_QC_init_16 : decode b_QC_init 16 = .ok (.dup, 1) := by decide +kernel
theorem d_QC_init_17 : decode b_QC_init 17 = .ok (.invokespecial 17, 3) := by decide +kernel
theorem d_QC_init_20 : decode b_QC_init 20 = .ok (.putfield 18, 3) := by decide +kernel
theorem d_QC_init_23 : decode b_QC_init 23 = .ok (.aload_n 0, 1) := by decide +kernel
theorem d_QC_init_24 : decode b_QC_init 24 = .ok (.new 22, 3) := by decide +kernel
theorem d_QC_init_27 : decode b_QC_init 27 = .ok (.dup, 1) := by decide +kernel
theorem d_QC_init_28 : decode b_QC_init 28 = .ok (.invokespecial 24, 3) := by decide +kernel
theorem d_QC_init_31 : decode b_QC_init 31 = .ok (.putfield 25, 3) := by decide +kernel
theorem d_QC_init_34 : decode b_QC_init 34 = .ok (.aload_n 0, 1) := by decide +kernel
theorem d_QC_init_35 : decode b_QC_init 35 = .ok (.new 29, 3) := by decide +kernel
theorem d_QC_init_38 : decode b_QC_init 38 = .ok (.dup, 1) := by decide +kernel
theorem d_QC_init_39 : decode b_QC_init 39 = .ok (.invokespecial 31, 3) := by decide +kernel
theorem d_QC_init_42 : decode b_QC_init 42 = .ok (.putfield 32, 3) := by decide +kernel
theorem d_QC_init_45 : decode b_QC_init 45 = .ok (.aload_n 0, 1) := by decide +kernel
theorem d_QC_init_46 : decode b_QC_init 46 = .ok (.new 29, 3) := by decide +kernel
theorem d_QC_init_49 : decode b_QC_init 49 = .ok (.dup, 1) := by decide +kernel
theorem d_QC_init_50 : decode b_QC_init 50 = .ok (.invokespecial 31, 3) := by decide +kernel
theorem d_QC_init_53 : decode b_QC_init 53 = .ok (.putfield 36, 3) := by decide +kernel
theorem d_QC_init_56 : decode b_QC_init 56 = .ok (.iconst 0, 1) := by decide +kernel
theorem d_QC_init_57 : decode b_QC_init 57 = .ok (.istore_n 2, 1) := by decide +kernel
theorem d_QC_init_58 : decode b_QC_init 58 = .ok (.iload_n 2, 1) := by decide +kernel
theorem d_QC_init_59 : decode b_QC_init 59 = .ok (.iconst 4, 1) := by decide +kernel
theorem d_QC_init_60 : decode b_QC_init 60 = .ok (.if_icmp .ge 24, 3) := by decide +kernel
theorem d_QC_init_63 : decode b_QC_init 63 = .ok (.aload_n 0, 1) := by decide +kernel
theorem d_QC_init_64 : decode b_QC_init 64 = .ok (.getfield 11, 3) := by decide +kernel
theorem d_QC_init_67 : decode b_QC_init 67 = .ok (.iload_n 2, 1) := by decide +kernel
theorem d_QC_init_68 : decode b_QC_init 68 = .ok (.new 9, 3) := by decide +kernel
theorem d_QC_init_71 : decode b_QC_init 71 = .ok (.dup, 1) := by decide +kernel
theorem d_QC_init_72 : decode b_QC_init 72 = .ok (.iload_n 1, 1) := by decide +kernel
theorem d_QC_init_73 : decode b_QC_init 73 = .ok (.iload_n 2, 1) := by decide +kernel
theorem d_QC_init_74 : decode b_QC_init 74 = .ok (.invokespecial 39, 3) := by decide +kernel
theorem d_QC_init_77 : decode b_QC_init 77 = .ok (.aastore, 1) := by decide +kernel
theorem d_QC_init_78 : decode b_QC_init 78 = .ok (.iinc 2 1, 3) := by decide +kernel
theorem d_QC_init_81 : decode b_QC_init 81 = .ok (.goto (-23), 3) := by decide +kernel
theorem d_QC_init_84 : decode b_QC_init 84 = .ok (.return_, 1) := by decide +kernel
theorem d_KeyTree_init_0 : decode b_KeyTree_init 0 = .ok (.aload_n 0, 1) := by decide +kernel
theorem d_KeyTree_init_1 : decode b_KeyTree_init 1 = .ok (.invokespecial 3, 3) := by decide +kernel
theorem d_KeyTree_init_4 : decode b_KeyTree_init 4 = .ok (.aload_n 0, 1) := by decide +kernel
theorem d_KeyTree_init_5 : decode b_KeyTree_init 5 = .ok (.bipush 64, 2) := by decide +kernel
theorem d_KeyTree_init_7 : decode b_KeyTree_init 7 = .ok (.newarray .long, 2) := by decide +kernel
theorem d_KeyTree_init_9 : decode b_KeyTree_init 9 = .ok (.putfield 9, 3) := by decide +kernel
theorem d_KeyTree_init_12 : decode b_KeyTree_init 12 = .ok (.aload_n 0, 1) := by decide +kernel
theorem d_KeyTree_init_13 : decode b_KeyTree_init 13 = .ok (.iload_n 1, 1) := by decide +kernel
theorem d_KeyTree_init_14 : decode b_KeyTree_init 14 = .ok (.putfield 15, 3) := by decide +kernel
theorem d_KeyTree_init_17 : decode b_KeyTree_init 17 = .ok (.aload_n 0, 1) := by decide +kernel
theorem d_KeyTree_init_18 : decode b_KeyTree_init 18 = .ok (.iload_n 2, 1) := by decide +kernel
theorem d_KeyTree_init_19 : decode b_KeyTree_init 19 = .ok (.putfield 19, 3) := by decide +kernel
theorem d_KeyTree_init_22 : decode b_KeyTree_init 22 = .ok (.iconst 0, 1) := by decide +kernel
theorem d_KeyTree_init_23 : decode b_KeyTree_init 23 = .ok (.istore_n 3, 1) := by decide +kernel
theorem d_KeyTree_init_24 : decode b_KeyTree_init 24 = .ok (.iload_n 3, 1) := by decide +kernel
theorem d_KeyTree_init_25 : decode b_KeyTree_init 25 = .ok (.bipush 32, 2) := by decide +kernel
theorem d_KeyTree_init_27 : decode b_KeyTree_init 27 = .ok (.if_icmp .ge 24, 3) := by decide +kernel
theorem d_KeyTree_init_30 : decode b_KeyTree_init 30 = .ok (.aload_n 0, 1) := by decide +kernel
theorem d_KeyTree_init_31 : decode b_KeyTree_init 31 = .ok (.getfield 9, 3) := by decide +kernel
theorem d_KeyTree_init_34 : decode b_KeyTree_init 34 = .ok (.bipush 32, 2) := by decide +kernel
theorem d_KeyTree_init_36 : decode b_KeyTree_init 36 = .ok (.iload_n 3, 1) := by decide +kernel
theorem d_KeyTree_init_37 : decode b_KeyTree_init 37 = .ok (.iadd, 1) := by decide +kernel
theorem d_KeyTree_init_38 : decode b_KeyTree_init 38 = .ok (.iload_n 1, 1) := by decide +kernel
theorem d_KeyTree_init_39 : decode b_KeyTree_init 39 = .ok (.iload_n 2, 1) := by decide +kernel
theorem d_KeyTree_init_40 : decode b_KeyTree_init 40 = .ok (.iload_n 3, 1) := by decide +kernel
theorem d_KeyTree_init_41 : decode b_KeyTree_init 41 = .ok (.invokestatic 22, 3) := by decide +kernel
theorem d_KeyTree_init_44 : decode b_KeyTree_init 44 = .ok (.lastore, 1) := by decide +kernel
theorem d_KeyTree_init_45 : decode b_KeyTree_init 45 = .ok (.iinc 3 1, 3) := by decide +kernel
theorem d_KeyTree_init_48 : decode b_KeyTree_init 48 = .ok (.goto (-24), 3) := by decide +kernel
theorem d_KeyTree_init_51 : decode b_KeyTree_init 51 = .ok (.bipush 31, 2) := by decide +kernel
theorem d_KeyTree_init_53 : decode b_KeyTree_init 53 = .ok (.istore_n 3, 1) := by decide +kernel
theorem d_KeyTree_init_54 : decode b_KeyTree_init 54 = .ok (.iload_n 3, 1) := by decide +kernel
theorem d_KeyTree_init_55 : decode b_KeyTree_init 55 = .ok (.ifCond .le 36, 3) := by decide +kernel
theorem d_KeyTree_init_58 : decode b_KeyTree_init 58 = .ok (.aload_n 0, 1) := by decide +kernel
theorem d_KeyTree_init_59 : decode b_KeyTree_init 59 = .ok (.getfield 9, 3) := by decide +kernel
theorem d_KeyTree_init_62 : decode b_KeyTree_init 62 = .ok (.iload_n 3, 1) := by decide +kernel
theorem d_KeyTree_init_63 : decode b_KeyTree_init 63 = .ok (.aload_n 0, 1) := by decide +kernel
theorem d_KeyTree_init_64 : decode b_KeyTree_init 64 = .ok (.getfield 9, 3) := by decide +kernel
theorem d_KeyTree_init_67 : decode b_KeyTree_init 67 = .ok (.iconst 2, 1) := by decide +kernel
theorem d_KeyTree_init_68 : decode b_KeyTree_init 68 = .ok (.iload_n 3, 1) := by decide +kernel
theorem d_KeyTree_init_69 : decode b_KeyTree_init 69 = .ok (.imul, 1) := by decide +kernel
theorem d_KeyTree_init_70 : decode b_KeyTree_init 70 = .ok (.laload, 1) := by decide +kernel
theorem d_KeyTree_init_71 : decode b_KeyTree_init 71 = .ok (.aload_n 0, 1) := by decide +kernel
theorem d_KeyTree_init_72 : decode b_KeyTree_init 72 = .ok (.getfield 9, 3) := by decide +kernel
theorem d_KeyTree_init_75 : decode b_KeyTree_init 75 = .ok (.iconst 2, 1) := by decide +kernel
theorem d_KeyTree_init_76 : decode b_KeyTree_init 76 = .ok (.iload_n 3, 1) := by decide +kernel
theorem d_KeyTree_init_77 : decode b_KeyTree_init 77 = .ok (.imul, 1) := by decide +kernel
theorem d_KeyTree_init_78 : decode b_KeyTree_init 78 = .ok (.iconst 1, 1) := by decide +kernel
theorem d_KeyTree_init_79 : decode b_KeyTree_init 79 = .ok (.iadd, 1) := by decide +kernel
theorem d_KeyTree_init_80 : decode b_KeyTree_init 80 = .ok (.laload, 1) := by decide +kernel
theorem d_KeyTree_init_81 : decode b_KeyTree_init 81 = .ok (.invokestatic 26, 3) := by decide +kernel
theorem d_KeyTree_init_84 : decode b_KeyTree_init 84 = .ok (.lastore, 1) := by decide +kernel
theorem d_KeyTree_init_85 : decode b_KeyTree_init 85 = .ok (.iinc 3 (-1), 3) := by decide +kernel
theorem d_KeyTree_init_88 : decode b_KeyTree_init 88 = .ok (.goto (-34), 3) := by decide +kernel
theorem d_KeyTree_init_91 : decode b_KeyTree_init 91 = .ok (.return_, 1) := by decide +kernel
