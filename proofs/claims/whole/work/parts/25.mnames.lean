/-! The reference: names. Written by wip/whole/make.py. -/
def R_M : String := "QuorumChainModel"
def F_M : u_T := fun k => match k with
  | 0 => ("QuorumChainModel", "seed", "J", true)
  | 1 => ("QuorumChainModel", "threw", "I", false)
  | 2 => ("QuorumChainModel", "clock", "I", false)
  | 3 => ("QuorumChainModel", "begun", "Z", false)
  | 4 => ("QuorumChainModel", "folded", "J", false)
  | 5 => ("QuorumChainModel", "tree", "[J", true)
  | 6 => ("QuorumChainModel", "transactions", "I", false)
  | 7 => ("QuorumChainModel", "from", "[I", true)
  | 8 => ("QuorumChainModel", "to", "[I", true)
  | 9 => ("QuorumChainModel", "amount", "[I", true)
  | 10 => ("QuorumChainModel", "nonce", "[I", true)
  | 11 => ("QuorumChainModel", "blocks", "I", false)
  | 12 => ("QuorumChainModel", "viewOf", "[I", true)
  | 13 => ("QuorumChainModel", "parent", "[I", true)
  | 14 => ("QuorumChainModel", "carried", "[I", true)
  | 15 => ("QuorumChainModel", "certified", "[Z", true)
  | 16 => ("QuorumChainModel", "up", "[Z", true)
  | 17 => ("QuorumChainModel", "view", "[I", true)
  | 18 => ("QuorumChainModel", "timer", "[I", true)
  | 19 => ("QuorumChainModel", "span", "[I", true)
  | 20 => ("QuorumChainModel", "high", "[I", true)
  | 21 => ("QuorumChainModel", "voted", "[I", true)
  | 22 => ("QuorumChainModel", "locked", "[I", true)
  | 23 => ("QuorumChainModel", "used", "[I", true)
  | 24 => ("QuorumChainModel", "has", "[Z", true)
  | 25 => ("QuorumChainModel", "votes", "[I", true)
  | 26 => ("QuorumChainModel", "timeouts", "[I", true)
  | 27 => ("QuorumChainModel", "pooled", "[I", true)
  | 28 => ("QuorumChainModel", "pool", "[I", true)
  | 29 => ("QuorumChainModel", "logged", "[I", true)
  | 30 => ("QuorumChainModel", "log", "[I", true)
  | 31 => ("QuorumChainModel", "money", "[I", true)
  | 32 => ("QuorumChainModel", "nonces", "[I", true)
  | 33 => ("QuorumChainModel", "flying", "[I", true)
  | 34 => ("QuorumChainModel", "kind", "[I", true)
  | 35 => ("QuorumChainModel", "sender", "[I", true)
  | 36 => ("QuorumChainModel", "block", "[I", true)
  | 37 => ("QuorumChainModel", "views", "[I", true)
  | 38 => ("QuorumChainModel", "keys", "[I", true)
  | 39 => ("QuorumChainModel", "longs", "[J", true)
  | 40 => ("QuorumChainModel", "key", "I", false)
  | 41 => ("QuorumChainModel", "sign", "[J", true)
  | _ => ("QuorumChainModel", "digits", "[I", true)
def t_M : Nat → FieldType := fun k => match k with
  | 0 => .long
  | 1 => .int
  | 2 => .int
  | 3 => .boolean
  | 4 => .long
  | 5 => .array .long
  | 6 => .int
  | 7 => .array .int
  | 8 => .array .int
  | 9 => .array .int
  | 10 => .array .int
  | 11 => .int
  | 12 => .array .int
  | 13 => .array .int
  | 14 => .array .int
  | 15 => .array .boolean
  | 16 => .array .boolean
  | 17 => .array .int
  | 18 => .array .int
  | 19 => .array .int
  | 20 => .array .int
  | 21 => .array .int
  | 22 => .array .int
  | 23 => .array .int
  | 24 => .array .boolean
  | 25 => .array .int
  | 26 => .array .int
  | 27 => .array .int
  | 28 => .array .int
  | 29 => .array .int
  | 30 => .array .int
  | 31 => .array .int
  | 32 => .array .int
  | 33 => .array .int
  | 34 => .array .int
  | 35 => .array .int
  | 36 => .array .int
  | 37 => .array .int
  | 38 => .array .int
  | 39 => .array .long
  | 40 => .int
  | 41 => .array .long
  | _ => .array .int
theorem nmo_M : ∀ a, a < 43 → ∀ b, b < 43 → a ≠ b → (F_M a).2.1 ≠ (F_M b).2.1 := by decide +kernel
theorem tyo_M : ∀ k, k < 43 → parseFieldDescriptor (F_M k).2.2.1 = some (t_M k) := by decide +kernel
theorem pn_M : plainName R_M = true := by decide +kernel
abbrev b_M_thrown : ByteArray := prog_13_method_2_code
def y_M_thrown : MethodName := ⟨R_M, "thrown", "()I"⟩
abbrev b_M_start : ByteArray := prog_13_method_3_code
def y_M_start : MethodName := ⟨R_M, "start", "()V"⟩
abbrev b_M_add : ByteArray := prog_13_method_4_code
def y_M_add : MethodName := ⟨R_M, "add", "(J)V"⟩
abbrev b_M_end : ByteArray := prog_13_method_5_code
def y_M_end : MethodName := ⟨R_M, "end", "()J"⟩
abbrev b_M_two : ByteArray := prog_13_method_6_code
def y_M_two : MethodName := ⟨R_M, "two", "(JJ)J"⟩
abbrev b_M_three : ByteArray := prog_13_method_7_code
def y_M_three : MethodName := ⟨R_M, "three", "(JJJ)J"⟩
abbrev b_M_secret : ByteArray := prog_13_method_8_code
def y_M_secret : MethodName := ⟨R_M, "secret", "(III)J"⟩
abbrev b_M_after : ByteArray := prog_13_method_9_code
def y_M_after : MethodName := ⟨R_M, "after", "(JI)J"⟩
abbrev b_M_leaf : ByteArray := prog_13_method_10_code
def y_M_leaf : MethodName := ⟨R_M, "leaf", "()J"⟩
abbrev b_M_digitsOf : ByteArray := prog_13_method_11_code
def y_M_digitsOf : MethodName := ⟨R_M, "digitsOf", "(J)V"⟩
abbrev b_M_signs : ByteArray := prog_13_method_12_code
def y_M_signs : MethodName := ⟨R_M, "signs", "(IJ)Z"⟩
abbrev b_M_good : ByteArray := prog_13_method_13_code
def y_M_good : MethodName := ⟨R_M, "good", "(IJ)Z"⟩
abbrev b_M_meant : ByteArray := prog_13_method_14_code
def y_M_meant : MethodName := ⟨R_M, "meant", "(III)J"⟩
abbrev b_M_send : ByteArray := prog_13_method_15_code
def y_M_send : MethodName := ⟨R_M, "send", "(IIIII)V"⟩
abbrev b_M_copyMessage : ByteArray := prog_13_method_17_code
def y_M_copyMessage : MethodName := ⟨R_M, "copyMessage", "(II)V"⟩
abbrev b_M_land : ByteArray := prog_13_method_16_code
def y_M_land : MethodName := ⟨R_M, "land", "(I)V"⟩
abbrev b_M_isNode : ByteArray := prog_13_method_18_code
def y_M_isNode : MethodName := ⟨R_M, "isNode", "(I)Z"⟩
abbrev b_M_isBlock : ByteArray := prog_13_method_19_code
def y_M_isBlock : MethodName := ⟨R_M, "isBlock", "(I)Z"⟩
abbrev b_M_isTransaction : ByteArray := prog_13_method_20_code
def y_M_isTransaction : MethodName := ⟨R_M, "isTransaction", "(I)Z"⟩
abbrev b_M_leader : ByteArray := prog_13_method_21_code
def y_M_leader : MethodName := ⟨R_M, "leader", "(I)I"⟩
abbrev b_M_below : ByteArray := prog_13_method_22_code
def y_M_below : MethodName := ⟨R_M, "below", "(II)Z"⟩
abbrev b_M_inChain : ByteArray := prog_13_method_23_code
def y_M_inChain : MethodName := ⟨R_M, "inChain", "(II)Z"⟩
abbrev b_M_newBlock : ByteArray := prog_13_method_24_code
def y_M_newBlock : MethodName := ⟨R_M, "newBlock", "(IIII)I"⟩
abbrev b_M_enter : ByteArray := prog_13_method_25_code
def y_M_enter : MethodName := ⟨R_M, "enter", "(II)V"⟩
abbrev b_M_propose : ByteArray := prog_13_method_26_code
def y_M_propose : MethodName := ⟨R_M, "propose", "(I)V"⟩
abbrev b_M_carryOut : ByteArray := prog_13_method_27_code
def y_M_carryOut : MethodName := ⟨R_M, "carryOut", "(II)V"⟩
abbrev b_M_commit : ByteArray := prog_13_method_28_code
def y_M_commit : MethodName := ⟨R_M, "commit", "(II)V"⟩
abbrev b_M_takes : ByteArray := prog_13_method_29_code
def y_M_takes : MethodName := ⟨R_M, "takes", "(II)V"⟩
abbrev b_M_proposal : ByteArray := prog_13_method_30_code
def y_M_proposal : MethodName := ⟨R_M, "proposal", "(III)V"⟩
abbrev b_M_bits : ByteArray := prog_13_method_31_code
def y_M_bits : MethodName := ⟨R_M, "bits", "(I)I"⟩
abbrev b_M_vote : ByteArray := prog_13_method_32_code
def y_M_vote : MethodName := ⟨R_M, "vote", "(III)V"⟩
abbrev b_M_timeout : ByteArray := prog_13_method_33_code
def y_M_timeout : MethodName := ⟨R_M, "timeout", "(IIII)V"⟩
abbrev b_M_comes : ByteArray := prog_13_method_34_code
def y_M_comes : MethodName := ⟨R_M, "comes", "(III)V"⟩
abbrev b_M_deliver : ByteArray := prog_13_method_35_code
def y_M_deliver : MethodName := ⟨R_M, "deliver", "(I)I"⟩
abbrev b_M_transaction : ByteArray := prog_13_method_36_code
def y_M_transaction : MethodName := ⟨R_M, "transaction", "(IIII)I"⟩
abbrev b_M_submit : ByteArray := prog_13_method_37_code
def y_M_submit : MethodName := ⟨R_M, "submit", "(II)Z"⟩
abbrev b_M_begin : ByteArray := prog_13_method_38_code
def y_M_begin : MethodName := ⟨R_M, "begin", "()Z"⟩
abbrev b_M_disturb : ByteArray := prog_13_method_39_code
def y_M_disturb : MethodName := ⟨R_M, "disturb", "(II)Z"⟩
abbrev b_M_alter : ByteArray := prog_13_method_40_code
def y_M_alter : MethodName := ⟨R_M, "alter", "(IIJ)Z"⟩
abbrev b_M_lie : ByteArray := prog_13_method_41_code
def y_M_lie : MethodName := ⟨R_M, "lie", "(IIII)I"⟩
abbrev b_M_lieVote : ByteArray := prog_13_method_42_code
def y_M_lieVote : MethodName := ⟨R_M, "lieVote", "(II)Z"⟩
abbrev b_M_beats : ByteArray := prog_13_method_43_code
def y_M_beats : MethodName := ⟨R_M, "beats", "(I)V"⟩
abbrev b_M_tick : ByteArray := prog_13_method_44_code
def y_M_tick : MethodName := ⟨R_M, "tick", "()I"⟩
abbrev b_M_crash : ByteArray := prog_13_method_45_code
def y_M_crash : MethodName := ⟨R_M, "crash", "(I)Z"⟩
abbrev b_M_restart : ByteArray := prog_13_method_46_code
def y_M_restart : MethodName := ⟨R_M, "restart", "(I)Z"⟩
abbrev b_M_hasAll : ByteArray := prog_13_method_48_code
def y_M_hasAll : MethodName := ⟨R_M, "hasAll", "(I)I"⟩
abbrev b_M_node : ByteArray := prog_13_method_47_code
def y_M_node : MethodName := ⟨R_M, "node", "(II)I"⟩
abbrev b_M_log : ByteArray := prog_13_method_49_code
def y_M_log : MethodName := ⟨R_M, "log", "(II)I"⟩
abbrev b_M_account : ByteArray := prog_13_method_50_code
def y_M_account : MethodName := ⟨R_M, "account", "(III)I"⟩
abbrev b_M_block : ByteArray := prog_13_method_51_code
def y_M_block : MethodName := ⟨R_M, "block", "(II)I"⟩
abbrev b_M_message : ByteArray := prog_13_method_52_code
def y_M_message : MethodName := ⟨R_M, "message", "(III)I"⟩
abbrev b_M_root : ByteArray := prog_13_method_53_code
def y_M_root : MethodName := ⟨R_M, "root", "(I)J"⟩
abbrev b_M_about : ByteArray := prog_13_method_54_code
def y_M_about : MethodName := ⟨R_M, "about", "(I)I"⟩
theorem gw_20 : Cond.selects "QuorumChainModel" (⟨"QuorumChainModel", "secret", "(III)J"⟩ : MethodName) (⟨"QuorumChainModel", "secret", "(III)J"⟩ : MethodName) ∈ GG := GG_in (i := 20) (by decide +kernel) (by decide +kernel)
theorem gw_21 : Cond.selects "QuorumChainModel" (⟨"QuorumChainModel", "start", "()V"⟩ : MethodName) (⟨"QuorumChainModel", "start", "()V"⟩ : MethodName) ∈ GG := GG_in (i := 21) (by decide +kernel) (by decide +kernel)
theorem gw_22 : Cond.selects "QuorumChainModel" (⟨"QuorumChainModel", "add", "(J)V"⟩ : MethodName) (⟨"QuorumChainModel", "add", "(J)V"⟩ : MethodName) ∈ GG := GG_in (i := 22) (by decide +kernel) (by decide +kernel)
theorem gw_23 : Cond.selects "QuorumChainModel" (⟨"QuorumChainModel", "end", "()J"⟩ : MethodName) (⟨"QuorumChainModel", "end", "()J"⟩ : MethodName) ∈ GG := GG_in (i := 23) (by decide +kernel) (by decide +kernel)
theorem gw_24 : Cond.selects "QuorumChainModel" (⟨"QuorumChainModel", "after", "(JI)J"⟩ : MethodName) (⟨"QuorumChainModel", "after", "(JI)J"⟩ : MethodName) ∈ GG := GG_in (i := 24) (by decide +kernel) (by decide +kernel)
theorem gw_25 : Cond.selects "QuorumChainModel" (⟨"QuorumChainModel", "two", "(JJ)J"⟩ : MethodName) (⟨"QuorumChainModel", "two", "(JJ)J"⟩ : MethodName) ∈ GG := GG_in (i := 25) (by decide +kernel) (by decide +kernel)
theorem gw_26 : Cond.selects "QuorumChainModel" (⟨"QuorumChainModel", "leaf", "()J"⟩ : MethodName) (⟨"QuorumChainModel", "leaf", "()J"⟩ : MethodName) ∈ GG := GG_in (i := 26) (by decide +kernel) (by decide +kernel)
theorem gw_27 : Cond.selects "QuorumChainModel" (⟨"QuorumChainModel", "land", "(I)V"⟩ : MethodName) (⟨"QuorumChainModel", "land", "(I)V"⟩ : MethodName) ∈ GG := GG_in (i := 27) (by decide +kernel) (by decide +kernel)
theorem gw_28 : Cond.selects "QuorumChainModel" (⟨"QuorumChainModel", "copyMessage", "(II)V"⟩ : MethodName) (⟨"QuorumChainModel", "copyMessage", "(II)V"⟩ : MethodName) ∈ GG := GG_in (i := 28) (by decide +kernel) (by decide +kernel)
theorem gw_29 : Cond.selects "QuorumChainModel" (⟨"QuorumChainModel", "send", "(IIIII)V"⟩ : MethodName) (⟨"QuorumChainModel", "send", "(IIIII)V"⟩ : MethodName) ∈ GG := GG_in (i := 29) (by decide +kernel) (by decide +kernel)
theorem gw_30 : Cond.selects "QuorumChainModel" (⟨"QuorumChainModel", "comes", "(III)V"⟩ : MethodName) (⟨"QuorumChainModel", "comes", "(III)V"⟩ : MethodName) ∈ GG := GG_in (i := 30) (by decide +kernel) (by decide +kernel)
theorem gw_31 : Cond.selects "QuorumChainModel" (⟨"QuorumChainModel", "meant", "(III)J"⟩ : MethodName) (⟨"QuorumChainModel", "meant", "(III)J"⟩ : MethodName) ∈ GG := GG_in (i := 31) (by decide +kernel) (by decide +kernel)
theorem gw_32 : Cond.selects "QuorumChainModel" (⟨"QuorumChainModel", "three", "(JJJ)J"⟩ : MethodName) (⟨"QuorumChainModel", "three", "(JJJ)J"⟩ : MethodName) ∈ GG := GG_in (i := 32) (by decide +kernel) (by decide +kernel)
theorem gw_33 : Cond.selects "QuorumChainModel" (⟨"QuorumChainModel", "good", "(IJ)Z"⟩ : MethodName) (⟨"QuorumChainModel", "good", "(IJ)Z"⟩ : MethodName) ∈ GG := GG_in (i := 33) (by decide +kernel) (by decide +kernel)
theorem gw_34 : Cond.selects "QuorumChainModel" (⟨"QuorumChainModel", "digitsOf", "(J)V"⟩ : MethodName) (⟨"QuorumChainModel", "digitsOf", "(J)V"⟩ : MethodName) ∈ GG := GG_in (i := 34) (by decide +kernel) (by decide +kernel)
theorem gw_35 : Cond.selects "QuorumChainModel" (⟨"QuorumChainModel", "proposal", "(III)V"⟩ : MethodName) (⟨"QuorumChainModel", "proposal", "(III)V"⟩ : MethodName) ∈ GG := GG_in (i := 35) (by decide +kernel) (by decide +kernel)
theorem gw_36 : Cond.selects "QuorumChainModel" (⟨"QuorumChainModel", "takes", "(II)V"⟩ : MethodName) (⟨"QuorumChainModel", "takes", "(II)V"⟩ : MethodName) ∈ GG := GG_in (i := 36) (by decide +kernel) (by decide +kernel)
theorem gw_37 : Cond.selects "QuorumChainModel" (⟨"QuorumChainModel", "commit", "(II)V"⟩ : MethodName) (⟨"QuorumChainModel", "commit", "(II)V"⟩ : MethodName) ∈ GG := GG_in (i := 37) (by decide +kernel) (by decide +kernel)
theorem gw_38 : Cond.selects "QuorumChainModel" (⟨"QuorumChainModel", "below", "(II)Z"⟩ : MethodName) (⟨"QuorumChainModel", "below", "(II)Z"⟩ : MethodName) ∈ GG := GG_in (i := 38) (by decide +kernel) (by decide +kernel)
theorem gw_39 : Cond.selects "QuorumChainModel" (⟨"QuorumChainModel", "carryOut", "(II)V"⟩ : MethodName) (⟨"QuorumChainModel", "carryOut", "(II)V"⟩ : MethodName) ∈ GG := GG_in (i := 39) (by decide +kernel) (by decide +kernel)
theorem gw_40 : Cond.selects "QuorumChainModel" (⟨"QuorumChainModel", "enter", "(II)V"⟩ : MethodName) (⟨"QuorumChainModel", "enter", "(II)V"⟩ : MethodName) ∈ GG := GG_in (i := 40) (by decide +kernel) (by decide +kernel)
theorem gw_41 : Cond.selects "QuorumChainModel" (⟨"QuorumChainModel", "signs", "(IJ)Z"⟩ : MethodName) (⟨"QuorumChainModel", "signs", "(IJ)Z"⟩ : MethodName) ∈ GG := GG_in (i := 41) (by decide +kernel) (by decide +kernel)
theorem gw_42 : Cond.selects "QuorumChainModel" (⟨"QuorumChainModel", "vote", "(III)V"⟩ : MethodName) (⟨"QuorumChainModel", "vote", "(III)V"⟩ : MethodName) ∈ GG := GG_in (i := 42) (by decide +kernel) (by decide +kernel)
theorem gw_43 : Cond.selects "QuorumChainModel" (⟨"QuorumChainModel", "propose", "(I)V"⟩ : MethodName) (⟨"QuorumChainModel", "propose", "(I)V"⟩ : MethodName) ∈ GG := GG_in (i := 43) (by decide +kernel) (by decide +kernel)
theorem gw_44 : Cond.selects "QuorumChainModel" (⟨"QuorumChainModel", "inChain", "(II)Z"⟩ : MethodName) (⟨"QuorumChainModel", "inChain", "(II)Z"⟩ : MethodName) ∈ GG := GG_in (i := 44) (by decide +kernel) (by decide +kernel)
theorem gw_45 : Cond.selects "QuorumChainModel" (⟨"QuorumChainModel", "newBlock", "(IIII)I"⟩ : MethodName) (⟨"QuorumChainModel", "newBlock", "(IIII)I"⟩ : MethodName) ∈ GG := GG_in (i := 45) (by decide +kernel) (by decide +kernel)
theorem gw_46 : Cond.selects "QuorumChainModel" (⟨"QuorumChainModel", "timeout", "(IIII)V"⟩ : MethodName) (⟨"QuorumChainModel", "timeout", "(IIII)V"⟩ : MethodName) ∈ GG := GG_in (i := 46) (by decide +kernel) (by decide +kernel)
theorem gw_47 : Cond.selects "QuorumChainModel" (⟨"QuorumChainModel", "isTransaction", "(I)Z"⟩ : MethodName) (⟨"QuorumChainModel", "isTransaction", "(I)Z"⟩ : MethodName) ∈ GG := GG_in (i := 47) (by decide +kernel) (by decide +kernel)
theorem gw_48 : Cond.selects "QuorumChainModel" (⟨"QuorumChainModel", "isBlock", "(I)Z"⟩ : MethodName) (⟨"QuorumChainModel", "isBlock", "(I)Z"⟩ : MethodName) ∈ GG := GG_in (i := 48) (by decide +kernel) (by decide +kernel)
theorem gw_49 : Cond.selects "QuorumChainModel" (⟨"QuorumChainModel", "beats", "(I)V"⟩ : MethodName) (⟨"QuorumChainModel", "beats", "(I)V"⟩ : MethodName) ∈ GG := GG_in (i := 49) (by decide +kernel) (by decide +kernel)
theorem gw_50 : Cond.selects "QuorumChainModel" (⟨"QuorumChainModel", "hasAll", "(I)I"⟩ : MethodName) (⟨"QuorumChainModel", "hasAll", "(I)I"⟩ : MethodName) ∈ GG := GG_in (i := 50) (by decide +kernel) (by decide +kernel)
theorem gw_63 : (Jvm.Cond.initialized "QuorumChainModel") ∈ GG := GG_in (i := 63) (by decide +kernel) (by decide +kernel)
theorem gw_852 : (Jvm.Cond.methodLink "QuorumChainModel" (125 : Nat) ({ cls := "QuorumChainModel", name := "secret", desc := "(III)J" } : Jvm.MethodName)) ∈ GG := GG_in (i := 852) (by decide +kernel) (by decide +kernel)
theorem gw_854 : (Jvm.Cond.instanceMethod ({ cls := "QuorumChainModel", name := "secret", desc := "(III)J" } : Jvm.MethodName)) ∈ GG := GG_in (i := 854) (by decide +kernel) (by decide +kernel)
theorem gw_855 : (Jvm.Cond.code ({ cls := "QuorumChainModel", name := "secret", desc := "(III)J" } : Jvm.MethodName) prog_13_method_8_code (4 : Nat) (Option.some Jvm.ClassFile.FieldType.long)) ∈ GG := GG_in (i := 855) (by decide +kernel) (by decide +kernel)
theorem gw_856 : (Jvm.Cond.methodLink "QuorumChainModel" (153 : Nat) ({ cls := "QuorumChainModel", name := "start", desc := "()V" } : Jvm.MethodName)) ∈ GG := GG_in (i := 856) (by decide +kernel) (by decide +kernel)
theorem gw_858 : (Jvm.Cond.instanceMethod ({ cls := "QuorumChainModel", name := "start", desc := "()V" } : Jvm.MethodName)) ∈ GG := GG_in (i := 858) (by decide +kernel) (by decide +kernel)
theorem gw_859 : (Jvm.Cond.code ({ cls := "QuorumChainModel", name := "start", desc := "()V" } : Jvm.MethodName) prog_13_method_3_code (1 : Nat) (Option.none : Option Jvm.ClassFile.FieldType)) ∈ GG := GG_in (i := 859) (by decide +kernel) (by decide +kernel)
theorem gw_860 : (Jvm.Cond.constantLong "QuorumChainModel" (144 : Nat) (-7046029254386353131 : Int64)) ∈ GG := GG_in (i := 860) (by decide +kernel) (by decide +kernel)
theorem gw_861 : (Jvm.Cond.methodLink "QuorumChainModel" (156 : Nat) ({ cls := "QuorumChainModel", name := "add", desc := "(J)V" } : Jvm.MethodName)) ∈ GG := GG_in (i := 861) (by decide +kernel) (by decide +kernel)
theorem gw_863 : (Jvm.Cond.instanceMethod ({ cls := "QuorumChainModel", name := "add", desc := "(J)V" } : Jvm.MethodName)) ∈ GG := GG_in (i := 863) (by decide +kernel) (by decide +kernel)
theorem gw_864 : (Jvm.Cond.code ({ cls := "QuorumChainModel", name := "add", desc := "(J)V" } : Jvm.MethodName) prog_13_method_4_code (3 : Nat) (Option.none : Option Jvm.ClassFile.FieldType)) ∈ GG := GG_in (i := 864) (by decide +kernel) (by decide +kernel)
theorem gw_865 : (Jvm.Cond.constantLong "QuorumChainModel" (149 : Nat) (-4417276706812531889 : Int64)) ∈ GG := GG_in (i := 865) (by decide +kernel) (by decide +kernel)
theorem gw_866 : (Jvm.Cond.methodLink "QuorumChainModel" (160 : Nat) ({ cls := "QuorumChainModel", name := "end", desc := "()J" } : Jvm.MethodName)) ∈ GG := GG_in (i := 866) (by decide +kernel) (by decide +kernel)
theorem gw_868 : (Jvm.Cond.instanceMethod ({ cls := "QuorumChainModel", name := "end", desc := "()J" } : Jvm.MethodName)) ∈ GG := GG_in (i := 868) (by decide +kernel) (by decide +kernel)
theorem gw_869 : (Jvm.Cond.code ({ cls := "QuorumChainModel", name := "end", desc := "()J" } : Jvm.MethodName) prog_13_method_5_code (3 : Nat) (Option.some Jvm.ClassFile.FieldType.long)) ∈ GG := GG_in (i := 869) (by decide +kernel) (by decide +kernel)
theorem gw_870 : (Jvm.Cond.constantLong "QuorumChainModel" (151 : Nat) (1609587929392839161 : Int64)) ∈ GG := GG_in (i := 870) (by decide +kernel) (by decide +kernel)
theorem gw_871 : (Jvm.Cond.methodLink "QuorumChainModel" (129 : Nat) ({ cls := "QuorumChainModel", name := "after", desc := "(JI)J" } : Jvm.MethodName)) ∈ GG := GG_in (i := 871) (by decide +kernel) (by decide +kernel)
theorem gw_873 : (Jvm.Cond.instanceMethod ({ cls := "QuorumChainModel", name := "after", desc := "(JI)J" } : Jvm.MethodName)) ∈ GG := GG_in (i := 873) (by decide +kernel) (by decide +kernel)
theorem gw_874 : (Jvm.Cond.code ({ cls := "QuorumChainModel", name := "after", desc := "(JI)J" } : Jvm.MethodName) prog_13_method_9_code (7 : Nat) (Option.some Jvm.ClassFile.FieldType.long)) ∈ GG := GG_in (i := 874) (by decide +kernel) (by decide +kernel)
theorem gw_875 : (Jvm.Cond.constantLong "QuorumChainModel" (163 : Nat) (77 : Int64)) ∈ GG := GG_in (i := 875) (by decide +kernel) (by decide +kernel)
theorem gw_876 : (Jvm.Cond.methodLink "QuorumChainModel" (137 : Nat) ({ cls := "QuorumChainModel", name := "two", desc := "(JJ)J" } : Jvm.MethodName)) ∈ GG := GG_in (i := 876) (by decide +kernel) (by decide +kernel)
theorem gw_878 : (Jvm.Cond.instanceMethod ({ cls := "QuorumChainModel", name := "two", desc := "(JJ)J" } : Jvm.MethodName)) ∈ GG := GG_in (i := 878) (by decide +kernel) (by decide +kernel)
theorem gw_879 : (Jvm.Cond.code ({ cls := "QuorumChainModel", name := "two", desc := "(JJ)J" } : Jvm.MethodName) prog_13_method_6_code (5 : Nat) (Option.some Jvm.ClassFile.FieldType.long)) ∈ GG := GG_in (i := 879) (by decide +kernel) (by decide +kernel)
theorem gw_880 : (Jvm.Cond.methodLink "QuorumChainModel" (133 : Nat) ({ cls := "QuorumChainModel", name := "leaf", desc := "()J" } : Jvm.MethodName)) ∈ GG := GG_in (i := 880) (by decide +kernel) (by decide +kernel)
theorem gw_882 : (Jvm.Cond.instanceMethod ({ cls := "QuorumChainModel", name := "leaf", desc := "()J" } : Jvm.MethodName)) ∈ GG := GG_in (i := 882) (by decide +kernel) (by decide +kernel)
theorem gw_883 : (Jvm.Cond.code ({ cls := "QuorumChainModel", name := "leaf", desc := "()J" } : Jvm.MethodName) prog_13_method_10_code (2 : Nat) (Option.some Jvm.ClassFile.FieldType.long)) ∈ GG := GG_in (i := 883) (by decide +kernel) (by decide +kernel)
theorem gw_884 : (Jvm.Cond.fieldLink "QuorumChainModel" (121 : Nat) "QuorumChainModel" "seed" "J") ∈ GG := GG_in (i := 884) (by decide +kernel) (by decide +kernel)
theorem gw_885 : (Jvm.Cond.fieldLink "QuorumChainModel" (141 : Nat) "QuorumChainModel" "threw" "I") ∈ GG := GG_in (i := 885) (by decide +kernel) (by decide +kernel)
theorem gw_886 : (Jvm.Cond.fieldLink "QuorumChainModel" (265 : Nat) "QuorumChainModel" "clock" "I") ∈ GG := GG_in (i := 886) (by decide +kernel) (by decide +kernel)
theorem gw_887 : (Jvm.Cond.fieldLink "QuorumChainModel" (258 : Nat) "QuorumChainModel" "begun" "Z") ∈ GG := GG_in (i := 887) (by decide +kernel) (by decide +kernel)
theorem gw_888 : (Jvm.Cond.fieldLink "QuorumChainModel" (146 : Nat) "QuorumChainModel" "folded" "J") ∈ GG := GG_in (i := 888) (by decide +kernel) (by decide +kernel)
theorem gw_889 : (Jvm.Cond.fieldLink "QuorumChainModel" (7 : Nat) "QuorumChainModel" "tree" "[J") ∈ GG := GG_in (i := 889) (by decide +kernel) (by decide +kernel)
theorem gw_890 : (Jvm.Cond.fieldLink "QuorumChainModel" (183 : Nat) "QuorumChainModel" "transactions" "I") ∈ GG := GG_in (i := 890) (by decide +kernel) (by decide +kernel)
theorem gw_891 : (Jvm.Cond.fieldLink "QuorumChainModel" (13 : Nat) "QuorumChainModel" "from" "[I") ∈ GG := GG_in (i := 891) (by decide +kernel) (by decide +kernel)
theorem gw_892 : (Jvm.Cond.fieldLink "QuorumChainModel" (17 : Nat) "QuorumChainModel" "to" "[I") ∈ GG := GG_in (i := 892) (by decide +kernel) (by decide +kernel)
theorem gw_893 : (Jvm.Cond.fieldLink "QuorumChainModel" (20 : Nat) "QuorumChainModel" "amount" "[I") ∈ GG := GG_in (i := 893) (by decide +kernel) (by decide +kernel)
theorem gw_894 : (Jvm.Cond.fieldLink "QuorumChainModel" (23 : Nat) "QuorumChainModel" "nonce" "[I") ∈ GG := GG_in (i := 894) (by decide +kernel) (by decide +kernel)
theorem gw_895 : (Jvm.Cond.fieldLink "QuorumChainModel" (26 : Nat) "QuorumChainModel" "blocks" "I") ∈ GG := GG_in (i := 895) (by decide +kernel) (by decide +kernel)
theorem gw_896 : (Jvm.Cond.fieldLink "QuorumChainModel" (30 : Nat) "QuorumChainModel" "viewOf" "[I") ∈ GG := GG_in (i := 896) (by decide +kernel) (by decide +kernel)
theorem gw_897 : (Jvm.Cond.fieldLink "QuorumChainModel" (33 : Nat) "QuorumChainModel" "parent" "[I") ∈ GG := GG_in (i := 897) (by decide +kernel) (by decide +kernel)
theorem gw_898 : (Jvm.Cond.fieldLink "QuorumChainModel" (36 : Nat) "QuorumChainModel" "carried" "[I") ∈ GG := GG_in (i := 898) (by decide +kernel) (by decide +kernel)
theorem gw_899 : (Jvm.Cond.fieldLink "QuorumChainModel" (39 : Nat) "QuorumChainModel" "certified" "[Z") ∈ GG := GG_in (i := 899) (by decide +kernel) (by decide +kernel)
theorem gw_900 : (Jvm.Cond.fieldLink "QuorumChainModel" (43 : Nat) "QuorumChainModel" "up" "[Z") ∈ GG := GG_in (i := 900) (by decide +kernel) (by decide +kernel)
theorem gw_901 : (Jvm.Cond.fieldLink "QuorumChainModel" (46 : Nat) "QuorumChainModel" "view" "[I") ∈ GG := GG_in (i := 901) (by decide +kernel) (by decide +kernel)
theorem gw_902 : (Jvm.Cond.fieldLink "QuorumChainModel" (49 : Nat) "QuorumChainModel" "timer" "[I") ∈ GG := GG_in (i := 902) (by decide +kernel) (by decide +kernel)
theorem gw_903 : (Jvm.Cond.fieldLink "QuorumChainModel" (52 : Nat) "QuorumChainModel" "span" "[I") ∈ GG := GG_in (i := 903) (by decide +kernel) (by decide +kernel)
theorem gw_904 : (Jvm.Cond.fieldLink "QuorumChainModel" (55 : Nat) "QuorumChainModel" "high" "[I") ∈ GG := GG_in (i := 904) (by decide +kernel) (by decide +kernel)
theorem gw_905 : (Jvm.Cond.fieldLink "QuorumChainModel" (58 : Nat) "QuorumChainModel" "voted" "[I") ∈ GG := GG_in (i := 905) (by decide +kernel) (by decide +kernel)
theorem gw_906 : (Jvm.Cond.fieldLink "QuorumChainModel" (61 : Nat) "QuorumChainModel" "locked" "[I") ∈ GG := GG_in (i := 906) (by decide +kernel) (by decide +kernel)
theorem gw_907 : (Jvm.Cond.fieldLink "QuorumChainModel" (64 : Nat) "QuorumChainModel" "used" "[I") ∈ GG := GG_in (i := 907) (by decide +kernel) (by decide +kernel)
theorem gw_908 : (Jvm.Cond.fieldLink "QuorumChainModel" (67 : Nat) "QuorumChainModel" "has" "[Z") ∈ GG := GG_in (i := 908) (by decide +kernel) (by decide +kernel)
theorem gw_909 : (Jvm.Cond.fieldLink "QuorumChainModel" (70 : Nat) "QuorumChainModel" "votes" "[I") ∈ GG := GG_in (i := 909) (by decide +kernel) (by decide +kernel)
theorem gw_910 : (Jvm.Cond.fieldLink "QuorumChainModel" (73 : Nat) "QuorumChainModel" "timeouts" "[I") ∈ GG := GG_in (i := 910) (by decide +kernel) (by decide +kernel)
theorem gw_911 : (Jvm.Cond.fieldLink "QuorumChainModel" (76 : Nat) "QuorumChainModel" "pooled" "[I") ∈ GG := GG_in (i := 911) (by decide +kernel) (by decide +kernel)
theorem gw_912 : (Jvm.Cond.fieldLink "QuorumChainModel" (79 : Nat) "QuorumChainModel" "pool" "[I") ∈ GG := GG_in (i := 912) (by decide +kernel) (by decide +kernel)
theorem gw_913 : (Jvm.Cond.fieldLink "QuorumChainModel" (82 : Nat) "QuorumChainModel" "logged" "[I") ∈ GG := GG_in (i := 913) (by decide +kernel) (by decide +kernel)
theorem gw_914 : (Jvm.Cond.fieldLink "QuorumChainModel" (85 : Nat) "QuorumChainModel" "log" "[I") ∈ GG := GG_in (i := 914) (by decide +kernel) (by decide +kernel)
theorem gw_915 : (Jvm.Cond.fieldLink "QuorumChainModel" (88 : Nat) "QuorumChainModel" "money" "[I") ∈ GG := GG_in (i := 915) (by decide +kernel) (by decide +kernel)
theorem gw_916 : (Jvm.Cond.fieldLink "QuorumChainModel" (91 : Nat) "QuorumChainModel" "nonces" "[I") ∈ GG := GG_in (i := 916) (by decide +kernel) (by decide +kernel)
theorem gw_917 : (Jvm.Cond.fieldLink "QuorumChainModel" (94 : Nat) "QuorumChainModel" "flying" "[I") ∈ GG := GG_in (i := 917) (by decide +kernel) (by decide +kernel)
theorem gw_918 : (Jvm.Cond.fieldLink "QuorumChainModel" (97 : Nat) "QuorumChainModel" "kind" "[I") ∈ GG := GG_in (i := 918) (by decide +kernel) (by decide +kernel)
theorem gw_919 : (Jvm.Cond.fieldLink "QuorumChainModel" (100 : Nat) "QuorumChainModel" "sender" "[I") ∈ GG := GG_in (i := 919) (by decide +kernel) (by decide +kernel)
theorem gw_920 : (Jvm.Cond.fieldLink "QuorumChainModel" (103 : Nat) "QuorumChainModel" "block" "[I") ∈ GG := GG_in (i := 920) (by decide +kernel) (by decide +kernel)
theorem gw_921 : (Jvm.Cond.fieldLink "QuorumChainModel" (106 : Nat) "QuorumChainModel" "views" "[I") ∈ GG := GG_in (i := 921) (by decide +kernel) (by decide +kernel)
theorem gw_922 : (Jvm.Cond.fieldLink "QuorumChainModel" (109 : Nat) "QuorumChainModel" "keys" "[I") ∈ GG := GG_in (i := 922) (by decide +kernel) (by decide +kernel)
theorem gw_923 : (Jvm.Cond.fieldLink "QuorumChainModel" (112 : Nat) "QuorumChainModel" "longs" "[J") ∈ GG := GG_in (i := 923) (by decide +kernel) (by decide +kernel)
theorem gw_924 : (Jvm.Cond.fieldLink "QuorumChainModel" (167 : Nat) "QuorumChainModel" "key" "I") ∈ GG := GG_in (i := 924) (by decide +kernel) (by decide +kernel)
theorem gw_925 : (Jvm.Cond.fieldLink "QuorumChainModel" (115 : Nat) "QuorumChainModel" "sign" "[J") ∈ GG := GG_in (i := 925) (by decide +kernel) (by decide +kernel)
theorem gw_926 : (Jvm.Cond.fieldLink "QuorumChainModel" (118 : Nat) "QuorumChainModel" "digits" "[I") ∈ GG := GG_in (i := 926) (by decide +kernel) (by decide +kernel)
theorem gw_927 : (Jvm.Cond.laysFinal "QuorumChainModel" "QuorumChainModel" "seed" "J") ∈ GG := GG_in (i := 927) (by decide +kernel) (by decide +kernel)
theorem gw_929 : (Jvm.Cond.lays "QuorumChainModel" "QuorumChainModel" "threw" "I") ∈ GG := GG_in (i := 929) (by decide +kernel) (by decide +kernel)
theorem gw_931 : (Jvm.Cond.lays "QuorumChainModel" "QuorumChainModel" "clock" "I") ∈ GG := GG_in (i := 931) (by decide +kernel) (by decide +kernel)
theorem gw_933 : (Jvm.Cond.lays "QuorumChainModel" "QuorumChainModel" "begun" "Z") ∈ GG := GG_in (i := 933) (by decide +kernel) (by decide +kernel)
theorem gw_935 : (Jvm.Cond.lays "QuorumChainModel" "QuorumChainModel" "folded" "J") ∈ GG := GG_in (i := 935) (by decide +kernel) (by decide +kernel)
theorem gw_937 : (Jvm.Cond.laysFinal "QuorumChainModel" "QuorumChainModel" "tree" "[J") ∈ GG := GG_in (i := 937) (by decide +kernel) (by decide +kernel)
theorem gw_939 : (Jvm.Cond.lays "QuorumChainModel" "QuorumChainModel" "transactions" "I") ∈ GG := GG_in (i := 939) (by decide +kernel) (by decide +kernel)
theorem gw_941 : (Jvm.Cond.laysFinal "QuorumChainModel" "QuorumChainModel" "from" "[I") ∈ GG := GG_in (i := 941) (by decide +kernel) (by decide +kernel)
theorem gw_943 : (Jvm.Cond.laysFinal "QuorumChainModel" "QuorumChainModel" "to" "[I") ∈ GG := GG_in (i := 943) (by decide +kernel) (by decide +kernel)
theorem gw_945 : (Jvm.Cond.laysFinal "QuorumChainModel" "QuorumChainModel" "amount" "[I") ∈ GG := GG_in (i := 945) (by decide +kernel) (by decide +kernel)
theorem gw_947 : (Jvm.Cond.laysFinal "QuorumChainModel" "QuorumChainModel" "nonce" "[I") ∈ GG := GG_in (i := 947) (by decide +kernel) (by decide +kernel)
theorem gw_949 : (Jvm.Cond.lays "QuorumChainModel" "QuorumChainModel" "blocks" "I") ∈ GG := GG_in (i := 949) (by decide +kernel) (by decide +kernel)
theorem gw_951 : (Jvm.Cond.laysFinal "QuorumChainModel" "QuorumChainModel" "viewOf" "[I") ∈ GG := GG_in (i := 951) (by decide +kernel) (by decide +kernel)
theorem gw_953 : (Jvm.Cond.laysFinal "QuorumChainModel" "QuorumChainModel" "parent" "[I") ∈ GG := GG_in (i := 953) (by decide +kernel) (by decide +kernel)
theorem gw_955 : (Jvm.Cond.laysFinal "QuorumChainModel" "QuorumChainModel" "carried" "[I") ∈ GG := GG_in (i := 955) (by decide +kernel) (by decide +kernel)
theorem gw_957 : (Jvm.Cond.laysFinal "QuorumChainModel" "QuorumChainModel" "certified" "[Z") ∈ GG := GG_in (i := 957) (by decide +kernel) (by decide +kernel)
theorem gw_959 : (Jvm.Cond.laysFinal "QuorumChainModel" "QuorumChainModel" "up" "[Z") ∈ GG := GG_in (i := 959) (by decide +kernel) (by decide +kernel)
theorem gw_961 : (Jvm.Cond.laysFinal "QuorumChainModel" "QuorumChainModel" "view" "[I") ∈ GG := GG_in (i := 961) (by decide +kernel) (by decide +kernel)
theorem gw_963 : (Jvm.Cond.laysFinal "QuorumChainModel" "QuorumChainModel" "timer" "[I") ∈ GG := GG_in (i := 963) (by decide +kernel) (by decide +kernel)
theorem gw_965 : (Jvm.Cond.laysFinal "QuorumChainModel" "QuorumChainModel" "span" "[I") ∈ GG := GG_in (i := 965) (by decide +kernel) (by decide +kernel)
theorem gw_967 : (Jvm.Cond.laysFinal "QuorumChainModel" "QuorumChainModel" "high" "[I") ∈ GG := GG_in (i := 967) (by decide +kernel) (by decide +kernel)
theorem gw_969 : (Jvm.Cond.laysFinal "QuorumChainModel" "QuorumChainModel" "voted" "[I") ∈ GG := GG_in (i := 969) (by decide +kernel) (by decide +kernel)
theorem gw_971 : (Jvm.Cond.laysFinal "QuorumChainModel" "QuorumChainModel" "locked" "[I") ∈ GG := GG_in (i := 971) (by decide +kernel) (by decide +kernel)
theorem gw_973 : (Jvm.Cond.laysFinal "QuorumChainModel" "QuorumChainModel" "used" "[I") ∈ GG := GG_in (i := 973) (by decide +kernel) (by decide +kernel)
theorem gw_975 : (Jvm.Cond.laysFinal "QuorumChainModel" "QuorumChainModel" "has" "[Z") ∈ GG := GG_in (i := 975) (by decide +kernel) (by decide +kernel)
theorem gw_977 : (Jvm.Cond.laysFinal "QuorumChainModel" "QuorumChainModel" "votes" "[I") ∈ GG := GG_in (i := 977) (by decide +kernel) (by decide +kernel)
theorem gw_979 : (Jvm.Cond.laysFinal "QuorumChainModel" "QuorumChainModel" "timeouts" "[I") ∈ GG := GG_in (i := 979) (by decide +kernel) (by decide +kernel)
theorem gw_981 : (Jvm.Cond.laysFinal "QuorumChainModel" "QuorumChainModel" "pooled" "[I") ∈ GG := GG_in (i := 981) (by decide +kernel) (by decide +kernel)
theorem gw_983 : (Jvm.Cond.laysFinal "QuorumChainModel" "QuorumChainModel" "pool" "[I") ∈ GG := GG_in (i := 983) (by decide +kernel) (by decide +kernel)
theorem gw_985 : (Jvm.Cond.laysFinal "QuorumChainModel" "QuorumChainModel" "logged" "[I") ∈ GG := GG_in (i := 985) (by decide +kernel) (by decide +kernel)
theorem gw_987 : (Jvm.Cond.laysFinal "QuorumChainModel" "QuorumChainModel" "log" "[I") ∈ GG := GG_in (i := 987) (by decide +kernel) (by decide +kernel)
theorem gw_989 : (Jvm.Cond.laysFinal "QuorumChainModel" "QuorumChainModel" "money" "[I") ∈ GG := GG_in (i := 989) (by decide +kernel) (by decide +kernel)
theorem gw_991 : (Jvm.Cond.laysFinal "QuorumChainModel" "QuorumChainModel" "nonces" "[I") ∈ GG := GG_in (i := 991) (by decide +kernel) (by decide +kernel)
theorem gw_993 : (Jvm.Cond.laysFinal "QuorumChainModel" "QuorumChainModel" "flying" "[I") ∈ GG := GG_in (i := 993) (by decide +kernel) (by decide +kernel)
theorem gw_995 : (Jvm.Cond.laysFinal "QuorumChainModel" "QuorumChainModel" "kind" "[I") ∈ GG := GG_in (i := 995) (by decide +kernel) (by decide +kernel)
theorem gw_997 : (Jvm.Cond.laysFinal "QuorumChainModel" "QuorumChainModel" "sender" "[I") ∈ GG := GG_in (i := 997) (by decide +kernel) (by decide +kernel)
theorem gw_999 : (Jvm.Cond.laysFinal "QuorumChainModel" "QuorumChainModel" "block" "[I") ∈ GG := GG_in (i := 999) (by decide +kernel) (by decide +kernel)
theorem gw_1001 : (Jvm.Cond.laysFinal "QuorumChainModel" "QuorumChainModel" "views" "[I") ∈ GG := GG_in (i := 1001) (by decide +kernel) (by decide +kernel)
theorem gw_1003 : (Jvm.Cond.laysFinal "QuorumChainModel" "QuorumChainModel" "keys" "[I") ∈ GG := GG_in (i := 1003) (by decide +kernel) (by decide +kernel)
theorem gw_1005 : (Jvm.Cond.laysFinal "QuorumChainModel" "QuorumChainModel" "longs" "[J") ∈ GG := GG_in (i := 1005) (by decide +kernel) (by decide +kernel)
theorem gw_1007 : (Jvm.Cond.lays "QuorumChainModel" "QuorumChainModel" "key" "I") ∈ GG := GG_in (i := 1007) (by decide +kernel) (by decide +kernel)
theorem gw_1009 : (Jvm.Cond.laysFinal "QuorumChainModel" "QuorumChainModel" "sign" "[J") ∈ GG := GG_in (i := 1009) (by decide +kernel) (by decide +kernel)
theorem gw_1011 : (Jvm.Cond.laysFinal "QuorumChainModel" "QuorumChainModel" "digits" "[I") ∈ GG := GG_in (i := 1011) (by decide +kernel) (by decide +kernel)
theorem gw_1015 : (Jvm.Cond.instanceMethod ({ cls := "QuorumChainModel", name := "thrown", desc := "()I" } : Jvm.MethodName)) ∈ GG := GG_in (i := 1015) (by decide +kernel) (by decide +kernel)
theorem gw_1016 : (Jvm.Cond.selects "QuorumChainModel" ({ cls := "QuorumChainModel", name := "thrown", desc := "()I" } : Jvm.MethodName) ({ cls := "QuorumChainModel", name := "thrown", desc := "()I" } : Jvm.MethodName)) ∈ GG := GG_in (i := 1016) (by decide +kernel) (by decide +kernel)
theorem gw_1017 : (Jvm.Cond.code ({ cls := "QuorumChainModel", name := "thrown", desc := "()I" } : Jvm.MethodName) prog_13_method_2_code (1 : Nat) (Option.some Jvm.ClassFile.FieldType.int)) ∈ GG := GG_in (i := 1017) (by decide +kernel) (by decide +kernel)
theorem gw_1019 : (Jvm.Cond.instanceMethod ({ cls := "QuorumChainModel", name := "deliver", desc := "(I)I" } : Jvm.MethodName)) ∈ GG := GG_in (i := 1019) (by decide +kernel) (by decide +kernel)
theorem gw_1020 : (Jvm.Cond.selects "QuorumChainModel" ({ cls := "QuorumChainModel", name := "deliver", desc := "(I)I" } : Jvm.MethodName) ({ cls := "QuorumChainModel", name := "deliver", desc := "(I)I" } : Jvm.MethodName)) ∈ GG := GG_in (i := 1020) (by decide +kernel) (by decide +kernel)
theorem gw_1021 : (Jvm.Cond.code ({ cls := "QuorumChainModel", name := "deliver", desc := "(I)I" } : Jvm.MethodName) prog_13_method_35_code (8 : Nat) (Option.some Jvm.ClassFile.FieldType.int)) ∈ GG := GG_in (i := 1021) (by decide +kernel) (by decide +kernel)
theorem gw_1022 : (Jvm.Cond.methodLink "QuorumChainModel" (231 : Nat) ({ cls := "QuorumChainModel", name := "isNode", desc := "(I)Z" } : Jvm.MethodName)) ∈ GG := GG_in (i := 1022) (by decide +kernel) (by decide +kernel)
theorem gw_1023 : (Jvm.Cond.static ({ cls := "QuorumChainModel", name := "isNode", desc := "(I)Z" } : Jvm.MethodName)) ∈ GG := GG_in (i := 1023) (by decide +kernel) (by decide +kernel)
theorem gw_1024 : (Jvm.Cond.code ({ cls := "QuorumChainModel", name := "isNode", desc := "(I)Z" } : Jvm.MethodName) prog_13_method_18_code (1 : Nat) (Option.some Jvm.ClassFile.FieldType.boolean)) ∈ GG := GG_in (i := 1024) (by decide +kernel) (by decide +kernel)
theorem gw_1025 : (Jvm.Cond.methodLink "QuorumChainModel" (235 : Nat) ({ cls := "QuorumChainModel", name := "land", desc := "(I)V" } : Jvm.MethodName)) ∈ GG := GG_in (i := 1025) (by decide +kernel) (by decide +kernel)
theorem gw_1027 : (Jvm.Cond.instanceMethod ({ cls := "QuorumChainModel", name := "land", desc := "(I)V" } : Jvm.MethodName)) ∈ GG := GG_in (i := 1027) (by decide +kernel) (by decide +kernel)
theorem gw_1028 : (Jvm.Cond.code ({ cls := "QuorumChainModel", name := "land", desc := "(I)V" } : Jvm.MethodName) prog_13_method_16_code (3 : Nat) (Option.none : Option Jvm.ClassFile.FieldType)) ∈ GG := GG_in (i := 1028) (by decide +kernel) (by decide +kernel)
theorem gw_1029 : (Jvm.Cond.methodLink "QuorumChainModel" (179 : Nat) ({ cls := "QuorumChainModel", name := "copyMessage", desc := "(II)V" } : Jvm.MethodName)) ∈ GG := GG_in (i := 1029) (by decide +kernel) (by decide +kernel)
theorem gw_1031 : (Jvm.Cond.instanceMethod ({ cls := "QuorumChainModel", name := "copyMessage", desc := "(II)V" } : Jvm.MethodName)) ∈ GG := GG_in (i := 1031) (by decide +kernel) (by decide +kernel)
theorem gw_1032 : (Jvm.Cond.code ({ cls := "QuorumChainModel", name := "copyMessage", desc := "(II)V" } : Jvm.MethodName) prog_13_method_17_code (4 : Nat) (Option.none : Option Jvm.ClassFile.FieldType)) ∈ GG := GG_in (i := 1032) (by decide +kernel) (by decide +kernel)
theorem gw_1033 : (Jvm.Cond.methodLink "QuorumChainModel" (201 : Nat) ({ cls := "QuorumChainModel", name := "send", desc := "(IIIII)V" } : Jvm.MethodName)) ∈ GG := GG_in (i := 1033) (by decide +kernel) (by decide +kernel)
theorem gw_1035 : (Jvm.Cond.instanceMethod ({ cls := "QuorumChainModel", name := "send", desc := "(IIIII)V" } : Jvm.MethodName)) ∈ GG := GG_in (i := 1035) (by decide +kernel) (by decide +kernel)
theorem gw_1036 : (Jvm.Cond.code ({ cls := "QuorumChainModel", name := "send", desc := "(IIIII)V" } : Jvm.MethodName) prog_13_method_15_code (8 : Nat) (Option.none : Option Jvm.ClassFile.FieldType)) ∈ GG := GG_in (i := 1036) (by decide +kernel) (by decide +kernel)
theorem gw_1037 : (Jvm.Cond.methodLink "QuorumChainModel" (238 : Nat) ({ cls := "QuorumChainModel", name := "comes", desc := "(III)V" } : Jvm.MethodName)) ∈ GG := GG_in (i := 1037) (by decide +kernel) (by decide +kernel)
theorem gw_1039 : (Jvm.Cond.instanceMethod ({ cls := "QuorumChainModel", name := "comes", desc := "(III)V" } : Jvm.MethodName)) ∈ GG := GG_in (i := 1039) (by decide +kernel) (by decide +kernel)
theorem gw_1040 : (Jvm.Cond.code ({ cls := "QuorumChainModel", name := "comes", desc := "(III)V" } : Jvm.MethodName) prog_13_method_34_code (4 : Nat) (Option.none : Option Jvm.ClassFile.FieldType)) ∈ GG := GG_in (i := 1040) (by decide +kernel) (by decide +kernel)
theorem gw_1041 : (Jvm.Cond.methodLink "QuorumChainModel" (194 : Nat) ({ cls := "QuorumChainModel", name := "meant", desc := "(III)J" } : Jvm.MethodName)) ∈ GG := GG_in (i := 1041) (by decide +kernel) (by decide +kernel)
theorem gw_1043 : (Jvm.Cond.instanceMethod ({ cls := "QuorumChainModel", name := "meant", desc := "(III)J" } : Jvm.MethodName)) ∈ GG := GG_in (i := 1043) (by decide +kernel) (by decide +kernel)
theorem gw_1044 : (Jvm.Cond.code ({ cls := "QuorumChainModel", name := "meant", desc := "(III)J" } : Jvm.MethodName) prog_13_method_14_code (4 : Nat) (Option.some Jvm.ClassFile.FieldType.long)) ∈ GG := GG_in (i := 1044) (by decide +kernel) (by decide +kernel)
theorem gw_1045 : (Jvm.Cond.constantLong "QuorumChainModel" (173 : Nat) (3 : Int64)) ∈ GG := GG_in (i := 1045) (by decide +kernel) (by decide +kernel)
theorem gw_1046 : (Jvm.Cond.methodLink "QuorumChainModel" (175 : Nat) ({ cls := "QuorumChainModel", name := "three", desc := "(JJJ)J" } : Jvm.MethodName)) ∈ GG := GG_in (i := 1046) (by decide +kernel) (by decide +kernel)
theorem gw_1048 : (Jvm.Cond.instanceMethod ({ cls := "QuorumChainModel", name := "three", desc := "(JJJ)J" } : Jvm.MethodName)) ∈ GG := GG_in (i := 1048) (by decide +kernel) (by decide +kernel)
theorem gw_1049 : (Jvm.Cond.code ({ cls := "QuorumChainModel", name := "three", desc := "(JJJ)J" } : Jvm.MethodName) prog_13_method_7_code (7 : Nat) (Option.some Jvm.ClassFile.FieldType.long)) ∈ GG := GG_in (i := 1049) (by decide +kernel) (by decide +kernel)
theorem gw_1050 : (Jvm.Cond.methodLink "QuorumChainModel" (242 : Nat) ({ cls := "QuorumChainModel", name := "good", desc := "(IJ)Z" } : Jvm.MethodName)) ∈ GG := GG_in (i := 1050) (by decide +kernel) (by decide +kernel)
theorem gw_1052 : (Jvm.Cond.instanceMethod ({ cls := "QuorumChainModel", name := "good", desc := "(IJ)Z" } : Jvm.MethodName)) ∈ GG := GG_in (i := 1052) (by decide +kernel) (by decide +kernel)
theorem gw_1053 : (Jvm.Cond.code ({ cls := "QuorumChainModel", name := "good", desc := "(IJ)Z" } : Jvm.MethodName) prog_13_method_13_code (8 : Nat) (Option.some Jvm.ClassFile.FieldType.boolean)) ∈ GG := GG_in (i := 1053) (by decide +kernel) (by decide +kernel)
theorem gw_1054 : (Jvm.Cond.methodLink "QuorumChainModel" (170 : Nat) ({ cls := "QuorumChainModel", name := "digitsOf", desc := "(J)V" } : Jvm.MethodName)) ∈ GG := GG_in (i := 1054) (by decide +kernel) (by decide +kernel)
theorem gw_1056 : (Jvm.Cond.instanceMethod ({ cls := "QuorumChainModel", name := "digitsOf", desc := "(J)V" } : Jvm.MethodName)) ∈ GG := GG_in (i := 1056) (by decide +kernel) (by decide +kernel)
theorem gw_1057 : (Jvm.Cond.code ({ cls := "QuorumChainModel", name := "digitsOf", desc := "(J)V" } : Jvm.MethodName) prog_13_method_11_code (7 : Nat) (Option.none : Option Jvm.ClassFile.FieldType)) ∈ GG := GG_in (i := 1057) (by decide +kernel) (by decide +kernel)
theorem gw_1058 : (Jvm.Cond.constantLong "QuorumChainModel" (165 : Nat) (15 : Int64)) ∈ GG := GG_in (i := 1058) (by decide +kernel) (by decide +kernel)
theorem gw_1059 : (Jvm.Cond.methodLink "QuorumChainModel" (220 : Nat) ({ cls := "QuorumChainModel", name := "leader", desc := "(I)I" } : Jvm.MethodName)) ∈ GG := GG_in (i := 1059) (by decide +kernel) (by decide +kernel)
theorem gw_1060 : (Jvm.Cond.static ({ cls := "QuorumChainModel", name := "leader", desc := "(I)I" } : Jvm.MethodName)) ∈ GG := GG_in (i := 1060) (by decide +kernel) (by decide +kernel)
theorem gw_1061 : (Jvm.Cond.code ({ cls := "QuorumChainModel", name := "leader", desc := "(I)I" } : Jvm.MethodName) prog_13_method_21_code (1 : Nat) (Option.some Jvm.ClassFile.FieldType.int)) ∈ GG := GG_in (i := 1061) (by decide +kernel) (by decide +kernel)
theorem gw_1062 : (Jvm.Cond.methodLink "QuorumChainModel" (245 : Nat) ({ cls := "QuorumChainModel", name := "proposal", desc := "(III)V" } : Jvm.MethodName)) ∈ GG := GG_in (i := 1062) (by decide +kernel) (by decide +kernel)
theorem gw_1064 : (Jvm.Cond.instanceMethod ({ cls := "QuorumChainModel", name := "proposal", desc := "(III)V" } : Jvm.MethodName)) ∈ GG := GG_in (i := 1064) (by decide +kernel) (by decide +kernel)
theorem gw_1065 : (Jvm.Cond.code ({ cls := "QuorumChainModel", name := "proposal", desc := "(III)V" } : Jvm.MethodName) prog_13_method_30_code (7 : Nat) (Option.none : Option Jvm.ClassFile.FieldType)) ∈ GG := GG_in (i := 1065) (by decide +kernel) (by decide +kernel)
theorem gw_1066 : (Jvm.Cond.methodLink "QuorumChainModel" (214 : Nat) ({ cls := "QuorumChainModel", name := "takes", desc := "(II)V" } : Jvm.MethodName)) ∈ GG := GG_in (i := 1066) (by decide +kernel) (by decide +kernel)
theorem gw_1068 : (Jvm.Cond.instanceMethod ({ cls := "QuorumChainModel", name := "takes", desc := "(II)V" } : Jvm.MethodName)) ∈ GG := GG_in (i := 1068) (by decide +kernel) (by decide +kernel)
theorem gw_1069 : (Jvm.Cond.code ({ cls := "QuorumChainModel", name := "takes", desc := "(II)V" } : Jvm.MethodName) prog_13_method_29_code (5 : Nat) (Option.none : Option Jvm.ClassFile.FieldType)) ∈ GG := GG_in (i := 1069) (by decide +kernel) (by decide +kernel)
theorem gw_1070 : (Jvm.Cond.methodLink "QuorumChainModel" (211 : Nat) ({ cls := "QuorumChainModel", name := "commit", desc := "(II)V" } : Jvm.MethodName)) ∈ GG := GG_in (i := 1070) (by decide +kernel) (by decide +kernel)
theorem gw_1072 : (Jvm.Cond.instanceMethod ({ cls := "QuorumChainModel", name := "commit", desc := "(II)V" } : Jvm.MethodName)) ∈ GG := GG_in (i := 1072) (by decide +kernel) (by decide +kernel)
theorem gw_1073 : (Jvm.Cond.code ({ cls := "QuorumChainModel", name := "commit", desc := "(II)V" } : Jvm.MethodName) prog_13_method_28_code (8 : Nat) (Option.none : Option Jvm.ClassFile.FieldType)) ∈ GG := GG_in (i := 1073) (by decide +kernel) (by decide +kernel)
theorem gw_1074 : (Jvm.Cond.methodLink "QuorumChainModel" (205 : Nat) ({ cls := "QuorumChainModel", name := "below", desc := "(II)Z" } : Jvm.MethodName)) ∈ GG := GG_in (i := 1074) (by decide +kernel) (by decide +kernel)
theorem gw_1076 : (Jvm.Cond.instanceMethod ({ cls := "QuorumChainModel", name := "below", desc := "(II)Z" } : Jvm.MethodName)) ∈ GG := GG_in (i := 1076) (by decide +kernel) (by decide +kernel)
theorem gw_1077 : (Jvm.Cond.code ({ cls := "QuorumChainModel", name := "below", desc := "(II)Z" } : Jvm.MethodName) prog_13_method_22_code (4 : Nat) (Option.some Jvm.ClassFile.FieldType.boolean)) ∈ GG := GG_in (i := 1077) (by decide +kernel) (by decide +kernel)
theorem gw_1078 : (Jvm.Cond.methodLink "QuorumChainModel" (208 : Nat) ({ cls := "QuorumChainModel", name := "carryOut", desc := "(II)V" } : Jvm.MethodName)) ∈ GG := GG_in (i := 1078) (by decide +kernel) (by decide +kernel)
theorem gw_1080 : (Jvm.Cond.instanceMethod ({ cls := "QuorumChainModel", name := "carryOut", desc := "(II)V" } : Jvm.MethodName)) ∈ GG := GG_in (i := 1080) (by decide +kernel) (by decide +kernel)
theorem gw_1081 : (Jvm.Cond.code ({ cls := "QuorumChainModel", name := "carryOut", desc := "(II)V" } : Jvm.MethodName) prog_13_method_27_code (4 : Nat) (Option.none : Option Jvm.ClassFile.FieldType)) ∈ GG := GG_in (i := 1081) (by decide +kernel) (by decide +kernel)
theorem gw_1082 : (Jvm.Cond.methodLink "QuorumChainModel" (217 : Nat) ({ cls := "QuorumChainModel", name := "enter", desc := "(II)V" } : Jvm.MethodName)) ∈ GG := GG_in (i := 1082) (by decide +kernel) (by decide +kernel)
theorem gw_1084 : (Jvm.Cond.instanceMethod ({ cls := "QuorumChainModel", name := "enter", desc := "(II)V" } : Jvm.MethodName)) ∈ GG := GG_in (i := 1084) (by decide +kernel) (by decide +kernel)
theorem gw_1085 : (Jvm.Cond.code ({ cls := "QuorumChainModel", name := "enter", desc := "(II)V" } : Jvm.MethodName) prog_13_method_25_code (3 : Nat) (Option.none : Option Jvm.ClassFile.FieldType)) ∈ GG := GG_in (i := 1085) (by decide +kernel) (by decide +kernel)
theorem gw_1086 : (Jvm.Cond.methodLink "QuorumChainModel" (197 : Nat) ({ cls := "QuorumChainModel", name := "signs", desc := "(IJ)Z" } : Jvm.MethodName)) ∈ GG := GG_in (i := 1086) (by decide +kernel) (by decide +kernel)
theorem gw_1088 : (Jvm.Cond.instanceMethod ({ cls := "QuorumChainModel", name := "signs", desc := "(IJ)Z" } : Jvm.MethodName)) ∈ GG := GG_in (i := 1088) (by decide +kernel) (by decide +kernel)
theorem gw_1089 : (Jvm.Cond.code ({ cls := "QuorumChainModel", name := "signs", desc := "(IJ)Z" } : Jvm.MethodName) prog_13_method_12_code (7 : Nat) (Option.some Jvm.ClassFile.FieldType.boolean)) ∈ GG := GG_in (i := 1089) (by decide +kernel) (by decide +kernel)
theorem gw_1090 : (Jvm.Cond.methodLink "QuorumChainModel" (248 : Nat) ({ cls := "QuorumChainModel", name := "vote", desc := "(III)V" } : Jvm.MethodName)) ∈ GG := GG_in (i := 1090) (by decide +kernel) (by decide +kernel)
theorem gw_1092 : (Jvm.Cond.instanceMethod ({ cls := "QuorumChainModel", name := "vote", desc := "(III)V" } : Jvm.MethodName)) ∈ GG := GG_in (i := 1092) (by decide +kernel) (by decide +kernel)
theorem gw_1093 : (Jvm.Cond.code ({ cls := "QuorumChainModel", name := "vote", desc := "(III)V" } : Jvm.MethodName) prog_13_method_32_code (6 : Nat) (Option.none : Option Jvm.ClassFile.FieldType)) ∈ GG := GG_in (i := 1093) (by decide +kernel) (by decide +kernel)
theorem gw_1094 : (Jvm.Cond.methodLink "QuorumChainModel" (224 : Nat) ({ cls := "QuorumChainModel", name := "bits", desc := "(I)I" } : Jvm.MethodName)) ∈ GG := GG_in (i := 1094) (by decide +kernel) (by decide +kernel)
theorem gw_1095 : (Jvm.Cond.static ({ cls := "QuorumChainModel", name := "bits", desc := "(I)I" } : Jvm.MethodName)) ∈ GG := GG_in (i := 1095) (by decide +kernel) (by decide +kernel)
theorem gw_1096 : (Jvm.Cond.code ({ cls := "QuorumChainModel", name := "bits", desc := "(I)I" } : Jvm.MethodName) prog_13_method_31_code (1 : Nat) (Option.some Jvm.ClassFile.FieldType.int)) ∈ GG := GG_in (i := 1096) (by decide +kernel) (by decide +kernel)
theorem gw_1097 : (Jvm.Cond.methodLink "QuorumChainModel" (227 : Nat) ({ cls := "QuorumChainModel", name := "propose", desc := "(I)V" } : Jvm.MethodName)) ∈ GG := GG_in (i := 1097) (by decide +kernel) (by decide +kernel)
theorem gw_1099 : (Jvm.Cond.instanceMethod ({ cls := "QuorumChainModel", name := "propose", desc := "(I)V" } : Jvm.MethodName)) ∈ GG := GG_in (i := 1099) (by decide +kernel) (by decide +kernel)
theorem gw_1100 : (Jvm.Cond.code ({ cls := "QuorumChainModel", name := "propose", desc := "(I)V" } : Jvm.MethodName) prog_13_method_26_code (5 : Nat) (Option.none : Option Jvm.ClassFile.FieldType)) ∈ GG := GG_in (i := 1100) (by decide +kernel) (by decide +kernel)
theorem gw_1101 : (Jvm.Cond.methodLink "QuorumChainModel" (186 : Nat) ({ cls := "QuorumChainModel", name := "inChain", desc := "(II)Z" } : Jvm.MethodName)) ∈ GG := GG_in (i := 1101) (by decide +kernel) (by decide +kernel)
theorem gw_1103 : (Jvm.Cond.instanceMethod ({ cls := "QuorumChainModel", name := "inChain", desc := "(II)Z" } : Jvm.MethodName)) ∈ GG := GG_in (i := 1103) (by decide +kernel) (by decide +kernel)
theorem gw_1104 : (Jvm.Cond.code ({ cls := "QuorumChainModel", name := "inChain", desc := "(II)Z" } : Jvm.MethodName) prog_13_method_23_code (5 : Nat) (Option.some Jvm.ClassFile.FieldType.boolean)) ∈ GG := GG_in (i := 1104) (by decide +kernel) (by decide +kernel)
theorem gw_1105 : (Jvm.Cond.methodLink "QuorumChainModel" (190 : Nat) ({ cls := "QuorumChainModel", name := "newBlock", desc := "(IIII)I" } : Jvm.MethodName)) ∈ GG := GG_in (i := 1105) (by decide +kernel) (by decide +kernel)
theorem gw_1107 : (Jvm.Cond.instanceMethod ({ cls := "QuorumChainModel", name := "newBlock", desc := "(IIII)I" } : Jvm.MethodName)) ∈ GG := GG_in (i := 1107) (by decide +kernel) (by decide +kernel)
theorem gw_1108 : (Jvm.Cond.code ({ cls := "QuorumChainModel", name := "newBlock", desc := "(IIII)I" } : Jvm.MethodName) prog_13_method_24_code (5 : Nat) (Option.some Jvm.ClassFile.FieldType.int)) ∈ GG := GG_in (i := 1108) (by decide +kernel) (by decide +kernel)
theorem gw_1109 : (Jvm.Cond.methodLink "QuorumChainModel" (251 : Nat) ({ cls := "QuorumChainModel", name := "timeout", desc := "(IIII)V" } : Jvm.MethodName)) ∈ GG := GG_in (i := 1109) (by decide +kernel) (by decide +kernel)
theorem gw_1111 : (Jvm.Cond.instanceMethod ({ cls := "QuorumChainModel", name := "timeout", desc := "(IIII)V" } : Jvm.MethodName)) ∈ GG := GG_in (i := 1111) (by decide +kernel) (by decide +kernel)
theorem gw_1112 : (Jvm.Cond.code ({ cls := "QuorumChainModel", name := "timeout", desc := "(IIII)V" } : Jvm.MethodName) prog_13_method_33_code (6 : Nat) (Option.none : Option Jvm.ClassFile.FieldType)) ∈ GG := GG_in (i := 1112) (by decide +kernel) (by decide +kernel)
theorem gw_1114 : (Jvm.Cond.instanceMethod ({ cls := "QuorumChainModel", name := "transaction", desc := "(IIII)I" } : Jvm.MethodName)) ∈ GG := GG_in (i := 1114) (by decide +kernel) (by decide +kernel)
theorem gw_1115 : (Jvm.Cond.selects "QuorumChainModel" ({ cls := "QuorumChainModel", name := "transaction", desc := "(IIII)I" } : Jvm.MethodName) ({ cls := "QuorumChainModel", name := "transaction", desc := "(IIII)I" } : Jvm.MethodName)) ∈ GG := GG_in (i := 1115) (by decide +kernel) (by decide +kernel)
theorem gw_1116 : (Jvm.Cond.code ({ cls := "QuorumChainModel", name := "transaction", desc := "(IIII)I" } : Jvm.MethodName) prog_13_method_36_code (5 : Nat) (Option.some Jvm.ClassFile.FieldType.int)) ∈ GG := GG_in (i := 1116) (by decide +kernel) (by decide +kernel)
theorem gw_1118 : (Jvm.Cond.instanceMethod ({ cls := "QuorumChainModel", name := "submit", desc := "(II)Z" } : Jvm.MethodName)) ∈ GG := GG_in (i := 1118) (by decide +kernel) (by decide +kernel)
theorem gw_1119 : (Jvm.Cond.selects "QuorumChainModel" ({ cls := "QuorumChainModel", name := "submit", desc := "(II)Z" } : Jvm.MethodName) ({ cls := "QuorumChainModel", name := "submit", desc := "(II)Z" } : Jvm.MethodName)) ∈ GG := GG_in (i := 1119) (by decide +kernel) (by decide +kernel)
theorem gw_1120 : (Jvm.Cond.code ({ cls := "QuorumChainModel", name := "submit", desc := "(II)Z" } : Jvm.MethodName) prog_13_method_37_code (5 : Nat) (Option.some Jvm.ClassFile.FieldType.boolean)) ∈ GG := GG_in (i := 1120) (by decide +kernel) (by decide +kernel)
theorem gw_1121 : (Jvm.Cond.methodLink "QuorumChainModel" (255 : Nat) ({ cls := "QuorumChainModel", name := "isTransaction", desc := "(I)Z" } : Jvm.MethodName)) ∈ GG := GG_in (i := 1121) (by decide +kernel) (by decide +kernel)
theorem gw_1123 : (Jvm.Cond.instanceMethod ({ cls := "QuorumChainModel", name := "isTransaction", desc := "(I)Z" } : Jvm.MethodName)) ∈ GG := GG_in (i := 1123) (by decide +kernel) (by decide +kernel)
theorem gw_1124 : (Jvm.Cond.code ({ cls := "QuorumChainModel", name := "isTransaction", desc := "(I)Z" } : Jvm.MethodName) prog_13_method_20_code (2 : Nat) (Option.some Jvm.ClassFile.FieldType.boolean)) ∈ GG := GG_in (i := 1124) (by decide +kernel) (by decide +kernel)
theorem gw_1126 : (Jvm.Cond.instanceMethod ({ cls := "QuorumChainModel", name := "begin", desc := "()Z" } : Jvm.MethodName)) ∈ GG := GG_in (i := 1126) (by decide +kernel) (by decide +kernel)
theorem gw_1127 : (Jvm.Cond.selects "QuorumChainModel" ({ cls := "QuorumChainModel", name := "begin", desc := "()Z" } : Jvm.MethodName) ({ cls := "QuorumChainModel", name := "begin", desc := "()Z" } : Jvm.MethodName)) ∈ GG := GG_in (i := 1127) (by decide +kernel) (by decide +kernel)
theorem gw_1128 : (Jvm.Cond.code ({ cls := "QuorumChainModel", name := "begin", desc := "()Z" } : Jvm.MethodName) prog_13_method_38_code (1 : Nat) (Option.some Jvm.ClassFile.FieldType.boolean)) ∈ GG := GG_in (i := 1128) (by decide +kernel) (by decide +kernel)
theorem gw_1130 : (Jvm.Cond.instanceMethod ({ cls := "QuorumChainModel", name := "disturb", desc := "(II)Z" } : Jvm.MethodName)) ∈ GG := GG_in (i := 1130) (by decide +kernel) (by decide +kernel)
theorem gw_1131 : (Jvm.Cond.selects "QuorumChainModel" ({ cls := "QuorumChainModel", name := "disturb", desc := "(II)Z" } : Jvm.MethodName) ({ cls := "QuorumChainModel", name := "disturb", desc := "(II)Z" } : Jvm.MethodName)) ∈ GG := GG_in (i := 1131) (by decide +kernel) (by decide +kernel)
theorem gw_1132 : (Jvm.Cond.code ({ cls := "QuorumChainModel", name := "disturb", desc := "(II)Z" } : Jvm.MethodName) prog_13_method_39_code (9 : Nat) (Option.some Jvm.ClassFile.FieldType.boolean)) ∈ GG := GG_in (i := 1132) (by decide +kernel) (by decide +kernel)
theorem gw_1134 : (Jvm.Cond.instanceMethod ({ cls := "QuorumChainModel", name := "alter", desc := "(IIJ)Z" } : Jvm.MethodName)) ∈ GG := GG_in (i := 1134) (by decide +kernel) (by decide +kernel)
theorem gw_1135 : (Jvm.Cond.selects "QuorumChainModel" ({ cls := "QuorumChainModel", name := "alter", desc := "(IIJ)Z" } : Jvm.MethodName) ({ cls := "QuorumChainModel", name := "alter", desc := "(IIJ)Z" } : Jvm.MethodName)) ∈ GG := GG_in (i := 1135) (by decide +kernel) (by decide +kernel)
theorem gw_1136 : (Jvm.Cond.code ({ cls := "QuorumChainModel", name := "alter", desc := "(IIJ)Z" } : Jvm.MethodName) prog_13_method_40_code (5 : Nat) (Option.some Jvm.ClassFile.FieldType.boolean)) ∈ GG := GG_in (i := 1136) (by decide +kernel) (by decide +kernel)
theorem gw_1138 : (Jvm.Cond.instanceMethod ({ cls := "QuorumChainModel", name := "lie", desc := "(IIII)I" } : Jvm.MethodName)) ∈ GG := GG_in (i := 1138) (by decide +kernel) (by decide +kernel)
theorem gw_1139 : (Jvm.Cond.selects "QuorumChainModel" ({ cls := "QuorumChainModel", name := "lie", desc := "(IIII)I" } : Jvm.MethodName) ({ cls := "QuorumChainModel", name := "lie", desc := "(IIII)I" } : Jvm.MethodName)) ∈ GG := GG_in (i := 1139) (by decide +kernel) (by decide +kernel)
theorem gw_1140 : (Jvm.Cond.code ({ cls := "QuorumChainModel", name := "lie", desc := "(IIII)I" } : Jvm.MethodName) prog_13_method_41_code (8 : Nat) (Option.some Jvm.ClassFile.FieldType.int)) ∈ GG := GG_in (i := 1140) (by decide +kernel) (by decide +kernel)
theorem gw_1141 : (Jvm.Cond.methodLink "QuorumChainModel" (262 : Nat) ({ cls := "QuorumChainModel", name := "isBlock", desc := "(I)Z" } : Jvm.MethodName)) ∈ GG := GG_in (i := 1141) (by decide +kernel) (by decide +kernel)
theorem gw_1143 : (Jvm.Cond.instanceMethod ({ cls := "QuorumChainModel", name := "isBlock", desc := "(I)Z" } : Jvm.MethodName)) ∈ GG := GG_in (i := 1143) (by decide +kernel) (by decide +kernel)
theorem gw_1144 : (Jvm.Cond.code ({ cls := "QuorumChainModel", name := "isBlock", desc := "(I)Z" } : Jvm.MethodName) prog_13_method_19_code (2 : Nat) (Option.some Jvm.ClassFile.FieldType.boolean)) ∈ GG := GG_in (i := 1144) (by decide +kernel) (by decide +kernel)
theorem gw_1146 : (Jvm.Cond.instanceMethod ({ cls := "QuorumChainModel", name := "lieVote", desc := "(II)Z" } : Jvm.MethodName)) ∈ GG := GG_in (i := 1146) (by decide +kernel) (by decide +kernel)
theorem gw_1147 : (Jvm.Cond.selects "QuorumChainModel" ({ cls := "QuorumChainModel", name := "lieVote", desc := "(II)Z" } : Jvm.MethodName) ({ cls := "QuorumChainModel", name := "lieVote", desc := "(II)Z" } : Jvm.MethodName)) ∈ GG := GG_in (i := 1147) (by decide +kernel) (by decide +kernel)
theorem gw_1148 : (Jvm.Cond.code ({ cls := "QuorumChainModel", name := "lieVote", desc := "(II)Z" } : Jvm.MethodName) prog_13_method_42_code (4 : Nat) (Option.some Jvm.ClassFile.FieldType.boolean)) ∈ GG := GG_in (i := 1148) (by decide +kernel) (by decide +kernel)
theorem gw_1150 : (Jvm.Cond.instanceMethod ({ cls := "QuorumChainModel", name := "tick", desc := "()I" } : Jvm.MethodName)) ∈ GG := GG_in (i := 1150) (by decide +kernel) (by decide +kernel)
theorem gw_1151 : (Jvm.Cond.selects "QuorumChainModel" ({ cls := "QuorumChainModel", name := "tick", desc := "()I" } : Jvm.MethodName) ({ cls := "QuorumChainModel", name := "tick", desc := "()I" } : Jvm.MethodName)) ∈ GG := GG_in (i := 1151) (by decide +kernel) (by decide +kernel)
theorem gw_1152 : (Jvm.Cond.code ({ cls := "QuorumChainModel", name := "tick", desc := "()I" } : Jvm.MethodName) prog_13_method_44_code (2 : Nat) (Option.some Jvm.ClassFile.FieldType.int)) ∈ GG := GG_in (i := 1152) (by decide +kernel) (by decide +kernel)
theorem gw_1153 : (Jvm.Cond.methodLink "QuorumChainModel" (268 : Nat) ({ cls := "QuorumChainModel", name := "beats", desc := "(I)V" } : Jvm.MethodName)) ∈ GG := GG_in (i := 1153) (by decide +kernel) (by decide +kernel)
theorem gw_1155 : (Jvm.Cond.instanceMethod ({ cls := "QuorumChainModel", name := "beats", desc := "(I)V" } : Jvm.MethodName)) ∈ GG := GG_in (i := 1155) (by decide +kernel) (by decide +kernel)
theorem gw_1156 : (Jvm.Cond.code ({ cls := "QuorumChainModel", name := "beats", desc := "(I)V" } : Jvm.MethodName) prog_13_method_43_code (3 : Nat) (Option.none : Option Jvm.ClassFile.FieldType)) ∈ GG := GG_in (i := 1156) (by decide +kernel) (by decide +kernel)
theorem gw_1158 : (Jvm.Cond.instanceMethod ({ cls := "QuorumChainModel", name := "crash", desc := "(I)Z" } : Jvm.MethodName)) ∈ GG := GG_in (i := 1158) (by decide +kernel) (by decide +kernel)
theorem gw_1159 : (Jvm.Cond.selects "QuorumChainModel" ({ cls := "QuorumChainModel", name := "crash", desc := "(I)Z" } : Jvm.MethodName) ({ cls := "QuorumChainModel", name := "crash", desc := "(I)Z" } : Jvm.MethodName)) ∈ GG := GG_in (i := 1159) (by decide +kernel) (by decide +kernel)
theorem gw_1160 : (Jvm.Cond.code ({ cls := "QuorumChainModel", name := "crash", desc := "(I)Z" } : Jvm.MethodName) prog_13_method_45_code (3 : Nat) (Option.some Jvm.ClassFile.FieldType.boolean)) ∈ GG := GG_in (i := 1160) (by decide +kernel) (by decide +kernel)
theorem gw_1162 : (Jvm.Cond.instanceMethod ({ cls := "QuorumChainModel", name := "restart", desc := "(I)Z" } : Jvm.MethodName)) ∈ GG := GG_in (i := 1162) (by decide +kernel) (by decide +kernel)
theorem gw_1163 : (Jvm.Cond.selects "QuorumChainModel" ({ cls := "QuorumChainModel", name := "restart", desc := "(I)Z" } : Jvm.MethodName) ({ cls := "QuorumChainModel", name := "restart", desc := "(I)Z" } : Jvm.MethodName)) ∈ GG := GG_in (i := 1163) (by decide +kernel) (by decide +kernel)
theorem gw_1164 : (Jvm.Cond.code ({ cls := "QuorumChainModel", name := "restart", desc := "(I)Z" } : Jvm.MethodName) prog_13_method_46_code (5 : Nat) (Option.some Jvm.ClassFile.FieldType.boolean)) ∈ GG := GG_in (i := 1164) (by decide +kernel) (by decide +kernel)
theorem gw_1166 : (Jvm.Cond.instanceMethod ({ cls := "QuorumChainModel", name := "node", desc := "(II)I" } : Jvm.MethodName)) ∈ GG := GG_in (i := 1166) (by decide +kernel) (by decide +kernel)
theorem gw_1167 : (Jvm.Cond.selects "QuorumChainModel" ({ cls := "QuorumChainModel", name := "node", desc := "(II)I" } : Jvm.MethodName) ({ cls := "QuorumChainModel", name := "node", desc := "(II)I" } : Jvm.MethodName)) ∈ GG := GG_in (i := 1167) (by decide +kernel) (by decide +kernel)
theorem gw_1168 : (Jvm.Cond.code ({ cls := "QuorumChainModel", name := "node", desc := "(II)I" } : Jvm.MethodName) prog_13_method_47_code (3 : Nat) (Option.some Jvm.ClassFile.FieldType.int)) ∈ GG := GG_in (i := 1168) (by decide +kernel) (by decide +kernel)
theorem gw_1169 : (Jvm.Cond.methodLink "QuorumChainModel" (271 : Nat) ({ cls := "QuorumChainModel", name := "hasAll", desc := "(I)I" } : Jvm.MethodName)) ∈ GG := GG_in (i := 1169) (by decide +kernel) (by decide +kernel)
theorem gw_1171 : (Jvm.Cond.instanceMethod ({ cls := "QuorumChainModel", name := "hasAll", desc := "(I)I" } : Jvm.MethodName)) ∈ GG := GG_in (i := 1171) (by decide +kernel) (by decide +kernel)
theorem gw_1172 : (Jvm.Cond.code ({ cls := "QuorumChainModel", name := "hasAll", desc := "(I)I" } : Jvm.MethodName) prog_13_method_48_code (4 : Nat) (Option.some Jvm.ClassFile.FieldType.int)) ∈ GG := GG_in (i := 1172) (by decide +kernel) (by decide +kernel)
theorem gw_1174 : (Jvm.Cond.instanceMethod ({ cls := "QuorumChainModel", name := "log", desc := "(II)I" } : Jvm.MethodName)) ∈ GG := GG_in (i := 1174) (by decide +kernel) (by decide +kernel)
theorem gw_1175 : (Jvm.Cond.selects "QuorumChainModel" ({ cls := "QuorumChainModel", name := "log", desc := "(II)I" } : Jvm.MethodName) ({ cls := "QuorumChainModel", name := "log", desc := "(II)I" } : Jvm.MethodName)) ∈ GG := GG_in (i := 1175) (by decide +kernel) (by decide +kernel)
theorem gw_1176 : (Jvm.Cond.code ({ cls := "QuorumChainModel", name := "log", desc := "(II)I" } : Jvm.MethodName) prog_13_method_49_code (3 : Nat) (Option.some Jvm.ClassFile.FieldType.int)) ∈ GG := GG_in (i := 1176) (by decide +kernel) (by decide +kernel)
theorem gw_1178 : (Jvm.Cond.instanceMethod ({ cls := "QuorumChainModel", name := "account", desc := "(III)I" } : Jvm.MethodName)) ∈ GG := GG_in (i := 1178) (by decide +kernel) (by decide +kernel)
theorem gw_1179 : (Jvm.Cond.selects "QuorumChainModel" ({ cls := "QuorumChainModel", name := "account", desc := "(III)I" } : Jvm.MethodName) ({ cls := "QuorumChainModel", name := "account", desc := "(III)I" } : Jvm.MethodName)) ∈ GG := GG_in (i := 1179) (by decide +kernel) (by decide +kernel)
theorem gw_1180 : (Jvm.Cond.code ({ cls := "QuorumChainModel", name := "account", desc := "(III)I" } : Jvm.MethodName) prog_13_method_50_code (4 : Nat) (Option.some Jvm.ClassFile.FieldType.int)) ∈ GG := GG_in (i := 1180) (by decide +kernel) (by decide +kernel)
theorem gw_1182 : (Jvm.Cond.instanceMethod ({ cls := "QuorumChainModel", name := "block", desc := "(II)I" } : Jvm.MethodName)) ∈ GG := GG_in (i := 1182) (by decide +kernel) (by decide +kernel)
theorem gw_1183 : (Jvm.Cond.selects "QuorumChainModel" ({ cls := "QuorumChainModel", name := "block", desc := "(II)I" } : Jvm.MethodName) ({ cls := "QuorumChainModel", name := "block", desc := "(II)I" } : Jvm.MethodName)) ∈ GG := GG_in (i := 1183) (by decide +kernel) (by decide +kernel)
theorem gw_1184 : (Jvm.Cond.code ({ cls := "QuorumChainModel", name := "block", desc := "(II)I" } : Jvm.MethodName) prog_13_method_51_code (3 : Nat) (Option.some Jvm.ClassFile.FieldType.int)) ∈ GG := GG_in (i := 1184) (by decide +kernel) (by decide +kernel)
theorem gw_1186 : (Jvm.Cond.instanceMethod ({ cls := "QuorumChainModel", name := "message", desc := "(III)I" } : Jvm.MethodName)) ∈ GG := GG_in (i := 1186) (by decide +kernel) (by decide +kernel)
theorem gw_1187 : (Jvm.Cond.selects "QuorumChainModel" ({ cls := "QuorumChainModel", name := "message", desc := "(III)I" } : Jvm.MethodName) ({ cls := "QuorumChainModel", name := "message", desc := "(III)I" } : Jvm.MethodName)) ∈ GG := GG_in (i := 1187) (by decide +kernel) (by decide +kernel)
theorem gw_1188 : (Jvm.Cond.code ({ cls := "QuorumChainModel", name := "message", desc := "(III)I" } : Jvm.MethodName) prog_13_method_52_code (5 : Nat) (Option.some Jvm.ClassFile.FieldType.int)) ∈ GG := GG_in (i := 1188) (by decide +kernel) (by decide +kernel)
theorem gw_1190 : (Jvm.Cond.instanceMethod ({ cls := "QuorumChainModel", name := "root", desc := "(I)J" } : Jvm.MethodName)) ∈ GG := GG_in (i := 1190) (by decide +kernel) (by decide +kernel)
theorem gw_1191 : (Jvm.Cond.selects "QuorumChainModel" ({ cls := "QuorumChainModel", name := "root", desc := "(I)J" } : Jvm.MethodName) ({ cls := "QuorumChainModel", name := "root", desc := "(I)J" } : Jvm.MethodName)) ∈ GG := GG_in (i := 1191) (by decide +kernel) (by decide +kernel)
theorem gw_1192 : (Jvm.Cond.code ({ cls := "QuorumChainModel", name := "root", desc := "(I)J" } : Jvm.MethodName) prog_13_method_53_code (2 : Nat) (Option.some Jvm.ClassFile.FieldType.long)) ∈ GG := GG_in (i := 1192) (by decide +kernel) (by decide +kernel)
theorem gw_1194 : (Jvm.Cond.instanceMethod ({ cls := "QuorumChainModel", name := "about", desc := "(I)I" } : Jvm.MethodName)) ∈ GG := GG_in (i := 1194) (by decide +kernel) (by decide +kernel)
theorem gw_1195 : (Jvm.Cond.selects "QuorumChainModel" ({ cls := "QuorumChainModel", name := "about", desc := "(I)I" } : Jvm.MethodName) ({ cls := "QuorumChainModel", name := "about", desc := "(I)I" } : Jvm.MethodName)) ∈ GG := GG_in (i := 1195) (by decide +kernel) (by decide +kernel)
theorem gw_1196 : (Jvm.Cond.code ({ cls := "QuorumChainModel", name := "about", desc := "(I)I" } : Jvm.MethodName) prog_13_method_54_code (2 : Nat) (Option.some Jvm.ClassFile.FieldType.int)) ∈ GG := GG_in (i := 1196) (by decide +kernel) (by decide +kernel)
theorem in_M : ∀ w ∈ u_ws R_M F_M 43, w ∈ GG := List.forall_mem_cons.mpr ⟨gw_927, List.forall_mem_cons.mpr ⟨gw_929, List.forall_mem_cons.mpr ⟨gw_931, List.forall_mem_cons.mpr ⟨gw_933, List.forall_mem_cons.mpr ⟨gw_935, List.forall_mem_cons.mpr ⟨gw_937, List.forall_mem_cons.mpr ⟨gw_939, List.forall_mem_cons.mpr ⟨gw_941, List.forall_mem_cons.mpr ⟨gw_943, List.forall_mem_cons.mpr ⟨gw_945, List.forall_mem_cons.mpr ⟨gw_947, List.forall_mem_cons.mpr ⟨gw_949, List.forall_mem_cons.mpr ⟨gw_951, List.forall_mem_cons.mpr ⟨gw_953, List.forall_mem_cons.mpr ⟨gw_955, List.forall_mem_cons.mpr ⟨gw_957, List.forall_mem_cons.mpr ⟨gw_959, List.forall_mem_cons.mpr ⟨gw_961, List.forall_mem_cons.mpr ⟨gw_963, List.forall_mem_cons.mpr ⟨gw_965, List.forall_mem_cons.mpr ⟨gw_967, List.forall_mem_cons.mpr ⟨gw_969, List.forall_mem_cons.mpr ⟨gw_971, List.forall_mem_cons.mpr ⟨gw_973, List.forall_mem_cons.mpr ⟨gw_975, List.forall_mem_cons.mpr ⟨gw_977, List.forall_mem_cons.mpr ⟨gw_979, List.forall_mem_cons.mpr ⟨gw_981, List.forall_mem_cons.mpr ⟨gw_983, List.forall_mem_cons.mpr ⟨gw_985, List.forall_mem_cons.mpr ⟨gw_987, List.forall_mem_cons.mpr ⟨gw_989, List.forall_mem_cons.mpr ⟨gw_991, List.forall_mem_cons.mpr ⟨gw_993, List.forall_mem_cons.mpr ⟨gw_995, List.forall_mem_cons.mpr ⟨gw_997, List.forall_mem_cons.mpr ⟨gw_999, List.forall_mem_cons.mpr ⟨gw_1001, List.forall_mem_cons.mpr ⟨gw_1003, List.forall_mem_cons.mpr ⟨gw_1005, List.forall_mem_cons.mpr ⟨gw_1007, List.forall_mem_cons.mpr ⟨gw_1009, List.forall_mem_cons.mpr ⟨gw_1011, fun _ h => absurd h List.not_mem_nil⟩⟩⟩⟩⟩⟩⟩⟩⟩⟩⟩⟩⟩⟩⟩⟩⟩⟩⟩⟩⟩⟩⟩⟩⟩⟩⟩⟩⟩⟩⟩⟩⟩⟩⟩⟩⟩⟩⟩⟩⟩⟩⟩
theorem cd_M_thrown : cdV GG y_M_thrown b_M_thrown 1 (some .int) 0 := ⟨gw_1017, gw_1015, gw_1016, gw_63, by decide +kernel, GG_good⟩
theorem cd_M_start : cdV GG y_M_start b_M_start 1 none 0 := ⟨gw_859, gw_858, gw_21, gw_63, by decide +kernel, GG_good⟩
theorem cd_M_add : cdV GG y_M_add b_M_add 3 none 1 := ⟨gw_864, gw_863, gw_22, gw_63, by decide +kernel, GG_good⟩
theorem cd_M_end : cdV GG y_M_end b_M_end 3 (some .long) 0 := ⟨gw_869, gw_868, gw_23, gw_63, by decide +kernel, GG_good⟩
theorem cd_M_two : cdV GG y_M_two b_M_two 5 (some .long) 2 := ⟨gw_879, gw_878, gw_25, gw_63, by decide +kernel, GG_good⟩
theorem cd_M_three : cdV GG y_M_three b_M_three 7 (some .long) 3 := ⟨gw_1049, gw_1048, gw_32, gw_63, by decide +kernel, GG_good⟩
theorem cd_M_secret : cdV GG y_M_secret b_M_secret 4 (some .long) 3 := ⟨gw_855, gw_854, gw_20, gw_63, by decide +kernel, GG_good⟩
theorem cd_M_after : cdV GG y_M_after b_M_after 7 (some .long) 2 := ⟨gw_874, gw_873, gw_24, gw_63, by decide +kernel, GG_good⟩
theorem cd_M_leaf : cdV GG y_M_leaf b_M_leaf 2 (some .long) 0 := ⟨gw_883, gw_882, gw_26, gw_63, by decide +kernel, GG_good⟩
theorem cd_M_digitsOf : cdV GG y_M_digitsOf b_M_digitsOf 7 none 1 := ⟨gw_1057, gw_1056, gw_34, gw_63, by decide +kernel, GG_good⟩
theorem cd_M_signs : cdV GG y_M_signs b_M_signs 7 (some .boolean) 2 := ⟨gw_1089, gw_1088, gw_41, gw_63, by decide +kernel, GG_good⟩
theorem cd_M_good : cdV GG y_M_good b_M_good 8 (some .boolean) 2 := ⟨gw_1053, gw_1052, gw_33, gw_63, by decide +kernel, GG_good⟩
theorem cd_M_meant : cdV GG y_M_meant b_M_meant 4 (some .long) 3 := ⟨gw_1044, gw_1043, gw_31, gw_63, by decide +kernel, GG_good⟩
theorem cd_M_send : cdV GG y_M_send b_M_send 8 none 5 := ⟨gw_1036, gw_1035, gw_29, gw_63, by decide +kernel, GG_good⟩
theorem cd_M_copyMessage : cdV GG y_M_copyMessage b_M_copyMessage 4 none 2 := ⟨gw_1032, gw_1031, gw_28, gw_63, by decide +kernel, GG_good⟩
theorem cd_M_land : cdV GG y_M_land b_M_land 3 none 1 := ⟨gw_1028, gw_1027, gw_27, gw_63, by decide +kernel, GG_good⟩
theorem cd_M_isNode : cdS GG y_M_isNode b_M_isNode 1 (some .boolean) 1 := ⟨gw_1024, gw_1023, gw_63, by decide +kernel, GG_good⟩
theorem cd_M_isBlock : cdV GG y_M_isBlock b_M_isBlock 2 (some .boolean) 1 := ⟨gw_1144, gw_1143, gw_48, gw_63, by decide +kernel, GG_good⟩
theorem cd_M_isTransaction : cdV GG y_M_isTransaction b_M_isTransaction 2 (some .boolean) 1 := ⟨gw_1124, gw_1123, gw_47, gw_63, by decide +kernel, GG_good⟩
theorem cd_M_leader : cdS GG y_M_leader b_M_leader 1 (some .int) 1 := ⟨gw_1061, gw_1060, gw_63, by decide +kernel, GG_good⟩
theorem cd_M_below : cdV GG y_M_below b_M_below 4 (some .boolean) 2 := ⟨gw_1077, gw_1076, gw_38, gw_63, by decide +kernel, GG_good⟩
theorem cd_M_inChain : cdV GG y_M_inChain b_M_inChain 5 (some .boolean) 2 := ⟨gw_1104, gw_1103, gw_44, gw_63, by decide +kernel, GG_good⟩
theorem cd_M_newBlock : cdV GG y_M_newBlock b_M_newBlock 5 (some .int) 4 := ⟨gw_1108, gw_1107, gw_45, gw_63, by decide +kernel, GG_good⟩
theorem cd_M_enter : cdV GG y_M_enter b_M_enter 3 none 2 := ⟨gw_1085, gw_1084, gw_40, gw_63, by decide +kernel, GG_good⟩
theorem cd_M_propose : cdV GG y_M_propose b_M_propose 5 none 1 := ⟨gw_1100, gw_1099, gw_43, gw_63, by decide +kernel, GG_good⟩
theorem cd_M_carryOut : cdV GG y_M_carryOut b_M_carryOut 4 none 2 := ⟨gw_1081, gw_1080, gw_39, gw_63, by decide +kernel, GG_good⟩
theorem cd_M_commit : cdV GG y_M_commit b_M_commit 8 none 2 := ⟨gw_1073, gw_1072, gw_37, gw_63, by decide +kernel, GG_good⟩
theorem cd_M_takes : cdV GG y_M_takes b_M_takes 5 none 2 := ⟨gw_1069, gw_1068, gw_36, gw_63, by decide +kernel, GG_good⟩
theorem cd_M_proposal : cdV GG y_M_proposal b_M_proposal 7 none 3 := ⟨gw_1065, gw_1064, gw_35, gw_63, by decide +kernel, GG_good⟩
theorem cd_M_bits : cdS GG y_M_bits b_M_bits 1 (some .int) 1 := ⟨gw_1096, gw_1095, gw_63, by decide +kernel, GG_good⟩
theorem cd_M_vote : cdV GG y_M_vote b_M_vote 6 none 3 := ⟨gw_1093, gw_1092, gw_42, gw_63, by decide +kernel, GG_good⟩
theorem cd_M_timeout : cdV GG y_M_timeout b_M_timeout 6 none 4 := ⟨gw_1112, gw_1111, gw_46, gw_63, by decide +kernel, GG_good⟩
theorem cd_M_comes : cdV GG y_M_comes b_M_comes 4 none 3 := ⟨gw_1040, gw_1039, gw_30, gw_63, by decide +kernel, GG_good⟩
theorem cd_M_deliver : cdV GG y_M_deliver b_M_deliver 8 (some .int) 1 := ⟨gw_1021, gw_1019, gw_1020, gw_63, by decide +kernel, GG_good⟩
theorem cd_M_transaction : cdV GG y_M_transaction b_M_transaction 5 (some .int) 4 := ⟨gw_1116, gw_1114, gw_1115, gw_63, by decide +kernel, GG_good⟩
theorem cd_M_submit : cdV GG y_M_submit b_M_submit 5 (some .boolean) 2 := ⟨gw_1120, gw_1118, gw_1119, gw_63, by decide +kernel, GG_good⟩
theorem cd_M_begin : cdV GG y_M_begin b_M_begin 1 (some .boolean) 0 := ⟨gw_1128, gw_1126, gw_1127, gw_63, by decide +kernel, GG_good⟩
theorem cd_M_disturb : cdV GG y_M_disturb b_M_disturb 9 (some .boolean) 2 := ⟨gw_1132, gw_1130, gw_1131, gw_63, by decide +kernel, GG_good⟩
theorem cd_M_alter : cdV GG y_M_alter b_M_alter 5 (some .boolean) 3 := ⟨gw_1136, gw_1134, gw_1135, gw_63, by decide +kernel, GG_good⟩
theorem cd_M_lie : cdV GG y_M_lie b_M_lie 8 (some .int) 4 := ⟨gw_1140, gw_1138, gw_1139, gw_63, by decide +kernel, GG_good⟩
theorem cd_M_lieVote : cdV GG y_M_lieVote b_M_lieVote 4 (some .boolean) 2 := ⟨gw_1148, gw_1146, gw_1147, gw_63, by decide +kernel, GG_good⟩
theorem cd_M_beats : cdV GG y_M_beats b_M_beats 3 none 1 := ⟨gw_1156, gw_1155, gw_49, gw_63, by decide +kernel, GG_good⟩
theorem cd_M_tick : cdV GG y_M_tick b_M_tick 2 (some .int) 0 := ⟨gw_1152, gw_1150, gw_1151, gw_63, by decide +kernel, GG_good⟩
theorem cd_M_crash : cdV GG y_M_crash b_M_crash 3 (some .boolean) 1 := ⟨gw_1160, gw_1158, gw_1159, gw_63, by decide +kernel, GG_good⟩
theorem cd_M_restart : cdV GG y_M_restart b_M_restart 5 (some .boolean) 1 := ⟨gw_1164, gw_1162, gw_1163, gw_63, by decide +kernel, GG_good⟩
theorem cd_M_hasAll : cdV GG y_M_hasAll b_M_hasAll 4 (some .int) 1 := ⟨gw_1172, gw_1171, gw_50, gw_63, by decide +kernel, GG_good⟩
theorem cd_M_node : cdV GG y_M_node b_M_node 3 (some .int) 2 := ⟨gw_1168, gw_1166, gw_1167, gw_63, by decide +kernel, GG_good⟩
theorem cd_M_log : cdV GG y_M_log b_M_log 3 (some .int) 2 := ⟨gw_1176, gw_1174, gw_1175, gw_63, by decide +kernel, GG_good⟩
theorem cd_M_account : cdV GG y_M_account b_M_account 4 (some .int) 3 := ⟨gw_1180, gw_1178, gw_1179, gw_63, by decide +kernel, GG_good⟩
theorem cd_M_block : cdV GG y_M_block b_M_block 3 (some .int) 2 := ⟨gw_1184, gw_1182, gw_1183, gw_63, by decide +kernel, GG_good⟩
theorem cd_M_message : cdV GG y_M_message b_M_message 5 (some .int) 3 := ⟨gw_1188, gw_1186, gw_1187, gw_63, by decide +kernel, GG_good⟩
theorem cd_M_root : cdV GG y_M_root b_M_root 2 (some .long) 1 := ⟨gw_1192, gw_1190, gw_1191, gw_63, by decide +kernel, GG_good⟩
theorem cd_M_about : cdV GG y_M_about b_M_about 2 (some .int) 1 := ⟨gw_1196, gw_1194, gw_1195, gw_63, by decide +kernel, GG_good⟩
