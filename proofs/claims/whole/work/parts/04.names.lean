/-! Names: classes, methods, their words. Written by wip/whole/make.py. -/
def GG : List Cond := lw_tbl.filter goodWord
theorem GG_good : ∀ w ∈ GG, goodWord w = true := fun w h => (List.mem_filter.mp h).2
theorem GG_in {w : Cond} {i : Nat} (h : lw_tbl[i]? = some w) (hg : goodWord w = true) : w ∈ GG := List.mem_filter.mpr ⟨List.mem_of_getElem? h, hg⟩
def R_Message : String := "QuorumChain$Message"
def F_Message : u_T := fun k => match k with
  | 0 => ("QuorumChain$Message", "signature", "[J", true)
  | 1 => ("QuorumChain$Message", "kind", "I", false)
  | 2 => ("QuorumChain$Message", "sender", "I", false)
  | 3 => ("QuorumChain$Message", "block", "I", false)
  | 4 => ("QuorumChain$Message", "view", "I", false)
  | _ => ("QuorumChain$Message", "key", "I", false)
def t_Message : Nat → FieldType := fun k => match k with
  | 0 => .array .long
  | 1 => .int
  | 2 => .int
  | 3 => .int
  | 4 => .int
  | _ => .int
theorem nmo_Message : ∀ a, a < 6 → ∀ b, b < 6 → a ≠ b → (F_Message a).2.1 ≠ (F_Message b).2.1 := by decide +kernel
theorem tyo_Message : ∀ k, k < 6 → parseFieldDescriptor (F_Message k).2.2.1 = some (t_Message k) := by decide +kernel
theorem pn_Message : plainName R_Message = true := by decide +kernel
def R_KeyTree : String := "QuorumChain$KeyTree"
def F_KeyTree : u_T := fun k => match k with
  | 0 => ("QuorumChain$KeyTree", "tree", "[J", true)
  | 1 => ("QuorumChain$KeyTree", "seed", "I", true)
  | 2 => ("QuorumChain$KeyTree", "owner", "I", true)
  | _ => ("QuorumChain$KeyTree", "used", "I", false)
def t_KeyTree : Nat → FieldType := fun k => match k with
  | 0 => .array .long
  | 1 => .int
  | 2 => .int
  | _ => .int
theorem nmo_KeyTree : ∀ a, a < 4 → ∀ b, b < 4 → a ≠ b → (F_KeyTree a).2.1 ≠ (F_KeyTree b).2.1 := by decide +kernel
theorem tyo_KeyTree : ∀ k, k < 4 → parseFieldDescriptor (F_KeyTree k).2.2.1 = some (t_KeyTree k) := by decide +kernel
theorem pn_KeyTree : plainName R_KeyTree = true := by decide +kernel
def R_Fold : String := "QuorumChain$Fold"
theorem pn_Fold : plainName R_Fold = true := by decide +kernel
def R_QC : String := "QuorumChain"
def F_QC : u_T := fun k => match k with
  | 0 => ("QuorumChain", "nodes", "[LQuorumChain$Node;", true)
  | 1 => ("QuorumChain", "blocks", "LQuorumChain$Blocks;", true)
  | 2 => ("QuorumChain", "transactions", "LQuorumChain$Transactions;", true)
  | 3 => ("QuorumChain", "draft", "LQuorumChain$Message;", true)
  | 4 => ("QuorumChain", "arrived", "LQuorumChain$Message;", true)
  | 5 => ("QuorumChain", "clock", "I", false)
  | _ => ("QuorumChain", "begun", "Z", false)
def t_QC : Nat → FieldType := fun k => match k with
  | 0 => .array (.object "QuorumChain$Node")
  | 1 => .object "QuorumChain$Blocks"
  | 2 => .object "QuorumChain$Transactions"
  | 3 => .object "QuorumChain$Message"
  | 4 => .object "QuorumChain$Message"
  | 5 => .int
  | _ => .boolean
theorem nmo_QC : ∀ a, a < 7 → ∀ b, b < 7 → a ≠ b → (F_QC a).2.1 ≠ (F_QC b).2.1 := by decide +kernel
theorem tyo_QC : ∀ k, k < 7 → parseFieldDescriptor (F_QC k).2.2.1 = some (t_QC k) := by decide +kernel
theorem pn_QC : plainName R_QC = true := by decide +kernel
def R_Inbox : String := "QuorumChain$Inbox"
def F_Inbox : u_T := fun k => match k with
  | 0 => ("QuorumChain$Inbox", "row", "[LQuorumChain$Message;", true)
  | _ => ("QuorumChain$Inbox", "count", "I", false)
def t_Inbox : Nat → FieldType := fun k => match k with
  | 0 => .array (.object "QuorumChain$Message")
  | _ => .int
theorem nmo_Inbox : ∀ a, a < 2 → ∀ b, b < 2 → a ≠ b → (F_Inbox a).2.1 ≠ (F_Inbox b).2.1 := by decide +kernel
theorem tyo_Inbox : ∀ k, k < 2 → parseFieldDescriptor (F_Inbox k).2.2.1 = some (t_Inbox k) := by decide +kernel
theorem pn_Inbox : plainName R_Inbox = true := by decide +kernel
def R_Store : String := "QuorumChain$Store"
def F_Store : u_T := fun k => match k with
  | 0 => ("QuorumChain$Store", "has", "[Z", true)
  | 1 => ("QuorumChain$Store", "log", "[I", true)
  | 2 => ("QuorumChain$Store", "accounts", "LQuorumChain$Accounts;", true)
  | 3 => ("QuorumChain$Store", "keys", "LQuorumChain$KeyTree;", true)
  | 4 => ("QuorumChain$Store", "blockCount", "I", false)
  | 5 => ("QuorumChain$Store", "logLength", "I", false)
  | 6 => ("QuorumChain$Store", "voted", "I", false)
  | _ => ("QuorumChain$Store", "locked", "I", false)
def t_Store : Nat → FieldType := fun k => match k with
  | 0 => .array .boolean
  | 1 => .array .int
  | 2 => .object "QuorumChain$Accounts"
  | 3 => .object "QuorumChain$KeyTree"
  | 4 => .int
  | 5 => .int
  | 6 => .int
  | _ => .int
theorem nmo_Store : ∀ a, a < 8 → ∀ b, b < 8 → a ≠ b → (F_Store a).2.1 ≠ (F_Store b).2.1 := by decide +kernel
theorem tyo_Store : ∀ k, k < 8 → parseFieldDescriptor (F_Store k).2.2.1 = some (t_Store k) := by decide +kernel
theorem pn_Store : plainName R_Store = true := by decide +kernel
def R_Node : String := "QuorumChain$Node"
def F_Node : u_T := fun k => match k with
  | 0 => ("QuorumChain$Node", "id", "I", true)
  | 1 => ("QuorumChain$Node", "store", "LQuorumChain$Store;", true)
  | 2 => ("QuorumChain$Node", "inbox", "LQuorumChain$Inbox;", true)
  | 3 => ("QuorumChain$Node", "votes", "LQuorumChain$Tally;", true)
  | 4 => ("QuorumChain$Node", "timeouts", "LQuorumChain$Tally;", true)
  | 5 => ("QuorumChain$Node", "pool", "[I", true)
  | 6 => ("QuorumChain$Node", "poolSize", "I", false)
  | 7 => ("QuorumChain$Node", "up", "Z", false)
  | 8 => ("QuorumChain$Node", "view", "I", false)
  | 9 => ("QuorumChain$Node", "timer", "I", false)
  | 10 => ("QuorumChain$Node", "span", "I", false)
  | _ => ("QuorumChain$Node", "high", "I", false)
def t_Node : Nat → FieldType := fun k => match k with
  | 0 => .int
  | 1 => .object "QuorumChain$Store"
  | 2 => .object "QuorumChain$Inbox"
  | 3 => .object "QuorumChain$Tally"
  | 4 => .object "QuorumChain$Tally"
  | 5 => .array .int
  | 6 => .int
  | 7 => .boolean
  | 8 => .int
  | 9 => .int
  | 10 => .int
  | _ => .int
theorem nmo_Node : ∀ a, a < 12 → ∀ b, b < 12 → a ≠ b → (F_Node a).2.1 ≠ (F_Node b).2.1 := by decide +kernel
theorem tyo_Node : ∀ k, k < 12 → parseFieldDescriptor (F_Node k).2.2.1 = some (t_Node k) := by decide +kernel
theorem pn_Node : plainName R_Node = true := by decide +kernel
def R_Blocks : String := "QuorumChain$Blocks"
def F_Blocks : u_T := fun k => match k with
  | 0 => ("QuorumChain$Blocks", "view", "[I", true)
  | 1 => ("QuorumChain$Blocks", "parent", "[I", true)
  | 2 => ("QuorumChain$Blocks", "carried", "[I", true)
  | 3 => ("QuorumChain$Blocks", "certified", "[Z", true)
  | _ => ("QuorumChain$Blocks", "count", "I", false)
def t_Blocks : Nat → FieldType := fun k => match k with
  | 0 => .array .int
  | 1 => .array .int
  | 2 => .array .int
  | 3 => .array .boolean
  | _ => .int
theorem nmo_Blocks : ∀ a, a < 5 → ∀ b, b < 5 → a ≠ b → (F_Blocks a).2.1 ≠ (F_Blocks b).2.1 := by decide +kernel
theorem tyo_Blocks : ∀ k, k < 5 → parseFieldDescriptor (F_Blocks k).2.2.1 = some (t_Blocks k) := by decide +kernel
theorem pn_Blocks : plainName R_Blocks = true := by decide +kernel
def R_Transactions : String := "QuorumChain$Transactions"
def F_Transactions : u_T := fun k => match k with
  | 0 => ("QuorumChain$Transactions", "from", "[I", true)
  | 1 => ("QuorumChain$Transactions", "to", "[I", true)
  | 2 => ("QuorumChain$Transactions", "amount", "[I", true)
  | 3 => ("QuorumChain$Transactions", "nonce", "[I", true)
  | _ => ("QuorumChain$Transactions", "count", "I", false)
def t_Transactions : Nat → FieldType := fun k => match k with
  | 0 => .array .int
  | 1 => .array .int
  | 2 => .array .int
  | 3 => .array .int
  | _ => .int
theorem nmo_Transactions : ∀ a, a < 5 → ∀ b, b < 5 → a ≠ b → (F_Transactions a).2.1 ≠ (F_Transactions b).2.1 := by decide +kernel
theorem tyo_Transactions : ∀ k, k < 5 → parseFieldDescriptor (F_Transactions k).2.2.1 = some (t_Transactions k) := by decide +kernel
theorem pn_Transactions : plainName R_Transactions = true := by decide +kernel
def R_Accounts : String := "QuorumChain$Accounts"
def F_Accounts : u_T := fun k => match k with
  | 0 => ("QuorumChain$Accounts", "money", "[I", true)
  | _ => ("QuorumChain$Accounts", "nonce", "[I", true)
def t_Accounts : Nat → FieldType := fun k => match k with
  | 0 => .array .int
  | _ => .array .int
theorem nmo_Accounts : ∀ a, a < 2 → ∀ b, b < 2 → a ≠ b → (F_Accounts a).2.1 ≠ (F_Accounts b).2.1 := by decide +kernel
theorem tyo_Accounts : ∀ k, k < 2 → parseFieldDescriptor (F_Accounts k).2.2.1 = some (t_Accounts k) := by decide +kernel
theorem pn_Accounts : plainName R_Accounts = true := by decide +kernel
def R_Integer : String := "java/lang/Integer"
theorem pn_Integer : plainName R_Integer = true := by decide +kernel
def R_Tally : String := "QuorumChain$Tally"
def F_Tally : u_T := fun k => match k with
  | _ => ("QuorumChain$Tally", "bits", "[I", true)
def t_Tally : Nat → FieldType := fun k => match k with
  | _ => .array .int
theorem nmo_Tally : ∀ a, a < 1 → ∀ b, b < 1 → a ≠ b → (F_Tally a).2.1 ≠ (F_Tally b).2.1 := by decide +kernel
theorem tyo_Tally : ∀ k, k < 1 → parseFieldDescriptor (F_Tally k).2.2.1 = some (t_Tally k) := by decide +kernel
theorem pn_Tally : plainName R_Tally = true := by decide +kernel
abbrev b_Message_write : ByteArray := prog_7_method_2_code
def y_Message_write : MethodName := ⟨R_Message, "write", "(IIII)V"⟩
abbrev b_KeyTree_isLeft : ByteArray := prog_6_method_3_code
def y_KeyTree_isLeft : MethodName := ⟨R_KeyTree, "isLeft", "()Z"⟩
abbrev b_Fold_absorb : ByteArray := prog_4_method_2_code
def y_Fold_absorb : MethodName := ⟨R_Fold, "absorb", "(JJ)J"⟩
abbrev b_Fold_finish : ByteArray := prog_4_method_3_code
def y_Fold_finish : MethodName := ⟨R_Fold, "finish", "(J)J"⟩
abbrev b_Message_meaning : ByteArray := prog_7_method_4_code
def y_Message_meaning : MethodName := ⟨R_Message, "meaning", "()J"⟩
abbrev b_KeyTree_digit : ByteArray := prog_6_method_9_code
def y_KeyTree_digit : MethodName := ⟨R_KeyTree, "digit", "(II)I"⟩
abbrev b_KeyTree_digitsOf : ByteArray := prog_6_method_8_code
def y_KeyTree_digitsOf : MethodName := ⟨R_KeyTree, "digitsOf", "(J)I"⟩
abbrev b_KeyTree_secretOf : ByteArray := prog_6_method_7_code
def y_KeyTree_secretOf : MethodName := ⟨R_KeyTree, "secretOf", "(IIII)J"⟩
abbrev b_Fold_afterSteps : ByteArray := prog_4_method_5_code
def y_Fold_afterSteps : MethodName := ⟨R_Fold, "afterSteps", "(JI)J"⟩
abbrev b_KeyTree_sign : ByteArray := prog_6_method_4_code
def y_KeyTree_sign : MethodName := ⟨R_KeyTree, "sign", "(LQuorumChain$Message;)Z"⟩
abbrev b_QC_writeSigned : ByteArray := prog_1_method_40_code
def y_QC_writeSigned : MethodName := ⟨R_QC, "writeSigned", "(LQuorumChain$Node;III)Z"⟩
abbrev b_Message_copyFrom : ByteArray := prog_7_method_3_code
def y_Message_copyFrom : MethodName := ⟨R_Message, "copyFrom", "(LQuorumChain$Message;)V"⟩
abbrev b_Inbox_add : ByteArray := prog_5_method_3_code
def y_Inbox_add : MethodName := ⟨R_Inbox, "add", "(LQuorumChain$Message;)V"⟩
abbrev b_QC_sendDraftToAll : ByteArray := prog_1_method_41_code
def y_QC_sendDraftToAll : MethodName := ⟨R_QC, "sendDraftToAll", "()V"⟩
abbrev b_QC_countDown : ByteArray := prog_1_method_37_code
def y_QC_countDown : MethodName := ⟨R_QC, "countDown", "(LQuorumChain$Node;)V"⟩
abbrev b_QC_tick : ByteArray := prog_1_method_10_code
def y_QC_tick : MethodName := ⟨R_QC, "tick", "()I"⟩
abbrev b_QC_isNode : ByteArray := prog_1_method_20_code
def y_QC_isNode : MethodName := ⟨R_QC, "isNode", "(I)Z"⟩
abbrev b_QC_node : ByteArray := prog_1_method_13_code
def y_QC_node : MethodName := ⟨R_QC, "node", "(II)I"⟩
abbrev b_Store_logged : ByteArray := prog_9_method_4_code
def y_Store_logged : MethodName := ⟨R_Store, "logged", "(I)I"⟩
abbrev b_QC_log : ByteArray := prog_1_method_14_code
def y_QC_log : MethodName := ⟨R_QC, "log", "(II)I"⟩
abbrev b_QC_isAccount : ByteArray := prog_1_method_21_code
def y_QC_isAccount : MethodName := ⟨R_QC, "isAccount", "(I)Z"⟩
abbrev b_QC_account : ByteArray := prog_1_method_15_code
def y_QC_account : MethodName := ⟨R_QC, "account", "(III)I"⟩
abbrev b_Blocks_exists : ByteArray := prog_3_method_2_code
def y_Blocks_exists : MethodName := ⟨R_Blocks, "exists", "(I)Z"⟩
abbrev b_Blocks_viewOf : ByteArray := prog_3_method_4_code
def y_Blocks_viewOf : MethodName := ⟨R_Blocks, "viewOf", "(I)I"⟩
abbrev b_Blocks_parentOf : ByteArray := prog_3_method_5_code
def y_Blocks_parentOf : MethodName := ⟨R_Blocks, "parentOf", "(I)I"⟩
abbrev b_Blocks_transactionOf : ByteArray := prog_3_method_6_code
def y_Blocks_transactionOf : MethodName := ⟨R_Blocks, "transactionOf", "(I)I"⟩
abbrev b_Blocks_isCertified : ByteArray := prog_3_method_7_code
def y_Blocks_isCertified : MethodName := ⟨R_Blocks, "isCertified", "(I)Z"⟩
abbrev b_Store_hasBlock : ByteArray := prog_9_method_2_code
def y_Store_hasBlock : MethodName := ⟨R_Store, "hasBlock", "(I)Z"⟩
abbrev b_QC_nodesThatHave : ByteArray := prog_1_method_23_code
def y_QC_nodesThatHave : MethodName := ⟨R_QC, "nodesThatHave", "(I)I"⟩
abbrev b_QC_block : ByteArray := prog_1_method_16_code
def y_QC_block : MethodName := ⟨R_QC, "block", "(II)I"⟩
abbrev b_QC_message : ByteArray := prog_1_method_17_code
def y_QC_message : MethodName := ⟨R_QC, "message", "(III)I"⟩
abbrev b_KeyTree_top : ByteArray := prog_6_method_2_code
def y_KeyTree_top : MethodName := ⟨R_KeyTree, "top", "()J"⟩
abbrev b_QC_root : ByteArray := prog_1_method_18_code
def y_QC_root : MethodName := ⟨R_QC, "root", "(I)J"⟩
abbrev b_QC_about : ByteArray := prog_1_method_19_code
def y_QC_about : MethodName := ⟨R_QC, "about", "(I)I"⟩
abbrev b_QC_leaderOf : ByteArray := prog_1_method_22_code
def y_QC_leaderOf : MethodName := ⟨R_QC, "leaderOf", "(I)I"⟩
abbrev b_Blocks_isAbove : ByteArray := prog_3_method_9_code
def y_Blocks_isAbove : MethodName := ⟨R_Blocks, "isAbove", "(II)Z"⟩
abbrev b_QC_highestParent : ByteArray := prog_1_method_24_code
def y_QC_highestParent : MethodName := ⟨R_QC, "highestParent", "(LQuorumChain$Store;)I"⟩
abbrev b_Fold_pair : ByteArray := prog_4_method_4_code
def y_Fold_pair : MethodName := ⟨R_Fold, "pair", "(JJ)J"⟩
abbrev b_KeyTree_isGood : ByteArray := prog_6_method_5_code
def y_KeyTree_isGood : MethodName := ⟨R_KeyTree, "isGood", "(LQuorumChain$Message;)Z"⟩
abbrev b_QC_isHeard : ByteArray := prog_1_method_25_code
def y_QC_isHeard : MethodName := ⟨R_QC, "isHeard", "(LQuorumChain$Message;)Z"⟩
abbrev b_QC_sendUnsigned : ByteArray := prog_1_method_39_code
def y_QC_sendUnsigned : MethodName := ⟨R_QC, "sendUnsigned", "(LQuorumChain$Node;III)V"⟩
abbrev b_Store_keepBlock : ByteArray := prog_9_method_3_code
def y_Store_keepBlock : MethodName := ⟨R_Store, "keepBlock", "(I)V"⟩
abbrev b_QC_raiseHigh : ByteArray := prog_1_method_28_code
def y_QC_raiseHigh : MethodName := ⟨R_QC, "raiseHigh", "(LQuorumChain$Node;I)V"⟩
abbrev b_Blocks_isNextView : ByteArray := prog_3_method_10_code
def y_Blocks_isNextView : MethodName := ⟨R_Blocks, "isNextView", "(II)Z"⟩
abbrev b_Store_lastLogged : ByteArray := prog_9_method_5_code
def y_Store_lastLogged : MethodName := ⟨R_Store, "lastLogged", "()I"⟩
abbrev b_Blocks_stepsDown : ByteArray := prog_3_method_12_code
def y_Blocks_stepsDown : MethodName := ⟨R_Blocks, "stepsDown", "(II)I"⟩
abbrev b_Transactions_exists : ByteArray := prog_11_method_2_code
def y_Transactions_exists : MethodName := ⟨R_Transactions, "exists", "(I)Z"⟩
abbrev b_Accounts_move : ByteArray := prog_2_method_2_code
def y_Accounts_move : MethodName := ⟨R_Accounts, "move", "(IIII)V"⟩
abbrev b_Transactions_carryOut : ByteArray := prog_11_method_4_code
def y_Transactions_carryOut : MethodName := ⟨R_Transactions, "carryOut", "(ILQuorumChain$Accounts;)V"⟩
abbrev b_QC_commitUpTo : ByteArray := prog_1_method_38_code
def y_QC_commitUpTo : MethodName := ⟨R_QC, "commitUpTo", "(LQuorumChain$Store;I)V"⟩
abbrev b_QC_takeAsCertified : ByteArray := prog_1_method_27_code
def y_QC_takeAsCertified : MethodName := ⟨R_QC, "takeAsCertified", "(LQuorumChain$Node;I)V"⟩
abbrev b_Blocks_isBelow : ByteArray := prog_3_method_11_code
def y_Blocks_isBelow : MethodName := ⟨R_Blocks, "isBelow", "(II)Z"⟩
abbrev b_QC_mayVoteFor : ByteArray := prog_1_method_29_code
def y_QC_mayVoteFor : MethodName := ⟨R_QC, "mayVoteFor", "(LQuorumChain$Node;II)Z"⟩
abbrev b_Node_enter : ByteArray := prog_8_method_3_code
def y_Node_enter : MethodName := ⟨R_Node, "enter", "(I)V"⟩
abbrev b_QC_voteFor : ByteArray := prog_1_method_30_code
def y_QC_voteFor : MethodName := ⟨R_QC, "voteFor", "(LQuorumChain$Node;II)V"⟩
abbrev b_QC_receiveProposal : ByteArray := prog_1_method_26_code
def y_QC_receiveProposal : MethodName := ⟨R_QC, "receiveProposal", "(LQuorumChain$Node;II)V"⟩
abbrev b_Integer_bitCount : ByteArray := prog_17_method_49_code
def y_Integer_bitCount : MethodName := ⟨R_Integer, "bitCount", "(I)I"⟩
abbrev b_Tally_keep : ByteArray := prog_10_method_2_code
def y_Tally_keep : MethodName := ⟨R_Tally, "keep", "(II)I"⟩
abbrev b_Blocks_certify : ByteArray := prog_3_method_8_code
def y_Blocks_certify : MethodName := ⟨R_Blocks, "certify", "(I)V"⟩
abbrev b_Blocks_isInChain : ByteArray := prog_3_method_13_code
def y_Blocks_isInChain : MethodName := ⟨R_Blocks, "isInChain", "(II)Z"⟩
abbrev b_QC_firstNewTransaction : ByteArray := prog_1_method_36_code
def y_QC_firstNewTransaction : MethodName := ⟨R_QC, "firstNewTransaction", "(LQuorumChain$Node;)I"⟩
abbrev b_Blocks_add : ByteArray := prog_3_method_3_code
def y_Blocks_add : MethodName := ⟨R_Blocks, "add", "(III)I"⟩
abbrev b_QC_propose : ByteArray := prog_1_method_35_code
def y_QC_propose : MethodName := ⟨R_QC, "propose", "(LQuorumChain$Node;)V"⟩
abbrev b_QC_receiveVote : ByteArray := prog_1_method_31_code
def y_QC_receiveVote : MethodName := ⟨R_QC, "receiveVote", "(LQuorumChain$Node;II)V"⟩
abbrev b_QC_receiveTimeout : ByteArray := prog_1_method_32_code
def y_QC_receiveTimeout : MethodName := ⟨R_QC, "receiveTimeout", "(LQuorumChain$Node;III)V"⟩
abbrev b_QC_receiveAsk : ByteArray := prog_1_method_33_code
def y_QC_receiveAsk : MethodName := ⟨R_QC, "receiveAsk", "(LQuorumChain$Node;II)V"⟩
abbrev b_QC_receiveBlock : ByteArray := prog_1_method_34_code
def y_QC_receiveBlock : MethodName := ⟨R_QC, "receiveBlock", "(LQuorumChain$Node;II)V"⟩
abbrev b_Inbox_first : ByteArray := prog_5_method_2_code
def y_Inbox_first : MethodName := ⟨R_Inbox, "first", "()LQuorumChain$Message;"⟩
abbrev b_Inbox_moveFirstBehind : ByteArray := prog_5_method_4_code
def y_Inbox_moveFirstBehind : MethodName := ⟨R_Inbox, "moveFirstBehind", "()V"⟩
abbrev b_Inbox_dropFirst : ByteArray := prog_5_method_5_code
def y_Inbox_dropFirst : MethodName := ⟨R_Inbox, "dropFirst", "()V"⟩
abbrev b_KeyTree_leafOf : ByteArray := prog_6_method_6_code
def y_KeyTree_leafOf : MethodName := ⟨R_KeyTree, "leafOf", "(III)J"⟩
abbrev b_Node_addToPool : ByteArray := prog_8_method_2_code
def y_Node_addToPool : MethodName := ⟨R_Node, "addToPool", "(I)Z"⟩
abbrev b_Tally_empty : ByteArray := prog_10_method_3_code
def y_Tally_empty : MethodName := ⟨R_Tally, "empty", "()V"⟩
abbrev b_Node_fall : ByteArray := prog_8_method_4_code
def y_Node_fall : MethodName := ⟨R_Node, "fall", "()V"⟩
abbrev b_Node_rise : ByteArray := prog_8_method_5_code
def y_Node_rise : MethodName := ⟨R_Node, "rise", "(I)V"⟩
abbrev b_Transactions_add : ByteArray := prog_11_method_3_code
def y_Transactions_add : MethodName := ⟨R_Transactions, "add", "(IIII)I"⟩
