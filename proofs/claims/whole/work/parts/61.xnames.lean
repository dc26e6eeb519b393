abbrev b_QC_transaction : ByteArray := prog_1_method_2_code
def y_QC_transaction : MethodName := ⟨R_QC, "transaction", "(IIII)I"⟩
abbrev b_QC_submit : ByteArray := prog_1_method_3_code
def y_QC_submit : MethodName := ⟨R_QC, "submit", "(II)Z"⟩
abbrev b_QC_begin : ByteArray := prog_1_method_4_code
def y_QC_begin : MethodName := ⟨R_QC, "begin", "()Z"⟩
abbrev b_QC_deliver : ByteArray := prog_1_method_5_code
def y_QC_deliver : MethodName := ⟨R_QC, "deliver", "(I)I"⟩
abbrev b_QC_disturb : ByteArray := prog_1_method_6_code
def y_QC_disturb : MethodName := ⟨R_QC, "disturb", "(II)Z"⟩
abbrev b_QC_alter : ByteArray := prog_1_method_7_code
def y_QC_alter : MethodName := ⟨R_QC, "alter", "(IIJ)Z"⟩
abbrev b_QC_lie : ByteArray := prog_1_method_8_code
def y_QC_lie : MethodName := ⟨R_QC, "lie", "(IIII)I"⟩
abbrev b_QC_lieVote : ByteArray := prog_1_method_9_code
def y_QC_lieVote : MethodName := ⟨R_QC, "lieVote", "(II)Z"⟩
abbrev b_QC_crash : ByteArray := prog_1_method_11_code
def y_QC_crash : MethodName := ⟨R_QC, "crash", "(I)Z"⟩
abbrev b_QC_restart : ByteArray := prog_1_method_12_code
def y_QC_restart : MethodName := ⟨R_QC, "restart", "(I)Z"⟩
theorem gw_67 : (Jvm.Cond.initialized "java/lang/IllegalArgumentException") ∈ GG := GG_in (i := 67) (by decide +kernel) (by decide +kernel)
theorem gw_68 : (Jvm.Cond.initialized "java/lang/IllegalStateException") ∈ GG := GG_in (i := 68) (by decide +kernel) (by decide +kernel)
theorem gw_138 : (Jvm.Cond.fieldLink "QuorumChain" (166 : Nat) "QuorumChain$Message" "signature" "[J") ∈ GG := GG_in (i := 138) (by decide +kernel) (by decide +kernel)
theorem gw_348 : (Jvm.Cond.fieldLink "QuorumChain" (36 : Nat) "QuorumChain" "arrived" "LQuorumChain$Message;") ∈ GG := GG_in (i := 348) (by decide +kernel) (by decide +kernel)
theorem gw_350 : (Jvm.Cond.fieldLink "QuorumChain" (85 : Nat) "QuorumChain" "begun" "Z") ∈ GG := GG_in (i := 350) (by decide +kernel) (by decide +kernel)
theorem gw_506 : (Jvm.Cond.instanceMethod ({ cls := "QuorumChain", name := "transaction", desc := "(IIII)I" } : Jvm.MethodName)) ∈ GG := GG_in (i := 506) (by decide +kernel) (by decide +kernel)
theorem gw_507 : (Jvm.Cond.selects "QuorumChain" ({ cls := "QuorumChain", name := "transaction", desc := "(IIII)I" } : Jvm.MethodName) ({ cls := "QuorumChain", name := "transaction", desc := "(IIII)I" } : Jvm.MethodName)) ∈ GG := GG_in (i := 507) (by decide +kernel) (by decide +kernel)
theorem gw_508 : (Jvm.Cond.code ({ cls := "QuorumChain", name := "transaction", desc := "(IIII)I" } : Jvm.MethodName) prog_1_method_2_code (5 : Nat) (Option.some Jvm.ClassFile.FieldType.int)) ∈ GG := GG_in (i := 508) (by decide +kernel) (by decide +kernel)
theorem gw_509 : (Jvm.Cond.classLink "QuorumChain" (46 : Nat) "java/lang/IllegalArgumentException") ∈ GG := GG_in (i := 509) (by decide +kernel) (by decide +kernel)
theorem gw_510 : (Jvm.Cond.instantiable "java/lang/IllegalArgumentException" (6 : Nat)) ∈ GG := GG_in (i := 510) (by decide +kernel) (by decide +kernel)
theorem gw_577 : (Jvm.Cond.classLink "QuorumChain" (59 : Nat) "java/lang/IllegalStateException") ∈ GG := GG_in (i := 577) (by decide +kernel) (by decide +kernel)
theorem gw_578 : (Jvm.Cond.instantiable "java/lang/IllegalStateException" (6 : Nat)) ∈ GG := GG_in (i := 578) (by decide +kernel) (by decide +kernel)
theorem gw_593 : (Jvm.Cond.methodLink "QuorumChain" (64 : Nat) ({ cls := "QuorumChain$Transactions", name := "add", desc := "(IIII)I" } : Jvm.MethodName)) ∈ GG := GG_in (i := 593) (by decide +kernel) (by decide +kernel)
theorem gw_601 : (Jvm.Cond.instanceMethod ({ cls := "QuorumChain", name := "submit", desc := "(II)Z" } : Jvm.MethodName)) ∈ GG := GG_in (i := 601) (by decide +kernel) (by decide +kernel)
theorem gw_602 : (Jvm.Cond.selects "QuorumChain" ({ cls := "QuorumChain", name := "submit", desc := "(II)Z" } : Jvm.MethodName) ({ cls := "QuorumChain", name := "submit", desc := "(II)Z" } : Jvm.MethodName)) ∈ GG := GG_in (i := 602) (by decide +kernel) (by decide +kernel)
theorem gw_603 : (Jvm.Cond.code ({ cls := "QuorumChain", name := "submit", desc := "(II)Z" } : Jvm.MethodName) prog_1_method_3_code (3 : Nat) (Option.some Jvm.ClassFile.FieldType.boolean)) ∈ GG := GG_in (i := 603) (by decide +kernel) (by decide +kernel)
theorem gw_604 : (Jvm.Cond.methodLink "QuorumChain" (71 : Nat) ({ cls := "QuorumChain$Transactions", name := "exists", desc := "(I)Z" } : Jvm.MethodName)) ∈ GG := GG_in (i := 604) (by decide +kernel) (by decide +kernel)
theorem gw_610 : (Jvm.Cond.methodLink "QuorumChain" (82 : Nat) ({ cls := "QuorumChain$Node", name := "addToPool", desc := "(I)Z" } : Jvm.MethodName)) ∈ GG := GG_in (i := 610) (by decide +kernel) (by decide +kernel)
theorem gw_618 : (Jvm.Cond.instanceMethod ({ cls := "QuorumChain", name := "begin", desc := "()Z" } : Jvm.MethodName)) ∈ GG := GG_in (i := 618) (by decide +kernel) (by decide +kernel)
theorem gw_619 : (Jvm.Cond.selects "QuorumChain" ({ cls := "QuorumChain", name := "begin", desc := "()Z" } : Jvm.MethodName) ({ cls := "QuorumChain", name := "begin", desc := "()Z" } : Jvm.MethodName)) ∈ GG := GG_in (i := 619) (by decide +kernel) (by decide +kernel)
theorem gw_620 : (Jvm.Cond.code ({ cls := "QuorumChain", name := "begin", desc := "()Z" } : Jvm.MethodName) prog_1_method_4_code (2 : Nat) (Option.some Jvm.ClassFile.FieldType.boolean)) ∈ GG := GG_in (i := 620) (by decide +kernel) (by decide +kernel)
theorem gw_648 : (Jvm.Cond.instanceMethod ({ cls := "QuorumChain", name := "deliver", desc := "(I)I" } : Jvm.MethodName)) ∈ GG := GG_in (i := 648) (by decide +kernel) (by decide +kernel)
theorem gw_649 : (Jvm.Cond.selects "QuorumChain" ({ cls := "QuorumChain", name := "deliver", desc := "(I)I" } : Jvm.MethodName) ({ cls := "QuorumChain", name := "deliver", desc := "(I)I" } : Jvm.MethodName)) ∈ GG := GG_in (i := 649) (by decide +kernel) (by decide +kernel)
theorem gw_650 : (Jvm.Cond.code ({ cls := "QuorumChain", name := "deliver", desc := "(I)I" } : Jvm.MethodName) prog_1_method_5_code (3 : Nat) (Option.some Jvm.ClassFile.FieldType.int)) ∈ GG := GG_in (i := 650) (by decide +kernel) (by decide +kernel)
theorem gw_653 : (Jvm.Cond.methodLink "QuorumChain" (108 : Nat) ({ cls := "QuorumChain$Inbox", name := "first", desc := "()LQuorumChain$Message;" } : Jvm.MethodName)) ∈ GG := GG_in (i := 653) (by decide +kernel) (by decide +kernel)
theorem gw_657 : (Jvm.Cond.methodLink "QuorumChain" (112 : Nat) ({ cls := "QuorumChain$Message", name := "copyFrom", desc := "(LQuorumChain$Message;)V" } : Jvm.MethodName)) ∈ GG := GG_in (i := 657) (by decide +kernel) (by decide +kernel)
theorem gw_658 : (Jvm.Cond.methodLink "QuorumChain" (116 : Nat) ({ cls := "QuorumChain$Inbox", name := "dropFirst", desc := "()V" } : Jvm.MethodName)) ∈ GG := GG_in (i := 658) (by decide +kernel) (by decide +kernel)
theorem gw_666 : (Jvm.Cond.methodLink "QuorumChain" (119 : Nat) ({ cls := "QuorumChain", name := "isHeard", desc := "(LQuorumChain$Message;)Z" } : Jvm.MethodName)) ∈ GG := GG_in (i := 666) (by decide +kernel) (by decide +kernel)
theorem gw_678 : (Jvm.Cond.methodLink "QuorumChain" (132 : Nat) ({ cls := "QuorumChain", name := "receiveProposal", desc := "(LQuorumChain$Node;II)V" } : Jvm.MethodName)) ∈ GG := GG_in (i := 678) (by decide +kernel) (by decide +kernel)
theorem gw_743 : (Jvm.Cond.methodLink "QuorumChain" (136 : Nat) ({ cls := "QuorumChain", name := "receiveVote", desc := "(LQuorumChain$Node;II)V" } : Jvm.MethodName)) ∈ GG := GG_in (i := 743) (by decide +kernel) (by decide +kernel)
theorem gw_761 : (Jvm.Cond.methodLink "QuorumChain" (140 : Nat) ({ cls := "QuorumChain", name := "receiveTimeout", desc := "(LQuorumChain$Node;III)V" } : Jvm.MethodName)) ∈ GG := GG_in (i := 761) (by decide +kernel) (by decide +kernel)
theorem gw_765 : (Jvm.Cond.methodLink "QuorumChain" (144 : Nat) ({ cls := "QuorumChain", name := "receiveAsk", desc := "(LQuorumChain$Node;II)V" } : Jvm.MethodName)) ∈ GG := GG_in (i := 765) (by decide +kernel) (by decide +kernel)
theorem gw_769 : (Jvm.Cond.methodLink "QuorumChain" (147 : Nat) ({ cls := "QuorumChain", name := "receiveBlock", desc := "(LQuorumChain$Node;II)V" } : Jvm.MethodName)) ∈ GG := GG_in (i := 769) (by decide +kernel) (by decide +kernel)
theorem gw_777 : (Jvm.Cond.instanceMethod ({ cls := "QuorumChain", name := "disturb", desc := "(II)Z" } : Jvm.MethodName)) ∈ GG := GG_in (i := 777) (by decide +kernel) (by decide +kernel)
theorem gw_778 : (Jvm.Cond.selects "QuorumChain" ({ cls := "QuorumChain", name := "disturb", desc := "(II)Z" } : Jvm.MethodName) ({ cls := "QuorumChain", name := "disturb", desc := "(II)Z" } : Jvm.MethodName)) ∈ GG := GG_in (i := 778) (by decide +kernel) (by decide +kernel)
theorem gw_779 : (Jvm.Cond.code ({ cls := "QuorumChain", name := "disturb", desc := "(II)Z" } : Jvm.MethodName) prog_1_method_6_code (4 : Nat) (Option.some Jvm.ClassFile.FieldType.boolean)) ∈ GG := GG_in (i := 779) (by decide +kernel) (by decide +kernel)
theorem gw_782 : (Jvm.Cond.methodLink "QuorumChain" (154 : Nat) ({ cls := "QuorumChain$Inbox", name := "moveFirstBehind", desc := "()V" } : Jvm.MethodName)) ∈ GG := GG_in (i := 782) (by decide +kernel) (by decide +kernel)
theorem gw_787 : (Jvm.Cond.instanceMethod ({ cls := "QuorumChain", name := "alter", desc := "(IIJ)Z" } : Jvm.MethodName)) ∈ GG := GG_in (i := 787) (by decide +kernel) (by decide +kernel)
theorem gw_788 : (Jvm.Cond.selects "QuorumChain" ({ cls := "QuorumChain", name := "alter", desc := "(IIJ)Z" } : Jvm.MethodName) ({ cls := "QuorumChain", name := "alter", desc := "(IIJ)Z" } : Jvm.MethodName)) ∈ GG := GG_in (i := 788) (by decide +kernel) (by decide +kernel)
theorem gw_789 : (Jvm.Cond.code ({ cls := "QuorumChain", name := "alter", desc := "(IIJ)Z" } : Jvm.MethodName) prog_1_method_7_code (6 : Nat) (Option.some Jvm.ClassFile.FieldType.boolean)) ∈ GG := GG_in (i := 789) (by decide +kernel) (by decide +kernel)
theorem gw_796 : (Jvm.Cond.instanceMethod ({ cls := "QuorumChain", name := "lie", desc := "(IIII)I" } : Jvm.MethodName)) ∈ GG := GG_in (i := 796) (by decide +kernel) (by decide +kernel)
theorem gw_797 : (Jvm.Cond.selects "QuorumChain" ({ cls := "QuorumChain", name := "lie", desc := "(IIII)I" } : Jvm.MethodName) ({ cls := "QuorumChain", name := "lie", desc := "(IIII)I" } : Jvm.MethodName)) ∈ GG := GG_in (i := 797) (by decide +kernel) (by decide +kernel)
theorem gw_798 : (Jvm.Cond.code ({ cls := "QuorumChain", name := "lie", desc := "(IIII)I" } : Jvm.MethodName) prog_1_method_8_code (7 : Nat) (Option.some Jvm.ClassFile.FieldType.int)) ∈ GG := GG_in (i := 798) (by decide +kernel) (by decide +kernel)
theorem gw_801 : (Jvm.Cond.methodLink "QuorumChain" (189 : Nat) ({ cls := "QuorumChain$KeyTree", name := "isLeft", desc := "()Z" } : Jvm.MethodName)) ∈ GG := GG_in (i := 801) (by decide +kernel) (by decide +kernel)
theorem gw_808 : (Jvm.Cond.instanceMethod ({ cls := "QuorumChain", name := "lieVote", desc := "(II)Z" } : Jvm.MethodName)) ∈ GG := GG_in (i := 808) (by decide +kernel) (by decide +kernel)
theorem gw_809 : (Jvm.Cond.selects "QuorumChain" ({ cls := "QuorumChain", name := "lieVote", desc := "(II)Z" } : Jvm.MethodName) ({ cls := "QuorumChain", name := "lieVote", desc := "(II)Z" } : Jvm.MethodName)) ∈ GG := GG_in (i := 809) (by decide +kernel) (by decide +kernel)
theorem gw_810 : (Jvm.Cond.code ({ cls := "QuorumChain", name := "lieVote", desc := "(II)Z" } : Jvm.MethodName) prog_1_method_9_code (4 : Nat) (Option.some Jvm.ClassFile.FieldType.boolean)) ∈ GG := GG_in (i := 810) (by decide +kernel) (by decide +kernel)
theorem gw_817 : (Jvm.Cond.instanceMethod ({ cls := "QuorumChain", name := "crash", desc := "(I)Z" } : Jvm.MethodName)) ∈ GG := GG_in (i := 817) (by decide +kernel) (by decide +kernel)
theorem gw_818 : (Jvm.Cond.selects "QuorumChain" ({ cls := "QuorumChain", name := "crash", desc := "(I)Z" } : Jvm.MethodName) ({ cls := "QuorumChain", name := "crash", desc := "(I)Z" } : Jvm.MethodName)) ∈ GG := GG_in (i := 818) (by decide +kernel) (by decide +kernel)
theorem gw_819 : (Jvm.Cond.code ({ cls := "QuorumChain", name := "crash", desc := "(I)Z" } : Jvm.MethodName) prog_1_method_11_code (2 : Nat) (Option.some Jvm.ClassFile.FieldType.boolean)) ∈ GG := GG_in (i := 819) (by decide +kernel) (by decide +kernel)
theorem gw_820 : (Jvm.Cond.methodLink "QuorumChain" (230 : Nat) ({ cls := "QuorumChain$Node", name := "fall", desc := "()V" } : Jvm.MethodName)) ∈ GG := GG_in (i := 820) (by decide +kernel) (by decide +kernel)
theorem gw_832 : (Jvm.Cond.instanceMethod ({ cls := "QuorumChain", name := "restart", desc := "(I)Z" } : Jvm.MethodName)) ∈ GG := GG_in (i := 832) (by decide +kernel) (by decide +kernel)
theorem gw_833 : (Jvm.Cond.selects "QuorumChain" ({ cls := "QuorumChain", name := "restart", desc := "(I)Z" } : Jvm.MethodName) ({ cls := "QuorumChain", name := "restart", desc := "(I)Z" } : Jvm.MethodName)) ∈ GG := GG_in (i := 833) (by decide +kernel) (by decide +kernel)
theorem gw_834 : (Jvm.Cond.code ({ cls := "QuorumChain", name := "restart", desc := "(I)Z" } : Jvm.MethodName) prog_1_method_12_code (2 : Nat) (Option.some Jvm.ClassFile.FieldType.boolean)) ∈ GG := GG_in (i := 834) (by decide +kernel) (by decide +kernel)
theorem gw_836 : (Jvm.Cond.methodLink "QuorumChain" (235 : Nat) ({ cls := "QuorumChain", name := "highestParent", desc := "(LQuorumChain$Store;)I" } : Jvm.MethodName)) ∈ GG := GG_in (i := 836) (by decide +kernel) (by decide +kernel)
theorem gw_840 : (Jvm.Cond.methodLink "QuorumChain" (239 : Nat) ({ cls := "QuorumChain$Node", name := "rise", desc := "(I)V" } : Jvm.MethodName)) ∈ GG := GG_in (i := 840) (by decide +kernel) (by decide +kernel)
theorem cd_QC_transaction : cdV GG y_QC_transaction b_QC_transaction 5 (some .int) 4 := ⟨gw_508, gw_506, gw_507, gw_52, by decide +kernel, GG_good⟩
theorem cd_QC_submit : cdV GG y_QC_submit b_QC_submit 3 (some .boolean) 2 := ⟨gw_603, gw_601, gw_602, gw_52, by decide +kernel, GG_good⟩
theorem cd_QC_begin : cdV GG y_QC_begin b_QC_begin 2 (some .boolean) 0 := ⟨gw_620, gw_618, gw_619, gw_52, by decide +kernel, GG_good⟩
theorem cd_QC_deliver : cdV GG y_QC_deliver b_QC_deliver 3 (some .int) 1 := ⟨gw_650, gw_648, gw_649, gw_52, by decide +kernel, GG_good⟩
theorem cd_QC_disturb : cdV GG y_QC_disturb b_QC_disturb 4 (some .boolean) 2 := ⟨gw_779, gw_777, gw_778, gw_52, by decide +kernel, GG_good⟩
theorem cd_QC_alter : cdV GG y_QC_alter b_QC_alter 6 (some .boolean) 3 := ⟨gw_789, gw_787, gw_788, gw_52, by decide +kernel, GG_good⟩
theorem cd_QC_lie : cdV GG y_QC_lie b_QC_lie 7 (some .int) 4 := ⟨gw_798, gw_796, gw_797, gw_52, by decide +kernel, GG_good⟩
theorem cd_QC_lieVote : cdV GG y_QC_lieVote b_QC_lieVote 4 (some .boolean) 2 := ⟨gw_810, gw_808, gw_809, gw_52, by decide +kernel, GG_good⟩
theorem cd_QC_crash : cdV GG y_QC_crash b_QC_crash 2 (some .boolean) 1 := ⟨gw_819, gw_817, gw_818, gw_52, by decide +kernel, GG_good⟩
theorem cd_QC_restart : cdV GG y_QC_restart b_QC_restart 2 (some .boolean) 1 := ⟨gw_834, gw_832, gw_833, gw_52, by decide +kernel, GG_good⟩
