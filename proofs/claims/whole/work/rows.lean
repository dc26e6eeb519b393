section
-- ===== PART A: goes FIRST, ahead of the names: the tables' words, and 'selects' of the private methods out of them =====
/-- a private method of a class that the tables say can be made, by its rows of tables_1 -/
def lw_okq (q : MethodName × Nat) : Prop := (q.1.cls ≠ "java/lang/invoke/MethodHandle" ∧ q.1.cls ≠ "java/lang/invoke/VarHandle") ∧ Cond.instantiable q.1.cls q.2 ∈ tables_1 ∧ Cond.privateMethod q.1 ∈ tables_1 ∧ Cond.instanceMethod q.1 ∈ tables_1
theorem lw_p0 : lw_okq (⟨"QuorumChain", "countDown", "(LQuorumChain$Node;)V"⟩, 7) := ⟨⟨by decide +kernel, by decide +kernel⟩, List.mem_of_getElem? (i := 22) (by decide +kernel), List.mem_of_getElem? (i := 320) (by decide +kernel), List.mem_of_getElem? (i := 321) (by decide +kernel)⟩
theorem lw_p1 : lw_okq (⟨"QuorumChain", "writeSigned", "(LQuorumChain$Node;III)Z"⟩, 7) := ⟨⟨by decide +kernel, by decide +kernel⟩, List.mem_of_getElem? (i := 22) (by decide +kernel), List.mem_of_getElem? (i := 327) (by decide +kernel), List.mem_of_getElem? (i := 328) (by decide +kernel)⟩
theorem lw_p2 : lw_okq (⟨"QuorumChain", "sendDraftToAll", "()V"⟩, 7) := ⟨⟨by decide +kernel, by decide +kernel⟩, List.mem_of_getElem? (i := 22) (by decide +kernel), List.mem_of_getElem? (i := 357) (by decide +kernel), List.mem_of_getElem? (i := 358) (by decide +kernel)⟩
theorem lw_p3 : lw_okq (⟨"QuorumChain", "nodesThatHave", "(I)I"⟩, 7) := ⟨⟨by decide +kernel, by decide +kernel⟩, List.mem_of_getElem? (i := 22) (by decide +kernel), List.mem_of_getElem? (i := 423) (by decide +kernel), List.mem_of_getElem? (i := 424) (by decide +kernel)⟩
theorem lw_p4 : lw_okq (⟨"java/lang/Throwable", "fillInStackTrace", "(I)Ljava/lang/Throwable;"⟩, 6) := ⟨⟨by decide +kernel, by decide +kernel⟩, List.mem_of_getElem? (i := 496) (by decide +kernel), List.mem_of_getElem? (i := 494) (by decide +kernel), List.mem_of_getElem? (i := 495) (by decide +kernel)⟩
theorem lw_p5 : lw_okq (⟨"QuorumChain", "propose", "(LQuorumChain$Node;)V"⟩, 7) := ⟨⟨by decide +kernel, by decide +kernel⟩, List.mem_of_getElem? (i := 22) (by decide +kernel), List.mem_of_getElem? (i := 572) (by decide +kernel), List.mem_of_getElem? (i := 573) (by decide +kernel)⟩
theorem lw_p6 : lw_okq (⟨"QuorumChain", "firstNewTransaction", "(LQuorumChain$Node;)I"⟩, 7) := ⟨⟨by decide +kernel, by decide +kernel⟩, List.mem_of_getElem? (i := 22) (by decide +kernel), List.mem_of_getElem? (i := 576) (by decide +kernel), List.mem_of_getElem? (i := 577) (by decide +kernel)⟩
theorem lw_p7 : lw_okq (⟨"QuorumChain", "isHeard", "(LQuorumChain$Message;)Z"⟩, 7) := ⟨⟨by decide +kernel, by decide +kernel⟩, List.mem_of_getElem? (i := 22) (by decide +kernel), List.mem_of_getElem? (i := 616) (by decide +kernel), List.mem_of_getElem? (i := 617) (by decide +kernel)⟩
theorem lw_p8 : lw_okq (⟨"QuorumChain", "receiveProposal", "(LQuorumChain$Node;II)V"⟩, 7) := ⟨⟨by decide +kernel, by decide +kernel⟩, List.mem_of_getElem? (i := 22) (by decide +kernel), List.mem_of_getElem? (i := 628) (by decide +kernel), List.mem_of_getElem? (i := 629) (by decide +kernel)⟩
theorem lw_p9 : lw_okq (⟨"QuorumChain", "sendUnsigned", "(LQuorumChain$Node;III)V"⟩, 7) := ⟨⟨by decide +kernel, by decide +kernel⟩, List.mem_of_getElem? (i := 22) (by decide +kernel), List.mem_of_getElem? (i := 632) (by decide +kernel), List.mem_of_getElem? (i := 633) (by decide +kernel)⟩
theorem lw_p10 : lw_okq (⟨"QuorumChain", "takeAsCertified", "(LQuorumChain$Node;I)V"⟩, 7) := ⟨⟨by decide +kernel, by decide +kernel⟩, List.mem_of_getElem? (i := 22) (by decide +kernel), List.mem_of_getElem? (i := 636) (by decide +kernel), List.mem_of_getElem? (i := 637) (by decide +kernel)⟩
theorem lw_p11 : lw_okq (⟨"QuorumChain", "raiseHigh", "(LQuorumChain$Node;I)V"⟩, 7) := ⟨⟨by decide +kernel, by decide +kernel⟩, List.mem_of_getElem? (i := 22) (by decide +kernel), List.mem_of_getElem? (i := 640) (by decide +kernel), List.mem_of_getElem? (i := 641) (by decide +kernel)⟩
theorem lw_p12 : lw_okq (⟨"QuorumChain", "commitUpTo", "(LQuorumChain$Store;I)V"⟩, 7) := ⟨⟨by decide +kernel, by decide +kernel⟩, List.mem_of_getElem? (i := 22) (by decide +kernel), List.mem_of_getElem? (i := 653) (by decide +kernel), List.mem_of_getElem? (i := 654) (by decide +kernel)⟩
theorem lw_p13 : lw_okq (⟨"QuorumChain", "mayVoteFor", "(LQuorumChain$Node;II)Z"⟩, 7) := ⟨⟨by decide +kernel, by decide +kernel⟩, List.mem_of_getElem? (i := 22) (by decide +kernel), List.mem_of_getElem? (i := 676) (by decide +kernel), List.mem_of_getElem? (i := 677) (by decide +kernel)⟩
theorem lw_p14 : lw_okq (⟨"QuorumChain", "voteFor", "(LQuorumChain$Node;II)V"⟩, 7) := ⟨⟨by decide +kernel, by decide +kernel⟩, List.mem_of_getElem? (i := 22) (by decide +kernel), List.mem_of_getElem? (i := 685) (by decide +kernel), List.mem_of_getElem? (i := 686) (by decide +kernel)⟩
theorem lw_p15 : lw_okq (⟨"QuorumChain", "receiveVote", "(LQuorumChain$Node;II)V"⟩, 7) := ⟨⟨by decide +kernel, by decide +kernel⟩, List.mem_of_getElem? (i := 22) (by decide +kernel), List.mem_of_getElem? (i := 693) (by decide +kernel), List.mem_of_getElem? (i := 694) (by decide +kernel)⟩
def lw_privs_1 : List (MethodName × Nat) := [(⟨"QuorumChain", "countDown", "(LQuorumChain$Node;)V"⟩, 7), (⟨"QuorumChain", "writeSigned", "(LQuorumChain$Node;III)Z"⟩, 7), (⟨"QuorumChain", "sendDraftToAll", "()V"⟩, 7), (⟨"QuorumChain", "nodesThatHave", "(I)I"⟩, 7), (⟨"java/lang/Throwable", "fillInStackTrace", "(I)Ljava/lang/Throwable;"⟩, 6), (⟨"QuorumChain", "propose", "(LQuorumChain$Node;)V"⟩, 7), (⟨"QuorumChain", "firstNewTransaction", "(LQuorumChain$Node;)I"⟩, 7), (⟨"QuorumChain", "isHeard", "(LQuorumChain$Message;)Z"⟩, 7), (⟨"QuorumChain", "receiveProposal", "(LQuorumChain$Node;II)V"⟩, 7), (⟨"QuorumChain", "sendUnsigned", "(LQuorumChain$Node;III)V"⟩, 7), (⟨"QuorumChain", "takeAsCertified", "(LQuorumChain$Node;I)V"⟩, 7), (⟨"QuorumChain", "raiseHigh", "(LQuorumChain$Node;I)V"⟩, 7), (⟨"QuorumChain", "commitUpTo", "(LQuorumChain$Store;I)V"⟩, 7), (⟨"QuorumChain", "mayVoteFor", "(LQuorumChain$Node;II)Z"⟩, 7), (⟨"QuorumChain", "voteFor", "(LQuorumChain$Node;II)V"⟩, 7), (⟨"QuorumChain", "receiveVote", "(LQuorumChain$Node;II)V"⟩, 7)]
theorem lw_r1 : ∀ q ∈ lw_privs_1, lw_okq q := List.forall_mem_cons.mpr ⟨lw_p0, List.forall_mem_cons.mpr ⟨lw_p1, List.forall_mem_cons.mpr ⟨lw_p2, List.forall_mem_cons.mpr ⟨lw_p3, List.forall_mem_cons.mpr ⟨lw_p4, List.forall_mem_cons.mpr ⟨lw_p5, List.forall_mem_cons.mpr ⟨lw_p6, List.forall_mem_cons.mpr ⟨lw_p7, List.forall_mem_cons.mpr ⟨lw_p8, List.forall_mem_cons.mpr ⟨lw_p9, List.forall_mem_cons.mpr ⟨lw_p10, List.forall_mem_cons.mpr ⟨lw_p11, List.forall_mem_cons.mpr ⟨lw_p12, List.forall_mem_cons.mpr ⟨lw_p13, List.forall_mem_cons.mpr ⟨lw_p14, List.forall_mem_cons.mpr ⟨lw_p15, fun _ h => absurd h List.not_mem_nil⟩⟩⟩⟩⟩⟩⟩⟩⟩⟩⟩⟩⟩⟩⟩⟩
theorem lw_p16 : lw_okq (⟨"QuorumChain", "receiveTimeout", "(LQuorumChain$Node;III)V"⟩, 7) := ⟨⟨by decide +kernel, by decide +kernel⟩, List.mem_of_getElem? (i := 22) (by decide +kernel), List.mem_of_getElem? (i := 711) (by decide +kernel), List.mem_of_getElem? (i := 712) (by decide +kernel)⟩
theorem lw_p17 : lw_okq (⟨"QuorumChain", "receiveAsk", "(LQuorumChain$Node;II)V"⟩, 7) := ⟨⟨by decide +kernel, by decide +kernel⟩, List.mem_of_getElem? (i := 22) (by decide +kernel), List.mem_of_getElem? (i := 715) (by decide +kernel), List.mem_of_getElem? (i := 716) (by decide +kernel)⟩
theorem lw_p18 : lw_okq (⟨"QuorumChain", "receiveBlock", "(LQuorumChain$Node;II)V"⟩, 7) := ⟨⟨by decide +kernel, by decide +kernel⟩, List.mem_of_getElem? (i := 22) (by decide +kernel), List.mem_of_getElem? (i := 719) (by decide +kernel), List.mem_of_getElem? (i := 720) (by decide +kernel)⟩
theorem lw_p19 : lw_okq (⟨"QuorumChain", "highestParent", "(LQuorumChain$Store;)I"⟩, 7) := ⟨⟨by decide +kernel, by decide +kernel⟩, List.mem_of_getElem? (i := 22) (by decide +kernel), List.mem_of_getElem? (i := 786) (by decide +kernel), List.mem_of_getElem? (i := 787) (by decide +kernel)⟩
theorem lw_p20 : lw_okq (⟨"QuorumChainModel", "secret", "(III)J"⟩, 43) := ⟨⟨by decide +kernel, by decide +kernel⟩, List.mem_of_getElem? (i := 796) (by decide +kernel), List.mem_of_getElem? (i := 802) (by decide +kernel), List.mem_of_getElem? (i := 803) (by decide +kernel)⟩
theorem lw_p21 : lw_okq (⟨"QuorumChainModel", "start", "()V"⟩, 43) := ⟨⟨by decide +kernel, by decide +kernel⟩, List.mem_of_getElem? (i := 796) (by decide +kernel), List.mem_of_getElem? (i := 806) (by decide +kernel), List.mem_of_getElem? (i := 807) (by decide +kernel)⟩
theorem lw_p22 : lw_okq (⟨"QuorumChainModel", "add", "(J)V"⟩, 43) := ⟨⟨by decide +kernel, by decide +kernel⟩, List.mem_of_getElem? (i := 796) (by decide +kernel), List.mem_of_getElem? (i := 811) (by decide +kernel), List.mem_of_getElem? (i := 812) (by decide +kernel)⟩
theorem lw_p23 : lw_okq (⟨"QuorumChainModel", "end", "()J"⟩, 43) := ⟨⟨by decide +kernel, by decide +kernel⟩, List.mem_of_getElem? (i := 796) (by decide +kernel), List.mem_of_getElem? (i := 816) (by decide +kernel), List.mem_of_getElem? (i := 817) (by decide +kernel)⟩
theorem lw_p24 : lw_okq (⟨"QuorumChainModel", "after", "(JI)J"⟩, 43) := ⟨⟨by decide +kernel, by decide +kernel⟩, List.mem_of_getElem? (i := 796) (by decide +kernel), List.mem_of_getElem? (i := 821) (by decide +kernel), List.mem_of_getElem? (i := 822) (by decide +kernel)⟩
theorem lw_p25 : lw_okq (⟨"QuorumChainModel", "two", "(JJ)J"⟩, 43) := ⟨⟨by decide +kernel, by decide +kernel⟩, List.mem_of_getElem? (i := 796) (by decide +kernel), List.mem_of_getElem? (i := 826) (by decide +kernel), List.mem_of_getElem? (i := 827) (by decide +kernel)⟩
theorem lw_p26 : lw_okq (⟨"QuorumChainModel", "leaf", "()J"⟩, 43) := ⟨⟨by decide +kernel, by decide +kernel⟩, List.mem_of_getElem? (i := 796) (by decide +kernel), List.mem_of_getElem? (i := 830) (by decide +kernel), List.mem_of_getElem? (i := 831) (by decide +kernel)⟩
theorem lw_p27 : lw_okq (⟨"QuorumChainModel", "land", "(I)V"⟩, 43) := ⟨⟨by decide +kernel, by decide +kernel⟩, List.mem_of_getElem? (i := 796) (by decide +kernel), List.mem_of_getElem? (i := 975) (by decide +kernel), List.mem_of_getElem? (i := 976) (by decide +kernel)⟩
theorem lw_p28 : lw_okq (⟨"QuorumChainModel", "copyMessage", "(II)V"⟩, 43) := ⟨⟨by decide +kernel, by decide +kernel⟩, List.mem_of_getElem? (i := 796) (by decide +kernel), List.mem_of_getElem? (i := 979) (by decide +kernel), List.mem_of_getElem? (i := 980) (by decide +kernel)⟩
theorem lw_p29 : lw_okq (⟨"QuorumChainModel", "send", "(IIIII)V"⟩, 43) := ⟨⟨by decide +kernel, by decide +kernel⟩, List.mem_of_getElem? (i := 796) (by decide +kernel), List.mem_of_getElem? (i := 983) (by decide +kernel), List.mem_of_getElem? (i := 984) (by decide +kernel)⟩
theorem lw_p30 : lw_okq (⟨"QuorumChainModel", "comes", "(III)V"⟩, 43) := ⟨⟨by decide +kernel, by decide +kernel⟩, List.mem_of_getElem? (i := 796) (by decide +kernel), List.mem_of_getElem? (i := 987) (by decide +kernel), List.mem_of_getElem? (i := 988) (by decide +kernel)⟩
theorem lw_p31 : lw_okq (⟨"QuorumChainModel", "meant", "(III)J"⟩, 43) := ⟨⟨by decide +kernel, by decide +kernel⟩, List.mem_of_getElem? (i := 796) (by decide +kernel), List.mem_of_getElem? (i := 991) (by decide +kernel), List.mem_of_getElem? (i := 992) (by decide +kernel)⟩
def lw_privs_2 : List (MethodName × Nat) := [(⟨"QuorumChain", "receiveTimeout", "(LQuorumChain$Node;III)V"⟩, 7), (⟨"QuorumChain", "receiveAsk", "(LQuorumChain$Node;II)V"⟩, 7), (⟨"QuorumChain", "receiveBlock", "(LQuorumChain$Node;II)V"⟩, 7), (⟨"QuorumChain", "highestParent", "(LQuorumChain$Store;)I"⟩, 7), (⟨"QuorumChainModel", "secret", "(III)J"⟩, 43), (⟨"QuorumChainModel", "start", "()V"⟩, 43), (⟨"QuorumChainModel", "add", "(J)V"⟩, 43), (⟨"QuorumChainModel", "end", "()J"⟩, 43), (⟨"QuorumChainModel", "after", "(JI)J"⟩, 43), (⟨"QuorumChainModel", "two", "(JJ)J"⟩, 43), (⟨"QuorumChainModel", "leaf", "()J"⟩, 43), (⟨"QuorumChainModel", "land", "(I)V"⟩, 43), (⟨"QuorumChainModel", "copyMessage", "(II)V"⟩, 43), (⟨"QuorumChainModel", "send", "(IIIII)V"⟩, 43), (⟨"QuorumChainModel", "comes", "(III)V"⟩, 43), (⟨"QuorumChainModel", "meant", "(III)J"⟩, 43)]
theorem lw_r2 : ∀ q ∈ lw_privs_2, lw_okq q := List.forall_mem_cons.mpr ⟨lw_p16, List.forall_mem_cons.mpr ⟨lw_p17, List.forall_mem_cons.mpr ⟨lw_p18, List.forall_mem_cons.mpr ⟨lw_p19, List.forall_mem_cons.mpr ⟨lw_p20, List.forall_mem_cons.mpr ⟨lw_p21, List.forall_mem_cons.mpr ⟨lw_p22, List.forall_mem_cons.mpr ⟨lw_p23, List.forall_mem_cons.mpr ⟨lw_p24, List.forall_mem_cons.mpr ⟨lw_p25, List.forall_mem_cons.mpr ⟨lw_p26, List.forall_mem_cons.mpr ⟨lw_p27, List.forall_mem_cons.mpr ⟨lw_p28, List.forall_mem_cons.mpr ⟨lw_p29, List.forall_mem_cons.mpr ⟨lw_p30, List.forall_mem_cons.mpr ⟨lw_p31, fun _ h => absurd h List.not_mem_nil⟩⟩⟩⟩⟩⟩⟩⟩⟩⟩⟩⟩⟩⟩⟩⟩
theorem lw_p32 : lw_okq (⟨"QuorumChainModel", "three", "(JJJ)J"⟩, 43) := ⟨⟨by decide +kernel, by decide +kernel⟩, List.mem_of_getElem? (i := 796) (by decide +kernel), List.mem_of_getElem? (i := 996) (by decide +kernel), List.mem_of_getElem? (i := 997) (by decide +kernel)⟩
theorem lw_p33 : lw_okq (⟨"QuorumChainModel", "good", "(IJ)Z"⟩, 43) := ⟨⟨by decide +kernel, by decide +kernel⟩, List.mem_of_getElem? (i := 796) (by decide +kernel), List.mem_of_getElem? (i := 1000) (by decide +kernel), List.mem_of_getElem? (i := 1001) (by decide +kernel)⟩
theorem lw_p34 : lw_okq (⟨"QuorumChainModel", "digitsOf", "(J)V"⟩, 43) := ⟨⟨by decide +kernel, by decide +kernel⟩, List.mem_of_getElem? (i := 796) (by decide +kernel), List.mem_of_getElem? (i := 1004) (by decide +kernel), List.mem_of_getElem? (i := 1005) (by decide +kernel)⟩
theorem lw_p35 : lw_okq (⟨"QuorumChainModel", "proposal", "(III)V"⟩, 43) := ⟨⟨by decide +kernel, by decide +kernel⟩, List.mem_of_getElem? (i := 796) (by decide +kernel), List.mem_of_getElem? (i := 1012) (by decide +kernel), List.mem_of_getElem? (i := 1013) (by decide +kernel)⟩
theorem lw_p36 : lw_okq (⟨"QuorumChainModel", "takes", "(II)V"⟩, 43) := ⟨⟨by decide +kernel, by decide +kernel⟩, List.mem_of_getElem? (i := 796) (by decide +kernel), List.mem_of_getElem? (i := 1016) (by decide +kernel), List.mem_of_getElem? (i := 1017) (by decide +kernel)⟩
theorem lw_p37 : lw_okq (⟨"QuorumChainModel", "commit", "(II)V"⟩, 43) := ⟨⟨by decide +kernel, by decide +kernel⟩, List.mem_of_getElem? (i := 796) (by decide +kernel), List.mem_of_getElem? (i := 1020) (by decide +kernel), List.mem_of_getElem? (i := 1021) (by decide +kernel)⟩
theorem lw_p38 : lw_okq (⟨"QuorumChainModel", "below", "(II)Z"⟩, 43) := ⟨⟨by decide +kernel, by decide +kernel⟩, List.mem_of_getElem? (i := 796) (by decide +kernel), List.mem_of_getElem? (i := 1024) (by decide +kernel), List.mem_of_getElem? (i := 1025) (by decide +kernel)⟩
theorem lw_p39 : lw_okq (⟨"QuorumChainModel", "carryOut", "(II)V"⟩, 43) := ⟨⟨by decide +kernel, by decide +kernel⟩, List.mem_of_getElem? (i := 796) (by decide +kernel), List.mem_of_getElem? (i := 1028) (by decide +kernel), List.mem_of_getElem? (i := 1029) (by decide +kernel)⟩
theorem lw_p40 : lw_okq (⟨"QuorumChainModel", "enter", "(II)V"⟩, 43) := ⟨⟨by decide +kernel, by decide +kernel⟩, List.mem_of_getElem? (i := 796) (by decide +kernel), List.mem_of_getElem? (i := 1032) (by decide +kernel), List.mem_of_getElem? (i := 1033) (by decide +kernel)⟩
theorem lw_p41 : lw_okq (⟨"QuorumChainModel", "signs", "(IJ)Z"⟩, 43) := ⟨⟨by decide +kernel, by decide +kernel⟩, List.mem_of_getElem? (i := 796) (by decide +kernel), List.mem_of_getElem? (i := 1036) (by decide +kernel), List.mem_of_getElem? (i := 1037) (by decide +kernel)⟩
theorem lw_p42 : lw_okq (⟨"QuorumChainModel", "vote", "(III)V"⟩, 43) := ⟨⟨by decide +kernel, by decide +kernel⟩, List.mem_of_getElem? (i := 796) (by decide +kernel), List.mem_of_getElem? (i := 1040) (by decide +kernel), List.mem_of_getElem? (i := 1041) (by decide +kernel)⟩
theorem lw_p43 : lw_okq (⟨"QuorumChainModel", "propose", "(I)V"⟩, 43) := ⟨⟨by decide +kernel, by decide +kernel⟩, List.mem_of_getElem? (i := 796) (by decide +kernel), List.mem_of_getElem? (i := 1047) (by decide +kernel), List.mem_of_getElem? (i := 1048) (by decide +kernel)⟩
theorem lw_p44 : lw_okq (⟨"QuorumChainModel", "inChain", "(II)Z"⟩, 43) := ⟨⟨by decide +kernel, by decide +kernel⟩, List.mem_of_getElem? (i := 796) (by decide +kernel), List.mem_of_getElem? (i := 1051) (by decide +kernel), List.mem_of_getElem? (i := 1052) (by decide +kernel)⟩
theorem lw_p45 : lw_okq (⟨"QuorumChainModel", "newBlock", "(IIII)I"⟩, 43) := ⟨⟨by decide +kernel, by decide +kernel⟩, List.mem_of_getElem? (i := 796) (by decide +kernel), List.mem_of_getElem? (i := 1055) (by decide +kernel), List.mem_of_getElem? (i := 1056) (by decide +kernel)⟩
theorem lw_p46 : lw_okq (⟨"QuorumChainModel", "timeout", "(IIII)V"⟩, 43) := ⟨⟨by decide +kernel, by decide +kernel⟩, List.mem_of_getElem? (i := 796) (by decide +kernel), List.mem_of_getElem? (i := 1059) (by decide +kernel), List.mem_of_getElem? (i := 1060) (by decide +kernel)⟩
theorem lw_p47 : lw_okq (⟨"QuorumChainModel", "isTransaction", "(I)Z"⟩, 43) := ⟨⟨by decide +kernel, by decide +kernel⟩, List.mem_of_getElem? (i := 796) (by decide +kernel), List.mem_of_getElem? (i := 1071) (by decide +kernel), List.mem_of_getElem? (i := 1072) (by decide +kernel)⟩
def lw_privs_3 : List (MethodName × Nat) := [(⟨"QuorumChainModel", "three", "(JJJ)J"⟩, 43), (⟨"QuorumChainModel", "good", "(IJ)Z"⟩, 43), (⟨"QuorumChainModel", "digitsOf", "(J)V"⟩, 43), (⟨"QuorumChainModel", "proposal", "(III)V"⟩, 43), (⟨"QuorumChainModel", "takes", "(II)V"⟩, 43), (⟨"QuorumChainModel", "commit", "(II)V"⟩, 43), (⟨"QuorumChainModel", "below", "(II)Z"⟩, 43), (⟨"QuorumChainModel", "carryOut", "(II)V"⟩, 43), (⟨"QuorumChainModel", "enter", "(II)V"⟩, 43), (⟨"QuorumChainModel", "signs", "(IJ)Z"⟩, 43), (⟨"QuorumChainModel", "vote", "(III)V"⟩, 43), (⟨"QuorumChainModel", "propose", "(I)V"⟩, 43), (⟨"QuorumChainModel", "inChain", "(II)Z"⟩, 43), (⟨"QuorumChainModel", "newBlock", "(IIII)I"⟩, 43), (⟨"QuorumChainModel", "timeout", "(IIII)V"⟩, 43), (⟨"QuorumChainModel", "isTransaction", "(I)Z"⟩, 43)]
theorem lw_r3 : ∀ q ∈ lw_privs_3, lw_okq q := List.forall_mem_cons.mpr ⟨lw_p32, List.forall_mem_cons.mpr ⟨lw_p33, List.forall_mem_cons.mpr ⟨lw_p34, List.forall_mem_cons.mpr ⟨lw_p35, List.forall_mem_cons.mpr ⟨lw_p36, List.forall_mem_cons.mpr ⟨lw_p37, List.forall_mem_cons.mpr ⟨lw_p38, List.forall_mem_cons.mpr ⟨lw_p39, List.forall_mem_cons.mpr ⟨lw_p40, List.forall_mem_cons.mpr ⟨lw_p41, List.forall_mem_cons.mpr ⟨lw_p42, List.forall_mem_cons.mpr ⟨lw_p43, List.forall_mem_cons.mpr ⟨lw_p44, List.forall_mem_cons.mpr ⟨lw_p45, List.forall_mem_cons.mpr ⟨lw_p46, List.forall_mem_cons.mpr ⟨lw_p47, fun _ h => absurd h List.not_mem_nil⟩⟩⟩⟩⟩⟩⟩⟩⟩⟩⟩⟩⟩⟩⟩⟩
theorem lw_p48 : lw_okq (⟨"QuorumChainModel", "isBlock", "(I)Z"⟩, 43) := ⟨⟨by decide +kernel, by decide +kernel⟩, List.mem_of_getElem? (i := 796) (by decide +kernel), List.mem_of_getElem? (i := 1091) (by decide +kernel), List.mem_of_getElem? (i := 1092) (by decide +kernel)⟩
theorem lw_p49 : lw_okq (⟨"QuorumChainModel", "beats", "(I)V"⟩, 43) := ⟨⟨by decide +kernel, by decide +kernel⟩, List.mem_of_getElem? (i := 796) (by decide +kernel), List.mem_of_getElem? (i := 1103) (by decide +kernel), List.mem_of_getElem? (i := 1104) (by decide +kernel)⟩
theorem lw_p50 : lw_okq (⟨"QuorumChainModel", "hasAll", "(I)I"⟩, 43) := ⟨⟨by decide +kernel, by decide +kernel⟩, List.mem_of_getElem? (i := 796) (by decide +kernel), List.mem_of_getElem? (i := 1119) (by decide +kernel), List.mem_of_getElem? (i := 1120) (by decide +kernel)⟩
def lw_privs_4 : List (MethodName × Nat) := [(⟨"QuorumChainModel", "isBlock", "(I)Z"⟩, 43), (⟨"QuorumChainModel", "beats", "(I)V"⟩, 43), (⟨"QuorumChainModel", "hasAll", "(I)I"⟩, 43)]
theorem lw_r4 : ∀ q ∈ lw_privs_4, lw_okq q := List.forall_mem_cons.mpr ⟨lw_p48, List.forall_mem_cons.mpr ⟨lw_p49, List.forall_mem_cons.mpr ⟨lw_p50, fun _ h => absurd h List.not_mem_nil⟩⟩⟩
def lw_privs : List (MethodName × Nat) := lw_privs_1 ++ (lw_privs_2 ++ (lw_privs_3 ++ (lw_privs_4)))
def lw_tbl : List Cond := k2_sels lw_privs ++ tables_1
theorem lw_privs_ok : ∀ q ∈ lw_privs, lw_okq q := by
  show ∀ q ∈ lw_privs_1 ++ (lw_privs_2 ++ (lw_privs_3 ++ (lw_privs_4))), lw_okq q
  exact List.forall_mem_append.mpr ⟨lw_r1, List.forall_mem_append.mpr ⟨lw_r2, List.forall_mem_append.mpr ⟨lw_r3, lw_r4⟩⟩⟩
-- ===== end of PART A; then your names; then what follows =====
end
section
/-! My own kit: a world of named cells. A cell's name is a triple (kind, i, j); its contents are three slices (ints, longs, places) of one state. -/
abbrev N3 : Type := Nat × Nat × Nat
abbrev IM : Type := Nat → Nat → Nat → Nat → Int32
abbrev LM : Type := Nat → Nat → Nat → Nat → Int64
abbrev PM : Type := Nat → Nat → Nat → Nat → Nat
abbrev St : Type := IM × LM × PM
abbrev Cf : Type := N3 → (Nat → Int32) → (Nat → Int64) → (Nat → Nat) → va_E
def zs (cf : Cf) (S : St) (t : N3) : va_E := cf t (S.1 t.1 t.2.1 t.2.2) (S.2.1 t.1 t.2.1 t.2.2) (S.2.2 t.1 t.2.1 t.2.2)
def zw (X : va_W) (ad : N3 → Nat) (T : List N3) (cf : Cf) (S : St) : va_W := X ++ T.map (fun t => (ad t, zs cf S t))
/-- writing: a slice, an element -/
def wi (S : St) (k i j : Nat) (f : Nat → Int32) : St := (fun a b d => if a = k ∧ b = i ∧ d = j then f else S.1 a b d, S.2)
def wl (S : St) (k i j : Nat) (f : Nat → Int64) : St := (S.1, fun a b d => if a = k ∧ b = i ∧ d = j then f else S.2.1 a b d, S.2.2)
def wp (S : St) (k i j : Nat) (f : Nat → Nat) : St := (S.1, S.2.1, fun a b d => if a = k ∧ b = i ∧ d = j then f else S.2.2 a b d)
def si (S : St) (k i j x : Nat) (v : Int32) : St := wi S k i j (upd (S.1 k i j) x v)
def sl (S : St) (k i j x : Nat) (v : Int64) : St := wl S k i j (vp_updL (S.2.1 k i j) x v)
def sp (S : St) (k i j x : Nat) (v : Nat) : St := wp S k i j (va_up (S.2.2 k i j) x v)
theorem zs_wi_self {cf : Cf} {S : St} {k i j : Nat} {f : Nat → Int32} : zs cf (wi S k i j f) (k, i, j) = cf (k, i, j) f (S.2.1 k i j) (S.2.2 k i j) := by
  simp [zs, wi]
theorem zs_wl_self {cf : Cf} {S : St} {k i j : Nat} {f : Nat → Int64} : zs cf (wl S k i j f) (k, i, j) = cf (k, i, j) (S.1 k i j) f (S.2.2 k i j) := by
  simp [zs, wl]
theorem zs_wp_self {cf : Cf} {S : St} {k i j : Nat} {f : Nat → Nat} : zs cf (wp S k i j f) (k, i, j) = cf (k, i, j) (S.1 k i j) (S.2.1 k i j) f := by
  simp [zs, wp]
theorem zs_ne {k i j : Nat} {t : N3} (h : t ≠ (k, i, j)) : ¬ (t.1 = k ∧ t.2.1 = i ∧ t.2.2 = j) := fun q => h (by
  obtain ⟨a, b, d⟩ := t
  obtain ⟨rfl, rfl, rfl⟩ := q
  rfl)
theorem zs_wi_ne {cf : Cf} {S : St} {k i j : Nat} {f : Nat → Int32} (t : N3) (h : t ≠ (k, i, j)) : zs cf (wi S k i j f) t = zs cf S t := by
  simp only [zs, wi, if_neg (zs_ne h)]
theorem zs_wl_ne {cf : Cf} {S : St} {k i j : Nat} {f : Nat → Int64} (t : N3) (h : t ≠ (k, i, j)) : zs cf (wl S k i j f) t = zs cf S t := by
  simp only [zs, wl, if_neg (zs_ne h)]
theorem zs_wp_ne {cf : Cf} {S : St} {k i j : Nat} {f : Nat → Nat} (t : N3) (h : t ≠ (k, i, j)) : zs cf (wp S k i j f) t = zs cf S t := by
  simp only [zs, wp, if_neg (zs_ne h)]
theorem zw_get {X : va_W} {ad : N3 → Nat} {T : List N3} {cf : Cf} {S : St} {t : N3} (h : t ∈ T) : ∃ n : Nat, (zw X ad T cf S)[n]? = some (ad t, zs cf S t) := by
  apply List.getElem?_of_mem
  exact List.mem_append_right _ (List.mem_map.mpr ⟨t, h, rfl⟩)
theorem zw_set {A : Nat → Prop} {X : va_W} {ad : N3 → Nat} {T : List N3} {cf : Cf} {S S' : St} {t : N3} {n : Nat} {e : va_E} (hD : va_D A (zw X ad T cf S)) (ht : t ∈ T) (hn : (zw X ad T cf S)[n]? = some (ad t, zs cf S t)) (h1 : zs cf S' t = e) (h2 : ∀ t', t' ≠ t → zs cf S' t' = zs cf S t') : (zw X ad T cf S).set n (ad t, e) = zw X ad T cf S' := by
  obtain ⟨i, hi⟩ := List.getElem?_of_mem ht
  have hti : (zw X ad T cf S)[X.length + i]? = some (ad t, zs cf S t) := by
    unfold zw
    rw [List.getElem?_append_right (by omega), Nat.add_sub_cancel_left, List.getElem?_map, hi]
    rfl
  have hne := hD.1 n (X.length + i) _ _ hn hti rfl
  subst hne
  have hl := (List.getElem?_eq_some_iff.mp hti).1
  apply List.ext_getElem?
  intro j
  by_cases hj : j = X.length + i
  · subst hj
    rw [List.getElem?_set_self hl]
    unfold zw
    rw [List.getElem?_append_right (by omega), Nat.add_sub_cancel_left, List.getElem?_map, hi]
    simp [h1]
  · rw [List.getElem?_set_ne (Ne.symm hj)]
    unfold zw
    by_cases hjx : j < X.length
    · rw [List.getElem?_append_left hjx, List.getElem?_append_left hjx]
    · rw [List.getElem?_append_right (by omega), List.getElem?_append_right (by omega)]
      simp only [List.getElem?_map]
      cases hb : T[j - X.length]? with
      | none => rfl
      | some b =>
        have hba : b ≠ t := by
          intro hab
          subst hab
          have h3 : (zw X ad T cf S)[j]? = some (ad b, zs cf S b) := by
            unfold zw
            rw [List.getElem?_append_right (by omega), List.getElem?_map, hb]
            rfl
          exact hj (hD.1 j (X.length + i) _ _ h3 hti rfl)
        simp [h2 b hba]
theorem zw_addr {X : va_W} {ad : N3 → Nat} {T : List N3} {cf : Cf} {S S' : St} {n : Nat} {q : Nat} {e : va_E} (h : (zw X ad T cf S)[n]? = some (q, e)) : ∃ e', (zw X ad T cf S')[n]? = some (q, e') := by
  unfold zw at h ⊢
  by_cases hx : n < X.length
  · rw [List.getElem?_append_left hx] at h ⊢
    exact ⟨e, h⟩
  · rw [List.getElem?_append_right (by omega), List.getElem?_map] at h ⊢
    cases hb : T[n - X.length]? with
    | none => rw [hb] at h; cases h
    | some b =>
      rw [hb] at h
      simp only [Option.map_some, Option.some.injEq, Prod.mk.injEq] at h ⊢
      exact ⟨_, h.1, rfl⟩
/-- which cells a method may change doesn't hang on what they hold -/
theorem zw_A {X : va_W} {ad : N3 → Nat} {T : List N3} {cf : Cf} {S : St} (S' : St) {sz q : Nat} (h : va_A (zw X ad T cf S) sz q) : va_A (zw X ad T cf S') sz q := by
  rcases h with ⟨k, e, h⟩ | h
  · obtain ⟨e', h'⟩ := zw_addr (S' := S') h
    exact Or.inl ⟨k, e', h'⟩
  · exact Or.inr h
/-- a walk's world -/
def Wd (D : va_G) (cl : List vw_C) (A : Nat → Prop) (H0 : Heap) (ws : va_W) (H : Heap) (locs : List Loc) : Prop := va_P D cl ws H ∧ va_D A ws ∧ va_S A H0 H locs
section ZK
variable {p : Program} {l : Launch} {e : Env} {R : Room} {s : State} {m : MethodId} {args : Array Value} {below : List Frame} {meth : Method} {c : Code} {H : Heap} {locs : List Loc} {cells slots : Nat} {Q : State → Prop}
variable {cc : ByteArray} {pc nL : Nat} {ls : Array Slot} {rest : List Value} {D : va_G} {cl : List vw_C} {A : Nat → Prop} {tys : List (ClassId × FieldType)} {H0 : Heap} {X : va_W} {ad : N3 → Nat} {T : List N3} {cf : Cf} {S : St} {Ts : List Cond} {own : String}
theorem z_get (hF : CallFix p m c cc nL s args Ts own) (hK : va_K D cl tys s) (hW : Wd D cl A H0 (zw X ad T cf S) H locs) {t : N3} (ht : t ∈ T) {ref C : String} {T1 : u_T} {N ci index : Nat} {fs : List Value} (he : zs cf S t = .inr (ci, fs)) (hc : cl[ci]? = some (C, T1, N)) (hin : ∀ w ∈ u_ws C T1 N, w ∈ Ts) (k : Nat) (hk : k < N) (hlink : Cond.fieldLink own index ref (T1 k).2.1 (T1 k).2.2.1 ∈ Ts) (hsame : (T1 k).1 = ref) {v : Value} (hv : fs[k]? = some v) (hdg : decode cc pc = .ok (.getfield index, 3))
    (kk : W p l e R s m args below meth c H locs cells slots Q (F0 m (pc + 3) ls (v :: rest))) : W p l e R s m args below meth c H locs cells slots Q (F0 m pc ls (.ref (ad t) :: rest)) := by
  obtain ⟨n, hn⟩ := zw_get (X := X) (ad := ad) (cf := cf) (S := S) ht
  rw [he] at hn
  exact va_get hF.1 hF.2.1 hF.2.2.2.2 hin hF.2.2.2.1 hK hW.1 n hn hc k hk (hF.2.2.2.2 _ hlink) (fun x h => by rw [← hsame]; exact h) hv hdg kk
/-- a field's store, into a state S' that differs in this cell alone -/
theorem z_put (hF : CallFix p m c cc nL s args Ts own) (hK : va_K D cl tys s) (hW : Wd D cl A H0 (zw X ad T cf S) H locs) {t : N3} (ht : t ∈ T) {ref C : String} {T1 : u_T} {N ci index : Nat} {fs : List Value} (he : zs cf S t = .inr (ci, fs)) (hc : cl[ci]? = some (C, T1, N)) (hin : ∀ w ∈ u_ws C T1 N, w ∈ Ts) (ty0 : Nat → FieldType) (hty : ∀ k, k < N → parseFieldDescriptor (T1 k).2.2.1 = some (ty0 k)) (hnm : ∀ a, a < N → ∀ b, b < N → a ≠ b → (T1 a).2.1 ≠ (T1 b).2.1) (k : Nat) (hk : k < N) (hlink : Cond.fieldLink own index ref (T1 k).2.1 (T1 k).2.2.1 ∈ Ts) (hsame : (T1 k).1 = ref) (hfin : (T1 k).2.2.2 = false) {ty : FieldType} {v : Value} (hd : ty0 k = ty) (hn : narrow ty v = v) (hfit : fits ty v = true) (hl : k < fs.length) {S' : St} (h1 : zs cf S' t = .inr (ci, fs.set k v)) (h2 : ∀ t', t' ≠ t → zs cf S' t' = zs cf S t') (hdg : decode cc pc = .ok (.putfield index, 3))
    (kk : ∀ (H1 : Heap) (locs1 : List Loc), Wd D cl A H0 (zw X ad T cf S') H1 locs1 → W p l e R s m args below meth c H1 locs1 cells slots Q (F0 m (pc + 3) ls rest)) : W p l e R s m args below meth c H locs cells slots Q (F0 m pc ls (v :: .ref (ad t) :: rest)) := by
  obtain ⟨n, hn0⟩ := zw_get (X := X) (ad := ad) (cf := cf) (S := S) ht
  have hn1 := hn0
  rw [he] at hn1
  have hst := zw_set hW.2.1 ht hn0 h1 h2
  refine va_put hF.1 hF.2.1 hF.2.2.2.2 hin ty0 hty hnm hF.2.2.2.1 hK hW.1 hW.2.1 hW.2.2 n hn1 hc k hk (hF.2.2.2.2 _ hlink) (fun x h => by rw [← hsame]; exact h) hfin (by rw [hty k hk, hd]) hn hfit hl hdg (fun H1 locs1 a1 a2 a3 => ?_)
  rw [hst] at a1 a2
  exact kk H1 locs1 ⟨a1, a2, a3⟩
theorem z_iald (hF : CallFix p m c cc nL s args Ts own) (hK : va_K D cl tys s) (hW : Wd D cl A H0 (zw X ad T cf S) H locs) {t : N3} (ht : t ∈ T) (t0 : Nat) {cA : ClassId} {n : Nat} {f : Nat → Int32} (he : zs cf S t = .inl (cA, n, .inl f)) (hty : tys[t0]? = some (cA, .int)) {i : Int32} (hin : vp_in i n) {v : Int32} (hv : f i.toNatClampNeg = v) (hdg : decode cc pc = .ok (.iaload, 1))
    (kk : W p l e R s m args below meth c H locs cells slots Q (F0 m (pc + 1) ls (.int v :: rest))) : W p l e R s m args below meth c H locs cells slots Q (F0 m pc ls (.int i :: .ref (ad t) :: rest)) := by
  obtain ⟨n9, hn⟩ := zw_get (X := X) (ad := ad) (cf := cf) (S := S) ht
  rw [he] at hn
  subst hv
  exact va_iald hF.1 hF.2.1 hK hW.1 n9 t0 hn hty hin hdg kk
theorem z_zald (hF : CallFix p m c cc nL s args Ts own) (hK : va_K D cl tys s) (hW : Wd D cl A H0 (zw X ad T cf S) H locs) {t : N3} (ht : t ∈ T) (t0 : Nat) {cA : ClassId} {n : Nat} {f : Nat → Int32} (he : zs cf S t = .inl (cA, n, .inl f)) (hty : tys[t0]? = some (cA, .boolean)) {i : Int32} (hin : vp_in i n) {v : Int32} (hv : f i.toNatClampNeg = v) (hdg : decode cc pc = .ok (.baload, 1))
    (kk : W p l e R s m args below meth c H locs cells slots Q (F0 m (pc + 1) ls (.int v :: rest))) : W p l e R s m args below meth c H locs cells slots Q (F0 m pc ls (.int i :: .ref (ad t) :: rest)) := by
  obtain ⟨n9, hn⟩ := zw_get (X := X) (ad := ad) (cf := cf) (S := S) ht
  rw [he] at hn
  subst hv
  exact va_zald hF.1 hF.2.1 hK hW.1 n9 t0 hn hty hin hdg kk
theorem z_lald (hF : CallFix p m c cc nL s args Ts own) (hK : va_K D cl tys s) (hW : Wd D cl A H0 (zw X ad T cf S) H locs) {t : N3} (ht : t ∈ T) (t0 : Nat) {cA : ClassId} {n : Nat} {f : Nat → Int64} (he : zs cf S t = .inl (cA, n, .inr (.inl f))) (hty : tys[t0]? = some (cA, .long)) {i : Int32} (hin : vp_in i n) {v : Int64} (hv : f i.toNatClampNeg = v) (hdg : decode cc pc = .ok (.laload, 1))
    (kk : W p l e R s m args below meth c H locs cells slots Q (F0 m (pc + 1) ls (.long v :: rest))) : W p l e R s m args below meth c H locs cells slots Q (F0 m pc ls (.int i :: .ref (ad t) :: rest)) := by
  obtain ⟨n9, hn⟩ := zw_get (X := X) (ad := ad) (cf := cf) (S := S) ht
  rw [he] at hn
  subst hv
  exact va_lald hF.1 hF.2.1 hK hW.1 n9 t0 hn hty hin hdg kk
theorem z_aald (hF : CallFix p m c cc nL s args Ts own) (hK : va_K D cl tys s) (hW : Wd D cl A H0 (zw X ad T cf S) H locs) {t : N3} (ht : t ∈ T) (t0 : Nat) {cA : ClassId} {C : String} {n : Nat} {f : Nat → Option Nat} (he : zs cf S t = .inl (cA, n, .inr (.inr (.inr (.inr f))))) (hty : tys[t0]? = some (cA, .object C)) {i : Int32} (hin : vp_in i n) {q : Nat} (hv : f i.toNatClampNeg = some q) (hdg : decode cc pc = .ok (.aaload, 1))
    (kk : W p l e R s m args below meth c H locs cells slots Q (F0 m (pc + 1) ls (.ref q :: rest))) : W p l e R s m args below meth c H locs cells slots Q (F0 m pc ls (.int i :: .ref (ad t) :: rest)) := by
  obtain ⟨n9, hn⟩ := zw_get (X := X) (ad := ad) (cf := cf) (S := S) ht
  rw [he] at hn
  refine va_aldq hF.1 hF.2.1 hK hW.1 n9 t0 hn hty hin hdg ?_
  rw [hv]
  exact kk
theorem z_iast (hF : CallFix p m c cc nL s args Ts own) (hK : va_K D cl tys s) (hW : Wd D cl A H0 (zw X ad T cf S) H locs) {t : N3} (ht : t ∈ T) (t0 : Nat) {cA : ClassId} {n : Nat} {f : Nat → Int32} (he : zs cf S t = .inl (cA, n, .inl f)) (hty : tys[t0]? = some (cA, .int)) {i x : Int32} (hin : vp_in i n) {S' : St} (h1 : zs cf S' t = .inl (cA, n, .inl (upd f i.toNatClampNeg x))) (h2 : ∀ t', t' ≠ t → zs cf S' t' = zs cf S t') (hdg : decode cc pc = .ok (.iastore, 1))
    (kk : ∀ (H1 : Heap) (locs1 : List Loc), Wd D cl A H0 (zw X ad T cf S') H1 locs1 → W p l e R s m args below meth c H1 locs1 cells slots Q (F0 m (pc + 1) ls rest)) : W p l e R s m args below meth c H locs cells slots Q (F0 m pc ls (.int x :: .int i :: .ref (ad t) :: rest)) := by
  obtain ⟨n9, hn0⟩ := zw_get (X := X) (ad := ad) (cf := cf) (S := S) ht
  have hn1 := hn0
  rw [he] at hn1
  have hst := zw_set hW.2.1 ht hn0 h1 h2
  refine va_iast hF.1 hF.2.1 hK hW.1 hW.2.1 hW.2.2 n9 t0 hn1 hty hin hdg (fun H1 locs1 a1 a2 a3 => ?_)
  rw [hst] at a1 a2
  exact kk H1 locs1 ⟨a1, a2, a3⟩
theorem z_zast (hF : CallFix p m c cc nL s args Ts own) (hK : va_K D cl tys s) (hW : Wd D cl A H0 (zw X ad T cf S) H locs) {t : N3} (ht : t ∈ T) (t0 : Nat) {cA : ClassId} {n : Nat} {f : Nat → Int32} (he : zs cf S t = .inl (cA, n, .inl f)) (hty : tys[t0]? = some (cA, .boolean)) {i x : Int32} (hin : vp_in i n) {S' : St} (h1 : zs cf S' t = .inl (cA, n, .inl (upd f i.toNatClampNeg (vp_nar .boolean x)))) (h2 : ∀ t', t' ≠ t → zs cf S' t' = zs cf S t') (hdg : decode cc pc = .ok (.bastore, 1))
    (kk : ∀ (H1 : Heap) (locs1 : List Loc), Wd D cl A H0 (zw X ad T cf S') H1 locs1 → W p l e R s m args below meth c H1 locs1 cells slots Q (F0 m (pc + 1) ls rest)) : W p l e R s m args below meth c H locs cells slots Q (F0 m pc ls (.int x :: .int i :: .ref (ad t) :: rest)) := by
  obtain ⟨n9, hn0⟩ := zw_get (X := X) (ad := ad) (cf := cf) (S := S) ht
  have hn1 := hn0
  rw [he] at hn1
  have hst := zw_set hW.2.1 ht hn0 h1 h2
  refine va_zast hF.1 hF.2.1 hK hW.1 hW.2.1 hW.2.2 n9 t0 hn1 hty hin hdg (fun H1 locs1 a1 a2 a3 => ?_)
  rw [hst] at a1 a2
  exact kk H1 locs1 ⟨a1, a2, a3⟩
theorem z_last (hF : CallFix p m c cc nL s args Ts own) (hK : va_K D cl tys s) (hW : Wd D cl A H0 (zw X ad T cf S) H locs) {t : N3} (ht : t ∈ T) (t0 : Nat) {cA : ClassId} {n : Nat} {f : Nat → Int64} (he : zs cf S t = .inl (cA, n, .inr (.inl f))) (hty : tys[t0]? = some (cA, .long)) {i : Int32} {x : Int64} (hin : vp_in i n) {S' : St} (h1 : zs cf S' t = .inl (cA, n, .inr (.inl (vp_updL f i.toNatClampNeg x)))) (h2 : ∀ t', t' ≠ t → zs cf S' t' = zs cf S t') (hdg : decode cc pc = .ok (.lastore, 1))
    (kk : ∀ (H1 : Heap) (locs1 : List Loc), Wd D cl A H0 (zw X ad T cf S') H1 locs1 → W p l e R s m args below meth c H1 locs1 cells slots Q (F0 m (pc + 1) ls rest)) : W p l e R s m args below meth c H locs cells slots Q (F0 m pc ls (.long x :: .int i :: .ref (ad t) :: rest)) := by
  obtain ⟨n9, hn0⟩ := zw_get (X := X) (ad := ad) (cf := cf) (S := S) ht
  have hn1 := hn0
  rw [he] at hn1
  have hst := zw_set hW.2.1 ht hn0 h1 h2
  refine va_last hF.1 hF.2.1 hK hW.1 hW.2.1 hW.2.2 n9 t0 hn1 hty hin hdg (fun H1 locs1 a1 a2 a3 => ?_)
  rw [hst] at a1 a2
  exact kk H1 locs1 ⟨a1, a2, a3⟩
theorem z_aast (hF : CallFix p m c cc nL s args Ts own) (hK : va_K D cl tys s) (hW : Wd D cl A H0 (zw X ad T cf S) H locs) {t t2 : N3} (ht : t ∈ T) (ht2 : t2 ∈ T) (t0 ci : Nat) {cA : ClassId} {r : vw_C} {n : Nat} {vs : List Value} {f : Nat → Option Nat} (he : zs cf S t = .inl (cA, n, .inr (.inr (.inr (.inr f))))) (hty : tys[t0]? = some (cA, .object r.1)) (he2 : zs cf S t2 = .inr (ci, vs)) (hc : cl[ci]? = some r) {i : Int32} (hin : vp_in i n) {S' : St} (h1 : zs cf S' t = .inl (cA, n, .inr (.inr (.inr (.inr (va_up f i.toNatClampNeg (some (ad t2)))))))) (h2 : ∀ t', t' ≠ t → zs cf S' t' = zs cf S t') (hdg : decode cc pc = .ok (.aastore, 1))
    (kk : ∀ (H1 : Heap) (locs1 : List Loc), Wd D cl A H0 (zw X ad T cf S') H1 locs1 → W p l e R s m args below meth c H1 locs1 cells slots Q (F0 m (pc + 1) ls rest)) : W p l e R s m args below meth c H locs cells slots Q (F0 m pc ls (.ref (ad t2) :: .int i :: .ref (ad t) :: rest)) := by
  obtain ⟨n9, hn0⟩ := zw_get (X := X) (ad := ad) (cf := cf) (S := S) ht
  have hn1 := hn0
  rw [he] at hn1
  obtain ⟨n8, hn2⟩ := zw_get (X := X) (ad := ad) (cf := cf) (S := S) ht2
  rw [he2] at hn2
  have hst := zw_set hW.2.1 ht hn0 h1 h2
  refine va_astq hF.1 hF.2.1 hK hW.1 hW.2.1 hW.2.2 n9 t0 n8 ci hn1 hty hn2 hc hin hdg (fun H1 locs1 a1 a2 a3 => ?_)
  rw [hst] at a1 a2
  exact kk H1 locs1 ⟨a1, a2, a3⟩
theorem z_alen (hF : CallFix p m c cc nL s args Ts own) (hK : va_K D cl tys s) (hW : Wd D cl A H0 (zw X ad T cf S) H locs) {t : N3} (ht : t ∈ T) (t0 : Nat) {cA : ClassId} {x : vp_A} (he : zs cf S t = .inl (cA, x)) {ty : FieldType} (hty : tys[t0]? = some (cA, ty)) {v : Int32} (hv : Int32.ofNat x.1 = v) (hdg : decode cc pc = .ok (.arraylength, 1))
    (kk : W p l e R s m args below meth c H locs cells slots Q (F0 m (pc + 1) ls (.int v :: rest))) : W p l e R s m args below meth c H locs cells slots Q (F0 m pc ls (.ref (ad t) :: rest)) := by
  obtain ⟨n9, hn⟩ := zw_get (X := X) (ad := ad) (cf := cf) (S := S) ht
  rw [he] at hn
  exact va_alen hF.1 hF.2.1 hK hW.1 n9 t0 hn hty hv hdg kk
theorem z_copyl (hF : CallFix p m c cc nL s args Ts own) (hK : va_K D cl tys s) (hW : Wd D cl A H0 (zw X ad T cf S) H locs) (hsz : ls.size = nL) {t t2 : N3} (ht : t ∈ T) (ht2 : t2 ∈ T) (t0 : Nat) {index : Nat} (hlink : Cond.methodLink own index arraycopyName ∈ Ts) (hnat : Cond.native arraycopyName ∈ Ts) (hstat : Cond.static arraycopyName ∈ Ts) (hini : Cond.initialized "java/lang/System" ∈ Ts) {c0 c1 : ClassId} {n0 n1 : Nat} {f g : Nat → Int64} (he : zs cf S t = .inl (c0, n0, .inr (.inl f))) (he2 : zs cf S t2 = .inl (c1, n1, .inr (.inl g))) (hty : tys[t0]? = some (c0, .long)) (hty2 : tys[t0]? = some (c1, .long))
    {sp dp n : Int32} (h1 : ¬ sp < 0) (h2 : ¬ dp < 0) (h3 : ¬ n < 0) (h4 : sp.toNatClampNeg + n.toNatClampNeg ≤ n0) (h5 : dp.toNatClampNeg + n.toNatClampNeg ≤ n1) (hframes : 1 ≤ R.frames) (hlocals : (rest.map fun v => v.category).sum + (nativeFrameWords "java/lang/System" "arraycopy" 5 + 11) ≤ R.locals) {S' : St} (k1 : zs cf S' t2 = .inl (c1, n1, .inr (.inl (va_cpy f g sp.toNatClampNeg dp.toNatClampNeg n.toNatClampNeg)))) (k2 : ∀ t', t' ≠ t2 → zs cf S' t' = zs cf S t') (hdg : decode cc pc = .ok (.invokestatic index, 3))
    (kk : ∀ (H1 : Heap) (locs1 : List Loc), Wd D cl A H0 (zw X ad T cf S') H1 locs1 → W p l e R s m args below meth c H1 locs1 cells slots Q (F0 m (pc + 3) ls rest)) : W p l e R s m args below meth c H locs cells slots Q (F0 m pc ls (.int n :: .int dp :: .ref (ad t2) :: .int sp :: .ref (ad t) :: rest)) := by
  obtain ⟨n9, hn1⟩ := zw_get (X := X) (ad := ad) (cf := cf) (S := S) ht
  rw [he] at hn1
  obtain ⟨n8, hn0⟩ := zw_get (X := X) (ad := ad) (cf := cf) (S := S) ht2
  have hn2 := hn0
  rw [he2] at hn2
  have hst := zw_set hW.2.1 ht2 hn0 k1 k2
  refine va_copyl hF.1 hF.2.1 (by rw [hF.2.2.1, hsz]) hF.2.2.2.1 (hF.2.2.2.2 _ hlink) (hF.2.2.2.2 _ hnat) (hF.2.2.2.2 _ hstat) (hF.2.2.2.2 _ hini) hK hW.1 hW.2.1 hW.2.2 n9 n8 t0 t0 hn1 hn2 hty hty2 rfl h1 h2 h3 h4 h5 (fun i _ => rfl) hframes hlocals hdg (fun H1 locs1 a1 a2 a3 => ?_)
  rw [hst] at a1 a2
  exact kk H1 locs1 ⟨a1, a2, a3⟩
end ZK
end
section
/-! Contracts over a world of named cells, and their use. -/
def zK (D : va_G) (cl : List vw_C) (tys : List (ClassId × FieldType)) (NW : List (String × Nat × MethodName × String)) (U : State) : Prop := va_K D cl tys U ∧ ∀ q ∈ NW, va_Nw (.methodLinkNest q.1 q.2.1 q.2.2.1 q.2.2.2) U
theorem zK.moved {D : va_G} {cl : List vw_C} {tys : List (ClassId × FieldType)} {NW : List (String × Nat × MethodName × String)} {s U : State} (hW : s.WarmedH U.vm) (h : zK D cl tys NW s) : zK D cl tys NW U := ⟨va_K.moved hW.alike h.1, fun q hq => va_Nw.warmM hW (h.2 q hq)⟩
theorem zK.calling {D : va_G} {cl : List vw_C} {tys : List (ClassId × FieldType)} {NW : List (String × Nat × MethodName × String)} {U : State} {g : JFrame} {mk : MethodId} {a : Array Value} (h : zK D cl tys NW U) : zK D cl tys NW (U.calling g mk a) := ⟨va_K.moved (u := U) (U := U.calling g mk a) (Vm.Alike.refl U.vm) h.1, fun q hq => va_Nw.same rfl (show U.vm = (U.calling g mk a).vm from rfl) (h.2 q hq)⟩
/-- a method's start: its arguments, its world, the tables -/
def zPre (D : va_G) (cl : List vw_C) (tys : List (ClassId × FieldType)) (NW : List (String × Nat × MethodName × String)) (ws : va_W) (sz : Nat) (av : List Value) : Array Value → State → Prop := va_Pc av (fun U => U.heap.size = sz ∧ va_P D cl ws U.heap ∧ zK D cl tys NW U ∧ va_D (fun _ => True) ws)
def zAt (D : va_G) (cl : List vw_C) (X : va_W) (ad : N3 → Nat) (T : List N3) (cf : Cf) (A : Nat → Prop) (S : St) (t : State) : Prop := va_P D cl (zw X ad T cf S) t.heap ∧ va_D A (zw X ad T cf S)
theorem zPre.blind {D : va_G} {cl : List vw_C} {tys : List (ClassId × FieldType)} {NW : List (String × Nat × MethodName × String)} {ws : va_W} {sz : Nat} {av : List Value} : FrameBlind (zPre D cl tys NW ws sz av) := fun a U g mk q => by
  obtain ⟨q0, q1, qP, qK, qD⟩ := q
  exact ⟨q0, q1, qP, qK.calling, qD⟩
theorem zPre.at {D : va_G} {cl : List vw_C} {tys : List (ClassId × FieldType)} {NW : List (String × Nat × MethodName × String)} {ws : va_W} {av : List Value} {A : Nat → Prop} {H : Heap} {s : State} (hP : va_P D cl ws H) (hD : va_D A ws) (hK : zK D cl tys NW s) : ∀ U : State, U.heap = H → s.WarmedH U.vm → zPre D cl tys NW ws H.size av av.toArray U := fun U hU hWm => ⟨rfl, by rw [hU], by rw [hU]; exact hP, hK.moved hWm, hD.weaken (fun _ _ _ _ => trivial)⟩
/-- the end of an int method, of a long, void or reference one: its answer and the state behind it -/
def eI (D : va_G) (cl : List vw_C) (X : va_W) (ad : N3 → Nat) (T : List N3) (cf : Cf) (A : Nat → Prop) (res : Int32 × St) : Array Value → State → Outcome → State → Prop := va_Qi (fun r u => r = res.1 ∧ u = res.2) (zAt D cl X ad T cf A) A
def eL (D : va_G) (cl : List vw_C) (X : va_W) (ad : N3 → Nat) (T : List N3) (cf : Cf) (A : Nat → Prop) (res : Int64 × St) : Array Value → State → Outcome → State → Prop := va_Ql (fun r u => r = res.1 ∧ u = res.2) (zAt D cl X ad T cf A) A
def eV (D : va_G) (cl : List vw_C) (X : va_W) (ad : N3 → Nat) (T : List N3) (cf : Cf) (A : Nat → Prop) (res : St) : Array Value → State → Outcome → State → Prop := va_Qv (fun u => u = res) (zAt D cl X ad T cf A) A
def eR (D : va_G) (cl : List vw_C) (X : va_W) (ad : N3 → Nat) (T : List N3) (cf : Cf) (A : Nat → Prop) (res : N3 × St) : Array Value → State → Outcome → State → Prop := va_Qr (fun u => u = res.2) (fun u a t => a = ad res.1 ∧ zAt D cl X ad T cf A u t) A
/-- contracts: from the world of S the method y comes back with res -/
def cI (l : Launch) (G : List Cond) (D : va_G) (cl : List vw_C) (tys : List (ClassId × FieldType)) (NW : List (String × Nat × MethodName × String)) (X : va_W) (ad : N3 → Nat) (T : List N3) (cf : Cf) (y : MethodName) (b : ByteArray) (n : Nat) (ret : FieldType) (fr lo : Nat) (av : List Value) (S : St) (res : Int32 × St) : Prop :=
  ∀ sz : Nat, Met l y (Cond.code y b n (some ret) :: G) { frames := fr, cells := 0, slots := 0, locals := lo } (zPre D cl tys NW (zw X ad T cf S) sz av) (eI D cl X ad T cf (va_A (zw X ad T cf S) sz) res) 0 0 (va_A (zw X ad T cf S) sz)
def cL (l : Launch) (G : List Cond) (D : va_G) (cl : List vw_C) (tys : List (ClassId × FieldType)) (NW : List (String × Nat × MethodName × String)) (X : va_W) (ad : N3 → Nat) (T : List N3) (cf : Cf) (y : MethodName) (b : ByteArray) (n : Nat) (ret : FieldType) (fr lo : Nat) (av : List Value) (S : St) (res : Int64 × St) : Prop :=
  ∀ sz : Nat, Met l y (Cond.code y b n (some ret) :: G) { frames := fr, cells := 0, slots := 0, locals := lo } (zPre D cl tys NW (zw X ad T cf S) sz av) (eL D cl X ad T cf (va_A (zw X ad T cf S) sz) res) 0 0 (va_A (zw X ad T cf S) sz)
def cV (l : Launch) (G : List Cond) (D : va_G) (cl : List vw_C) (tys : List (ClassId × FieldType)) (NW : List (String × Nat × MethodName × String)) (X : va_W) (ad : N3 → Nat) (T : List N3) (cf : Cf) (y : MethodName) (b : ByteArray) (n : Nat) (fr lo : Nat) (av : List Value) (S : St) (res : St) : Prop :=
  ∀ sz : Nat, Met l y (Cond.code y b n none :: G) { frames := fr, cells := 0, slots := 0, locals := lo } (zPre D cl tys NW (zw X ad T cf S) sz av) (eV D cl X ad T cf (va_A (zw X ad T cf S) sz) res) 0 0 (va_A (zw X ad T cf S) sz)
def cR (l : Launch) (G : List Cond) (D : va_G) (cl : List vw_C) (tys : List (ClassId × FieldType)) (NW : List (String × Nat × MethodName × String)) (X : va_W) (ad : N3 → Nat) (T : List N3) (cf : Cf) (y : MethodName) (b : ByteArray) (n : Nat) (ret : FieldType) (fr lo : Nat) (av : List Value) (S : St) (res : N3 × St) : Prop :=
  ∀ sz : Nat, Met l y (Cond.code y b n (some ret) :: G) { frames := fr, cells := 0, slots := 0, locals := lo } (zPre D cl tys NW (zw X ad T cf S) sz av) (eR D cl X ad T cf (va_A (zw X ad T cf S) sz) res) 0 0 (va_A (zw X ad T cf S) sz)
/-- what is fixed in a method's walk -/
def Hy (p : Program) (s : State) (m : MethodId) (args : Array Value) (meth : Method) (c : Code) (b : ByteArray) (n : Nat) (ret : Option FieldType) (own : String) (G : List Cond) (D : va_G) (cl : List vw_C) (tys : List (ClassId × FieldType)) (NW : List (String × Nat × MethodName × String)) : Prop :=
  CallFix p m c b n s args G own ∧ meth.sig.returnType = ret ∧ meth.locks = false ∧ zK D cl tys NW s
/-- what a method that is called gives, once for all: its code, its tables' words -/
def cdV (G : List Cond) (y : MethodName) (b : ByteArray) (n : Nat) (ret : Option FieldType) (np : Nat) : Prop :=
  Cond.code y b n ret ∈ G ∧ Cond.instanceMethod y ∈ G ∧ Cond.selects y.cls y y ∈ G ∧ Cond.initialized y.cls ∈ G ∧ (y.cls ≠ "java/lang/invoke/MethodHandle" ∧ y.cls ≠ "java/lang/invoke/VarHandle" ∧ (parseMethodDescriptor y.desc).map (fun d => d.parameters.length) = some np) ∧ ∀ w ∈ G, goodWord w = true
def cdS (G : List Cond) (y : MethodName) (b : ByteArray) (n : Nat) (ret : Option FieldType) (np : Nat) : Prop :=
  Cond.code y b n ret ∈ G ∧ Cond.static y ∈ G ∧ Cond.initialized y.cls ∈ G ∧ (y.cls ≠ "java/lang/invoke/MethodHandle" ∧ y.cls ≠ "java/lang/invoke/VarHandle" ∧ (parseMethodDescriptor y.desc).map (fun d => d.parameters.length) = some np) ∧ ∀ w ∈ G, goodWord w = true
theorem cdV.good {G : List Cond} {y : MethodName} {b : ByteArray} {n : Nat} {ret : Option FieldType} {np : Nat} (h : cdV G y b n ret np) {own : String} {index : Nat} (hl : Cond.methodLink own index y ∈ G) : GoodIn G (wsV own index y.cls y (Cond.code y b n ret :: G)) := by
  obtain ⟨h1, h2, h3, h4, -, hg⟩ := h
  have key : ∀ w ∈ wsV own index y.cls y (Cond.code y b n ret :: G), w ∈ G := by
    intro w hw
    unfold wsV at hw
    rcases List.mem_append.mp hw with hw | hw
    · simp only [List.mem_cons, List.not_mem_nil, or_false] at hw
      rcases hw with rfl | rfl | rfl | rfl
      · exact hl
      · exact h2
      · exact h3
      · exact h4
    · rcases List.mem_cons.mp hw with rfl | hw
      · exact h1
      · exact hw
  exact fun w hw => ⟨key w hw, good_of_word (hg w (key w hw))⟩
theorem cdS.good {G : List Cond} {y : MethodName} {b : ByteArray} {n : Nat} {ret : Option FieldType} {np : Nat} (h : cdS G y b n ret np) {own : String} {index : Nat} (hl : Cond.methodLink own index y ∈ G) : GoodIn G (va_wsS own index y (Cond.code y b n ret :: G)) := by
  obtain ⟨h1, h2, h3, -, hg⟩ := h
  have key : ∀ w ∈ va_wsS own index y (Cond.code y b n ret :: G), w ∈ G := by
    intro w hw
    unfold va_wsS at hw
    rcases List.mem_append.mp hw with hw | hw
    · simp only [List.mem_cons, List.not_mem_nil, or_false] at hw
      rcases hw with rfl | rfl | rfl
      · exact hl
      · exact h2
      · exact h3
    · rcases List.mem_cons.mp hw with rfl | hw
      · exact h1
      · exact hw
  exact fun w hw => ⟨key w hw, good_of_word (hg w (key w hw))⟩
theorem cdS.goodN {G : List Cond} {y : MethodName} {b : ByteArray} {n : Nat} {ret : Option FieldType} {np : Nat} (h : cdS G y b n ret np) : GoodIn G (Cond.code y b n ret :: G) := by
  obtain ⟨h1, -, -, -, hg⟩ := h
  have key : ∀ w ∈ (Cond.code y b n ret :: G), w ∈ G := fun w hw => (List.mem_cons.mp hw).elim (fun e => by rw [e]; exact h1) id
  exact fun w hw => ⟨key w hw, good_of_word (hg w (key w hw))⟩
theorem Wd.free {D : va_G} {cl : List vw_C} {A : Nat → Prop} {H0 H : Heap} {ws : va_W} {locs : List Loc} (hW : Wd D cl A H0 ws H locs) (hA : ∀ q, H0.size ≤ q → A q) : ∀ q, va_A ws H.size q → A q := by
  intro q h
  rcases h with ⟨k, e, h⟩ | h
  · exact hW.2.1.2 k _ h
  · exact hA q (Nat.le_trans hW.2.2.1 h)
theorem zAt.wd {D : va_G} {cl : List vw_C} {A B : Nat → Prop} {X : va_W} {ad : N3 → Nat} {T : List N3} {cf : Cf} {S : St} {t : State} {H0 H1 : Heap} {locs : List Loc} (h : zAt D cl X ad T cf B S t) (ht : t.heap = H1) (hBA : ∀ q, B q → A q) (hS : va_S A H0 H1 locs) : Wd D cl A H0 (zw X ad T cf S) H1 locs := ⟨by rw [← ht]; exact h.1, h.2.weaken (fun _ _ _ z => hBA _ z), hS⟩
section ZC
variable {p : Program} {l : Launch} {e : Env} {R : Room} {s : State} {m : MethodId} {args : Array Value} {below : List Frame} {meth : Method} {c : Code} {H : Heap} {locs : List Loc} {cells slots : Nat} {Q : State → Prop}
variable {cc : ByteArray} {pc nL : Nat} {ls : Array Slot} {rest st0 : List Value} {D : va_G} {cl : List vw_C} {A : Nat → Prop} {tys : List (ClassId × FieldType)} {NW : List (String × Nat × MethodName × String)} {H0 : Heap} {X : va_W} {ad : N3 → Nat} {T : List N3} {cf : Cf} {S : St} {G : List Cond} {own : String}
variable {y : MethodName} {b : ByteArray} {n np index fr lo : Nat} {ret : FieldType} {ro : Option FieldType} {As : List Value}
theorem zI_of {av : List Value} {res : Int32 × St} (hy : plainName y.cls = true) (hlen : (lg_sl av).length ≤ n)
    (body : ∀ (p : Program) (e : Env) (s : State) (m : MethodId) (below : List Frame) (meth : Method) (c : Code) (A : Nat → Prop) (ls : Array Slot), Hy p s m av.toArray meth c b n (some ret) y.cls G D cl tys NW → Wd D cl A s.heap (zw X ad T cf S) s.heap [] → (∀ q, s.heap.size ≤ q → A q) → lv_has ls n (lv_args 0 av) →
      W p l e { frames := fr, cells := 0, slots := 0, locals := lo } s m av.toArray below meth c s.heap [] 0 0 (MQ below (eI D cl X ad T cf A res) av.toArray s 0 0 A) (F0 m 0 ls [])) : cI l G D cl tys NW X ad T cf y b n ret fr lo av S res := by
  intro sz
  refine Met.ofW (cc := b) (maxL := n) (ret := some ret) hy rfl ?_
  intro p e s m args below meth c s₁ B hml hv
  obtain ⟨rfl, hsz, hP, hK, hD0⟩ := hv
  have hts := atoms_spec (ws := Cond.code y b n (some ret) :: G) B.pre
  subst hsz
  have hl := lv_entry av (n := n) hlen
  rw [lg_entry_eq]
  exact body p e s m below meth c _ _ ⟨⟨B.exec, B.bytes, hml, findClass_of_methodNamed B.named, fun w h => hts w (List.mem_cons_of_mem _ h)⟩, B.returns, B.notSynchronized, hK⟩ ⟨hP, hD0.self, va_S.rf⟩ (fun q h => Or.inr h) hl
theorem zL_of {av : List Value} {res : Int64 × St} (hy : plainName y.cls = true) (hlen : (lg_sl av).length ≤ n)
    (body : ∀ (p : Program) (e : Env) (s : State) (m : MethodId) (below : List Frame) (meth : Method) (c : Code) (A : Nat → Prop) (ls : Array Slot), Hy p s m av.toArray meth c b n (some ret) y.cls G D cl tys NW → Wd D cl A s.heap (zw X ad T cf S) s.heap [] → (∀ q, s.heap.size ≤ q → A q) → lv_has ls n (lv_args 0 av) →
      W p l e { frames := fr, cells := 0, slots := 0, locals := lo } s m av.toArray below meth c s.heap [] 0 0 (MQ below (eL D cl X ad T cf A res) av.toArray s 0 0 A) (F0 m 0 ls [])) : cL l G D cl tys NW X ad T cf y b n ret fr lo av S res := by
  intro sz
  refine Met.ofW (cc := b) (maxL := n) (ret := some ret) hy rfl ?_
  intro p e s m args below meth c s₁ B hml hv
  obtain ⟨rfl, hsz, hP, hK, hD0⟩ := hv
  have hts := atoms_spec (ws := Cond.code y b n (some ret) :: G) B.pre
  subst hsz
  have hl := lv_entry av (n := n) hlen
  rw [lg_entry_eq]
  exact body p e s m below meth c _ _ ⟨⟨B.exec, B.bytes, hml, findClass_of_methodNamed B.named, fun w h => hts w (List.mem_cons_of_mem _ h)⟩, B.returns, B.notSynchronized, hK⟩ ⟨hP, hD0.self, va_S.rf⟩ (fun q h => Or.inr h) hl
theorem zV_of {av : List Value} {res : St} (hy : plainName y.cls = true) (hlen : (lg_sl av).length ≤ n)
    (body : ∀ (p : Program) (e : Env) (s : State) (m : MethodId) (below : List Frame) (meth : Method) (c : Code) (A : Nat → Prop) (ls : Array Slot), Hy p s m av.toArray meth c b n none y.cls G D cl tys NW → Wd D cl A s.heap (zw X ad T cf S) s.heap [] → (∀ q, s.heap.size ≤ q → A q) → lv_has ls n (lv_args 0 av) →
      W p l e { frames := fr, cells := 0, slots := 0, locals := lo } s m av.toArray below meth c s.heap [] 0 0 (MQ below (eV D cl X ad T cf A res) av.toArray s 0 0 A) (F0 m 0 ls [])) : cV l G D cl tys NW X ad T cf y b n fr lo av S res := by
  intro sz
  refine Met.ofW (cc := b) (maxL := n) (ret := none) hy rfl ?_
  intro p e s m args below meth c s₁ B hml hv
  obtain ⟨rfl, hsz, hP, hK, hD0⟩ := hv
  have hts := atoms_spec (ws := Cond.code y b n none :: G) B.pre
  subst hsz
  have hl := lv_entry av (n := n) hlen
  rw [lg_entry_eq]
  exact body p e s m below meth c _ _ ⟨⟨B.exec, B.bytes, hml, findClass_of_methodNamed B.named, fun w h => hts w (List.mem_cons_of_mem _ h)⟩, B.returns, B.notSynchronized, hK⟩ ⟨hP, hD0.self, va_S.rf⟩ (fun q h => Or.inr h) hl
theorem zR_of {av : List Value} {res : N3 × St} (hy : plainName y.cls = true) (hlen : (lg_sl av).length ≤ n)
    (body : ∀ (p : Program) (e : Env) (s : State) (m : MethodId) (below : List Frame) (meth : Method) (c : Code) (A : Nat → Prop) (ls : Array Slot), Hy p s m av.toArray meth c b n (some ret) y.cls G D cl tys NW → Wd D cl A s.heap (zw X ad T cf S) s.heap [] → (∀ q, s.heap.size ≤ q → A q) → lv_has ls n (lv_args 0 av) →
      W p l e { frames := fr, cells := 0, slots := 0, locals := lo } s m av.toArray below meth c s.heap [] 0 0 (MQ below (eR D cl X ad T cf A res) av.toArray s 0 0 A) (F0 m 0 ls [])) : cR l G D cl tys NW X ad T cf y b n ret fr lo av S res := by
  intro sz
  refine Met.ofW (cc := b) (maxL := n) (ret := some ret) hy rfl ?_
  intro p e s m args below meth c s₁ B hml hv
  obtain ⟨rfl, hsz, hP, hK, hD0⟩ := hv
  have hts := atoms_spec (ws := Cond.code y b n (some ret) :: G) B.pre
  subst hsz
  have hl := lv_entry av (n := n) hlen
  rw [lg_entry_eq]
  exact body p e s m below meth c _ _ ⟨⟨B.exec, B.bytes, hml, findClass_of_methodNamed B.named, fun w h => hts w (List.mem_cons_of_mem _ h)⟩, B.returns, B.notSynchronized, hK⟩ ⟨hP, hD0.self, va_S.rf⟩ (fun q h => Or.inr h) hl
/-- returns -/
theorem z_iret (hy : Hy p s m args meth c cc nL (some .int) own G D cl tys NW) (hW : Wd D cl A s.heap (zw X ad T cf S) H locs) {v : Int32} {res : Int32 × St} (e1 : res = (v, S)) (hdg : decode cc pc = .ok (.ireturn, 1)) : W p l e R s m args below meth c H locs 0 0 (MQ below (eI D cl X ad T cf A res) args s 0 0 A) (F0 m pc ls [.int v]) := by
  subst e1
  exact W.iret hy.1.1 hy.1.2.1 hy.2.1 (fun t ht _ => ⟨⟨v, S, rfl, ⟨rfl, rfl⟩, by rw [ht]; exact hW.1, hW.2.1⟩, hW.2.2.F ht⟩) hW.2.2.2.2 hdg hy.2.2.1
theorem z_zret (hy : Hy p s m args meth c cc nL (some .boolean) own G D cl tys NW) (hW : Wd D cl A s.heap (zw X ad T cf S) H locs) {v : Int32} {res : Int32 × St} (hn : narrow .boolean (.int v) = .int v) (e1 : res = (v, S)) (hdg : decode cc pc = .ok (.ireturn, 1)) : W p l e R s m args below meth c H locs 0 0 (MQ below (eI D cl X ad T cf A res) args s 0 0 A) (F0 m pc ls [.int v]) := by
  subst e1
  exact W.zret hy.1.1 hy.1.2.1 hy.2.1 hn (fun t ht _ => ⟨⟨v, S, rfl, ⟨rfl, rfl⟩, by rw [ht]; exact hW.1, hW.2.1⟩, hW.2.2.F ht⟩) hW.2.2.2.2 hdg hy.2.2.1
theorem z_lret (hy : Hy p s m args meth c cc nL (some .long) own G D cl tys NW) (hW : Wd D cl A s.heap (zw X ad T cf S) H locs) {v : Int64} {res : Int64 × St} (e1 : res = (v, S)) (hdg : decode cc pc = .ok (.lreturn, 1)) : W p l e R s m args below meth c H locs 0 0 (MQ below (eL D cl X ad T cf A res) args s 0 0 A) (F0 m pc ls [.long v]) := by
  subst e1
  exact W.lret hy.1.1 hy.1.2.1 hy.2.1 (fun t ht _ => ⟨⟨v, S, rfl, ⟨rfl, rfl⟩, by rw [ht]; exact hW.1, hW.2.1⟩, hW.2.2.F ht⟩) hW.2.2.2.2 hdg hy.2.2.1
theorem z_vret (hy : Hy p s m args meth c cc nL none own G D cl tys NW) (hW : Wd D cl A s.heap (zw X ad T cf S) H locs) {res : St} (e1 : res = S) (hdg : decode cc pc = .ok (.return_, 1)) : W p l e R s m args below meth c H locs 0 0 (MQ below (eV D cl X ad T cf A res) args s 0 0 A) (F0 m pc ls []) := by
  subst e1
  exact W.vret hy.1.1 hy.1.2.1 hy.2.1 (fun t ht _ => ⟨⟨_, rfl, rfl, by rw [ht]; exact hW.1, hW.2.1⟩, hW.2.2.F ht⟩) hW.2.2.2.2 hdg hy.2.2.1
theorem z_aret {C : String} (hy : Hy p s m args meth c cc nL (some (.object C)) own G D cl tys NW) (hW : Wd D cl A s.heap (zw X ad T cf S) H locs) {t : N3} {res : N3 × St} (e1 : res = (t, S)) (hdg : decode cc pc = .ok (.areturn, 1)) : W p l e R s m args below meth c H locs 0 0 (MQ below (eR D cl X ad T cf A res) args s 0 0 A) (F0 m pc ls [.ref (ad t)]) := by
  subst e1
  exact W.aret hy.1.1 hy.1.2.1 hy.2.1 (Or.inl ⟨C, rfl⟩) (Or.inr ⟨_, rfl⟩) (fun u hu _ => ⟨⟨S, ad t, rfl, rfl, rfl, by rw [hu]; exact hW.1, hW.2.1⟩, hW.2.2.F hu⟩) hW.2.2.2.2 hdg hy.2.2.1
/-- calls of an instance's method -/
theorem z_runV {Qc : Array Value → State → Outcome → State → Prop} (hF : CallFix p m c cc nL s args G own) (hK : zK D cl tys NW s) (hW : Wd D cl A H0 (zw X ad T cf S) H locs) {t : N3} (hM : Met l y (Cond.code y b n ro :: G) { frames := fr, cells := 0, slots := 0, locals := lo } (zPre D cl tys NW (zw X ad T cf S) H.size (.ref (ad t) :: As)) Qc 0 0 (va_A (zw X ad T cf S) H.size)) (cd : cdV G y b n ro np) (hlink : Cond.methodLink own index y ∈ G) (ht : t ∈ T) {T1 : u_T} {N ci : Nat} {fs : List Value} (he : zs cf S t = .inr (ci, fs)) (hc : cl[ci]? = some (y.cls, T1, N))
    (hR : fr + 1 ≤ R.frames ∧ 8 + (n + 11) + lo ≤ R.locals) (hcs : cells ≤ R.cells ∧ slots ≤ R.slots) (hst : st0 = As.reverse ++ .ref (ad t) :: rest) (hnp : As.length = np) (hsz : ls.size = nL) (hroom : (rest.map fun v => v.category).sum ≤ 8) (hdg : decode cc pc = .ok (.invokevirtual index, 3)) :
    va_Run p l e R s m args below meth c H locs cells slots 0 0 (F0 m pc ls st0) rest (Qc (Value.ref (ad t) :: As).toArray) (va_A (zw X ad T cf S) H.size) := by
  obtain ⟨k, hk⟩ := zw_get (X := X) (ad := ad) (cf := cf) (S := S) ht
  rw [he] at hk
  exact va_runV (As := As) (rest := rest) hF hM (cwV np hF.2.2.2.2 (cd.good hlink) rfl rfl rfl ⟨rfl, cd.2.2.2.2.1⟩ hR) ⟨zPre.blind, va_recv hK.1 hW.1 hc hk, zPre.at hW.1 hW.2.1 hK⟩ rfl hnp hsz hst (lv_room hroom) hdg hcs
theorem z_runS {Qc : Array Value → State → Outcome → State → Prop} (hF : CallFix p m c cc nL s args G own) (hK : zK D cl tys NW s) (hW : Wd D cl A H0 (zw X ad T cf S) H locs) (hM : Met l y (Cond.code y b n ro :: G) { frames := fr, cells := 0, slots := 0, locals := lo } (zPre D cl tys NW (zw X ad T cf S) H.size As) Qc 0 0 (va_A (zw X ad T cf S) H.size)) (cd : cdS G y b n ro np) (hlink : Cond.methodLink own index y ∈ G)
    (hR : fr + 1 ≤ R.frames ∧ 8 + (n + 11) + lo ≤ R.locals) (hcs : cells ≤ R.cells ∧ slots ≤ R.slots) (hst : st0 = As.reverse ++ rest) (hnp : As.length = np) (hsz : ls.size = nL) (hroom : (rest.map fun v => v.category).sum ≤ 8) (hdg : decode cc pc = .ok (.invokestatic index, 3)) :
    va_Run p l e R s m args below meth c H locs cells slots 0 0 (F0 m pc ls st0) rest (Qc As.toArray) (va_A (zw X ad T cf S) H.size) :=
  va_runS (As := As) (rest := rest) hF hM (va_cwS np hF.2.2.2.2 (cd.good hlink) rfl rfl rfl cd.2.2.2.1 hR) ⟨zPre.blind, zPre.at hW.1 hW.2.1 hK⟩ rfl hnp hsz hst (lv_room hroom) hdg hcs
theorem z_runSN {host : String} {Qc : Array Value → State → Outcome → State → Prop} (hF : CallFix p m c cc nL s args G own) (hK : zK D cl tys NW s) (hW : Wd D cl A H0 (zw X ad T cf S) H locs) (hM : Met l y (Cond.code y b n ro :: G) { frames := fr, cells := 0, slots := 0, locals := lo } (zPre D cl tys NW (zw X ad T cf S) H.size As) Qc 0 0 (va_A (zw X ad T cf S) H.size)) (cd : cdS G y b n ro np) (hlink : (own, index, y, host) ∈ NW)
    (hR : fr + 1 ≤ R.frames ∧ 8 + (n + 11) + lo ≤ R.locals) (hcs : cells ≤ R.cells ∧ slots ≤ R.slots) (hst : st0 = As.reverse ++ rest) (hnp : As.length = np) (hsz : ls.size = nL) (hroom : (rest.map fun v => v.category).sum ≤ 8) (hdg : decode cc pc = .ok (.invokestatic index, 3)) :
    va_Run p l e R s m args below meth c H locs cells slots 0 0 (F0 m pc ls st0) rest (Qc As.toArray) (va_A (zw X ad T cf S) H.size) :=
  va_runSN (As := As) (rest := rest) hF hM ⟨va_cnB np hF.2.2.2.2 cd.goodN rfl rfl rfl (hK.2 _ hlink) (hF.2.2.2.2 _ cd.2.2.1) cd.2.2.2.1 hR, hF.2.2.2.2 _ cd.2.1, trivial⟩ ⟨zPre.blind, zPre.at hW.1 hW.2.1 hK⟩ rfl hnp hsz hst (lv_room hroom) hdg hcs
/-- behind a call -/
theorem z_thenI {a : Array Value} {res : Int32 × St} (hW : Wd D cl A H0 (zw X ad T cf S) H locs) (hA : ∀ q, H0.size ≤ q → A q) (hr : va_Run p l e R s m args below meth c H locs cells slots 0 0 (F0 m pc ls st0) rest (eI D cl X ad T cf (va_A (zw X ad T cf S) H.size) res a) (va_A (zw X ad T cf S) H.size))
    (kk : ∀ (H1 : Heap) (locs1 : List Loc), Wd D cl A H0 (zw X ad T cf res.2) H1 locs1 → W p l e R s m args below meth c H1 locs1 cells slots Q (F0 m (pc + 3) ls (.int res.1 :: rest))) : W p l e R s m args below meth c H locs cells slots Q (F0 m pc ls st0) := by
  have hf := hW.free hA
  refine va_calli hr hW.2.2 (fun q _ h => hf q h) hf (fun r u t H1 locs1 ht _ hp hB _ _ hS => ?_)
  obtain ⟨rfl, rfl⟩ := hp
  exact kk H1 locs1 (hB.wd ht hf hS)
theorem z_thenL {a : Array Value} {res : Int64 × St} (hW : Wd D cl A H0 (zw X ad T cf S) H locs) (hA : ∀ q, H0.size ≤ q → A q) (hr : va_Run p l e R s m args below meth c H locs cells slots 0 0 (F0 m pc ls st0) rest (eL D cl X ad T cf (va_A (zw X ad T cf S) H.size) res a) (va_A (zw X ad T cf S) H.size))
    (kk : ∀ (H1 : Heap) (locs1 : List Loc), Wd D cl A H0 (zw X ad T cf res.2) H1 locs1 → W p l e R s m args below meth c H1 locs1 cells slots Q (F0 m (pc + 3) ls (.long res.1 :: rest))) : W p l e R s m args below meth c H locs cells slots Q (F0 m pc ls st0) := by
  have hf := hW.free hA
  refine va_calll hr hW.2.2 (fun q _ h => hf q h) hf (fun r u t H1 locs1 ht _ hp hB _ _ hS => ?_)
  obtain ⟨rfl, rfl⟩ := hp
  exact kk H1 locs1 (hB.wd ht hf hS)
theorem z_thenV {a : Array Value} {res : St} (hW : Wd D cl A H0 (zw X ad T cf S) H locs) (hA : ∀ q, H0.size ≤ q → A q) (hr : va_Run p l e R s m args below meth c H locs cells slots 0 0 (F0 m pc ls st0) rest (eV D cl X ad T cf (va_A (zw X ad T cf S) H.size) res a) (va_A (zw X ad T cf S) H.size))
    (kk : ∀ (H1 : Heap) (locs1 : List Loc), Wd D cl A H0 (zw X ad T cf res) H1 locs1 → W p l e R s m args below meth c H1 locs1 cells slots Q (F0 m (pc + 3) ls rest)) : W p l e R s m args below meth c H locs cells slots Q (F0 m pc ls st0) := by
  have hf := hW.free hA
  refine va_callv hr hW.2.2 (fun q _ h => hf q h) hf (fun u t H1 locs1 ht _ hp hB _ _ hS => ?_)
  subst hp
  exact kk H1 locs1 (hB.wd ht hf hS)
theorem z_thenR {a : Array Value} {res : N3 × St} (hW : Wd D cl A H0 (zw X ad T cf S) H locs) (hA : ∀ q, H0.size ≤ q → A q) (hr : va_Run p l e R s m args below meth c H locs cells slots 0 0 (F0 m pc ls st0) rest (eR D cl X ad T cf (va_A (zw X ad T cf S) H.size) res a) (va_A (zw X ad T cf S) H.size))
    (kk : ∀ (H1 : Heap) (locs1 : List Loc), Wd D cl A H0 (zw X ad T cf res.2) H1 locs1 → W p l e R s m args below meth c H1 locs1 cells slots Q (F0 m (pc + 3) ls (.ref (ad res.1) :: rest))) : W p l e R s m args below meth c H locs cells slots Q (F0 m pc ls st0) := by
  have hf := hW.free hA
  refine va_callr hr hW.2.2 (fun q _ h => hf q h) hf (fun u ra t H1 locs1 ht _ hp hB _ _ hS => ?_)
  subst hp
  obtain ⟨rfl, hB⟩ := hB
  exact kk H1 locs1 (hB.wd ht hf hS)
end ZC
end
