section
-- ===== PART A: goes FIRST, ahead of the names: the tables' words, and 'selects' of the private methods out of them =====
/-- a private method of a class that the tables say can be made, by its rows of tables_1 -/
def lw_okq (q : MethodName × Nat) : Prop := (q.1.cls ≠ "java/lang/invoke/MethodHandle" ∧ q.1.cls ≠ "java/lang/invoke/VarHandle") ∧ Cond.instantiable q.1.cls q.2 ∈ tables_1 ∧ Cond.privateMethod q.1 ∈ tables_1 ∧ Cond.instanceMethod q.1 ∈ tables_1
theorem lw_p0 : lw_okq (⟨"QuorumChain", "countDown", "(LQuorumChain$Node;)V"⟩, 7) := ⟨⟨by decide +kernel, by decide +kernel⟩, List.mem_of_getElem? (i := 22) (by decide +kernel), List.mem_of_getElem? (i := 320) (by decide +kernel), List.mem_of_getElem? (i := 321) (by decide +kernel)⟩
theorem lw_p1 : lw_okq (⟨"QuorumChain", "writeSigned", "(LQuorumChain$Node;III)Z"⟩, 7) := ⟨⟨by decide +kernel, by decide +kernel⟩, List.mem_of_getElem? (i := 22) (by decide +kernel), List.mem_of_getElem? (i := 327) (by decide +kernel), List.mem_of_getElem? (i := 328) (by decide +kernel)⟩
theorem lw_p2 : lw_okq (⟨"QuorumChain", "sendDraftToAll", "()V"⟩, 7) := ⟨⟨by decide +kernel, by decide +kernel⟩, List.mem_of_getElem? (i := 22) (by decide +kernel), List.mem_of_getElem? (i := 357) (by decide +kernel), List.mem_of_getElem? (i := 358) (by decide +kernel)⟩
theorem lw_p3 : lw_okq (⟨"QuorumChain", "nodesThatHave", "(I)I"⟩, 7) := ⟨⟨by decide +kernel, by decide +kernel⟩, List.mem_of_getElem? (i := 22) (by decide +kernel), List.mem_of_getElem? (i := 423) (by decide +kernel), List.mem_of_getElem? (i := 424) (by decide +kernel)⟩
theorem lw_p4 : lw_okq (⟨"java/lang/Throwable", "fillInStackTrace", "(I)Ljava/lang/Throwable;"⟩, 6) := ⟨⟨by decide +kernel, by decide +kernel⟩, List.mem_of_getElem? (i := 496) (by decide +kernel), List.mem_of_getElem? (i := 494) (by decide +kernel), List.mem_of_getElem? (i := 495) (by decide +kernel)⟩
theorem lw_p5 : lw_okq (⟨"QuorumChain", "propose", "(LQuorumChain$Node;)V"⟩, 7) := ⟨⟨by decide +kernel, by decide +kernel⟩, List.mem_of_getElem? (i := 22) (by decide +kernel), List.mem_of_getElem? (i := 572) (by decide +kernel), List.mem_of_getElem? (i := 573) (by decide +kernel)⟩
theorem lw_p6 : lw_okq (⟨"QuorumChain", "firstNewTransaction", "(LQuorumChain$Node;)I"⟩, 7) := ⟨⟨by decide +kernel, by decide +kernel⟩, List.mem_of_getElem? (i := 22) (by decide +kernel), List.mem_of_getElem? (i := 576) (by decide +kernel), List.mem_of_getElem? (i := 577) (by decide +kernel)⟩
theorem lw_p7 : lw_okq (⟨"QuorumChain", "isHeard", "(LQuorumChain$Message;)Z"⟩, 7) := ⟨⟨by decide +kernel, by decide +kernel⟩, List.mem_of_getElem? (i := 22) (by decide +kernel), List.mem_of_getElem? (i := 616) (by decide +kernel), List.mem_of_getElem? (i := 617) (by decide +kernel)⟩
theorem lw_p8 : lw_okq (⟨"QuorumChain", "receiveProposal", "(LQuorumChain$Node;II)V"⟩, 7) := ⟨⟨by decide +kernel, by decide +kernel⟩, List.mem_of_getElem? (i := 22) (by decide +kernel), List.mem_of_getElem? (i := 628) (by decide +kernel), List.mem_of_getElem? (i := 629) (by decide +kernel)⟩
theorem lw_p9 : lw_okq (⟨"QuorumChain", "sendUnsigned", "(LQuorumChain$Node;III)V"⟩, 7) := ⟨⟨by decide +kernel, by decide +kernel⟩, List.mem_of_getElem? (i := 22) (by decide +kernel), List.mem_of_getElem? (i := 632) (by decide +kernel), List.mem_of_getElem? (i := 633) (by decide +kernel)⟩
theorem lw_p10 : lw_okq (⟨"QuorumChain", "takeAsCertified", "(LQuorumChain$Node;I)V"⟩, 7) := ⟨⟨by decide +kernel, by decide +kernel⟩, List.mem_of_getElem? (i := 22) (by decide +kernel), List.mem_of_getElem? (i := 636) (by decide +kernel), List.mem_of_getElem? (i := 637) (by decide +kernel)⟩
theorem lw_p11 : lw_okq (⟨"QuorumChain", "raiseHigh", "(LQuorumChain$Node;I)V"⟩, 7) := ⟨⟨by decide +kernel, by decide +kernel⟩, List.mem_of_getElem? (i := 22) (by decide +kernel), List.mem_of_getElem? (i := 640) (by decide +kernel), List.mem_of_getElem? (i := 641) (by decide +kernel)⟩
theorem lw_p12 : lw_okq (⟨"QuorumChain", "commitUpTo", "(LQuorumChain$Store;I)V"⟩, 7) := ⟨⟨by decide +kernel, by decide +kernel⟩, List.mem_of_getElem? (i := 22) (by decide +kernel), List.mem_of_getElem? (i := 653) (by decide +kernel), List.mem_of_getElem? (i := 654) (by decide +kernel)⟩
theorem lw_p13 : lw_okq (⟨"QuorumChain", "mayVoteFor", "(LQuorumChain$Node;II)Z"⟩, 7) := ⟨⟨by decide +kernel, by decide +kernel⟩, List.mem_of_getElem? (i := 22) (by decide +kernel), List.mem_of_getElem? (i := 676) (by decide +kernel), List.mem_of_getElem? (i := 677) (by decide +kernel)⟩
theorem lw_p14 : lw_okq (⟨"QuorumChain", "voteFor", "(LQuorumChain$Node;II)V"⟩, 7) := ⟨⟨by decide +kernel, by decide +kernel⟩, List.mem_of_getElem? (i := 22) (by decide +kernel), List.mem_of_getElem? (i := 685) (by decide +kernel), List.mem_of_getElem? (i := 686) (by decide +kernel)⟩
theorem lw_p15 : lw_okq (⟨"QuorumChain", "receiveVote", "(LQuorumChain$Node;II)V"⟩, 7) := ⟨⟨by decide +kernel, by decide +kernel⟩, List.mem_of_getElem? (i := 22) (by decide +kernel), List.mem_of_getElem? (i := 693) (by decide +kernel), List.mem_of_getElem? (i := 694) (by decide +kernel)⟩
def lw_privs_1 : List (MethodName × Nat) := [(⟨"QuorumChain", "countDown", "(LQuorumChain$Node;)V"⟩, 7), (⟨"QuorumChain", "writeSigned", "(LQuorumChain$Node;III)Z"⟩, 7), (⟨"QuorumChain", "sendDraftToAll", "()V"⟩, 7), (⟨"QuorumChain", "nodesThatHave", "(I)I"⟩, 7), (⟨"java/lang/Throwable", "fillInStackTrace", "(I)Ljava/lang/Throwable;"⟩, 6), (⟨"QuorumChain", "propose", "(LQuorumChain$Node;)V"⟩, 7), (⟨"QuorumChain", "firstNewTransaction", "(LQuorumChain$Node;)I"⟩, 7), (⟨"QuorumChain", "isHeard", "(LQuorumChain$Message;)Z"⟩, 7), (⟨"QuorumChain", "receiveProposal", "(LQuorumChain$Node;II)V"⟩, 7), (⟨"QuorumChain", "sendUnsigned", "(LQuorumChain$Node;III)V"⟩, 7), (⟨"QuorumChain", "takeAsCertified", "(LQuorumChain$Node;I)V"⟩, 7), (⟨"QuorumChain", "raiseHigh", "(LQuorumChain$Node;I)V"⟩, 7), (⟨"QuorumChain", "commitUpTo", "(LQuorumChain$Store;I)V"⟩, 7), (⟨"QuorumChain", "mayVoteFor", "(LQuorumChain$Node;II)Z"⟩, 7), (⟨"QuorumChain", "voteFor", "(LQuorumChain$Node;II)V"⟩, 7), (⟨"QuorumChain", "receiveVote", "(LQuorumChain$Node;II)V"⟩, 7)]
theorem lw_r1 : ∀ q ∈ lw_privs_1, lw_okq q := List.forall_mem_cons.mpr ⟨lw_p0, List.forall_mem_cons.mpr ⟨lw_p1, List.forall_mem_cons.mpr ⟨lw_p2, List.forall_mem_cons.mpr ⟨lw_p3, List.forall_mem_cons.mpr ⟨lw_p4, List.forall_mem_cons.mpr ⟨lw_p5, List.forall_mem_cons.mpr ⟨lw_p6, List.forall_mem_cons.mpr ⟨lw_p7, List.forall_mem_cons.mpr ⟨lw_p8, List.forall_mem_cons.mpr ⟨lw_p9, List.forall_mem_cons.mpr ⟨lw_p10, List.forall_mem_cons.mpr ⟨lw_p11, List.forall_mem_cons.mpr ⟨lw_p12, List.forall_mem_cons.mpr ⟨lw_p13, List.forall_mem_cons.mpr ⟨lw_p14, List.forall_mem_cons.mpr ⟨lw_p15, fun _ h => absurd h List.not_mem_nil⟩⟩⟩⟩⟩⟩⟩⟩⟩⟩⟩⟩⟩⟩⟩⟩
theorem lw_p16 : lw_okq (⟨"QuorumChain", "receiveTimeout", "(LQuorumChain$Node;III)V"⟩, 7) := ⟨⟨by decide +kernel, by decide +kernel⟩, List.mem_of_getElem? (i := 22) (by decide +kernel), List.mem_of_getElem? (i := 711) (by decide +kernel), List.mem_of_getElem? (i := 712) (by decide +kernel)⟩
theorem lw_p17 : lw_okq (⟨"QuorumChain", "receiveAsk", "(LQuorumChain$Node;II)V"⟩, 7) := ⟨⟨by decide +kernel, by decide +kernel⟩, List.mem_of_getElem? (i := 22) (by decide +kernel), List.mem_of_getElem? (i := 715) (by decide +kernel), List.mem_of_getElem? (i := 716) (by decide +kernel)⟩
theorem lw_p18 : lw_okq (⟨"QuorumChain", "receiveBlock", "(LQuorumChain$Node;II)V"⟩, 7) := ⟨⟨by decide +kernel, by decide +kernel⟩, List.mem_of_getElem? (i := 22) (by decide +kernel), List.mem_of_getElem? (i := 719) (by decide +kernel), List.mem_of_getElem? (i := 720) (by decide +kernel)⟩
theorem lw_p19 : lw_okq (⟨"QuorumChain", "highestParent", "(LQuorumChain$Store;)I"⟩, 7) := ⟨⟨by decide +kernel, by decide +kernel⟩, List.mem_of_getElem? (i := 22) (by decide +kernel), List.mem_of_getElem? (i := 786) (by decide +kernel), List.mem_of_getElem? (i := 787) (by decide +kernel)⟩
theorem lw_p20 : lw_okq (⟨"QuorumChainModel", "secret", "(III)J"⟩, 43) := ⟨⟨by decide +kernel, by decide +kernel⟩, List.mem_of_getElem? (i := 796) (by decide +kernel), List.mem_of_getElem? (i := 802) (by decide +kernel), List.mem_of_getElem? (i := 803) (by decide +kernel)⟩
theorem lw_p21 : lw_okq (⟨"QuorumChainModel", "start", "()V"⟩, 43) := ⟨⟨by decide +kernel, by decide +kernel⟩, List.mem_of_getElem? (i := 796) (by decide +kernel), List.mem_of_getElem? (i := 806) (by decide +kernel), List.mem_of_getElem? (i := 807) (by decide +kernel)⟩
theorem lw_p22 : lw_okq (⟨"QuorumChainModel", "add", "(J)V"⟩, 43) := ⟨⟨by decide +kernel, by decide +kernel⟩, List.mem_of_getElem? (i := 796) (by decide +kernel), List.mem_of_getElem? (i := 811) (by decide +kernel), List.mem_of_getElem? (i := 812) (by decide +kernel)⟩
theorem lw_p23 : lw_okq (⟨"QuorumChainModel", "end", "()J"⟩, 43) := ⟨⟨by decide +kernel, by decide +kernel⟩, List.mem_of_getElem? (i := 796) (by decide +kernel), List.mem_of_getElem? (i := 816) (by decide +kernel), List.mem_of_getElem? (i := 817) (by decide +kernel)⟩
theorem lw_p24 : lw_okq (⟨"QuorumChainModel", "after", "(JI)J"⟩, 43) := ⟨⟨by decide +kernel, by decide +kernel⟩, List.mem_of_getElem? (i := 796) (by decide +kernel), List.mem_of_getElem? (i := 821) (by decide +kernel), List.mem_of_getElem? (i := 822) (by decide +kernel)⟩
theorem lw_p25 : lw_okq (⟨"QuorumChainModel", "two", "(JJ)J"⟩, 43) := ⟨⟨by decide +kernel, by decide +kernel⟩, List.mem_of_getElem? (i := 796) (by decide +kernel), List.mem_of_getElem? (i := 826) (by decide +kernel), List.mem_of_getElem? (i := 827) (by decide +kernel)⟩
theorem lw_p26 : lw_okq (⟨"QuorumChainModel", "leaf", "()J"⟩, 43) := ⟨⟨by decide +kernel, by decide +kernel⟩, List.mem_of_getElem? (i := 796) (by decide +kernel), List.mem_of_getElem? (i := 830) (by decide +kernel), List.mem_of_getElem? (i := 831) (by decide +kernel)⟩
theorem lw_p27 : lw_okq (⟨"QuorumChainModel", "land", "(I)V"⟩, 43) := ⟨⟨by decide +kernel, by decide +kernel⟩, List.mem_of_getElem? (i := 796) (by decide +kernel), List.mem_of_getElem? (i := 975) (by decide +kernel), List.mem_of_getElem? (i := 976) (by decide +kernel)⟩
theorem lw_p28 : lw_okq (⟨"QuorumChainModel", "copyMessage", "(II)V"⟩, 43) := ⟨⟨by decide +kernel, by decide +kernel⟩, List.mem_of_getElem? (i := 796) (by decide +kernel), List.mem_of_getElem? (i := 979) (by decide +kernel), List.mem_of_getElem? (i := 980) (by decide +kernel)⟩
theorem lw_p29 : lw_okq (⟨"QuorumChainModel", "send", "(IIIII)V"⟩, 43) := ⟨⟨by decide +kernel, by decide +kernel⟩, List.mem_of_getElem? (i := 796) (by decide +kernel), List.mem_of_getElem? (i := 983) (by decide +kernel), List.mem_of_getElem? (i := 984) (by decide +kernel)⟩
theorem lw_p30 : lw_okq (⟨"QuorumChainModel", "comes", "(III)V"⟩, 43) := ⟨⟨by decide +kernel, by decide +kernel⟩, List.mem_of_getElem? (i := 796) (by decide +kernel), List.mem_of_getElem? (i := 987) (by decide +kernel), List.mem_of_getElem? (i := 988) (by decide +kernel)⟩
theorem lw_p31 : lw_okq (⟨"QuorumChainModel", "meant", "(III)J"⟩, 43) := ⟨⟨by decide +kernel, by decide +kernel⟩, List.mem_of_getElem? (i := 796) (by decide +kernel), List.mem_of_getElem? (i := 991) (by decide +kernel), List.mem_of_getElem? (i := 992) (by decide +kernel)⟩
def lw_privs_2 : List (MethodName × Nat) := [(⟨"QuorumChain", "receiveTimeout", "(LQuorumChain$Node;III)V"⟩, 7), (⟨"QuorumChain", "receiveAsk", "(LQuorumChain$Node;II)V"⟩, 7), (⟨"QuorumChain", "receiveBlock", "(LQuorumChain$Node;II)V"⟩, 7), (⟨"QuorumChain", "highestParent", "(LQuorumChain$Store;)I"⟩, 7), (⟨"QuorumChainModel", "secret", "(III)J"⟩, 43), (⟨"QuorumChainModel", "start", "()V"⟩, 43), (⟨"QuorumChainModel", "add", "(J)V"⟩, 43), (⟨"QuorumChainModel", "end", "()J"⟩, 43), (⟨"QuorumChainModel", "after", "(JI)J"⟩, 43), (⟨"QuorumChainModel", "two", "(JJ)J"⟩, 43), (⟨"QuorumChainModel", "leaf", "()J"⟩, 43), (⟨"QuorumChainModel", "land", "(I)V"⟩, 43), (⟨"QuorumChainModel", "copyMessage", "(II)V"⟩, 43), (⟨"QuorumChainModel", "send", "(IIIII)V"⟩, 43), (⟨"QuorumChainModel", "comes", "(III)V"⟩, 43), (⟨"QuorumChainModel", "meant", "(III)J"⟩, 43)]
theorem lw_r2 : ∀ q ∈ lw_privs_2, lw_okq q := List.forall_mem_cons.mpr ⟨lw_p16, List.forall_mem_cons.mpr ⟨lw_p17, List.forall_mem_cons.mpr ⟨lw_p18, List.forall_mem_cons.mpr ⟨lw_p19, List.forall_mem_cons.mpr ⟨lw_p20, List.forall_mem_cons.mpr ⟨lw_p21, List.forall_mem_cons.mpr ⟨lw_p22, List.forall_mem_cons.mpr ⟨lw_p23, List.forall_mem_cons.mpr ⟨lw_p24, List.forall_mem_cons.mpr ⟨lw_p25, List.forall_mem_cons.mpr ⟨lw_p26, List.forall_mem_cons.mpr ⟨lw_p27, List.forall_mem_cons.mpr ⟨lw_p28, List.forall_mem_cons.mpr ⟨lw_p29, List.forall_mem_cons.mpr ⟨lw_p30, List.forall_mem_cons.mpr ⟨lw_p31, fun _ h => absurd h List.not_mem_nil⟩⟩⟩⟩⟩⟩⟩⟩⟩⟩⟩⟩⟩⟩⟩⟩
theorem lw_p32 : lw_okq (⟨"QuorumChainModel", "three", "(JJJ)J"⟩, 43) := ⟨⟨by decide +kernel, by decide +kernel⟩, List.mem_of_getElem? (i := 796) (by decide +kernel), List.mem_of_getElem? (i := 996) (by decide +kernel), List.mem_of_getElem? (i := 997) (by decide +kernel)⟩
theorem lw_p33 : lw_okq (⟨"QuorumChainModel", "good", "(IJ)Z"⟩, 43) := ⟨⟨by decide +kernel, by decide +kernel⟩, List.mem_of_getElem? (i := 796) (by decide +kernel), List.mem_of_getElem? (i := 1000) (by decide +kernel), List.mem_of_getElem? (i := 1001) (by decide +kernel)⟩
theorem lw_p34 : lw_okq (⟨"QuorumChainModel", "digitsOf", "(J)V"⟩, 43) := ⟨⟨by decide +kernel, by decide +kernel⟩, List.mem_of_getElem? (i := 796) (by decide +kernel), List.mem_of_getElem? (i := 1004) (by decide +kernel), List.mem_of_getElem? (i := 1005) (by decide +kernel)⟩
theorem lw_p35 : lw_okq (⟨"QuorumChainModel", "proposal", "(III)V"⟩, 43) := ⟨⟨by decide +kernel, by decide +kernel⟩, List.mem_of_getElem? (i := 796) (by decide +kernel), List.mem_of_getElem? (i := 1012) (by decide +kernel), List.mem_of_getElem? (i := 1013) (by decide +kernel)⟩
theorem lw_p36 : lw_okq (⟨"QuorumChainModel", "takes", "(II)V"⟩, 43) := ⟨⟨by decide +kernel, by decide +kernel⟩, List.mem_of_getElem? (i := 796) (by decide +kernel), List.mem_of_getElem? (i := 1016) (by decide +kernel), List.mem_of_getElem? (i := 1017) (by decide +kernel)⟩
theorem lw_p37 : lw_okq (⟨"QuorumChainModel", "commit", "(II)V"⟩, 43) := ⟨⟨by decide +kernel, by decide +kernel⟩, List.mem_of_getElem? (i := 796) (by decide +kernel), List.mem_of_getElem? (i := 1020) (by decide +kernel), List.mem_of_getElem? (i := 1021) (by decide +kernel)⟩
theorem lw_p38 : lw_okq (⟨"QuorumChainModel", "below", "(II)Z"⟩, 43) := ⟨⟨by decide +kernel, by decide +kernel⟩, List.mem_of_getElem? (i := 796) (by decide +kernel), List.mem_of_getElem? (i := 1024) (by decide +kernel), List.mem_of_getElem? (i := 1025) (by decide +kernel)⟩
theorem lw_p39 : lw_okq (⟨"QuorumChainModel", "carryOut", "(II)V"⟩, 43) := ⟨⟨by decide +kernel, by decide +kernel⟩, List.mem_of_getElem? (i := 796) (by decide +kernel), List.mem_of_getElem? (i := 1028) (by decide +kernel), List.mem_of_getElem? (i := 1029) (by decide +kernel)⟩
theorem lw_p40 : lw_okq (⟨"QuorumChainModel", "enter", "(II)V"⟩, 43) := ⟨⟨by decide +kernel, by decide +kernel⟩, List.mem_of_getElem? (i := 796) (by decide +kernel), List.mem_of_getElem? (i := 1032) (by decide +kernel), List.mem_of_getElem? (i := 1033) (by decide +kernel)⟩
theorem lw_p41 : lw_okq (⟨"QuorumChainModel", "signs", "(IJ)Z"⟩, 43) := ⟨⟨by decide +kernel, by decide +kernel⟩, List.mem_of_getElem? (i := 796) (by decide +kernel), List.mem_of_getElem? (i := 1036) (by decide +kernel), List.mem_of_getElem? (i := 1037) (by decide +kernel)⟩
theorem lw_p42 : lw_okq (⟨"QuorumChainModel", "vote", "(III)V"⟩, 43) := ⟨⟨by decide +kernel, by decide +kernel⟩, List.mem_of_getElem? (i := 796) (by decide +kernel), List.mem_of_getElem? (i := 1040) (by decide +kernel), List.mem_of_getElem? (i := 1041) (by decide +kernel)⟩
theorem lw_p43 : lw_okq (⟨"QuorumChainModel", "propose", "(I)V"⟩, 43) := ⟨⟨by decide +kernel, by decide +kernel⟩, List.mem_of_getElem? (i := 796) (by decide +kernel), List.mem_of_getElem? (i := 1047) (by decide +kernel), List.mem_of_getElem? (i := 1048) (by decide +kernel)⟩
theorem lw_p44 : lw_okq (⟨"QuorumChainModel", "inChain", "(II)Z"⟩, 43) := ⟨⟨by decide +kernel, by decide +kernel⟩, List.mem_of_getElem? (i := 796) (by decide +kernel), List.mem_of_getElem? (i := 1051) (by decide +kernel), List.mem_of_getElem? (i := 1052) (by decide +kernel)⟩
theorem lw_p45 : lw_okq (⟨"QuorumChainModel", "newBlock", "(IIII)I"⟩, 43) := ⟨⟨by decide +kernel, by decide +kernel⟩, List.mem_of_getElem? (i := 796) (by decide +kernel), List.mem_of_getElem? (i := 1055) (by decide +kernel), List.mem_of_getElem? (i := 1056) (by decide +kernel)⟩
theorem lw_p46 : lw_okq (⟨"QuorumChainModel", "timeout", "(IIII)V"⟩, 43) := ⟨⟨by decide +kernel, by decide +kernel⟩, List.mem_of_getElem? (i := 796) (by decide +kernel), List.mem_of_getElem? (i := 1059) (by decide +kernel), List.mem_of_getElem? (i := 1060) (by decide +kernel)⟩
theorem lw_p47 : lw_okq (⟨"QuorumChainModel", "isTransaction", "(I)Z"⟩, 43) := ⟨⟨by decide +kernel, by decide +kernel⟩, List.mem_of_getElem? (i := 796) (by decide +kernel), List.mem_of_getElem? (i := 1071) (by decide +kernel), List.mem_of_getElem? (i := 1072) (by decide +kernel)⟩
def lw_privs_3 : List (MethodName × Nat) := [(⟨"QuorumChainModel", "three", "(JJJ)J"⟩, 43), (⟨"QuorumChainModel", "good", "(IJ)Z"⟩, 43), (⟨"QuorumChainModel", "digitsOf", "(J)V"⟩, 43), (⟨"QuorumChainModel", "proposal", "(III)V"⟩, 43), (⟨"QuorumChainModel", "takes", "(II)V"⟩, 43), (⟨"QuorumChainModel", "commit", "(II)V"⟩, 43), (⟨"QuorumChainModel", "below", "(II)Z"⟩, 43), (⟨"QuorumChainModel", "carryOut", "(II)V"⟩, 43), (⟨"QuorumChainModel", "enter", "(II)V"⟩, 43), (⟨"QuorumChainModel", "signs", "(IJ)Z"⟩, 43), (⟨"QuorumChainModel", "vote", "(III)V"⟩, 43), (⟨"QuorumChainModel", "propose", "(I)V"⟩, 43), (⟨"QuorumChainModel", "inChain", "(II)Z"⟩, 43), (⟨"QuorumChainModel", "newBlock", "(IIII)I"⟩, 43), (⟨"QuorumChainModel", "timeout", "(IIII)V"⟩, 43), (⟨"QuorumChainModel", "isTransaction", "(I)Z"⟩, 43)]
theorem lw_r3 : ∀ q ∈ lw_privs_3, lw_okq q := List.forall_mem_cons.mpr ⟨lw_p32, List.forall_mem_cons.mpr ⟨lw_p33, List.forall_mem_cons.mpr ⟨lw_p34, List.forall_mem_cons.mpr ⟨lw_p35, List.forall_mem_cons.mpr ⟨lw_p36, List.forall_mem_cons.mpr ⟨lw_p37, List.forall_mem_cons.mpr ⟨lw_p38, List.forall_mem_cons.mpr ⟨lw_p39, List.forall_mem_cons.mpr ⟨lw_p40, List.forall_mem_cons.mpr ⟨lw_p41, List.forall_mem_cons.mpr ⟨lw_p42, List.forall_mem_cons.mpr ⟨lw_p43, List.forall_mem_cons.mpr ⟨lw_p44, List.forall_mem_cons.mpr ⟨lw_p45, List.forall_mem_cons.mpr ⟨lw_p46, List.forall_mem_cons.mpr ⟨lw_p47, fun _ h => absurd h List.not_mem_nil⟩⟩⟩⟩⟩⟩⟩⟩⟩⟩⟩⟩⟩⟩⟩⟩
theorem lw_p48 : lw_okq (⟨"QuorumChainModel", "isBlock", "(I)Z"⟩, 43) := ⟨⟨by decide +kernel, by decide +kernel⟩, List.mem_of_getElem? (i := 796) (by decide +kernel), List.mem_of_getElem? (i := 1091) (by decide +kernel), List.mem_of_getElem? (i := 1092) (by decide +kernel)⟩
theorem lw_p49 : lw_okq (⟨"QuorumChainModel", "beats", "(I)V"⟩, 43) := ⟨⟨by decide +kernel, by decide +kernel⟩, List.mem_of_getElem? (i := 796) (by decide +kernel), List.mem_of_getElem? (i := 1103) (by decide +kernel), List.mem_of_getElem? (i := 1104) (by decide +kernel)⟩
theorem lw_p50 : lw_okq (⟨"QuorumChainModel", "hasAll", "(I)I"⟩, 43) := ⟨⟨by decide +kernel, by decide +kernel⟩, List.mem_of_getElem? (i := 796) (by decide +kernel), List.mem_of_getElem? (i := 1119) (by decide +kernel), List.mem_of_getElem? (i := 1120) (by decide +kernel)⟩
def lw_privs_4 : List (MethodName × Nat) := [(⟨"QuorumChainModel", "isBlock", "(I)Z"⟩, 43), (⟨"QuorumChainModel", "beats", "(I)V"⟩, 43), (⟨"QuorumChainModel", "hasAll", "(I)I"⟩, 43)]
theorem lw_r4 : ∀ q ∈ lw_privs_4, lw_okq q := List.forall_mem_cons.mpr ⟨lw_p48, List.forall_mem_cons.mpr ⟨lw_p49, List.forall_mem_cons.mpr ⟨lw_p50, fun _ h => absurd h List.not_mem_nil⟩⟩⟩
def lw_privs : List (MethodName × Nat) := lw_privs_1 ++ (lw_privs_2 ++ (lw_privs_3 ++ (lw_privs_4)))
def lw_tbl : List Cond := k2_sels lw_privs ++ tables_1
theorem lw_privs_ok : ∀ q ∈ lw_privs, lw_okq q := by
  show ∀ q ∈ lw_privs_1 ++ (lw_privs_2 ++ (lw_privs_3 ++ (lw_privs_4))), lw_okq q
  exact List.forall_mem_append.mpr ⟨lw_r1, List.forall_mem_append.mpr ⟨lw_r2, List.forall_mem_append.mpr ⟨lw_r3, lw_r4⟩⟩⟩
-- ===== end of PART A; then your names; then what follows =====
end
section
/-! My own kit: a world of named cells. A cell's name is a triple (kind, i, j); its contents are three slices (ints, longs, places) of one state. -/
abbrev N3 : Type := Nat × Nat × Nat
abbrev IM : Type := Nat → Nat → Nat → Nat → Int32
abbrev LM : Type := Nat → Nat → Nat → Nat → Int64
abbrev PM : Type := Nat → Nat → Nat → Nat → Nat
abbrev St : Type := IM × LM × PM
abbrev Cf : Type := N3 → (Nat → Int32) → (Nat → Int64) → (Nat → Nat) → va_E
def zs (cf : Cf) (S : St) (t : N3) : va_E := cf t (S.1 t.1 t.2.1 t.2.2) (S.2.1 t.1 t.2.1 t.2.2) (S.2.2 t.1 t.2.1 t.2.2)
def zw (X : va_W) (ad : N3 → Nat) (T : List N3) (cf : Cf) (S : St) : va_W := X ++ T.map (fun t => (ad t, zs cf S t))
/-- writing: a slice, an element -/
def wi (S : St) (k i j : Nat) (f : Nat → Int32) : St := (fun a b d => if a = k ∧ b = i ∧ d = j then f else S.1 a b d, S.2)
def wl (S : St) (k i j : Nat) (f : Nat → Int64) : St := (S.1, fun a b d => if a = k ∧ b = i ∧ d = j then f else S.2.1 a b d, S.2.2)
def wp (S : St) (k i j : Nat) (f : Nat → Nat) : St := (S.1, S.2.1, fun a b d => if a = k ∧ b = i ∧ d = j then f else S.2.2 a b d)
def si (S : St) (k i j x : Nat) (v : Int32) : St := wi S k i j (upd (S.1 k i j) x v)
def sl (S : St) (k i j x : Nat) (v : Int64) : St := wl S k i j (vp_updL (S.2.1 k i j) x v)
def sp (S : St) (k i j x : Nat) (v : Nat) : St := wp S k i j (va_up (S.2.2 k i j) x v)
theorem zs_wi_self {cf : Cf} {S : St} {k i j : Nat} {f : Nat → Int32} : zs cf (wi S k i j f) (k, i, j) = cf (k, i, j) f (S.2.1 k i j) (S.2.2 k i j) := by
  simp [zs, wi]
theorem zs_wl_self {cf : Cf} {S : St} {k i j : Nat} {f : Nat → Int64} : zs cf (wl S k i j f) (k, i, j) = cf (k, i, j) (S.1 k i j) f (S.2.2 k i j) := by
  simp [zs, wl]
theorem zs_wp_self {cf : Cf} {S : St} {k i j : Nat} {f : Nat → Nat} : zs cf (wp S k i j f) (k, i, j) = cf (k, i, j) (S.1 k i j) (S.2.1 k i j) f := by
  simp [zs, wp]
theorem zs_ne {k i j : Nat} {t : N3} (h : t ≠ (k, i, j)) : ¬ (t.1 = k ∧ t.2.1 = i ∧ t.2.2 = j) := fun q => h (by
  obtain ⟨a, b, d⟩ := t
  obtain ⟨rfl, rfl, rfl⟩ := q
  rfl)
theorem zs_wi_ne {cf : Cf} {S : St} {k i j : Nat} {f : Nat → Int32} (t : N3) (h : t ≠ (k, i, j)) : zs cf (wi S k i j f) t = zs cf S t := by
  simp only [zs, wi, if_neg (zs_ne h)]
theorem zs_wl_ne {cf : Cf} {S : St} {k i j : Nat} {f : Nat → Int64} (t : N3) (h : t ≠ (k, i, j)) : zs cf (wl S k i j f) t = zs cf S t := by
  simp only [zs, wl, if_neg (zs_ne h)]
theorem zs_wp_ne {cf : Cf} {S : St} {k i j : Nat} {f : Nat → Nat} (t : N3) (h : t ≠ (k, i, j)) : zs cf (wp S k i j f) t = zs cf S t := by
  simp only [zs, wp, if_neg (zs_ne h)]
theorem zw_get {X : va_W} {ad : N3 → Nat} {T : List N3} {cf : Cf} {S : St} {t : N3} (h : t ∈ T) : ∃ n : Nat, (zw X ad T cf S)[n]? = some (ad t, zs cf S t) := by
  apply List.getElem?_of_mem
  exact List.mem_append_right _ (List.mem_map.mpr ⟨t, h, rfl⟩)
theorem zw_set {A : Nat → Prop} {X : va_W} {ad : N3 → Nat} {T : List N3} {cf : Cf} {S S' : St} {t : N3} {n : Nat} {e : va_E} (hD : va_D A (zw X ad T cf S)) (ht : t ∈ T) (hn : (zw X ad T cf S)[n]? = some (ad t, zs cf S t)) (h1 : zs cf S' t = e) (h2 : ∀ t', t' ≠ t → zs cf S' t' = zs cf S t') : (zw X ad T cf S).set n (ad t, e) = zw X ad T cf S' := by
  obtain ⟨i, hi⟩ := List.getElem?_of_mem ht
  have hti : (zw X ad T cf S)[X.length + i]? = some (ad t, zs cf S t) := by
    unfold zw
    rw [List.getElem?_append_right (by omega), Nat.add_sub_cancel_left, List.getElem?_map, hi]
    rfl
  have hne := hD.1 n (X.length + i) _ _ hn hti rfl
  subst hne
  have hl := (List.getElem?_eq_some_iff.mp hti).1
  apply List.ext_getElem?
  intro j
  by_cases hj : j = X.length + i
  · subst hj
    rw [List.getElem?_set_self hl]
    unfold zw
    rw [List.getElem?_append_right (by omega), Nat.add_sub_cancel_left, List.getElem?_map, hi]
    simp [h1]
  · rw [List.getElem?_set_ne (Ne.symm hj)]
    unfold zw
    by_cases hjx : j < X.length
    · rw [List.getElem?_append_left hjx, List.getElem?_append_left hjx]
    · rw [List.getElem?_append_right (by omega), List.getElem?_append_right (by omega)]
      simp only [List.getElem?_map]
      cases hb : T[j - X.length]? with
      | none => rfl
      | some b =>
        have hba : b ≠ t := by
          intro hab
          subst hab
          have h3 : (zw X ad T cf S)[j]? = some (ad b, zs cf S b) := by
            unfold zw
            rw [List.getElem?_append_right (by omega), List.getElem?_map, hb]
            rfl
          exact hj (hD.1 j (X.length + i) _ _ h3 hti rfl)
        simp [h2 b hba]
theorem zw_addr {X : va_W} {ad : N3 → Nat} {T : List N3} {cf : Cf} {S S' : St} {n : Nat} {q : Nat} {e : va_E} (h : (zw X ad T cf S)[n]? = some (q, e)) : ∃ e', (zw X ad T cf S')[n]? = some (q, e') := by
  unfold zw at h ⊢
  by_cases hx : n < X.length
  · rw [List.getElem?_append_left hx] at h ⊢
    exact ⟨e, h⟩
  · rw [List.getElem?_append_right (by omega), List.getElem?_map] at h ⊢
    cases hb : T[n - X.length]? with
    | none => rw [hb] at h; cases h
    | some b =>
      rw [hb] at h
      simp only [Option.map_some, Option.some.injEq, Prod.mk.injEq] at h ⊢
      exact ⟨_, h.1, rfl⟩
/-- which cells a method may change doesn't hang on what they hold -/
theorem zw_A {X : va_W} {ad : N3 → Nat} {T : List N3} {cf : Cf} {S : St} (S' : St) {sz q : Nat} (h : va_A (zw X ad T cf S) sz q) : va_A (zw X ad T cf S') sz q := by
  rcases h with ⟨k, e, h⟩ | h
  · obtain ⟨e', h'⟩ := zw_addr (S' := S') h
    exact Or.inl ⟨k, e', h'⟩
  · exact Or.inr h
/-- a walk's world -/
def Wd (D : va_G) (cl : List vw_C) (A : Nat → Prop) (H0 : Heap) (ws : va_W) (H : Heap) (locs : List Loc) : Prop := va_P D cl ws H ∧ va_D A ws ∧ va_S A H0 H locs
section ZK
variable {p : Program} {l : Launch} {e : Env} {R : Room} {s : State} {m : MethodId} {args : Array Value} {below : List Frame} {meth : Method} {c : Code} {H : Heap} {locs : List Loc} {cells slots : Nat} {Q : State → Prop}
variable {cc : ByteArray} {pc nL : Nat} {ls : Array Slot} {rest : List Value} {D : va_G} {cl : List vw_C} {A : Nat → Prop} {tys : List (ClassId × FieldType)} {H0 : Heap} {X : va_W} {ad : N3 → Nat} {T : List N3} {cf : Cf} {S : St} {Ts : List Cond} {own : String}
theorem z_get (hF : CallFix p m c cc nL s args Ts own) (hK : va_K D cl tys s) (hW : Wd D cl A H0 (zw X ad T cf S) H locs) {t : N3} (ht : t ∈ T) {ref C : String} {T1 : u_T} {N ci index : Nat} {fs : List Value} (he : zs cf S t = .inr (ci, fs)) (hc : cl[ci]? = some (C, T1, N)) (hin : ∀ w ∈ u_ws C T1 N, w ∈ Ts) (k : Nat) (hk : k < N) (hlink : Cond.fieldLink own index ref (T1 k).2.1 (T1 k).2.2.1 ∈ Ts) (hsame : (T1 k).1 = ref) {v : Value} (hv : fs[k]? = some v) (hdg : decode cc pc = .ok (.getfield index, 3))
    (kk : W p l e R s m args below meth c H locs cells slots Q (F0 m (pc + 3) ls (v :: rest))) : W p l e R s m args below meth c H locs cells slots Q (F0 m pc ls (.ref (ad t) :: rest)) := by
  obtain ⟨n, hn⟩ := zw_get (X := X) (ad := ad) (cf := cf) (S := S) ht
  rw [he] at hn
  exact va_get hF.1 hF.2.1 hF.2.2.2.2 hin hF.2.2.2.1 hK hW.1 n hn hc k hk (hF.2.2.2.2 _ hlink) (fun x h => by rw [← hsame]; exact h) hv hdg kk
/-- a field's store, into a state S' that differs in this cell alone -/
theorem z_put (hF : CallFix p m c cc nL s args Ts own) (hK : va_K D cl tys s) (hW : Wd D cl A H0 (zw X ad T cf S) H locs) {t : N3} (ht : t ∈ T) {ref C : String} {T1 : u_T} {N ci index : Nat} {fs : List Value} (he : zs cf S t = .inr (ci, fs)) (hc : cl[ci]? = some (C, T1, N)) (hin : ∀ w ∈ u_ws C T1 N, w ∈ Ts) (ty0 : Nat → FieldType) (hty : ∀ k, k < N → parseFieldDescriptor (T1 k).2.2.1 = some (ty0 k)) (hnm : ∀ a, a < N → ∀ b, b < N → a ≠ b → (T1 a).2.1 ≠ (T1 b).2.1) (k : Nat) (hk : k < N) (hlink : Cond.fieldLink own index ref (T1 k).2.1 (T1 k).2.2.1 ∈ Ts) (hsame : (T1 k).1 = ref) (hfin : (T1 k).2.2.2 = false) {ty : FieldType} {v : Value} (hd : ty0 k = ty) (hn : narrow ty v = v) (hfit : fits ty v = true) (hl : k < fs.length) {S' : St} (h1 : zs cf S' t = .inr (ci, fs.set k v)) (h2 : ∀ t', t' ≠ t → zs cf S' t' = zs cf S t') (hdg : decode cc pc = .ok (.putfield index, 3))
    (kk : ∀ (H1 : Heap) (locs1 : List Loc), Wd D cl A H0 (zw X ad T cf S') H1 locs1 → W p l e R s m args below meth c H1 locs1 cells slots Q (F0 m (pc + 3) ls rest)) : W p l e R s m args below meth c H locs cells slots Q (F0 m pc ls (v :: .ref (ad t) :: rest)) := by
  obtain ⟨n, hn0⟩ := zw_get (X := X) (ad := ad) (cf := cf) (S := S) ht
  have hn1 := hn0
  rw [he] at hn1
  have hst := zw_set hW.2.1 ht hn0 h1 h2
  refine va_put hF.1 hF.2.1 hF.2.2.2.2 hin ty0 hty hnm hF.2.2.2.1 hK hW.1 hW.2.1 hW.2.2 n hn1 hc k hk (hF.2.2.2.2 _ hlink) (fun x h => by rw [← hsame]; exact h) hfin (by rw [hty k hk, hd]) hn hfit hl hdg (fun H1 locs1 a1 a2 a3 => ?_)
  rw [hst] at a1 a2
  exact kk H1 locs1 ⟨a1, a2, a3⟩
theorem z_iald (hF : CallFix p m c cc nL s args Ts own) (hK : va_K D cl tys s) (hW : Wd D cl A H0 (zw X ad T cf S) H locs) {t : N3} (ht : t ∈ T) (t0 : Nat) {cA : ClassId} {n : Nat} {f : Nat → Int32} (he : zs cf S t = .inl (cA, n, .inl f)) (hty : tys[t0]? = some (cA, .int)) {i : Int32} (hin : vp_in i n) {v : Int32} (hv : f i.toNatClampNeg = v) (hdg : decode cc pc = .ok (.iaload, 1))
    (kk : W p l e R s m args below meth c H locs cells slots Q (F0 m (pc + 1) ls (.int v :: rest))) : W p l e R s m args below meth c H locs cells slots Q (F0 m pc ls (.int i :: .ref (ad t) :: rest)) := by
  obtain ⟨n9, hn⟩ := zw_get (X := X) (ad := ad) (cf := cf) (S := S) ht
  rw [he] at hn
  subst hv
  exact va_iald hF.1 hF.2.1 hK hW.1 n9 t0 hn hty hin hdg kk
theorem z_zald (hF : CallFix p m c cc nL s args Ts own) (hK : va_K D cl tys s) (hW : Wd D cl A H0 (zw X ad T cf S) H locs) {t : N3} (ht : t ∈ T) (t0 : Nat) {cA : ClassId} {n : Nat} {f : Nat → Int32} (he : zs cf S t = .inl (cA, n, .inl f)) (hty : tys[t0]? = some (cA, .boolean)) {i : Int32} (hin : vp_in i n) {v : Int32} (hv : f i.toNatClampNeg = v) (hdg : decode cc pc = .ok (.baload, 1))
    (kk : W p l e R s m args below meth c H locs cells slots Q (F0 m (pc + 1) ls (.int v :: rest))) : W p l e R s m args below meth c H locs cells slots Q (F0 m pc ls (.int i :: .ref (ad t) :: rest)) := by
  obtain ⟨n9, hn⟩ := zw_get (X := X) (ad := ad) (cf := cf) (S := S) ht
  rw [he] at hn
  subst hv
  exact va_zald hF.1 hF.2.1 hK hW.1 n9 t0 hn hty hin hdg kk
theorem z_lald (hF : CallFix p m c cc nL s args Ts own) (hK : va_K D cl tys s) (hW : Wd D cl A H0 (zw X ad T cf S) H locs) {t : N3} (ht : t ∈ T) (t0 : Nat) {cA : ClassId} {n : Nat} {f : Nat → Int64} (he : zs cf S t = .inl (cA, n, .inr (.inl f))) (hty : tys[t0]? = some (cA, .long)) {i : Int32} (hin : vp_in i n) {v : Int64} (hv : f i.toNatClampNeg = v) (hdg : decode cc pc = .ok (.laload, 1))
    (kk : W p l e R s m args below meth c H locs cells slots Q (F0 m (pc + 1) ls (.long v :: rest))) : W p l e R s m args below meth c H locs cells slots Q (F0 m pc ls (.int i :: .ref (ad t) :: rest)) := by
  obtain ⟨n9, hn⟩ := zw_get (X := X) (ad := ad) (cf := cf) (S := S) ht
  rw [he] at hn
  subst hv
  exact va_lald hF.1 hF.2.1 hK hW.1 n9 t0 hn hty hin hdg kk
theorem z_aald (hF : CallFix p m c cc nL s args Ts own) (hK : va_K D cl tys s) (hW : Wd D cl A H0 (zw X ad T cf S) H locs) {t : N3} (ht : t ∈ T) (t0 : Nat) {cA : ClassId} {C : String} {n : Nat} {f : Nat → Option Nat} (he : zs cf S t = .inl (cA, n, .inr (.inr (.inr (.inr f))))) (hty : tys[t0]? = some (cA, .object C)) {i : Int32} (hin : vp_in i n) {q : Nat} (hv : f i.toNatClampNeg = some q) (hdg : decode cc pc = .ok (.aaload, 1))
    (kk : W p l e R s m args below meth c H locs cells slots Q (F0 m (pc + 1) ls (.ref q :: rest))) : W p l e R s m args below meth c H locs cells slots Q (F0 m pc ls (.int i :: .ref (ad t) :: rest)) := by
  obtain ⟨n9, hn⟩ := zw_get (X := X) (ad := ad) (cf := cf) (S := S) ht
  rw [he] at hn
  refine va_aldq hF.1 hF.2.1 hK hW.1 n9 t0 hn hty hin hdg ?_
  rw [hv]
  exact kk
theorem z_iast (hF : CallFix p m c cc nL s args Ts own) (hK : va_K D cl tys s) (hW : Wd D cl A H0 (zw X ad T cf S) H locs) {t : N3} (ht : t ∈ T) (t0 : Nat) {cA : ClassId} {n : Nat} {f : Nat → Int32} (he : zs cf S t = .inl (cA, n, .inl f)) (hty : tys[t0]? = some (cA, .int)) {i x : Int32} (hin : vp_in i n) {S' : St} (h1 : zs cf S' t = .inl (cA, n, .inl (upd f i.toNatClampNeg x))) (h2 : ∀ t', t' ≠ t → zs cf S' t' = zs cf S t') (hdg : decode cc pc = .ok (.iastore, 1))
    (kk : ∀ (H1 : Heap) (locs1 : List Loc), Wd D cl A H0 (zw X ad T cf S') H1 locs1 → W p l e R s m args below meth c H1 locs1 cells slots Q (F0 m (pc + 1) ls rest)) : W p l e R s m args below meth c H locs cells slots Q (F0 m pc ls (.int x :: .int i :: .ref (ad t) :: rest)) := by
  obtain ⟨n9, hn0⟩ := zw_get (X := X) (ad := ad) (cf := cf) (S := S) ht
  have hn1 := hn0
  rw [he] at hn1
  have hst := zw_set hW.2.1 ht hn0 h1 h2
  refine va_iast hF.1 hF.2.1 hK hW.1 hW.2.1 hW.2.2 n9 t0 hn1 hty hin hdg (fun H1 locs1 a1 a2 a3 => ?_)
  rw [hst] at a1 a2
  exact kk H1 locs1 ⟨a1, a2, a3⟩
theorem z_zast (hF : CallFix p m c cc nL s args Ts own) (hK : va_K D cl tys s) (hW : Wd D cl A H0 (zw X ad T cf S) H locs) {t : N3} (ht : t ∈ T) (t0 : Nat) {cA : ClassId} {n : Nat} {f : Nat → Int32} (he : zs cf S t = .inl (cA, n, .inl f)) (hty : tys[t0]? = some (cA, .boolean)) {i x : Int32} (hin : vp_in i n) {S' : St} (h1 : zs cf S' t = .inl (cA, n, .inl (upd f i.toNatClampNeg (vp_nar .boolean x)))) (h2 : ∀ t', t' ≠ t → zs cf S' t' = zs cf S t') (hdg : decode cc pc = .ok (.bastore, 1))
    (kk : ∀ (H1 : Heap) (locs1 : List Loc), Wd D cl A H0 (zw X ad T cf S') H1 locs1 → W p l e R s m args below meth c H1 locs1 cells slots Q (F0 m (pc + 1) ls rest)) : W p l e R s m args below meth c H locs cells slots Q (F0 m pc ls (.int x :: .int i :: .ref (ad t) :: rest)) := by
  obtain ⟨n9, hn0⟩ := zw_get (X := X) (ad := ad) (cf := cf) (S := S) ht
  have hn1 := hn0
  rw [he] at hn1
  have hst := zw_set hW.2.1 ht hn0 h1 h2
  refine va_zast hF.1 hF.2.1 hK hW.1 hW.2.1 hW.2.2 n9 t0 hn1 hty hin hdg (fun H1 locs1 a1 a2 a3 => ?_)
  rw [hst] at a1 a2
  exact kk H1 locs1 ⟨a1, a2, a3⟩
theorem z_last (hF : CallFix p m c cc nL s args Ts own) (hK : va_K D cl tys s) (hW : Wd D cl A H0 (zw X ad T cf S) H locs) {t : N3} (ht : t ∈ T) (t0 : Nat) {cA : ClassId} {n : Nat} {f : Nat → Int64} (he : zs cf S t = .inl (cA, n, .inr (.inl f))) (hty : tys[t0]? = some (cA, .long)) {i : Int32} {x : Int64} (hin : vp_in i n) {S' : St} (h1 : zs cf S' t = .inl (cA, n, .inr (.inl (vp_updL f i.toNatClampNeg x)))) (h2 : ∀ t', t' ≠ t → zs cf S' t' = zs cf S t') (hdg : decode cc pc = .ok (.lastore, 1))
    (kk : ∀ (H1 : Heap) (locs1 : List Loc), Wd D cl A H0 (zw X ad T cf S') H1 locs1 → W p l e R s m args below meth c H1 locs1 cells slots Q (F0 m (pc + 1) ls rest)) : W p l e R s m args below meth c H locs cells slots Q (F0 m pc ls (.long x :: .int i :: .ref (ad t) :: rest)) := by
  obtain ⟨n9, hn0⟩ := zw_get (X := X) (ad := ad) (cf := cf) (S := S) ht
  have hn1 := hn0
  rw [he] at hn1
  have hst := zw_set hW.2.1 ht hn0 h1 h2
  refine va_last hF.1 hF.2.1 hK hW.1 hW.2.1 hW.2.2 n9 t0 hn1 hty hin hdg (fun H1 locs1 a1 a2 a3 => ?_)
  rw [hst] at a1 a2
  exact kk H1 locs1 ⟨a1, a2, a3⟩
theorem z_aast (hF : CallFix p m c cc nL s args Ts own) (hK : va_K D cl tys s) (hW : Wd D cl A H0 (zw X ad T cf S) H locs) {t t2 : N3} (ht : t ∈ T) (ht2 : t2 ∈ T) (t0 ci : Nat) {cA : ClassId} {r : vw_C} {n : Nat} {vs : List Value} {f : Nat → Option Nat} (he : zs cf S t = .inl (cA, n, .inr (.inr (.inr (.inr f))))) (hty : tys[t0]? = some (cA, .object r.1)) (he2 : zs cf S t2 = .inr (ci, vs)) (hc : cl[ci]? = some r) {i : Int32} (hin : vp_in i n) {S' : St} (h1 : zs cf S' t = .inl (cA, n, .inr (.inr (.inr (.inr (va_up f i.toNatClampNeg (some (ad t2)))))))) (h2 : ∀ t', t' ≠ t → zs cf S' t' = zs cf S t') (hdg : decode cc pc = .ok (.aastore, 1))
    (kk : ∀ (H1 : Heap) (locs1 : List Loc), Wd D cl A H0 (zw X ad T cf S') H1 locs1 → W p l e R s m args below meth c H1 locs1 cells slots Q (F0 m (pc + 1) ls rest)) : W p l e R s m args below meth c H locs cells slots Q (F0 m pc ls (.ref (ad t2) :: .int i :: .ref (ad t) :: rest)) := by
  obtain ⟨n9, hn0⟩ := zw_get (X := X) (ad := ad) (cf := cf) (S := S) ht
  have hn1 := hn0
  rw [he] at hn1
  obtain ⟨n8, hn2⟩ := zw_get (X := X) (ad := ad) (cf := cf) (S := S) ht2
  rw [he2] at hn2
  have hst := zw_set hW.2.1 ht hn0 h1 h2
  refine va_astq hF.1 hF.2.1 hK hW.1 hW.2.1 hW.2.2 n9 t0 n8 ci hn1 hty hn2 hc hin hdg (fun H1 locs1 a1 a2 a3 => ?_)
  rw [hst] at a1 a2
  exact kk H1 locs1 ⟨a1, a2, a3⟩
theorem z_alen (hF : CallFix p m c cc nL s args Ts own) (hK : va_K D cl tys s) (hW : Wd D cl A H0 (zw X ad T cf S) H locs) {t : N3} (ht : t ∈ T) (t0 : Nat) {cA : ClassId} {x : vp_A} (he : zs cf S t = .inl (cA, x)) {ty : FieldType} (hty : tys[t0]? = some (cA, ty)) {v : Int32} (hv : Int32.ofNat x.1 = v) (hdg : decode cc pc = .ok (.arraylength, 1))
    (kk : W p l e R s m args below meth c H locs cells slots Q (F0 m (pc + 1) ls (.int v :: rest))) : W p l e R s m args below meth c H locs cells slots Q (F0 m pc ls (.ref (ad t) :: rest)) := by
  obtain ⟨n9, hn⟩ := zw_get (X := X) (ad := ad) (cf := cf) (S := S) ht
  rw [he] at hn
  exact va_alen hF.1 hF.2.1 hK hW.1 n9 t0 hn hty hv hdg kk
theorem z_copyl (hF : CallFix p m c cc nL s args Ts own) (hK : va_K D cl tys s) (hW : Wd D cl A H0 (zw X ad T cf S) H locs) (hsz : ls.size = nL) {t t2 : N3} (ht : t ∈ T) (ht2 : t2 ∈ T) (t0 : Nat) {index : Nat} (hlink : Cond.methodLink own index arraycopyName ∈ Ts) (hnat : Cond.native arraycopyName ∈ Ts) (hstat : Cond.static arraycopyName ∈ Ts) (hini : Cond.initialized "java/lang/System" ∈ Ts) {c0 c1 : ClassId} {n0 n1 : Nat} {f g : Nat → Int64} (he : zs cf S t = .inl (c0, n0, .inr (.inl f))) (he2 : zs cf S t2 = .inl (c1, n1, .inr (.inl g))) (hty : tys[t0]? = some (c0, .long)) (hty2 : tys[t0]? = some (c1, .long))
    {sp dp n : Int32} (h1 : ¬ sp < 0) (h2 : ¬ dp < 0) (h3 : ¬ n < 0) (h4 : sp.toNatClampNeg + n.toNatClampNeg ≤ n0) (h5 : dp.toNatClampNeg + n.toNatClampNeg ≤ n1) (hframes : 1 ≤ R.frames) (hlocals : (rest.map fun v => v.category).sum + (nativeFrameWords "java/lang/System" "arraycopy" 5 + 11) ≤ R.locals) {S' : St} (k1 : zs cf S' t2 = .inl (c1, n1, .inr (.inl (va_cpy f g sp.toNatClampNeg dp.toNatClampNeg n.toNatClampNeg)))) (k2 : ∀ t', t' ≠ t2 → zs cf S' t' = zs cf S t') (hdg : decode cc pc = .ok (.invokestatic index, 3))
    (kk : ∀ (H1 : Heap) (locs1 : List Loc), Wd D cl A H0 (zw X ad T cf S') H1 locs1 → W p l e R s m args below meth c H1 locs1 cells slots Q (F0 m (pc + 3) ls rest)) : W p l e R s m args below meth c H locs cells slots Q (F0 m pc ls (.int n :: .int dp :: .ref (ad t2) :: .int sp :: .ref (ad t) :: rest)) := by
  obtain ⟨n9, hn1⟩ := zw_get (X := X) (ad := ad) (cf := cf) (S := S) ht
  rw [he] at hn1
  obtain ⟨n8, hn0⟩ := zw_get (X := X) (ad := ad) (cf := cf) (S := S) ht2
  have hn2 := hn0
  rw [he2] at hn2
  have hst := zw_set hW.2.1 ht2 hn0 k1 k2
  refine va_copyl hF.1 hF.2.1 (by rw [hF.2.2.1, hsz]) hF.2.2.2.1 (hF.2.2.2.2 _ hlink) (hF.2.2.2.2 _ hnat) (hF.2.2.2.2 _ hstat) (hF.2.2.2.2 _ hini) hK hW.1 hW.2.1 hW.2.2 n9 n8 t0 t0 hn1 hn2 hty hty2 rfl h1 h2 h3 h4 h5 (fun i _ => rfl) hframes hlocals hdg (fun H1 locs1 a1 a2 a3 => ?_)
  rw [hst] at a1 a2
  exact kk H1 locs1 ⟨a1, a2, a3⟩
end ZK
end
section
/-! Contracts over a world of named cells, and their use. -/
def zK (D : va_G) (cl : List vw_C) (tys : List (ClassId × FieldType)) (NW : List (String × Nat × MethodName × String)) (U : State) : Prop := va_K D cl tys U ∧ ∀ q ∈ NW, va_Nw (.methodLinkNest q.1 q.2.1 q.2.2.1 q.2.2.2) U
theorem zK.moved {D : va_G} {cl : List vw_C} {tys : List (ClassId × FieldType)} {NW : List (String × Nat × MethodName × String)} {s U : State} (hW : s.WarmedH U.vm) (h : zK D cl tys NW s) : zK D cl tys NW U := ⟨va_K.moved hW.alike h.1, fun q hq => va_Nw.warmM hW (h.2 q hq)⟩
theorem zK.calling {D : va_G} {cl : List vw_C} {tys : List (ClassId × FieldType)} {NW : List (String × Nat × MethodName × String)} {U : State} {g : JFrame} {mk : MethodId} {a : Array Value} (h : zK D cl tys NW U) : zK D cl tys NW (U.calling g mk a) := ⟨va_K.moved (u := U) (U := U.calling g mk a) (Vm.Alike.refl U.vm) h.1, fun q hq => va_Nw.same rfl (show U.vm = (U.calling g mk a).vm from rfl) (h.2 q hq)⟩
/-- a method's start: its arguments, its world, the tables -/
def zPre (D : va_G) (cl : List vw_C) (tys : List (ClassId × FieldType)) (NW : List (String × Nat × MethodName × String)) (ws : va_W) (sz : Nat) (av : List Value) : Array Value → State → Prop := va_Pc av (fun U => U.heap.size = sz ∧ va_P D cl ws U.heap ∧ zK D cl tys NW U ∧ va_D (fun _ => True) ws)
def zAt (D : va_G) (cl : List vw_C) (X : va_W) (ad : N3 → Nat) (T : List N3) (cf : Cf) (A : Nat → Prop) (S : St) (t : State) : Prop := va_P D cl (zw X ad T cf S) t.heap ∧ va_D A (zw X ad T cf S)
theorem zPre.blind {D : va_G} {cl : List vw_C} {tys : List (ClassId × FieldType)} {NW : List (String × Nat × MethodName × String)} {ws : va_W} {sz : Nat} {av : List Value} : FrameBlind (zPre D cl tys NW ws sz av) := fun a U g mk q => by
  obtain ⟨q0, q1, qP, qK, qD⟩ := q
  exact ⟨q0, q1, qP, qK.calling, qD⟩
theorem zPre.at {D : va_G} {cl : List vw_C} {tys : List (ClassId × FieldType)} {NW : List (String × Nat × MethodName × String)} {ws : va_W} {av : List Value} {A : Nat → Prop} {H : Heap} {s : State} (hP : va_P D cl ws H) (hD : va_D A ws) (hK : zK D cl tys NW s) : ∀ U : State, U.heap = H → s.WarmedH U.vm → zPre D cl tys NW ws H.size av av.toArray U := fun U hU hWm => ⟨rfl, by rw [hU], by rw [hU]; exact hP, hK.moved hWm, hD.weaken (fun _ _ _ _ => trivial)⟩
/-- the end of an int method, of a long, void or reference one: its answer and the state behind it -/
def eI (D : va_G) (cl : List vw_C) (X : va_W) (ad : N3 → Nat) (T : List N3) (cf : Cf) (A : Nat → Prop) (res : Int32 × St) : Array Value → State → Outcome → State → Prop := va_Qi (fun r u => r = res.1 ∧ u = res.2) (zAt D cl X ad T cf A) A
def eL (D : va_G) (cl : List vw_C) (X : va_W) (ad : N3 → Nat) (T : List N3) (cf : Cf) (A : Nat → Prop) (res : Int64 × St) : Array Value → State → Outcome → State → Prop := va_Ql (fun r u => r = res.1 ∧ u = res.2) (zAt D cl X ad T cf A) A
def eV (D : va_G) (cl : List vw_C) (X : va_W) (ad : N3 → Nat) (T : List N3) (cf : Cf) (A : Nat → Prop) (res : St) : Array Value → State → Outcome → State → Prop := va_Qv (fun u => u = res) (zAt D cl X ad T cf A) A
def eR (D : va_G) (cl : List vw_C) (X : va_W) (ad : N3 → Nat) (T : List N3) (cf : Cf) (A : Nat → Prop) (res : N3 × St) : Array Value → State → Outcome → State → Prop := va_Qr (fun u => u = res.2) (fun u a t => a = ad res.1 ∧ zAt D cl X ad T cf A u t) A
/-- contracts: from the world of S the method y comes back with res -/
def cI (l : Launch) (G : List Cond) (D : va_G) (cl : List vw_C) (tys : List (ClassId × FieldType)) (NW : List (String × Nat × MethodName × String)) (X : va_W) (ad : N3 → Nat) (T : List N3) (cf : Cf) (y : MethodName) (b : ByteArray) (n : Nat) (ret : FieldType) (fr lo : Nat) (av : List Value) (S : St) (res : Int32 × St) : Prop :=
  ∀ sz : Nat, Met l y (Cond.code y b n (some ret) :: G) { frames := fr, cells := 0, slots := 0, locals := lo } (zPre D cl tys NW (zw X ad T cf S) sz av) (eI D cl X ad T cf (va_A (zw X ad T cf S) sz) res) 0 0 (va_A (zw X ad T cf S) sz)
def cL (l : Launch) (G : List Cond) (D : va_G) (cl : List vw_C) (tys : List (ClassId × FieldType)) (NW : List (String × Nat × MethodName × String)) (X : va_W) (ad : N3 → Nat) (T : List N3) (cf : Cf) (y : MethodName) (b : ByteArray) (n : Nat) (ret : FieldType) (fr lo : Nat) (av : List Value) (S : St) (res : Int64 × St) : Prop :=
  ∀ sz : Nat, Met l y (Cond.code y b n (some ret) :: G) { frames := fr, cells := 0, slots := 0, locals := lo } (zPre D cl tys NW (zw X ad T cf S) sz av) (eL D cl X ad T cf (va_A (zw X ad T cf S) sz) res) 0 0 (va_A (zw X ad T cf S) sz)
def cV (l : Launch) (G : List Cond) (D : va_G) (cl : List vw_C) (tys : List (ClassId × FieldType)) (NW : List (String × Nat × MethodName × String)) (X : va_W) (ad : N3 → Nat) (T : List N3) (cf : Cf) (y : MethodName) (b : ByteArray) (n : Nat) (fr lo : Nat) (av : List Value) (S : St) (res : St) : Prop :=
  ∀ sz : Nat, Met l y (Cond.code y b n none :: G) { frames := fr, cells := 0, slots := 0, locals := lo } (zPre D cl tys NW (zw X ad T cf S) sz av) (eV D cl X ad T cf (va_A (zw X ad T cf S) sz) res) 0 0 (va_A (zw X ad T cf S) sz)
def cR (l : Launch) (G : List Cond) (D : va_G) (cl : List vw_C) (tys : List (ClassId × FieldType)) (NW : List (String × Nat × MethodName × String)) (X : va_W) (ad : N3 → Nat) (T : List N3) (cf : Cf) (y : MethodName) (b : ByteArray) (n : Nat) (ret : FieldType) (fr lo : Nat) (av : List Value) (S : St) (res : N3 × St) : Prop :=
  ∀ sz : Nat, Met l y (Cond.code y b n (some ret) :: G) { frames := fr, cells := 0, slots := 0, locals := lo } (zPre D cl tys NW (zw X ad T cf S) sz av) (eR D cl X ad T cf (va_A (zw X ad T cf S) sz) res) 0 0 (va_A (zw X ad T cf S) sz)
/-- what is fixed in a method's walk -/
def Hy (p : Program) (s : State) (m : MethodId) (args : Array Value) (meth : Method) (c : Code) (b : ByteArray) (n : Nat) (ret : Option FieldType) (own : String) (G : List Cond) (D : va_G) (cl : List vw_C) (tys : List (ClassId × FieldType)) (NW : List (String × Nat × MethodName × String)) : Prop :=
  CallFix p m c b n s args G own ∧ meth.sig.returnType = ret ∧ meth.locks = false ∧ zK D cl tys NW s
/-- what a method that is called gives, once for all: its code, its tables' words -/
def cdV (G : List Cond) (y : MethodName) (b : ByteArray) (n : Nat) (ret : Option FieldType) (np : Nat) : Prop :=
  Cond.code y b n ret ∈ G ∧ Cond.instanceMethod y ∈ G ∧ Cond.selects y.cls y y ∈ G ∧ Cond.initialized y.cls ∈ G ∧ (y.cls ≠ "java/lang/invoke/MethodHandle" ∧ y.cls ≠ "java/lang/invoke/VarHandle" ∧ (parseMethodDescriptor y.desc).map (fun d => d.parameters.length) = some np) ∧ ∀ w ∈ G, goodWord w = true
def cdS (G : List Cond) (y : MethodName) (b : ByteArray) (n : Nat) (ret : Option FieldType) (np : Nat) : Prop :=
  Cond.code y b n ret ∈ G ∧ Cond.static y ∈ G ∧ Cond.initialized y.cls ∈ G ∧ (y.cls ≠ "java/lang/invoke/MethodHandle" ∧ y.cls ≠ "java/lang/invoke/VarHandle" ∧ (parseMethodDescriptor y.desc).map (fun d => d.parameters.length) = some np) ∧ ∀ w ∈ G, goodWord w = true
theorem cdV.good {G : List Cond} {y : MethodName} {b : ByteArray} {n : Nat} {ret : Option FieldType} {np : Nat} (h : cdV G y b n ret np) {own : String} {index : Nat} (hl : Cond.methodLink own index y ∈ G) : GoodIn G (wsV own index y.cls y (Cond.code y b n ret :: G)) := by
  obtain ⟨h1, h2, h3, h4, -, hg⟩ := h
  have key : ∀ w ∈ wsV own index y.cls y (Cond.code y b n ret :: G), w ∈ G := by
    intro w hw
    unfold wsV at hw
    rcases List.mem_append.mp hw with hw | hw
    · simp only [List.mem_cons, List.not_mem_nil, or_false] at hw
      rcases hw with rfl | rfl | rfl | rfl
      · exact hl
      · exact h2
      · exact h3
      · exact h4
    · rcases List.mem_cons.mp hw with rfl | hw
      · exact h1
      · exact hw
  exact fun w hw => ⟨key w hw, good_of_word (hg w (key w hw))⟩
theorem cdS.good {G : List Cond} {y : MethodName} {b : ByteArray} {n : Nat} {ret : Option FieldType} {np : Nat} (h : cdS G y b n ret np) {own : String} {index : Nat} (hl : Cond.methodLink own index y ∈ G) : GoodIn G (va_wsS own index y (Cond.code y b n ret :: G)) := by
  obtain ⟨h1, h2, h3, -, hg⟩ := h
  have key : ∀ w ∈ va_wsS own index y (Cond.code y b n ret :: G), w ∈ G := by
    intro w hw
    unfold va_wsS at hw
    rcases List.mem_append.mp hw with hw | hw
    · simp only [List.mem_cons, List.not_mem_nil, or_false] at hw
      rcases hw with rfl | rfl | rfl
      · exact hl
      · exact h2
      · exact h3
    · rcases List.mem_cons.mp hw with rfl | hw
      · exact h1
      · exact hw
  exact fun w hw => ⟨key w hw, good_of_word (hg w (key w hw))⟩
theorem cdS.goodN {G : List Cond} {y : MethodName} {b : ByteArray} {n : Nat} {ret : Option FieldType} {np : Nat} (h : cdS G y b n ret np) : GoodIn G (Cond.code y b n ret :: G) := by
  obtain ⟨h1, -, -, -, hg⟩ := h
  have key : ∀ w ∈ (Cond.code y b n ret :: G), w ∈ G := fun w hw => (List.mem_cons.mp hw).elim (fun e => by rw [e]; exact h1) id
  exact fun w hw => ⟨key w hw, good_of_word (hg w (key w hw))⟩
theorem Wd.free {D : va_G} {cl : List vw_C} {A : Nat → Prop} {H0 H : Heap} {ws : va_W} {locs : List Loc} (hW : Wd D cl A H0 ws H locs) (hA : ∀ q, H0.size ≤ q → A q) : ∀ q, va_A ws H.size q → A q := by
  intro q h
  rcases h with ⟨k, e, h⟩ | h
  · exact hW.2.1.2 k _ h
  · exact hA q (Nat.le_trans hW.2.2.1 h)
theorem zAt.wd {D : va_G} {cl : List vw_C} {A B : Nat → Prop} {X : va_W} {ad : N3 → Nat} {T : List N3} {cf : Cf} {S : St} {t : State} {H0 H1 : Heap} {locs : List Loc} (h : zAt D cl X ad T cf B S t) (ht : t.heap = H1) (hBA : ∀ q, B q → A q) (hS : va_S A H0 H1 locs) : Wd D cl A H0 (zw X ad T cf S) H1 locs := ⟨by rw [← ht]; exact h.1, h.2.weaken (fun _ _ _ z => hBA _ z), hS⟩
section ZC
variable {p : Program} {l : Launch} {e : Env} {R : Room} {s : State} {m : MethodId} {args : Array Value} {below : List Frame} {meth : Method} {c : Code} {H : Heap} {locs : List Loc} {cells slots : Nat} {Q : State → Prop}
variable {cc : ByteArray} {pc nL : Nat} {ls : Array Slot} {rest st0 : List Value} {D : va_G} {cl : List vw_C} {A : Nat → Prop} {tys : List (ClassId × FieldType)} {NW : List (String × Nat × MethodName × String)} {H0 : Heap} {X : va_W} {ad : N3 → Nat} {T : List N3} {cf : Cf} {S : St} {G : List Cond} {own : String}
variable {y : MethodName} {b : ByteArray} {n np index fr lo : Nat} {ret : FieldType} {ro : Option FieldType} {As : List Value}
theorem zI_of {av : List Value} {res : Int32 × St} (hy : plainName y.cls = true) (hlen : (lg_sl av).length ≤ n)
    (body : ∀ (p : Program) (e : Env) (s : State) (m : MethodId) (below : List Frame) (meth : Method) (c : Code) (A : Nat → Prop) (ls : Array Slot), Hy p s m av.toArray meth c b n (some ret) y.cls G D cl tys NW → Wd D cl A s.heap (zw X ad T cf S) s.heap [] → (∀ q, s.heap.size ≤ q → A q) → lv_has ls n (lv_args 0 av) →
      W p l e { frames := fr, cells := 0, slots := 0, locals := lo } s m av.toArray below meth c s.heap [] 0 0 (MQ below (eI D cl X ad T cf A res) av.toArray s 0 0 A) (F0 m 0 ls [])) : cI l G D cl tys NW X ad T cf y b n ret fr lo av S res := by
  intro sz
  refine Met.ofW (cc := b) (maxL := n) (ret := some ret) hy rfl ?_
  intro p e s m args below meth c s₁ B hml hv
  obtain ⟨rfl, hsz, hP, hK, hD0⟩ := hv
  have hts := atoms_spec (ws := Cond.code y b n (some ret) :: G) B.pre
  subst hsz
  have hl := lv_entry av (n := n) hlen
  rw [lg_entry_eq]
  exact body p e s m below meth c _ _ ⟨⟨B.exec, B.bytes, hml, findClass_of_methodNamed B.named, fun w h => hts w (List.mem_cons_of_mem _ h)⟩, B.returns, B.notSynchronized, hK⟩ ⟨hP, hD0.self, va_S.rf⟩ (fun q h => Or.inr h) hl
theorem zL_of {av : List Value} {res : Int64 × St} (hy : plainName y.cls = true) (hlen : (lg_sl av).length ≤ n)
    (body : ∀ (p : Program) (e : Env) (s : State) (m : MethodId) (below : List Frame) (meth : Method) (c : Code) (A : Nat → Prop) (ls : Array Slot), Hy p s m av.toArray meth c b n (some ret) y.cls G D cl tys NW → Wd D cl A s.heap (zw X ad T cf S) s.heap [] → (∀ q, s.heap.size ≤ q → A q) → lv_has ls n (lv_args 0 av) →
      W p l e { frames := fr, cells := 0, slots := 0, locals := lo } s m av.toArray below meth c s.heap [] 0 0 (MQ below (eL D cl X ad T cf A res) av.toArray s 0 0 A) (F0 m 0 ls [])) : cL l G D cl tys NW X ad T cf y b n ret fr lo av S res := by
  intro sz
  refine Met.ofW (cc := b) (maxL := n) (ret := some ret) hy rfl ?_
  intro p e s m args below meth c s₁ B hml hv
  obtain ⟨rfl, hsz, hP, hK, hD0⟩ := hv
  have hts := atoms_spec (ws := Cond.code y b n (some ret) :: G) B.pre
  subst hsz
  have hl := lv_entry av (n := n) hlen
  rw [lg_entry_eq]
  exact body p e s m below meth c _ _ ⟨⟨B.exec, B.bytes, hml, findClass_of_methodNamed B.named, fun w h => hts w (List.mem_cons_of_mem _ h)⟩, B.returns, B.notSynchronized, hK⟩ ⟨hP, hD0.self, va_S.rf⟩ (fun q h => Or.inr h) hl
theorem zV_of {av : List Value} {res : St} (hy : plainName y.cls = true) (hlen : (lg_sl av).length ≤ n)
    (body : ∀ (p : Program) (e : Env) (s : State) (m : MethodId) (below : List Frame) (meth : Method) (c : Code) (A : Nat → Prop) (ls : Array Slot), Hy p s m av.toArray meth c b n none y.cls G D cl tys NW → Wd D cl A s.heap (zw X ad T cf S) s.heap [] → (∀ q, s.heap.size ≤ q → A q) → lv_has ls n (lv_args 0 av) →
      W p l e { frames := fr, cells := 0, slots := 0, locals := lo } s m av.toArray below meth c s.heap [] 0 0 (MQ below (eV D cl X ad T cf A res) av.toArray s 0 0 A) (F0 m 0 ls [])) : cV l G D cl tys NW X ad T cf y b n fr lo av S res := by
  intro sz
  refine Met.ofW (cc := b) (maxL := n) (ret := none) hy rfl ?_
  intro p e s m args below meth c s₁ B hml hv
  obtain ⟨rfl, hsz, hP, hK, hD0⟩ := hv
  have hts := atoms_spec (ws := Cond.code y b n none :: G) B.pre
  subst hsz
  have hl := lv_entry av (n := n) hlen
  rw [lg_entry_eq]
  exact body p e s m below meth c _ _ ⟨⟨B.exec, B.bytes, hml, findClass_of_methodNamed B.named, fun w h => hts w (List.mem_cons_of_mem _ h)⟩, B.returns, B.notSynchronized, hK⟩ ⟨hP, hD0.self, va_S.rf⟩ (fun q h => Or.inr h) hl
theorem zR_of {av : List Value} {res : N3 × St} (hy : plainName y.cls = true) (hlen : (lg_sl av).length ≤ n)
    (body : ∀ (p : Program) (e : Env) (s : State) (m : MethodId) (below : List Frame) (meth : Method) (c : Code) (A : Nat → Prop) (ls : Array Slot), Hy p s m av.toArray meth c b n (some ret) y.cls G D cl tys NW → Wd D cl A s.heap (zw X ad T cf S) s.heap [] → (∀ q, s.heap.size ≤ q → A q) → lv_has ls n (lv_args 0 av) →
      W p l e { frames := fr, cells := 0, slots := 0, locals := lo } s m av.toArray below meth c s.heap [] 0 0 (MQ below (eR D cl X ad T cf A res) av.toArray s 0 0 A) (F0 m 0 ls [])) : cR l G D cl tys NW X ad T cf y b n ret fr lo av S res := by
  intro sz
  refine Met.ofW (cc := b) (maxL := n) (ret := some ret) hy rfl ?_
  intro p e s m args below meth c s₁ B hml hv
  obtain ⟨rfl, hsz, hP, hK, hD0⟩ := hv
  have hts := atoms_spec (ws := Cond.code y b n (some ret) :: G) B.pre
  subst hsz
  have hl := lv_entry av (n := n) hlen
  rw [lg_entry_eq]
  exact body p e s m below meth c _ _ ⟨⟨B.exec, B.bytes, hml, findClass_of_methodNamed B.named, fun w h => hts w (List.mem_cons_of_mem _ h)⟩, B.returns, B.notSynchronized, hK⟩ ⟨hP, hD0.self, va_S.rf⟩ (fun q h => Or.inr h) hl
/-- returns -/
theorem z_iret (hy : Hy p s m args meth c cc nL (some .int) own G D cl tys NW) (hW : Wd D cl A s.heap (zw X ad T cf S) H locs) {v : Int32} {res : Int32 × St} (e1 : res = (v, S)) (hdg : decode cc pc = .ok (.ireturn, 1)) : W p l e R s m args below meth c H locs 0 0 (MQ below (eI D cl X ad T cf A res) args s 0 0 A) (F0 m pc ls [.int v]) := by
  subst e1
  exact W.iret hy.1.1 hy.1.2.1 hy.2.1 (fun t ht _ => ⟨⟨v, S, rfl, ⟨rfl, rfl⟩, by rw [ht]; exact hW.1, hW.2.1⟩, hW.2.2.F ht⟩) hW.2.2.2.2 hdg hy.2.2.1
theorem z_zret (hy : Hy p s m args meth c cc nL (some .boolean) own G D cl tys NW) (hW : Wd D cl A s.heap (zw X ad T cf S) H locs) {v : Int32} {res : Int32 × St} (hn : narrow .boolean (.int v) = .int v) (e1 : res = (v, S)) (hdg : decode cc pc = .ok (.ireturn, 1)) : W p l e R s m args below meth c H locs 0 0 (MQ below (eI D cl X ad T cf A res) args s 0 0 A) (F0 m pc ls [.int v]) := by
  subst e1
  exact W.zret hy.1.1 hy.1.2.1 hy.2.1 hn (fun t ht _ => ⟨⟨v, S, rfl, ⟨rfl, rfl⟩, by rw [ht]; exact hW.1, hW.2.1⟩, hW.2.2.F ht⟩) hW.2.2.2.2 hdg hy.2.2.1
theorem z_lret (hy : Hy p s m args meth c cc nL (some .long) own G D cl tys NW) (hW : Wd D cl A s.heap (zw X ad T cf S) H locs) {v : Int64} {res : Int64 × St} (e1 : res = (v, S)) (hdg : decode cc pc = .ok (.lreturn, 1)) : W p l e R s m args below meth c H locs 0 0 (MQ below (eL D cl X ad T cf A res) args s 0 0 A) (F0 m pc ls [.long v]) := by
  subst e1
  exact W.lret hy.1.1 hy.1.2.1 hy.2.1 (fun t ht _ => ⟨⟨v, S, rfl, ⟨rfl, rfl⟩, by rw [ht]; exact hW.1, hW.2.1⟩, hW.2.2.F ht⟩) hW.2.2.2.2 hdg hy.2.2.1
theorem z_vret (hy : Hy p s m args meth c cc nL none own G D cl tys NW) (hW : Wd D cl A s.heap (zw X ad T cf S) H locs) {res : St} (e1 : res = S) (hdg : decode cc pc = .ok (.return_, 1)) : W p l e R s m args below meth c H locs 0 0 (MQ below (eV D cl X ad T cf A res) args s 0 0 A) (F0 m pc ls []) := by
  subst e1
  exact W.vret hy.1.1 hy.1.2.1 hy.2.1 (fun t ht _ => ⟨⟨_, rfl, rfl, by rw [ht]; exact hW.1, hW.2.1⟩, hW.2.2.F ht⟩) hW.2.2.2.2 hdg hy.2.2.1
theorem z_aret {C : String} (hy : Hy p s m args meth c cc nL (some (.object C)) own G D cl tys NW) (hW : Wd D cl A s.heap (zw X ad T cf S) H locs) {t : N3} {res : N3 × St} (e1 : res = (t, S)) (hdg : decode cc pc = .ok (.areturn, 1)) : W p l e R s m args below meth c H locs 0 0 (MQ below (eR D cl X ad T cf A res) args s 0 0 A) (F0 m pc ls [.ref (ad t)]) := by
  subst e1
  exact W.aret hy.1.1 hy.1.2.1 hy.2.1 (Or.inl ⟨C, rfl⟩) (Or.inr ⟨_, rfl⟩) (fun u hu _ => ⟨⟨S, ad t, rfl, rfl, rfl, by rw [hu]; exact hW.1, hW.2.1⟩, hW.2.2.F hu⟩) hW.2.2.2.2 hdg hy.2.2.1
/-- calls of an instance's method -/
theorem z_runV {Qc : Array Value → State → Outcome → State → Prop} (hF : CallFix p m c cc nL s args G own) (hK : zK D cl tys NW s) (hW : Wd D cl A H0 (zw X ad T cf S) H locs) {t : N3} (hM : Met l y (Cond.code y b n ro :: G) { frames := fr, cells := 0, slots := 0, locals := lo } (zPre D cl tys NW (zw X ad T cf S) H.size (.ref (ad t) :: As)) Qc 0 0 (va_A (zw X ad T cf S) H.size)) (cd : cdV G y b n ro np) (hlink : Cond.methodLink own index y ∈ G) (ht : t ∈ T) {T1 : u_T} {N ci : Nat} {fs : List Value} (he : zs cf S t = .inr (ci, fs)) (hc : cl[ci]? = some (y.cls, T1, N))
    (hR : fr + 1 ≤ R.frames ∧ 8 + (n + 11) + lo ≤ R.locals) (hcs : cells ≤ R.cells ∧ slots ≤ R.slots) (hst : st0 = As.reverse ++ .ref (ad t) :: rest) (hnp : As.length = np) (hsz : ls.size = nL) (hroom : (rest.map fun v => v.category).sum ≤ 8) (hdg : decode cc pc = .ok (.invokevirtual index, 3)) :
    va_Run p l e R s m args below meth c H locs cells slots 0 0 (F0 m pc ls st0) rest (Qc (Value.ref (ad t) :: As).toArray) (va_A (zw X ad T cf S) H.size) := by
  obtain ⟨k, hk⟩ := zw_get (X := X) (ad := ad) (cf := cf) (S := S) ht
  rw [he] at hk
  exact va_runV (As := As) (rest := rest) hF hM (cwV np hF.2.2.2.2 (cd.good hlink) rfl rfl rfl ⟨rfl, cd.2.2.2.2.1⟩ hR) ⟨zPre.blind, va_recv hK.1 hW.1 hc hk, zPre.at hW.1 hW.2.1 hK⟩ rfl hnp hsz hst (lv_room hroom) hdg hcs
theorem z_runS {Qc : Array Value → State → Outcome → State → Prop} (hF : CallFix p m c cc nL s args G own) (hK : zK D cl tys NW s) (hW : Wd D cl A H0 (zw X ad T cf S) H locs) (hM : Met l y (Cond.code y b n ro :: G) { frames := fr, cells := 0, slots := 0, locals := lo } (zPre D cl tys NW (zw X ad T cf S) H.size As) Qc 0 0 (va_A (zw X ad T cf S) H.size)) (cd : cdS G y b n ro np) (hlink : Cond.methodLink own index y ∈ G)
    (hR : fr + 1 ≤ R.frames ∧ 8 + (n + 11) + lo ≤ R.locals) (hcs : cells ≤ R.cells ∧ slots ≤ R.slots) (hst : st0 = As.reverse ++ rest) (hnp : As.length = np) (hsz : ls.size = nL) (hroom : (rest.map fun v => v.category).sum ≤ 8) (hdg : decode cc pc = .ok (.invokestatic index, 3)) :
    va_Run p l e R s m args below meth c H locs cells slots 0 0 (F0 m pc ls st0) rest (Qc As.toArray) (va_A (zw X ad T cf S) H.size) :=
  va_runS (As := As) (rest := rest) hF hM (va_cwS np hF.2.2.2.2 (cd.good hlink) rfl rfl rfl cd.2.2.2.1 hR) ⟨zPre.blind, zPre.at hW.1 hW.2.1 hK⟩ rfl hnp hsz hst (lv_room hroom) hdg hcs
theorem z_runSN {host : String} {Qc : Array Value → State → Outcome → State → Prop} (hF : CallFix p m c cc nL s args G own) (hK : zK D cl tys NW s) (hW : Wd D cl A H0 (zw X ad T cf S) H locs) (hM : Met l y (Cond.code y b n ro :: G) { frames := fr, cells := 0, slots := 0, locals := lo } (zPre D cl tys NW (zw X ad T cf S) H.size As) Qc 0 0 (va_A (zw X ad T cf S) H.size)) (cd : cdS G y b n ro np) (hlink : (own, index, y, host) ∈ NW)
    (hR : fr + 1 ≤ R.frames ∧ 8 + (n + 11) + lo ≤ R.locals) (hcs : cells ≤ R.cells ∧ slots ≤ R.slots) (hst : st0 = As.reverse ++ rest) (hnp : As.length = np) (hsz : ls.size = nL) (hroom : (rest.map fun v => v.category).sum ≤ 8) (hdg : decode cc pc = .ok (.invokestatic index, 3)) :
    va_Run p l e R s m args below meth c H locs cells slots 0 0 (F0 m pc ls st0) rest (Qc As.toArray) (va_A (zw X ad T cf S) H.size) :=
  va_runSN (As := As) (rest := rest) hF hM ⟨va_cnB np hF.2.2.2.2 cd.goodN rfl rfl rfl (hK.2 _ hlink) (hF.2.2.2.2 _ cd.2.2.1) cd.2.2.2.1 hR, hF.2.2.2.2 _ cd.2.1, trivial⟩ ⟨zPre.blind, zPre.at hW.1 hW.2.1 hK⟩ rfl hnp hsz hst (lv_room hroom) hdg hcs
/-- behind a call -/
theorem z_thenI {a : Array Value} {res : Int32 × St} (hW : Wd D cl A H0 (zw X ad T cf S) H locs) (hA : ∀ q, H0.size ≤ q → A q) (hr : va_Run p l e R s m args below meth c H locs cells slots 0 0 (F0 m pc ls st0) rest (eI D cl X ad T cf (va_A (zw X ad T cf S) H.size) res a) (va_A (zw X ad T cf S) H.size))
    (kk : ∀ (H1 : Heap) (locs1 : List Loc), Wd D cl A H0 (zw X ad T cf res.2) H1 locs1 → W p l e R s m args below meth c H1 locs1 cells slots Q (F0 m (pc + 3) ls (.int res.1 :: rest))) : W p l e R s m args below meth c H locs cells slots Q (F0 m pc ls st0) := by
  have hf := hW.free hA
  refine va_calli hr hW.2.2 (fun q _ h => hf q h) hf (fun r u t H1 locs1 ht _ hp hB _ _ hS => ?_)
  obtain ⟨rfl, rfl⟩ := hp
  exact kk H1 locs1 (hB.wd ht hf hS)
theorem z_thenL {a : Array Value} {res : Int64 × St} (hW : Wd D cl A H0 (zw X ad T cf S) H locs) (hA : ∀ q, H0.size ≤ q → A q) (hr : va_Run p l e R s m args below meth c H locs cells slots 0 0 (F0 m pc ls st0) rest (eL D cl X ad T cf (va_A (zw X ad T cf S) H.size) res a) (va_A (zw X ad T cf S) H.size))
    (kk : ∀ (H1 : Heap) (locs1 : List Loc), Wd D cl A H0 (zw X ad T cf res.2) H1 locs1 → W p l e R s m args below meth c H1 locs1 cells slots Q (F0 m (pc + 3) ls (.long res.1 :: rest))) : W p l e R s m args below meth c H locs cells slots Q (F0 m pc ls st0) := by
  have hf := hW.free hA
  refine va_calll hr hW.2.2 (fun q _ h => hf q h) hf (fun r u t H1 locs1 ht _ hp hB _ _ hS => ?_)
  obtain ⟨rfl, rfl⟩ := hp
  exact kk H1 locs1 (hB.wd ht hf hS)
theorem z_thenV {a : Array Value} {res : St} (hW : Wd D cl A H0 (zw X ad T cf S) H locs) (hA : ∀ q, H0.size ≤ q → A q) (hr : va_Run p l e R s m args below meth c H locs cells slots 0 0 (F0 m pc ls st0) rest (eV D cl X ad T cf (va_A (zw X ad T cf S) H.size) res a) (va_A (zw X ad T cf S) H.size))
    (kk : ∀ (H1 : Heap) (locs1 : List Loc), Wd D cl A H0 (zw X ad T cf res) H1 locs1 → W p l e R s m args below meth c H1 locs1 cells slots Q (F0 m (pc + 3) ls rest)) : W p l e R s m args below meth c H locs cells slots Q (F0 m pc ls st0) := by
  have hf := hW.free hA
  refine va_callv hr hW.2.2 (fun q _ h => hf q h) hf (fun u t H1 locs1 ht _ hp hB _ _ hS => ?_)
  subst hp
  exact kk H1 locs1 (hB.wd ht hf hS)
theorem z_thenR {a : Array Value} {res : N3 × St} (hW : Wd D cl A H0 (zw X ad T cf S) H locs) (hA : ∀ q, H0.size ≤ q → A q) (hr : va_Run p l e R s m args below meth c H locs cells slots 0 0 (F0 m pc ls st0) rest (eR D cl X ad T cf (va_A (zw X ad T cf S) H.size) res a) (va_A (zw X ad T cf S) H.size))
    (kk : ∀ (H1 : Heap) (locs1 : List Loc), Wd D cl A H0 (zw X ad T cf res.2) H1 locs1 → W p l e R s m args below meth c H1 locs1 cells slots Q (F0 m (pc + 3) ls (.ref (ad res.1) :: rest))) : W p l e R s m args below meth c H locs cells slots Q (F0 m pc ls st0) := by
  have hf := hW.free hA
  refine va_callr hr hW.2.2 (fun q _ h => hf q h) hf (fun u ra t H1 locs1 ht _ hp hB _ _ hS => ?_)
  subst hp
  obtain ⟨rfl, hB⟩ := hB
  exact kk H1 locs1 (hB.wd ht hf hS)
end ZC
end
section
/-! Names: classes, methods, their words. Written by wip/whole/make.py. -/
def GG : List Cond := lw_tbl.filter goodWord
theorem GG_good : ∀ w ∈ GG, goodWord w = true := fun w h => (List.mem_filter.mp h).2
theorem GG_in {w : Cond} {i : Nat} (h : lw_tbl[i]? = some w) (hg : goodWord w = true) : w ∈ GG := List.mem_filter.mpr ⟨List.mem_of_getElem? h, hg⟩
def R_Message : String := "QuorumChain$Message"
def F_Message : u_T := fun k => match k with
  | 0 => ("QuorumChain$Message", "signature", "[J", true)
  | 1 => ("QuorumChain$Message", "kind", "I", false)
  | 2 => ("QuorumChain$Message", "sender", "I", false)
  | 3 => ("QuorumChain$Message", "block", "I", false)
  | 4 => ("QuorumChain$Message", "view", "I", false)
  | _ => ("QuorumChain$Message", "key", "I", false)
def t_Message : Nat → FieldType := fun k => match k with
  | 0 => .array .long
  | 1 => .int
  | 2 => .int
  | 3 => .int
  | 4 => .int
  | _ => .int
theorem nmo_Message : ∀ a, a < 6 → ∀ b, b < 6 → a ≠ b → (F_Message a).2.1 ≠ (F_Message b).2.1 := by decide +kernel
theorem tyo_Message : ∀ k, k < 6 → parseFieldDescriptor (F_Message k).2.2.1 = some (t_Message k) := by decide +kernel
theorem pn_Message : plainName R_Message = true := by decide +kernel
def R_KeyTree : String := "QuorumChain$KeyTree"
def F_KeyTree : u_T := fun k => match k with
  | 0 => ("QuorumChain$KeyTree", "tree", "[J", true)
  | 1 => ("QuorumChain$KeyTree", "seed", "I", true)
  | 2 => ("QuorumChain$KeyTree", "owner", "I", true)
  | _ => ("QuorumChain$KeyTree", "used", "I", false)
def t_KeyTree : Nat → FieldType := fun k => match k with
  | 0 => .array .long
  | 1 => .int
  | 2 => .int
  | _ => .int
theorem nmo_KeyTree : ∀ a, a < 4 → ∀ b, b < 4 → a ≠ b → (F_KeyTree a).2.1 ≠ (F_KeyTree b).2.1 := by decide +kernel
theorem tyo_KeyTree : ∀ k, k < 4 → parseFieldDescriptor (F_KeyTree k).2.2.1 = some (t_KeyTree k) := by decide +kernel
theorem pn_KeyTree : plainName R_KeyTree = true := by decide +kernel
def R_Fold : String := "QuorumChain$Fold"
theorem pn_Fold : plainName R_Fold = true := by decide +kernel
def R_QC : String := "QuorumChain"
def F_QC : u_T := fun k => match k with
  | 0 => ("QuorumChain", "nodes", "[LQuorumChain$Node;", true)
  | 1 => ("QuorumChain", "blocks", "LQuorumChain$Blocks;", true)
  | 2 => ("QuorumChain", "transactions", "LQuorumChain$Transactions;", true)
  | 3 => ("QuorumChain", "draft", "LQuorumChain$Message;", true)
  | 4 => ("QuorumChain", "arrived", "LQuorumChain$Message;", true)
  | 5 => ("QuorumChain", "clock", "I", false)
  | _ => ("QuorumChain", "begun", "Z", false)
def t_QC : Nat → FieldType := fun k => match k with
  | 0 => .array (.object "QuorumChain$Node")
  | 1 => .object "QuorumChain$Blocks"
  | 2 => .object "QuorumChain$Transactions"
  | 3 => .object "QuorumChain$Message"
  | 4 => .object "QuorumChain$Message"
  | 5 => .int
  | _ => .boolean
theorem nmo_QC : ∀ a, a < 7 → ∀ b, b < 7 → a ≠ b → (F_QC a).2.1 ≠ (F_QC b).2.1 := by decide +kernel
theorem tyo_QC : ∀ k, k < 7 → parseFieldDescriptor (F_QC k).2.2.1 = some (t_QC k) := by decide +kernel
theorem pn_QC : plainName R_QC = true := by decide +kernel
def R_Inbox : String := "QuorumChain$Inbox"
def F_Inbox : u_T := fun k => match k with
  | 0 => ("QuorumChain$Inbox", "row", "[LQuorumChain$Message;", true)
  | _ => ("QuorumChain$Inbox", "count", "I", false)
def t_Inbox : Nat → FieldType := fun k => match k with
  | 0 => .array (.object "QuorumChain$Message")
  | _ => .int
theorem nmo_Inbox : ∀ a, a < 2 → ∀ b, b < 2 → a ≠ b → (F_Inbox a).2.1 ≠ (F_Inbox b).2.1 := by decide +kernel
theorem tyo_Inbox : ∀ k, k < 2 → parseFieldDescriptor (F_Inbox k).2.2.1 = some (t_Inbox k) := by decide +kernel
theorem pn_Inbox : plainName R_Inbox = true := by decide +kernel
def R_Store : String := "QuorumChain$Store"
def F_Store : u_T := fun k => match k with
  | 0 => ("QuorumChain$Store", "has", "[Z", true)
  | 1 => ("QuorumChain$Store", "log", "[I", true)
  | 2 => ("QuorumChain$Store", "accounts", "LQuorumChain$Accounts;", true)
  | 3 => ("QuorumChain$Store", "keys", "LQuorumChain$KeyTree;", true)
  | 4 => ("QuorumChain$Store", "blockCount", "I", false)
  | 5 => ("QuorumChain$Store", "logLength", "I", false)
  | 6 => ("QuorumChain$Store", "voted", "I", false)
  | _ => ("QuorumChain$Store", "locked", "I", false)
def t_Store : Nat → FieldType := fun k => match k with
  | 0 => .array .boolean
  | 1 => .array .int
  | 2 => .object "QuorumChain$Accounts"
  | 3 => .object "QuorumChain$KeyTree"
  | 4 => .int
  | 5 => .int
  | 6 => .int
  | _ => .int
theorem nmo_Store : ∀ a, a < 8 → ∀ b, b < 8 → a ≠ b → (F_Store a).2.1 ≠ (F_Store b).2.1 := by decide +kernel
theorem tyo_Store : ∀ k, k < 8 → parseFieldDescriptor (F_Store k).2.2.1 = some (t_Store k) := by decide +kernel
theorem pn_Store : plainName R_Store = true := by decide +kernel
def R_Node : String := "QuorumChain$Node"
def F_Node : u_T := fun k => match k with
  | 0 => ("QuorumChain$Node", "id", "I", true)
  | 1 => ("QuorumChain$Node", "store", "LQuorumChain$Store;", true)
  | 2 => ("QuorumChain$Node", "inbox", "LQuorumChain$Inbox;", true)
  | 3 => ("QuorumChain$Node", "votes", "LQuorumChain$Tally;", true)
  | 4 => ("QuorumChain$Node", "timeouts", "LQuorumChain$Tally;", true)
  | 5 => ("QuorumChain$Node", "pool", "[I", true)
  | 6 => ("QuorumChain$Node", "poolSize", "I", false)
  | 7 => ("QuorumChain$Node", "up", "Z", false)
  | 8 => ("QuorumChain$Node", "view", "I", false)
  | 9 => ("QuorumChain$Node", "timer", "I", false)
  | 10 => ("QuorumChain$Node", "span", "I", false)
  | _ => ("QuorumChain$Node", "high", "I", false)
def t_Node : Nat → FieldType := fun k => match k with
  | 0 => .int
  | 1 => .object "QuorumChain$Store"
  | 2 => .object "QuorumChain$Inbox"
  | 3 => .object "QuorumChain$Tally"
  | 4 => .object "QuorumChain$Tally"
  | 5 => .array .int
  | 6 => .int
  | 7 => .boolean
  | 8 => .int
  | 9 => .int
  | 10 => .int
  | _ => .int
theorem nmo_Node : ∀ a, a < 12 → ∀ b, b < 12 → a ≠ b → (F_Node a).2.1 ≠ (F_Node b).2.1 := by decide +kernel
theorem tyo_Node : ∀ k, k < 12 → parseFieldDescriptor (F_Node k).2.2.1 = some (t_Node k) := by decide +kernel
theorem pn_Node : plainName R_Node = true := by decide +kernel
def R_Blocks : String := "QuorumChain$Blocks"
def F_Blocks : u_T := fun k => match k with
  | 0 => ("QuorumChain$Blocks", "view", "[I", true)
  | 1 => ("QuorumChain$Blocks", "parent", "[I", true)
  | 2 => ("QuorumChain$Blocks", "carried", "[I", true)
  | 3 => ("QuorumChain$Blocks", "certified", "[Z", true)
  | _ => ("QuorumChain$Blocks", "count", "I", false)
def t_Blocks : Nat → FieldType := fun k => match k with
  | 0 => .array .int
  | 1 => .array .int
  | 2 => .array .int
  | 3 => .array .boolean
  | _ => .int
theorem nmo_Blocks : ∀ a, a < 5 → ∀ b, b < 5 → a ≠ b → (F_Blocks a).2.1 ≠ (F_Blocks b).2.1 := by decide +kernel
theorem tyo_Blocks : ∀ k, k < 5 → parseFieldDescriptor (F_Blocks k).2.2.1 = some (t_Blocks k) := by decide +kernel
theorem pn_Blocks : plainName R_Blocks = true := by decide +kernel
def R_Transactions : String := "QuorumChain$Transactions"
def F_Transactions : u_T := fun k => match k with
  | 0 => ("QuorumChain$Transactions", "from", "[I", true)
  | 1 => ("QuorumChain$Transactions", "to", "[I", true)
  | 2 => ("QuorumChain$Transactions", "amount", "[I", true)
  | 3 => ("QuorumChain$Transactions", "nonce", "[I", true)
  | _ => ("QuorumChain$Transactions", "count", "I", false)
def t_Transactions : Nat → FieldType := fun k => match k with
  | 0 => .array .int
  | 1 => .array .int
  | 2 => .array .int
  | 3 => .array .int
  | _ => .int
theorem nmo_Transactions : ∀ a, a < 5 → ∀ b, b < 5 → a ≠ b → (F_Transactions a).2.1 ≠ (F_Transactions b).2.1 := by decide +kernel
theorem tyo_Transactions : ∀ k, k < 5 → parseFieldDescriptor (F_Transactions k).2.2.1 = some (t_Transactions k) := by decide +kernel
theorem pn_Transactions : plainName R_Transactions = true := by decide +kernel
def R_Accounts : String := "QuorumChain$Accounts"
def F_Accounts : u_T := fun k => match k with
  | 0 => ("QuorumChain$Accounts", "money", "[I", true)
  | _ => ("QuorumChain$Accounts", "nonce", "[I", true)
def t_Accounts : Nat → FieldType := fun k => match k with
  | 0 => .array .int
  | _ => .array .int
theorem nmo_Accounts : ∀ a, a < 2 → ∀ b, b < 2 → a ≠ b → (F_Accounts a).2.1 ≠ (F_Accounts b).2.1 := by decide +kernel
theorem tyo_Accounts : ∀ k, k < 2 → parseFieldDescriptor (F_Accounts k).2.2.1 = some (t_Accounts k) := by decide +kernel
theorem pn_Accounts : plainName R_Accounts = true := by decide +kernel
def R_Integer : String := "java/lang/Integer"
theorem pn_Integer : plainName R_Integer = true := by decide +kernel
def R_Tally : String := "QuorumChain$Tally"
def F_Tally : u_T := fun k => match k with
  | _ => ("QuorumChain$Tally", "bits", "[I", true)
def t_Tally : Nat → FieldType := fun k => match k with
  | _ => .array .int
theorem nmo_Tally : ∀ a, a < 1 → ∀ b, b < 1 → a ≠ b → (F_Tally a).2.1 ≠ (F_Tally b).2.1 := by decide +kernel
theorem tyo_Tally : ∀ k, k < 1 → parseFieldDescriptor (F_Tally k).2.2.1 = some (t_Tally k) := by decide +kernel
theorem pn_Tally : plainName R_Tally = true := by decide +kernel
abbrev b_Message_write : ByteArray := prog_7_method_2_code
def y_Message_write : MethodName := ⟨R_Message, "write", "(IIII)V"⟩
abbrev b_KeyTree_isLeft : ByteArray := prog_6_method_3_code
def y_KeyTree_isLeft : MethodName := ⟨R_KeyTree, "isLeft", "()Z"⟩
abbrev b_Fold_absorb : ByteArray := prog_4_method_2_code
def y_Fold_absorb : MethodName := ⟨R_Fold, "absorb", "(JJ)J"⟩
abbrev b_Fold_finish : ByteArray := prog_4_method_3_code
def y_Fold_finish : MethodName := ⟨R_Fold, "finish", "(J)J"⟩
abbrev b_Message_meaning : ByteArray := prog_7_method_4_code
def y_Message_meaning : MethodName := ⟨R_Message, "meaning", "()J"⟩
abbrev b_KeyTree_digit : ByteArray := prog_6_method_9_code
def y_KeyTree_digit : MethodName := ⟨R_KeyTree, "digit", "(II)I"⟩
abbrev b_KeyTree_digitsOf : ByteArray := prog_6_method_8_code
def y_KeyTree_digitsOf : MethodName := ⟨R_KeyTree, "digitsOf", "(J)I"⟩
abbrev b_KeyTree_secretOf : ByteArray := prog_6_method_7_code
def y_KeyTree_secretOf : MethodName := ⟨R_KeyTree, "secretOf", "(IIII)J"⟩
abbrev b_Fold_afterSteps : ByteArray := prog_4_method_5_code
def y_Fold_afterSteps : MethodName := ⟨R_Fold, "afterSteps", "(JI)J"⟩
abbrev b_KeyTree_sign : ByteArray := prog_6_method_4_code
def y_KeyTree_sign : MethodName := ⟨R_KeyTree, "sign", "(LQuorumChain$Message;)Z"⟩
abbrev b_QC_writeSigned : ByteArray := prog_1_method_40_code
def y_QC_writeSigned : MethodName := ⟨R_QC, "writeSigned", "(LQuorumChain$Node;III)Z"⟩
abbrev b_Message_copyFrom : ByteArray := prog_7_method_3_code
def y_Message_copyFrom : MethodName := ⟨R_Message, "copyFrom", "(LQuorumChain$Message;)V"⟩
abbrev b_Inbox_add : ByteArray := prog_5_method_3_code
def y_Inbox_add : MethodName := ⟨R_Inbox, "add", "(LQuorumChain$Message;)V"⟩
abbrev b_QC_sendDraftToAll : ByteArray := prog_1_method_41_code
def y_QC_sendDraftToAll : MethodName := ⟨R_QC, "sendDraftToAll", "()V"⟩
abbrev b_QC_countDown : ByteArray := prog_1_method_37_code
def y_QC_countDown : MethodName := ⟨R_QC, "countDown", "(LQuorumChain$Node;)V"⟩
abbrev b_QC_tick : ByteArray := prog_1_method_10_code
def y_QC_tick : MethodName := ⟨R_QC, "tick", "()I"⟩
abbrev b_QC_isNode : ByteArray := prog_1_method_20_code
def y_QC_isNode : MethodName := ⟨R_QC, "isNode", "(I)Z"⟩
abbrev b_QC_node : ByteArray := prog_1_method_13_code
def y_QC_node : MethodName := ⟨R_QC, "node", "(II)I"⟩
abbrev b_Store_logged : ByteArray := prog_9_method_4_code
def y_Store_logged : MethodName := ⟨R_Store, "logged", "(I)I"⟩
abbrev b_QC_log : ByteArray := prog_1_method_14_code
def y_QC_log : MethodName := ⟨R_QC, "log", "(II)I"⟩
abbrev b_QC_isAccount : ByteArray := prog_1_method_21_code
def y_QC_isAccount : MethodName := ⟨R_QC, "isAccount", "(I)Z"⟩
abbrev b_QC_account : ByteArray := prog_1_method_15_code
def y_QC_account : MethodName := ⟨R_QC, "account", "(III)I"⟩
abbrev b_Blocks_exists : ByteArray := prog_3_method_2_code
def y_Blocks_exists : MethodName := ⟨R_Blocks, "exists", "(I)Z"⟩
abbrev b_Blocks_viewOf : ByteArray := prog_3_method_4_code
def y_Blocks_viewOf : MethodName := ⟨R_Blocks, "viewOf", "(I)I"⟩
abbrev b_Blocks_parentOf : ByteArray := prog_3_method_5_code
def y_Blocks_parentOf : MethodName := ⟨R_Blocks, "parentOf", "(I)I"⟩
abbrev b_Blocks_transactionOf : ByteArray := prog_3_method_6_code
def y_Blocks_transactionOf : MethodName := ⟨R_Blocks, "transactionOf", "(I)I"⟩
abbrev b_Blocks_isCertified : ByteArray := prog_3_method_7_code
def y_Blocks_isCertified : MethodName := ⟨R_Blocks, "isCertified", "(I)Z"⟩
abbrev b_Store_hasBlock : ByteArray := prog_9_method_2_code
def y_Store_hasBlock : MethodName := ⟨R_Store, "hasBlock", "(I)Z"⟩
abbrev b_QC_nodesThatHave : ByteArray := prog_1_method_23_code
def y_QC_nodesThatHave : MethodName := ⟨R_QC, "nodesThatHave", "(I)I"⟩
abbrev b_QC_block : ByteArray := prog_1_method_16_code
def y_QC_block : MethodName := ⟨R_QC, "block", "(II)I"⟩
abbrev b_QC_message : ByteArray := prog_1_method_17_code
def y_QC_message : MethodName := ⟨R_QC, "message", "(III)I"⟩
abbrev b_KeyTree_top : ByteArray := prog_6_method_2_code
def y_KeyTree_top : MethodName := ⟨R_KeyTree, "top", "()J"⟩
abbrev b_QC_root : ByteArray := prog_1_method_18_code
def y_QC_root : MethodName := ⟨R_QC, "root", "(I)J"⟩
abbrev b_QC_about : ByteArray := prog_1_method_19_code
def y_QC_about : MethodName := ⟨R_QC, "about", "(I)I"⟩
abbrev b_QC_leaderOf : ByteArray := prog_1_method_22_code
def y_QC_leaderOf : MethodName := ⟨R_QC, "leaderOf", "(I)I"⟩
abbrev b_Blocks_isAbove : ByteArray := prog_3_method_9_code
def y_Blocks_isAbove : MethodName := ⟨R_Blocks, "isAbove", "(II)Z"⟩
abbrev b_QC_highestParent : ByteArray := prog_1_method_24_code
def y_QC_highestParent : MethodName := ⟨R_QC, "highestParent", "(LQuorumChain$Store;)I"⟩
abbrev b_Fold_pair : ByteArray := prog_4_method_4_code
def y_Fold_pair : MethodName := ⟨R_Fold, "pair", "(JJ)J"⟩
abbrev b_KeyTree_isGood : ByteArray := prog_6_method_5_code
def y_KeyTree_isGood : MethodName := ⟨R_KeyTree, "isGood", "(LQuorumChain$Message;)Z"⟩
abbrev b_QC_isHeard : ByteArray := prog_1_method_25_code
def y_QC_isHeard : MethodName := ⟨R_QC, "isHeard", "(LQuorumChain$Message;)Z"⟩
abbrev b_QC_sendUnsigned : ByteArray := prog_1_method_39_code
def y_QC_sendUnsigned : MethodName := ⟨R_QC, "sendUnsigned", "(LQuorumChain$Node;III)V"⟩
abbrev b_Store_keepBlock : ByteArray := prog_9_method_3_code
def y_Store_keepBlock : MethodName := ⟨R_Store, "keepBlock", "(I)V"⟩
abbrev b_QC_raiseHigh : ByteArray := prog_1_method_28_code
def y_QC_raiseHigh : MethodName := ⟨R_QC, "raiseHigh", "(LQuorumChain$Node;I)V"⟩
abbrev b_Blocks_isNextView : ByteArray := prog_3_method_10_code
def y_Blocks_isNextView : MethodName := ⟨R_Blocks, "isNextView", "(II)Z"⟩
abbrev b_Store_lastLogged : ByteArray := prog_9_method_5_code
def y_Store_lastLogged : MethodName := ⟨R_Store, "lastLogged", "()I"⟩
abbrev b_Blocks_stepsDown : ByteArray := prog_3_method_12_code
def y_Blocks_stepsDown : MethodName := ⟨R_Blocks, "stepsDown", "(II)I"⟩
abbrev b_Transactions_exists : ByteArray := prog_11_method_2_code
def y_Transactions_exists : MethodName := ⟨R_Transactions, "exists", "(I)Z"⟩
abbrev b_Accounts_move : ByteArray := prog_2_method_2_code
def y_Accounts_move : MethodName := ⟨R_Accounts, "move", "(IIII)V"⟩
abbrev b_Transactions_carryOut : ByteArray := prog_11_method_4_code
def y_Transactions_carryOut : MethodName := ⟨R_Transactions, "carryOut", "(ILQuorumChain$Accounts;)V"⟩
abbrev b_QC_commitUpTo : ByteArray := prog_1_method_38_code
def y_QC_commitUpTo : MethodName := ⟨R_QC, "commitUpTo", "(LQuorumChain$Store;I)V"⟩
abbrev b_QC_takeAsCertified : ByteArray := prog_1_method_27_code
def y_QC_takeAsCertified : MethodName := ⟨R_QC, "takeAsCertified", "(LQuorumChain$Node;I)V"⟩
abbrev b_Blocks_isBelow : ByteArray := prog_3_method_11_code
def y_Blocks_isBelow : MethodName := ⟨R_Blocks, "isBelow", "(II)Z"⟩
abbrev b_QC_mayVoteFor : ByteArray := prog_1_method_29_code
def y_QC_mayVoteFor : MethodName := ⟨R_QC, "mayVoteFor", "(LQuorumChain$Node;II)Z"⟩
abbrev b_Node_enter : ByteArray := prog_8_method_3_code
def y_Node_enter : MethodName := ⟨R_Node, "enter", "(I)V"⟩
abbrev b_QC_voteFor : ByteArray := prog_1_method_30_code
def y_QC_voteFor : MethodName := ⟨R_QC, "voteFor", "(LQuorumChain$Node;II)V"⟩
abbrev b_QC_receiveProposal : ByteArray := prog_1_method_26_code
def y_QC_receiveProposal : MethodName := ⟨R_QC, "receiveProposal", "(LQuorumChain$Node;II)V"⟩
abbrev b_Integer_bitCount : ByteArray := prog_17_method_49_code
def y_Integer_bitCount : MethodName := ⟨R_Integer, "bitCount", "(I)I"⟩
abbrev b_Tally_keep : ByteArray := prog_10_method_2_code
def y_Tally_keep : MethodName := ⟨R_Tally, "keep", "(II)I"⟩
abbrev b_Blocks_certify : ByteArray := prog_3_method_8_code
def y_Blocks_certify : MethodName := ⟨R_Blocks, "certify", "(I)V"⟩
abbrev b_Blocks_isInChain : ByteArray := prog_3_method_13_code
def y_Blocks_isInChain : MethodName := ⟨R_Blocks, "isInChain", "(II)Z"⟩
abbrev b_QC_firstNewTransaction : ByteArray := prog_1_method_36_code
def y_QC_firstNewTransaction : MethodName := ⟨R_QC, "firstNewTransaction", "(LQuorumChain$Node;)I"⟩
abbrev b_Blocks_add : ByteArray := prog_3_method_3_code
def y_Blocks_add : MethodName := ⟨R_Blocks, "add", "(III)I"⟩
abbrev b_QC_propose : ByteArray := prog_1_method_35_code
def y_QC_propose : MethodName := ⟨R_QC, "propose", "(LQuorumChain$Node;)V"⟩
abbrev b_QC_receiveVote : ByteArray := prog_1_method_31_code
def y_QC_receiveVote : MethodName := ⟨R_QC, "receiveVote", "(LQuorumChain$Node;II)V"⟩
abbrev b_QC_receiveTimeout : ByteArray := prog_1_method_32_code
def y_QC_receiveTimeout : MethodName := ⟨R_QC, "receiveTimeout", "(LQuorumChain$Node;III)V"⟩
abbrev b_QC_receiveAsk : ByteArray := prog_1_method_33_code
def y_QC_receiveAsk : MethodName := ⟨R_QC, "receiveAsk", "(LQuorumChain$Node;II)V"⟩
abbrev b_QC_receiveBlock : ByteArray := prog_1_method_34_code
def y_QC_receiveBlock : MethodName := ⟨R_QC, "receiveBlock", "(LQuorumChain$Node;II)V"⟩
abbrev b_Inbox_first : ByteArray := prog_5_method_2_code
def y_Inbox_first : MethodName := ⟨R_Inbox, "first", "()LQuorumChain$Message;"⟩
abbrev b_Inbox_moveFirstBehind : ByteArray := prog_5_method_4_code
def y_Inbox_moveFirstBehind : MethodName := ⟨R_Inbox, "moveFirstBehind", "()V"⟩
abbrev b_Inbox_dropFirst : ByteArray := prog_5_method_5_code
def y_Inbox_dropFirst : MethodName := ⟨R_Inbox, "dropFirst", "()V"⟩
abbrev b_KeyTree_leafOf : ByteArray := prog_6_method_6_code
def y_KeyTree_leafOf : MethodName := ⟨R_KeyTree, "leafOf", "(III)J"⟩
abbrev b_Node_addToPool : ByteArray := prog_8_method_2_code
def y_Node_addToPool : MethodName := ⟨R_Node, "addToPool", "(I)Z"⟩
abbrev b_Tally_empty : ByteArray := prog_10_method_3_code
def y_Tally_empty : MethodName := ⟨R_Tally, "empty", "()V"⟩
abbrev b_Node_fall : ByteArray := prog_8_method_4_code
def y_Node_fall : MethodName := ⟨R_Node, "fall", "()V"⟩
abbrev b_Node_rise : ByteArray := prog_8_method_5_code
def y_Node_rise : MethodName := ⟨R_Node, "rise", "(I)V"⟩
abbrev b_Transactions_add : ByteArray := prog_11_method_3_code
def y_Transactions_add : MethodName := ⟨R_Transactions, "add", "(IIII)I"⟩
end
section
theorem gw_0 : Cond.selects "QuorumChain" (⟨"QuorumChain", "countDown", "(LQuorumChain$Node;)V"⟩ : MethodName) (⟨"QuorumChain", "countDown", "(LQuorumChain$Node;)V"⟩ : MethodName) ∈ GG := GG_in (i := 0) (by decide +kernel) (by decide +kernel)
theorem gw_1 : Cond.selects "QuorumChain" (⟨"QuorumChain", "writeSigned", "(LQuorumChain$Node;III)Z"⟩ : MethodName) (⟨"QuorumChain", "writeSigned", "(LQuorumChain$Node;III)Z"⟩ : MethodName) ∈ GG := GG_in (i := 1) (by decide +kernel) (by decide +kernel)
theorem gw_2 : Cond.selects "QuorumChain" (⟨"QuorumChain", "sendDraftToAll", "()V"⟩ : MethodName) (⟨"QuorumChain", "sendDraftToAll", "()V"⟩ : MethodName) ∈ GG := GG_in (i := 2) (by decide +kernel) (by decide +kernel)
theorem gw_3 : Cond.selects "QuorumChain" (⟨"QuorumChain", "nodesThatHave", "(I)I"⟩ : MethodName) (⟨"QuorumChain", "nodesThatHave", "(I)I"⟩ : MethodName) ∈ GG := GG_in (i := 3) (by decide +kernel) (by decide +kernel)
theorem gw_5 : Cond.selects "QuorumChain" (⟨"QuorumChain", "propose", "(LQuorumChain$Node;)V"⟩ : MethodName) (⟨"QuorumChain", "propose", "(LQuorumChain$Node;)V"⟩ : MethodName) ∈ GG := GG_in (i := 5) (by decide +kernel) (by decide +kernel)
theorem gw_6 : Cond.selects "QuorumChain" (⟨"QuorumChain", "firstNewTransaction", "(LQuorumChain$Node;)I"⟩ : MethodName) (⟨"QuorumChain", "firstNewTransaction", "(LQuorumChain$Node;)I"⟩ : MethodName) ∈ GG := GG_in (i := 6) (by decide +kernel) (by decide +kernel)
theorem gw_7 : Cond.selects "QuorumChain" (⟨"QuorumChain", "isHeard", "(LQuorumChain$Message;)Z"⟩ : MethodName) (⟨"QuorumChain", "isHeard", "(LQuorumChain$Message;)Z"⟩ : MethodName) ∈ GG := GG_in (i := 7) (by decide +kernel) (by decide +kernel)
theorem gw_8 : Cond.selects "QuorumChain" (⟨"QuorumChain", "receiveProposal", "(LQuorumChain$Node;II)V"⟩ : MethodName) (⟨"QuorumChain", "receiveProposal", "(LQuorumChain$Node;II)V"⟩ : MethodName) ∈ GG := GG_in (i := 8) (by decide +kernel) (by decide +kernel)
theorem gw_9 : Cond.selects "QuorumChain" (⟨"QuorumChain", "sendUnsigned", "(LQuorumChain$Node;III)V"⟩ : MethodName) (⟨"QuorumChain", "sendUnsigned", "(LQuorumChain$Node;III)V"⟩ : MethodName) ∈ GG := GG_in (i := 9) (by decide +kernel) (by decide +kernel)
theorem gw_10 : Cond.selects "QuorumChain" (⟨"QuorumChain", "takeAsCertified", "(LQuorumChain$Node;I)V"⟩ : MethodName) (⟨"QuorumChain", "takeAsCertified", "(LQuorumChain$Node;I)V"⟩ : MethodName) ∈ GG := GG_in (i := 10) (by decide +kernel) (by decide +kernel)
theorem gw_11 : Cond.selects "QuorumChain" (⟨"QuorumChain", "raiseHigh", "(LQuorumChain$Node;I)V"⟩ : MethodName) (⟨"QuorumChain", "raiseHigh", "(LQuorumChain$Node;I)V"⟩ : MethodName) ∈ GG := GG_in (i := 11) (by decide +kernel) (by decide +kernel)
theorem gw_12 : Cond.selects "QuorumChain" (⟨"QuorumChain", "commitUpTo", "(LQuorumChain$Store;I)V"⟩ : MethodName) (⟨"QuorumChain", "commitUpTo", "(LQuorumChain$Store;I)V"⟩ : MethodName) ∈ GG := GG_in (i := 12) (by decide +kernel) (by decide +kernel)
theorem gw_13 : Cond.selects "QuorumChain" (⟨"QuorumChain", "mayVoteFor", "(LQuorumChain$Node;II)Z"⟩ : MethodName) (⟨"QuorumChain", "mayVoteFor", "(LQuorumChain$Node;II)Z"⟩ : MethodName) ∈ GG := GG_in (i := 13) (by decide +kernel) (by decide +kernel)
theorem gw_14 : Cond.selects "QuorumChain" (⟨"QuorumChain", "voteFor", "(LQuorumChain$Node;II)V"⟩ : MethodName) (⟨"QuorumChain", "voteFor", "(LQuorumChain$Node;II)V"⟩ : MethodName) ∈ GG := GG_in (i := 14) (by decide +kernel) (by decide +kernel)
theorem gw_15 : Cond.selects "QuorumChain" (⟨"QuorumChain", "receiveVote", "(LQuorumChain$Node;II)V"⟩ : MethodName) (⟨"QuorumChain", "receiveVote", "(LQuorumChain$Node;II)V"⟩ : MethodName) ∈ GG := GG_in (i := 15) (by decide +kernel) (by decide +kernel)
theorem gw_16 : Cond.selects "QuorumChain" (⟨"QuorumChain", "receiveTimeout", "(LQuorumChain$Node;III)V"⟩ : MethodName) (⟨"QuorumChain", "receiveTimeout", "(LQuorumChain$Node;III)V"⟩ : MethodName) ∈ GG := GG_in (i := 16) (by decide +kernel) (by decide +kernel)
theorem gw_17 : Cond.selects "QuorumChain" (⟨"QuorumChain", "receiveAsk", "(LQuorumChain$Node;II)V"⟩ : MethodName) (⟨"QuorumChain", "receiveAsk", "(LQuorumChain$Node;II)V"⟩ : MethodName) ∈ GG := GG_in (i := 17) (by decide +kernel) (by decide +kernel)
theorem gw_18 : Cond.selects "QuorumChain" (⟨"QuorumChain", "receiveBlock", "(LQuorumChain$Node;II)V"⟩ : MethodName) (⟨"QuorumChain", "receiveBlock", "(LQuorumChain$Node;II)V"⟩ : MethodName) ∈ GG := GG_in (i := 18) (by decide +kernel) (by decide +kernel)
theorem gw_19 : Cond.selects "QuorumChain" (⟨"QuorumChain", "highestParent", "(LQuorumChain$Store;)I"⟩ : MethodName) (⟨"QuorumChain", "highestParent", "(LQuorumChain$Store;)I"⟩ : MethodName) ∈ GG := GG_in (i := 19) (by decide +kernel) (by decide +kernel)
theorem gw_52 : (Jvm.Cond.initialized "QuorumChain") ∈ GG := GG_in (i := 52) (by decide +kernel) (by decide +kernel)
theorem gw_53 : (Jvm.Cond.initialized "QuorumChain$Blocks") ∈ GG := GG_in (i := 53) (by decide +kernel) (by decide +kernel)
theorem gw_54 : (Jvm.Cond.initialized "QuorumChain$Transactions") ∈ GG := GG_in (i := 54) (by decide +kernel) (by decide +kernel)
theorem gw_55 : (Jvm.Cond.initialized "QuorumChain$Message") ∈ GG := GG_in (i := 55) (by decide +kernel) (by decide +kernel)
theorem gw_56 : (Jvm.Cond.initialized "QuorumChain$Node") ∈ GG := GG_in (i := 56) (by decide +kernel) (by decide +kernel)
theorem gw_57 : (Jvm.Cond.initialized "QuorumChain$Inbox") ∈ GG := GG_in (i := 57) (by decide +kernel) (by decide +kernel)
theorem gw_58 : (Jvm.Cond.initialized "QuorumChain$Tally") ∈ GG := GG_in (i := 58) (by decide +kernel) (by decide +kernel)
theorem gw_59 : (Jvm.Cond.initialized "QuorumChain$Store") ∈ GG := GG_in (i := 59) (by decide +kernel) (by decide +kernel)
theorem gw_60 : (Jvm.Cond.initialized "QuorumChain$Accounts") ∈ GG := GG_in (i := 60) (by decide +kernel) (by decide +kernel)
theorem gw_61 : (Jvm.Cond.initialized "QuorumChain$KeyTree") ∈ GG := GG_in (i := 61) (by decide +kernel) (by decide +kernel)
theorem gw_62 : (Jvm.Cond.initialized "QuorumChain$Fold") ∈ GG := GG_in (i := 62) (by decide +kernel) (by decide +kernel)
theorem gw_69 : (Jvm.Cond.initialized "java/lang/System") ∈ GG := GG_in (i := 69) (by decide +kernel) (by decide +kernel)
theorem gw_70 : (Jvm.Cond.initialized "java/lang/Integer") ∈ GG := GG_in (i := 70) (by decide +kernel) (by decide +kernel)
theorem gw_71 : (Jvm.Cond.initialized "java/lang/Math") ∈ GG := GG_in (i := 71) (by decide +kernel) (by decide +kernel)
theorem gw_88 : (Jvm.Cond.fieldLink "QuorumChain$Blocks" (9 : Nat) "QuorumChain$Blocks" "view" "[I") ∈ GG := GG_in (i := 88) (by decide +kernel) (by decide +kernel)
theorem gw_89 : (Jvm.Cond.fieldLink "QuorumChain$Blocks" (15 : Nat) "QuorumChain$Blocks" "parent" "[I") ∈ GG := GG_in (i := 89) (by decide +kernel) (by decide +kernel)
theorem gw_90 : (Jvm.Cond.fieldLink "QuorumChain$Blocks" (18 : Nat) "QuorumChain$Blocks" "carried" "[I") ∈ GG := GG_in (i := 90) (by decide +kernel) (by decide +kernel)
theorem gw_91 : (Jvm.Cond.fieldLink "QuorumChain$Blocks" (21 : Nat) "QuorumChain$Blocks" "certified" "[Z") ∈ GG := GG_in (i := 91) (by decide +kernel) (by decide +kernel)
theorem gw_92 : (Jvm.Cond.fieldLink "QuorumChain$Blocks" (25 : Nat) "QuorumChain$Blocks" "count" "I") ∈ GG := GG_in (i := 92) (by decide +kernel) (by decide +kernel)
theorem gw_93 : (Jvm.Cond.fieldLink "QuorumChain" (206 : Nat) "QuorumChain$Blocks" "count" "I") ∈ GG := GG_in (i := 93) (by decide +kernel) (by decide +kernel)
theorem gw_94 : (Jvm.Cond.laysFinal "QuorumChain$Blocks" "QuorumChain$Blocks" "view" "[I") ∈ GG := GG_in (i := 94) (by decide +kernel) (by decide +kernel)
theorem gw_96 : (Jvm.Cond.laysFinal "QuorumChain$Blocks" "QuorumChain$Blocks" "parent" "[I") ∈ GG := GG_in (i := 96) (by decide +kernel) (by decide +kernel)
theorem gw_98 : (Jvm.Cond.laysFinal "QuorumChain$Blocks" "QuorumChain$Blocks" "carried" "[I") ∈ GG := GG_in (i := 98) (by decide +kernel) (by decide +kernel)
theorem gw_100 : (Jvm.Cond.laysFinal "QuorumChain$Blocks" "QuorumChain$Blocks" "certified" "[Z") ∈ GG := GG_in (i := 100) (by decide +kernel) (by decide +kernel)
theorem gw_102 : (Jvm.Cond.lays "QuorumChain$Blocks" "QuorumChain$Blocks" "count" "I") ∈ GG := GG_in (i := 102) (by decide +kernel) (by decide +kernel)
theorem gw_113 : (Jvm.Cond.fieldLink "QuorumChain$Transactions" (9 : Nat) "QuorumChain$Transactions" "from" "[I") ∈ GG := GG_in (i := 113) (by decide +kernel) (by decide +kernel)
theorem gw_114 : (Jvm.Cond.fieldLink "QuorumChain$Transactions" (15 : Nat) "QuorumChain$Transactions" "to" "[I") ∈ GG := GG_in (i := 114) (by decide +kernel) (by decide +kernel)
theorem gw_115 : (Jvm.Cond.fieldLink "QuorumChain$Transactions" (18 : Nat) "QuorumChain$Transactions" "amount" "[I") ∈ GG := GG_in (i := 115) (by decide +kernel) (by decide +kernel)
theorem gw_116 : (Jvm.Cond.fieldLink "QuorumChain$Transactions" (21 : Nat) "QuorumChain$Transactions" "nonce" "[I") ∈ GG := GG_in (i := 116) (by decide +kernel) (by decide +kernel)
theorem gw_117 : (Jvm.Cond.fieldLink "QuorumChain$Transactions" (24 : Nat) "QuorumChain$Transactions" "count" "I") ∈ GG := GG_in (i := 117) (by decide +kernel) (by decide +kernel)
theorem gw_118 : (Jvm.Cond.fieldLink "QuorumChain" (55 : Nat) "QuorumChain$Transactions" "count" "I") ∈ GG := GG_in (i := 118) (by decide +kernel) (by decide +kernel)
theorem gw_119 : (Jvm.Cond.laysFinal "QuorumChain$Transactions" "QuorumChain$Transactions" "from" "[I") ∈ GG := GG_in (i := 119) (by decide +kernel) (by decide +kernel)
theorem gw_121 : (Jvm.Cond.laysFinal "QuorumChain$Transactions" "QuorumChain$Transactions" "to" "[I") ∈ GG := GG_in (i := 121) (by decide +kernel) (by decide +kernel)
theorem gw_123 : (Jvm.Cond.laysFinal "QuorumChain$Transactions" "QuorumChain$Transactions" "amount" "[I") ∈ GG := GG_in (i := 123) (by decide +kernel) (by decide +kernel)
theorem gw_125 : (Jvm.Cond.laysFinal "QuorumChain$Transactions" "QuorumChain$Transactions" "nonce" "[I") ∈ GG := GG_in (i := 125) (by decide +kernel) (by decide +kernel)
theorem gw_127 : (Jvm.Cond.lays "QuorumChain$Transactions" "QuorumChain$Transactions" "count" "I") ∈ GG := GG_in (i := 127) (by decide +kernel) (by decide +kernel)
theorem gw_136 : (Jvm.Cond.fieldLink "QuorumChain$Message" (9 : Nat) "QuorumChain$Message" "signature" "[J") ∈ GG := GG_in (i := 136) (by decide +kernel) (by decide +kernel)
theorem gw_137 : (Jvm.Cond.fieldLink "QuorumChain$KeyTree" (52 : Nat) "QuorumChain$Message" "signature" "[J") ∈ GG := GG_in (i := 137) (by decide +kernel) (by decide +kernel)
theorem gw_139 : (Jvm.Cond.fieldLink "QuorumChain$Message" (19 : Nat) "QuorumChain$Message" "kind" "I") ∈ GG := GG_in (i := 139) (by decide +kernel) (by decide +kernel)
theorem gw_140 : (Jvm.Cond.fieldLink "QuorumChain" (123 : Nat) "QuorumChain$Message" "kind" "I") ∈ GG := GG_in (i := 140) (by decide +kernel) (by decide +kernel)
theorem gw_141 : (Jvm.Cond.fieldLink "QuorumChain$Message" (22 : Nat) "QuorumChain$Message" "sender" "I") ∈ GG := GG_in (i := 141) (by decide +kernel) (by decide +kernel)
theorem gw_142 : (Jvm.Cond.fieldLink "QuorumChain" (126 : Nat) "QuorumChain$Message" "sender" "I") ∈ GG := GG_in (i := 142) (by decide +kernel) (by decide +kernel)
theorem gw_143 : (Jvm.Cond.fieldLink "QuorumChain$Message" (25 : Nat) "QuorumChain$Message" "block" "I") ∈ GG := GG_in (i := 143) (by decide +kernel) (by decide +kernel)
theorem gw_144 : (Jvm.Cond.fieldLink "QuorumChain" (129 : Nat) "QuorumChain$Message" "block" "I") ∈ GG := GG_in (i := 144) (by decide +kernel) (by decide +kernel)
theorem gw_145 : (Jvm.Cond.fieldLink "QuorumChain$Message" (28 : Nat) "QuorumChain$Message" "view" "I") ∈ GG := GG_in (i := 145) (by decide +kernel) (by decide +kernel)
theorem gw_146 : (Jvm.Cond.fieldLink "QuorumChain" (139 : Nat) "QuorumChain$Message" "view" "I") ∈ GG := GG_in (i := 146) (by decide +kernel) (by decide +kernel)
theorem gw_147 : (Jvm.Cond.fieldLink "QuorumChain$Message" (15 : Nat) "QuorumChain$Message" "key" "I") ∈ GG := GG_in (i := 147) (by decide +kernel) (by decide +kernel)
theorem gw_148 : (Jvm.Cond.fieldLink "QuorumChain$KeyTree" (39 : Nat) "QuorumChain$Message" "key" "I") ∈ GG := GG_in (i := 148) (by decide +kernel) (by decide +kernel)
theorem gw_149 : (Jvm.Cond.fieldLink "QuorumChain" (161 : Nat) "QuorumChain$Message" "key" "I") ∈ GG := GG_in (i := 149) (by decide +kernel) (by decide +kernel)
theorem gw_150 : (Jvm.Cond.laysFinal "QuorumChain$Message" "QuorumChain$Message" "signature" "[J") ∈ GG := GG_in (i := 150) (by decide +kernel) (by decide +kernel)
theorem gw_152 : (Jvm.Cond.lays "QuorumChain$Message" "QuorumChain$Message" "kind" "I") ∈ GG := GG_in (i := 152) (by decide +kernel) (by decide +kernel)
theorem gw_154 : (Jvm.Cond.lays "QuorumChain$Message" "QuorumChain$Message" "sender" "I") ∈ GG := GG_in (i := 154) (by decide +kernel) (by decide +kernel)
theorem gw_156 : (Jvm.Cond.lays "QuorumChain$Message" "QuorumChain$Message" "block" "I") ∈ GG := GG_in (i := 156) (by decide +kernel) (by decide +kernel)
theorem gw_158 : (Jvm.Cond.lays "QuorumChain$Message" "QuorumChain$Message" "view" "I") ∈ GG := GG_in (i := 158) (by decide +kernel) (by decide +kernel)
theorem gw_160 : (Jvm.Cond.lays "QuorumChain$Message" "QuorumChain$Message" "key" "I") ∈ GG := GG_in (i := 160) (by decide +kernel) (by decide +kernel)
theorem gw_178 : (Jvm.Cond.fieldLink "QuorumChain$Inbox" (11 : Nat) "QuorumChain$Inbox" "row" "[LQuorumChain$Message;") ∈ GG := GG_in (i := 178) (by decide +kernel) (by decide +kernel)
theorem gw_179 : (Jvm.Cond.fieldLink "QuorumChain" (294 : Nat) "QuorumChain$Inbox" "row" "[LQuorumChain$Message;") ∈ GG := GG_in (i := 179) (by decide +kernel) (by decide +kernel)
theorem gw_180 : (Jvm.Cond.fieldLink "QuorumChain$Inbox" (18 : Nat) "QuorumChain$Inbox" "count" "I") ∈ GG := GG_in (i := 180) (by decide +kernel) (by decide +kernel)
theorem gw_181 : (Jvm.Cond.fieldLink "QuorumChain$Node" (63 : Nat) "QuorumChain$Inbox" "count" "I") ∈ GG := GG_in (i := 181) (by decide +kernel) (by decide +kernel)
theorem gw_182 : (Jvm.Cond.fieldLink "QuorumChain" (103 : Nat) "QuorumChain$Inbox" "count" "I") ∈ GG := GG_in (i := 182) (by decide +kernel) (by decide +kernel)
theorem gw_183 : (Jvm.Cond.laysFinal "QuorumChain$Inbox" "QuorumChain$Inbox" "row" "[LQuorumChain$Message;") ∈ GG := GG_in (i := 183) (by decide +kernel) (by decide +kernel)
theorem gw_185 : (Jvm.Cond.lays "QuorumChain$Inbox" "QuorumChain$Inbox" "count" "I") ∈ GG := GG_in (i := 185) (by decide +kernel) (by decide +kernel)
theorem gw_194 : (Jvm.Cond.fieldLink "QuorumChain$Tally" (7 : Nat) "QuorumChain$Tally" "bits" "[I") ∈ GG := GG_in (i := 194) (by decide +kernel) (by decide +kernel)
theorem gw_195 : (Jvm.Cond.laysFinal "QuorumChain$Tally" "QuorumChain$Tally" "bits" "[I") ∈ GG := GG_in (i := 195) (by decide +kernel) (by decide +kernel)
theorem gw_210 : (Jvm.Cond.fieldLink "QuorumChain$Accounts" (9 : Nat) "QuorumChain$Accounts" "money" "[I") ∈ GG := GG_in (i := 210) (by decide +kernel) (by decide +kernel)
theorem gw_211 : (Jvm.Cond.fieldLink "QuorumChain" (276 : Nat) "QuorumChain$Accounts" "money" "[I") ∈ GG := GG_in (i := 211) (by decide +kernel) (by decide +kernel)
theorem gw_212 : (Jvm.Cond.fieldLink "QuorumChain$Accounts" (15 : Nat) "QuorumChain$Accounts" "nonce" "[I") ∈ GG := GG_in (i := 212) (by decide +kernel) (by decide +kernel)
theorem gw_213 : (Jvm.Cond.fieldLink "QuorumChain" (282 : Nat) "QuorumChain$Accounts" "nonce" "[I") ∈ GG := GG_in (i := 213) (by decide +kernel) (by decide +kernel)
theorem gw_214 : (Jvm.Cond.laysFinal "QuorumChain$Accounts" "QuorumChain$Accounts" "money" "[I") ∈ GG := GG_in (i := 214) (by decide +kernel) (by decide +kernel)
theorem gw_216 : (Jvm.Cond.laysFinal "QuorumChain$Accounts" "QuorumChain$Accounts" "nonce" "[I") ∈ GG := GG_in (i := 216) (by decide +kernel) (by decide +kernel)
theorem gw_226 : (Jvm.Cond.static ({ cls := "QuorumChain$KeyTree", name := "leafOf", desc := "(III)J" } : Jvm.MethodName)) ∈ GG := GG_in (i := 226) (by decide +kernel) (by decide +kernel)
theorem gw_227 : (Jvm.Cond.code ({ cls := "QuorumChain$KeyTree", name := "leafOf", desc := "(III)J" } : Jvm.MethodName) prog_6_method_6_code (6 : Nat) (Option.some Jvm.ClassFile.FieldType.long)) ∈ GG := GG_in (i := 227) (by decide +kernel) (by decide +kernel)
theorem gw_228 : (Jvm.Cond.constantLong "QuorumChain$KeyTree" (67 : Nat) (-7046029254386353131 : Int64)) ∈ GG := GG_in (i := 228) (by decide +kernel) (by decide +kernel)
theorem gw_229 : (Jvm.Cond.methodLink "QuorumChain$KeyTree" (55 : Nat) ({ cls := "QuorumChain$KeyTree", name := "secretOf", desc := "(IIII)J" } : Jvm.MethodName)) ∈ GG := GG_in (i := 229) (by decide +kernel) (by decide +kernel)
theorem gw_230 : (Jvm.Cond.static ({ cls := "QuorumChain$KeyTree", name := "secretOf", desc := "(IIII)J" } : Jvm.MethodName)) ∈ GG := GG_in (i := 230) (by decide +kernel) (by decide +kernel)
theorem gw_231 : (Jvm.Cond.code ({ cls := "QuorumChain$KeyTree", name := "secretOf", desc := "(IIII)J" } : Jvm.MethodName) prog_6_method_7_code (6 : Nat) (Option.some Jvm.ClassFile.FieldType.long)) ∈ GG := GG_in (i := 231) (by decide +kernel) (by decide +kernel)
theorem gw_232 : (Jvm.Cond.methodLink "QuorumChain$KeyTree" (69 : Nat) ({ cls := "QuorumChain$Fold", name := "absorb", desc := "(JJ)J" } : Jvm.MethodName)) ∈ GG := GG_in (i := 232) (by decide +kernel) (by decide +kernel)
theorem gw_233 : (Jvm.Cond.static ({ cls := "QuorumChain$Fold", name := "absorb", desc := "(JJ)J" } : Jvm.MethodName)) ∈ GG := GG_in (i := 233) (by decide +kernel) (by decide +kernel)
theorem gw_234 : (Jvm.Cond.code ({ cls := "QuorumChain$Fold", name := "absorb", desc := "(JJ)J" } : Jvm.MethodName) prog_4_method_2_code (6 : Nat) (Option.some Jvm.ClassFile.FieldType.long)) ∈ GG := GG_in (i := 234) (by decide +kernel) (by decide +kernel)
theorem gw_235 : (Jvm.Cond.constantLong "QuorumChain$Fold" (9 : Nat) (-4417276706812531889 : Int64)) ∈ GG := GG_in (i := 235) (by decide +kernel) (by decide +kernel)
theorem gw_236 : (Jvm.Cond.methodLink "QuorumChain$KeyTree" (72 : Nat) ({ cls := "QuorumChain$Fold", name := "finish", desc := "(J)J" } : Jvm.MethodName)) ∈ GG := GG_in (i := 236) (by decide +kernel) (by decide +kernel)
theorem gw_237 : (Jvm.Cond.static ({ cls := "QuorumChain$Fold", name := "finish", desc := "(J)J" } : Jvm.MethodName)) ∈ GG := GG_in (i := 237) (by decide +kernel) (by decide +kernel)
theorem gw_238 : (Jvm.Cond.code ({ cls := "QuorumChain$Fold", name := "finish", desc := "(J)J" } : Jvm.MethodName) prog_4_method_3_code (4 : Nat) (Option.some Jvm.ClassFile.FieldType.long)) ∈ GG := GG_in (i := 238) (by decide +kernel) (by decide +kernel)
theorem gw_239 : (Jvm.Cond.constantLong "QuorumChain$Fold" (11 : Nat) (1609587929392839161 : Int64)) ∈ GG := GG_in (i := 239) (by decide +kernel) (by decide +kernel)
theorem gw_240 : (Jvm.Cond.methodLink "QuorumChain$KeyTree" (63 : Nat) ({ cls := "QuorumChain$Fold", name := "afterSteps", desc := "(JI)J" } : Jvm.MethodName)) ∈ GG := GG_in (i := 240) (by decide +kernel) (by decide +kernel)
theorem gw_241 : (Jvm.Cond.static ({ cls := "QuorumChain$Fold", name := "afterSteps", desc := "(JI)J" } : Jvm.MethodName)) ∈ GG := GG_in (i := 241) (by decide +kernel) (by decide +kernel)
theorem gw_242 : (Jvm.Cond.code ({ cls := "QuorumChain$Fold", name := "afterSteps", desc := "(JI)J" } : Jvm.MethodName) prog_4_method_5_code (6 : Nat) (Option.some Jvm.ClassFile.FieldType.long)) ∈ GG := GG_in (i := 242) (by decide +kernel) (by decide +kernel)
theorem gw_243 : (Jvm.Cond.constantLong "QuorumChain$Fold" (13 : Nat) (-7046029254386353131 : Int64)) ∈ GG := GG_in (i := 243) (by decide +kernel) (by decide +kernel)
theorem gw_244 : (Jvm.Cond.methodLink "QuorumChain$Fold" (15 : Nat) ({ cls := "QuorumChain$Fold", name := "absorb", desc := "(JJ)J" } : Jvm.MethodName)) ∈ GG := GG_in (i := 244) (by decide +kernel) (by decide +kernel)
theorem gw_245 : (Jvm.Cond.constantLong "QuorumChain$Fold" (23 : Nat) (77 : Int64)) ∈ GG := GG_in (i := 245) (by decide +kernel) (by decide +kernel)
theorem gw_246 : (Jvm.Cond.methodLink "QuorumChain$Fold" (19 : Nat) ({ cls := "QuorumChain$Fold", name := "finish", desc := "(J)J" } : Jvm.MethodName)) ∈ GG := GG_in (i := 246) (by decide +kernel) (by decide +kernel)
theorem gw_247 : (Jvm.Cond.methodLink "QuorumChain$KeyTree" (26 : Nat) ({ cls := "QuorumChain$Fold", name := "pair", desc := "(JJ)J" } : Jvm.MethodName)) ∈ GG := GG_in (i := 247) (by decide +kernel) (by decide +kernel)
theorem gw_248 : (Jvm.Cond.static ({ cls := "QuorumChain$Fold", name := "pair", desc := "(JJ)J" } : Jvm.MethodName)) ∈ GG := GG_in (i := 248) (by decide +kernel) (by decide +kernel)
theorem gw_249 : (Jvm.Cond.code ({ cls := "QuorumChain$Fold", name := "pair", desc := "(JJ)J" } : Jvm.MethodName) prog_4_method_4_code (4 : Nat) (Option.some Jvm.ClassFile.FieldType.long)) ∈ GG := GG_in (i := 249) (by decide +kernel) (by decide +kernel)
theorem gw_250 : (Jvm.Cond.fieldLink "QuorumChain$KeyTree" (9 : Nat) "QuorumChain$KeyTree" "tree" "[J") ∈ GG := GG_in (i := 250) (by decide +kernel) (by decide +kernel)
theorem gw_251 : (Jvm.Cond.fieldLink "QuorumChain$KeyTree" (15 : Nat) "QuorumChain$KeyTree" "seed" "I") ∈ GG := GG_in (i := 251) (by decide +kernel) (by decide +kernel)
theorem gw_252 : (Jvm.Cond.fieldLink "QuorumChain$KeyTree" (19 : Nat) "QuorumChain$KeyTree" "owner" "I") ∈ GG := GG_in (i := 252) (by decide +kernel) (by decide +kernel)
theorem gw_253 : (Jvm.Cond.fieldLink "QuorumChain$KeyTree" (32 : Nat) "QuorumChain$KeyTree" "used" "I") ∈ GG := GG_in (i := 253) (by decide +kernel) (by decide +kernel)
theorem gw_254 : (Jvm.Cond.fieldLink "QuorumChain" (257 : Nat) "QuorumChain$KeyTree" "used" "I") ∈ GG := GG_in (i := 254) (by decide +kernel) (by decide +kernel)
theorem gw_255 : (Jvm.Cond.laysFinal "QuorumChain$KeyTree" "QuorumChain$KeyTree" "tree" "[J") ∈ GG := GG_in (i := 255) (by decide +kernel) (by decide +kernel)
theorem gw_257 : (Jvm.Cond.laysFinal "QuorumChain$KeyTree" "QuorumChain$KeyTree" "seed" "I") ∈ GG := GG_in (i := 257) (by decide +kernel) (by decide +kernel)
theorem gw_259 : (Jvm.Cond.laysFinal "QuorumChain$KeyTree" "QuorumChain$KeyTree" "owner" "I") ∈ GG := GG_in (i := 259) (by decide +kernel) (by decide +kernel)
theorem gw_261 : (Jvm.Cond.lays "QuorumChain$KeyTree" "QuorumChain$KeyTree" "used" "I") ∈ GG := GG_in (i := 261) (by decide +kernel) (by decide +kernel)
theorem gw_264 : (Jvm.Cond.fieldLink "QuorumChain$Store" (9 : Nat) "QuorumChain$Store" "has" "[Z") ∈ GG := GG_in (i := 264) (by decide +kernel) (by decide +kernel)
theorem gw_265 : (Jvm.Cond.fieldLink "QuorumChain$Store" (15 : Nat) "QuorumChain$Store" "log" "[I") ∈ GG := GG_in (i := 265) (by decide +kernel) (by decide +kernel)
theorem gw_266 : (Jvm.Cond.fieldLink "QuorumChain" (386 : Nat) "QuorumChain$Store" "log" "[I") ∈ GG := GG_in (i := 266) (by decide +kernel) (by decide +kernel)
theorem gw_268 : (Jvm.Cond.fieldLink "QuorumChain" (272 : Nat) "QuorumChain$Store" "accounts" "LQuorumChain$Accounts;") ∈ GG := GG_in (i := 268) (by decide +kernel) (by decide +kernel)
theorem gw_270 : (Jvm.Cond.fieldLink "QuorumChain" (183 : Nat) "QuorumChain$Store" "keys" "LQuorumChain$KeyTree;") ∈ GG := GG_in (i := 270) (by decide +kernel) (by decide +kernel)
theorem gw_271 : (Jvm.Cond.fieldLink "QuorumChain$Store" (35 : Nat) "QuorumChain$Store" "blockCount" "I") ∈ GG := GG_in (i := 271) (by decide +kernel) (by decide +kernel)
theorem gw_272 : (Jvm.Cond.fieldLink "QuorumChain" (263 : Nat) "QuorumChain$Store" "blockCount" "I") ∈ GG := GG_in (i := 272) (by decide +kernel) (by decide +kernel)
theorem gw_273 : (Jvm.Cond.fieldLink "QuorumChain$Store" (39 : Nat) "QuorumChain$Store" "logLength" "I") ∈ GG := GG_in (i := 273) (by decide +kernel) (by decide +kernel)
theorem gw_274 : (Jvm.Cond.fieldLink "QuorumChain" (260 : Nat) "QuorumChain$Store" "logLength" "I") ∈ GG := GG_in (i := 274) (by decide +kernel) (by decide +kernel)
theorem gw_275 : (Jvm.Cond.fieldLink "QuorumChain$Node" (72 : Nat) "QuorumChain$Store" "voted" "I") ∈ GG := GG_in (i := 275) (by decide +kernel) (by decide +kernel)
theorem gw_276 : (Jvm.Cond.fieldLink "QuorumChain" (251 : Nat) "QuorumChain$Store" "voted" "I") ∈ GG := GG_in (i := 276) (by decide +kernel) (by decide +kernel)
theorem gw_277 : (Jvm.Cond.fieldLink "QuorumChain" (254 : Nat) "QuorumChain$Store" "locked" "I") ∈ GG := GG_in (i := 277) (by decide +kernel) (by decide +kernel)
theorem gw_278 : (Jvm.Cond.laysFinal "QuorumChain$Store" "QuorumChain$Store" "has" "[Z") ∈ GG := GG_in (i := 278) (by decide +kernel) (by decide +kernel)
theorem gw_280 : (Jvm.Cond.laysFinal "QuorumChain$Store" "QuorumChain$Store" "log" "[I") ∈ GG := GG_in (i := 280) (by decide +kernel) (by decide +kernel)
theorem gw_282 : (Jvm.Cond.laysFinal "QuorumChain$Store" "QuorumChain$Store" "accounts" "LQuorumChain$Accounts;") ∈ GG := GG_in (i := 282) (by decide +kernel) (by decide +kernel)
theorem gw_284 : (Jvm.Cond.laysFinal "QuorumChain$Store" "QuorumChain$Store" "keys" "LQuorumChain$KeyTree;") ∈ GG := GG_in (i := 284) (by decide +kernel) (by decide +kernel)
theorem gw_286 : (Jvm.Cond.lays "QuorumChain$Store" "QuorumChain$Store" "blockCount" "I") ∈ GG := GG_in (i := 286) (by decide +kernel) (by decide +kernel)
theorem gw_288 : (Jvm.Cond.lays "QuorumChain$Store" "QuorumChain$Store" "logLength" "I") ∈ GG := GG_in (i := 288) (by decide +kernel) (by decide +kernel)
theorem gw_290 : (Jvm.Cond.lays "QuorumChain$Store" "QuorumChain$Store" "voted" "I") ∈ GG := GG_in (i := 290) (by decide +kernel) (by decide +kernel)
theorem gw_292 : (Jvm.Cond.lays "QuorumChain$Store" "QuorumChain$Store" "locked" "I") ∈ GG := GG_in (i := 292) (by decide +kernel) (by decide +kernel)
theorem gw_296 : (Jvm.Cond.fieldLink "QuorumChain" (339 : Nat) "QuorumChain$Node" "id" "I") ∈ GG := GG_in (i := 296) (by decide +kernel) (by decide +kernel)
theorem gw_297 : (Jvm.Cond.fieldLink "QuorumChain$Node" (56 : Nat) "QuorumChain$Node" "store" "LQuorumChain$Store;") ∈ GG := GG_in (i := 297) (by decide +kernel) (by decide +kernel)
theorem gw_298 : (Jvm.Cond.fieldLink "QuorumChain" (179 : Nat) "QuorumChain$Node" "store" "LQuorumChain$Store;") ∈ GG := GG_in (i := 298) (by decide +kernel) (by decide +kernel)
theorem gw_299 : (Jvm.Cond.fieldLink "QuorumChain$Node" (12 : Nat) "QuorumChain$Node" "inbox" "LQuorumChain$Inbox;") ∈ GG := GG_in (i := 299) (by decide +kernel) (by decide +kernel)
theorem gw_300 : (Jvm.Cond.fieldLink "QuorumChain" (99 : Nat) "QuorumChain$Node" "inbox" "LQuorumChain$Inbox;") ∈ GG := GG_in (i := 300) (by decide +kernel) (by decide +kernel)
theorem gw_301 : (Jvm.Cond.fieldLink "QuorumChain$Node" (23 : Nat) "QuorumChain$Node" "votes" "LQuorumChain$Tally;") ∈ GG := GG_in (i := 301) (by decide +kernel) (by decide +kernel)
theorem gw_302 : (Jvm.Cond.fieldLink "QuorumChain" (342 : Nat) "QuorumChain$Node" "votes" "LQuorumChain$Tally;") ∈ GG := GG_in (i := 302) (by decide +kernel) (by decide +kernel)
theorem gw_303 : (Jvm.Cond.fieldLink "QuorumChain$Node" (27 : Nat) "QuorumChain$Node" "timeouts" "LQuorumChain$Tally;") ∈ GG := GG_in (i := 303) (by decide +kernel) (by decide +kernel)
theorem gw_304 : (Jvm.Cond.fieldLink "QuorumChain" (355 : Nat) "QuorumChain$Node" "timeouts" "LQuorumChain$Tally;") ∈ GG := GG_in (i := 304) (by decide +kernel) (by decide +kernel)
theorem gw_305 : (Jvm.Cond.fieldLink "QuorumChain$Node" (30 : Nat) "QuorumChain$Node" "pool" "[I") ∈ GG := GG_in (i := 305) (by decide +kernel) (by decide +kernel)
theorem gw_306 : (Jvm.Cond.fieldLink "QuorumChain" (365 : Nat) "QuorumChain$Node" "pool" "[I") ∈ GG := GG_in (i := 306) (by decide +kernel) (by decide +kernel)
theorem gw_307 : (Jvm.Cond.fieldLink "QuorumChain$Node" (60 : Nat) "QuorumChain$Node" "poolSize" "I") ∈ GG := GG_in (i := 307) (by decide +kernel) (by decide +kernel)
theorem gw_308 : (Jvm.Cond.fieldLink "QuorumChain" (266 : Nat) "QuorumChain$Node" "poolSize" "I") ∈ GG := GG_in (i := 308) (by decide +kernel) (by decide +kernel)
theorem gw_309 : (Jvm.Cond.fieldLink "QuorumChain$Node" (34 : Nat) "QuorumChain$Node" "up" "Z") ∈ GG := GG_in (i := 309) (by decide +kernel) (by decide +kernel)
theorem gw_310 : (Jvm.Cond.fieldLink "QuorumChain" (76 : Nat) "QuorumChain$Node" "up" "Z") ∈ GG := GG_in (i := 310) (by decide +kernel) (by decide +kernel)
theorem gw_311 : (Jvm.Cond.fieldLink "QuorumChain$Node" (38 : Nat) "QuorumChain$Node" "view" "I") ∈ GG := GG_in (i := 311) (by decide +kernel) (by decide +kernel)
theorem gw_312 : (Jvm.Cond.fieldLink "QuorumChain" (88 : Nat) "QuorumChain$Node" "view" "I") ∈ GG := GG_in (i := 312) (by decide +kernel) (by decide +kernel)
theorem gw_313 : (Jvm.Cond.fieldLink "QuorumChain$Node" (42 : Nat) "QuorumChain$Node" "timer" "I") ∈ GG := GG_in (i := 313) (by decide +kernel) (by decide +kernel)
theorem gw_314 : (Jvm.Cond.fieldLink "QuorumChain" (242 : Nat) "QuorumChain$Node" "timer" "I") ∈ GG := GG_in (i := 314) (by decide +kernel) (by decide +kernel)
theorem gw_315 : (Jvm.Cond.fieldLink "QuorumChain$Node" (45 : Nat) "QuorumChain$Node" "span" "I") ∈ GG := GG_in (i := 315) (by decide +kernel) (by decide +kernel)
theorem gw_316 : (Jvm.Cond.fieldLink "QuorumChain" (245 : Nat) "QuorumChain$Node" "span" "I") ∈ GG := GG_in (i := 316) (by decide +kernel) (by decide +kernel)
theorem gw_317 : (Jvm.Cond.fieldLink "QuorumChain$Node" (69 : Nat) "QuorumChain$Node" "high" "I") ∈ GG := GG_in (i := 317) (by decide +kernel) (by decide +kernel)
theorem gw_318 : (Jvm.Cond.fieldLink "QuorumChain" (248 : Nat) "QuorumChain$Node" "high" "I") ∈ GG := GG_in (i := 318) (by decide +kernel) (by decide +kernel)
theorem gw_319 : (Jvm.Cond.laysFinal "QuorumChain$Node" "QuorumChain$Node" "id" "I") ∈ GG := GG_in (i := 319) (by decide +kernel) (by decide +kernel)
theorem gw_321 : (Jvm.Cond.laysFinal "QuorumChain$Node" "QuorumChain$Node" "store" "LQuorumChain$Store;") ∈ GG := GG_in (i := 321) (by decide +kernel) (by decide +kernel)
theorem gw_323 : (Jvm.Cond.laysFinal "QuorumChain$Node" "QuorumChain$Node" "inbox" "LQuorumChain$Inbox;") ∈ GG := GG_in (i := 323) (by decide +kernel) (by decide +kernel)
theorem gw_325 : (Jvm.Cond.laysFinal "QuorumChain$Node" "QuorumChain$Node" "votes" "LQuorumChain$Tally;") ∈ GG := GG_in (i := 325) (by decide +kernel) (by decide +kernel)
theorem gw_327 : (Jvm.Cond.laysFinal "QuorumChain$Node" "QuorumChain$Node" "timeouts" "LQuorumChain$Tally;") ∈ GG := GG_in (i := 327) (by decide +kernel) (by decide +kernel)
theorem gw_329 : (Jvm.Cond.laysFinal "QuorumChain$Node" "QuorumChain$Node" "pool" "[I") ∈ GG := GG_in (i := 329) (by decide +kernel) (by decide +kernel)
theorem gw_331 : (Jvm.Cond.lays "QuorumChain$Node" "QuorumChain$Node" "poolSize" "I") ∈ GG := GG_in (i := 331) (by decide +kernel) (by decide +kernel)
theorem gw_333 : (Jvm.Cond.lays "QuorumChain$Node" "QuorumChain$Node" "up" "Z") ∈ GG := GG_in (i := 333) (by decide +kernel) (by decide +kernel)
theorem gw_335 : (Jvm.Cond.lays "QuorumChain$Node" "QuorumChain$Node" "view" "I") ∈ GG := GG_in (i := 335) (by decide +kernel) (by decide +kernel)
theorem gw_337 : (Jvm.Cond.lays "QuorumChain$Node" "QuorumChain$Node" "timer" "I") ∈ GG := GG_in (i := 337) (by decide +kernel) (by decide +kernel)
theorem gw_339 : (Jvm.Cond.lays "QuorumChain$Node" "QuorumChain$Node" "span" "I") ∈ GG := GG_in (i := 339) (by decide +kernel) (by decide +kernel)
theorem gw_341 : (Jvm.Cond.lays "QuorumChain$Node" "QuorumChain$Node" "high" "I") ∈ GG := GG_in (i := 341) (by decide +kernel) (by decide +kernel)
theorem gw_344 : (Jvm.Cond.fieldLink "QuorumChain" (11 : Nat) "QuorumChain" "nodes" "[LQuorumChain$Node;") ∈ GG := GG_in (i := 344) (by decide +kernel) (by decide +kernel)
theorem gw_345 : (Jvm.Cond.fieldLink "QuorumChain" (18 : Nat) "QuorumChain" "blocks" "LQuorumChain$Blocks;") ∈ GG := GG_in (i := 345) (by decide +kernel) (by decide +kernel)
theorem gw_346 : (Jvm.Cond.fieldLink "QuorumChain" (25 : Nat) "QuorumChain" "transactions" "LQuorumChain$Transactions;") ∈ GG := GG_in (i := 346) (by decide +kernel) (by decide +kernel)
theorem gw_347 : (Jvm.Cond.fieldLink "QuorumChain" (32 : Nat) "QuorumChain" "draft" "LQuorumChain$Message;") ∈ GG := GG_in (i := 347) (by decide +kernel) (by decide +kernel)
theorem gw_349 : (Jvm.Cond.fieldLink "QuorumChain" (224 : Nat) "QuorumChain" "clock" "I") ∈ GG := GG_in (i := 349) (by decide +kernel) (by decide +kernel)
theorem gw_351 : (Jvm.Cond.laysFinal "QuorumChain" "QuorumChain" "nodes" "[LQuorumChain$Node;") ∈ GG := GG_in (i := 351) (by decide +kernel) (by decide +kernel)
theorem gw_353 : (Jvm.Cond.laysFinal "QuorumChain" "QuorumChain" "blocks" "LQuorumChain$Blocks;") ∈ GG := GG_in (i := 353) (by decide +kernel) (by decide +kernel)
theorem gw_355 : (Jvm.Cond.laysFinal "QuorumChain" "QuorumChain" "transactions" "LQuorumChain$Transactions;") ∈ GG := GG_in (i := 355) (by decide +kernel) (by decide +kernel)
theorem gw_357 : (Jvm.Cond.laysFinal "QuorumChain" "QuorumChain" "draft" "LQuorumChain$Message;") ∈ GG := GG_in (i := 357) (by decide +kernel) (by decide +kernel)
theorem gw_359 : (Jvm.Cond.laysFinal "QuorumChain" "QuorumChain" "arrived" "LQuorumChain$Message;") ∈ GG := GG_in (i := 359) (by decide +kernel) (by decide +kernel)
theorem gw_361 : (Jvm.Cond.lays "QuorumChain" "QuorumChain" "clock" "I") ∈ GG := GG_in (i := 361) (by decide +kernel) (by decide +kernel)
theorem gw_363 : (Jvm.Cond.lays "QuorumChain" "QuorumChain" "begun" "Z") ∈ GG := GG_in (i := 363) (by decide +kernel) (by decide +kernel)
theorem gw_367 : (Jvm.Cond.instanceMethod ({ cls := "QuorumChain", name := "tick", desc := "()I" } : Jvm.MethodName)) ∈ GG := GG_in (i := 367) (by decide +kernel) (by decide +kernel)
theorem gw_368 : (Jvm.Cond.selects "QuorumChain" ({ cls := "QuorumChain", name := "tick", desc := "()I" } : Jvm.MethodName) ({ cls := "QuorumChain", name := "tick", desc := "()I" } : Jvm.MethodName)) ∈ GG := GG_in (i := 368) (by decide +kernel) (by decide +kernel)
theorem gw_369 : (Jvm.Cond.code ({ cls := "QuorumChain", name := "tick", desc := "()I" } : Jvm.MethodName) prog_1_method_10_code (2 : Nat) (Option.some Jvm.ClassFile.FieldType.int)) ∈ GG := GG_in (i := 369) (by decide +kernel) (by decide +kernel)
theorem gw_370 : (Jvm.Cond.methodLink "QuorumChain" (227 : Nat) ({ cls := "QuorumChain", name := "countDown", desc := "(LQuorumChain$Node;)V" } : Jvm.MethodName)) ∈ GG := GG_in (i := 370) (by decide +kernel) (by decide +kernel)
theorem gw_372 : (Jvm.Cond.instanceMethod ({ cls := "QuorumChain", name := "countDown", desc := "(LQuorumChain$Node;)V" } : Jvm.MethodName)) ∈ GG := GG_in (i := 372) (by decide +kernel) (by decide +kernel)
theorem gw_373 : (Jvm.Cond.code ({ cls := "QuorumChain", name := "countDown", desc := "(LQuorumChain$Node;)V" } : Jvm.MethodName) prog_1_method_37_code (2 : Nat) (Option.none : Option Jvm.ClassFile.FieldType)) ∈ GG := GG_in (i := 373) (by decide +kernel) (by decide +kernel)
theorem gw_374 : (Jvm.Cond.methodLink "QuorumChain" (371 : Nat) ({ cls := "java/lang/Math", name := "max", desc := "(II)I" } : Jvm.MethodName)) ∈ GG := GG_in (i := 374) (by decide +kernel) (by decide +kernel)
theorem gw_375 : (Jvm.Cond.static ({ cls := "java/lang/Math", name := "max", desc := "(II)I" } : Jvm.MethodName)) ∈ GG := GG_in (i := 375) (by decide +kernel) (by decide +kernel)
theorem gw_376 : (Jvm.Cond.code ({ cls := "java/lang/Math", name := "max", desc := "(II)I" } : Jvm.MethodName) prog_18_method_65_code (2 : Nat) (Option.some Jvm.ClassFile.FieldType.int)) ∈ GG := GG_in (i := 376) (by decide +kernel) (by decide +kernel)
theorem gw_377 : (Jvm.Cond.methodLink "QuorumChain" (216 : Nat) ({ cls := "QuorumChain", name := "writeSigned", desc := "(LQuorumChain$Node;III)Z" } : Jvm.MethodName)) ∈ GG := GG_in (i := 377) (by decide +kernel) (by decide +kernel)
theorem gw_379 : (Jvm.Cond.instanceMethod ({ cls := "QuorumChain", name := "writeSigned", desc := "(LQuorumChain$Node;III)Z" } : Jvm.MethodName)) ∈ GG := GG_in (i := 379) (by decide +kernel) (by decide +kernel)
theorem gw_380 : (Jvm.Cond.code ({ cls := "QuorumChain", name := "writeSigned", desc := "(LQuorumChain$Node;III)Z" } : Jvm.MethodName) prog_1_method_40_code (5 : Nat) (Option.some Jvm.ClassFile.FieldType.boolean)) ∈ GG := GG_in (i := 380) (by decide +kernel) (by decide +kernel)
theorem gw_381 : (Jvm.Cond.methodLink "QuorumChain" (393 : Nat) ({ cls := "QuorumChain$Message", name := "write", desc := "(IIII)V" } : Jvm.MethodName)) ∈ GG := GG_in (i := 381) (by decide +kernel) (by decide +kernel)
theorem gw_382 : (Jvm.Cond.instanceMethod ({ cls := "QuorumChain$Message", name := "write", desc := "(IIII)V" } : Jvm.MethodName)) ∈ GG := GG_in (i := 382) (by decide +kernel) (by decide +kernel)
theorem gw_383 : (Jvm.Cond.selects "QuorumChain$Message" ({ cls := "QuorumChain$Message", name := "write", desc := "(IIII)V" } : Jvm.MethodName) ({ cls := "QuorumChain$Message", name := "write", desc := "(IIII)V" } : Jvm.MethodName)) ∈ GG := GG_in (i := 383) (by decide +kernel) (by decide +kernel)
theorem gw_384 : (Jvm.Cond.code ({ cls := "QuorumChain$Message", name := "write", desc := "(IIII)V" } : Jvm.MethodName) prog_7_method_2_code (5 : Nat) (Option.none : Option Jvm.ClassFile.FieldType)) ∈ GG := GG_in (i := 384) (by decide +kernel) (by decide +kernel)
theorem gw_385 : (Jvm.Cond.methodLink "QuorumChain" (397 : Nat) ({ cls := "QuorumChain$KeyTree", name := "sign", desc := "(LQuorumChain$Message;)Z" } : Jvm.MethodName)) ∈ GG := GG_in (i := 385) (by decide +kernel) (by decide +kernel)
theorem gw_386 : (Jvm.Cond.instanceMethod ({ cls := "QuorumChain$KeyTree", name := "sign", desc := "(LQuorumChain$Message;)Z" } : Jvm.MethodName)) ∈ GG := GG_in (i := 386) (by decide +kernel) (by decide +kernel)
theorem gw_387 : (Jvm.Cond.selects "QuorumChain$KeyTree" ({ cls := "QuorumChain$KeyTree", name := "sign", desc := "(LQuorumChain$Message;)Z" } : Jvm.MethodName) ({ cls := "QuorumChain$KeyTree", name := "sign", desc := "(LQuorumChain$Message;)Z" } : Jvm.MethodName)) ∈ GG := GG_in (i := 387) (by decide +kernel) (by decide +kernel)
theorem gw_388 : (Jvm.Cond.code ({ cls := "QuorumChain$KeyTree", name := "sign", desc := "(LQuorumChain$Message;)Z" } : Jvm.MethodName) prog_6_method_4_code (5 : Nat) (Option.some Jvm.ClassFile.FieldType.boolean)) ∈ GG := GG_in (i := 388) (by decide +kernel) (by decide +kernel)
theorem gw_389 : (Jvm.Cond.methodLink "QuorumChain$KeyTree" (35 : Nat) ({ cls := "QuorumChain$KeyTree", name := "isLeft", desc := "()Z" } : Jvm.MethodName)) ∈ GG := GG_in (i := 389) (by decide +kernel) (by decide +kernel)
theorem gw_390 : (Jvm.Cond.instanceMethod ({ cls := "QuorumChain$KeyTree", name := "isLeft", desc := "()Z" } : Jvm.MethodName)) ∈ GG := GG_in (i := 390) (by decide +kernel) (by decide +kernel)
theorem gw_391 : (Jvm.Cond.selects "QuorumChain$KeyTree" ({ cls := "QuorumChain$KeyTree", name := "isLeft", desc := "()Z" } : Jvm.MethodName) ({ cls := "QuorumChain$KeyTree", name := "isLeft", desc := "()Z" } : Jvm.MethodName)) ∈ GG := GG_in (i := 391) (by decide +kernel) (by decide +kernel)
theorem gw_392 : (Jvm.Cond.code ({ cls := "QuorumChain$KeyTree", name := "isLeft", desc := "()Z" } : Jvm.MethodName) prog_6_method_3_code (1 : Nat) (Option.some Jvm.ClassFile.FieldType.boolean)) ∈ GG := GG_in (i := 392) (by decide +kernel) (by decide +kernel)
theorem gw_393 : (Jvm.Cond.methodLink "QuorumChain$KeyTree" (44 : Nat) ({ cls := "QuorumChain$Message", name := "meaning", desc := "()J" } : Jvm.MethodName)) ∈ GG := GG_in (i := 393) (by decide +kernel) (by decide +kernel)
theorem gw_394 : (Jvm.Cond.instanceMethod ({ cls := "QuorumChain$Message", name := "meaning", desc := "()J" } : Jvm.MethodName)) ∈ GG := GG_in (i := 394) (by decide +kernel) (by decide +kernel)
theorem gw_395 : (Jvm.Cond.selects "QuorumChain$Message" ({ cls := "QuorumChain$Message", name := "meaning", desc := "()J" } : Jvm.MethodName) ({ cls := "QuorumChain$Message", name := "meaning", desc := "()J" } : Jvm.MethodName)) ∈ GG := GG_in (i := 395) (by decide +kernel) (by decide +kernel)
theorem gw_396 : (Jvm.Cond.code ({ cls := "QuorumChain$Message", name := "meaning", desc := "()J" } : Jvm.MethodName) prog_7_method_4_code (3 : Nat) (Option.some Jvm.ClassFile.FieldType.long)) ∈ GG := GG_in (i := 396) (by decide +kernel) (by decide +kernel)
theorem gw_397 : (Jvm.Cond.constantLong "QuorumChain$Message" (43 : Nat) (-7046029254386353131 : Int64)) ∈ GG := GG_in (i := 397) (by decide +kernel) (by decide +kernel)
theorem gw_398 : (Jvm.Cond.methodLink "QuorumChain$Message" (45 : Nat) ({ cls := "QuorumChain$Fold", name := "absorb", desc := "(JJ)J" } : Jvm.MethodName)) ∈ GG := GG_in (i := 398) (by decide +kernel) (by decide +kernel)
theorem gw_399 : (Jvm.Cond.methodLink "QuorumChain$Message" (49 : Nat) ({ cls := "QuorumChain$Fold", name := "finish", desc := "(J)J" } : Jvm.MethodName)) ∈ GG := GG_in (i := 399) (by decide +kernel) (by decide +kernel)
theorem gw_400 : (Jvm.Cond.methodLink "QuorumChain$KeyTree" (48 : Nat) ({ cls := "QuorumChain$KeyTree", name := "digitsOf", desc := "(J)I" } : Jvm.MethodName)) ∈ GG := GG_in (i := 400) (by decide +kernel) (by decide +kernel)
theorem gw_401 : (Jvm.Cond.static ({ cls := "QuorumChain$KeyTree", name := "digitsOf", desc := "(J)I" } : Jvm.MethodName)) ∈ GG := GG_in (i := 401) (by decide +kernel) (by decide +kernel)
theorem gw_402 : (Jvm.Cond.code ({ cls := "QuorumChain$KeyTree", name := "digitsOf", desc := "(J)I" } : Jvm.MethodName) prog_6_method_8_code (5 : Nat) (Option.some Jvm.ClassFile.FieldType.int)) ∈ GG := GG_in (i := 402) (by decide +kernel) (by decide +kernel)
theorem gw_403 : (Jvm.Cond.constantLong "QuorumChain$KeyTree" (79 : Nat) (65535 : Int64)) ∈ GG := GG_in (i := 403) (by decide +kernel) (by decide +kernel)
theorem gw_404 : (Jvm.Cond.methodLink "QuorumChain$KeyTree" (59 : Nat) ({ cls := "QuorumChain$KeyTree", name := "digit", desc := "(II)I" } : Jvm.MethodName)) ∈ GG := GG_in (i := 404) (by decide +kernel) (by decide +kernel)
theorem gw_405 : (Jvm.Cond.static ({ cls := "QuorumChain$KeyTree", name := "digit", desc := "(II)I" } : Jvm.MethodName)) ∈ GG := GG_in (i := 405) (by decide +kernel) (by decide +kernel)
theorem gw_406 : (Jvm.Cond.code ({ cls := "QuorumChain$KeyTree", name := "digit", desc := "(II)I" } : Jvm.MethodName) prog_6_method_9_code (2 : Nat) (Option.some Jvm.ClassFile.FieldType.int)) ∈ GG := GG_in (i := 406) (by decide +kernel) (by decide +kernel)
theorem gw_407 : (Jvm.Cond.methodLink "QuorumChain" (362 : Nat) ({ cls := "QuorumChain", name := "sendDraftToAll", desc := "()V" } : Jvm.MethodName)) ∈ GG := GG_in (i := 407) (by decide +kernel) (by decide +kernel)
theorem gw_409 : (Jvm.Cond.instanceMethod ({ cls := "QuorumChain", name := "sendDraftToAll", desc := "()V" } : Jvm.MethodName)) ∈ GG := GG_in (i := 409) (by decide +kernel) (by decide +kernel)
theorem gw_410 : (Jvm.Cond.code ({ cls := "QuorumChain", name := "sendDraftToAll", desc := "()V" } : Jvm.MethodName) prog_1_method_41_code (2 : Nat) (Option.none : Option Jvm.ClassFile.FieldType)) ∈ GG := GG_in (i := 410) (by decide +kernel) (by decide +kernel)
theorem gw_411 : (Jvm.Cond.methodLink "QuorumChain" (157 : Nat) ({ cls := "QuorumChain$Inbox", name := "add", desc := "(LQuorumChain$Message;)V" } : Jvm.MethodName)) ∈ GG := GG_in (i := 411) (by decide +kernel) (by decide +kernel)
theorem gw_412 : (Jvm.Cond.instanceMethod ({ cls := "QuorumChain$Inbox", name := "add", desc := "(LQuorumChain$Message;)V" } : Jvm.MethodName)) ∈ GG := GG_in (i := 412) (by decide +kernel) (by decide +kernel)
theorem gw_413 : (Jvm.Cond.selects "QuorumChain$Inbox" ({ cls := "QuorumChain$Inbox", name := "add", desc := "(LQuorumChain$Message;)V" } : Jvm.MethodName) ({ cls := "QuorumChain$Inbox", name := "add", desc := "(LQuorumChain$Message;)V" } : Jvm.MethodName)) ∈ GG := GG_in (i := 413) (by decide +kernel) (by decide +kernel)
theorem gw_414 : (Jvm.Cond.code ({ cls := "QuorumChain$Inbox", name := "add", desc := "(LQuorumChain$Message;)V" } : Jvm.MethodName) prog_5_method_3_code (2 : Nat) (Option.none : Option Jvm.ClassFile.FieldType)) ∈ GG := GG_in (i := 414) (by decide +kernel) (by decide +kernel)
theorem gw_415 : (Jvm.Cond.methodLink "QuorumChain$Inbox" (22 : Nat) ({ cls := "QuorumChain$Message", name := "copyFrom", desc := "(LQuorumChain$Message;)V" } : Jvm.MethodName)) ∈ GG := GG_in (i := 415) (by decide +kernel) (by decide +kernel)
theorem gw_416 : (Jvm.Cond.instanceMethod ({ cls := "QuorumChain$Message", name := "copyFrom", desc := "(LQuorumChain$Message;)V" } : Jvm.MethodName)) ∈ GG := GG_in (i := 416) (by decide +kernel) (by decide +kernel)
theorem gw_417 : (Jvm.Cond.selects "QuorumChain$Message" ({ cls := "QuorumChain$Message", name := "copyFrom", desc := "(LQuorumChain$Message;)V" } : Jvm.MethodName) ({ cls := "QuorumChain$Message", name := "copyFrom", desc := "(LQuorumChain$Message;)V" } : Jvm.MethodName)) ∈ GG := GG_in (i := 417) (by decide +kernel) (by decide +kernel)
theorem gw_418 : (Jvm.Cond.code ({ cls := "QuorumChain$Message", name := "copyFrom", desc := "(LQuorumChain$Message;)V" } : Jvm.MethodName) prog_7_method_3_code (2 : Nat) (Option.none : Option Jvm.ClassFile.FieldType)) ∈ GG := GG_in (i := 418) (by decide +kernel) (by decide +kernel)
theorem gw_419 : (Jvm.Cond.methodLink "QuorumChain$Message" (31 : Nat) ({ cls := "QuorumChain$Message", name := "write", desc := "(IIII)V" } : Jvm.MethodName)) ∈ GG := GG_in (i := 419) (by decide +kernel) (by decide +kernel)
theorem gw_420 : (Jvm.Cond.methodLink "QuorumChain$Message" (35 : Nat) ({ cls := "java/lang/System", name := "arraycopy", desc := "(Ljava/lang/Object;ILjava/lang/Object;II)V" } : Jvm.MethodName)) ∈ GG := GG_in (i := 420) (by decide +kernel) (by decide +kernel)
theorem gw_421 : (Jvm.Cond.static ({ cls := "java/lang/System", name := "arraycopy", desc := "(Ljava/lang/Object;ILjava/lang/Object;II)V" } : Jvm.MethodName)) ∈ GG := GG_in (i := 421) (by decide +kernel) (by decide +kernel)
theorem gw_422 : (Jvm.Cond.native ({ cls := "java/lang/System", name := "arraycopy", desc := "(Ljava/lang/Object;ILjava/lang/Object;II)V" } : Jvm.MethodName)) ∈ GG := GG_in (i := 422) (by decide +kernel) (by decide +kernel)
theorem gw_423 : (Jvm.Cond.methodLink "QuorumChain" (376 : Nat) ({ cls := "java/lang/Math", name := "min", desc := "(II)I" } : Jvm.MethodName)) ∈ GG := GG_in (i := 423) (by decide +kernel) (by decide +kernel)
theorem gw_424 : (Jvm.Cond.static ({ cls := "java/lang/Math", name := "min", desc := "(II)I" } : Jvm.MethodName)) ∈ GG := GG_in (i := 424) (by decide +kernel) (by decide +kernel)
theorem gw_425 : (Jvm.Cond.code ({ cls := "java/lang/Math", name := "min", desc := "(II)I" } : Jvm.MethodName) prog_18_method_69_code (2 : Nat) (Option.some Jvm.ClassFile.FieldType.int)) ∈ GG := GG_in (i := 425) (by decide +kernel) (by decide +kernel)
theorem gw_427 : (Jvm.Cond.instanceMethod ({ cls := "QuorumChain", name := "node", desc := "(II)I" } : Jvm.MethodName)) ∈ GG := GG_in (i := 427) (by decide +kernel) (by decide +kernel)
theorem gw_428 : (Jvm.Cond.selects "QuorumChain" ({ cls := "QuorumChain", name := "node", desc := "(II)I" } : Jvm.MethodName) ({ cls := "QuorumChain", name := "node", desc := "(II)I" } : Jvm.MethodName)) ∈ GG := GG_in (i := 428) (by decide +kernel) (by decide +kernel)
theorem gw_429 : (Jvm.Cond.code ({ cls := "QuorumChain", name := "node", desc := "(II)I" } : Jvm.MethodName) prog_1_method_13_code (4 : Nat) (Option.some Jvm.ClassFile.FieldType.int)) ∈ GG := GG_in (i := 429) (by decide +kernel) (by decide +kernel)
theorem gw_430 : (Jvm.Cond.methodLink "QuorumChain" (68 : Nat) ({ cls := "QuorumChain", name := "isNode", desc := "(I)Z" } : Jvm.MethodName)) ∈ GG := GG_in (i := 430) (by decide +kernel) (by decide +kernel)
theorem gw_431 : (Jvm.Cond.static ({ cls := "QuorumChain", name := "isNode", desc := "(I)Z" } : Jvm.MethodName)) ∈ GG := GG_in (i := 431) (by decide +kernel) (by decide +kernel)
theorem gw_432 : (Jvm.Cond.code ({ cls := "QuorumChain", name := "isNode", desc := "(I)Z" } : Jvm.MethodName) prog_1_method_20_code (1 : Nat) (Option.some Jvm.ClassFile.FieldType.boolean)) ∈ GG := GG_in (i := 432) (by decide +kernel) (by decide +kernel)
theorem gw_434 : (Jvm.Cond.instanceMethod ({ cls := "QuorumChain", name := "log", desc := "(II)I" } : Jvm.MethodName)) ∈ GG := GG_in (i := 434) (by decide +kernel) (by decide +kernel)
theorem gw_435 : (Jvm.Cond.selects "QuorumChain" ({ cls := "QuorumChain", name := "log", desc := "(II)I" } : Jvm.MethodName) ({ cls := "QuorumChain", name := "log", desc := "(II)I" } : Jvm.MethodName)) ∈ GG := GG_in (i := 435) (by decide +kernel) (by decide +kernel)
theorem gw_436 : (Jvm.Cond.code ({ cls := "QuorumChain", name := "log", desc := "(II)I" } : Jvm.MethodName) prog_1_method_14_code (3 : Nat) (Option.some Jvm.ClassFile.FieldType.int)) ∈ GG := GG_in (i := 436) (by decide +kernel) (by decide +kernel)
theorem gw_437 : (Jvm.Cond.methodLink "QuorumChain" (269 : Nat) ({ cls := "QuorumChain$Store", name := "logged", desc := "(I)I" } : Jvm.MethodName)) ∈ GG := GG_in (i := 437) (by decide +kernel) (by decide +kernel)
theorem gw_438 : (Jvm.Cond.instanceMethod ({ cls := "QuorumChain$Store", name := "logged", desc := "(I)I" } : Jvm.MethodName)) ∈ GG := GG_in (i := 438) (by decide +kernel) (by decide +kernel)
theorem gw_439 : (Jvm.Cond.selects "QuorumChain$Store" ({ cls := "QuorumChain$Store", name := "logged", desc := "(I)I" } : Jvm.MethodName) ({ cls := "QuorumChain$Store", name := "logged", desc := "(I)I" } : Jvm.MethodName)) ∈ GG := GG_in (i := 439) (by decide +kernel) (by decide +kernel)
theorem gw_440 : (Jvm.Cond.code ({ cls := "QuorumChain$Store", name := "logged", desc := "(I)I" } : Jvm.MethodName) prog_9_method_4_code (2 : Nat) (Option.some Jvm.ClassFile.FieldType.int)) ∈ GG := GG_in (i := 440) (by decide +kernel) (by decide +kernel)
theorem gw_442 : (Jvm.Cond.instanceMethod ({ cls := "QuorumChain", name := "account", desc := "(III)I" } : Jvm.MethodName)) ∈ GG := GG_in (i := 442) (by decide +kernel) (by decide +kernel)
theorem gw_443 : (Jvm.Cond.selects "QuorumChain" ({ cls := "QuorumChain", name := "account", desc := "(III)I" } : Jvm.MethodName) ({ cls := "QuorumChain", name := "account", desc := "(III)I" } : Jvm.MethodName)) ∈ GG := GG_in (i := 443) (by decide +kernel) (by decide +kernel)
theorem gw_444 : (Jvm.Cond.code ({ cls := "QuorumChain", name := "account", desc := "(III)I" } : Jvm.MethodName) prog_1_method_15_code (5 : Nat) (Option.some Jvm.ClassFile.FieldType.int)) ∈ GG := GG_in (i := 444) (by decide +kernel) (by decide +kernel)
theorem gw_445 : (Jvm.Cond.methodLink "QuorumChain" (42 : Nat) ({ cls := "QuorumChain", name := "isAccount", desc := "(I)Z" } : Jvm.MethodName)) ∈ GG := GG_in (i := 445) (by decide +kernel) (by decide +kernel)
theorem gw_446 : (Jvm.Cond.static ({ cls := "QuorumChain", name := "isAccount", desc := "(I)Z" } : Jvm.MethodName)) ∈ GG := GG_in (i := 446) (by decide +kernel) (by decide +kernel)
theorem gw_447 : (Jvm.Cond.code ({ cls := "QuorumChain", name := "isAccount", desc := "(I)Z" } : Jvm.MethodName) prog_1_method_21_code (1 : Nat) (Option.some Jvm.ClassFile.FieldType.boolean)) ∈ GG := GG_in (i := 447) (by decide +kernel) (by decide +kernel)
theorem gw_449 : (Jvm.Cond.instanceMethod ({ cls := "QuorumChain", name := "block", desc := "(II)I" } : Jvm.MethodName)) ∈ GG := GG_in (i := 449) (by decide +kernel) (by decide +kernel)
theorem gw_450 : (Jvm.Cond.selects "QuorumChain" ({ cls := "QuorumChain", name := "block", desc := "(II)I" } : Jvm.MethodName) ({ cls := "QuorumChain", name := "block", desc := "(II)I" } : Jvm.MethodName)) ∈ GG := GG_in (i := 450) (by decide +kernel) (by decide +kernel)
theorem gw_451 : (Jvm.Cond.code ({ cls := "QuorumChain", name := "block", desc := "(II)I" } : Jvm.MethodName) prog_1_method_16_code (3 : Nat) (Option.some Jvm.ClassFile.FieldType.int)) ∈ GG := GG_in (i := 451) (by decide +kernel) (by decide +kernel)
theorem gw_452 : (Jvm.Cond.methodLink "QuorumChain" (170 : Nat) ({ cls := "QuorumChain$Blocks", name := "exists", desc := "(I)Z" } : Jvm.MethodName)) ∈ GG := GG_in (i := 452) (by decide +kernel) (by decide +kernel)
theorem gw_453 : (Jvm.Cond.instanceMethod ({ cls := "QuorumChain$Blocks", name := "exists", desc := "(I)Z" } : Jvm.MethodName)) ∈ GG := GG_in (i := 453) (by decide +kernel) (by decide +kernel)
theorem gw_454 : (Jvm.Cond.selects "QuorumChain$Blocks" ({ cls := "QuorumChain$Blocks", name := "exists", desc := "(I)Z" } : Jvm.MethodName) ({ cls := "QuorumChain$Blocks", name := "exists", desc := "(I)Z" } : Jvm.MethodName)) ∈ GG := GG_in (i := 454) (by decide +kernel) (by decide +kernel)
theorem gw_455 : (Jvm.Cond.code ({ cls := "QuorumChain$Blocks", name := "exists", desc := "(I)Z" } : Jvm.MethodName) prog_3_method_2_code (2 : Nat) (Option.some Jvm.ClassFile.FieldType.boolean)) ∈ GG := GG_in (i := 455) (by decide +kernel) (by decide +kernel)
theorem gw_456 : (Jvm.Cond.methodLink "QuorumChain" (203 : Nat) ({ cls := "QuorumChain$Blocks", name := "viewOf", desc := "(I)I" } : Jvm.MethodName)) ∈ GG := GG_in (i := 456) (by decide +kernel) (by decide +kernel)
theorem gw_457 : (Jvm.Cond.instanceMethod ({ cls := "QuorumChain$Blocks", name := "viewOf", desc := "(I)I" } : Jvm.MethodName)) ∈ GG := GG_in (i := 457) (by decide +kernel) (by decide +kernel)
theorem gw_458 : (Jvm.Cond.selects "QuorumChain$Blocks" ({ cls := "QuorumChain$Blocks", name := "viewOf", desc := "(I)I" } : Jvm.MethodName) ({ cls := "QuorumChain$Blocks", name := "viewOf", desc := "(I)I" } : Jvm.MethodName)) ∈ GG := GG_in (i := 458) (by decide +kernel) (by decide +kernel)
theorem gw_459 : (Jvm.Cond.code ({ cls := "QuorumChain$Blocks", name := "viewOf", desc := "(I)I" } : Jvm.MethodName) prog_3_method_4_code (2 : Nat) (Option.some Jvm.ClassFile.FieldType.int)) ∈ GG := GG_in (i := 459) (by decide +kernel) (by decide +kernel)
theorem gw_460 : (Jvm.Cond.methodLink "QuorumChain$Blocks" (29 : Nat) ({ cls := "QuorumChain$Blocks", name := "exists", desc := "(I)Z" } : Jvm.MethodName)) ∈ GG := GG_in (i := 460) (by decide +kernel) (by decide +kernel)
theorem gw_461 : (Jvm.Cond.methodLink "QuorumChain" (285 : Nat) ({ cls := "QuorumChain$Blocks", name := "parentOf", desc := "(I)I" } : Jvm.MethodName)) ∈ GG := GG_in (i := 461) (by decide +kernel) (by decide +kernel)
theorem gw_462 : (Jvm.Cond.instanceMethod ({ cls := "QuorumChain$Blocks", name := "parentOf", desc := "(I)I" } : Jvm.MethodName)) ∈ GG := GG_in (i := 462) (by decide +kernel) (by decide +kernel)
theorem gw_463 : (Jvm.Cond.selects "QuorumChain$Blocks" ({ cls := "QuorumChain$Blocks", name := "parentOf", desc := "(I)I" } : Jvm.MethodName) ({ cls := "QuorumChain$Blocks", name := "parentOf", desc := "(I)I" } : Jvm.MethodName)) ∈ GG := GG_in (i := 463) (by decide +kernel) (by decide +kernel)
theorem gw_464 : (Jvm.Cond.code ({ cls := "QuorumChain$Blocks", name := "parentOf", desc := "(I)I" } : Jvm.MethodName) prog_3_method_5_code (2 : Nat) (Option.some Jvm.ClassFile.FieldType.int)) ∈ GG := GG_in (i := 464) (by decide +kernel) (by decide +kernel)
theorem gw_465 : (Jvm.Cond.methodLink "QuorumChain" (288 : Nat) ({ cls := "QuorumChain$Blocks", name := "transactionOf", desc := "(I)I" } : Jvm.MethodName)) ∈ GG := GG_in (i := 465) (by decide +kernel) (by decide +kernel)
theorem gw_466 : (Jvm.Cond.instanceMethod ({ cls := "QuorumChain$Blocks", name := "transactionOf", desc := "(I)I" } : Jvm.MethodName)) ∈ GG := GG_in (i := 466) (by decide +kernel) (by decide +kernel)
theorem gw_467 : (Jvm.Cond.selects "QuorumChain$Blocks" ({ cls := "QuorumChain$Blocks", name := "transactionOf", desc := "(I)I" } : Jvm.MethodName) ({ cls := "QuorumChain$Blocks", name := "transactionOf", desc := "(I)I" } : Jvm.MethodName)) ∈ GG := GG_in (i := 467) (by decide +kernel) (by decide +kernel)
theorem gw_468 : (Jvm.Cond.code ({ cls := "QuorumChain$Blocks", name := "transactionOf", desc := "(I)I" } : Jvm.MethodName) prog_3_method_6_code (2 : Nat) (Option.some Jvm.ClassFile.FieldType.int)) ∈ GG := GG_in (i := 468) (by decide +kernel) (by decide +kernel)
theorem gw_469 : (Jvm.Cond.methodLink "QuorumChain" (200 : Nat) ({ cls := "QuorumChain$Blocks", name := "isCertified", desc := "(I)Z" } : Jvm.MethodName)) ∈ GG := GG_in (i := 469) (by decide +kernel) (by decide +kernel)
theorem gw_470 : (Jvm.Cond.instanceMethod ({ cls := "QuorumChain$Blocks", name := "isCertified", desc := "(I)Z" } : Jvm.MethodName)) ∈ GG := GG_in (i := 470) (by decide +kernel) (by decide +kernel)
theorem gw_471 : (Jvm.Cond.selects "QuorumChain$Blocks" ({ cls := "QuorumChain$Blocks", name := "isCertified", desc := "(I)Z" } : Jvm.MethodName) ({ cls := "QuorumChain$Blocks", name := "isCertified", desc := "(I)Z" } : Jvm.MethodName)) ∈ GG := GG_in (i := 471) (by decide +kernel) (by decide +kernel)
theorem gw_472 : (Jvm.Cond.code ({ cls := "QuorumChain$Blocks", name := "isCertified", desc := "(I)Z" } : Jvm.MethodName) prog_3_method_7_code (2 : Nat) (Option.some Jvm.ClassFile.FieldType.boolean)) ∈ GG := GG_in (i := 472) (by decide +kernel) (by decide +kernel)
theorem gw_473 : (Jvm.Cond.methodLink "QuorumChain" (291 : Nat) ({ cls := "QuorumChain", name := "nodesThatHave", desc := "(I)I" } : Jvm.MethodName)) ∈ GG := GG_in (i := 473) (by decide +kernel) (by decide +kernel)
theorem gw_475 : (Jvm.Cond.instanceMethod ({ cls := "QuorumChain", name := "nodesThatHave", desc := "(I)I" } : Jvm.MethodName)) ∈ GG := GG_in (i := 475) (by decide +kernel) (by decide +kernel)
theorem gw_476 : (Jvm.Cond.code ({ cls := "QuorumChain", name := "nodesThatHave", desc := "(I)I" } : Jvm.MethodName) prog_1_method_23_code (4 : Nat) (Option.some Jvm.ClassFile.FieldType.int)) ∈ GG := GG_in (i := 476) (by decide +kernel) (by decide +kernel)
theorem gw_477 : (Jvm.Cond.methodLink "QuorumChain" (195 : Nat) ({ cls := "QuorumChain$Store", name := "hasBlock", desc := "(I)Z" } : Jvm.MethodName)) ∈ GG := GG_in (i := 477) (by decide +kernel) (by decide +kernel)
theorem gw_478 : (Jvm.Cond.instanceMethod ({ cls := "QuorumChain$Store", name := "hasBlock", desc := "(I)Z" } : Jvm.MethodName)) ∈ GG := GG_in (i := 478) (by decide +kernel) (by decide +kernel)
theorem gw_479 : (Jvm.Cond.selects "QuorumChain$Store" ({ cls := "QuorumChain$Store", name := "hasBlock", desc := "(I)Z" } : Jvm.MethodName) ({ cls := "QuorumChain$Store", name := "hasBlock", desc := "(I)Z" } : Jvm.MethodName)) ∈ GG := GG_in (i := 479) (by decide +kernel) (by decide +kernel)
theorem gw_480 : (Jvm.Cond.code ({ cls := "QuorumChain$Store", name := "hasBlock", desc := "(I)Z" } : Jvm.MethodName) prog_9_method_2_code (2 : Nat) (Option.some Jvm.ClassFile.FieldType.boolean)) ∈ GG := GG_in (i := 480) (by decide +kernel) (by decide +kernel)
theorem gw_482 : (Jvm.Cond.instanceMethod ({ cls := "QuorumChain", name := "message", desc := "(III)I" } : Jvm.MethodName)) ∈ GG := GG_in (i := 482) (by decide +kernel) (by decide +kernel)
theorem gw_483 : (Jvm.Cond.selects "QuorumChain" ({ cls := "QuorumChain", name := "message", desc := "(III)I" } : Jvm.MethodName) ({ cls := "QuorumChain", name := "message", desc := "(III)I" } : Jvm.MethodName)) ∈ GG := GG_in (i := 483) (by decide +kernel) (by decide +kernel)
theorem gw_484 : (Jvm.Cond.code ({ cls := "QuorumChain", name := "message", desc := "(III)I" } : Jvm.MethodName) prog_1_method_17_code (5 : Nat) (Option.some Jvm.ClassFile.FieldType.int)) ∈ GG := GG_in (i := 484) (by decide +kernel) (by decide +kernel)
theorem gw_486 : (Jvm.Cond.instanceMethod ({ cls := "QuorumChain", name := "root", desc := "(I)J" } : Jvm.MethodName)) ∈ GG := GG_in (i := 486) (by decide +kernel) (by decide +kernel)
theorem gw_487 : (Jvm.Cond.selects "QuorumChain" ({ cls := "QuorumChain", name := "root", desc := "(I)J" } : Jvm.MethodName) ({ cls := "QuorumChain", name := "root", desc := "(I)J" } : Jvm.MethodName)) ∈ GG := GG_in (i := 487) (by decide +kernel) (by decide +kernel)
theorem gw_488 : (Jvm.Cond.code ({ cls := "QuorumChain", name := "root", desc := "(I)J" } : Jvm.MethodName) prog_1_method_18_code (2 : Nat) (Option.some Jvm.ClassFile.FieldType.long)) ∈ GG := GG_in (i := 488) (by decide +kernel) (by decide +kernel)
theorem gw_489 : (Jvm.Cond.methodLink "QuorumChain" (298 : Nat) ({ cls := "QuorumChain$KeyTree", name := "top", desc := "()J" } : Jvm.MethodName)) ∈ GG := GG_in (i := 489) (by decide +kernel) (by decide +kernel)
theorem gw_490 : (Jvm.Cond.instanceMethod ({ cls := "QuorumChain$KeyTree", name := "top", desc := "()J" } : Jvm.MethodName)) ∈ GG := GG_in (i := 490) (by decide +kernel) (by decide +kernel)
theorem gw_491 : (Jvm.Cond.selects "QuorumChain$KeyTree" ({ cls := "QuorumChain$KeyTree", name := "top", desc := "()J" } : Jvm.MethodName) ({ cls := "QuorumChain$KeyTree", name := "top", desc := "()J" } : Jvm.MethodName)) ∈ GG := GG_in (i := 491) (by decide +kernel) (by decide +kernel)
theorem gw_492 : (Jvm.Cond.code ({ cls := "QuorumChain$KeyTree", name := "top", desc := "()J" } : Jvm.MethodName) prog_6_method_2_code (1 : Nat) (Option.some Jvm.ClassFile.FieldType.long)) ∈ GG := GG_in (i := 492) (by decide +kernel) (by decide +kernel)
theorem gw_494 : (Jvm.Cond.instanceMethod ({ cls := "QuorumChain", name := "about", desc := "(I)I" } : Jvm.MethodName)) ∈ GG := GG_in (i := 494) (by decide +kernel) (by decide +kernel)
theorem gw_495 : (Jvm.Cond.selects "QuorumChain" ({ cls := "QuorumChain", name := "about", desc := "(I)I" } : Jvm.MethodName) ({ cls := "QuorumChain", name := "about", desc := "(I)I" } : Jvm.MethodName)) ∈ GG := GG_in (i := 495) (by decide +kernel) (by decide +kernel)
theorem gw_496 : (Jvm.Cond.code ({ cls := "QuorumChain", name := "about", desc := "(I)I" } : Jvm.MethodName) prog_1_method_19_code (2 : Nat) (Option.some Jvm.ClassFile.FieldType.int)) ∈ GG := GG_in (i := 496) (by decide +kernel) (by decide +kernel)
theorem gw_594 : (Jvm.Cond.instanceMethod ({ cls := "QuorumChain$Transactions", name := "add", desc := "(IIII)I" } : Jvm.MethodName)) ∈ GG := GG_in (i := 594) (by decide +kernel) (by decide +kernel)
theorem gw_595 : (Jvm.Cond.selects "QuorumChain$Transactions" ({ cls := "QuorumChain$Transactions", name := "add", desc := "(IIII)I" } : Jvm.MethodName) ({ cls := "QuorumChain$Transactions", name := "add", desc := "(IIII)I" } : Jvm.MethodName)) ∈ GG := GG_in (i := 595) (by decide +kernel) (by decide +kernel)
theorem gw_596 : (Jvm.Cond.code ({ cls := "QuorumChain$Transactions", name := "add", desc := "(IIII)I" } : Jvm.MethodName) prog_11_method_3_code (5 : Nat) (Option.some Jvm.ClassFile.FieldType.int)) ∈ GG := GG_in (i := 596) (by decide +kernel) (by decide +kernel)
theorem gw_605 : (Jvm.Cond.instanceMethod ({ cls := "QuorumChain$Transactions", name := "exists", desc := "(I)Z" } : Jvm.MethodName)) ∈ GG := GG_in (i := 605) (by decide +kernel) (by decide +kernel)
theorem gw_606 : (Jvm.Cond.selects "QuorumChain$Transactions" ({ cls := "QuorumChain$Transactions", name := "exists", desc := "(I)Z" } : Jvm.MethodName) ({ cls := "QuorumChain$Transactions", name := "exists", desc := "(I)Z" } : Jvm.MethodName)) ∈ GG := GG_in (i := 606) (by decide +kernel) (by decide +kernel)
theorem gw_607 : (Jvm.Cond.code ({ cls := "QuorumChain$Transactions", name := "exists", desc := "(I)Z" } : Jvm.MethodName) prog_11_method_2_code (2 : Nat) (Option.some Jvm.ClassFile.FieldType.boolean)) ∈ GG := GG_in (i := 607) (by decide +kernel) (by decide +kernel)
theorem gw_611 : (Jvm.Cond.instanceMethod ({ cls := "QuorumChain$Node", name := "addToPool", desc := "(I)Z" } : Jvm.MethodName)) ∈ GG := GG_in (i := 611) (by decide +kernel) (by decide +kernel)
theorem gw_612 : (Jvm.Cond.selects "QuorumChain$Node" ({ cls := "QuorumChain$Node", name := "addToPool", desc := "(I)Z" } : Jvm.MethodName) ({ cls := "QuorumChain$Node", name := "addToPool", desc := "(I)Z" } : Jvm.MethodName)) ∈ GG := GG_in (i := 612) (by decide +kernel) (by decide +kernel)
theorem gw_613 : (Jvm.Cond.code ({ cls := "QuorumChain$Node", name := "addToPool", desc := "(I)Z" } : Jvm.MethodName) prog_8_method_2_code (3 : Nat) (Option.some Jvm.ClassFile.FieldType.boolean)) ∈ GG := GG_in (i := 613) (by decide +kernel) (by decide +kernel)
theorem gw_622 : (Jvm.Cond.methodLink "QuorumChain" (93 : Nat) ({ cls := "QuorumChain", name := "propose", desc := "(LQuorumChain$Node;)V" } : Jvm.MethodName)) ∈ GG := GG_in (i := 622) (by decide +kernel) (by decide +kernel)
theorem gw_624 : (Jvm.Cond.instanceMethod ({ cls := "QuorumChain", name := "propose", desc := "(LQuorumChain$Node;)V" } : Jvm.MethodName)) ∈ GG := GG_in (i := 624) (by decide +kernel) (by decide +kernel)
theorem gw_625 : (Jvm.Cond.code ({ cls := "QuorumChain", name := "propose", desc := "(LQuorumChain$Node;)V" } : Jvm.MethodName) prog_1_method_35_code (3 : Nat) (Option.none : Option Jvm.ClassFile.FieldType)) ∈ GG := GG_in (i := 625) (by decide +kernel) (by decide +kernel)
theorem gw_626 : (Jvm.Cond.methodLink "QuorumChain" (358 : Nat) ({ cls := "QuorumChain", name := "firstNewTransaction", desc := "(LQuorumChain$Node;)I" } : Jvm.MethodName)) ∈ GG := GG_in (i := 626) (by decide +kernel) (by decide +kernel)
theorem gw_628 : (Jvm.Cond.instanceMethod ({ cls := "QuorumChain", name := "firstNewTransaction", desc := "(LQuorumChain$Node;)I" } : Jvm.MethodName)) ∈ GG := GG_in (i := 628) (by decide +kernel) (by decide +kernel)
theorem gw_629 : (Jvm.Cond.code ({ cls := "QuorumChain", name := "firstNewTransaction", desc := "(LQuorumChain$Node;)I" } : Jvm.MethodName) prog_1_method_36_code (3 : Nat) (Option.some Jvm.ClassFile.FieldType.int)) ∈ GG := GG_in (i := 629) (by decide +kernel) (by decide +kernel)
theorem gw_630 : (Jvm.Cond.methodLink "QuorumChain" (368 : Nat) ({ cls := "QuorumChain$Blocks", name := "isInChain", desc := "(II)Z" } : Jvm.MethodName)) ∈ GG := GG_in (i := 630) (by decide +kernel) (by decide +kernel)
theorem gw_631 : (Jvm.Cond.instanceMethod ({ cls := "QuorumChain$Blocks", name := "isInChain", desc := "(II)Z" } : Jvm.MethodName)) ∈ GG := GG_in (i := 631) (by decide +kernel) (by decide +kernel)
theorem gw_632 : (Jvm.Cond.selects "QuorumChain$Blocks" ({ cls := "QuorumChain$Blocks", name := "isInChain", desc := "(II)Z" } : Jvm.MethodName) ({ cls := "QuorumChain$Blocks", name := "isInChain", desc := "(II)Z" } : Jvm.MethodName)) ∈ GG := GG_in (i := 632) (by decide +kernel) (by decide +kernel)
theorem gw_633 : (Jvm.Cond.code ({ cls := "QuorumChain$Blocks", name := "isInChain", desc := "(II)Z" } : Jvm.MethodName) prog_3_method_13_code (5 : Nat) (Option.some Jvm.ClassFile.FieldType.boolean)) ∈ GG := GG_in (i := 633) (by decide +kernel) (by decide +kernel)
theorem gw_634 : (Jvm.Cond.methodLink "QuorumChain$Blocks" (44 : Nat) ({ cls := "QuorumChain$Blocks", name := "transactionOf", desc := "(I)I" } : Jvm.MethodName)) ∈ GG := GG_in (i := 634) (by decide +kernel) (by decide +kernel)
theorem gw_635 : (Jvm.Cond.methodLink "QuorumChain$Blocks" (41 : Nat) ({ cls := "QuorumChain$Blocks", name := "parentOf", desc := "(I)I" } : Jvm.MethodName)) ∈ GG := GG_in (i := 635) (by decide +kernel) (by decide +kernel)
theorem gw_636 : (Jvm.Cond.methodLink "QuorumChain" (209 : Nat) ({ cls := "QuorumChain$Blocks", name := "add", desc := "(III)I" } : Jvm.MethodName)) ∈ GG := GG_in (i := 636) (by decide +kernel) (by decide +kernel)
theorem gw_637 : (Jvm.Cond.instanceMethod ({ cls := "QuorumChain$Blocks", name := "add", desc := "(III)I" } : Jvm.MethodName)) ∈ GG := GG_in (i := 637) (by decide +kernel) (by decide +kernel)
theorem gw_638 : (Jvm.Cond.selects "QuorumChain$Blocks" ({ cls := "QuorumChain$Blocks", name := "add", desc := "(III)I" } : Jvm.MethodName) ({ cls := "QuorumChain$Blocks", name := "add", desc := "(III)I" } : Jvm.MethodName)) ∈ GG := GG_in (i := 638) (by decide +kernel) (by decide +kernel)
theorem gw_639 : (Jvm.Cond.code ({ cls := "QuorumChain$Blocks", name := "add", desc := "(III)I" } : Jvm.MethodName) prog_3_method_3_code (4 : Nat) (Option.some Jvm.ClassFile.FieldType.int)) ∈ GG := GG_in (i := 639) (by decide +kernel) (by decide +kernel)
theorem gw_640 : (Jvm.Cond.methodLink "QuorumChain" (212 : Nat) ({ cls := "QuorumChain$Store", name := "keepBlock", desc := "(I)V" } : Jvm.MethodName)) ∈ GG := GG_in (i := 640) (by decide +kernel) (by decide +kernel)
theorem gw_641 : (Jvm.Cond.instanceMethod ({ cls := "QuorumChain$Store", name := "keepBlock", desc := "(I)V" } : Jvm.MethodName)) ∈ GG := GG_in (i := 641) (by decide +kernel) (by decide +kernel)
theorem gw_642 : (Jvm.Cond.selects "QuorumChain$Store" ({ cls := "QuorumChain$Store", name := "keepBlock", desc := "(I)V" } : Jvm.MethodName) ({ cls := "QuorumChain$Store", name := "keepBlock", desc := "(I)V" } : Jvm.MethodName)) ∈ GG := GG_in (i := 642) (by decide +kernel) (by decide +kernel)
theorem gw_643 : (Jvm.Cond.code ({ cls := "QuorumChain$Store", name := "keepBlock", desc := "(I)V" } : Jvm.MethodName) prog_9_method_3_code (2 : Nat) (Option.none : Option Jvm.ClassFile.FieldType)) ∈ GG := GG_in (i := 643) (by decide +kernel) (by decide +kernel)
theorem gw_654 : (Jvm.Cond.instanceMethod ({ cls := "QuorumChain$Inbox", name := "first", desc := "()LQuorumChain$Message;" } : Jvm.MethodName)) ∈ GG := GG_in (i := 654) (by decide +kernel) (by decide +kernel)
theorem gw_655 : (Jvm.Cond.selects "QuorumChain$Inbox" ({ cls := "QuorumChain$Inbox", name := "first", desc := "()LQuorumChain$Message;" } : Jvm.MethodName) ({ cls := "QuorumChain$Inbox", name := "first", desc := "()LQuorumChain$Message;" } : Jvm.MethodName)) ∈ GG := GG_in (i := 655) (by decide +kernel) (by decide +kernel)
theorem gw_656 : (Jvm.Cond.code ({ cls := "QuorumChain$Inbox", name := "first", desc := "()LQuorumChain$Message;" } : Jvm.MethodName) prog_5_method_2_code (1 : Nat) (Option.some (Jvm.ClassFile.FieldType.object "QuorumChain$Message"))) ∈ GG := GG_in (i := 656) (by decide +kernel) (by decide +kernel)
theorem gw_659 : (Jvm.Cond.instanceMethod ({ cls := "QuorumChain$Inbox", name := "dropFirst", desc := "()V" } : Jvm.MethodName)) ∈ GG := GG_in (i := 659) (by decide +kernel) (by decide +kernel)
theorem gw_660 : (Jvm.Cond.selects "QuorumChain$Inbox" ({ cls := "QuorumChain$Inbox", name := "dropFirst", desc := "()V" } : Jvm.MethodName) ({ cls := "QuorumChain$Inbox", name := "dropFirst", desc := "()V" } : Jvm.MethodName)) ∈ GG := GG_in (i := 660) (by decide +kernel) (by decide +kernel)
theorem gw_661 : (Jvm.Cond.code ({ cls := "QuorumChain$Inbox", name := "dropFirst", desc := "()V" } : Jvm.MethodName) prog_5_method_5_code (1 : Nat) (Option.none : Option Jvm.ClassFile.FieldType)) ∈ GG := GG_in (i := 661) (by decide +kernel) (by decide +kernel)
theorem gw_662 : (Jvm.Cond.methodLink "QuorumChain$Inbox" (26 : Nat) ({ cls := "QuorumChain$Inbox", name := "moveFirstBehind", desc := "()V" } : Jvm.MethodName)) ∈ GG := GG_in (i := 662) (by decide +kernel) (by decide +kernel)
theorem gw_663 : (Jvm.Cond.instanceMethod ({ cls := "QuorumChain$Inbox", name := "moveFirstBehind", desc := "()V" } : Jvm.MethodName)) ∈ GG := GG_in (i := 663) (by decide +kernel) (by decide +kernel)
theorem gw_664 : (Jvm.Cond.selects "QuorumChain$Inbox" ({ cls := "QuorumChain$Inbox", name := "moveFirstBehind", desc := "()V" } : Jvm.MethodName) ({ cls := "QuorumChain$Inbox", name := "moveFirstBehind", desc := "()V" } : Jvm.MethodName)) ∈ GG := GG_in (i := 664) (by decide +kernel) (by decide +kernel)
theorem gw_665 : (Jvm.Cond.code ({ cls := "QuorumChain$Inbox", name := "moveFirstBehind", desc := "()V" } : Jvm.MethodName) prog_5_method_4_code (3 : Nat) (Option.none : Option Jvm.ClassFile.FieldType)) ∈ GG := GG_in (i := 665) (by decide +kernel) (by decide +kernel)
theorem gw_668 : (Jvm.Cond.instanceMethod ({ cls := "QuorumChain", name := "isHeard", desc := "(LQuorumChain$Message;)Z" } : Jvm.MethodName)) ∈ GG := GG_in (i := 668) (by decide +kernel) (by decide +kernel)
theorem gw_669 : (Jvm.Cond.code ({ cls := "QuorumChain", name := "isHeard", desc := "(LQuorumChain$Message;)Z" } : Jvm.MethodName) prog_1_method_25_code (2 : Nat) (Option.some Jvm.ClassFile.FieldType.boolean)) ∈ GG := GG_in (i := 669) (by decide +kernel) (by decide +kernel)
theorem gw_670 : (Jvm.Cond.methodLink "QuorumChain" (173 : Nat) ({ cls := "QuorumChain", name := "leaderOf", desc := "(I)I" } : Jvm.MethodName)) ∈ GG := GG_in (i := 670) (by decide +kernel) (by decide +kernel)
theorem gw_671 : (Jvm.Cond.static ({ cls := "QuorumChain", name := "leaderOf", desc := "(I)I" } : Jvm.MethodName)) ∈ GG := GG_in (i := 671) (by decide +kernel) (by decide +kernel)
theorem gw_672 : (Jvm.Cond.code ({ cls := "QuorumChain", name := "leaderOf", desc := "(I)I" } : Jvm.MethodName) prog_1_method_22_code (1 : Nat) (Option.some Jvm.ClassFile.FieldType.int)) ∈ GG := GG_in (i := 672) (by decide +kernel) (by decide +kernel)
theorem gw_673 : (Jvm.Cond.methodLink "QuorumChain" (306 : Nat) ({ cls := "QuorumChain$KeyTree", name := "isGood", desc := "(LQuorumChain$Message;)Z" } : Jvm.MethodName)) ∈ GG := GG_in (i := 673) (by decide +kernel) (by decide +kernel)
theorem gw_674 : (Jvm.Cond.instanceMethod ({ cls := "QuorumChain$KeyTree", name := "isGood", desc := "(LQuorumChain$Message;)Z" } : Jvm.MethodName)) ∈ GG := GG_in (i := 674) (by decide +kernel) (by decide +kernel)
theorem gw_675 : (Jvm.Cond.selects "QuorumChain$KeyTree" ({ cls := "QuorumChain$KeyTree", name := "isGood", desc := "(LQuorumChain$Message;)Z" } : Jvm.MethodName) ({ cls := "QuorumChain$KeyTree", name := "isGood", desc := "(LQuorumChain$Message;)Z" } : Jvm.MethodName)) ∈ GG := GG_in (i := 675) (by decide +kernel) (by decide +kernel)
theorem gw_676 : (Jvm.Cond.code ({ cls := "QuorumChain$KeyTree", name := "isGood", desc := "(LQuorumChain$Message;)Z" } : Jvm.MethodName) prog_6_method_5_code (9 : Nat) (Option.some Jvm.ClassFile.FieldType.boolean)) ∈ GG := GG_in (i := 676) (by decide +kernel) (by decide +kernel)
theorem gw_677 : (Jvm.Cond.methodLink "QuorumChain$KeyTree" (76 : Nat) ({ cls := "QuorumChain$KeyTree", name := "top", desc := "()J" } : Jvm.MethodName)) ∈ GG := GG_in (i := 677) (by decide +kernel) (by decide +kernel)
theorem gw_680 : (Jvm.Cond.instanceMethod ({ cls := "QuorumChain", name := "receiveProposal", desc := "(LQuorumChain$Node;II)V" } : Jvm.MethodName)) ∈ GG := GG_in (i := 680) (by decide +kernel) (by decide +kernel)
theorem gw_681 : (Jvm.Cond.code ({ cls := "QuorumChain", name := "receiveProposal", desc := "(LQuorumChain$Node;II)V" } : Jvm.MethodName) prog_1_method_26_code (5 : Nat) (Option.none : Option Jvm.ClassFile.FieldType)) ∈ GG := GG_in (i := 681) (by decide +kernel) (by decide +kernel)
theorem gw_682 : (Jvm.Cond.methodLink "QuorumChain" (309 : Nat) ({ cls := "QuorumChain", name := "sendUnsigned", desc := "(LQuorumChain$Node;III)V" } : Jvm.MethodName)) ∈ GG := GG_in (i := 682) (by decide +kernel) (by decide +kernel)
theorem gw_684 : (Jvm.Cond.instanceMethod ({ cls := "QuorumChain", name := "sendUnsigned", desc := "(LQuorumChain$Node;III)V" } : Jvm.MethodName)) ∈ GG := GG_in (i := 684) (by decide +kernel) (by decide +kernel)
theorem gw_685 : (Jvm.Cond.code ({ cls := "QuorumChain", name := "sendUnsigned", desc := "(LQuorumChain$Node;III)V" } : Jvm.MethodName) prog_1_method_39_code (5 : Nat) (Option.none : Option Jvm.ClassFile.FieldType)) ∈ GG := GG_in (i := 685) (by decide +kernel) (by decide +kernel)
theorem gw_686 : (Jvm.Cond.methodLink "QuorumChain" (312 : Nat) ({ cls := "QuorumChain", name := "takeAsCertified", desc := "(LQuorumChain$Node;I)V" } : Jvm.MethodName)) ∈ GG := GG_in (i := 686) (by decide +kernel) (by decide +kernel)
theorem gw_688 : (Jvm.Cond.instanceMethod ({ cls := "QuorumChain", name := "takeAsCertified", desc := "(LQuorumChain$Node;I)V" } : Jvm.MethodName)) ∈ GG := GG_in (i := 688) (by decide +kernel) (by decide +kernel)
theorem gw_689 : (Jvm.Cond.code ({ cls := "QuorumChain", name := "takeAsCertified", desc := "(LQuorumChain$Node;I)V" } : Jvm.MethodName) prog_1_method_27_code (5 : Nat) (Option.none : Option Jvm.ClassFile.FieldType)) ∈ GG := GG_in (i := 689) (by decide +kernel) (by decide +kernel)
theorem gw_690 : (Jvm.Cond.methodLink "QuorumChain" (323 : Nat) ({ cls := "QuorumChain", name := "raiseHigh", desc := "(LQuorumChain$Node;I)V" } : Jvm.MethodName)) ∈ GG := GG_in (i := 690) (by decide +kernel) (by decide +kernel)
theorem gw_692 : (Jvm.Cond.instanceMethod ({ cls := "QuorumChain", name := "raiseHigh", desc := "(LQuorumChain$Node;I)V" } : Jvm.MethodName)) ∈ GG := GG_in (i := 692) (by decide +kernel) (by decide +kernel)
theorem gw_693 : (Jvm.Cond.code ({ cls := "QuorumChain", name := "raiseHigh", desc := "(LQuorumChain$Node;I)V" } : Jvm.MethodName) prog_1_method_28_code (3 : Nat) (Option.none : Option Jvm.ClassFile.FieldType)) ∈ GG := GG_in (i := 693) (by decide +kernel) (by decide +kernel)
theorem gw_694 : (Jvm.Cond.methodLink "QuorumChain" (302 : Nat) ({ cls := "QuorumChain$Blocks", name := "isAbove", desc := "(II)Z" } : Jvm.MethodName)) ∈ GG := GG_in (i := 694) (by decide +kernel) (by decide +kernel)
theorem gw_695 : (Jvm.Cond.instanceMethod ({ cls := "QuorumChain$Blocks", name := "isAbove", desc := "(II)Z" } : Jvm.MethodName)) ∈ GG := GG_in (i := 695) (by decide +kernel) (by decide +kernel)
theorem gw_696 : (Jvm.Cond.selects "QuorumChain$Blocks" ({ cls := "QuorumChain$Blocks", name := "isAbove", desc := "(II)Z" } : Jvm.MethodName) ({ cls := "QuorumChain$Blocks", name := "isAbove", desc := "(II)Z" } : Jvm.MethodName)) ∈ GG := GG_in (i := 696) (by decide +kernel) (by decide +kernel)
theorem gw_697 : (Jvm.Cond.code ({ cls := "QuorumChain$Blocks", name := "isAbove", desc := "(II)Z" } : Jvm.MethodName) prog_3_method_9_code (3 : Nat) (Option.some Jvm.ClassFile.FieldType.boolean)) ∈ GG := GG_in (i := 697) (by decide +kernel) (by decide +kernel)
theorem gw_698 : (Jvm.Cond.methodLink "QuorumChain$Blocks" (33 : Nat) ({ cls := "QuorumChain$Blocks", name := "viewOf", desc := "(I)I" } : Jvm.MethodName)) ∈ GG := GG_in (i := 698) (by decide +kernel) (by decide +kernel)
theorem gw_699 : (Jvm.Cond.methodLink "QuorumChain" (326 : Nat) ({ cls := "QuorumChain$Blocks", name := "isNextView", desc := "(II)Z" } : Jvm.MethodName)) ∈ GG := GG_in (i := 699) (by decide +kernel) (by decide +kernel)
theorem gw_700 : (Jvm.Cond.instanceMethod ({ cls := "QuorumChain$Blocks", name := "isNextView", desc := "(II)Z" } : Jvm.MethodName)) ∈ GG := GG_in (i := 700) (by decide +kernel) (by decide +kernel)
theorem gw_701 : (Jvm.Cond.selects "QuorumChain$Blocks" ({ cls := "QuorumChain$Blocks", name := "isNextView", desc := "(II)Z" } : Jvm.MethodName) ({ cls := "QuorumChain$Blocks", name := "isNextView", desc := "(II)Z" } : Jvm.MethodName)) ∈ GG := GG_in (i := 701) (by decide +kernel) (by decide +kernel)
theorem gw_702 : (Jvm.Cond.code ({ cls := "QuorumChain$Blocks", name := "isNextView", desc := "(II)Z" } : Jvm.MethodName) prog_3_method_10_code (3 : Nat) (Option.some Jvm.ClassFile.FieldType.boolean)) ∈ GG := GG_in (i := 702) (by decide +kernel) (by decide +kernel)
theorem gw_703 : (Jvm.Cond.methodLink "QuorumChain" (329 : Nat) ({ cls := "QuorumChain", name := "commitUpTo", desc := "(LQuorumChain$Store;I)V" } : Jvm.MethodName)) ∈ GG := GG_in (i := 703) (by decide +kernel) (by decide +kernel)
theorem gw_705 : (Jvm.Cond.instanceMethod ({ cls := "QuorumChain", name := "commitUpTo", desc := "(LQuorumChain$Store;I)V" } : Jvm.MethodName)) ∈ GG := GG_in (i := 705) (by decide +kernel) (by decide +kernel)
theorem gw_706 : (Jvm.Cond.code ({ cls := "QuorumChain", name := "commitUpTo", desc := "(LQuorumChain$Store;I)V" } : Jvm.MethodName) prog_1_method_38_code (7 : Nat) (Option.none : Option Jvm.ClassFile.FieldType)) ∈ GG := GG_in (i := 706) (by decide +kernel) (by decide +kernel)
theorem gw_707 : (Jvm.Cond.methodLink "QuorumChain" (379 : Nat) ({ cls := "QuorumChain$Store", name := "lastLogged", desc := "()I" } : Jvm.MethodName)) ∈ GG := GG_in (i := 707) (by decide +kernel) (by decide +kernel)
theorem gw_708 : (Jvm.Cond.instanceMethod ({ cls := "QuorumChain$Store", name := "lastLogged", desc := "()I" } : Jvm.MethodName)) ∈ GG := GG_in (i := 708) (by decide +kernel) (by decide +kernel)
theorem gw_709 : (Jvm.Cond.selects "QuorumChain$Store" ({ cls := "QuorumChain$Store", name := "lastLogged", desc := "()I" } : Jvm.MethodName) ({ cls := "QuorumChain$Store", name := "lastLogged", desc := "()I" } : Jvm.MethodName)) ∈ GG := GG_in (i := 709) (by decide +kernel) (by decide +kernel)
theorem gw_710 : (Jvm.Cond.code ({ cls := "QuorumChain$Store", name := "lastLogged", desc := "()I" } : Jvm.MethodName) prog_9_method_5_code (1 : Nat) (Option.some Jvm.ClassFile.FieldType.int)) ∈ GG := GG_in (i := 710) (by decide +kernel) (by decide +kernel)
theorem gw_711 : (Jvm.Cond.methodLink "QuorumChain$Store" (42 : Nat) ({ cls := "QuorumChain$Store", name := "logged", desc := "(I)I" } : Jvm.MethodName)) ∈ GG := GG_in (i := 711) (by decide +kernel) (by decide +kernel)
theorem gw_712 : (Jvm.Cond.methodLink "QuorumChain" (383 : Nat) ({ cls := "QuorumChain$Blocks", name := "stepsDown", desc := "(II)I" } : Jvm.MethodName)) ∈ GG := GG_in (i := 712) (by decide +kernel) (by decide +kernel)
theorem gw_713 : (Jvm.Cond.instanceMethod ({ cls := "QuorumChain$Blocks", name := "stepsDown", desc := "(II)I" } : Jvm.MethodName)) ∈ GG := GG_in (i := 713) (by decide +kernel) (by decide +kernel)
theorem gw_714 : (Jvm.Cond.selects "QuorumChain$Blocks" ({ cls := "QuorumChain$Blocks", name := "stepsDown", desc := "(II)I" } : Jvm.MethodName) ({ cls := "QuorumChain$Blocks", name := "stepsDown", desc := "(II)I" } : Jvm.MethodName)) ∈ GG := GG_in (i := 714) (by decide +kernel) (by decide +kernel)
theorem gw_715 : (Jvm.Cond.code ({ cls := "QuorumChain$Blocks", name := "stepsDown", desc := "(II)I" } : Jvm.MethodName) prog_3_method_12_code (5 : Nat) (Option.some Jvm.ClassFile.FieldType.int)) ∈ GG := GG_in (i := 715) (by decide +kernel) (by decide +kernel)
theorem gw_716 : (Jvm.Cond.methodLink "QuorumChain" (389 : Nat) ({ cls := "QuorumChain$Transactions", name := "carryOut", desc := "(ILQuorumChain$Accounts;)V" } : Jvm.MethodName)) ∈ GG := GG_in (i := 716) (by decide +kernel) (by decide +kernel)
theorem gw_717 : (Jvm.Cond.instanceMethod ({ cls := "QuorumChain$Transactions", name := "carryOut", desc := "(ILQuorumChain$Accounts;)V" } : Jvm.MethodName)) ∈ GG := GG_in (i := 717) (by decide +kernel) (by decide +kernel)
theorem gw_718 : (Jvm.Cond.selects "QuorumChain$Transactions" ({ cls := "QuorumChain$Transactions", name := "carryOut", desc := "(ILQuorumChain$Accounts;)V" } : Jvm.MethodName) ({ cls := "QuorumChain$Transactions", name := "carryOut", desc := "(ILQuorumChain$Accounts;)V" } : Jvm.MethodName)) ∈ GG := GG_in (i := 718) (by decide +kernel) (by decide +kernel)
theorem gw_719 : (Jvm.Cond.code ({ cls := "QuorumChain$Transactions", name := "carryOut", desc := "(ILQuorumChain$Accounts;)V" } : Jvm.MethodName) prog_11_method_4_code (3 : Nat) (Option.none : Option Jvm.ClassFile.FieldType)) ∈ GG := GG_in (i := 719) (by decide +kernel) (by decide +kernel)
theorem gw_720 : (Jvm.Cond.methodLink "QuorumChain$Transactions" (28 : Nat) ({ cls := "QuorumChain$Transactions", name := "exists", desc := "(I)Z" } : Jvm.MethodName)) ∈ GG := GG_in (i := 720) (by decide +kernel) (by decide +kernel)
theorem gw_721 : (Jvm.Cond.methodLink "QuorumChain$Transactions" (32 : Nat) ({ cls := "QuorumChain$Accounts", name := "move", desc := "(IIII)V" } : Jvm.MethodName)) ∈ GG := GG_in (i := 721) (by decide +kernel) (by decide +kernel)
theorem gw_722 : (Jvm.Cond.instanceMethod ({ cls := "QuorumChain$Accounts", name := "move", desc := "(IIII)V" } : Jvm.MethodName)) ∈ GG := GG_in (i := 722) (by decide +kernel) (by decide +kernel)
theorem gw_723 : (Jvm.Cond.selects "QuorumChain$Accounts" ({ cls := "QuorumChain$Accounts", name := "move", desc := "(IIII)V" } : Jvm.MethodName) ({ cls := "QuorumChain$Accounts", name := "move", desc := "(IIII)V" } : Jvm.MethodName)) ∈ GG := GG_in (i := 723) (by decide +kernel) (by decide +kernel)
theorem gw_724 : (Jvm.Cond.code ({ cls := "QuorumChain$Accounts", name := "move", desc := "(IIII)V" } : Jvm.MethodName) prog_2_method_2_code (5 : Nat) (Option.none : Option Jvm.ClassFile.FieldType)) ∈ GG := GG_in (i := 724) (by decide +kernel) (by decide +kernel)
theorem gw_726 : (Jvm.Cond.methodLink "QuorumChain" (316 : Nat) ({ cls := "QuorumChain", name := "mayVoteFor", desc := "(LQuorumChain$Node;II)Z" } : Jvm.MethodName)) ∈ GG := GG_in (i := 726) (by decide +kernel) (by decide +kernel)
theorem gw_728 : (Jvm.Cond.instanceMethod ({ cls := "QuorumChain", name := "mayVoteFor", desc := "(LQuorumChain$Node;II)Z" } : Jvm.MethodName)) ∈ GG := GG_in (i := 728) (by decide +kernel) (by decide +kernel)
theorem gw_729 : (Jvm.Cond.code ({ cls := "QuorumChain", name := "mayVoteFor", desc := "(LQuorumChain$Node;II)Z" } : Jvm.MethodName) prog_1_method_29_code (6 : Nat) (Option.some Jvm.ClassFile.FieldType.boolean)) ∈ GG := GG_in (i := 729) (by decide +kernel) (by decide +kernel)
theorem gw_730 : (Jvm.Cond.methodLink "QuorumChain" (333 : Nat) ({ cls := "QuorumChain$Blocks", name := "isBelow", desc := "(II)Z" } : Jvm.MethodName)) ∈ GG := GG_in (i := 730) (by decide +kernel) (by decide +kernel)
theorem gw_731 : (Jvm.Cond.instanceMethod ({ cls := "QuorumChain$Blocks", name := "isBelow", desc := "(II)Z" } : Jvm.MethodName)) ∈ GG := GG_in (i := 731) (by decide +kernel) (by decide +kernel)
theorem gw_732 : (Jvm.Cond.selects "QuorumChain$Blocks" ({ cls := "QuorumChain$Blocks", name := "isBelow", desc := "(II)Z" } : Jvm.MethodName) ({ cls := "QuorumChain$Blocks", name := "isBelow", desc := "(II)Z" } : Jvm.MethodName)) ∈ GG := GG_in (i := 732) (by decide +kernel) (by decide +kernel)
theorem gw_733 : (Jvm.Cond.code ({ cls := "QuorumChain$Blocks", name := "isBelow", desc := "(II)Z" } : Jvm.MethodName) prog_3_method_11_code (3 : Nat) (Option.some Jvm.ClassFile.FieldType.boolean)) ∈ GG := GG_in (i := 733) (by decide +kernel) (by decide +kernel)
theorem gw_734 : (Jvm.Cond.methodLink "QuorumChain$Blocks" (37 : Nat) ({ cls := "QuorumChain$Blocks", name := "stepsDown", desc := "(II)I" } : Jvm.MethodName)) ∈ GG := GG_in (i := 734) (by decide +kernel) (by decide +kernel)
theorem gw_735 : (Jvm.Cond.methodLink "QuorumChain" (320 : Nat) ({ cls := "QuorumChain", name := "voteFor", desc := "(LQuorumChain$Node;II)V" } : Jvm.MethodName)) ∈ GG := GG_in (i := 735) (by decide +kernel) (by decide +kernel)
theorem gw_737 : (Jvm.Cond.instanceMethod ({ cls := "QuorumChain", name := "voteFor", desc := "(LQuorumChain$Node;II)V" } : Jvm.MethodName)) ∈ GG := GG_in (i := 737) (by decide +kernel) (by decide +kernel)
theorem gw_738 : (Jvm.Cond.code ({ cls := "QuorumChain", name := "voteFor", desc := "(LQuorumChain$Node;II)V" } : Jvm.MethodName) prog_1_method_30_code (6 : Nat) (Option.none : Option Jvm.ClassFile.FieldType)) ∈ GG := GG_in (i := 738) (by decide +kernel) (by decide +kernel)
theorem gw_739 : (Jvm.Cond.methodLink "QuorumChain" (336 : Nat) ({ cls := "QuorumChain$Node", name := "enter", desc := "(I)V" } : Jvm.MethodName)) ∈ GG := GG_in (i := 739) (by decide +kernel) (by decide +kernel)
theorem gw_740 : (Jvm.Cond.instanceMethod ({ cls := "QuorumChain$Node", name := "enter", desc := "(I)V" } : Jvm.MethodName)) ∈ GG := GG_in (i := 740) (by decide +kernel) (by decide +kernel)
theorem gw_741 : (Jvm.Cond.selects "QuorumChain$Node" ({ cls := "QuorumChain$Node", name := "enter", desc := "(I)V" } : Jvm.MethodName) ({ cls := "QuorumChain$Node", name := "enter", desc := "(I)V" } : Jvm.MethodName)) ∈ GG := GG_in (i := 741) (by decide +kernel) (by decide +kernel)
theorem gw_742 : (Jvm.Cond.code ({ cls := "QuorumChain$Node", name := "enter", desc := "(I)V" } : Jvm.MethodName) prog_8_method_3_code (2 : Nat) (Option.none : Option Jvm.ClassFile.FieldType)) ∈ GG := GG_in (i := 742) (by decide +kernel) (by decide +kernel)
theorem gw_745 : (Jvm.Cond.instanceMethod ({ cls := "QuorumChain", name := "receiveVote", desc := "(LQuorumChain$Node;II)V" } : Jvm.MethodName)) ∈ GG := GG_in (i := 745) (by decide +kernel) (by decide +kernel)
theorem gw_746 : (Jvm.Cond.code ({ cls := "QuorumChain", name := "receiveVote", desc := "(LQuorumChain$Node;II)V" } : Jvm.MethodName) prog_1_method_31_code (5 : Nat) (Option.none : Option Jvm.ClassFile.FieldType)) ∈ GG := GG_in (i := 746) (by decide +kernel) (by decide +kernel)
theorem gw_747 : (Jvm.Cond.methodLink "QuorumChain" (346 : Nat) ({ cls := "QuorumChain$Tally", name := "keep", desc := "(II)I" } : Jvm.MethodName)) ∈ GG := GG_in (i := 747) (by decide +kernel) (by decide +kernel)
theorem gw_748 : (Jvm.Cond.instanceMethod ({ cls := "QuorumChain$Tally", name := "keep", desc := "(II)I" } : Jvm.MethodName)) ∈ GG := GG_in (i := 748) (by decide +kernel) (by decide +kernel)
theorem gw_749 : (Jvm.Cond.selects "QuorumChain$Tally" ({ cls := "QuorumChain$Tally", name := "keep", desc := "(II)I" } : Jvm.MethodName) ({ cls := "QuorumChain$Tally", name := "keep", desc := "(II)I" } : Jvm.MethodName)) ∈ GG := GG_in (i := 749) (by decide +kernel) (by decide +kernel)
theorem gw_750 : (Jvm.Cond.code ({ cls := "QuorumChain$Tally", name := "keep", desc := "(II)I" } : Jvm.MethodName) prog_10_method_2_code (4 : Nat) (Option.some Jvm.ClassFile.FieldType.int)) ∈ GG := GG_in (i := 750) (by decide +kernel) (by decide +kernel)
theorem gw_751 : (Jvm.Cond.methodLink "QuorumChain$Tally" (13 : Nat) ({ cls := "java/lang/Integer", name := "bitCount", desc := "(I)I" } : Jvm.MethodName)) ∈ GG := GG_in (i := 751) (by decide +kernel) (by decide +kernel)
theorem gw_752 : (Jvm.Cond.static ({ cls := "java/lang/Integer", name := "bitCount", desc := "(I)I" } : Jvm.MethodName)) ∈ GG := GG_in (i := 752) (by decide +kernel) (by decide +kernel)
theorem gw_753 : (Jvm.Cond.code ({ cls := "java/lang/Integer", name := "bitCount", desc := "(I)I" } : Jvm.MethodName) prog_17_method_49_code (1 : Nat) (Option.some Jvm.ClassFile.FieldType.int)) ∈ GG := GG_in (i := 753) (by decide +kernel) (by decide +kernel)
theorem gw_754 : (Jvm.Cond.constant "java/lang/Integer" (265 : Nat) (1431655765 : Int32)) ∈ GG := GG_in (i := 754) (by decide +kernel) (by decide +kernel)
theorem gw_755 : (Jvm.Cond.constant "java/lang/Integer" (266 : Nat) (858993459 : Int32)) ∈ GG := GG_in (i := 755) (by decide +kernel) (by decide +kernel)
theorem gw_756 : (Jvm.Cond.constant "java/lang/Integer" (267 : Nat) (252645135 : Int32)) ∈ GG := GG_in (i := 756) (by decide +kernel) (by decide +kernel)
theorem gw_757 : (Jvm.Cond.methodLink "QuorumChain" (352 : Nat) ({ cls := "QuorumChain$Blocks", name := "certify", desc := "(I)V" } : Jvm.MethodName)) ∈ GG := GG_in (i := 757) (by decide +kernel) (by decide +kernel)
theorem gw_758 : (Jvm.Cond.instanceMethod ({ cls := "QuorumChain$Blocks", name := "certify", desc := "(I)V" } : Jvm.MethodName)) ∈ GG := GG_in (i := 758) (by decide +kernel) (by decide +kernel)
theorem gw_759 : (Jvm.Cond.selects "QuorumChain$Blocks" ({ cls := "QuorumChain$Blocks", name := "certify", desc := "(I)V" } : Jvm.MethodName) ({ cls := "QuorumChain$Blocks", name := "certify", desc := "(I)V" } : Jvm.MethodName)) ∈ GG := GG_in (i := 759) (by decide +kernel) (by decide +kernel)
theorem gw_760 : (Jvm.Cond.code ({ cls := "QuorumChain$Blocks", name := "certify", desc := "(I)V" } : Jvm.MethodName) prog_3_method_8_code (2 : Nat) (Option.none : Option Jvm.ClassFile.FieldType)) ∈ GG := GG_in (i := 760) (by decide +kernel) (by decide +kernel)
theorem gw_763 : (Jvm.Cond.instanceMethod ({ cls := "QuorumChain", name := "receiveTimeout", desc := "(LQuorumChain$Node;III)V" } : Jvm.MethodName)) ∈ GG := GG_in (i := 763) (by decide +kernel) (by decide +kernel)
theorem gw_764 : (Jvm.Cond.code ({ cls := "QuorumChain", name := "receiveTimeout", desc := "(LQuorumChain$Node;III)V" } : Jvm.MethodName) prog_1_method_32_code (5 : Nat) (Option.none : Option Jvm.ClassFile.FieldType)) ∈ GG := GG_in (i := 764) (by decide +kernel) (by decide +kernel)
theorem gw_767 : (Jvm.Cond.instanceMethod ({ cls := "QuorumChain", name := "receiveAsk", desc := "(LQuorumChain$Node;II)V" } : Jvm.MethodName)) ∈ GG := GG_in (i := 767) (by decide +kernel) (by decide +kernel)
theorem gw_768 : (Jvm.Cond.code ({ cls := "QuorumChain", name := "receiveAsk", desc := "(LQuorumChain$Node;II)V" } : Jvm.MethodName) prog_1_method_33_code (4 : Nat) (Option.none : Option Jvm.ClassFile.FieldType)) ∈ GG := GG_in (i := 768) (by decide +kernel) (by decide +kernel)
theorem gw_771 : (Jvm.Cond.instanceMethod ({ cls := "QuorumChain", name := "receiveBlock", desc := "(LQuorumChain$Node;II)V" } : Jvm.MethodName)) ∈ GG := GG_in (i := 771) (by decide +kernel) (by decide +kernel)
theorem gw_772 : (Jvm.Cond.code ({ cls := "QuorumChain", name := "receiveBlock", desc := "(LQuorumChain$Node;II)V" } : Jvm.MethodName) prog_1_method_34_code (5 : Nat) (Option.none : Option Jvm.ClassFile.FieldType)) ∈ GG := GG_in (i := 772) (by decide +kernel) (by decide +kernel)
theorem gw_821 : (Jvm.Cond.instanceMethod ({ cls := "QuorumChain$Node", name := "fall", desc := "()V" } : Jvm.MethodName)) ∈ GG := GG_in (i := 821) (by decide +kernel) (by decide +kernel)
theorem gw_822 : (Jvm.Cond.selects "QuorumChain$Node" ({ cls := "QuorumChain$Node", name := "fall", desc := "()V" } : Jvm.MethodName) ({ cls := "QuorumChain$Node", name := "fall", desc := "()V" } : Jvm.MethodName)) ∈ GG := GG_in (i := 822) (by decide +kernel) (by decide +kernel)
theorem gw_823 : (Jvm.Cond.code ({ cls := "QuorumChain$Node", name := "fall", desc := "()V" } : Jvm.MethodName) prog_8_method_4_code (1 : Nat) (Option.none : Option Jvm.ClassFile.FieldType)) ∈ GG := GG_in (i := 823) (by decide +kernel) (by decide +kernel)
theorem gw_824 : (Jvm.Cond.methodLink "QuorumChain$Node" (66 : Nat) ({ cls := "QuorumChain$Tally", name := "empty", desc := "()V" } : Jvm.MethodName)) ∈ GG := GG_in (i := 824) (by decide +kernel) (by decide +kernel)
theorem gw_825 : (Jvm.Cond.instanceMethod ({ cls := "QuorumChain$Tally", name := "empty", desc := "()V" } : Jvm.MethodName)) ∈ GG := GG_in (i := 825) (by decide +kernel) (by decide +kernel)
theorem gw_826 : (Jvm.Cond.selects "QuorumChain$Tally" ({ cls := "QuorumChain$Tally", name := "empty", desc := "()V" } : Jvm.MethodName) ({ cls := "QuorumChain$Tally", name := "empty", desc := "()V" } : Jvm.MethodName)) ∈ GG := GG_in (i := 826) (by decide +kernel) (by decide +kernel)
theorem gw_827 : (Jvm.Cond.code ({ cls := "QuorumChain$Tally", name := "empty", desc := "()V" } : Jvm.MethodName) prog_10_method_3_code (2 : Nat) (Option.none : Option Jvm.ClassFile.FieldType)) ∈ GG := GG_in (i := 827) (by decide +kernel) (by decide +kernel)
theorem gw_838 : (Jvm.Cond.instanceMethod ({ cls := "QuorumChain", name := "highestParent", desc := "(LQuorumChain$Store;)I" } : Jvm.MethodName)) ∈ GG := GG_in (i := 838) (by decide +kernel) (by decide +kernel)
theorem gw_839 : (Jvm.Cond.code ({ cls := "QuorumChain", name := "highestParent", desc := "(LQuorumChain$Store;)I" } : Jvm.MethodName) prog_1_method_24_code (7 : Nat) (Option.some Jvm.ClassFile.FieldType.int)) ∈ GG := GG_in (i := 839) (by decide +kernel) (by decide +kernel)
theorem gw_841 : (Jvm.Cond.instanceMethod ({ cls := "QuorumChain$Node", name := "rise", desc := "(I)V" } : Jvm.MethodName)) ∈ GG := GG_in (i := 841) (by decide +kernel) (by decide +kernel)
theorem gw_842 : (Jvm.Cond.selects "QuorumChain$Node" ({ cls := "QuorumChain$Node", name := "rise", desc := "(I)V" } : Jvm.MethodName) ({ cls := "QuorumChain$Node", name := "rise", desc := "(I)V" } : Jvm.MethodName)) ∈ GG := GG_in (i := 842) (by decide +kernel) (by decide +kernel)
theorem gw_843 : (Jvm.Cond.code ({ cls := "QuorumChain$Node", name := "rise", desc := "(I)V" } : Jvm.MethodName) prog_8_method_5_code (2 : Nat) (Option.none : Option Jvm.ClassFile.FieldType)) ∈ GG := GG_in (i := 843) (by decide +kernel) (by decide +kernel)
theorem gw_844 : (Jvm.Cond.methodLink "QuorumChain$Node" (75 : Nat) ({ cls := "java/lang/Math", name := "max", desc := "(II)I" } : Jvm.MethodName)) ∈ GG := GG_in (i := 844) (by decide +kernel) (by decide +kernel)
theorem gw_845 : (Jvm.Cond.methodLink "QuorumChain$Node" (81 : Nat) ({ cls := "QuorumChain$Node", name := "enter", desc := "(I)V" } : Jvm.MethodName)) ∈ GG := GG_in (i := 845) (by decide +kernel) (by decide +kernel)
theorem in_QC : ∀ w ∈ u_ws R_QC F_QC 7, w ∈ GG := List.forall_mem_cons.mpr ⟨gw_351, List.forall_mem_cons.mpr ⟨gw_353, List.forall_mem_cons.mpr ⟨gw_355, List.forall_mem_cons.mpr ⟨gw_357, List.forall_mem_cons.mpr ⟨gw_359, List.forall_mem_cons.mpr ⟨gw_361, List.forall_mem_cons.mpr ⟨gw_363, fun _ h => absurd h List.not_mem_nil⟩⟩⟩⟩⟩⟩⟩
theorem in_Node : ∀ w ∈ u_ws R_Node F_Node 12, w ∈ GG := List.forall_mem_cons.mpr ⟨gw_319, List.forall_mem_cons.mpr ⟨gw_321, List.forall_mem_cons.mpr ⟨gw_323, List.forall_mem_cons.mpr ⟨gw_325, List.forall_mem_cons.mpr ⟨gw_327, List.forall_mem_cons.mpr ⟨gw_329, List.forall_mem_cons.mpr ⟨gw_331, List.forall_mem_cons.mpr ⟨gw_333, List.forall_mem_cons.mpr ⟨gw_335, List.forall_mem_cons.mpr ⟨gw_337, List.forall_mem_cons.mpr ⟨gw_339, List.forall_mem_cons.mpr ⟨gw_341, fun _ h => absurd h List.not_mem_nil⟩⟩⟩⟩⟩⟩⟩⟩⟩⟩⟩⟩
theorem in_Store : ∀ w ∈ u_ws R_Store F_Store 8, w ∈ GG := List.forall_mem_cons.mpr ⟨gw_278, List.forall_mem_cons.mpr ⟨gw_280, List.forall_mem_cons.mpr ⟨gw_282, List.forall_mem_cons.mpr ⟨gw_284, List.forall_mem_cons.mpr ⟨gw_286, List.forall_mem_cons.mpr ⟨gw_288, List.forall_mem_cons.mpr ⟨gw_290, List.forall_mem_cons.mpr ⟨gw_292, fun _ h => absurd h List.not_mem_nil⟩⟩⟩⟩⟩⟩⟩⟩
theorem in_Accounts : ∀ w ∈ u_ws R_Accounts F_Accounts 2, w ∈ GG := List.forall_mem_cons.mpr ⟨gw_214, List.forall_mem_cons.mpr ⟨gw_216, fun _ h => absurd h List.not_mem_nil⟩⟩
theorem in_KeyTree : ∀ w ∈ u_ws R_KeyTree F_KeyTree 4, w ∈ GG := List.forall_mem_cons.mpr ⟨gw_255, List.forall_mem_cons.mpr ⟨gw_257, List.forall_mem_cons.mpr ⟨gw_259, List.forall_mem_cons.mpr ⟨gw_261, fun _ h => absurd h List.not_mem_nil⟩⟩⟩⟩
theorem in_Inbox : ∀ w ∈ u_ws R_Inbox F_Inbox 2, w ∈ GG := List.forall_mem_cons.mpr ⟨gw_183, List.forall_mem_cons.mpr ⟨gw_185, fun _ h => absurd h List.not_mem_nil⟩⟩
theorem in_Message : ∀ w ∈ u_ws R_Message F_Message 6, w ∈ GG := List.forall_mem_cons.mpr ⟨gw_150, List.forall_mem_cons.mpr ⟨gw_152, List.forall_mem_cons.mpr ⟨gw_154, List.forall_mem_cons.mpr ⟨gw_156, List.forall_mem_cons.mpr ⟨gw_158, List.forall_mem_cons.mpr ⟨gw_160, fun _ h => absurd h List.not_mem_nil⟩⟩⟩⟩⟩⟩
theorem in_Tally : ∀ w ∈ u_ws R_Tally F_Tally 1, w ∈ GG := List.forall_mem_cons.mpr ⟨gw_195, fun _ h => absurd h List.not_mem_nil⟩
theorem in_Blocks : ∀ w ∈ u_ws R_Blocks F_Blocks 5, w ∈ GG := List.forall_mem_cons.mpr ⟨gw_94, List.forall_mem_cons.mpr ⟨gw_96, List.forall_mem_cons.mpr ⟨gw_98, List.forall_mem_cons.mpr ⟨gw_100, List.forall_mem_cons.mpr ⟨gw_102, fun _ h => absurd h List.not_mem_nil⟩⟩⟩⟩⟩
theorem in_Transactions : ∀ w ∈ u_ws R_Transactions F_Transactions 5, w ∈ GG := List.forall_mem_cons.mpr ⟨gw_119, List.forall_mem_cons.mpr ⟨gw_121, List.forall_mem_cons.mpr ⟨gw_123, List.forall_mem_cons.mpr ⟨gw_125, List.forall_mem_cons.mpr ⟨gw_127, fun _ h => absurd h List.not_mem_nil⟩⟩⟩⟩⟩
theorem cd_Message_write : cdV GG y_Message_write b_Message_write 5 none 4 := ⟨gw_384, gw_382, gw_383, gw_55, by decide +kernel, GG_good⟩
theorem cd_KeyTree_isLeft : cdV GG y_KeyTree_isLeft b_KeyTree_isLeft 1 (some .boolean) 0 := ⟨gw_392, gw_390, gw_391, gw_61, by decide +kernel, GG_good⟩
theorem cd_Fold_absorb : cdS GG y_Fold_absorb b_Fold_absorb 6 (some .long) 2 := ⟨gw_234, gw_233, gw_62, by decide +kernel, GG_good⟩
theorem cd_Fold_finish : cdS GG y_Fold_finish b_Fold_finish 4 (some .long) 1 := ⟨gw_238, gw_237, gw_62, by decide +kernel, GG_good⟩
theorem cd_Message_meaning : cdV GG y_Message_meaning b_Message_meaning 3 (some .long) 0 := ⟨gw_396, gw_394, gw_395, gw_55, by decide +kernel, GG_good⟩
theorem cd_KeyTree_digit : cdS GG y_KeyTree_digit b_KeyTree_digit 2 (some .int) 2 := ⟨gw_406, gw_405, gw_61, by decide +kernel, GG_good⟩
theorem cd_KeyTree_digitsOf : cdS GG y_KeyTree_digitsOf b_KeyTree_digitsOf 5 (some .int) 1 := ⟨gw_402, gw_401, gw_61, by decide +kernel, GG_good⟩
theorem cd_KeyTree_secretOf : cdS GG y_KeyTree_secretOf b_KeyTree_secretOf 6 (some .long) 4 := ⟨gw_231, gw_230, gw_61, by decide +kernel, GG_good⟩
theorem cd_Fold_afterSteps : cdS GG y_Fold_afterSteps b_Fold_afterSteps 6 (some .long) 2 := ⟨gw_242, gw_241, gw_62, by decide +kernel, GG_good⟩
theorem cd_KeyTree_sign : cdV GG y_KeyTree_sign b_KeyTree_sign 5 (some .boolean) 1 := ⟨gw_388, gw_386, gw_387, gw_61, by decide +kernel, GG_good⟩
theorem cd_QC_writeSigned : cdV GG y_QC_writeSigned b_QC_writeSigned 5 (some .boolean) 4 := ⟨gw_380, gw_379, gw_1, gw_52, by decide +kernel, GG_good⟩
theorem cd_Message_copyFrom : cdV GG y_Message_copyFrom b_Message_copyFrom 2 none 1 := ⟨gw_418, gw_416, gw_417, gw_55, by decide +kernel, GG_good⟩
theorem cd_Inbox_add : cdV GG y_Inbox_add b_Inbox_add 2 none 1 := ⟨gw_414, gw_412, gw_413, gw_57, by decide +kernel, GG_good⟩
theorem cd_QC_sendDraftToAll : cdV GG y_QC_sendDraftToAll b_QC_sendDraftToAll 2 none 0 := ⟨gw_410, gw_409, gw_2, gw_52, by decide +kernel, GG_good⟩
theorem cd_QC_countDown : cdV GG y_QC_countDown b_QC_countDown 2 none 1 := ⟨gw_373, gw_372, gw_0, gw_52, by decide +kernel, GG_good⟩
theorem cd_QC_tick : cdV GG y_QC_tick b_QC_tick 2 (some .int) 0 := ⟨gw_369, gw_367, gw_368, gw_52, by decide +kernel, GG_good⟩
theorem cd_QC_isNode : cdS GG y_QC_isNode b_QC_isNode 1 (some .boolean) 1 := ⟨gw_432, gw_431, gw_52, by decide +kernel, GG_good⟩
theorem cd_QC_node : cdV GG y_QC_node b_QC_node 4 (some .int) 2 := ⟨gw_429, gw_427, gw_428, gw_52, by decide +kernel, GG_good⟩
theorem cd_Store_logged : cdV GG y_Store_logged b_Store_logged 2 (some .int) 1 := ⟨gw_440, gw_438, gw_439, gw_59, by decide +kernel, GG_good⟩
theorem cd_QC_log : cdV GG y_QC_log b_QC_log 3 (some .int) 2 := ⟨gw_436, gw_434, gw_435, gw_52, by decide +kernel, GG_good⟩
theorem cd_QC_isAccount : cdS GG y_QC_isAccount b_QC_isAccount 1 (some .boolean) 1 := ⟨gw_447, gw_446, gw_52, by decide +kernel, GG_good⟩
theorem cd_QC_account : cdV GG y_QC_account b_QC_account 5 (some .int) 3 := ⟨gw_444, gw_442, gw_443, gw_52, by decide +kernel, GG_good⟩
theorem cd_Blocks_exists : cdV GG y_Blocks_exists b_Blocks_exists 2 (some .boolean) 1 := ⟨gw_455, gw_453, gw_454, gw_53, by decide +kernel, GG_good⟩
theorem cd_Blocks_viewOf : cdV GG y_Blocks_viewOf b_Blocks_viewOf 2 (some .int) 1 := ⟨gw_459, gw_457, gw_458, gw_53, by decide +kernel, GG_good⟩
theorem cd_Blocks_parentOf : cdV GG y_Blocks_parentOf b_Blocks_parentOf 2 (some .int) 1 := ⟨gw_464, gw_462, gw_463, gw_53, by decide +kernel, GG_good⟩
theorem cd_Blocks_transactionOf : cdV GG y_Blocks_transactionOf b_Blocks_transactionOf 2 (some .int) 1 := ⟨gw_468, gw_466, gw_467, gw_53, by decide +kernel, GG_good⟩
theorem cd_Blocks_isCertified : cdV GG y_Blocks_isCertified b_Blocks_isCertified 2 (some .boolean) 1 := ⟨gw_472, gw_470, gw_471, gw_53, by decide +kernel, GG_good⟩
theorem cd_Store_hasBlock : cdV GG y_Store_hasBlock b_Store_hasBlock 2 (some .boolean) 1 := ⟨gw_480, gw_478, gw_479, gw_59, by decide +kernel, GG_good⟩
theorem cd_QC_nodesThatHave : cdV GG y_QC_nodesThatHave b_QC_nodesThatHave 4 (some .int) 1 := ⟨gw_476, gw_475, gw_3, gw_52, by decide +kernel, GG_good⟩
theorem cd_QC_block : cdV GG y_QC_block b_QC_block 3 (some .int) 2 := ⟨gw_451, gw_449, gw_450, gw_52, by decide +kernel, GG_good⟩
theorem cd_QC_message : cdV GG y_QC_message b_QC_message 5 (some .int) 3 := ⟨gw_484, gw_482, gw_483, gw_52, by decide +kernel, GG_good⟩
theorem cd_KeyTree_top : cdV GG y_KeyTree_top b_KeyTree_top 1 (some .long) 0 := ⟨gw_492, gw_490, gw_491, gw_61, by decide +kernel, GG_good⟩
theorem cd_QC_root : cdV GG y_QC_root b_QC_root 2 (some .long) 1 := ⟨gw_488, gw_486, gw_487, gw_52, by decide +kernel, GG_good⟩
theorem cd_QC_about : cdV GG y_QC_about b_QC_about 2 (some .int) 1 := ⟨gw_496, gw_494, gw_495, gw_52, by decide +kernel, GG_good⟩
theorem cd_QC_leaderOf : cdS GG y_QC_leaderOf b_QC_leaderOf 1 (some .int) 1 := ⟨gw_672, gw_671, gw_52, by decide +kernel, GG_good⟩
theorem cd_Blocks_isAbove : cdV GG y_Blocks_isAbove b_Blocks_isAbove 3 (some .boolean) 2 := ⟨gw_697, gw_695, gw_696, gw_53, by decide +kernel, GG_good⟩
theorem cd_QC_highestParent : cdV GG y_QC_highestParent b_QC_highestParent 7 (some .int) 1 := ⟨gw_839, gw_838, gw_19, gw_52, by decide +kernel, GG_good⟩
theorem cd_Fold_pair : cdS GG y_Fold_pair b_Fold_pair 4 (some .long) 2 := ⟨gw_249, gw_248, gw_62, by decide +kernel, GG_good⟩
theorem cd_KeyTree_isGood : cdV GG y_KeyTree_isGood b_KeyTree_isGood 9 (some .boolean) 1 := ⟨gw_676, gw_674, gw_675, gw_61, by decide +kernel, GG_good⟩
theorem cd_QC_isHeard : cdV GG y_QC_isHeard b_QC_isHeard 2 (some .boolean) 1 := ⟨gw_669, gw_668, gw_7, gw_52, by decide +kernel, GG_good⟩
theorem cd_QC_sendUnsigned : cdV GG y_QC_sendUnsigned b_QC_sendUnsigned 5 none 4 := ⟨gw_685, gw_684, gw_9, gw_52, by decide +kernel, GG_good⟩
theorem cd_Store_keepBlock : cdV GG y_Store_keepBlock b_Store_keepBlock 2 none 1 := ⟨gw_643, gw_641, gw_642, gw_59, by decide +kernel, GG_good⟩
theorem cd_QC_raiseHigh : cdV GG y_QC_raiseHigh b_QC_raiseHigh 3 none 2 := ⟨gw_693, gw_692, gw_11, gw_52, by decide +kernel, GG_good⟩
theorem cd_Blocks_isNextView : cdV GG y_Blocks_isNextView b_Blocks_isNextView 3 (some .boolean) 2 := ⟨gw_702, gw_700, gw_701, gw_53, by decide +kernel, GG_good⟩
theorem cd_Store_lastLogged : cdV GG y_Store_lastLogged b_Store_lastLogged 1 (some .int) 0 := ⟨gw_710, gw_708, gw_709, gw_59, by decide +kernel, GG_good⟩
theorem cd_Blocks_stepsDown : cdV GG y_Blocks_stepsDown b_Blocks_stepsDown 5 (some .int) 2 := ⟨gw_715, gw_713, gw_714, gw_53, by decide +kernel, GG_good⟩
theorem cd_Transactions_exists : cdV GG y_Transactions_exists b_Transactions_exists 2 (some .boolean) 1 := ⟨gw_607, gw_605, gw_606, gw_54, by decide +kernel, GG_good⟩
theorem cd_Accounts_move : cdV GG y_Accounts_move b_Accounts_move 5 none 4 := ⟨gw_724, gw_722, gw_723, gw_60, by decide +kernel, GG_good⟩
theorem cd_Transactions_carryOut : cdV GG y_Transactions_carryOut b_Transactions_carryOut 3 none 2 := ⟨gw_719, gw_717, gw_718, gw_54, by decide +kernel, GG_good⟩
theorem cd_QC_commitUpTo : cdV GG y_QC_commitUpTo b_QC_commitUpTo 7 none 2 := ⟨gw_706, gw_705, gw_12, gw_52, by decide +kernel, GG_good⟩
theorem cd_QC_takeAsCertified : cdV GG y_QC_takeAsCertified b_QC_takeAsCertified 5 none 2 := ⟨gw_689, gw_688, gw_10, gw_52, by decide +kernel, GG_good⟩
theorem cd_Blocks_isBelow : cdV GG y_Blocks_isBelow b_Blocks_isBelow 3 (some .boolean) 2 := ⟨gw_733, gw_731, gw_732, gw_53, by decide +kernel, GG_good⟩
theorem cd_QC_mayVoteFor : cdV GG y_QC_mayVoteFor b_QC_mayVoteFor 6 (some .boolean) 3 := ⟨gw_729, gw_728, gw_13, gw_52, by decide +kernel, GG_good⟩
theorem cd_Node_enter : cdV GG y_Node_enter b_Node_enter 2 none 1 := ⟨gw_742, gw_740, gw_741, gw_56, by decide +kernel, GG_good⟩
theorem cd_QC_voteFor : cdV GG y_QC_voteFor b_QC_voteFor 6 none 3 := ⟨gw_738, gw_737, gw_14, gw_52, by decide +kernel, GG_good⟩
theorem cd_QC_receiveProposal : cdV GG y_QC_receiveProposal b_QC_receiveProposal 5 none 3 := ⟨gw_681, gw_680, gw_8, gw_52, by decide +kernel, GG_good⟩
theorem cd_Integer_bitCount : cdS GG y_Integer_bitCount b_Integer_bitCount 1 (some .int) 1 := ⟨gw_753, gw_752, gw_70, by decide +kernel, GG_good⟩
theorem cd_Tally_keep : cdV GG y_Tally_keep b_Tally_keep 4 (some .int) 2 := ⟨gw_750, gw_748, gw_749, gw_58, by decide +kernel, GG_good⟩
theorem cd_Blocks_certify : cdV GG y_Blocks_certify b_Blocks_certify 2 none 1 := ⟨gw_760, gw_758, gw_759, gw_53, by decide +kernel, GG_good⟩
theorem cd_Blocks_isInChain : cdV GG y_Blocks_isInChain b_Blocks_isInChain 5 (some .boolean) 2 := ⟨gw_633, gw_631, gw_632, gw_53, by decide +kernel, GG_good⟩
theorem cd_QC_firstNewTransaction : cdV GG y_QC_firstNewTransaction b_QC_firstNewTransaction 3 (some .int) 1 := ⟨gw_629, gw_628, gw_6, gw_52, by decide +kernel, GG_good⟩
theorem cd_Blocks_add : cdV GG y_Blocks_add b_Blocks_add 4 (some .int) 3 := ⟨gw_639, gw_637, gw_638, gw_53, by decide +kernel, GG_good⟩
theorem cd_QC_propose : cdV GG y_QC_propose b_QC_propose 3 none 1 := ⟨gw_625, gw_624, gw_5, gw_52, by decide +kernel, GG_good⟩
theorem cd_QC_receiveVote : cdV GG y_QC_receiveVote b_QC_receiveVote 5 none 3 := ⟨gw_746, gw_745, gw_15, gw_52, by decide +kernel, GG_good⟩
theorem cd_QC_receiveTimeout : cdV GG y_QC_receiveTimeout b_QC_receiveTimeout 5 none 4 := ⟨gw_764, gw_763, gw_16, gw_52, by decide +kernel, GG_good⟩
theorem cd_QC_receiveAsk : cdV GG y_QC_receiveAsk b_QC_receiveAsk 4 none 3 := ⟨gw_768, gw_767, gw_17, gw_52, by decide +kernel, GG_good⟩
theorem cd_QC_receiveBlock : cdV GG y_QC_receiveBlock b_QC_receiveBlock 5 none 3 := ⟨gw_772, gw_771, gw_18, gw_52, by decide +kernel, GG_good⟩
theorem cd_Inbox_first : cdV GG y_Inbox_first b_Inbox_first 1 (some (.object "QuorumChain$Message")) 0 := ⟨gw_656, gw_654, gw_655, gw_57, by decide +kernel, GG_good⟩
theorem cd_Inbox_moveFirstBehind : cdV GG y_Inbox_moveFirstBehind b_Inbox_moveFirstBehind 3 none 0 := ⟨gw_665, gw_663, gw_664, gw_57, by decide +kernel, GG_good⟩
theorem cd_Inbox_dropFirst : cdV GG y_Inbox_dropFirst b_Inbox_dropFirst 1 none 0 := ⟨gw_661, gw_659, gw_660, gw_57, by decide +kernel, GG_good⟩
theorem cd_KeyTree_leafOf : cdS GG y_KeyTree_leafOf b_KeyTree_leafOf 6 (some .long) 3 := ⟨gw_227, gw_226, gw_61, by decide +kernel, GG_good⟩
theorem cd_Node_addToPool : cdV GG y_Node_addToPool b_Node_addToPool 3 (some .boolean) 1 := ⟨gw_613, gw_611, gw_612, gw_56, by decide +kernel, GG_good⟩
theorem cd_Tally_empty : cdV GG y_Tally_empty b_Tally_empty 2 none 0 := ⟨gw_827, gw_825, gw_826, gw_58, by decide +kernel, GG_good⟩
theorem cd_Node_fall : cdV GG y_Node_fall b_Node_fall 1 none 0 := ⟨gw_823, gw_821, gw_822, gw_56, by decide +kernel, GG_good⟩
theorem cd_Node_rise : cdV GG y_Node_rise b_Node_rise 2 none 1 := ⟨gw_843, gw_841, gw_842, gw_56, by decide +kernel, GG_good⟩
theorem cd_Transactions_add : cdV GG y_Transactions_add b_Transactions_add 5 (some .int) 4 := ⟨gw_596, gw_594, gw_595, gw_54, by decide +kernel, GG_good⟩
end
section
/-! The class's world: kinds of cells. Written by wip/whole/make.py. -/
abbrev clQ : List vw_C := [(R_QC, F_QC, 7), (R_Node, F_Node, 12), (R_Store, F_Store, 8), (R_Accounts, F_Accounts, 2), (R_KeyTree, F_KeyTree, 4), (R_Inbox, F_Inbox, 2), (R_Message, F_Message, 6), (R_Tally, F_Tally, 1), (R_Blocks, F_Blocks, 5), (R_Transactions, F_Transactions, 5)]
abbrev tysQ (ca : Nat → ClassId) : List (ClassId × FieldType) := [(ca 0, .int), (ca 1, .long), (ca 2, .boolean), (ca 3, .object "QuorumChain$Node"), (ca 4, .object "QuorumChain$Message")]
def nwQ : List (String × Nat × MethodName × String) := [("QuorumChain$Accounts", 18, ⟨"QuorumChain", "isAccount", "(I)Z"⟩, "QuorumChain")]
theorem nw_Accounts_18 : (R_Accounts, 18, y_QC_isAccount, "QuorumChain") ∈ nwQ := List.mem_singleton.mpr rfl
def tlen (j : Nat) : Nat := if j = 0 then 100 else 128
def inM (i j : Nat) : Prop := (i < 4 ∧ j < 16) ∨ (i = 4 ∧ j < 2)
def inT (i j : Nat) : Prop := i < 4 ∧ j < 2
theorem inM_D : inM 4 0 := Or.inr ⟨rfl, by decide⟩
theorem inM_A : inM 4 1 := Or.inr ⟨rfl, by decide⟩
theorem vin4 {x : Int32} (h : vp_in x 4) : x.toNatClampNeg < 4 := Nat.not_le.mp fun q => h (Or.inr q)
theorem z_inc {x k : Int32} {n : Int} (h : Int32.ofInt n = k) : x + Int32.ofInt n = x + k := by rw [h]
theorem z_swl {x : Int32} (lo hi : Int) (h : ∀ k : Int, lo ≤ k → k ≤ hi → ¬ x.toInt = k) : x.toInt < lo ∨ hi < x.toInt := by
  by_cases h1 : x.toInt < lo
  · exact Or.inl h1
  · by_cases h2 : hi < x.toInt
    · exact Or.inr h2
    · exact absurd rfl (h x.toInt (Int.not_lt.mp h1) (Int.not_lt.mp h2))
def cfQ (ad : N3 → Nat) (ca : Nat → ClassId) : Cf := fun t f g h => match t with
  | (1, _, _) => .inr (0, [.ref (ad (2, 0, 0)), .ref (ad (19, 0, 0)), .ref (ad (24, 0, 0)), .ref (ad (14, 4, 0)), .ref (ad (14, 4, 1)), .int (f 5), .int (f 6)])
  | (2, _, _) => .inl (ca 3, 4, .inr (.inr (.inr (.inr (fun x => some (ad (3, x, 0)))))))
  | (3, i, _) => .inr (1, [.int (f 0), .ref (ad (4, i, 0)), .ref (ad (12, i, 0)), .ref (ad (16, i, 0)), .ref (ad (16, i, 1)), .ref (ad (18, i, 0)), .int (f 6), .int (f 7), .int (f 8), .int (f 9), .int (f 10), .int (f 11)])
  | (4, i, _) => .inr (2, [.ref (ad (5, i, 0)), .ref (ad (6, i, 0)), .ref (ad (7, i, 0)), .ref (ad (10, i, 0)), .int (f 4), .int (f 5), .int (f 6), .int (f 7)])
  | (5, _, _) => .inl (ca 2, 100, .inl f)
  | (6, _, _) => .inl (ca 0, 100, .inl f)
  | (7, i, _) => .inr (3, [.ref (ad (8, i, 0)), .ref (ad (9, i, 0))])
  | (8, _, _) => .inl (ca 0, 4, .inl f)
  | (9, _, _) => .inl (ca 0, 4, .inl f)
  | (10, i, _) => .inr (4, [.ref (ad (11, i, 0)), .int (f 1), .int (f 2), .int (f 3)])
  | (11, _, _) => .inl (ca 1, 64, .inr (.inl g))
  | (12, i, _) => .inr (5, [.ref (ad (13, i, 0)), .int (f 1)])
  | (13, i, _) => .inl (ca 4, 16, .inr (.inr (.inr (.inr (fun x => some (ad (14, i, h x)))))))
  | (14, i, j) => .inr (6, [.ref (ad (15, i, j)), .int (f 1), .int (f 2), .int (f 3), .int (f 4), .int (f 5)])
  | (15, _, _) => .inl (ca 1, 11, .inr (.inl g))
  | (16, i, j) => .inr (7, [.ref (ad (17, i, j))])
  | (17, _, j) => .inl (ca 0, tlen j, .inl f)
  | (18, _, _) => .inl (ca 0, 40, .inl f)
  | (19, _, _) => .inr (8, [.ref (ad (20, 0, 0)), .ref (ad (21, 0, 0)), .ref (ad (22, 0, 0)), .ref (ad (23, 0, 0)), .int (f 4)])
  | (20, _, _) => .inl (ca 0, 100, .inl f)
  | (21, _, _) => .inl (ca 0, 100, .inl f)
  | (22, _, _) => .inl (ca 0, 100, .inl f)
  | (23, _, _) => .inl (ca 2, 100, .inl f)
  | (24, _, _) => .inr (9, [.ref (ad (25, 0, 0)), .ref (ad (26, 0, 0)), .ref (ad (27, 0, 0)), .ref (ad (28, 0, 0)), .int (f 4)])
  | (25, _, _) => .inl (ca 0, 40, .inl f)
  | (26, _, _) => .inl (ca 0, 40, .inl f)
  | (27, _, _) => .inl (ca 0, 40, .inl f)
  | (28, _, _) => .inl (ca 0, 40, .inl f)
  | _ => .inl (ca 0, 0, .inl f)
theorem cfQ_row {ad : N3 → Nat} {ca : Nat → ClassId} {i p w : Nat} {f : Nat → Int32} {g : Nat → Int64} {h : Nat → Nat} : cfQ ad ca (13, i, 0) f g (va_up h p w) = .inl (ca 4, 16, .inr (.inr (.inr (.inr (va_up (fun x => some (ad (14, i, h x))) p (some (ad (14, i, w)))))))) := by
  show Sum.inl (ca 4, 16, _) = _
  congr 7
  funext x
  by_cases hx : x = p
  · simp [va_up, hx]
  · simp [va_up, hx]
def TQ : List N3 := [(1, 0, 0), (2, 0, 0), (3, 0, 0), (3, 1, 0), (3, 2, 0), (3, 3, 0), (4, 0, 0), (4, 1, 0), (4, 2, 0), (4, 3, 0), (5, 0, 0), (5, 1, 0), (5, 2, 0), (5, 3, 0), (6, 0, 0), (6, 1, 0), (6, 2, 0), (6, 3, 0), (7, 0, 0), (7, 1, 0), (7, 2, 0), (7, 3, 0), (8, 0, 0), (8, 1, 0), (8, 2, 0), (8, 3, 0), (9, 0, 0), (9, 1, 0), (9, 2, 0), (9, 3, 0), (10, 0, 0), (10, 1, 0), (10, 2, 0), (10, 3, 0), (11, 0, 0), (11, 1, 0), (11, 2, 0), (11, 3, 0), (12, 0, 0), (12, 1, 0), (12, 2, 0), (12, 3, 0), (13, 0, 0), (13, 1, 0), (13, 2, 0), (13, 3, 0), (14, 0, 0), (14, 0, 1), (14, 0, 2), (14, 0, 3), (14, 0, 4), (14, 0, 5), (14, 0, 6), (14, 0, 7), (14, 0, 8), (14, 0, 9), (14, 0, 10), (14, 0, 11), (14, 0, 12), (14, 0, 13), (14, 0, 14), (14, 0, 15), (14, 1, 0), (14, 1, 1), (14, 1, 2), (14, 1, 3), (14, 1, 4), (14, 1, 5), (14, 1, 6), (14, 1, 7), (14, 1, 8), (14, 1, 9), (14, 1, 10), (14, 1, 11), (14, 1, 12), (14, 1, 13), (14, 1, 14), (14, 1, 15), (14, 2, 0), (14, 2, 1), (14, 2, 2), (14, 2, 3), (14, 2, 4), (14, 2, 5), (14, 2, 6), (14, 2, 7), (14, 2, 8), (14, 2, 9), (14, 2, 10), (14, 2, 11), (14, 2, 12), (14, 2, 13), (14, 2, 14), (14, 2, 15), (14, 3, 0), (14, 3, 1), (14, 3, 2), (14, 3, 3), (14, 3, 4), (14, 3, 5), (14, 3, 6), (14, 3, 7), (14, 3, 8), (14, 3, 9), (14, 3, 10), (14, 3, 11), (14, 3, 12), (14, 3, 13), (14, 3, 14), (14, 3, 15), (14, 4, 0), (14, 4, 1), (15, 0, 0), (15, 0, 1), (15, 0, 2), (15, 0, 3), (15, 0, 4), (15, 0, 5), (15, 0, 6), (15, 0, 7), (15, 0, 8), (15, 0, 9), (15, 0, 10), (15, 0, 11), (15, 0, 12), (15, 0, 13), (15, 0, 14), (15, 0, 15), (15, 1, 0), (15, 1, 1), (15, 1, 2), (15, 1, 3), (15, 1, 4), (15, 1, 5), (15, 1, 6), (15, 1, 7), (15, 1, 8), (15, 1, 9), (15, 1, 10), (15, 1, 11), (15, 1, 12), (15, 1, 13), (15, 1, 14), (15, 1, 15), (15, 2, 0), (15, 2, 1), (15, 2, 2), (15, 2, 3), (15, 2, 4), (15, 2, 5), (15, 2, 6), (15, 2, 7), (15, 2, 8), (15, 2, 9), (15, 2, 10), (15, 2, 11), (15, 2, 12), (15, 2, 13), (15, 2, 14), (15, 2, 15), (15, 3, 0), (15, 3, 1), (15, 3, 2), (15, 3, 3), (15, 3, 4), (15, 3, 5), (15, 3, 6), (15, 3, 7), (15, 3, 8), (15, 3, 9), (15, 3, 10), (15, 3, 11), (15, 3, 12), (15, 3, 13), (15, 3, 14), (15, 3, 15), (15, 4, 0), (15, 4, 1), (16, 0, 0), (16, 0, 1), (16, 1, 0), (16, 1, 1), (16, 2, 0), (16, 2, 1), (16, 3, 0), (16, 3, 1), (17, 0, 0), (17, 0, 1), (17, 1, 0), (17, 1, 1), (17, 2, 0), (17, 2, 1), (17, 3, 0), (17, 3, 1), (18, 0, 0), (18, 1, 0), (18, 2, 0), (18, 3, 0), (19, 0, 0), (20, 0, 0), (21, 0, 0), (22, 0, 0), (23, 0, 0), (24, 0, 0), (25, 0, 0), (26, 0, 0), (27, 0, 0), (28, 0, 0)]
theorem tq1 : ((1, 0, 0) : N3) ∈ TQ := by decide +kernel
theorem tq2 : ((2, 0, 0) : N3) ∈ TQ := by decide +kernel
theorem tq3 {i : Nat} (h : i < 4) : ((3, i, 0) : N3) ∈ TQ := (by decide +kernel : ∀ i, i < 4 → ((3, i, 0) : N3) ∈ TQ) i h
theorem tq4 {i : Nat} (h : i < 4) : ((4, i, 0) : N3) ∈ TQ := (by decide +kernel : ∀ i, i < 4 → ((4, i, 0) : N3) ∈ TQ) i h
theorem tq5 {i : Nat} (h : i < 4) : ((5, i, 0) : N3) ∈ TQ := (by decide +kernel : ∀ i, i < 4 → ((5, i, 0) : N3) ∈ TQ) i h
theorem tq6 {i : Nat} (h : i < 4) : ((6, i, 0) : N3) ∈ TQ := (by decide +kernel : ∀ i, i < 4 → ((6, i, 0) : N3) ∈ TQ) i h
theorem tq7 {i : Nat} (h : i < 4) : ((7, i, 0) : N3) ∈ TQ := (by decide +kernel : ∀ i, i < 4 → ((7, i, 0) : N3) ∈ TQ) i h
theorem tq8 {i : Nat} (h : i < 4) : ((8, i, 0) : N3) ∈ TQ := (by decide +kernel : ∀ i, i < 4 → ((8, i, 0) : N3) ∈ TQ) i h
theorem tq9 {i : Nat} (h : i < 4) : ((9, i, 0) : N3) ∈ TQ := (by decide +kernel : ∀ i, i < 4 → ((9, i, 0) : N3) ∈ TQ) i h
theorem tq10 {i : Nat} (h : i < 4) : ((10, i, 0) : N3) ∈ TQ := (by decide +kernel : ∀ i, i < 4 → ((10, i, 0) : N3) ∈ TQ) i h
theorem tq11 {i : Nat} (h : i < 4) : ((11, i, 0) : N3) ∈ TQ := (by decide +kernel : ∀ i, i < 4 → ((11, i, 0) : N3) ∈ TQ) i h
theorem tq12 {i : Nat} (h : i < 4) : ((12, i, 0) : N3) ∈ TQ := (by decide +kernel : ∀ i, i < 4 → ((12, i, 0) : N3) ∈ TQ) i h
theorem tq13 {i : Nat} (h : i < 4) : ((13, i, 0) : N3) ∈ TQ := (by decide +kernel : ∀ i, i < 4 → ((13, i, 0) : N3) ∈ TQ) i h
theorem tq14 {i j : Nat} (h : inM i j) : ((14, i, j) : N3) ∈ TQ := h.elim (fun h => (by decide +kernel : ∀ i, i < 4 → ∀ j, j < 16 → ((14, i, j) : N3) ∈ TQ) i h.1 j h.2) (fun h => by
  obtain ⟨rfl, hj⟩ := h
  exact (by decide +kernel : ∀ j, j < 2 → ((14, 4, j) : N3) ∈ TQ) j hj)
theorem tq15 {i j : Nat} (h : inM i j) : ((15, i, j) : N3) ∈ TQ := h.elim (fun h => (by decide +kernel : ∀ i, i < 4 → ∀ j, j < 16 → ((15, i, j) : N3) ∈ TQ) i h.1 j h.2) (fun h => by
  obtain ⟨rfl, hj⟩ := h
  exact (by decide +kernel : ∀ j, j < 2 → ((15, 4, j) : N3) ∈ TQ) j hj)
theorem tq16 {i j : Nat} (h : inT i j) : ((16, i, j) : N3) ∈ TQ := (by decide +kernel : ∀ i, i < 4 → ∀ j, j < 2 → ((16, i, j) : N3) ∈ TQ) i h.1 j h.2
theorem tq17 {i j : Nat} (h : inT i j) : ((17, i, j) : N3) ∈ TQ := (by decide +kernel : ∀ i, i < 4 → ∀ j, j < 2 → ((17, i, j) : N3) ∈ TQ) i h.1 j h.2
theorem tq18 {i : Nat} (h : i < 4) : ((18, i, 0) : N3) ∈ TQ := (by decide +kernel : ∀ i, i < 4 → ((18, i, 0) : N3) ∈ TQ) i h
theorem tq19 : ((19, 0, 0) : N3) ∈ TQ := by decide +kernel
theorem tq20 : ((20, 0, 0) : N3) ∈ TQ := by decide +kernel
theorem tq21 : ((21, 0, 0) : N3) ∈ TQ := by decide +kernel
theorem tq22 : ((22, 0, 0) : N3) ∈ TQ := by decide +kernel
theorem tq23 : ((23, 0, 0) : N3) ∈ TQ := by decide +kernel
theorem tq24 : ((24, 0, 0) : N3) ∈ TQ := by decide +kernel
theorem tq25 : ((25, 0, 0) : N3) ∈ TQ := by decide +kernel
theorem tq26 : ((26, 0, 0) : N3) ∈ TQ := by decide +kernel
theorem tq27 : ((27, 0, 0) : N3) ∈ TQ := by decide +kernel
theorem tq28 : ((28, 0, 0) : N3) ∈ TQ := by decide +kernel
end
section
/-! Named results: a step's value gets a name that nothing looks through. -/
def lt {α : Type} {β : Sort _} (v : α) (k : α → β) : β := k v
theorem lt_p {α : Type} {v z : α} {k : α → Prop} (e : z = v) (h : lt v k) : k z := by
  subst e
  exact h
theorem lt_e {α β : Type} {v z : α} {k : α → β} {res : β} (e : z = v) (h : lt v k = res) : k z = res := by
  subst e
  exact h
theorem zs_si {cf : Cf} {S S' : St} {k i j : Nat} {f : Nat → Int32} {e : va_E} (h : S' = wi S k i j f) (h1 : cf (k, i, j) f (S.2.1 k i j) (S.2.2 k i j) = e) : zs cf S' (k, i, j) = e := by
  subst h
  exact zs_wi_self.trans h1
theorem zs_sio {cf : Cf} {S S' : St} {k i j : Nat} {f : Nat → Int32} (h : S' = wi S k i j f) : ∀ t : N3, t ≠ (k, i, j) → zs cf S' t = zs cf S t := by
  subst h
  exact zs_wi_ne
theorem zs_sl {cf : Cf} {S S' : St} {k i j : Nat} {f : Nat → Int64} {e : va_E} (h : S' = wl S k i j f) (h1 : cf (k, i, j) (S.1 k i j) f (S.2.2 k i j) = e) : zs cf S' (k, i, j) = e := by
  subst h
  exact zs_wl_self.trans h1
theorem zs_slo {cf : Cf} {S S' : St} {k i j : Nat} {f : Nat → Int64} (h : S' = wl S k i j f) : ∀ t : N3, t ≠ (k, i, j) → zs cf S' t = zs cf S t := by
  subst h
  exact zs_wl_ne
theorem zs_sp {cf : Cf} {S S' : St} {k i j : Nat} {f : Nat → Nat} {e : va_E} (h : S' = wp S k i j f) (h1 : cf (k, i, j) (S.1 k i j) (S.2.1 k i j) f = e) : zs cf S' (k, i, j) = e := by
  subst h
  exact zs_wp_self.trans h1
theorem zs_spo {cf : Cf} {S S' : St} {k i j : Nat} {f : Nat → Nat} (h : S' = wp S k i j f) : ∀ t : N3, t ≠ (k, i, j) → zs cf S' t = zs cf S t := by
  subst h
  exact zs_wp_ne
section ZG
variable {p : Program} {l : Launch} {e : Env} {R : Room} {s : State} {m : MethodId} {args : Array Value} {below : List Frame} {meth : Method} {c : Code} {H : Heap} {locs : List Loc} {cells slots : Nat} {Q : State → Prop}
variable {pc : Nat} {ls : Array Slot} {rest st0 : List Value} {D : va_G} {cl : List vw_C} {A : Nat → Prop} {H0 : Heap} {X : va_W} {ad : N3 → Nat} {T : List N3} {cf : Cf} {S : St}
theorem z_goI {a : Array Value} {res : Int32 × St} {v : Int32} {z : St} (hW : Wd D cl A H0 (zw X ad T cf S) H locs) (hA : ∀ q, H0.size ≤ q → A q) (ez : (v, z) = res) (hr : va_Run p l e R s m args below meth c H locs cells slots 0 0 (F0 m pc ls st0) rest (eI D cl X ad T cf (va_A (zw X ad T cf S) H.size) res a) (va_A (zw X ad T cf S) H.size))
    (kk : ∀ (H1 : Heap) (locs1 : List Loc), Wd D cl A H0 (zw X ad T cf z) H1 locs1 → W p l e R s m args below meth c H1 locs1 cells slots Q (F0 m (pc + 3) ls (.int v :: rest))) : W p l e R s m args below meth c H locs cells slots Q (F0 m pc ls st0) := by
  subst ez
  exact z_thenI hW hA hr kk
theorem z_goL {a : Array Value} {res : Int64 × St} {v : Int64} {z : St} (hW : Wd D cl A H0 (zw X ad T cf S) H locs) (hA : ∀ q, H0.size ≤ q → A q) (ez : (v, z) = res) (hr : va_Run p l e R s m args below meth c H locs cells slots 0 0 (F0 m pc ls st0) rest (eL D cl X ad T cf (va_A (zw X ad T cf S) H.size) res a) (va_A (zw X ad T cf S) H.size))
    (kk : ∀ (H1 : Heap) (locs1 : List Loc), Wd D cl A H0 (zw X ad T cf z) H1 locs1 → W p l e R s m args below meth c H1 locs1 cells slots Q (F0 m (pc + 3) ls (.long v :: rest))) : W p l e R s m args below meth c H locs cells slots Q (F0 m pc ls st0) := by
  subst ez
  exact z_thenL hW hA hr kk
theorem z_goV {a : Array Value} {res z : St} (hW : Wd D cl A H0 (zw X ad T cf S) H locs) (hA : ∀ q, H0.size ≤ q → A q) (ez : z = res) (hr : va_Run p l e R s m args below meth c H locs cells slots 0 0 (F0 m pc ls st0) rest (eV D cl X ad T cf (va_A (zw X ad T cf S) H.size) res a) (va_A (zw X ad T cf S) H.size))
    (kk : ∀ (H1 : Heap) (locs1 : List Loc), Wd D cl A H0 (zw X ad T cf z) H1 locs1 → W p l e R s m args below meth c H1 locs1 cells slots Q (F0 m (pc + 3) ls rest)) : W p l e R s m args below meth c H locs cells slots Q (F0 m pc ls st0) := by
  subst ez
  exact z_thenV hW hA hr kk
theorem z_goR {a : Array Value} {res : N3 × St} {t : N3} {z : St} (hW : Wd D cl A H0 (zw X ad T cf S) H locs) (hA : ∀ q, H0.size ≤ q → A q) (ez : (t, z) = res) (hr : va_Run p l e R s m args below meth c H locs cells slots 0 0 (F0 m pc ls st0) rest (eR D cl X ad T cf (va_A (zw X ad T cf S) H.size) res a) (va_A (zw X ad T cf S) H.size))
    (kk : ∀ (H1 : Heap) (locs1 : List Loc), Wd D cl A H0 (zw X ad T cf z) H1 locs1 → W p l e R s m args below meth c H1 locs1 cells slots Q (F0 m (pc + 3) ls (.ref (ad t) :: rest))) : W p l e R s m args below meth c H locs cells slots Q (F0 m pc ls st0) := by
  subst ez
  exact z_thenR hW hA hr kk
end ZG
end
section
theorem d_Message_write_0 : decode b_Message_write 0 = .ok (.aload_n 0, 1) := by decide +kernel
theorem d_Message_write_1 : decode b_Message_write 1 = .ok (.iload_n 1, 1) := by decide +kernel
theorem d_Message_write_2 : decode b_Message_write 2 = .ok (.putfield 19, 3) := by decide +kernel
theorem d_Message_write_5 : decode b_Message_write 5 = .ok (.aload_n 0, 1) := by decide +kernel
theorem d_Message_write_6 : decode b_Message_write 6 = .ok (.iload_n 2, 1) := by decide +kernel
theorem d_Message_write_7 : decode b_Message_write 7 = .ok (.putfield 22, 3) := by decide +kernel
theorem d_Message_write_10 : decode b_Message_write 10 = .ok (.aload_n 0, 1) := by decide +kernel
theorem d_Message_write_11 : decode b_Message_write 11 = .ok (.iload_n 3, 1) := by decide +kernel
theorem d_Message_write_12 : decode b_Message_write 12 = .ok (.putfield 25, 3) := by decide +kernel
theorem d_Message_write_15 : decode b_Message_write 15 = .ok (.aload_n 0, 1) := by decide +kernel
theorem d_Message_write_16 : decode b_Message_write 16 = .ok (.iload 4, 2) := by decide +kernel
theorem d_Message_write_18 : decode b_Message_write 18 = .ok (.putfield 28, 3) := by decide +kernel
theorem d_Message_write_21 : decode b_Message_write 21 = .ok (.aload_n 0, 1) := by decide +kernel
theorem d_Message_write_22 : decode b_Message_write 22 = .ok (.iconst (-1), 1) := by decide +kernel
theorem d_Message_write_23 : decode b_Message_write 23 = .ok (.putfield 15, 3) := by decide +kernel
theorem d_Message_write_26 : decode b_Message_write 26 = .ok (.return_, 1) := by decide +kernel
def f_Message_write (i0 : Nat) (j0 : Nat) (a1 : Int32) (a2 : Int32) (a3 : Int32) (a4 : Int32) (S : St) : St :=
  lt (si S 14 i0 j0 1 a1) fun (S1 : St) =>
  lt (si S1 14 i0 j0 2 a2) fun (S2 : St) =>
  lt (si S2 14 i0 j0 3 a3) fun (S3 : St) =>
  lt (si S3 14 i0 j0 4 a4) fun (S4 : St) =>
  lt (si S4 14 i0 j0 5 (-1 : Int32)) fun (S5 : St) =>
  S5
set_option maxHeartbeats 4000000 in
set_option maxRecDepth 100000 in
theorem c_Message_write (l : Launch) (D : va_G) (X : va_W) (ad : N3 → Nat) (ca : Nat → ClassId) (i0 : Nat) (j0 : Nat) (a1 : Int32) (a2 : Int32) (a3 : Int32) (a4 : Int32) (h0 : inM i0 j0) (S : St) : cV l GG D clQ (tysQ ca) nwQ X ad TQ (cfQ ad ca) y_Message_write b_Message_write 5 0 0 [.ref (ad (14, i0, j0)), .int a1, .int a2, .int a3, .int a4] S (f_Message_write i0 j0 a1 a2 a3 a4 S) := by
  generalize hr : f_Message_write i0 j0 a1 a2 a3 a4 S = res
  refine zV_of pn_Message (Nat.le_of_ble_eq_true rfl) (fun p e s m below meth c A ls hy hW hA hl => ?_)
  have hF := hy.1
  have hx := hF.1
  have hb := hF.2.1
  have hK := hy.2.2.2
  have hl : lv_has ls 5 [(0, .ref (ad (14, i0, j0))), (1, .int a1), (2, .int a2), (3, .int a3), (4, .int a4)] := hl
  refine lv_aload_n (pc := 0) hx hb d_Message_write_0 rfl (lv_at hl 0 rfl) ?_
  refine lv_iload_n (pc := 1) hx hb d_Message_write_1 rfl (lv_at hl 1 rfl) ?_
  obtain ⟨S1, eS1⟩ : ∃ z : St, z = si S 14 i0 j0 1 a1 := ⟨_, rfl⟩
  have hr := lt_e eS1 hr
  refine z_put (pc := 2) (S' := S1) hF hK.1 hW (tq14 h0) rfl rfl in_Message t_Message tyo_Message nmo_Message 1 (by decide) gw_139 rfl rfl rfl rfl rfl (Nat.le_of_ble_eq_true rfl) (zs_si eS1 rfl) (zs_sio eS1) d_Message_write_2 (fun H locs (hW : Wd D clQ A s.heap (zw X ad TQ (cfQ ad ca) S1) H locs) => ?_)
  refine lv_aload_n (pc := 5) hx hb d_Message_write_5 rfl (lv_at hl 0 rfl) ?_
  refine lv_iload_n (pc := 6) hx hb d_Message_write_6 rfl (lv_at hl 2 rfl) ?_
  obtain ⟨S2, eS2⟩ : ∃ z : St, z = si S1 14 i0 j0 2 a2 := ⟨_, rfl⟩
  have hr := lt_e eS2 hr
  refine z_put (pc := 7) (S' := S2) hF hK.1 hW (tq14 h0) rfl rfl in_Message t_Message tyo_Message nmo_Message 2 (by decide) gw_141 rfl rfl rfl rfl rfl (Nat.le_of_ble_eq_true rfl) (zs_si eS2 rfl) (zs_sio eS2) d_Message_write_7 (fun H locs (hW : Wd D clQ A s.heap (zw X ad TQ (cfQ ad ca) S2) H locs) => ?_)
  refine lv_aload_n (pc := 10) hx hb d_Message_write_10 rfl (lv_at hl 0 rfl) ?_
  refine lv_iload_n (pc := 11) hx hb d_Message_write_11 rfl (lv_at hl 3 rfl) ?_
  obtain ⟨S3, eS3⟩ : ∃ z : St, z = si S2 14 i0 j0 3 a3 := ⟨_, rfl⟩
  have hr := lt_e eS3 hr
  refine z_put (pc := 12) (S' := S3) hF hK.1 hW (tq14 h0) rfl rfl in_Message t_Message tyo_Message nmo_Message 3 (by decide) gw_143 rfl rfl rfl rfl rfl (Nat.le_of_ble_eq_true rfl) (zs_si eS3 rfl) (zs_sio eS3) d_Message_write_12 (fun H locs (hW : Wd D clQ A s.heap (zw X ad TQ (cfQ ad ca) S3) H locs) => ?_)
  refine lv_aload_n (pc := 15) hx hb d_Message_write_15 rfl (lv_at hl 0 rfl) ?_
  refine lv_iload (pc := 16) hx hb d_Message_write_16 (lv_at hl 4 rfl) ?_
  obtain ⟨S4, eS4⟩ : ∃ z : St, z = si S3 14 i0 j0 4 a4 := ⟨_, rfl⟩
  have hr := lt_e eS4 hr
  refine z_put (pc := 18) (S' := S4) hF hK.1 hW (tq14 h0) rfl rfl in_Message t_Message tyo_Message nmo_Message 4 (by decide) gw_145 rfl rfl rfl rfl rfl (Nat.le_of_ble_eq_true rfl) (zs_si eS4 rfl) (zs_sio eS4) d_Message_write_18 (fun H locs (hW : Wd D clQ A s.heap (zw X ad TQ (cfQ ad ca) S4) H locs) => ?_)
  refine lv_aload_n (pc := 21) hx hb d_Message_write_21 rfl (lv_at hl 0 rfl) ?_
  refine lv_iconst (pc := 22) (v := -1) hx hb d_Message_write_22 (by decide) ?_
  obtain ⟨S5, eS5⟩ : ∃ z : St, z = si S4 14 i0 j0 5 (-1 : Int32) := ⟨_, rfl⟩
  have hr := lt_e eS5 hr
  refine z_put (pc := 23) (S' := S5) hF hK.1 hW (tq14 h0) rfl rfl in_Message t_Message tyo_Message nmo_Message 5 (by decide) gw_147 rfl rfl rfl rfl rfl (Nat.le_of_ble_eq_true rfl) (zs_si eS5 rfl) (zs_sio eS5) d_Message_write_23 (fun H locs (hW : Wd D clQ A s.heap (zw X ad TQ (cfQ ad ca) S5) H locs) => ?_)
  exact z_vret hy hW hr.symm d_Message_write_26
theorem d_KeyTree_isLeft_0 : decode b_KeyTree_isLeft 0 = .ok (.aload_n 0, 1) := by decide +kernel
theorem d_KeyTree_isLeft_1 : decode b_KeyTree_isLeft 1 = .ok (.getfield 32, 3) := by decide +kernel
theorem d_KeyTree_isLeft_4 : decode b_KeyTree_isLeft 4 = .ok (.bipush 32, 2) := by decide +kernel
theorem d_KeyTree_isLeft_6 : decode b_KeyTree_isLeft 6 = .ok (.if_icmp .ge 7, 3) := by decide +kernel
theorem d_KeyTree_isLeft_9 : decode b_KeyTree_isLeft 9 = .ok (.iconst 1, 1) := by decide +kernel
theorem d_KeyTree_isLeft_10 : decode b_KeyTree_isLeft 10 = .ok (.goto 4, 3) := by decide +kernel
theorem d_KeyTree_isLeft_13 : decode b_KeyTree_isLeft 13 = .ok (.iconst 0, 1) := by decide +kernel
theorem d_KeyTree_isLeft_14 : decode b_KeyTree_isLeft 14 = .ok (.ireturn, 1) := by decide +kernel
def f_KeyTree_isLeft (i0 : Nat) (S : St) : Int32 :=
  if (32 : Int32) ≤ (S.1 10 i0 0 3) then
    (0 : Int32)
  else
    (1 : Int32)
set_option maxHeartbeats 4000000 in
set_option maxRecDepth 100000 in
theorem c_KeyTree_isLeft (l : Launch) (D : va_G) (X : va_W) (ad : N3 → Nat) (ca : Nat → ClassId) (i0 : Nat) (h0 : i0 < 4) (S : St) : cI l GG D clQ (tysQ ca) nwQ X ad TQ (cfQ ad ca) y_KeyTree_isLeft b_KeyTree_isLeft 1 .boolean 0 0 [.ref (ad (10, i0, 0))] S ((f_KeyTree_isLeft i0 S), S) := by
  generalize hr : f_KeyTree_isLeft i0 S = res
  refine zI_of pn_KeyTree (Nat.le_of_ble_eq_true rfl) (fun p e s m below meth c A ls hy hW hA hl => ?_)
  have hF := hy.1
  have hx := hF.1
  have hb := hF.2.1
  have hK := hy.2.2.2
  have hl : lv_has ls 1 [(0, .ref (ad (10, i0, 0)))] := hl
  refine lv_aload_n (pc := 0) hx hb d_KeyTree_isLeft_0 rfl (lv_at hl 0 rfl) ?_
  refine z_get (pc := 1) (v := .int (S.1 10 i0 0 3)) hF hK.1 hW (tq10 h0) rfl rfl in_KeyTree 3 (by decide) gw_253 rfl rfl d_KeyTree_isLeft_1 ?_
  refine lv_bipush (pc := 4) (v := 32) hx hb d_KeyTree_isLeft_4 (by decide) ?_
  refine lv_icmp_ge (pc := 6) (tgt := 13) hx hb d_KeyTree_isLeft_6 (by decide) (fun c1 => ?_) (fun c1 => ?_)
  · have hr := (if_pos c1).symm.trans hr
    refine lv_iconst (pc := 13) (v := 0) hx hb d_KeyTree_isLeft_13 (by decide) ?_
    exact z_zret (v := (0 : Int32)) hy hW rfl (congrArg (fun z => (z, S)) hr.symm) d_KeyTree_isLeft_14
  · have hr := (if_neg c1).symm.trans hr
    refine lv_iconst (pc := 9) (v := 1) hx hb d_KeyTree_isLeft_9 (by decide) ?_
    refine lv_goto (pc := 10) (tgt := 14) hx hb d_KeyTree_isLeft_10 (by decide) ?_
    exact z_zret (v := (1 : Int32)) hy hW rfl (congrArg (fun z => (z, S)) hr.symm) d_KeyTree_isLeft_14
theorem d_Fold_absorb_0 : decode b_Fold_absorb 0 = .ok (.lload_n 0, 1) := by decide +kernel
theorem d_Fold_absorb_1 : decode b_Fold_absorb 1 = .ok (.lload_n 2, 1) := by decide +kernel
theorem d_Fold_absorb_2 : decode b_Fold_absorb 2 = .ok (.lxor, 1) := by decide +kernel
theorem d_Fold_absorb_3 : decode b_Fold_absorb 3 = .ok (.ldc2_w 9, 3) := by decide +kernel
theorem d_Fold_absorb_6 : decode b_Fold_absorb 6 = .ok (.lmul, 1) := by decide +kernel
theorem d_Fold_absorb_7 : decode b_Fold_absorb 7 = .ok (.lstore 4, 2) := by decide +kernel
theorem d_Fold_absorb_9 : decode b_Fold_absorb 9 = .ok (.lload 4, 2) := by decide +kernel
theorem d_Fold_absorb_11 : decode b_Fold_absorb 11 = .ok (.lload 4, 2) := by decide +kernel
theorem d_Fold_absorb_13 : decode b_Fold_absorb 13 = .ok (.bipush 29, 2) := by decide +kernel
theorem d_Fold_absorb_15 : decode b_Fold_absorb 15 = .ok (.lushr, 1) := by decide +kernel
theorem d_Fold_absorb_16 : decode b_Fold_absorb 16 = .ok (.lxor, 1) := by decide +kernel
theorem d_Fold_absorb_17 : decode b_Fold_absorb 17 = .ok (.lreturn, 1) := by decide +kernel
def f_Fold_absorb (a0 : Int64) (a2 : Int64) (S : St) : Int64 :=
  ((a0 ^^^ a2) * (-4417276706812531889 : Int64)) ^^^ ((((a0 ^^^ a2) * (-4417276706812531889 : Int64)).toUInt64 >>> ((29 : Int32).toInt64.toUInt64 &&& Int64.toUInt64 63)).toInt64)
set_option maxHeartbeats 4000000 in
set_option maxRecDepth 100000 in
theorem c_Fold_absorb (l : Launch) (D : va_G) (X : va_W) (ad : N3 → Nat) (ca : Nat → ClassId) (a0 : Int64) (a2 : Int64)  (S : St) : cL l GG D clQ (tysQ ca) nwQ X ad TQ (cfQ ad ca) y_Fold_absorb b_Fold_absorb 6 .long 0 0 [.long a0, .long a2] S ((f_Fold_absorb a0 a2 S), S) := by
  generalize hr : f_Fold_absorb a0 a2 S = res
  refine zL_of pn_Fold (Nat.le_of_ble_eq_true rfl) (fun p e s m below meth c A ls hy hW hA hl => ?_)
  have hF := hy.1
  have hx := hF.1
  have hb := hF.2.1
  have hK := hy.2.2.2
  have hl : lv_has ls 6 [(0, .long a0), (2, .long a2)] := hl
  refine lv_lload_n (pc := 0) hx hb d_Fold_absorb_0 rfl (lv_at hl 0 rfl) ?_
  refine lv_lload_n (pc := 1) hx hb d_Fold_absorb_1 rfl (lv_at hl 1 rfl) ?_
  refine lv_lxor (pc := 2) hx hb d_Fold_absorb_2 ?_
  refine lv_ldc2 (pc := 3) hx hb hF.2.2.2.1 (hF.2.2.2.2 _ gw_235) d_Fold_absorb_3 ?_
  refine lv_lmul (pc := 6) hx hb d_Fold_absorb_6 ?_
  refine lv_lstore (pc := 7) (lv' := [(4, .long ((a0 ^^^ a2) * (-4417276706812531889 : Int64))), (0, .long a0), (2, .long a2)]) hx hb d_Fold_absorb_7 hl (by decide) rfl (fun ls hl => ?_)
  refine lv_lload (pc := 9) hx hb d_Fold_absorb_9 (lv_at hl 0 rfl) ?_
  refine lv_lload (pc := 11) hx hb d_Fold_absorb_11 (lv_at hl 0 rfl) ?_
  refine lv_bipush (pc := 13) (v := 29) hx hb d_Fold_absorb_13 (by decide) ?_
  refine lv_lushr (pc := 15) hx hb d_Fold_absorb_15 rfl ?_
  refine lv_lxor (pc := 16) hx hb d_Fold_absorb_16 ?_
  exact z_lret (v := ((a0 ^^^ a2) * (-4417276706812531889 : Int64)) ^^^ ((((a0 ^^^ a2) * (-4417276706812531889 : Int64)).toUInt64 >>> ((29 : Int32).toInt64.toUInt64 &&& Int64.toUInt64 63)).toInt64)) hy hW (congrArg (fun z => (z, S)) hr.symm) d_Fold_absorb_17
theorem d_Fold_finish_0 : decode b_Fold_finish 0 = .ok (.lload_n 0, 1) := by decide +kernel
theorem d_Fold_finish_1 : decode b_Fold_finish 1 = .ok (.ldc2_w 11, 3) := by decide +kernel
theorem d_Fold_finish_4 : decode b_Fold_finish 4 = .ok (.lmul, 1) := by decide +kernel
theorem d_Fold_finish_5 : decode b_Fold_finish 5 = .ok (.lstore_n 2, 1) := by decide +kernel
theorem d_Fold_finish_6 : decode b_Fold_finish 6 = .ok (.lload_n 2, 1) := by decide +kernel
theorem d_Fold_finish_7 : decode b_Fold_finish 7 = .ok (.lload_n 2, 1) := by decide +kernel
theorem d_Fold_finish_8 : decode b_Fold_finish 8 = .ok (.bipush 32, 2) := by decide +kernel
theorem d_Fold_finish_10 : decode b_Fold_finish 10 = .ok (.lushr, 1) := by decide +kernel
theorem d_Fold_finish_11 : decode b_Fold_finish 11 = .ok (.lxor, 1) := by decide +kernel
theorem d_Fold_finish_12 : decode b_Fold_finish 12 = .ok (.lreturn, 1) := by decide +kernel
def f_Fold_finish (a0 : Int64) (S : St) : Int64 :=
  (a0 * (1609587929392839161 : Int64)) ^^^ (((a0 * (1609587929392839161 : Int64)).toUInt64 >>> ((32 : Int32).toInt64.toUInt64 &&& Int64.toUInt64 63)).toInt64)
set_option maxHeartbeats 4000000 in
set_option maxRecDepth 100000 in
theorem c_Fold_finish (l : Launch) (D : va_G) (X : va_W) (ad : N3 → Nat) (ca : Nat → ClassId) (a0 : Int64)  (S : St) : cL l GG D clQ (tysQ ca) nwQ X ad TQ (cfQ ad ca) y_Fold_finish b_Fold_finish 4 .long 0 0 [.long a0] S ((f_Fold_finish a0 S), S) := by
  generalize hr : f_Fold_finish a0 S = res
  refine zL_of pn_Fold (Nat.le_of_ble_eq_true rfl) (fun p e s m below meth c A ls hy hW hA hl => ?_)
  have hF := hy.1
  have hx := hF.1
  have hb := hF.2.1
  have hK := hy.2.2.2
  have hl : lv_has ls 4 [(0, .long a0)] := hl
  refine lv_lload_n (pc := 0) hx hb d_Fold_finish_0 rfl (lv_at hl 0 rfl) ?_
  refine lv_ldc2 (pc := 1) hx hb hF.2.2.2.1 (hF.2.2.2.2 _ gw_239) d_Fold_finish_1 ?_
  refine lv_lmul (pc := 4) hx hb d_Fold_finish_4 ?_
  refine lv_lstore_n (pc := 5) (lv' := [(2, .long (a0 * (1609587929392839161 : Int64))), (0, .long a0)]) hx hb d_Fold_finish_5 rfl hl (by decide) rfl (fun ls hl => ?_)
  refine lv_lload_n (pc := 6) hx hb d_Fold_finish_6 rfl (lv_at hl 0 rfl) ?_
  refine lv_lload_n (pc := 7) hx hb d_Fold_finish_7 rfl (lv_at hl 0 rfl) ?_
  refine lv_bipush (pc := 8) (v := 32) hx hb d_Fold_finish_8 (by decide) ?_
  refine lv_lushr (pc := 10) hx hb d_Fold_finish_10 rfl ?_
  refine lv_lxor (pc := 11) hx hb d_Fold_finish_11 ?_
  exact z_lret (v := (a0 * (1609587929392839161 : Int64)) ^^^ (((a0 * (1609587929392839161 : Int64)).toUInt64 >>> ((32 : Int32).toInt64.toUInt64 &&& Int64.toUInt64 63)).toInt64)) hy hW (congrArg (fun z => (z, S)) hr.symm) d_Fold_finish_12
theorem d_Message_meaning_0 : decode b_Message_meaning 0 = .ok (.ldc2_w 43, 3) := by decide +kernel
theorem d_Message_meaning_3 : decode b_Message_meaning 3 = .ok (.aload_n 0, 1) := by decide +kernel
theorem d_Message_meaning_4 : decode b_Message_meaning 4 = .ok (.getfield 19, 3) := by decide +kernel
theorem d_Message_meaning_7 : decode b_Message_meaning 7 = .ok (.i2l, 1) := by decide +kernel
theorem d_Message_meaning_8 : decode b_Message_meaning 8 = .ok (.invokestatic 45, 3) := by decide +kernel
theorem d_Message_meaning_11 : decode b_Message_meaning 11 = .ok (.lstore_n 1, 1) := by decide +kernel
theorem d_Message_meaning_12 : decode b_Message_meaning 12 = .ok (.aload_n 0, 1) := by decide +kernel
theorem d_Message_meaning_13 : decode b_Message_meaning 13 = .ok (.getfield 19, 3) := by decide +kernel
theorem d_Message_meaning_16 : decode b_Message_meaning 16 = .ok (.iconst 3, 1) := by decide +kernel
theorem d_Message_meaning_17 : decode b_Message_meaning 17 = .ok (.if_icmp .ne 13, 3) := by decide +kernel
theorem d_Message_meaning_20 : decode b_Message_meaning 20 = .ok (.lload_n 1, 1) := by decide +kernel
theorem d_Message_meaning_21 : decode b_Message_meaning 21 = .ok (.aload_n 0, 1) := by decide +kernel
theorem d_Message_meaning_22 : decode b_Message_meaning 22 = .ok (.getfield 28, 3) := by decide +kernel
theorem d_Message_meaning_25 : decode b_Message_meaning 25 = .ok (.i2l, 1) := by decide +kernel
theorem d_Message_meaning_26 : decode b_Message_meaning 26 = .ok (.invokestatic 45, 3) := by decide +kernel
theorem d_Message_meaning_29 : decode b_Message_meaning 29 = .ok (.lstore_n 1, 1) := by decide +kernel
theorem d_Message_meaning_30 : decode b_Message_meaning 30 = .ok (.lload_n 1, 1) := by decide +kernel
theorem d_Message_meaning_31 : decode b_Message_meaning 31 = .ok (.aload_n 0, 1) := by decide +kernel
theorem d_Message_meaning_32 : decode b_Message_meaning 32 = .ok (.getfield 25, 3) := by decide +kernel
theorem d_Message_meaning_35 : decode b_Message_meaning 35 = .ok (.i2l, 1) := by decide +kernel
theorem d_Message_meaning_36 : decode b_Message_meaning 36 = .ok (.invokestatic 45, 3) := by decide +kernel
theorem d_Message_meaning_39 : decode b_Message_meaning 39 = .ok (.invokestatic 49, 3) := by decide +kernel
theorem d_Message_meaning_42 : decode b_Message_meaning 42 = .ok (.lreturn, 1) := by decide +kernel
def f_Message_meaning_30 (i0 : Nat) (j0 : Nat) (S : St) (l1 : Int64) : Int64 :=
  lt (f_Fold_absorb l1 ((S.1 14 i0 j0 3).toInt64) S) fun (r4 : Int64) =>
  lt (f_Fold_finish r4 S) fun (r5 : Int64) =>
  r5
def ok_Message_meaning_30 (i0 : Nat) (j0 : Nat) (S : St) (l1 : Int64) : Prop :=
  True
set_option maxHeartbeats 4000000 in
set_option maxRecDepth 100000 in
theorem w_Message_meaning_30 {l : Launch} {D : va_G} {X : va_W} {ad : N3 → Nat} {ca : Nat → ClassId} (i0 : Nat) (j0 : Nat) (h0 : inM i0 j0) (S : St) {p : Program} {e : Env} {s : State} {m : MethodId} {below : List Frame} {meth : Method} {c : Code} {A : Nat → Prop} (hy : Hy p s m ([.ref (ad (14, i0, j0))] : List Value).toArray meth c b_Message_meaning 3 (some .long) R_Message GG D clQ (tysQ ca) nwQ) (hA : ∀ q, s.heap.size ≤ q → A q) {res : Int64} : ∀  (l1 : Int64) , ok_Message_meaning_30 i0 j0 S l1 → f_Message_meaning_30 i0 j0 S l1 = res → ∀ (H : Heap) (locs : List Loc) (ls : Array Slot), Wd D clQ A s.heap (zw X ad TQ (cfQ ad ca) S) H locs → lv_has ls 3 [(0, .ref (ad (14, i0, j0))), (1, .long l1)] → W p l e { frames := 1, cells := 0, slots := 0, locals := 25 } s m ([.ref (ad (14, i0, j0))] : List Value).toArray below meth c H locs 0 0 (MQ below (eL D clQ X ad TQ (cfQ ad ca) A (res, S)) ([.ref (ad (14, i0, j0))] : List Value).toArray s 0 0 A) (F0 m 30 ls []) := by
  have hF := hy.1
  have hx := hF.1
  have hb := hF.2.1
  have hK := hy.2.2.2
  intro l1 hk hr H locs ls hW hl
  refine lv_lload_n (pc := 30) hx hb d_Message_meaning_30 rfl (lv_at hl 1 rfl) ?_
  refine lv_aload_n (pc := 31) hx hb d_Message_meaning_31 rfl (lv_at hl 0 rfl) ?_
  refine z_get (pc := 32) (v := .int (S.1 14 i0 j0 3)) hF hK.1 hW (tq14 h0) rfl rfl in_Message 3 (by decide) gw_143 rfl rfl d_Message_meaning_32 ?_
  refine lv_i2l (pc := 35) hx hb d_Message_meaning_35 rfl ?_
  obtain ⟨r4, er4⟩ : ∃ z : Int64, z = f_Fold_absorb l1 ((S.1 14 i0 j0 3).toInt64) S := ⟨_, rfl⟩
  have hr := lt_e er4 hr
  refine z_goL (pc := 36) hW hA (congrArg (fun q => (q, S)) er4) (z_runS hF hK hW (c_Fold_absorb l D X ad ca l1 ((S.1 14 i0 j0 3).toInt64) S _) cd_Fold_absorb gw_398 ⟨Nat.le_of_ble_eq_true rfl, Nat.le_of_ble_eq_true rfl⟩ ⟨Nat.zero_le _, Nat.zero_le _⟩ rfl rfl hl.1 (Nat.le_of_ble_eq_true rfl) d_Message_meaning_36) (fun H locs (hW : Wd D clQ A s.heap (zw X ad TQ (cfQ ad ca) S) H locs) => ?_)
  obtain ⟨r5, er5⟩ : ∃ z : Int64, z = f_Fold_finish r4 S := ⟨_, rfl⟩
  have hr := lt_e er5 hr
  refine z_goL (pc := 39) hW hA (congrArg (fun q => (q, S)) er5) (z_runS hF hK hW (c_Fold_finish l D X ad ca r4 S _) cd_Fold_finish gw_399 ⟨Nat.le_of_ble_eq_true rfl, Nat.le_of_ble_eq_true rfl⟩ ⟨Nat.zero_le _, Nat.zero_le _⟩ rfl rfl hl.1 (Nat.le_of_ble_eq_true rfl) d_Message_meaning_39) (fun H locs (hW : Wd D clQ A s.heap (zw X ad TQ (cfQ ad ca) S) H locs) => ?_)
  exact z_lret (v := r5) hy hW (congrArg (fun z => (z, S)) hr.symm) d_Message_meaning_42
def f_Message_meaning (i0 : Nat) (j0 : Nat) (S : St) : Int64 :=
  lt (f_Fold_absorb (-7046029254386353131 : Int64) ((S.1 14 i0 j0 1).toInt64) S) fun (r1 : Int64) =>
  if (S.1 14 i0 j0 1) = (3 : Int32) then
    lt (f_Fold_absorb r1 ((S.1 14 i0 j0 4).toInt64) S) fun (r3 : Int64) =>
    f_Message_meaning_30 i0 j0 S r3
  else
    f_Message_meaning_30 i0 j0 S r1
def ok_Message_meaning (i0 : Nat) (j0 : Nat) (S : St) : Prop :=
  lt (f_Fold_absorb (-7046029254386353131 : Int64) ((S.1 14 i0 j0 1).toInt64) S) fun (r1 : Int64) =>
  ((S.1 14 i0 j0 1) = (3 : Int32) → (
    lt (f_Fold_absorb r1 ((S.1 14 i0 j0 4).toInt64) S) fun (r3 : Int64) =>
    ok_Message_meaning_30 i0 j0 S r3)) ∧ (¬ ((S.1 14 i0 j0 1) = (3 : Int32)) → (
    ok_Message_meaning_30 i0 j0 S r1))
set_option maxHeartbeats 4000000 in
set_option maxRecDepth 100000 in
theorem c_Message_meaning (l : Launch) (D : va_G) (X : va_W) (ad : N3 → Nat) (ca : Nat → ClassId) (i0 : Nat) (j0 : Nat) (h0 : inM i0 j0) (S : St) (hk : ok_Message_meaning i0 j0 S) : cL l GG D clQ (tysQ ca) nwQ X ad TQ (cfQ ad ca) y_Message_meaning b_Message_meaning 3 .long 1 25 [.ref (ad (14, i0, j0))] S ((f_Message_meaning i0 j0 S), S) := by
  generalize hr : f_Message_meaning i0 j0 S = res
  refine zL_of pn_Message (Nat.le_of_ble_eq_true rfl) (fun p e s m below meth c A ls hy hW hA hl => ?_)
  have hF := hy.1
  have hx := hF.1
  have hb := hF.2.1
  have hK := hy.2.2.2
  have hl : lv_has ls 3 [(0, .ref (ad (14, i0, j0)))] := hl
  refine lv_ldc2 (pc := 0) hx hb hF.2.2.2.1 (hF.2.2.2.2 _ gw_397) d_Message_meaning_0 ?_
  refine lv_aload_n (pc := 3) hx hb d_Message_meaning_3 rfl (lv_at hl 0 rfl) ?_
  refine z_get (pc := 4) (v := .int (S.1 14 i0 j0 1)) hF hK.1 hW (tq14 h0) rfl rfl in_Message 1 (by decide) gw_139 rfl rfl d_Message_meaning_4 ?_
  refine lv_i2l (pc := 7) hx hb d_Message_meaning_7 rfl ?_
  obtain ⟨r1, er1⟩ : ∃ z : Int64, z = f_Fold_absorb (-7046029254386353131 : Int64) ((S.1 14 i0 j0 1).toInt64) S := ⟨_, rfl⟩
  have hk := lt_p er1 hk
  have hr := lt_e er1 hr
  refine z_goL (pc := 8) hW hA (congrArg (fun q => (q, S)) er1) (z_runS hF hK hW (c_Fold_absorb l D X ad ca (-7046029254386353131 : Int64) ((S.1 14 i0 j0 1).toInt64) S _) cd_Fold_absorb gw_398 ⟨Nat.le_of_ble_eq_true rfl, Nat.le_of_ble_eq_true rfl⟩ ⟨Nat.zero_le _, Nat.zero_le _⟩ rfl rfl hl.1 (Nat.le_of_ble_eq_true rfl) d_Message_meaning_8) (fun H locs (hW : Wd D clQ A s.heap (zw X ad TQ (cfQ ad ca) S) H locs) => ?_)
  refine lv_lstore_n (pc := 11) (lv' := [(1, .long r1), (0, .ref (ad (14, i0, j0)))]) hx hb d_Message_meaning_11 rfl hl (by decide) rfl (fun ls hl => ?_)
  refine lv_aload_n (pc := 12) hx hb d_Message_meaning_12 rfl (lv_at hl 1 rfl) ?_
  refine z_get (pc := 13) (v := .int (S.1 14 i0 j0 1)) hF hK.1 hW (tq14 h0) rfl rfl in_Message 1 (by decide) gw_139 rfl rfl d_Message_meaning_13 ?_
  refine lv_iconst (pc := 16) (v := 3) hx hb d_Message_meaning_16 (by decide) ?_
  refine lv_icmp_ne (pc := 17) (tgt := 30) hx hb d_Message_meaning_17 (by decide) (fun c2 => ?_) (fun c2 => ?_)
  · have hk := hk.2 c2
    have hr := (if_neg c2).symm.trans hr
    exact w_Message_meaning_30 i0 j0 h0 S hy hA r1 hk hr _ _ _ hW (lv_sub hl [1, 0] rfl)
  · have hk := hk.1 c2
    have hr := (if_pos c2).symm.trans hr
    refine lv_lload_n (pc := 20) hx hb d_Message_meaning_20 rfl (lv_at hl 0 rfl) ?_
    refine lv_aload_n (pc := 21) hx hb d_Message_meaning_21 rfl (lv_at hl 1 rfl) ?_
    refine z_get (pc := 22) (v := .int (S.1 14 i0 j0 4)) hF hK.1 hW (tq14 h0) rfl rfl in_Message 4 (by decide) gw_145 rfl rfl d_Message_meaning_22 ?_
    refine lv_i2l (pc := 25) hx hb d_Message_meaning_25 rfl ?_
    obtain ⟨r3, er3⟩ : ∃ z : Int64, z = f_Fold_absorb r1 ((S.1 14 i0 j0 4).toInt64) S := ⟨_, rfl⟩
    have hk := lt_p er3 hk
    have hr := lt_e er3 hr
    refine z_goL (pc := 26) hW hA (congrArg (fun q => (q, S)) er3) (z_runS hF hK hW (c_Fold_absorb l D X ad ca r1 ((S.1 14 i0 j0 4).toInt64) S _) cd_Fold_absorb gw_398 ⟨Nat.le_of_ble_eq_true rfl, Nat.le_of_ble_eq_true rfl⟩ ⟨Nat.zero_le _, Nat.zero_le _⟩ rfl rfl hl.1 (Nat.le_of_ble_eq_true rfl) d_Message_meaning_26) (fun H locs (hW : Wd D clQ A s.heap (zw X ad TQ (cfQ ad ca) S) H locs) => ?_)
    refine lv_lstore_n (pc := 29) (lv' := [(1, .long r3), (0, .ref (ad (14, i0, j0)))]) hx hb d_Message_meaning_29 rfl hl (by decide) rfl (fun ls hl => ?_)
    exact w_Message_meaning_30 i0 j0 h0 S hy hA r3 hk hr _ _ _ hW (lv_sub hl [1, 0] rfl)
theorem d_KeyTree_digit_0 : decode b_KeyTree_digit 0 = .ok (.iload_n 0, 1) := by decide +kernel
theorem d_KeyTree_digit_1 : decode b_KeyTree_digit 1 = .ok (.iconst 4, 1) := by decide +kernel
theorem d_KeyTree_digit_2 : decode b_KeyTree_digit 2 = .ok (.iload_n 1, 1) := by decide +kernel
theorem d_KeyTree_digit_3 : decode b_KeyTree_digit 3 = .ok (.imul, 1) := by decide +kernel
theorem d_KeyTree_digit_4 : decode b_KeyTree_digit 4 = .ok (.iushr, 1) := by decide +kernel
theorem d_KeyTree_digit_5 : decode b_KeyTree_digit 5 = .ok (.bipush 15, 2) := by decide +kernel
theorem d_KeyTree_digit_7 : decode b_KeyTree_digit 7 = .ok (.iand, 1) := by decide +kernel
theorem d_KeyTree_digit_8 : decode b_KeyTree_digit 8 = .ok (.ireturn, 1) := by decide +kernel
def f_KeyTree_digit (a0 : Int32) (a1 : Int32) (S : St) : Int32 :=
  ((a0.toUInt32 >>> (((4 : Int32) * a1).toUInt32 &&& Int32.toUInt32 31)).toInt32) &&& (15 : Int32)
set_option maxHeartbeats 4000000 in
set_option maxRecDepth 100000 in
theorem c_KeyTree_digit (l : Launch) (D : va_G) (X : va_W) (ad : N3 → Nat) (ca : Nat → ClassId) (a0 : Int32) (a1 : Int32)  (S : St) : cI l GG D clQ (tysQ ca) nwQ X ad TQ (cfQ ad ca) y_KeyTree_digit b_KeyTree_digit 2 .int 0 0 [.int a0, .int a1] S ((f_KeyTree_digit a0 a1 S), S) := by
  generalize hr : f_KeyTree_digit a0 a1 S = res
  refine zI_of pn_KeyTree (Nat.le_of_ble_eq_true rfl) (fun p e s m below meth c A ls hy hW hA hl => ?_)
  have hF := hy.1
  have hx := hF.1
  have hb := hF.2.1
  have hK := hy.2.2.2
  have hl : lv_has ls 2 [(0, .int a0), (1, .int a1)] := hl
  refine lv_iload_n (pc := 0) hx hb d_KeyTree_digit_0 rfl (lv_at hl 0 rfl) ?_
  refine lv_iconst (pc := 1) (v := 4) hx hb d_KeyTree_digit_1 (by decide) ?_
  refine lv_iload_n (pc := 2) hx hb d_KeyTree_digit_2 rfl (lv_at hl 1 rfl) ?_
  refine lv_imul (pc := 3) hx hb d_KeyTree_digit_3 ?_
  refine lv_iushr (pc := 4) hx hb d_KeyTree_digit_4 rfl ?_
  refine lv_bipush (pc := 5) (v := 15) hx hb d_KeyTree_digit_5 (by decide) ?_
  refine lv_iand (pc := 7) hx hb d_KeyTree_digit_7 ?_
  exact z_iret (v := ((a0.toUInt32 >>> (((4 : Int32) * a1).toUInt32 &&& Int32.toUInt32 31)).toInt32) &&& (15 : Int32)) hy hW (congrArg (fun z => (z, S)) hr.symm) d_KeyTree_digit_8
theorem d_KeyTree_digitsOf_0 : decode b_KeyTree_digitsOf 0 = .ok (.ldc2_w 67, 3) := by decide +kernel
theorem d_KeyTree_digitsOf_3 : decode b_KeyTree_digitsOf 3 = .ok (.lload_n 0, 1) := by decide +kernel
theorem d_KeyTree_digitsOf_4 : decode b_KeyTree_digitsOf 4 = .ok (.invokestatic 69, 3) := by decide +kernel
theorem d_KeyTree_digitsOf_7 : decode b_KeyTree_digitsOf 7 = .ok (.invokestatic 72, 3) := by decide +kernel
theorem d_KeyTree_digitsOf_10 : decode b_KeyTree_digitsOf 10 = .ok (.ldc2_w 79, 3) := by decide +kernel
theorem d_KeyTree_digitsOf_13 : decode b_KeyTree_digitsOf 13 = .ok (.land, 1) := by decide +kernel
theorem d_KeyTree_digitsOf_14 : decode b_KeyTree_digitsOf 14 = .ok (.l2i, 1) := by decide +kernel
theorem d_KeyTree_digitsOf_15 : decode b_KeyTree_digitsOf 15 = .ok (.istore_n 2, 1) := by decide +kernel
theorem d_KeyTree_digitsOf_16 : decode b_KeyTree_digitsOf 16 = .ok (.iconst 0, 1) := by decide +kernel
theorem d_KeyTree_digitsOf_17 : decode b_KeyTree_digitsOf 17 = .ok (.istore_n 3, 1) := by decide +kernel
theorem d_KeyTree_digitsOf_18 : decode b_KeyTree_digitsOf 18 = .ok (.iconst 0, 1) := by decide +kernel
theorem d_KeyTree_digitsOf_19 : decode b_KeyTree_digitsOf 19 = .ok (.istore 4, 2) := by decide +kernel
theorem d_KeyTree_digitsOf_21 : decode b_KeyTree_digitsOf 21 = .ok (.iload 4, 2) := by decide +kernel
theorem d_KeyTree_digitsOf_23 : decode b_KeyTree_digitsOf 23 = .ok (.iconst 4, 1) := by decide +kernel
theorem d_KeyTree_digitsOf_24 : decode b_KeyTree_digitsOf 24 = .ok (.if_icmp .ge 18, 3) := by decide +kernel
theorem d_KeyTree_digitsOf_27 : decode b_KeyTree_digitsOf 27 = .ok (.iload_n 3, 1) := by decide +kernel
theorem d_KeyTree_digitsOf_28 : decode b_KeyTree_digitsOf 28 = .ok (.iload_n 2, 1) := by decide +kernel
theorem d_KeyTree_digitsOf_29 : decode b_KeyTree_digitsOf 29 = .ok (.iload 4, 2) := by decide +kernel
theorem d_KeyTree_digitsOf_31 : decode b_KeyTree_digitsOf 31 = .ok (.invokestatic 59, 3) := by decide +kernel
theorem d_KeyTree_digitsOf_34 : decode b_KeyTree_digitsOf 34 = .ok (.iadd, 1) := by decide +kernel
theorem d_KeyTree_digitsOf_35 : decode b_KeyTree_digitsOf 35 = .ok (.istore_n 3, 1) := by decide +kernel
theorem d_KeyTree_digitsOf_36 : decode b_KeyTree_digitsOf 36 = .ok (.iinc 4 1, 3) := by decide +kernel
theorem d_KeyTree_digitsOf_39 : decode b_KeyTree_digitsOf 39 = .ok (.goto (-18), 3) := by decide +kernel
theorem d_KeyTree_digitsOf_42 : decode b_KeyTree_digitsOf 42 = .ok (.iload_n 2, 1) := by decide +kernel
theorem d_KeyTree_digitsOf_43 : decode b_KeyTree_digitsOf 43 = .ok (.bipush 60, 2) := by decide +kernel
theorem d_KeyTree_digitsOf_45 : decode b_KeyTree_digitsOf 45 = .ok (.iload_n 3, 1) := by decide +kernel
theorem d_KeyTree_digitsOf_46 : decode b_KeyTree_digitsOf 46 = .ok (.isub, 1) := by decide +kernel
theorem d_KeyTree_digitsOf_47 : decode b_KeyTree_digitsOf 47 = .ok (.bipush 16, 2) := by decide +kernel
theorem d_KeyTree_digitsOf_49 : decode b_KeyTree_digitsOf 49 = .ok (.ishl, 1) := by decide +kernel
theorem d_KeyTree_digitsOf_50 : decode b_KeyTree_digitsOf 50 = .ok (.ior, 1) := by decide +kernel
theorem d_KeyTree_digitsOf_51 : decode b_KeyTree_digitsOf 51 = .ok (.ireturn, 1) := by decide +kernel
def f_KeyTree_digitsOf_21 (a0 : Int64) : Nat → St → Int32 → Int32 → Int32 → Int32
  | 0, _, _, _, _ => 0
  | n + 1, S, l2, l3, l4 =>
    if (4 : Int32) ≤ l4 then
      l2 ||| (((60 : Int32) - l3) <<< ((16 : Int32) &&& 31))
    else
      lt (f_KeyTree_digit l2 l4 S) fun (r4 : Int32) =>
      f_KeyTree_digitsOf_21 a0 n S l2 (l3 + r4) (l4 + (1 : Int32))
def ok_KeyTree_digitsOf_21 (a0 : Int64) : Nat → St → Int32 → Int32 → Int32 → Prop
  | 0, _, _, _, _ => False
  | n + 1, S, l2, l3, l4 =>
    ((4 : Int32) ≤ l4 → (
      True)) ∧ (¬ ((4 : Int32) ≤ l4) → (
      lt (f_KeyTree_digit l2 l4 S) fun (r4 : Int32) =>
      ok_KeyTree_digitsOf_21 a0 n S l2 (l3 + r4) (l4 + (1 : Int32))))
set_option maxHeartbeats 4000000 in
set_option maxRecDepth 100000 in
theorem w_KeyTree_digitsOf_21 {l : Launch} {D : va_G} {X : va_W} {ad : N3 → Nat} {ca : Nat → ClassId} (a0 : Int64)  (S : St) {p : Program} {e : Env} {s : State} {m : MethodId} {below : List Frame} {meth : Method} {c : Code} {A : Nat → Prop} (hy : Hy p s m ([.long a0] : List Value).toArray meth c b_KeyTree_digitsOf 5 (some .int) R_KeyTree GG D clQ (tysQ ca) nwQ) (hA : ∀ q, s.heap.size ≤ q → A q) {res : Int32} : ∀ (n : Nat) (l2 : Int32) (l3 : Int32) (l4 : Int32) , ok_KeyTree_digitsOf_21 a0 n S l2 l3 l4 → f_KeyTree_digitsOf_21 a0 n S l2 l3 l4 = res → ∀ (H : Heap) (locs : List Loc) (ls : Array Slot), Wd D clQ A s.heap (zw X ad TQ (cfQ ad ca) S) H locs → lv_has ls 5 [(2, .int l2), (3, .int l3), (4, .int l4)] → W p l e { frames := 1, cells := 0, slots := 0, locals := 25 } s m ([.long a0] : List Value).toArray below meth c H locs 0 0 (MQ below (eI D clQ X ad TQ (cfQ ad ca) A (res, S)) ([.long a0] : List Value).toArray s 0 0 A) (F0 m 21 ls []) := by
  have hF := hy.1
  have hx := hF.1
  have hb := hF.2.1
  have hK := hy.2.2.2
  intro n
  induction n with
  | zero =>
    intro l2 l3 l4 hk
    exact hk.elim
  | succ n ih =>
    intro l2 l3 l4 hk hr H locs ls hW hl
    refine lv_iload (pc := 21) hx hb d_KeyTree_digitsOf_21 (lv_at hl 2 rfl) ?_
    refine lv_iconst (pc := 23) (v := 4) hx hb d_KeyTree_digitsOf_23 (by decide) ?_
    refine lv_icmp_ge (pc := 24) (tgt := 42) hx hb d_KeyTree_digitsOf_24 (by decide) (fun c3 => ?_) (fun c3 => ?_)
    · have hk := hk.1 c3
      have hr := (if_pos c3).symm.trans hr
      refine lv_iload_n (pc := 42) hx hb d_KeyTree_digitsOf_42 rfl (lv_at hl 0 rfl) ?_
      refine lv_bipush (pc := 43) (v := 60) hx hb d_KeyTree_digitsOf_43 (by decide) ?_
      refine lv_iload_n (pc := 45) hx hb d_KeyTree_digitsOf_45 rfl (lv_at hl 1 rfl) ?_
      refine lv_isub (pc := 46) hx hb d_KeyTree_digitsOf_46 ?_
      refine lv_bipush (pc := 47) (v := 16) hx hb d_KeyTree_digitsOf_47 (by decide) ?_
      refine lv_ishl (pc := 49) hx hb d_KeyTree_digitsOf_49 ?_
      refine lv_ior (pc := 50) hx hb d_KeyTree_digitsOf_50 ?_
      exact z_iret (v := l2 ||| (((60 : Int32) - l3) <<< ((16 : Int32) &&& 31))) hy hW (congrArg (fun z => (z, S)) hr.symm) d_KeyTree_digitsOf_51
    · have hk := hk.2 c3
      have hr := (if_neg c3).symm.trans hr
      refine lv_iload_n (pc := 27) hx hb d_KeyTree_digitsOf_27 rfl (lv_at hl 1 rfl) ?_
      refine lv_iload_n (pc := 28) hx hb d_KeyTree_digitsOf_28 rfl (lv_at hl 0 rfl) ?_
      refine lv_iload (pc := 29) hx hb d_KeyTree_digitsOf_29 (lv_at hl 2 rfl) ?_
      obtain ⟨r4, er4⟩ : ∃ z : Int32, z = f_KeyTree_digit l2 l4 S := ⟨_, rfl⟩
      have hk := lt_p er4 hk
      have hr := lt_e er4 hr
      refine z_goI (pc := 31) hW hA (congrArg (fun q => (q, S)) er4) (z_runS hF hK hW (c_KeyTree_digit l D X ad ca l2 l4 S _) cd_KeyTree_digit gw_404 ⟨Nat.le_of_ble_eq_true rfl, Nat.le_of_ble_eq_true rfl⟩ ⟨Nat.zero_le _, Nat.zero_le _⟩ rfl rfl hl.1 (Nat.le_of_ble_eq_true rfl) d_KeyTree_digitsOf_31) (fun H locs (hW : Wd D clQ A s.heap (zw X ad TQ (cfQ ad ca) S) H locs) => ?_)
      refine lv_iadd (pc := 34) hx hb d_KeyTree_digitsOf_34 ?_
      refine lv_istore_n (pc := 35) (lv' := [(3, .int (l3 + r4)), (2, .int l2), (4, .int l4)]) hx hb d_KeyTree_digitsOf_35 rfl hl (by decide) rfl (fun ls hl => ?_)
      refine lv_iinc (pc := 36) (v := l4 + (1 : Int32)) (lv' := [(4, .int (l4 + (1 : Int32))), (3, .int (l3 + r4)), (2, .int l2)]) (k := 2) hx hb d_KeyTree_digitsOf_36 hl rfl (z_inc (by decide)) (by decide) rfl (fun ls hl => ?_)
      refine lv_goto (pc := 39) (tgt := 21) hx hb d_KeyTree_digitsOf_39 (by decide) ?_
      exact ih l2 (l3 + r4) (l4 + (1 : Int32)) hk hr _ _ _ hW (lv_sub hl [2, 1, 0] rfl)
def f_KeyTree_digitsOf (a0 : Int64) (S : St) : Int32 :=
  lt (f_Fold_absorb (-7046029254386353131 : Int64) a0 S) fun (r1 : Int64) =>
  lt (f_Fold_finish r1 S) fun (r2 : Int64) =>
  f_KeyTree_digitsOf_21 a0 200 S ((r2 &&& (65535 : Int64)).toInt32) (0 : Int32) (0 : Int32)
def ok_KeyTree_digitsOf (a0 : Int64) (S : St) : Prop :=
  lt (f_Fold_absorb (-7046029254386353131 : Int64) a0 S) fun (r1 : Int64) =>
  lt (f_Fold_finish r1 S) fun (r2 : Int64) =>
  ok_KeyTree_digitsOf_21 a0 200 S ((r2 &&& (65535 : Int64)).toInt32) (0 : Int32) (0 : Int32)
set_option maxHeartbeats 4000000 in
set_option maxRecDepth 100000 in
theorem c_KeyTree_digitsOf (l : Launch) (D : va_G) (X : va_W) (ad : N3 → Nat) (ca : Nat → ClassId) (a0 : Int64)  (S : St) (hk : ok_KeyTree_digitsOf a0 S) : cI l GG D clQ (tysQ ca) nwQ X ad TQ (cfQ ad ca) y_KeyTree_digitsOf b_KeyTree_digitsOf 5 .int 1 25 [.long a0] S ((f_KeyTree_digitsOf a0 S), S) := by
  generalize hr : f_KeyTree_digitsOf a0 S = res
  refine zI_of pn_KeyTree (Nat.le_of_ble_eq_true rfl) (fun p e s m below meth c A ls hy hW hA hl => ?_)
  have hF := hy.1
  have hx := hF.1
  have hb := hF.2.1
  have hK := hy.2.2.2
  have hl : lv_has ls 5 [(0, .long a0)] := hl
  refine lv_ldc2 (pc := 0) hx hb hF.2.2.2.1 (hF.2.2.2.2 _ gw_228) d_KeyTree_digitsOf_0 ?_
  refine lv_lload_n (pc := 3) hx hb d_KeyTree_digitsOf_3 rfl (lv_at hl 0 rfl) ?_
  obtain ⟨r1, er1⟩ : ∃ z : Int64, z = f_Fold_absorb (-7046029254386353131 : Int64) a0 S := ⟨_, rfl⟩
  have hk := lt_p er1 hk
  have hr := lt_e er1 hr
  refine z_goL (pc := 4) hW hA (congrArg (fun q => (q, S)) er1) (z_runS hF hK hW (c_Fold_absorb l D X ad ca (-7046029254386353131 : Int64) a0 S _) cd_Fold_absorb gw_232 ⟨Nat.le_of_ble_eq_true rfl, Nat.le_of_ble_eq_true rfl⟩ ⟨Nat.zero_le _, Nat.zero_le _⟩ rfl rfl hl.1 (Nat.le_of_ble_eq_true rfl) d_KeyTree_digitsOf_4) (fun H locs (hW : Wd D clQ A s.heap (zw X ad TQ (cfQ ad ca) S) H locs) => ?_)
  obtain ⟨r2, er2⟩ : ∃ z : Int64, z = f_Fold_finish r1 S := ⟨_, rfl⟩
  have hk := lt_p er2 hk
  have hr := lt_e er2 hr
  refine z_goL (pc := 7) hW hA (congrArg (fun q => (q, S)) er2) (z_runS hF hK hW (c_Fold_finish l D X ad ca r1 S _) cd_Fold_finish gw_236 ⟨Nat.le_of_ble_eq_true rfl, Nat.le_of_ble_eq_true rfl⟩ ⟨Nat.zero_le _, Nat.zero_le _⟩ rfl rfl hl.1 (Nat.le_of_ble_eq_true rfl) d_KeyTree_digitsOf_7) (fun H locs (hW : Wd D clQ A s.heap (zw X ad TQ (cfQ ad ca) S) H locs) => ?_)
  refine lv_ldc2 (pc := 10) hx hb hF.2.2.2.1 (hF.2.2.2.2 _ gw_403) d_KeyTree_digitsOf_10 ?_
  refine lv_land (pc := 13) hx hb d_KeyTree_digitsOf_13 ?_
  refine lv_l2i (pc := 14) hx hb d_KeyTree_digitsOf_14 rfl ?_
  refine lv_istore_n (pc := 15) (lv' := [(2, .int ((r2 &&& (65535 : Int64)).toInt32)), (0, .long a0)]) hx hb d_KeyTree_digitsOf_15 rfl hl (by decide) rfl (fun ls hl => ?_)
  refine lv_iconst (pc := 16) (v := 0) hx hb d_KeyTree_digitsOf_16 (by decide) ?_
  refine lv_istore_n (pc := 17) (lv' := [(3, .int (0 : Int32)), (2, .int ((r2 &&& (65535 : Int64)).toInt32)), (0, .long a0)]) hx hb d_KeyTree_digitsOf_17 rfl hl (by decide) rfl (fun ls hl => ?_)
  refine lv_iconst (pc := 18) (v := 0) hx hb d_KeyTree_digitsOf_18 (by decide) ?_
  refine lv_istore (pc := 19) (lv' := [(4, .int (0 : Int32)), (3, .int (0 : Int32)), (2, .int ((r2 &&& (65535 : Int64)).toInt32)), (0, .long a0)]) hx hb d_KeyTree_digitsOf_19 hl (by decide) rfl (fun ls hl => ?_)
  exact w_KeyTree_digitsOf_21 a0 S hy hA 200 ((r2 &&& (65535 : Int64)).toInt32) (0 : Int32) (0 : Int32) hk hr _ _ _ hW (lv_sub hl [2, 1, 0] rfl)
theorem d_KeyTree_secretOf_0 : decode b_KeyTree_secretOf 0 = .ok (.ldc2_w 67, 3) := by decide +kernel
theorem d_KeyTree_secretOf_3 : decode b_KeyTree_secretOf 3 = .ok (.iload_n 0, 1) := by decide +kernel
theorem d_KeyTree_secretOf_4 : decode b_KeyTree_secretOf 4 = .ok (.i2l, 1) := by decide +kernel
theorem d_KeyTree_secretOf_5 : decode b_KeyTree_secretOf 5 = .ok (.invokestatic 69, 3) := by decide +kernel
theorem d_KeyTree_secretOf_8 : decode b_KeyTree_secretOf 8 = .ok (.iload_n 1, 1) := by decide +kernel
theorem d_KeyTree_secretOf_9 : decode b_KeyTree_secretOf 9 = .ok (.i2l, 1) := by decide +kernel
theorem d_KeyTree_secretOf_10 : decode b_KeyTree_secretOf 10 = .ok (.invokestatic 69, 3) := by decide +kernel
theorem d_KeyTree_secretOf_13 : decode b_KeyTree_secretOf 13 = .ok (.lstore 4, 2) := by decide +kernel
theorem d_KeyTree_secretOf_15 : decode b_KeyTree_secretOf 15 = .ok (.lload 4, 2) := by decide +kernel
theorem d_KeyTree_secretOf_17 : decode b_KeyTree_secretOf 17 = .ok (.iload_n 2, 1) := by decide +kernel
theorem d_KeyTree_secretOf_18 : decode b_KeyTree_secretOf 18 = .ok (.i2l, 1) := by decide +kernel
theorem d_KeyTree_secretOf_19 : decode b_KeyTree_secretOf 19 = .ok (.invokestatic 69, 3) := by decide +kernel
theorem d_KeyTree_secretOf_22 : decode b_KeyTree_secretOf 22 = .ok (.iload_n 3, 1) := by decide +kernel
theorem d_KeyTree_secretOf_23 : decode b_KeyTree_secretOf 23 = .ok (.i2l, 1) := by decide +kernel
theorem d_KeyTree_secretOf_24 : decode b_KeyTree_secretOf 24 = .ok (.invokestatic 69, 3) := by decide +kernel
theorem d_KeyTree_secretOf_27 : decode b_KeyTree_secretOf 27 = .ok (.invokestatic 72, 3) := by decide +kernel
theorem d_KeyTree_secretOf_30 : decode b_KeyTree_secretOf 30 = .ok (.lreturn, 1) := by decide +kernel
def f_KeyTree_secretOf (a0 : Int32) (a1 : Int32) (a2 : Int32) (a3 : Int32) (S : St) : Int64 :=
  lt (f_Fold_absorb (-7046029254386353131 : Int64) a0.toInt64 S) fun (r1 : Int64) =>
  lt (f_Fold_absorb r1 a1.toInt64 S) fun (r2 : Int64) =>
  lt (f_Fold_absorb r2 a2.toInt64 S) fun (r3 : Int64) =>
  lt (f_Fold_absorb r3 a3.toInt64 S) fun (r4 : Int64) =>
  lt (f_Fold_finish r4 S) fun (r5 : Int64) =>
  r5
set_option maxHeartbeats 4000000 in
set_option maxRecDepth 100000 in
theorem c_KeyTree_secretOf (l : Launch) (D : va_G) (X : va_W) (ad : N3 → Nat) (ca : Nat → ClassId) (a0 : Int32) (a1 : Int32) (a2 : Int32) (a3 : Int32)  (S : St) : cL l GG D clQ (tysQ ca) nwQ X ad TQ (cfQ ad ca) y_KeyTree_secretOf b_KeyTree_secretOf 6 .long 1 25 [.int a0, .int a1, .int a2, .int a3] S ((f_KeyTree_secretOf a0 a1 a2 a3 S), S) := by
  generalize hr : f_KeyTree_secretOf a0 a1 a2 a3 S = res
  refine zL_of pn_KeyTree (Nat.le_of_ble_eq_true rfl) (fun p e s m below meth c A ls hy hW hA hl => ?_)
  have hF := hy.1
  have hx := hF.1
  have hb := hF.2.1
  have hK := hy.2.2.2
  have hl : lv_has ls 6 [(0, .int a0), (1, .int a1), (2, .int a2), (3, .int a3)] := hl
  refine lv_ldc2 (pc := 0) hx hb hF.2.2.2.1 (hF.2.2.2.2 _ gw_228) d_KeyTree_secretOf_0 ?_
  refine lv_iload_n (pc := 3) hx hb d_KeyTree_secretOf_3 rfl (lv_at hl 0 rfl) ?_
  refine lv_i2l (pc := 4) hx hb d_KeyTree_secretOf_4 rfl ?_
  obtain ⟨r1, er1⟩ : ∃ z : Int64, z = f_Fold_absorb (-7046029254386353131 : Int64) a0.toInt64 S := ⟨_, rfl⟩
  have hr := lt_e er1 hr
  refine z_goL (pc := 5) hW hA (congrArg (fun q => (q, S)) er1) (z_runS hF hK hW (c_Fold_absorb l D X ad ca (-7046029254386353131 : Int64) a0.toInt64 S _) cd_Fold_absorb gw_232 ⟨Nat.le_of_ble_eq_true rfl, Nat.le_of_ble_eq_true rfl⟩ ⟨Nat.zero_le _, Nat.zero_le _⟩ rfl rfl hl.1 (Nat.le_of_ble_eq_true rfl) d_KeyTree_secretOf_5) (fun H locs (hW : Wd D clQ A s.heap (zw X ad TQ (cfQ ad ca) S) H locs) => ?_)
  refine lv_iload_n (pc := 8) hx hb d_KeyTree_secretOf_8 rfl (lv_at hl 1 rfl) ?_
  refine lv_i2l (pc := 9) hx hb d_KeyTree_secretOf_9 rfl ?_
  obtain ⟨r2, er2⟩ : ∃ z : Int64, z = f_Fold_absorb r1 a1.toInt64 S := ⟨_, rfl⟩
  have hr := lt_e er2 hr
  refine z_goL (pc := 10) hW hA (congrArg (fun q => (q, S)) er2) (z_runS hF hK hW (c_Fold_absorb l D X ad ca r1 a1.toInt64 S _) cd_Fold_absorb gw_232 ⟨Nat.le_of_ble_eq_true rfl, Nat.le_of_ble_eq_true rfl⟩ ⟨Nat.zero_le _, Nat.zero_le _⟩ rfl rfl hl.1 (Nat.le_of_ble_eq_true rfl) d_KeyTree_secretOf_10) (fun H locs (hW : Wd D clQ A s.heap (zw X ad TQ (cfQ ad ca) S) H locs) => ?_)
  refine lv_lstore (pc := 13) (lv' := [(4, .long r2), (0, .int a0), (1, .int a1), (2, .int a2), (3, .int a3)]) hx hb d_KeyTree_secretOf_13 hl (by decide) rfl (fun ls hl => ?_)
  refine lv_lload (pc := 15) hx hb d_KeyTree_secretOf_15 (lv_at hl 0 rfl) ?_
  refine lv_iload_n (pc := 17) hx hb d_KeyTree_secretOf_17 rfl (lv_at hl 3 rfl) ?_
  refine lv_i2l (pc := 18) hx hb d_KeyTree_secretOf_18 rfl ?_
  obtain ⟨r3, er3⟩ : ∃ z : Int64, z = f_Fold_absorb r2 a2.toInt64 S := ⟨_, rfl⟩
  have hr := lt_e er3 hr
  refine z_goL (pc := 19) hW hA (congrArg (fun q => (q, S)) er3) (z_runS hF hK hW (c_Fold_absorb l D X ad ca r2 a2.toInt64 S _) cd_Fold_absorb gw_232 ⟨Nat.le_of_ble_eq_true rfl, Nat.le_of_ble_eq_true rfl⟩ ⟨Nat.zero_le _, Nat.zero_le _⟩ rfl rfl hl.1 (Nat.le_of_ble_eq_true rfl) d_KeyTree_secretOf_19) (fun H locs (hW : Wd D clQ A s.heap (zw X ad TQ (cfQ ad ca) S) H locs) => ?_)
  refine lv_iload_n (pc := 22) hx hb d_KeyTree_secretOf_22 rfl (lv_at hl 4 rfl) ?_
  refine lv_i2l (pc := 23) hx hb d_KeyTree_secretOf_23 rfl ?_
  obtain ⟨r4, er4⟩ : ∃ z : Int64, z = f_Fold_absorb r3 a3.toInt64 S := ⟨_, rfl⟩
  have hr := lt_e er4 hr
  refine z_goL (pc := 24) hW hA (congrArg (fun q => (q, S)) er4) (z_runS hF hK hW (c_Fold_absorb l D X ad ca r3 a3.toInt64 S _) cd_Fold_absorb gw_232 ⟨Nat.le_of_ble_eq_true rfl, Nat.le_of_ble_eq_true rfl⟩ ⟨Nat.zero_le _, Nat.zero_le _⟩ rfl rfl hl.1 (Nat.le_of_ble_eq_true rfl) d_KeyTree_secretOf_24) (fun H locs (hW : Wd D clQ A s.heap (zw X ad TQ (cfQ ad ca) S) H locs) => ?_)
  obtain ⟨r5, er5⟩ : ∃ z : Int64, z = f_Fold_finish r4 S := ⟨_, rfl⟩
  have hr := lt_e er5 hr
  refine z_goL (pc := 27) hW hA (congrArg (fun q => (q, S)) er5) (z_runS hF hK hW (c_Fold_finish l D X ad ca r4 S _) cd_Fold_finish gw_236 ⟨Nat.le_of_ble_eq_true rfl, Nat.le_of_ble_eq_true rfl⟩ ⟨Nat.zero_le _, Nat.zero_le _⟩ rfl rfl hl.1 (Nat.le_of_ble_eq_true rfl) d_KeyTree_secretOf_27) (fun H locs (hW : Wd D clQ A s.heap (zw X ad TQ (cfQ ad ca) S) H locs) => ?_)
  exact z_lret (v := r5) hy hW (congrArg (fun z => (z, S)) hr.symm) d_KeyTree_secretOf_30
end
