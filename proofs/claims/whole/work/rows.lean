section
-- ===== PART A: goes FIRST, ahead of the names: the tables' words, and 'selects' of the private methods out of them =====
/-- a private method of a class that the tables say can be made, by its rows of tables_1 -/
def lw_okq (q : MethodName × Nat) : Prop := (q.1.cls ≠ "java/lang/invoke/MethodHandle" ∧ q.1.cls ≠ "java/lang/invoke/VarHandle") ∧ Cond.instantiable q.1.cls q.2 ∈ tables_1 ∧ Cond.privateMethod q.1 ∈ tables_1 ∧ Cond.instanceMethod q.1 ∈ tables_1
theorem lw_p0 : lw_okq (⟨"QuorumChain", "countDown", "(LQuorumChain$Node;)V"⟩, 7) := ⟨⟨by decide +kernel, by decide +kernel⟩, List.mem_of_getElem? (i := 22) (by decide +kernel), List.mem_of_getElem? (i := 320) (by decide +kernel), List.mem_of_getElem? (i := 321) (by decide +kernel)⟩
theorem lw_p1 : lw_okq (⟨"QuorumChain", "writeSigned", "(LQuorumChain$Node;III)Z"⟩, 7) := ⟨⟨by decide +kernel, by decide +kernel⟩, List.mem_of_getElem? (i := 22) (by decide +kernel), List.mem_of_getElem? (i := 327) (by decide +kernel), List.mem_of_getElem? (i := 328) (by decide +kernel)⟩
theorem lw_p2 : lw_okq (⟨"QuorumChain", "sendDraftToAll", "()V"⟩, 7) := ⟨⟨by decide +kernel, by decide +kernel⟩, List.mem_of_getElem? (i := 22) (by decide +kernel), List.mem_of_getElem? (i := 357) (by decide +kernel), List.mem_of_getElem? (i := 358) (by decide +kernel)⟩
theorem lw_p3 : lw_okq (⟨"QuorumChain", "nodesThatHave", "(I)I"⟩, 7) := ⟨⟨by decide +kernel, by decide +kernel⟩, List.mem_of_getElem? (i := 22) (by decide +kernel), List.mem_of_getElem? (i := 423) (by decide +kernel), List.mem_of_getElem? (i := 424) (by decide +kernel)⟩
theorem lw_p4 : lw_okq (⟨"java/lang/Throwable", "fillInStackTrace", "(I)Ljava/lang/Throwable;"⟩, 6) := ⟨⟨by decide +kernel, by decide +kernel⟩, List.mem_of_getElem? (i := 496) (by decide +kernel), List.mem_of_getElem? (i := 494) (by decide +kernel), List.mem_of_getElem? (i := 495) (by decide +kernel)⟩
theorem lw_p5 : lw_okq (⟨"QuorumChain", "propose", "(LQuorumChain$Node;)V"⟩, 7) := ⟨⟨by decide +kernel, by decide +kernel⟩, List.mem_of_getElem? (i := 22) (by decide +kernel), List.mem_of_getElem? (i := 572) (by decide +kernel), List.mem_of_getElem? (i := 573) (by decide +kernel)⟩
theorem lw_p6 : lw_okq (⟨"QuorumChain", "firstNewTransaction", "(LQuorumChain$Node;)I"⟩, 7) := ⟨⟨by decide +kernel, by decide +kernel⟩, List.mem_of_getElem? (i := 22) (by decide +kernel), List.mem_of_getElem? (i := 576) (by decide +kernel), List.mem_of_getElem? (i := 577) (by decide +kernel)⟩
theorem lw_p7 : lw_okq (⟨"QuorumChain", "isHeard", "(LQuorumChain$Message;)Z"⟩, 7) := ⟨⟨by decide +kernel, by decide +kernel⟩, List.mem_of_getElem? (i := 22) (by decide +kernel), List.mem_of_getElem? (i := 616) (by decide +kernel), List.mem_of_getElem? (i := 617) (by decide +kernel)⟩
theorem lw_p8 : lw_okq (⟨"QuorumChain", "receiveProposal", "(LQuorumChain$Node;II)V"⟩, 7) := ⟨⟨by decide +kernel, by decide +kernel⟩, List.mem_of_getElem? (i := 22) (by decide +kernel), List.mem_of_getElem? (i := 628) (by decide +kernel), List.mem_of_getElem? (i := 629) (by decide +kernel)⟩
theorem lw_p9 : lw_okq (⟨"QuorumChain", "sendUnsigned", "(LQuorumChain$Node;III)V"⟩, 7) := ⟨⟨by decide +kernel, by decide +kernel⟩, List.mem_of_getElem? (i := 22) (by decide +kernel), List.mem_of_getElem? (i := 632) (by decide +kernel), List.mem_of_getElem? (i := 633) (by decide +kernel)⟩
theorem lw_p10 : lw_okq (⟨"QuorumChain", "takeAsCertified", "(LQuorumChain$Node;I)V"⟩, 7) := ⟨⟨by decide +kernel, by decide +kernel⟩, List.mem_of_getElem? (i := 22) (by decide +kernel), List.mem_of_getElem? (i := 636) (by decide +kernel), List.mem_of_getElem? (i := 637) (by decide +kernel)⟩
theorem lw_p11 : lw_okq (⟨"QuorumChain", "raiseHigh", "(LQuorumChain$Node;I)V"⟩, 7) := ⟨⟨by decide +kernel, by decide +kernel⟩, List.mem_of_getElem? (i := 22) (by decide +kernel), List.mem_of_getElem? (i := 640) (by decide +kernel), List.mem_of_getElem? (i := 641) (by decide +kernel)⟩
theorem lw_p12 : lw_okq (⟨"QuorumChain", "commitUpTo", "(LQuorumChain$Store;I)V"⟩, 7) := ⟨⟨by decide +kernel, by decide +kernel⟩, List.mem_of_getElem? (i := 22) (by decide +kernel), List.mem_of_getElem? (i := 653) (by decide +kernel), List.mem_of_getElem? (i := 654) (by decide +kernel)⟩
theorem lw_p13 : lw_okq (⟨"QuorumChain", "mayVoteFor", "(LQuorumChain$Node;II)Z"⟩, 7) := ⟨⟨by decide +kernel, by decide +kernel⟩, List.mem_of_getElem? (i := 22) (by decide +kernel), List.mem_of_getElem? (i := 676) (by decide +kernel), List.mem_of_getElem? (i := 677) (by decide +kernel)⟩
theorem lw_p14 : lw_okq (⟨"QuorumChain", "voteFor", "(LQuorumChain$Node;II)V"⟩, 7) := ⟨⟨by decide +kernel, by decide +kernel⟩, List.mem_of_getElem? (i := 22) (by decide +kernel), List.mem_of_getElem? (i := 685) (by decide +kernel), List.mem_of_getElem? (i := 686) (by decide +kernel)⟩
theorem lw_p15 : lw_okq (⟨"QuorumChain", "receiveVote", "(LQuorumChain$Node;II)V"⟩, 7) := ⟨⟨by decide +kernel, by decide +kernel⟩, List.mem_of_getElem? (i := 22) (by decide +kernel), List.mem_of_getElem? (i := 693) (by decide +kernel), List.mem_of_getElem? (i := 694) (by decide +kernel)⟩
def lw_privs_1 : List (MethodName × Nat) := [(⟨"QuorumChain", "countDown", "(LQuorumChain$Node;)V"⟩, 7), (⟨"QuorumChain", "writeSigned", "(LQuorumChain$Node;III)Z"⟩, 7), (⟨"QuorumChain", "sendDraftToAll", "()V"⟩, 7), (⟨"QuorumChain", "nodesThatHave", "(I)I"⟩, 7), (⟨"java/lang/Throwable", "fillInStackTrace", "(I)Ljava/lang/Throwable;"⟩, 6), (⟨"QuorumChain", "propose", "(LQuorumChain$Node;)V"⟩, 7), (⟨"QuorumChain", "firstNewTransaction", "(LQuorumChain$Node;)I"⟩, 7), (⟨"QuorumChain", "isHeard", "(LQuorumChain$Message;)Z"⟩, 7), (⟨"QuorumChain", "receiveProposal", "(LQuorumChain$Node;II)V"⟩, 7), (⟨"QuorumChain", "sendUnsigned", "(LQuorumChain$Node;III)V"⟩, 7), (⟨"QuorumChain", "takeAsCertified", "(LQuorumChain$Node;I)V"⟩, 7), (⟨"QuorumChain", "raiseHigh", "(LQuorumChain$Node;I)V"⟩, 7), (⟨"QuorumChain", "commitUpTo", "(LQuorumChain$Store;I)V"⟩, 7), (⟨"QuorumChain", "mayVoteFor", "(LQuorumChain$Node;II)Z"⟩, 7), (⟨"QuorumChain", "voteFor", "(LQuorumChain$Node;II)V"⟩, 7), (⟨"QuorumChain", "receiveVote", "(LQuorumChain$Node;II)V"⟩, 7)]
theorem lw_r1 : ∀ q ∈ lw_privs_1, lw_okq q := List.forall_mem_cons.mpr ⟨lw_p0, List.forall_mem_cons.mpr ⟨lw_p1, List.forall_mem_cons.mpr ⟨lw_p2, List.forall_mem_cons.mpr ⟨lw_p3, List.forall_mem_cons.mpr ⟨lw_p4, List.forall_mem_cons.mpr ⟨lw_p5, List.forall_mem_cons.mpr ⟨lw_p6, List.forall_mem_cons.mpr ⟨lw_p7, List.forall_mem_cons.mpr ⟨lw_p8, List.forall_mem_cons.mpr ⟨lw_p9, List.forall_mem_cons.mpr ⟨lw_p10, List.forall_mem_cons.mpr ⟨lw_p11, List.forall_mem_cons.mpr ⟨lw_p12, List.forall_mem_cons.mpr ⟨lw_p13, List.forall_mem_cons.mpr ⟨lw_p14, List.forall_mem_cons.mpr ⟨lw_p15, fun _ h => absurd h List.not_mem_nil⟩⟩⟩⟩⟩⟩⟩⟩⟩⟩⟩⟩⟩⟩⟩⟩
theorem lw_p16 : lw_okq (⟨"QuorumChain", "receiveTimeout", "(LQuorumChain$Node;III)V"⟩, 7) := ⟨⟨by decide +kernel, by decide +kernel⟩, List.mem_of_getElem? (i := 22) (by decide +kernel), List.mem_of_getElem? (i := 711) (by decide +kernel), List.mem_of_getElem? (i := 712) (by decide +kernel)⟩
theorem lw_p17 : lw_okq (⟨"QuorumChain", "receiveAsk", "(LQuorumChain$Node;II)V"⟩, 7) := ⟨⟨by decide +kernel, by decide +kernel⟩, List.mem_of_getElem? (i := 22) (by decide +kernel), List.mem_of_getElem? (i := 715) (by decide +kernel), List.mem_of_getElem? (i := 716) (by decide +kernel)⟩
theorem lw_p18 : lw_okq (⟨"QuorumChain", "receiveBlock", "(LQuorumChain$Node;II)V"⟩, 7) := ⟨⟨by decide +kernel, by decide +kernel⟩, List.mem_of_getElem? (i := 22) (by decide +kernel), List.mem_of_getElem? (i := 719) (by decide +kernel), List.mem_of_getElem? (i := 720) (by decide +kernel)⟩
theorem lw_p19 : lw_okq (⟨"QuorumChain", "highestParent", "(LQuorumChain$Store;)I"⟩, 7) := ⟨⟨by decide +kernel, by decide +kernel⟩, List.mem_of_getElem? (i := 22) (by decide +kernel), List.mem_of_getElem? (i := 786) (by decide +kernel), List.mem_of_getElem? (i := 787) (by decide +kernel)⟩
theorem lw_p20 : lw_okq (⟨"QuorumChainModel", "secret", "(III)J"⟩, 43) := ⟨⟨by decide +kernel, by decide +kernel⟩, List.mem_of_getElem? (i := 796) (by decide +kernel), List.mem_of_getElem? (i := 802) (by decide +kernel), List.mem_of_getElem? (i := 803) (by decide +kernel)⟩
theorem lw_p21 : lw_okq (⟨"QuorumChainModel", "start", "()V"⟩, 43) := ⟨⟨by decide +kernel, by decide +kernel⟩, List.mem_of_getElem? (i := 796) (by decide +kernel), List.mem_of_getElem? (i := 806) (by decide +kernel), List.mem_of_getElem? (i := 807) (by decide +kernel)⟩
theorem lw_p22 : lw_okq (⟨"QuorumChainModel", "add", "(J)V"⟩, 43) := ⟨⟨by decide +kernel, by decide +kernel⟩, List.mem_of_getElem? (i := 796) (by decide +kernel), List.mem_of_getElem? (i := 811) (by decide +kernel), List.mem_of_getElem? (i := 812) (by decide +kernel)⟩
theorem lw_p23 : lw_okq (⟨"QuorumChainModel", "end", "()J"⟩, 43) := ⟨⟨by decide +kernel, by decide +kernel⟩, List.mem_of_getElem? (i := 796) (by decide +kernel), List.mem_of_getElem? (i := 816) (by decide +kernel), List.mem_of_getElem? (i := 817) (by decide +kernel)⟩
theorem lw_p24 : lw_okq (⟨"QuorumChainModel", "after", "(JI)J"⟩, 43) := ⟨⟨by decide +kernel, by decide +kernel⟩, List.mem_of_getElem? (i := 796) (by decide +kernel), List.mem_of_getElem? (i := 821) (by decide +kernel), List.mem_of_getElem? (i := 822) (by decide +kernel)⟩
theorem lw_p25 : lw_okq (⟨"QuorumChainModel", "two", "(JJ)J"⟩, 43) := ⟨⟨by decide +kernel, by decide +kernel⟩, List.mem_of_getElem? (i := 796) (by decide +kernel), List.mem_of_getElem? (i := 826) (by decide +kernel), List.mem_of_getElem? (i := 827) (by decide +kernel)⟩
theorem lw_p26 : lw_okq (⟨"QuorumChainModel", "leaf", "()J"⟩, 43) := ⟨⟨by decide +kernel, by decide +kernel⟩, List.mem_of_getElem? (i := 796) (by decide +kernel), List.mem_of_getElem? (i := 830) (by decide +kernel), List.mem_of_getElem? (i := 831) (by decide +kernel)⟩
theorem lw_p27 : lw_okq (⟨"QuorumChainModel", "land", "(I)V"⟩, 43) := ⟨⟨by decide +kernel, by decide +kernel⟩, List.mem_of_getElem? (i := 796) (by decide +kernel), List.mem_of_getElem? (i := 975) (by decide +kernel), List.mem_of_getElem? (i := 976) (by decide +kernel)⟩
theorem lw_p28 : lw_okq (⟨"QuorumChainModel", "copyMessage", "(II)V"⟩, 43) := ⟨⟨by decide +kernel, by decide +kernel⟩, List.mem_of_getElem? (i := 796) (by decide +kernel), List.mem_of_getElem? (i := 979) (by decide +kernel), List.mem_of_getElem? (i := 980) (by decide +kernel)⟩
theorem lw_p29 : lw_okq (⟨"QuorumChainModel", "send", "(IIIII)V"⟩, 43) := ⟨⟨by decide +kernel, by decide +kernel⟩, List.mem_of_getElem? (i := 796) (by decide +kernel), List.mem_of_getElem? (i := 983) (by decide +kernel), List.mem_of_getElem? (i := 984) (by decide +kernel)⟩
theorem lw_p30 : lw_okq (⟨"QuorumChainModel", "comes", "(III)V"⟩, 43) := ⟨⟨by decide +kernel, by decide +kernel⟩, List.mem_of_getElem? (i := 796) (by decide +kernel), List.mem_of_getElem? (i := 987) (by decide +kernel), List.mem_of_getElem? (i := 988) (by decide +kernel)⟩
theorem lw_p31 : lw_okq (⟨"QuorumChainModel", "meant", "(III)J"⟩, 43) := ⟨⟨by decide +kernel, by decide +kernel⟩, List.mem_of_getElem? (i := 796) (by decide +kernel), List.mem_of_getElem? (i := 991) (by decide +kernel), List.mem_of_getElem? (i := 992) (by decide +kernel)⟩
def lw_privs_2 : List (MethodName × Nat) := [(⟨"QuorumChain", "receiveTimeout", "(LQuorumChain$Node;III)V"⟩, 7), (⟨"QuorumChain", "receiveAsk", "(LQuorumChain$Node;II)V"⟩, 7), (⟨"QuorumChain", "receiveBlock", "(LQuorumChain$Node;II)V"⟩, 7), (⟨"QuorumChain", "highestParent", "(LQuorumChain$Store;)I"⟩, 7), (⟨"QuorumChainModel", "secret", "(III)J"⟩, 43), (⟨"QuorumChainModel", "start", "()V"⟩, 43), (⟨"QuorumChainModel", "add", "(J)V"⟩, 43), (⟨"QuorumChainModel", "end", "()J"⟩, 43), (⟨"QuorumChainModel", "after", "(JI)J"⟩, 43), (⟨"QuorumChainModel", "two", "(JJ)J"⟩, 43), (⟨"QuorumChainModel", "leaf", "()J"⟩, 43), (⟨"QuorumChainModel", "land", "(I)V"⟩, 43), (⟨"QuorumChainModel", "copyMessage", "(II)V"⟩, 43), (⟨"QuorumChainModel", "send", "(IIIII)V"⟩, 43), (⟨"QuorumChainModel", "comes", "(III)V"⟩, 43), (⟨"QuorumChainModel", "meant", "(III)J"⟩, 43)]
theorem lw_r2 : ∀ q ∈ lw_privs_2, lw_okq q := List.forall_mem_cons.mpr ⟨lw_p16, List.forall_mem_cons.mpr ⟨lw_p17, List.forall_mem_cons.mpr ⟨lw_p18, List.forall_mem_cons.mpr ⟨lw_p19, List.forall_mem_cons.mpr ⟨lw_p20, List.forall_mem_cons.mpr ⟨lw_p21, List.forall_mem_cons.mpr ⟨lw_p22, List.forall_mem_cons.mpr ⟨lw_p23, List.forall_mem_cons.mpr ⟨lw_p24, List.forall_mem_cons.mpr ⟨lw_p25, List.forall_mem_cons.mpr ⟨lw_p26, List.forall_mem_cons.mpr ⟨lw_p27, List.forall_mem_cons.mpr ⟨lw_p28, List.forall_mem_cons.mpr ⟨lw_p29, List.forall_mem_cons.mpr ⟨lw_p30, List.forall_mem_cons.mpr ⟨lw_p31, fun _ h => absurd h List.not_mem_nil⟩⟩⟩⟩⟩⟩⟩⟩⟩⟩⟩⟩⟩⟩⟩⟩
theorem lw_p32 : lw_okq (⟨"QuorumChainModel", "three", "(JJJ)J"⟩, 43) := ⟨⟨by decide +kernel, by decide +kernel⟩, List.mem_of_getElem? (i := 796) (by decide +kernel), List.mem_of_getElem? (i := 996) (by decide +kernel), List.mem_of_getElem? (i := 997) (by decide +kernel)⟩
theorem lw_p33 : lw_okq (⟨"QuorumChainModel", "good", "(IJ)Z"⟩, 43) := ⟨⟨by decide +kernel, by decide +kernel⟩, List.mem_of_getElem? (i := 796) (by decide +kernel), List.mem_of_getElem? (i := 1000) (by decide +kernel), List.mem_of_getElem? (i := 1001) (by decide +kernel)⟩
theorem lw_p34 : lw_okq (⟨"QuorumChainModel", "digitsOf", "(J)V"⟩, 43) := ⟨⟨by decide +kernel, by decide +kernel⟩, List.mem_of_getElem? (i := 796) (by decide +kernel), List.mem_of_getElem? (i := 1004) (by decide +kernel), List.mem_of_getElem? (i := 1005) (by decide +kernel)⟩
theorem lw_p35 : lw_okq (⟨"QuorumChainModel", "proposal", "(III)V"⟩, 43) := ⟨⟨by decide +kernel, by decide +kernel⟩, List.mem_of_getElem? (i := 796) (by decide +kernel), List.mem_of_getElem? (i := 1012) (by decide +kernel), List.mem_of_getElem? (i := 1013) (by decide +kernel)⟩
theorem lw_p36 : lw_okq (⟨"QuorumChainModel", "takes", "(II)V"⟩, 43) := ⟨⟨by decide +kernel, by decide +kernel⟩, List.mem_of_getElem? (i := 796) (by decide +kernel), List.mem_of_getElem? (i := 1016) (by decide +kernel), List.mem_of_getElem? (i := 1017) (by decide +kernel)⟩
theorem lw_p37 : lw_okq (⟨"QuorumChainModel", "commit", "(II)V"⟩, 43) := ⟨⟨by decide +kernel, by decide +kernel⟩, List.mem_of_getElem? (i := 796) (by decide +kernel), List.mem_of_getElem? (i := 1020) (by decide +kernel), List.mem_of_getElem? (i := 1021) (by decide +kernel)⟩
theorem lw_p38 : lw_okq (⟨"QuorumChainModel", "below", "(II)Z"⟩, 43) := ⟨⟨by decide +kernel, by decide +kernel⟩, List.mem_of_getElem? (i := 796) (by decide +kernel), List.mem_of_getElem? (i := 1024) (by decide +kernel), List.mem_of_getElem? (i := 1025) (by decide +kernel)⟩
theorem lw_p39 : lw_okq (⟨"QuorumChainModel", "carryOut", "(II)V"⟩, 43) := ⟨⟨by decide +kernel, by decide +kernel⟩, List.mem_of_getElem? (i := 796) (by decide +kernel), List.mem_of_getElem? (i := 1028) (by decide +kernel), List.mem_of_getElem? (i := 1029) (by decide +kernel)⟩
theorem lw_p40 : lw_okq (⟨"QuorumChainModel", "enter", "(II)V"⟩, 43) := ⟨⟨by decide +kernel, by decide +kernel⟩, List.mem_of_getElem? (i := 796) (by decide +kernel), List.mem_of_getElem? (i := 1032) (by decide +kernel), List.mem_of_getElem? (i := 1033) (by decide +kernel)⟩
theorem lw_p41 : lw_okq (⟨"QuorumChainModel", "signs", "(IJ)Z"⟩, 43) := ⟨⟨by decide +kernel, by decide +kernel⟩, List.mem_of_getElem? (i := 796) (by decide +kernel), List.mem_of_getElem? (i := 1036) (by decide +kernel), List.mem_of_getElem? (i := 1037) (by decide +kernel)⟩
theorem lw_p42 : lw_okq (⟨"QuorumChainModel", "vote", "(III)V"⟩, 43) := ⟨⟨by decide +kernel, by decide +kernel⟩, List.mem_of_getElem? (i := 796) (by decide +kernel), List.mem_of_getElem? (i := 1040) (by decide +kernel), List.mem_of_getElem? (i := 1041) (by decide +kernel)⟩
theorem lw_p43 : lw_okq (⟨"QuorumChainModel", "propose", "(I)V"⟩, 43) := ⟨⟨by decide +kernel, by decide +kernel⟩, List.mem_of_getElem? (i := 796) (by decide +kernel), List.mem_of_getElem? (i := 1047) (by decide +kernel), List.mem_of_getElem? (i := 1048) (by decide +kernel)⟩
theorem lw_p44 : lw_okq (⟨"QuorumChainModel", "inChain", "(II)Z"⟩, 43) := ⟨⟨by decide +kernel, by decide +kernel⟩, List.mem_of_getElem? (i := 796) (by decide +kernel), List.mem_of_getElem? (i := 1051) (by decide +kernel), List.mem_of_getElem? (i := 1052) (by decide +kernel)⟩
theorem lw_p45 : lw_okq (⟨"QuorumChainModel", "newBlock", "(IIII)I"⟩, 43) := ⟨⟨by decide +kernel, by decide +kernel⟩, List.mem_of_getElem? (i := 796) (by decide +kernel), List.mem_of_getElem? (i := 1055) (by decide +kernel), List.mem_of_getElem? (i := 1056) (by decide +kernel)⟩
theorem lw_p46 : lw_okq (⟨"QuorumChainModel", "timeout", "(IIII)V"⟩, 43) := ⟨⟨by decide +kernel, by decide +kernel⟩, List.mem_of_getElem? (i := 796) (by decide +kernel), List.mem_of_getElem? (i := 1059) (by decide +kernel), List.mem_of_getElem? (i := 1060) (by decide +kernel)⟩
theorem lw_p47 : lw_okq (⟨"QuorumChainModel", "isTransaction", "(I)Z"⟩, 43) := ⟨⟨by decide +kernel, by decide +kernel⟩, List.mem_of_getElem? (i := 796) (by decide +kernel), List.mem_of_getElem? (i := 1071) (by decide +kernel), List.mem_of_getElem? (i := 1072) (by decide +kernel)⟩
def lw_privs_3 : List (MethodName × Nat) := [(⟨"QuorumChainModel", "three", "(JJJ)J"⟩, 43), (⟨"QuorumChainModel", "good", "(IJ)Z"⟩, 43), (⟨"QuorumChainModel", "digitsOf", "(J)V"⟩, 43), (⟨"QuorumChainModel", "proposal", "(III)V"⟩, 43), (⟨"QuorumChainModel", "takes", "(II)V"⟩, 43), (⟨"QuorumChainModel", "commit", "(II)V"⟩, 43), (⟨"QuorumChainModel", "below", "(II)Z"⟩, 43), (⟨"QuorumChainModel", "carryOut", "(II)V"⟩, 43), (⟨"QuorumChainModel", "enter", "(II)V"⟩, 43), (⟨"QuorumChainModel", "signs", "(IJ)Z"⟩, 43), (⟨"QuorumChainModel", "vote", "(III)V"⟩, 43), (⟨"QuorumChainModel", "propose", "(I)V"⟩, 43), (⟨"QuorumChainModel", "inChain", "(II)Z"⟩, 43), (⟨"QuorumChainModel", "newBlock", "(IIII)I"⟩, 43), (⟨"QuorumChainModel", "timeout", "(IIII)V"⟩, 43), (⟨"QuorumChainModel", "isTransaction", "(I)Z"⟩, 43)]
theorem lw_r3 : ∀ q ∈ lw_privs_3, lw_okq q := List.forall_mem_cons.mpr ⟨lw_p32, List.forall_mem_cons.mpr ⟨lw_p33, List.forall_mem_cons.mpr ⟨lw_p34, List.forall_mem_cons.mpr ⟨lw_p35, List.forall_mem_cons.mpr ⟨lw_p36, List.forall_mem_cons.mpr ⟨lw_p37, List.forall_mem_cons.mpr ⟨lw_p38, List.forall_mem_cons.mpr ⟨lw_p39, List.forall_mem_cons.mpr ⟨lw_p40, List.forall_mem_cons.mpr ⟨lw_p41, List.forall_mem_cons.mpr ⟨lw_p42, List.forall_mem_cons.mpr ⟨lw_p43, List.forall_mem_cons.mpr ⟨lw_p44, List.forall_mem_cons.mpr ⟨lw_p45, List.forall_mem_cons.mpr ⟨lw_p46, List.forall_mem_cons.mpr ⟨lw_p47, fun _ h => absurd h List.not_mem_nil⟩⟩⟩⟩⟩⟩⟩⟩⟩⟩⟩⟩⟩⟩⟩⟩
theorem lw_p48 : lw_okq (⟨"QuorumChainModel", "isBlock", "(I)Z"⟩, 43) := ⟨⟨by decide +kernel, by decide +kernel⟩, List.mem_of_getElem? (i := 796) (by decide +kernel), List.mem_of_getElem? (i := 1091) (by decide +kernel), List.mem_of_getElem? (i := 1092) (by decide +kernel)⟩
theorem lw_p49 : lw_okq (⟨"QuorumChainModel", "beats", "(I)V"⟩, 43) := ⟨⟨by decide +kernel, by decide +kernel⟩, List.mem_of_getElem? (i := 796) (by decide +kernel), List.mem_of_getElem? (i := 1103) (by decide +kernel), List.mem_of_getElem? (i := 1104) (by decide +kernel)⟩
theorem lw_p50 : lw_okq (⟨"QuorumChainModel", "hasAll", "(I)I"⟩, 43) := ⟨⟨by decide +kernel, by decide +kernel⟩, List.mem_of_getElem? (i := 796) (by decide +kernel), List.mem_of_getElem? (i := 1119) (by decide +kernel), List.mem_of_getElem? (i := 1120) (by decide +kernel)⟩
def lw_privs_4 : List (MethodName × Nat) := [(⟨"QuorumChainModel", "isBlock", "(I)Z"⟩, 43), (⟨"QuorumChainModel", "beats", "(I)V"⟩, 43), (⟨"QuorumChainModel", "hasAll", "(I)I"⟩, 43)]
theorem lw_r4 : ∀ q ∈ lw_privs_4, lw_okq q := List.forall_mem_cons.mpr ⟨lw_p48, List.forall_mem_cons.mpr ⟨lw_p49, List.forall_mem_cons.mpr ⟨lw_p50, fun _ h => absurd h List.not_mem_nil⟩⟩⟩
def lw_privs : List (MethodName × Nat) := lw_privs_1 ++ (lw_privs_2 ++ (lw_privs_3 ++ (lw_privs_4)))
def lw_tbl : List Cond := k2_sels lw_privs ++ tables_1
theorem lw_privs_ok : ∀ q ∈ lw_privs, lw_okq q := by
  show ∀ q ∈ lw_privs_1 ++ (lw_privs_2 ++ (lw_privs_3 ++ (lw_privs_4))), lw_okq q
  exact List.forall_mem_append.mpr ⟨lw_r1, List.forall_mem_append.mpr ⟨lw_r2, List.forall_mem_append.mpr ⟨lw_r3, lw_r4⟩⟩⟩
-- ===== end of PART A; then your names; then what follows =====
end
section
/-! My own kit: a world of named cells. A cell's name is a triple (kind, i, j); its contents are three slices (ints, longs, places) of one state. -/
abbrev N3 : Type := Nat × Nat × Nat
abbrev IM : Type := Nat → Nat → Nat → Nat → Int32
abbrev LM : Type := Nat → Nat → Nat → Nat → Int64
abbrev PM : Type := Nat → Nat → Nat → Nat → Nat
abbrev St : Type := IM × LM × PM
abbrev Cf : Type := N3 → (Nat → Int32) → (Nat → Int64) → (Nat → Nat) → va_E
def zs (cf : Cf) (S : St) (t : N3) : va_E := cf t (S.1 t.1 t.2.1 t.2.2) (S.2.1 t.1 t.2.1 t.2.2) (S.2.2 t.1 t.2.1 t.2.2)
def zw (X : va_W) (ad : N3 → Nat) (T : List N3) (cf : Cf) (S : St) : va_W := X ++ T.map (fun t => (ad t, zs cf S t))
/-- writing: a slice, an element -/
def wi (S : St) (k i j : Nat) (f : Nat → Int32) : St := (fun a b d => if a = k ∧ b = i ∧ d = j then f else S.1 a b d, S.2)
def wl (S : St) (k i j : Nat) (f : Nat → Int64) : St := (S.1, fun a b d => if a = k ∧ b = i ∧ d = j then f else S.2.1 a b d, S.2.2)
def wp (S : St) (k i j : Nat) (f : Nat → Nat) : St := (S.1, S.2.1, fun a b d => if a = k ∧ b = i ∧ d = j then f else S.2.2 a b d)
def si (S : St) (k i j x : Nat) (v : Int32) : St := wi S k i j (upd (S.1 k i j) x v)
def sl (S : St) (k i j x : Nat) (v : Int64) : St := wl S k i j (vp_updL (S.2.1 k i j) x v)
def sp (S : St) (k i j x : Nat) (v : Nat) : St := wp S k i j (va_up (S.2.2 k i j) x v)
theorem zs_wi_self {cf : Cf} {S : St} {k i j : Nat} {f : Nat → Int32} : zs cf (wi S k i j f) (k, i, j) = cf (k, i, j) f (S.2.1 k i j) (S.2.2 k i j) := by
  simp [zs, wi]
theorem zs_wl_self {cf : Cf} {S : St} {k i j : Nat} {f : Nat → Int64} : zs cf (wl S k i j f) (k, i, j) = cf (k, i, j) (S.1 k i j) f (S.2.2 k i j) := by
  simp [zs, wl]
theorem zs_wp_self {cf : Cf} {S : St} {k i j : Nat} {f : Nat → Nat} : zs cf (wp S k i j f) (k, i, j) = cf (k, i, j) (S.1 k i j) (S.2.1 k i j) f := by
  simp [zs, wp]
theorem zs_ne {k i j : Nat} {t : N3} (h : t ≠ (k, i, j)) : ¬ (t.1 = k ∧ t.2.1 = i ∧ t.2.2 = j) := fun q => h (by
  obtain ⟨a, b, d⟩ := t
  obtain ⟨rfl, rfl, rfl⟩ := q
  rfl)
theorem zs_wi_ne {cf : Cf} {S : St} {k i j : Nat} {f : Nat → Int32} (t : N3) (h : t ≠ (k, i, j)) : zs cf (wi S k i j f) t = zs cf S t := by
  simp only [zs, wi, if_neg (zs_ne h)]
theorem zs_wl_ne {cf : Cf} {S : St} {k i j : Nat} {f : Nat → Int64} (t : N3) (h : t ≠ (k, i, j)) : zs cf (wl S k i j f) t = zs cf S t := by
  simp only [zs, wl, if_neg (zs_ne h)]
theorem zs_wp_ne {cf : Cf} {S : St} {k i j : Nat} {f : Nat → Nat} (t : N3) (h : t ≠ (k, i, j)) : zs cf (wp S k i j f) t = zs cf S t := by
  simp only [zs, wp, if_neg (zs_ne h)]
theorem zw_get {X : va_W} {ad : N3 → Nat} {T : List N3} {cf : Cf} {S : St} {t : N3} (h : t ∈ T) : ∃ n : Nat, (zw X ad T cf S)[n]? = some (ad t, zs cf S t) := by
  apply List.getElem?_of_mem
  exact List.mem_append_right _ (List.mem_map.mpr ⟨t, h, rfl⟩)
theorem zw_set {A : Nat → Prop} {X : va_W} {ad : N3 → Nat} {T : List N3} {cf : Cf} {S S' : St} {t : N3} {n : Nat} {e : va_E} (hD : va_D A (zw X ad T cf S)) (ht : t ∈ T) (hn : (zw X ad T cf S)[n]? = some (ad t, zs cf S t)) (h1 : zs cf S' t = e) (h2 : ∀ t', t' ≠ t → zs cf S' t' = zs cf S t') : (zw X ad T cf S).set n (ad t, e) = zw X ad T cf S' := by
  obtain ⟨i, hi⟩ := List.getElem?_of_mem ht
  have hti : (zw X ad T cf S)[X.length + i]? = some (ad t, zs cf S t) := by
    unfold zw
    rw [List.getElem?_append_right (by omega), Nat.add_sub_cancel_left, List.getElem?_map, hi]
    rfl
  have hne := hD.1 n (X.length + i) _ _ hn hti rfl
  subst hne
  have hl := (List.getElem?_eq_some_iff.mp hti).1
  apply List.ext_getElem?
  intro j
  by_cases hj : j = X.length + i
  · subst hj
    rw [List.getElem?_set_self hl]
    unfold zw
    rw [List.getElem?_append_right (by omega), Nat.add_sub_cancel_left, List.getElem?_map, hi]
    simp [h1]
  · rw [List.getElem?_set_ne (Ne.symm hj)]
    unfold zw
    by_cases hjx : j < X.length
    · rw [List.getElem?_append_left hjx, List.getElem?_append_left hjx]
    · rw [List.getElem?_append_right (by omega), List.getElem?_append_right (by omega)]
      simp only [List.getElem?_map]
      cases hb : T[j - X.length]? with
      | none => rfl
      | some b =>
        have hba : b ≠ t := by
          intro hab
          subst hab
          have h3 : (zw X ad T cf S)[j]? = some (ad b, zs cf S b) := by
            unfold zw
            rw [List.getElem?_append_right (by omega), List.getElem?_map, hb]
            rfl
          exact hj (hD.1 j (X.length + i) _ _ h3 hti rfl)
        simp [h2 b hba]
theorem zw_addr {X : va_W} {ad : N3 → Nat} {T : List N3} {cf : Cf} {S S' : St} {n : Nat} {q : Nat} {e : va_E} (h : (zw X ad T cf S)[n]? = some (q, e)) : ∃ e', (zw X ad T cf S')[n]? = some (q, e') := by
  unfold zw at h ⊢
  by_cases hx : n < X.length
  · rw [List.getElem?_append_left hx] at h ⊢
    exact ⟨e, h⟩
  · rw [List.getElem?_append_right (by omega), List.getElem?_map] at h ⊢
    cases hb : T[n - X.length]? with
    | none => rw [hb] at h; cases h
    | some b =>
      rw [hb] at h
      simp only [Option.map_some, Option.some.injEq, Prod.mk.injEq] at h ⊢
      exact ⟨_, h.1, rfl⟩
/-- which cells a method may change doesn't hang on what they hold -/
theorem zw_A {X : va_W} {ad : N3 → Nat} {T : List N3} {cf : Cf} {S : St} (S' : St) {sz q : Nat} (h : va_A (zw X ad T cf S) sz q) : va_A (zw X ad T cf S') sz q := by
  rcases h with ⟨k, e, h⟩ | h
  · obtain ⟨e', h'⟩ := zw_addr (S' := S') h
    exact Or.inl ⟨k, e', h'⟩
  · exact Or.inr h
/-- a walk's world -/
def Wd (D : va_G) (cl : List vw_C) (A : Nat → Prop) (H0 : Heap) (ws : va_W) (H : Heap) (locs : List Loc) : Prop := va_P D cl ws H ∧ va_D A ws ∧ va_S A H0 H locs
section ZK
variable {p : Program} {l : Launch} {e : Env} {R : Room} {s : State} {m : MethodId} {args : Array Value} {below : List Frame} {meth : Method} {c : Code} {H : Heap} {locs : List Loc} {cells slots : Nat} {Q : State → Prop}
variable {cc : ByteArray} {pc nL : Nat} {ls : Array Slot} {rest : List Value} {D : va_G} {cl : List vw_C} {A : Nat → Prop} {tys : List (ClassId × FieldType)} {H0 : Heap} {X : va_W} {ad : N3 → Nat} {T : List N3} {cf : Cf} {S : St} {Ts : List Cond} {own : String}
theorem z_get (hF : CallFix p m c cc nL s args Ts own) (hK : va_K D cl tys s) (hW : Wd D cl A H0 (zw X ad T cf S) H locs) {t : N3} (ht : t ∈ T) {ref C : String} {T1 : u_T} {N ci index : Nat} {fs : List Value} (he : zs cf S t = .inr (ci, fs)) (hc : cl[ci]? = some (C, T1, N)) (hin : ∀ w ∈ u_ws C T1 N, w ∈ Ts) (k : Nat) (hk : k < N) (hlink : Cond.fieldLink own index ref (T1 k).2.1 (T1 k).2.2.1 ∈ Ts) (hsame : (T1 k).1 = ref) {v : Value} (hv : fs[k]? = some v) (hdg : decode cc pc = .ok (.getfield index, 3))
    (kk : W p l e R s m args below meth c H locs cells slots Q (F0 m (pc + 3) ls (v :: rest))) : W p l e R s m args below meth c H locs cells slots Q (F0 m pc ls (.ref (ad t) :: rest)) := by
  obtain ⟨n, hn⟩ := zw_get (X := X) (ad := ad) (cf := cf) (S := S) ht
  rw [he] at hn
  exact va_get hF.1 hF.2.1 hF.2.2.2.2 hin hF.2.2.2.1 hK hW.1 n hn hc k hk (hF.2.2.2.2 _ hlink) (fun x h => by rw [← hsame]; exact h) hv hdg kk
/-- a field's store, into a state S' that differs in this cell alone -/
theorem z_put (hF : CallFix p m c cc nL s args Ts own) (hK : va_K D cl tys s) (hW : Wd D cl A H0 (zw X ad T cf S) H locs) {t : N3} (ht : t ∈ T) {ref C : String} {T1 : u_T} {N ci index : Nat} {fs : List Value} (he : zs cf S t = .inr (ci, fs)) (hc : cl[ci]? = some (C, T1, N)) (hin : ∀ w ∈ u_ws C T1 N, w ∈ Ts) (ty0 : Nat → FieldType) (hty : ∀ k, k < N → parseFieldDescriptor (T1 k).2.2.1 = some (ty0 k)) (hnm : ∀ a, a < N → ∀ b, b < N → a ≠ b → (T1 a).2.1 ≠ (T1 b).2.1) (k : Nat) (hk : k < N) (hlink : Cond.fieldLink own index ref (T1 k).2.1 (T1 k).2.2.1 ∈ Ts) (hsame : (T1 k).1 = ref) (hfin : (T1 k).2.2.2 = false) {ty : FieldType} {v : Value} (hd : ty0 k = ty) (hn : narrow ty v = v) (hfit : fits ty v = true) (hl : k < fs.length) {S' : St} (h1 : zs cf S' t = .inr (ci, fs.set k v)) (h2 : ∀ t', t' ≠ t → zs cf S' t' = zs cf S t') (hdg : decode cc pc = .ok (.putfield index, 3))
    (kk : ∀ (H1 : Heap) (locs1 : List Loc), Wd D cl A H0 (zw X ad T cf S') H1 locs1 → W p l e R s m args below meth c H1 locs1 cells slots Q (F0 m (pc + 3) ls rest)) : W p l e R s m args below meth c H locs cells slots Q (F0 m pc ls (v :: .ref (ad t) :: rest)) := by
  obtain ⟨n, hn0⟩ := zw_get (X := X) (ad := ad) (cf := cf) (S := S) ht
  have hn1 := hn0
  rw [he] at hn1
  have hst := zw_set hW.2.1 ht hn0 h1 h2
  refine va_put hF.1 hF.2.1 hF.2.2.2.2 hin ty0 hty hnm hF.2.2.2.1 hK hW.1 hW.2.1 hW.2.2 n hn1 hc k hk (hF.2.2.2.2 _ hlink) (fun x h => by rw [← hsame]; exact h) hfin (by rw [hty k hk, hd]) hn hfit hl hdg (fun H1 locs1 a1 a2 a3 => ?_)
  rw [hst] at a1 a2
  exact kk H1 locs1 ⟨a1, a2, a3⟩
theorem z_iald (hF : CallFix p m c cc nL s args Ts own) (hK : va_K D cl tys s) (hW : Wd D cl A H0 (zw X ad T cf S) H locs) {t : N3} (ht : t ∈ T) (t0 : Nat) {cA : ClassId} {n : Nat} {f : Nat → Int32} (he : zs cf S t = .inl (cA, n, .inl f)) (hty : tys[t0]? = some (cA, .int)) {i : Int32} (hin : vp_in i n) {v : Int32} (hv : f i.toNatClampNeg = v) (hdg : decode cc pc = .ok (.iaload, 1))
    (kk : W p l e R s m args below meth c H locs cells slots Q (F0 m (pc + 1) ls (.int v :: rest))) : W p l e R s m args below meth c H locs cells slots Q (F0 m pc ls (.int i :: .ref (ad t) :: rest)) := by
  obtain ⟨n9, hn⟩ := zw_get (X := X) (ad := ad) (cf := cf) (S := S) ht
  rw [he] at hn
  subst hv
  exact va_iald hF.1 hF.2.1 hK hW.1 n9 t0 hn hty hin hdg kk
theorem z_zald (hF : CallFix p m c cc nL s args Ts own) (hK : va_K D cl tys s) (hW : Wd D cl A H0 (zw X ad T cf S) H locs) {t : N3} (ht : t ∈ T) (t0 : Nat) {cA : ClassId} {n : Nat} {f : Nat → Int32} (he : zs cf S t = .inl (cA, n, .inl f)) (hty : tys[t0]? = some (cA, .boolean)) {i : Int32} (hin : vp_in i n) {v : Int32} (hv : f i.toNatClampNeg = v) (hdg : decode cc pc = .ok (.baload, 1))
    (kk : W p l e R s m args below meth c H locs cells slots Q (F0 m (pc + 1) ls (.int v :: rest))) : W p l e R s m args below meth c H locs cells slots Q (F0 m pc ls (.int i :: .ref (ad t) :: rest)) := by
  obtain ⟨n9, hn⟩ := zw_get (X := X) (ad := ad) (cf := cf) (S := S) ht
  rw [he] at hn
  subst hv
  exact va_zald hF.1 hF.2.1 hK hW.1 n9 t0 hn hty hin hdg kk
theorem z_lald (hF : CallFix p m c cc nL s args Ts own) (hK : va_K D cl tys s) (hW : Wd D cl A H0 (zw X ad T cf S) H locs) {t : N3} (ht : t ∈ T) (t0 : Nat) {cA : ClassId} {n : Nat} {f : Nat → Int64} (he : zs cf S t = .inl (cA, n, .inr (.inl f))) (hty : tys[t0]? = some (cA, .long)) {i : Int32} (hin : vp_in i n) {v : Int64} (hv : f i.toNatClampNeg = v) (hdg : decode cc pc = .ok (.laload, 1))
    (kk : W p l e R s m args below meth c H locs cells slots Q (F0 m (pc + 1) ls (.long v :: rest))) : W p l e R s m args below meth c H locs cells slots Q (F0 m pc ls (.int i :: .ref (ad t) :: rest)) := by
  obtain ⟨n9, hn⟩ := zw_get (X := X) (ad := ad) (cf := cf) (S := S) ht
  rw [he] at hn
  subst hv
  exact va_lald hF.1 hF.2.1 hK hW.1 n9 t0 hn hty hin hdg kk
theorem z_aald (hF : CallFix p m c cc nL s args Ts own) (hK : va_K D cl tys s) (hW : Wd D cl A H0 (zw X ad T cf S) H locs) {t : N3} (ht : t ∈ T) (t0 : Nat) {cA : ClassId} {C : String} {n : Nat} {f : Nat → Option Nat} (he : zs cf S t = .inl (cA, n, .inr (.inr (.inr (.inr f))))) (hty : tys[t0]? = some (cA, .object C)) {i : Int32} (hin : vp_in i n) {q : Nat} (hv : f i.toNatClampNeg = some q) (hdg : decode cc pc = .ok (.aaload, 1))
    (kk : W p l e R s m args below meth c H locs cells slots Q (F0 m (pc + 1) ls (.ref q :: rest))) : W p l e R s m args below meth c H locs cells slots Q (F0 m pc ls (.int i :: .ref (ad t) :: rest)) := by
  obtain ⟨n9, hn⟩ := zw_get (X := X) (ad := ad) (cf := cf) (S := S) ht
  rw [he] at hn
  refine va_aldq hF.1 hF.2.1 hK hW.1 n9 t0 hn hty hin hdg ?_
  rw [hv]
  exact kk
theorem z_iast (hF : CallFix p m c cc nL s args Ts own) (hK : va_K D cl tys s) (hW : Wd D cl A H0 (zw X ad T cf S) H locs) {t : N3} (ht : t ∈ T) (t0 : Nat) {cA : ClassId} {n : Nat} {f : Nat → Int32} (he : zs cf S t = .inl (cA, n, .inl f)) (hty : tys[t0]? = some (cA, .int)) {i x : Int32} (hin : vp_in i n) {S' : St} (h1 : zs cf S' t = .inl (cA, n, .inl (upd f i.toNatClampNeg x))) (h2 : ∀ t', t' ≠ t → zs cf S' t' = zs cf S t') (hdg : decode cc pc = .ok (.iastore, 1))
    (kk : ∀ (H1 : Heap) (locs1 : List Loc), Wd D cl A H0 (zw X ad T cf S') H1 locs1 → W p l e R s m args below meth c H1 locs1 cells slots Q (F0 m (pc + 1) ls rest)) : W p l e R s m args below meth c H locs cells slots Q (F0 m pc ls (.int x :: .int i :: .ref (ad t) :: rest)) := by
  obtain ⟨n9, hn0⟩ := zw_get (X := X) (ad := ad) (cf := cf) (S := S) ht
  have hn1 := hn0
  rw [he] at hn1
  have hst := zw_set hW.2.1 ht hn0 h1 h2
  refine va_iast hF.1 hF.2.1 hK hW.1 hW.2.1 hW.2.2 n9 t0 hn1 hty hin hdg (fun H1 locs1 a1 a2 a3 => ?_)
  rw [hst] at a1 a2
  exact kk H1 locs1 ⟨a1, a2, a3⟩
theorem z_zast (hF : CallFix p m c cc nL s args Ts own) (hK : va_K D cl tys s) (hW : Wd D cl A H0 (zw X ad T cf S) H locs) {t : N3} (ht : t ∈ T) (t0 : Nat) {cA : ClassId} {n : Nat} {f : Nat → Int32} (he : zs cf S t = .inl (cA, n, .inl f)) (hty : tys[t0]? = some (cA, .boolean)) {i x : Int32} (hin : vp_in i n) {S' : St} (h1 : zs cf S' t = .inl (cA, n, .inl (upd f i.toNatClampNeg (vp_nar .boolean x)))) (h2 : ∀ t', t' ≠ t → zs cf S' t' = zs cf S t') (hdg : decode cc pc = .ok (.bastore, 1))
    (kk : ∀ (H1 : Heap) (locs1 : List Loc), Wd D cl A H0 (zw X ad T cf S') H1 locs1 → W p l e R s m args below meth c H1 locs1 cells slots Q (F0 m (pc + 1) ls rest)) : W p l e R s m args below meth c H locs cells slots Q (F0 m pc ls (.int x :: .int i :: .ref (ad t) :: rest)) := by
  obtain ⟨n9, hn0⟩ := zw_get (X := X) (ad := ad) (cf := cf) (S := S) ht
  have hn1 := hn0
  rw [he] at hn1
  have hst := zw_set hW.2.1 ht hn0 h1 h2
  refine va_zast hF.1 hF.2.1 hK hW.1 hW.2.1 hW.2.2 n9 t0 hn1 hty hin hdg (fun H1 locs1 a1 a2 a3 => ?_)
  rw [hst] at a1 a2
  exact kk H1 locs1 ⟨a1, a2, a3⟩
theorem z_last (hF : CallFix p m c cc nL s args Ts own) (hK : va_K D cl tys s) (hW : Wd D cl A H0 (zw X ad T cf S) H locs) {t : N3} (ht : t ∈ T) (t0 : Nat) {cA : ClassId} {n : Nat} {f : Nat → Int64} (he : zs cf S t = .inl (cA, n, .inr (.inl f))) (hty : tys[t0]? = some (cA, .long)) {i : Int32} {x : Int64} (hin : vp_in i n) {S' : St} (h1 : zs cf S' t = .inl (cA, n, .inr (.inl (vp_updL f i.toNatClampNeg x)))) (h2 : ∀ t', t' ≠ t → zs cf S' t' = zs cf S t') (hdg : decode cc pc = .ok (.lastore, 1))
    (kk : ∀ (H1 : Heap) (locs1 : List Loc), Wd D cl A H0 (zw X ad T cf S') H1 locs1 → W p l e R s m args below meth c H1 locs1 cells slots Q (F0 m (pc + 1) ls rest)) : W p l e R s m args below meth c H locs cells slots Q (F0 m pc ls (.long x :: .int i :: .ref (ad t) :: rest)) := by
  obtain ⟨n9, hn0⟩ := zw_get (X := X) (ad := ad) (cf := cf) (S := S) ht
  have hn1 := hn0
  rw [he] at hn1
  have hst := zw_set hW.2.1 ht hn0 h1 h2
  refine va_last hF.1 hF.2.1 hK hW.1 hW.2.1 hW.2.2 n9 t0 hn1 hty hin hdg (fun H1 locs1 a1 a2 a3 => ?_)
  rw [hst] at a1 a2
  exact kk H1 locs1 ⟨a1, a2, a3⟩
theorem z_aast (hF : CallFix p m c cc nL s args Ts own) (hK : va_K D cl tys s) (hW : Wd D cl A H0 (zw X ad T cf S) H locs) {t t2 : N3} (ht : t ∈ T) (ht2 : t2 ∈ T) (t0 ci : Nat) {cA : ClassId} {r : vw_C} {n : Nat} {vs : List Value} {f : Nat → Option Nat} (he : zs cf S t = .inl (cA, n, .inr (.inr (.inr (.inr f))))) (hty : tys[t0]? = some (cA, .object r.1)) (he2 : zs cf S t2 = .inr (ci, vs)) (hc : cl[ci]? = some r) {i : Int32} (hin : vp_in i n) {S' : St} (h1 : zs cf S' t = .inl (cA, n, .inr (.inr (.inr (.inr (va_up f i.toNatClampNeg (some (ad t2)))))))) (h2 : ∀ t', t' ≠ t → zs cf S' t' = zs cf S t') (hdg : decode cc pc = .ok (.aastore, 1))
    (kk : ∀ (H1 : Heap) (locs1 : List Loc), Wd D cl A H0 (zw X ad T cf S') H1 locs1 → W p l e R s m args below meth c H1 locs1 cells slots Q (F0 m (pc + 1) ls rest)) : W p l e R s m args below meth c H locs cells slots Q (F0 m pc ls (.ref (ad t2) :: .int i :: .ref (ad t) :: rest)) := by
  obtain ⟨n9, hn0⟩ := zw_get (X := X) (ad := ad) (cf := cf) (S := S) ht
  have hn1 := hn0
  rw [he] at hn1
  obtain ⟨n8, hn2⟩ := zw_get (X := X) (ad := ad) (cf := cf) (S := S) ht2
  rw [he2] at hn2
  have hst := zw_set hW.2.1 ht hn0 h1 h2
  refine va_astq hF.1 hF.2.1 hK hW.1 hW.2.1 hW.2.2 n9 t0 n8 ci hn1 hty hn2 hc hin hdg (fun H1 locs1 a1 a2 a3 => ?_)
  rw [hst] at a1 a2
  exact kk H1 locs1 ⟨a1, a2, a3⟩
theorem z_alen (hF : CallFix p m c cc nL s args Ts own) (hK : va_K D cl tys s) (hW : Wd D cl A H0 (zw X ad T cf S) H locs) {t : N3} (ht : t ∈ T) (t0 : Nat) {cA : ClassId} {x : vp_A} (he : zs cf S t = .inl (cA, x)) {ty : FieldType} (hty : tys[t0]? = some (cA, ty)) {v : Int32} (hv : Int32.ofNat x.1 = v) (hdg : decode cc pc = .ok (.arraylength, 1))
    (kk : W p l e R s m args below meth c H locs cells slots Q (F0 m (pc + 1) ls (.int v :: rest))) : W p l e R s m args below meth c H locs cells slots Q (F0 m pc ls (.ref (ad t) :: rest)) := by
  obtain ⟨n9, hn⟩ := zw_get (X := X) (ad := ad) (cf := cf) (S := S) ht
  rw [he] at hn
  exact va_alen hF.1 hF.2.1 hK hW.1 n9 t0 hn hty hv hdg kk
theorem z_copyl (hF : CallFix p m c cc nL s args Ts own) (hK : va_K D cl tys s) (hW : Wd D cl A H0 (zw X ad T cf S) H locs) (hsz : ls.size = nL) {t t2 : N3} (ht : t ∈ T) (ht2 : t2 ∈ T) (t0 : Nat) {index : Nat} (hlink : Cond.methodLink own index arraycopyName ∈ Ts) (hnat : Cond.native arraycopyName ∈ Ts) (hstat : Cond.static arraycopyName ∈ Ts) (hini : Cond.initialized "java/lang/System" ∈ Ts) {c0 c1 : ClassId} {n0 n1 : Nat} {f g : Nat → Int64} (he : zs cf S t = .inl (c0, n0, .inr (.inl f))) (he2 : zs cf S t2 = .inl (c1, n1, .inr (.inl g))) (hty : tys[t0]? = some (c0, .long)) (hty2 : tys[t0]? = some (c1, .long))
    {sp dp n : Int32} (h1 : ¬ sp < 0) (h2 : ¬ dp < 0) (h3 : ¬ n < 0) (h4 : sp.toNatClampNeg + n.toNatClampNeg ≤ n0) (h5 : dp.toNatClampNeg + n.toNatClampNeg ≤ n1) (hframes : 1 ≤ R.frames) (hlocals : (rest.map fun v => v.category).sum + (nativeFrameWords "java/lang/System" "arraycopy" 5 + 11) ≤ R.locals) {S' : St} (k1 : zs cf S' t2 = .inl (c1, n1, .inr (.inl (va_cpy f g sp.toNatClampNeg dp.toNatClampNeg n.toNatClampNeg)))) (k2 : ∀ t', t' ≠ t2 → zs cf S' t' = zs cf S t') (hdg : decode cc pc = .ok (.invokestatic index, 3))
    (kk : ∀ (H1 : Heap) (locs1 : List Loc), Wd D cl A H0 (zw X ad T cf S') H1 locs1 → W p l e R s m args below meth c H1 locs1 cells slots Q (F0 m (pc + 3) ls rest)) : W p l e R s m args below meth c H locs cells slots Q (F0 m pc ls (.int n :: .int dp :: .ref (ad t2) :: .int sp :: .ref (ad t) :: rest)) := by
  obtain ⟨n9, hn1⟩ := zw_get (X := X) (ad := ad) (cf := cf) (S := S) ht
  rw [he] at hn1
  obtain ⟨n8, hn0⟩ := zw_get (X := X) (ad := ad) (cf := cf) (S := S) ht2
  have hn2 := hn0
  rw [he2] at hn2
  have hst := zw_set hW.2.1 ht2 hn0 k1 k2
  refine va_copyl hF.1 hF.2.1 (by rw [hF.2.2.1, hsz]) hF.2.2.2.1 (hF.2.2.2.2 _ hlink) (hF.2.2.2.2 _ hnat) (hF.2.2.2.2 _ hstat) (hF.2.2.2.2 _ hini) hK hW.1 hW.2.1 hW.2.2 n9 n8 t0 t0 hn1 hn2 hty hty2 rfl h1 h2 h3 h4 h5 (fun i _ => rfl) hframes hlocals hdg (fun H1 locs1 a1 a2 a3 => ?_)
  rw [hst] at a1 a2
  exact kk H1 locs1 ⟨a1, a2, a3⟩
end ZK
end
section
/-! Contracts over a world of named cells, and their use. -/
def zK (D : va_G) (cl : List vw_C) (tys : List (ClassId × FieldType)) (NW : List (String × Nat × MethodName × String)) (U : State) : Prop := va_K D cl tys U ∧ ∀ q ∈ NW, va_Nw (.methodLinkNest q.1 q.2.1 q.2.2.1 q.2.2.2) U
theorem zK.moved {D : va_G} {cl : List vw_C} {tys : List (ClassId × FieldType)} {NW : List (String × Nat × MethodName × String)} {s U : State} (hW : s.WarmedH U.vm) (h : zK D cl tys NW s) : zK D cl tys NW U := ⟨va_K.moved hW.alike h.1, fun q hq => va_Nw.warmM hW (h.2 q hq)⟩
theorem zK.calling {D : va_G} {cl : List vw_C} {tys : List (ClassId × FieldType)} {NW : List (String × Nat × MethodName × String)} {U : State} {g : JFrame} {mk : MethodId} {a : Array Value} (h : zK D cl tys NW U) : zK D cl tys NW (U.calling g mk a) := ⟨va_K.moved (u := U) (U := U.calling g mk a) (Vm.Alike.refl U.vm) h.1, fun q hq => va_Nw.same rfl (show U.vm = (U.calling g mk a).vm from rfl) (h.2 q hq)⟩
/-- a method's start: its arguments, its world, the tables -/
def zPre (D : va_G) (cl : List vw_C) (tys : List (ClassId × FieldType)) (NW : List (String × Nat × MethodName × String)) (ws : va_W) (sz : Nat) (av : List Value) : Array Value → State → Prop := va_Pc av (fun U => U.heap.size = sz ∧ va_P D cl ws U.heap ∧ zK D cl tys NW U ∧ va_D (fun _ => True) ws)
def zAt (D : va_G) (cl : List vw_C) (X : va_W) (ad : N3 → Nat) (T : List N3) (cf : Cf) (A : Nat → Prop) (S : St) (t : State) : Prop := va_P D cl (zw X ad T cf S) t.heap ∧ va_D A (zw X ad T cf S)
theorem zPre.blind {D : va_G} {cl : List vw_C} {tys : List (ClassId × FieldType)} {NW : List (String × Nat × MethodName × String)} {ws : va_W} {sz : Nat} {av : List Value} : FrameBlind (zPre D cl tys NW ws sz av) := fun a U g mk q => by
  obtain ⟨q0, q1, qP, qK, qD⟩ := q
  exact ⟨q0, q1, qP, qK.calling, qD⟩
theorem zPre.at {D : va_G} {cl : List vw_C} {tys : List (ClassId × FieldType)} {NW : List (String × Nat × MethodName × String)} {ws : va_W} {av : List Value} {A : Nat → Prop} {H : Heap} {s : State} (hP : va_P D cl ws H) (hD : va_D A ws) (hK : zK D cl tys NW s) : ∀ U : State, U.heap = H → s.WarmedH U.vm → zPre D cl tys NW ws H.size av av.toArray U := fun U hU hWm => ⟨rfl, by rw [hU], by rw [hU]; exact hP, hK.moved hWm, hD.weaken (fun _ _ _ _ => trivial)⟩
/-- the end of an int method, of a long, void or reference one: its answer and the state behind it -/
def eI (D : va_G) (cl : List vw_C) (X : va_W) (ad : N3 → Nat) (T : List N3) (cf : Cf) (A : Nat → Prop) (res : Int32 × St) : Array Value → State → Outcome → State → Prop := va_Qi (fun r u => r = res.1 ∧ u = res.2) (zAt D cl X ad T cf A) A
def eL (D : va_G) (cl : List vw_C) (X : va_W) (ad : N3 → Nat) (T : List N3) (cf : Cf) (A : Nat → Prop) (res : Int64 × St) : Array Value → State → Outcome → State → Prop := va_Ql (fun r u => r = res.1 ∧ u = res.2) (zAt D cl X ad T cf A) A
def eV (D : va_G) (cl : List vw_C) (X : va_W) (ad : N3 → Nat) (T : List N3) (cf : Cf) (A : Nat → Prop) (res : St) : Array Value → State → Outcome → State → Prop := va_Qv (fun u => u = res) (zAt D cl X ad T cf A) A
def eR (D : va_G) (cl : List vw_C) (X : va_W) (ad : N3 → Nat) (T : List N3) (cf : Cf) (A : Nat → Prop) (res : N3 × St) : Array Value → State → Outcome → State → Prop := va_Qr (fun u => u = res.2) (fun u a t => a = ad res.1 ∧ zAt D cl X ad T cf A u t) A
/-- contracts: from the world of S the method y comes back with res -/
def cI (l : Launch) (G : List Cond) (D : va_G) (cl : List vw_C) (tys : List (ClassId × FieldType)) (NW : List (String × Nat × MethodName × String)) (X : va_W) (ad : N3 → Nat) (T : List N3) (cf : Cf) (y : MethodName) (b : ByteArray) (n : Nat) (ret : FieldType) (fr lo : Nat) (av : List Value) (S : St) (res : Int32 × St) : Prop :=
  ∀ sz : Nat, Met l y (Cond.code y b n (some ret) :: G) { frames := fr, cells := 0, slots := 0, locals := lo } (zPre D cl tys NW (zw X ad T cf S) sz av) (eI D cl X ad T cf (va_A (zw X ad T cf S) sz) res) 0 0 (va_A (zw X ad T cf S) sz)
def cL (l : Launch) (G : List Cond) (D : va_G) (cl : List vw_C) (tys : List (ClassId × FieldType)) (NW : List (String × Nat × MethodName × String)) (X : va_W) (ad : N3 → Nat) (T : List N3) (cf : Cf) (y : MethodName) (b : ByteArray) (n : Nat) (ret : FieldType) (fr lo : Nat) (av : List Value) (S : St) (res : Int64 × St) : Prop :=
  ∀ sz : Nat, Met l y (Cond.code y b n (some ret) :: G) { frames := fr, cells := 0, slots := 0, locals := lo } (zPre D cl tys NW (zw X ad T cf S) sz av) (eL D cl X ad T cf (va_A (zw X ad T cf S) sz) res) 0 0 (va_A (zw X ad T cf S) sz)
def cV (l : Launch) (G : List Cond) (D : va_G) (cl : List vw_C) (tys : List (ClassId × FieldType)) (NW : List (String × Nat × MethodName × String)) (X : va_W) (ad : N3 → Nat) (T : List N3) (cf : Cf) (y : MethodName) (b : ByteArray) (n : Nat) (fr lo : Nat) (av : List Value) (S : St) (res : St) : Prop :=
  ∀ sz : Nat, Met l y (Cond.code y b n none :: G) { frames := fr, cells := 0, slots := 0, locals := lo } (zPre D cl tys NW (zw X ad T cf S) sz av) (eV D cl X ad T cf (va_A (zw X ad T cf S) sz) res) 0 0 (va_A (zw X ad T cf S) sz)
def cR (l : Launch) (G : List Cond) (D : va_G) (cl : List vw_C) (tys : List (ClassId × FieldType)) (NW : List (String × Nat × MethodName × String)) (X : va_W) (ad : N3 → Nat) (T : List N3) (cf : Cf) (y : MethodName) (b : ByteArray) (n : Nat) (ret : FieldType) (fr lo : Nat) (av : List Value) (S : St) (res : N3 × St) : Prop :=
  ∀ sz : Nat, Met l y (Cond.code y b n (some ret) :: G) { frames := fr, cells := 0, slots := 0, locals := lo } (zPre D cl tys NW (zw X ad T cf S) sz av) (eR D cl X ad T cf (va_A (zw X ad T cf S) sz) res) 0 0 (va_A (zw X ad T cf S) sz)
/-- what is fixed in a method's walk -/
def Hy (p : Program) (s : State) (m : MethodId) (args : Array Value) (meth : Method) (c : Code) (b : ByteArray) (n : Nat) (ret : Option FieldType) (own : String) (G : List Cond) (D : va_G) (cl : List vw_C) (tys : List (ClassId × FieldType)) (NW : List (String × Nat × MethodName × String)) : Prop :=
  CallFix p m c b n s args G own ∧ meth.sig.returnType = ret ∧ meth.locks = false ∧ zK D cl tys NW s
/-- what a method that is called gives, once for all: its code, its tables' words -/
def cdV (G : List Cond) (y : MethodName) (b : ByteArray) (n : Nat) (ret : Option FieldType) (np : Nat) : Prop :=
  Cond.code y b n ret ∈ G ∧ Cond.instanceMethod y ∈ G ∧ Cond.selects y.cls y y ∈ G ∧ Cond.initialized y.cls ∈ G ∧ (y.cls ≠ "java/lang/invoke/MethodHandle" ∧ y.cls ≠ "java/lang/invoke/VarHandle" ∧ (parseMethodDescriptor y.desc).map (fun d => d.parameters.length) = some np) ∧ ∀ w ∈ G, goodWord w = true
def cdS (G : List Cond) (y : MethodName) (b : ByteArray) (n : Nat) (ret : Option FieldType) (np : Nat) : Prop :=
  Cond.code y b n ret ∈ G ∧ Cond.static y ∈ G ∧ Cond.initialized y.cls ∈ G ∧ (y.cls ≠ "java/lang/invoke/MethodHandle" ∧ y.cls ≠ "java/lang/invoke/VarHandle" ∧ (parseMethodDescriptor y.desc).map (fun d => d.parameters.length) = some np) ∧ ∀ w ∈ G, goodWord w = true
theorem cdV.good {G : List Cond} {y : MethodName} {b : ByteArray} {n : Nat} {ret : Option FieldType} {np : Nat} (h : cdV G y b n ret np) {own : String} {index : Nat} (hl : Cond.methodLink own index y ∈ G) : GoodIn G (wsV own index y.cls y (Cond.code y b n ret :: G)) := by
  obtain ⟨h1, h2, h3, h4, -, hg⟩ := h
  have key : ∀ w ∈ wsV own index y.cls y (Cond.code y b n ret :: G), w ∈ G := by
    intro w hw
    unfold wsV at hw
    rcases List.mem_append.mp hw with hw | hw
    · simp only [List.mem_cons, List.not_mem_nil, or_false] at hw
      rcases hw with rfl | rfl | rfl | rfl
      · exact hl
      · exact h2
      · exact h3
      · exact h4
    · rcases List.mem_cons.mp hw with rfl | hw
      · exact h1
      · exact hw
  exact fun w hw => ⟨key w hw, good_of_word (hg w (key w hw))⟩
theorem cdS.good {G : List Cond} {y : MethodName} {b : ByteArray} {n : Nat} {ret : Option FieldType} {np : Nat} (h : cdS G y b n ret np) {own : String} {index : Nat} (hl : Cond.methodLink own index y ∈ G) : GoodIn G (va_wsS own index y (Cond.code y b n ret :: G)) := by
  obtain ⟨h1, h2, h3, -, hg⟩ := h
  have key : ∀ w ∈ va_wsS own index y (Cond.code y b n ret :: G), w ∈ G := by
    intro w hw
    unfold va_wsS at hw
    rcases List.mem_append.mp hw with hw | hw
    · simp only [List.mem_cons, List.not_mem_nil, or_false] at hw
      rcases hw with rfl | rfl | rfl
      · exact hl
      · exact h2
      · exact h3
    · rcases List.mem_cons.mp hw with rfl | hw
      · exact h1
      · exact hw
  exact fun w hw => ⟨key w hw, good_of_word (hg w (key w hw))⟩
theorem cdS.goodN {G : List Cond} {y : MethodName} {b : ByteArray} {n : Nat} {ret : Option FieldType} {np : Nat} (h : cdS G y b n ret np) : GoodIn G (Cond.code y b n ret :: G) := by
  obtain ⟨h1, -, -, -, hg⟩ := h
  have key : ∀ w ∈ (Cond.code y b n ret :: G), w ∈ G := fun w hw => (List.mem_cons.mp hw).elim (fun e => by rw [e]; exact h1) id
  exact fun w hw => ⟨key w hw, good_of_word (hg w (key w hw))⟩
theorem Wd.free {D : va_G} {cl : List vw_C} {A : Nat → Prop} {H0 H : Heap} {ws : va_W} {locs : List Loc} (hW : Wd D cl A H0 ws H locs) (hA : ∀ q, H0.size ≤ q → A q) : ∀ q, va_A ws H.size q → A q := by
  intro q h
  rcases h with ⟨k, e, h⟩ | h
  · exact hW.2.1.2 k _ h
  · exact hA q (Nat.le_trans hW.2.2.1 h)
theorem zAt.wd {D : va_G} {cl : List vw_C} {A B : Nat → Prop} {X : va_W} {ad : N3 → Nat} {T : List N3} {cf : Cf} {S : St} {t : State} {H0 H1 : Heap} {locs : List Loc} (h : zAt D cl X ad T cf B S t) (ht : t.heap = H1) (hBA : ∀ q, B q → A q) (hS : va_S A H0 H1 locs) : Wd D cl A H0 (zw X ad T cf S) H1 locs := ⟨by rw [← ht]; exact h.1, h.2.weaken (fun _ _ _ z => hBA _ z), hS⟩
section ZC
variable {p : Program} {l : Launch} {e : Env} {R : Room} {s : State} {m : MethodId} {args : Array Value} {below : List Frame} {meth : Method} {c : Code} {H : Heap} {locs : List Loc} {cells slots : Nat} {Q : State → Prop}
variable {cc : ByteArray} {pc nL : Nat} {ls : Array Slot} {rest st0 : List Value} {D : va_G} {cl : List vw_C} {A : Nat → Prop} {tys : List (ClassId × FieldType)} {NW : List (String × Nat × MethodName × String)} {H0 : Heap} {X : va_W} {ad : N3 → Nat} {T : List N3} {cf : Cf} {S : St} {G : List Cond} {own : String}
variable {y : MethodName} {b : ByteArray} {n np index fr lo : Nat} {ret : FieldType} {ro : Option FieldType} {As : List Value}
theorem zI_of {av : List Value} {res : Int32 × St} (hy : plainName y.cls = true) (hlen : (lg_sl av).length ≤ n)
    (body : ∀ (p : Program) (e : Env) (s : State) (m : MethodId) (below : List Frame) (meth : Method) (c : Code) (A : Nat → Prop) (ls : Array Slot), Hy p s m av.toArray meth c b n (some ret) y.cls G D cl tys NW → Wd D cl A s.heap (zw X ad T cf S) s.heap [] → (∀ q, s.heap.size ≤ q → A q) → lv_has ls n (lv_args 0 av) →
      W p l e { frames := fr, cells := 0, slots := 0, locals := lo } s m av.toArray below meth c s.heap [] 0 0 (MQ below (eI D cl X ad T cf A res) av.toArray s 0 0 A) (F0 m 0 ls [])) : cI l G D cl tys NW X ad T cf y b n ret fr lo av S res := by
  intro sz
  refine Met.ofW (cc := b) (maxL := n) (ret := some ret) hy rfl ?_
  intro p e s m args below meth c s₁ B hml hv
  obtain ⟨rfl, hsz, hP, hK, hD0⟩ := hv
  have hts := atoms_spec (ws := Cond.code y b n (some ret) :: G) B.pre
  subst hsz
  have hl := lv_entry av (n := n) hlen
  rw [lg_entry_eq]
  exact body p e s m below meth c _ _ ⟨⟨B.exec, B.bytes, hml, findClass_of_methodNamed B.named, fun w h => hts w (List.mem_cons_of_mem _ h)⟩, B.returns, B.notSynchronized, hK⟩ ⟨hP, hD0.self, va_S.rf⟩ (fun q h => Or.inr h) hl
theorem zL_of {av : List Value} {res : Int64 × St} (hy : plainName y.cls = true) (hlen : (lg_sl av).length ≤ n)
    (body : ∀ (p : Program) (e : Env) (s : State) (m : MethodId) (below : List Frame) (meth : Method) (c : Code) (A : Nat → Prop) (ls : Array Slot), Hy p s m av.toArray meth c b n (some ret) y.cls G D cl tys NW → Wd D cl A s.heap (zw X ad T cf S) s.heap [] → (∀ q, s.heap.size ≤ q → A q) → lv_has ls n (lv_args 0 av) →
      W p l e { frames := fr, cells := 0, slots := 0, locals := lo } s m av.toArray below meth c s.heap [] 0 0 (MQ below (eL D cl X ad T cf A res) av.toArray s 0 0 A) (F0 m 0 ls [])) : cL l G D cl tys NW X ad T cf y b n ret fr lo av S res := by
  intro sz
  refine Met.ofW (cc := b) (maxL := n) (ret := some ret) hy rfl ?_
  intro p e s m args below meth c s₁ B hml hv
  obtain ⟨rfl, hsz, hP, hK, hD0⟩ := hv
  have hts := atoms_spec (ws := Cond.code y b n (some ret) :: G) B.pre
  subst hsz
  have hl := lv_entry av (n := n) hlen
  rw [lg_entry_eq]
  exact body p e s m below meth c _ _ ⟨⟨B.exec, B.bytes, hml, findClass_of_methodNamed B.named, fun w h => hts w (List.mem_cons_of_mem _ h)⟩, B.returns, B.notSynchronized, hK⟩ ⟨hP, hD0.self, va_S.rf⟩ (fun q h => Or.inr h) hl
theorem zV_of {av : List Value} {res : St} (hy : plainName y.cls = true) (hlen : (lg_sl av).length ≤ n)
    (body : ∀ (p : Program) (e : Env) (s : State) (m : MethodId) (below : List Frame) (meth : Method) (c : Code) (A : Nat → Prop) (ls : Array Slot), Hy p s m av.toArray meth c b n none y.cls G D cl tys NW → Wd D cl A s.heap (zw X ad T cf S) s.heap [] → (∀ q, s.heap.size ≤ q → A q) → lv_has ls n (lv_args 0 av) →
      W p l e { frames := fr, cells := 0, slots := 0, locals := lo } s m av.toArray below meth c s.heap [] 0 0 (MQ below (eV D cl X ad T cf A res) av.toArray s 0 0 A) (F0 m 0 ls [])) : cV l G D cl tys NW X ad T cf y b n fr lo av S res := by
  intro sz
  refine Met.ofW (cc := b) (maxL := n) (ret := none) hy rfl ?_
  intro p e s m args below meth c s₁ B hml hv
  obtain ⟨rfl, hsz, hP, hK, hD0⟩ := hv
  have hts := atoms_spec (ws := Cond.code y b n none :: G) B.pre
  subst hsz
  have hl := lv_entry av (n := n) hlen
  rw [lg_entry_eq]
  exact body p e s m below meth c _ _ ⟨⟨B.exec, B.bytes, hml, findClass_of_methodNamed B.named, fun w h => hts w (List.mem_cons_of_mem _ h)⟩, B.returns, B.notSynchronized, hK⟩ ⟨hP, hD0.self, va_S.rf⟩ (fun q h => Or.inr h) hl
theorem zR_of {av : List Value} {res : N3 × St} (hy : plainName y.cls = true) (hlen : (lg_sl av).length ≤ n)
    (body : ∀ (p : Program) (e : Env) (s : State) (m : MethodId) (below : List Frame) (meth : Method) (c : Code) (A : Nat → Prop) (ls : Array Slot), Hy p s m av.toArray meth c b n (some ret) y.cls G D cl tys NW → Wd D cl A s.heap (zw X ad T cf S) s.heap [] → (∀ q, s.heap.size ≤ q → A q) → lv_has ls n (lv_args 0 av) →
      W p l e { frames := fr, cells := 0, slots := 0, locals := lo } s m av.toArray below meth c s.heap [] 0 0 (MQ below (eR D cl X ad T cf A res) av.toArray s 0 0 A) (F0 m 0 ls [])) : cR l G D cl tys NW X ad T cf y b n ret fr lo av S res := by
  intro sz
  refine Met.ofW (cc := b) (maxL := n) (ret := some ret) hy rfl ?_
  intro p e s m args below meth c s₁ B hml hv
  obtain ⟨rfl, hsz, hP, hK, hD0⟩ := hv
  have hts := atoms_spec (ws := Cond.code y b n (some ret) :: G) B.pre
  subst hsz
  have hl := lv_entry av (n := n) hlen
  rw [lg_entry_eq]
  exact body p e s m below meth c _ _ ⟨⟨B.exec, B.bytes, hml, findClass_of_methodNamed B.named, fun w h => hts w (List.mem_cons_of_mem _ h)⟩, B.returns, B.notSynchronized, hK⟩ ⟨hP, hD0.self, va_S.rf⟩ (fun q h => Or.inr h) hl
/-- returns -/
theorem z_iret (hy : Hy p s m args meth c cc nL (some .int) own G D cl tys NW) (hW : Wd D cl A s.heap (zw X ad T cf S) H locs) {v : Int32} {res : Int32 × St} (e1 : res = (v, S)) (hdg : decode cc pc = .ok (.ireturn, 1)) : W p l e R s m args below meth c H locs 0 0 (MQ below (eI D cl X ad T cf A res) args s 0 0 A) (F0 m pc ls [.int v]) := by
  subst e1
  exact W.iret hy.1.1 hy.1.2.1 hy.2.1 (fun t ht _ => ⟨⟨v, S, rfl, ⟨rfl, rfl⟩, by rw [ht]; exact hW.1, hW.2.1⟩, hW.2.2.F ht⟩) hW.2.2.2.2 hdg hy.2.2.1
theorem z_zret (hy : Hy p s m args meth c cc nL (some .boolean) own G D cl tys NW) (hW : Wd D cl A s.heap (zw X ad T cf S) H locs) {v : Int32} {res : Int32 × St} (hn : narrow .boolean (.int v) = .int v) (e1 : res = (v, S)) (hdg : decode cc pc = .ok (.ireturn, 1)) : W p l e R s m args below meth c H locs 0 0 (MQ below (eI D cl X ad T cf A res) args s 0 0 A) (F0 m pc ls [.int v]) := by
  subst e1
  exact W.zret hy.1.1 hy.1.2.1 hy.2.1 hn (fun t ht _ => ⟨⟨v, S, rfl, ⟨rfl, rfl⟩, by rw [ht]; exact hW.1, hW.2.1⟩, hW.2.2.F ht⟩) hW.2.2.2.2 hdg hy.2.2.1
theorem z_lret (hy : Hy p s m args meth c cc nL (some .long) own G D cl tys NW) (hW : Wd D cl A s.heap (zw X ad T cf S) H locs) {v : Int64} {res : Int64 × St} (e1 : res = (v, S)) (hdg : decode cc pc = .ok (.lreturn, 1)) : W p l e R s m args below meth c H locs 0 0 (MQ below (eL D cl X ad T cf A res) args s 0 0 A) (F0 m pc ls [.long v]) := by
  subst e1
  exact W.lret hy.1.1 hy.1.2.1 hy.2.1 (fun t ht _ => ⟨⟨v, S, rfl, ⟨rfl, rfl⟩, by rw [ht]; exact hW.1, hW.2.1⟩, hW.2.2.F ht⟩) hW.2.2.2.2 hdg hy.2.2.1
theorem z_vret (hy : Hy p s m args meth c cc nL none own G D cl tys NW) (hW : Wd D cl A s.heap (zw X ad T cf S) H locs) {res : St} (e1 : res = S) (hdg : decode cc pc = .ok (.return_, 1)) : W p l e R s m args below meth c H locs 0 0 (MQ below (eV D cl X ad T cf A res) args s 0 0 A) (F0 m pc ls []) := by
  subst e1
  exact W.vret hy.1.1 hy.1.2.1 hy.2.1 (fun t ht _ => ⟨⟨_, rfl, rfl, by rw [ht]; exact hW.1, hW.2.1⟩, hW.2.2.F ht⟩) hW.2.2.2.2 hdg hy.2.2.1
theorem z_aret {C : String} (hy : Hy p s m args meth c cc nL (some (.object C)) own G D cl tys NW) (hW : Wd D cl A s.heap (zw X ad T cf S) H locs) {t : N3} {res : N3 × St} (e1 : res = (t, S)) (hdg : decode cc pc = .ok (.areturn, 1)) : W p l e R s m args below meth c H locs 0 0 (MQ below (eR D cl X ad T cf A res) args s 0 0 A) (F0 m pc ls [.ref (ad t)]) := by
  subst e1
  exact W.aret hy.1.1 hy.1.2.1 hy.2.1 (Or.inl ⟨C, rfl⟩) (Or.inr ⟨_, rfl⟩) (fun u hu _ => ⟨⟨S, ad t, rfl, rfl, rfl, by rw [hu]; exact hW.1, hW.2.1⟩, hW.2.2.F hu⟩) hW.2.2.2.2 hdg hy.2.2.1
/-- calls of an instance's method -/
theorem z_runV {Qc : Array Value → State → Outcome → State → Prop} (hF : CallFix p m c cc nL s args G own) (hK : zK D cl tys NW s) (hW : Wd D cl A H0 (zw X ad T cf S) H locs) {t : N3} (hM : Met l y (Cond.code y b n ro :: G) { frames := fr, cells := 0, slots := 0, locals := lo } (zPre D cl tys NW (zw X ad T cf S) H.size (.ref (ad t) :: As)) Qc 0 0 (va_A (zw X ad T cf S) H.size)) (cd : cdV G y b n ro np) (hlink : Cond.methodLink own index y ∈ G) (ht : t ∈ T) {T1 : u_T} {N ci : Nat} {fs : List Value} (he : zs cf S t = .inr (ci, fs)) (hc : cl[ci]? = some (y.cls, T1, N))
    (hR : fr + 1 ≤ R.frames ∧ 8 + (n + 11) + lo ≤ R.locals) (hcs : cells ≤ R.cells ∧ slots ≤ R.slots) (hst : st0 = As.reverse ++ .ref (ad t) :: rest) (hnp : As.length = np) (hsz : ls.size = nL) (hroom : (rest.map fun v => v.category).sum ≤ 8) (hdg : decode cc pc = .ok (.invokevirtual index, 3)) :
    va_Run p l e R s m args below meth c H locs cells slots 0 0 (F0 m pc ls st0) rest (Qc (Value.ref (ad t) :: As).toArray) (va_A (zw X ad T cf S) H.size) := by
  obtain ⟨k, hk⟩ := zw_get (X := X) (ad := ad) (cf := cf) (S := S) ht
  rw [he] at hk
  exact va_runV (As := As) (rest := rest) hF hM (cwV np hF.2.2.2.2 (cd.good hlink) rfl rfl rfl ⟨rfl, cd.2.2.2.2.1⟩ hR) ⟨zPre.blind, va_recv hK.1 hW.1 hc hk, zPre.at hW.1 hW.2.1 hK⟩ rfl hnp hsz hst (lv_room hroom) hdg hcs
theorem z_runS {Qc : Array Value → State → Outcome → State → Prop} (hF : CallFix p m c cc nL s args G own) (hK : zK D cl tys NW s) (hW : Wd D cl A H0 (zw X ad T cf S) H locs) (hM : Met l y (Cond.code y b n ro :: G) { frames := fr, cells := 0, slots := 0, locals := lo } (zPre D cl tys NW (zw X ad T cf S) H.size As) Qc 0 0 (va_A (zw X ad T cf S) H.size)) (cd : cdS G y b n ro np) (hlink : Cond.methodLink own index y ∈ G)
    (hR : fr + 1 ≤ R.frames ∧ 8 + (n + 11) + lo ≤ R.locals) (hcs : cells ≤ R.cells ∧ slots ≤ R.slots) (hst : st0 = As.reverse ++ rest) (hnp : As.length = np) (hsz : ls.size = nL) (hroom : (rest.map fun v => v.category).sum ≤ 8) (hdg : decode cc pc = .ok (.invokestatic index, 3)) :
    va_Run p l e R s m args below meth c H locs cells slots 0 0 (F0 m pc ls st0) rest (Qc As.toArray) (va_A (zw X ad T cf S) H.size) :=
  va_runS (As := As) (rest := rest) hF hM (va_cwS np hF.2.2.2.2 (cd.good hlink) rfl rfl rfl cd.2.2.2.1 hR) ⟨zPre.blind, zPre.at hW.1 hW.2.1 hK⟩ rfl hnp hsz hst (lv_room hroom) hdg hcs
theorem z_runSN {host : String} {Qc : Array Value → State → Outcome → State → Prop} (hF : CallFix p m c cc nL s args G own) (hK : zK D cl tys NW s) (hW : Wd D cl A H0 (zw X ad T cf S) H locs) (hM : Met l y (Cond.code y b n ro :: G) { frames := fr, cells := 0, slots := 0, locals := lo } (zPre D cl tys NW (zw X ad T cf S) H.size As) Qc 0 0 (va_A (zw X ad T cf S) H.size)) (cd : cdS G y b n ro np) (hlink : (own, index, y, host) ∈ NW)
    (hR : fr + 1 ≤ R.frames ∧ 8 + (n + 11) + lo ≤ R.locals) (hcs : cells ≤ R.cells ∧ slots ≤ R.slots) (hst : st0 = As.reverse ++ rest) (hnp : As.length = np) (hsz : ls.size = nL) (hroom : (rest.map fun v => v.category).sum ≤ 8) (hdg : decode cc pc = .ok (.invokestatic index, 3)) :
    va_Run p l e R s m args below meth c H locs cells slots 0 0 (F0 m pc ls st0) rest (Qc As.toArray) (va_A (zw X ad T cf S) H.size) :=
  va_runSN (As := As) (rest := rest) hF hM ⟨va_cnB np hF.2.2.2.2 cd.goodN rfl rfl rfl (hK.2 _ hlink) (hF.2.2.2.2 _ cd.2.2.1) cd.2.2.2.1 hR, hF.2.2.2.2 _ cd.2.1, trivial⟩ ⟨zPre.blind, zPre.at hW.1 hW.2.1 hK⟩ rfl hnp hsz hst (lv_room hroom) hdg hcs
/-- behind a call -/
theorem z_thenI {a : Array Value} {res : Int32 × St} (hW : Wd D cl A H0 (zw X ad T cf S) H locs) (hA : ∀ q, H0.size ≤ q → A q) (hr : va_Run p l e R s m args below meth c H locs cells slots 0 0 (F0 m pc ls st0) rest (eI D cl X ad T cf (va_A (zw X ad T cf S) H.size) res a) (va_A (zw X ad T cf S) H.size))
    (kk : ∀ (H1 : Heap) (locs1 : List Loc), Wd D cl A H0 (zw X ad T cf res.2) H1 locs1 → W p l e R s m args below meth c H1 locs1 cells slots Q (F0 m (pc + 3) ls (.int res.1 :: rest))) : W p l e R s m args below meth c H locs cells slots Q (F0 m pc ls st0) := by
  have hf := hW.free hA
  refine va_calli hr hW.2.2 (fun q _ h => hf q h) hf (fun r u t H1 locs1 ht _ hp hB _ _ hS => ?_)
  obtain ⟨rfl, rfl⟩ := hp
  exact kk H1 locs1 (hB.wd ht hf hS)
theorem z_thenL {a : Array Value} {res : Int64 × St} (hW : Wd D cl A H0 (zw X ad T cf S) H locs) (hA : ∀ q, H0.size ≤ q → A q) (hr : va_Run p l e R s m args below meth c H locs cells slots 0 0 (F0 m pc ls st0) rest (eL D cl X ad T cf (va_A (zw X ad T cf S) H.size) res a) (va_A (zw X ad T cf S) H.size))
    (kk : ∀ (H1 : Heap) (locs1 : List Loc), Wd D cl A H0 (zw X ad T cf res.2) H1 locs1 → W p l e R s m args below meth c H1 locs1 cells slots Q (F0 m (pc + 3) ls (.long res.1 :: rest))) : W p l e R s m args below meth c H locs cells slots Q (F0 m pc ls st0) := by
  have hf := hW.free hA
  refine va_calll hr hW.2.2 (fun q _ h => hf q h) hf (fun r u t H1 locs1 ht _ hp hB _ _ hS => ?_)
  obtain ⟨rfl, rfl⟩ := hp
  exact kk H1 locs1 (hB.wd ht hf hS)
theorem z_thenV {a : Array Value} {res : St} (hW : Wd D cl A H0 (zw X ad T cf S) H locs) (hA : ∀ q, H0.size ≤ q → A q) (hr : va_Run p l e R s m args below meth c H locs cells slots 0 0 (F0 m pc ls st0) rest (eV D cl X ad T cf (va_A (zw X ad T cf S) H.size) res a) (va_A (zw X ad T cf S) H.size))
    (kk : ∀ (H1 : Heap) (locs1 : List Loc), Wd D cl A H0 (zw X ad T cf res) H1 locs1 → W p l e R s m args below meth c H1 locs1 cells slots Q (F0 m (pc + 3) ls rest)) : W p l e R s m args below meth c H locs cells slots Q (F0 m pc ls st0) := by
  have hf := hW.free hA
  refine va_callv hr hW.2.2 (fun q _ h => hf q h) hf (fun u t H1 locs1 ht _ hp hB _ _ hS => ?_)
  subst hp
  exact kk H1 locs1 (hB.wd ht hf hS)
theorem z_thenR {a : Array Value} {res : N3 × St} (hW : Wd D cl A H0 (zw X ad T cf S) H locs) (hA : ∀ q, H0.size ≤ q → A q) (hr : va_Run p l e R s m args below meth c H locs cells slots 0 0 (F0 m pc ls st0) rest (eR D cl X ad T cf (va_A (zw X ad T cf S) H.size) res a) (va_A (zw X ad T cf S) H.size))
    (kk : ∀ (H1 : Heap) (locs1 : List Loc), Wd D cl A H0 (zw X ad T cf res.2) H1 locs1 → W p l e R s m args below meth c H1 locs1 cells slots Q (F0 m (pc + 3) ls (.ref (ad res.1) :: rest))) : W p l e R s m args below meth c H locs cells slots Q (F0 m pc ls st0) := by
  have hf := hW.free hA
  refine va_callr hr hW.2.2 (fun q _ h => hf q h) hf (fun u ra t H1 locs1 ht _ hp hB _ _ hS => ?_)
  subst hp
  obtain ⟨rfl, hB⟩ := hB
  exact kk H1 locs1 (hB.wd ht hf hS)
end ZC
end
section
/-! Names: classes, methods, their words. Written by wip/whole/make.py. -/
def GG : List Cond := lw_tbl.filter goodWord
theorem GG_good : ∀ w ∈ GG, goodWord w = true := fun w h => (List.mem_filter.mp h).2
theorem GG_in {w : Cond} {i : Nat} (h : lw_tbl[i]? = some w) (hg : goodWord w = true) : w ∈ GG := List.mem_filter.mpr ⟨List.mem_of_getElem? h, hg⟩
def R_Message : String := "QuorumChain$Message"
def F_Message : u_T := fun k => match k with
  | 0 => ("QuorumChain$Message", "signature", "[J", true)
  | 1 => ("QuorumChain$Message", "kind", "I", false)
  | 2 => ("QuorumChain$Message", "sender", "I", false)
  | 3 => ("QuorumChain$Message", "block", "I", false)
  | 4 => ("QuorumChain$Message", "view", "I", false)
  | _ => ("QuorumChain$Message", "key", "I", false)
def t_Message : Nat → FieldType := fun k => match k with
  | 0 => .array .long
  | 1 => .int
  | 2 => .int
  | 3 => .int
  | 4 => .int
  | _ => .int
theorem nmo_Message : ∀ a, a < 6 → ∀ b, b < 6 → a ≠ b → (F_Message a).2.1 ≠ (F_Message b).2.1 := by decide +kernel
theorem tyo_Message : ∀ k, k < 6 → parseFieldDescriptor (F_Message k).2.2.1 = some (t_Message k) := by decide +kernel
theorem pn_Message : plainName R_Message = true := by decide +kernel
def R_KeyTree : String := "QuorumChain$KeyTree"
def F_KeyTree : u_T := fun k => match k with
  | 0 => ("QuorumChain$KeyTree", "tree", "[J", true)
  | 1 => ("QuorumChain$KeyTree", "seed", "I", true)
  | 2 => ("QuorumChain$KeyTree", "owner", "I", true)
  | _ => ("QuorumChain$KeyTree", "used", "I", false)
def t_KeyTree : Nat → FieldType := fun k => match k with
  | 0 => .array .long
  | 1 => .int
  | 2 => .int
  | _ => .int
theorem nmo_KeyTree : ∀ a, a < 4 → ∀ b, b < 4 → a ≠ b → (F_KeyTree a).2.1 ≠ (F_KeyTree b).2.1 := by decide +kernel
theorem tyo_KeyTree : ∀ k, k < 4 → parseFieldDescriptor (F_KeyTree k).2.2.1 = some (t_KeyTree k) := by decide +kernel
theorem pn_KeyTree : plainName R_KeyTree = true := by decide +kernel
def R_Fold : String := "QuorumChain$Fold"
theorem pn_Fold : plainName R_Fold = true := by decide +kernel
def R_QC : String := "QuorumChain"
def F_QC : u_T := fun k => match k with
  | 0 => ("QuorumChain", "nodes", "[LQuorumChain$Node;", true)
  | 1 => ("QuorumChain", "blocks", "LQuorumChain$Blocks;", true)
  | 2 => ("QuorumChain", "transactions", "LQuorumChain$Transactions;", true)
  | 3 => ("QuorumChain", "draft", "LQuorumChain$Message;", true)
  | 4 => ("QuorumChain", "arrived", "LQuorumChain$Message;", true)
  | 5 => ("QuorumChain", "clock", "I", false)
  | _ => ("QuorumChain", "begun", "Z", false)
def t_QC : Nat → FieldType := fun k => match k with
  | 0 => .array (.object "QuorumChain$Node")
  | 1 => .object "QuorumChain$Blocks"
  | 2 => .object "QuorumChain$Transactions"
  | 3 => .object "QuorumChain$Message"
  | 4 => .object "QuorumChain$Message"
  | 5 => .int
  | _ => .boolean
theorem nmo_QC : ∀ a, a < 7 → ∀ b, b < 7 → a ≠ b → (F_QC a).2.1 ≠ (F_QC b).2.1 := by decide +kernel
theorem tyo_QC : ∀ k, k < 7 → parseFieldDescriptor (F_QC k).2.2.1 = some (t_QC k) := by decide +kernel
theorem pn_QC : plainName R_QC = true := by decide +kernel
def R_Inbox : String := "QuorumChain$Inbox"
def F_Inbox : u_T := fun k => match k with
  | 0 => ("QuorumChain$Inbox", "row", "[LQuorumChain$Message;", true)
  | _ => ("QuorumChain$Inbox", "count", "I", false)
def t_Inbox : Nat → FieldType := fun k => match k with
  | 0 => .array (.object "QuorumChain$Message")
  | _ => .int
theorem nmo_Inbox : ∀ a, a < 2 → ∀ b, b < 2 → a ≠ b → (F_Inbox a).2.1 ≠ (F_Inbox b).2.1 := by decide +kernel
theorem tyo_Inbox : ∀ k, k < 2 → parseFieldDescriptor (F_Inbox k).2.2.1 = some (t_Inbox k) := by decide +kernel
theorem pn_Inbox : plainName R_Inbox = true := by decide +kernel
def R_Store : String := "QuorumChain$Store"
def F_Store : u_T := fun k => match k with
  | 0 => ("QuorumChain$Store", "has", "[Z", true)
  | 1 => ("QuorumChain$Store", "log", "[I", true)
  | 2 => ("QuorumChain$Store", "accounts", "LQuorumChain$Accounts;", true)
  | 3 => ("QuorumChain$Store", "keys", "LQuorumChain$KeyTree;", true)
  | 4 => ("QuorumChain$Store", "blockCount", "I", false)
  | 5 => ("QuorumChain$Store", "logLength", "I", false)
  | 6 => ("QuorumChain$Store", "voted", "I", false)
  | _ => ("QuorumChain$Store", "locked", "I", false)
def t_Store : Nat → FieldType := fun k => match k with
  | 0 => .array .boolean
  | 1 => .array .int
  | 2 => .object "QuorumChain$Accounts"
  | 3 => .object "QuorumChain$KeyTree"
  | 4 => .int
  | 5 => .int
  | 6 => .int
  | _ => .int
theorem nmo_Store : ∀ a, a < 8 → ∀ b, b < 8 → a ≠ b → (F_Store a).2.1 ≠ (F_Store b).2.1 := by decide +kernel
theorem tyo_Store : ∀ k, k < 8 → parseFieldDescriptor (F_Store k).2.2.1 = some (t_Store k) := by decide +kernel
theorem pn_Store : plainName R_Store = true := by decide +kernel
def R_Node : String := "QuorumChain$Node"
def F_Node : u_T := fun k => match k with
  | 0 => ("QuorumChain$Node", "id", "I", true)
  | 1 => ("QuorumChain$Node", "store", "LQuorumChain$Store;", true)
  | 2 => ("QuorumChain$Node", "inbox", "LQuorumChain$Inbox;", true)
  | 3 => ("QuorumChain$Node", "votes", "LQuorumChain$Tally;", true)
  | 4 => ("QuorumChain$Node", "timeouts", "LQuorumChain$Tally;", true)
  | 5 => ("QuorumChain$Node", "pool", "[I", true)
  | 6 => ("QuorumChain$Node", "poolSize", "I", false)
  | 7 => ("QuorumChain$Node", "up", "Z", false)
  | 8 => ("QuorumChain$Node", "view", "I", false)
  | 9 => ("QuorumChain$Node", "timer", "I", false)
  | 10 => ("QuorumChain$Node", "span", "I", false)
  | _ => ("QuorumChain$Node", "high", "I", false)
def t_Node : Nat → FieldType := fun k => match k with
  | 0 => .int
  | 1 => .object "QuorumChain$Store"
  | 2 => .object "QuorumChain$Inbox"
  | 3 => .object "QuorumChain$Tally"
  | 4 => .object "QuorumChain$Tally"
  | 5 => .array .int
  | 6 => .int
  | 7 => .boolean
  | 8 => .int
  | 9 => .int
  | 10 => .int
  | _ => .int
theorem nmo_Node : ∀ a, a < 12 → ∀ b, b < 12 → a ≠ b → (F_Node a).2.1 ≠ (F_Node b).2.1 := by decide +kernel
theorem tyo_Node : ∀ k, k < 12 → parseFieldDescriptor (F_Node k).2.2.1 = some (t_Node k) := by decide +kernel
theorem pn_Node : plainName R_Node = true := by decide +kernel
def R_Blocks : String := "QuorumChain$Blocks"
def F_Blocks : u_T := fun k => match k with
  | 0 => ("QuorumChain$Blocks", "view", "[I", true)
  | 1 => ("QuorumChain$Blocks", "parent", "[I", true)
  | 2 => ("QuorumChain$Blocks", "carried", "[I", true)
  | 3 => ("QuorumChain$Blocks", "certified", "[Z", true)
  | _ => ("QuorumChain$Blocks", "count", "I", false)
def t_Blocks : Nat → FieldType := fun k => match k with
  | 0 => .array .int
  | 1 => .array .int
  | 2 => .array .int
  | 3 => .array .boolean
  | _ => .int
theorem nmo_Blocks : ∀ a, a < 5 → ∀ b, b < 5 → a ≠ b → (F_Blocks a).2.1 ≠ (F_Blocks b).2.1 := by decide +kernel
theorem tyo_Blocks : ∀ k, k < 5 → parseFieldDescriptor (F_Blocks k).2.2.1 = some (t_Blocks k) := by decide +kernel
theorem pn_Blocks : plainName R_Blocks = true := by decide +kernel
def R_Transactions : String := "QuorumChain$Transactions"
def F_Transactions : u_T := fun k => match k with
  | 0 => ("QuorumChain$Transactions", "from", "[I", true)
  | 1 => ("QuorumChain$Transactions", "to", "[I", true)
  | 2 => ("QuorumChain$Transactions", "amount", "[I", true)
  | 3 => ("QuorumChain$Transactions", "nonce", "[I", true)
  | _ => ("QuorumChain$Transactions", "count", "I", false)
def t_Transactions : Nat → FieldType := fun k => match k with
  | 0 => .array .int
  | 1 => .array .int
  | 2 => .array .int
  | 3 => .array .int
  | _ => .int
theorem nmo_Transactions : ∀ a, a < 5 → ∀ b, b < 5 → a ≠ b → (F_Transactions a).2.1 ≠ (F_Transactions b).2.1 := by decide +kernel
theorem tyo_Transactions : ∀ k, k < 5 → parseFieldDescriptor (F_Transactions k).2.2.1 = some (t_Transactions k) := by decide +kernel
theorem pn_Transactions : plainName R_Transactions = true := by decide +kernel
def R_Accounts : String := "QuorumChain$Accounts"
def F_Accounts : u_T := fun k => match k with
  | 0 => ("QuorumChain$Accounts", "money", "[I", true)
  | _ => ("QuorumChain$Accounts", "nonce", "[I", true)
def t_Accounts : Nat → FieldType := fun k => match k with
  | 0 => .array .int
  | _ => .array .int
theorem nmo_Accounts : ∀ a, a < 2 → ∀ b, b < 2 → a ≠ b → (F_Accounts a).2.1 ≠ (F_Accounts b).2.1 := by decide +kernel
theorem tyo_Accounts : ∀ k, k < 2 → parseFieldDescriptor (F_Accounts k).2.2.1 = some (t_Accounts k) := by decide +kernel
theorem pn_Accounts : plainName R_Accounts = true := by decide +kernel
def R_Integer : String := "java/lang/Integer"
theorem pn_Integer : plainName R_Integer = true := by decide +kernel
def R_Tally : String := "QuorumChain$Tally"
def F_Tally : u_T := fun k => match k with
  | _ => ("QuorumChain$Tally", "bits", "[I", true)
def t_Tally : Nat → FieldType := fun k => match k with
  | _ => .array .int
theorem nmo_Tally : ∀ a, a < 1 → ∀ b, b < 1 → a ≠ b → (F_Tally a).2.1 ≠ (F_Tally b).2.1 := by decide +kernel
theorem tyo_Tally : ∀ k, k < 1 → parseFieldDescriptor (F_Tally k).2.2.1 = some (t_Tally k) := by decide +kernel
theorem pn_Tally : plainName R_Tally = true := by decide +kernel
abbrev b_Message_write : ByteArray := prog_7_method_2_code
def y_Message_write : MethodName := ⟨R_Message, "write", "(IIII)V"⟩
abbrev b_KeyTree_isLeft : ByteArray := prog_6_method_3_code
def y_KeyTree_isLeft : MethodName := ⟨R_KeyTree, "isLeft", "()Z"⟩
abbrev b_Fold_absorb : ByteArray := prog_4_method_2_code
def y_Fold_absorb : MethodName := ⟨R_Fold, "absorb", "(JJ)J"⟩
abbrev b_Fold_finish : ByteArray := prog_4_method_3_code
def y_Fold_finish : MethodName := ⟨R_Fold, "finish", "(J)J"⟩
abbrev b_Message_meaning : ByteArray := prog_7_method_4_code
def y_Message_meaning : MethodName := ⟨R_Message, "meaning", "()J"⟩
abbrev b_KeyTree_digit : ByteArray := prog_6_method_9_code
def y_KeyTree_digit : MethodName := ⟨R_KeyTree, "digit", "(II)I"⟩
abbrev b_KeyTree_digitsOf : ByteArray := prog_6_method_8_code
def y_KeyTree_digitsOf : MethodName := ⟨R_KeyTree, "digitsOf", "(J)I"⟩
abbrev b_KeyTree_secretOf : ByteArray := prog_6_method_7_code
def y_KeyTree_secretOf : MethodName := ⟨R_KeyTree, "secretOf", "(IIII)J"⟩
abbrev b_Fold_afterSteps : ByteArray := prog_4_method_5_code
def y_Fold_afterSteps : MethodName := ⟨R_Fold, "afterSteps", "(JI)J"⟩
abbrev b_KeyTree_sign : ByteArray := prog_6_method_4_code
def y_KeyTree_sign : MethodName := ⟨R_KeyTree, "sign", "(LQuorumChain$Message;)Z"⟩
abbrev b_QC_writeSigned : ByteArray := prog_1_method_40_code
def y_QC_writeSigned : MethodName := ⟨R_QC, "writeSigned", "(LQuorumChain$Node;III)Z"⟩
abbrev b_Message_copyFrom : ByteArray := prog_7_method_3_code
def y_Message_copyFrom : MethodName := ⟨R_Message, "copyFrom", "(LQuorumChain$Message;)V"⟩
abbrev b_Inbox_add : ByteArray := prog_5_method_3_code
def y_Inbox_add : MethodName := ⟨R_Inbox, "add", "(LQuorumChain$Message;)V"⟩
abbrev b_QC_sendDraftToAll : ByteArray := prog_1_method_41_code
def y_QC_sendDraftToAll : MethodName := ⟨R_QC, "sendDraftToAll", "()V"⟩
abbrev b_QC_countDown : ByteArray := prog_1_method_37_code
def y_QC_countDown : MethodName := ⟨R_QC, "countDown", "(LQuorumChain$Node;)V"⟩
abbrev b_QC_tick : ByteArray := prog_1_method_10_code
def y_QC_tick : MethodName := ⟨R_QC, "tick", "()I"⟩
abbrev b_QC_isNode : ByteArray := prog_1_method_20_code
def y_QC_isNode : MethodName := ⟨R_QC, "isNode", "(I)Z"⟩
abbrev b_QC_node : ByteArray := prog_1_method_13_code
def y_QC_node : MethodName := ⟨R_QC, "node", "(II)I"⟩
abbrev b_Store_logged : ByteArray := prog_9_method_4_code
def y_Store_logged : MethodName := ⟨R_Store, "logged", "(I)I"⟩
abbrev b_QC_log : ByteArray := prog_1_method_14_code
def y_QC_log : MethodName := ⟨R_QC, "log", "(II)I"⟩
abbrev b_QC_isAccount : ByteArray := prog_1_method_21_code
def y_QC_isAccount : MethodName := ⟨R_QC, "isAccount", "(I)Z"⟩
abbrev b_QC_account : ByteArray := prog_1_method_15_code
def y_QC_account : MethodName := ⟨R_QC, "account", "(III)I"⟩
abbrev b_Blocks_exists : ByteArray := prog_3_method_2_code
def y_Blocks_exists : MethodName := ⟨R_Blocks, "exists", "(I)Z"⟩
abbrev b_Blocks_viewOf : ByteArray := prog_3_method_4_code
def y_Blocks_viewOf : MethodName := ⟨R_Blocks, "viewOf", "(I)I"⟩
abbrev b_Blocks_parentOf : ByteArray := prog_3_method_5_code
def y_Blocks_parentOf : MethodName := ⟨R_Blocks, "parentOf", "(I)I"⟩
abbrev b_Blocks_transactionOf : ByteArray := prog_3_method_6_code
def y_Blocks_transactionOf : MethodName := ⟨R_Blocks, "transactionOf", "(I)I"⟩
abbrev b_Blocks_isCertified : ByteArray := prog_3_method_7_code
def y_Blocks_isCertified : MethodName := ⟨R_Blocks, "isCertified", "(I)Z"⟩
abbrev b_Store_hasBlock : ByteArray := prog_9_method_2_code
def y_Store_hasBlock : MethodName := ⟨R_Store, "hasBlock", "(I)Z"⟩
abbrev b_QC_nodesThatHave : ByteArray := prog_1_method_23_code
def y_QC_nodesThatHave : MethodName := ⟨R_QC, "nodesThatHave", "(I)I"⟩
abbrev b_QC_block : ByteArray := prog_1_method_16_code
def y_QC_block : MethodName := ⟨R_QC, "block", "(II)I"⟩
abbrev b_QC_message : ByteArray := prog_1_method_17_code
def y_QC_message : MethodName := ⟨R_QC, "message", "(III)I"⟩
abbrev b_KeyTree_top : ByteArray := prog_6_method_2_code
def y_KeyTree_top : MethodName := ⟨R_KeyTree, "top", "()J"⟩
abbrev b_QC_root : ByteArray := prog_1_method_18_code
def y_QC_root : MethodName := ⟨R_QC, "root", "(I)J"⟩
abbrev b_QC_about : ByteArray := prog_1_method_19_code
def y_QC_about : MethodName := ⟨R_QC, "about", "(I)I"⟩
abbrev b_QC_leaderOf : ByteArray := prog_1_method_22_code
def y_QC_leaderOf : MethodName := ⟨R_QC, "leaderOf", "(I)I"⟩
abbrev b_Blocks_isAbove : ByteArray := prog_3_method_9_code
def y_Blocks_isAbove : MethodName := ⟨R_Blocks, "isAbove", "(II)Z"⟩
abbrev b_QC_highestParent : ByteArray := prog_1_method_24_code
def y_QC_highestParent : MethodName := ⟨R_QC, "highestParent", "(LQuorumChain$Store;)I"⟩
abbrev b_Fold_pair : ByteArray := prog_4_method_4_code
def y_Fold_pair : MethodName := ⟨R_Fold, "pair", "(JJ)J"⟩
abbrev b_KeyTree_isGood : ByteArray := prog_6_method_5_code
def y_KeyTree_isGood : MethodName := ⟨R_KeyTree, "isGood", "(LQuorumChain$Message;)Z"⟩
abbrev b_QC_isHeard : ByteArray := prog_1_method_25_code
def y_QC_isHeard : MethodName := ⟨R_QC, "isHeard", "(LQuorumChain$Message;)Z"⟩
abbrev b_QC_sendUnsigned : ByteArray := prog_1_method_39_code
def y_QC_sendUnsigned : MethodName := ⟨R_QC, "sendUnsigned", "(LQuorumChain$Node;III)V"⟩
abbrev b_Store_keepBlock : ByteArray := prog_9_method_3_code
def y_Store_keepBlock : MethodName := ⟨R_Store, "keepBlock", "(I)V"⟩
abbrev b_QC_raiseHigh : ByteArray := prog_1_method_28_code
def y_QC_raiseHigh : MethodName := ⟨R_QC, "raiseHigh", "(LQuorumChain$Node;I)V"⟩
abbrev b_Blocks_isNextView : ByteArray := prog_3_method_10_code
def y_Blocks_isNextView : MethodName := ⟨R_Blocks, "isNextView", "(II)Z"⟩
abbrev b_Store_lastLogged : ByteArray := prog_9_method_5_code
def y_Store_lastLogged : MethodName := ⟨R_Store, "lastLogged", "()I"⟩
abbrev b_Blocks_stepsDown : ByteArray := prog_3_method_12_code
def y_Blocks_stepsDown : MethodName := ⟨R_Blocks, "stepsDown", "(II)I"⟩
abbrev b_Transactions_exists : ByteArray := prog_11_method_2_code
def y_Transactions_exists : MethodName := ⟨R_Transactions, "exists", "(I)Z"⟩
abbrev b_Accounts_move : ByteArray := prog_2_method_2_code
def y_Accounts_move : MethodName := ⟨R_Accounts, "move", "(IIII)V"⟩
abbrev b_Transactions_carryOut : ByteArray := prog_11_method_4_code
def y_Transactions_carryOut : MethodName := ⟨R_Transactions, "carryOut", "(ILQuorumChain$Accounts;)V"⟩
abbrev b_QC_commitUpTo : ByteArray := prog_1_method_38_code
def y_QC_commitUpTo : MethodName := ⟨R_QC, "commitUpTo", "(LQuorumChain$Store;I)V"⟩
abbrev b_QC_takeAsCertified : ByteArray := prog_1_method_27_code
def y_QC_takeAsCertified : MethodName := ⟨R_QC, "takeAsCertified", "(LQuorumChain$Node;I)V"⟩
abbrev b_Blocks_isBelow : ByteArray := prog_3_method_11_code
def y_Blocks_isBelow : MethodName := ⟨R_Blocks, "isBelow", "(II)Z"⟩
abbrev b_QC_mayVoteFor : ByteArray := prog_1_method_29_code
def y_QC_mayVoteFor : MethodName := ⟨R_QC, "mayVoteFor", "(LQuorumChain$Node;II)Z"⟩
abbrev b_Node_enter : ByteArray := prog_8_method_3_code
def y_Node_enter : MethodName := ⟨R_Node, "enter", "(I)V"⟩
abbrev b_QC_voteFor : ByteArray := prog_1_method_30_code
def y_QC_voteFor : MethodName := ⟨R_QC, "voteFor", "(LQuorumChain$Node;II)V"⟩
abbrev b_QC_receiveProposal : ByteArray := prog_1_method_26_code
def y_QC_receiveProposal : MethodName := ⟨R_QC, "receiveProposal", "(LQuorumChain$Node;II)V"⟩
abbrev b_Integer_bitCount : ByteArray := prog_17_method_49_code
def y_Integer_bitCount : MethodName := ⟨R_Integer, "bitCount", "(I)I"⟩
abbrev b_Tally_keep : ByteArray := prog_10_method_2_code
def y_Tally_keep : MethodName := ⟨R_Tally, "keep", "(II)I"⟩
abbrev b_Blocks_certify : ByteArray := prog_3_method_8_code
def y_Blocks_certify : MethodName := ⟨R_Blocks, "certify", "(I)V"⟩
abbrev b_Blocks_isInChain : ByteArray := prog_3_method_13_code
def y_Blocks_isInChain : MethodName := ⟨R_Blocks, "isInChain", "(II)Z"⟩
abbrev b_QC_firstNewTransaction : ByteArray := prog_1_method_36_code
def y_QC_firstNewTransaction : MethodName := ⟨R_QC, "firstNewTransaction", "(LQuorumChain$Node;)I"⟩
abbrev b_Blocks_add : ByteArray := prog_3_method_3_code
def y_Blocks_add : MethodName := ⟨R_Blocks, "add", "(III)I"⟩
abbrev b_QC_propose : ByteArray := prog_1_method_35_code
def y_QC_propose : MethodName := ⟨R_QC, "propose", "(LQuorumChain$Node;)V"⟩
abbrev b_QC_receiveVote : ByteArray := prog_1_method_31_code
def y_QC_receiveVote : MethodName := ⟨R_QC, "receiveVote", "(LQuorumChain$Node;II)V"⟩
abbrev b_QC_receiveTimeout : ByteArray := prog_1_method_32_code
def y_QC_receiveTimeout : MethodName := ⟨R_QC, "receiveTimeout", "(LQuorumChain$Node;III)V"⟩
abbrev b_QC_receiveAsk : ByteArray := prog_1_method_33_code
def y_QC_receiveAsk : MethodName := ⟨R_QC, "receiveAsk", "(LQuorumChain$Node;II)V"⟩
abbrev b_QC_receiveBlock : ByteArray := prog_1_method_34_code
def y_QC_receiveBlock : MethodName := ⟨R_QC, "receiveBlock", "(LQuorumChain$Node;II)V"⟩
abbrev b_Inbox_first : ByteArray := prog_5_method_2_code
def y_Inbox_first : MethodName := ⟨R_Inbox, "first", "()LQuorumChain$Message;"⟩
abbrev b_Inbox_moveFirstBehind : ByteArray := prog_5_method_4_code
def y_Inbox_moveFirstBehind : MethodName := ⟨R_Inbox, "moveFirstBehind", "()V"⟩
abbrev b_Inbox_dropFirst : ByteArray := prog_5_method_5_code
def y_Inbox_dropFirst : MethodName := ⟨R_Inbox, "dropFirst", "()V"⟩
abbrev b_KeyTree_leafOf : ByteArray := prog_6_method_6_code
def y_KeyTree_leafOf : MethodName := ⟨R_KeyTree, "leafOf", "(III)J"⟩
abbrev b_Node_addToPool : ByteArray := prog_8_method_2_code
def y_Node_addToPool : MethodName := ⟨R_Node, "addToPool", "(I)Z"⟩
abbrev b_Tally_empty : ByteArray := prog_10_method_3_code
def y_Tally_empty : MethodName := ⟨R_Tally, "empty", "()V"⟩
abbrev b_Node_fall : ByteArray := prog_8_method_4_code
def y_Node_fall : MethodName := ⟨R_Node, "fall", "()V"⟩
abbrev b_Node_rise : ByteArray := prog_8_method_5_code
def y_Node_rise : MethodName := ⟨R_Node, "rise", "(I)V"⟩
abbrev b_Transactions_add : ByteArray := prog_11_method_3_code
def y_Transactions_add : MethodName := ⟨R_Transactions, "add", "(IIII)I"⟩
end
section
theorem gw_0 : Cond.selects "QuorumChain" (⟨"QuorumChain", "countDown", "(LQuorumChain$Node;)V"⟩ : MethodName) (⟨"QuorumChain", "countDown", "(LQuorumChain$Node;)V"⟩ : MethodName) ∈ GG := GG_in (i := 0) (by decide +kernel) (by decide +kernel)
theorem gw_1 : Cond.selects "QuorumChain" (⟨"QuorumChain", "writeSigned", "(LQuorumChain$Node;III)Z"⟩ : MethodName) (⟨"QuorumChain", "writeSigned", "(LQuorumChain$Node;III)Z"⟩ : MethodName) ∈ GG := GG_in (i := 1) (by decide +kernel) (by decide +kernel)
theorem gw_2 : Cond.selects "QuorumChain" (⟨"QuorumChain", "sendDraftToAll", "()V"⟩ : MethodName) (⟨"QuorumChain", "sendDraftToAll", "()V"⟩ : MethodName) ∈ GG := GG_in (i := 2) (by decide +kernel) (by decide +kernel)
theorem gw_3 : Cond.selects "QuorumChain" (⟨"QuorumChain", "nodesThatHave", "(I)I"⟩ : MethodName) (⟨"QuorumChain", "nodesThatHave", "(I)I"⟩ : MethodName) ∈ GG := GG_in (i := 3) (by decide +kernel) (by decide +kernel)
theorem gw_5 : Cond.selects "QuorumChain" (⟨"QuorumChain", "propose", "(LQuorumChain$Node;)V"⟩ : MethodName) (⟨"QuorumChain", "propose", "(LQuorumChain$Node;)V"⟩ : MethodName) ∈ GG := GG_in (i := 5) (by decide +kernel) (by decide +kernel)
theorem gw_6 : Cond.selects "QuorumChain" (⟨"QuorumChain", "firstNewTransaction", "(LQuorumChain$Node;)I"⟩ : MethodName) (⟨"QuorumChain", "firstNewTransaction", "(LQuorumChain$Node;)I"⟩ : MethodName) ∈ GG := GG_in (i := 6) (by decide +kernel) (by decide +kernel)
theorem gw_7 : Cond.selects "QuorumChain" (⟨"QuorumChain", "isHeard", "(LQuorumChain$Message;)Z"⟩ : MethodName) (⟨"QuorumChain", "isHeard", "(LQuorumChain$Message;)Z"⟩ : MethodName) ∈ GG := GG_in (i := 7) (by decide +kernel) (by decide +kernel)
theorem gw_8 : Cond.selects "QuorumChain" (⟨"QuorumChain", "receiveProposal", "(LQuorumChain$Node;II)V"⟩ : MethodName) (⟨"QuorumChain", "receiveProposal", "(LQuorumChain$Node;II)V"⟩ : MethodName) ∈ GG := GG_in (i := 8) (by decide +kernel) (by decide +kernel)
theorem gw_9 : Cond.selects "QuorumChain" (⟨"QuorumChain", "sendUnsigned", "(LQuorumChain$Node;III)V"⟩ : MethodName) (⟨"QuorumChain", "sendUnsigned", "(LQuorumChain$Node;III)V"⟩ : MethodName) ∈ GG := GG_in (i := 9) (by decide +kernel) (by decide +kernel)
theorem gw_10 : Cond.selects "QuorumChain" (⟨"QuorumChain", "takeAsCertified", "(LQuorumChain$Node;I)V"⟩ : MethodName) (⟨"QuorumChain", "takeAsCertified", "(LQuorumChain$Node;I)V"⟩ : MethodName) ∈ GG := GG_in (i := 10) (by decide +kernel) (by decide +kernel)
theorem gw_11 : Cond.selects "QuorumChain" (⟨"QuorumChain", "raiseHigh", "(LQuorumChain$Node;I)V"⟩ : MethodName) (⟨"QuorumChain", "raiseHigh", "(LQuorumChain$Node;I)V"⟩ : MethodName) ∈ GG := GG_in (i := 11) (by decide +kernel) (by decide +kernel)
theorem gw_12 : Cond.selects "QuorumChain" (⟨"QuorumChain", "commitUpTo", "(LQuorumChain$Store;I)V"⟩ : MethodName) (⟨"QuorumChain", "commitUpTo", "(LQuorumChain$Store;I)V"⟩ : MethodName) ∈ GG := GG_in (i := 12) (by decide +kernel) (by decide +kernel)
theorem gw_13 : Cond.selects "QuorumChain" (⟨"QuorumChain", "mayVoteFor", "(LQuorumChain$Node;II)Z"⟩ : MethodName) (⟨"QuorumChain", "mayVoteFor", "(LQuorumChain$Node;II)Z"⟩ : MethodName) ∈ GG := GG_in (i := 13) (by decide +kernel) (by decide +kernel)
theorem gw_14 : Cond.selects "QuorumChain" (⟨"QuorumChain", "voteFor", "(LQuorumChain$Node;II)V"⟩ : MethodName) (⟨"QuorumChain", "voteFor", "(LQuorumChain$Node;II)V"⟩ : MethodName) ∈ GG := GG_in (i := 14) (by decide +kernel) (by decide +kernel)
theorem gw_15 : Cond.selects "QuorumChain" (⟨"QuorumChain", "receiveVote", "(LQuorumChain$Node;II)V"⟩ : MethodName) (⟨"QuorumChain", "receiveVote", "(LQuorumChain$Node;II)V"⟩ : MethodName) ∈ GG := GG_in (i := 15) (by decide +kernel) (by decide +kernel)
theorem gw_16 : Cond.selects "QuorumChain" (⟨"QuorumChain", "receiveTimeout", "(LQuorumChain$Node;III)V"⟩ : MethodName) (⟨"QuorumChain", "receiveTimeout", "(LQuorumChain$Node;III)V"⟩ : MethodName) ∈ GG := GG_in (i := 16) (by decide +kernel) (by decide +kernel)
theorem gw_17 : Cond.selects "QuorumChain" (⟨"QuorumChain", "receiveAsk", "(LQuorumChain$Node;II)V"⟩ : MethodName) (⟨"QuorumChain", "receiveAsk", "(LQuorumChain$Node;II)V"⟩ : MethodName) ∈ GG := GG_in (i := 17) (by decide +kernel) (by decide +kernel)
theorem gw_18 : Cond.selects "QuorumChain" (⟨"QuorumChain", "receiveBlock", "(LQuorumChain$Node;II)V"⟩ : MethodName) (⟨"QuorumChain", "receiveBlock", "(LQuorumChain$Node;II)V"⟩ : MethodName) ∈ GG := GG_in (i := 18) (by decide +kernel) (by decide +kernel)
theorem gw_19 : Cond.selects "QuorumChain" (⟨"QuorumChain", "highestParent", "(LQuorumChain$Store;)I"⟩ : MethodName) (⟨"QuorumChain", "highestParent", "(LQuorumChain$Store;)I"⟩ : MethodName) ∈ GG := GG_in (i := 19) (by decide +kernel) (by decide +kernel)
theorem gw_52 : (Jvm.Cond.initialized "QuorumChain") ∈ GG := GG_in (i := 52) (by decide +kernel) (by decide +kernel)
theorem gw_53 : (Jvm.Cond.initialized "QuorumChain$Blocks") ∈ GG := GG_in (i := 53) (by decide +kernel) (by decide +kernel)
theorem gw_54 : (Jvm.Cond.initialized "QuorumChain$Transactions") ∈ GG := GG_in (i := 54) (by decide +kernel) (by decide +kernel)
theorem gw_55 : (Jvm.Cond.initialized "QuorumChain$Message") ∈ GG := GG_in (i := 55) (by decide +kernel) (by decide +kernel)
theorem gw_56 : (Jvm.Cond.initialized "QuorumChain$Node") ∈ GG := GG_in (i := 56) (by decide +kernel) (by decide +kernel)
theorem gw_57 : (Jvm.Cond.initialized "QuorumChain$Inbox") ∈ GG := GG_in (i := 57) (by decide +kernel) (by decide +kernel)
theorem gw_58 : (Jvm.Cond.initialized "QuorumChain$Tally") ∈ GG := GG_in (i := 58) (by decide +kernel) (by decide +kernel)
theorem gw_59 : (Jvm.Cond.initialized "QuorumChain$Store") ∈ GG := GG_in (i := 59) (by decide +kernel) (by decide +kernel)
theorem gw_60 : (Jvm.Cond.initialized "QuorumChain$Accounts") ∈ GG := GG_in (i := 60) (by decide +kernel) (by decide +kernel)
theorem gw_61 : (Jvm.Cond.initialized "QuorumChain$KeyTree") ∈ GG := GG_in (i := 61) (by decide +kernel) (by decide +kernel)
theorem gw_62 : (Jvm.Cond.initialized "QuorumChain$Fold") ∈ GG := GG_in (i := 62) (by decide +kernel) (by decide +kernel)
theorem gw_69 : (Jvm.Cond.initialized "java/lang/System") ∈ GG := GG_in (i := 69) (by decide +kernel) (by decide +kernel)
theorem gw_70 : (Jvm.Cond.initialized "java/lang/Integer") ∈ GG := GG_in (i := 70) (by decide +kernel) (by decide +kernel)
theorem gw_71 : (Jvm.Cond.initialized "java/lang/Math") ∈ GG := GG_in (i := 71) (by decide +kernel) (by decide +kernel)
theorem gw_88 : (Jvm.Cond.fieldLink "QuorumChain$Blocks" (9 : Nat) "QuorumChain$Blocks" "view" "[I") ∈ GG := GG_in (i := 88) (by decide +kernel) (by decide +kernel)
theorem gw_89 : (Jvm.Cond.fieldLink "QuorumChain$Blocks" (15 : Nat) "QuorumChain$Blocks" "parent" "[I") ∈ GG := GG_in (i := 89) (by decide +kernel) (by decide +kernel)
theorem gw_90 : (Jvm.Cond.fieldLink "QuorumChain$Blocks" (18 : Nat) "QuorumChain$Blocks" "carried" "[I") ∈ GG := GG_in (i := 90) (by decide +kernel) (by decide +kernel)
theorem gw_91 : (Jvm.Cond.fieldLink "QuorumChain$Blocks" (21 : Nat) "QuorumChain$Blocks" "certified" "[Z") ∈ GG := GG_in (i := 91) (by decide +kernel) (by decide +kernel)
theorem gw_92 : (Jvm.Cond.fieldLink "QuorumChain$Blocks" (25 : Nat) "QuorumChain$Blocks" "count" "I") ∈ GG := GG_in (i := 92) (by decide +kernel) (by decide +kernel)
theorem gw_93 : (Jvm.Cond.fieldLink "QuorumChain" (206 : Nat) "QuorumChain$Blocks" "count" "I") ∈ GG := GG_in (i := 93) (by decide +kernel) (by decide +kernel)
theorem gw_94 : (Jvm.Cond.laysFinal "QuorumChain$Blocks" "QuorumChain$Blocks" "view" "[I") ∈ GG := GG_in (i := 94) (by decide +kernel) (by decide +kernel)
theorem gw_96 : (Jvm.Cond.laysFinal "QuorumChain$Blocks" "QuorumChain$Blocks" "parent" "[I") ∈ GG := GG_in (i := 96) (by decide +kernel) (by decide +kernel)
theorem gw_98 : (Jvm.Cond.laysFinal "QuorumChain$Blocks" "QuorumChain$Blocks" "carried" "[I") ∈ GG := GG_in (i := 98) (by decide +kernel) (by decide +kernel)
theorem gw_100 : (Jvm.Cond.laysFinal "QuorumChain$Blocks" "QuorumChain$Blocks" "certified" "[Z") ∈ GG := GG_in (i := 100) (by decide +kernel) (by decide +kernel)
theorem gw_102 : (Jvm.Cond.lays "QuorumChain$Blocks" "QuorumChain$Blocks" "count" "I") ∈ GG := GG_in (i := 102) (by decide +kernel) (by decide +kernel)
theorem gw_113 : (Jvm.Cond.fieldLink "QuorumChain$Transactions" (9 : Nat) "QuorumChain$Transactions" "from" "[I") ∈ GG := GG_in (i := 113) (by decide +kernel) (by decide +kernel)
theorem gw_114 : (Jvm.Cond.fieldLink "QuorumChain$Transactions" (15 : Nat) "QuorumChain$Transactions" "to" "[I") ∈ GG := GG_in (i := 114) (by decide +kernel) (by decide +kernel)
theorem gw_115 : (Jvm.Cond.fieldLink "QuorumChain$Transactions" (18 : Nat) "QuorumChain$Transactions" "amount" "[I") ∈ GG := GG_in (i := 115) (by decide +kernel) (by decide +kernel)
theorem gw_116 : (Jvm.Cond.fieldLink "QuorumChain$Transactions" (21 : Nat) "QuorumChain$Transactions" "nonce" "[I") ∈ GG := GG_in (i := 116) (by decide +kernel) (by decide +kernel)
theorem gw_117 : (Jvm.Cond.fieldLink "QuorumChain$Transactions" (24 : Nat) "QuorumChain$Transactions" "count" "I") ∈ GG := GG_in (i := 117) (by decide +kernel) (by decide +kernel)
theorem gw_118 : (Jvm.Cond.fieldLink "QuorumChain" (55 : Nat) "QuorumChain$Transactions" "count" "I") ∈ GG := GG_in (i := 118) (by decide +kernel) (by decide +kernel)
theorem gw_119 : (Jvm.Cond.laysFinal "QuorumChain$Transactions" "QuorumChain$Transactions" "from" "[I") ∈ GG := GG_in (i := 119) (by decide +kernel) (by decide +kernel)
theorem gw_121 : (Jvm.Cond.laysFinal "QuorumChain$Transactions" "QuorumChain$Transactions" "to" "[I") ∈ GG := GG_in (i := 121) (by decide +kernel) (by decide +kernel)
theorem gw_123 : (Jvm.Cond.laysFinal "QuorumChain$Transactions" "QuorumChain$Transactions" "amount" "[I") ∈ GG := GG_in (i := 123) (by decide +kernel) (by decide +kernel)
theorem gw_125 : (Jvm.Cond.laysFinal "QuorumChain$Transactions" "QuorumChain$Transactions" "nonce" "[I") ∈ GG := GG_in (i := 125) (by decide +kernel) (by decide +kernel)
theorem gw_127 : (Jvm.Cond.lays "QuorumChain$Transactions" "QuorumChain$Transactions" "count" "I") ∈ GG := GG_in (i := 127) (by decide +kernel) (by decide +kernel)
theorem gw_136 : (Jvm.Cond.fieldLink "QuorumChain$Message" (9 : Nat) "QuorumChain$Message" "signature" "[J") ∈ GG := GG_in (i := 136) (by decide +kernel) (by decide +kernel)
theorem gw_137 : (Jvm.Cond.fieldLink "QuorumChain$KeyTree" (52 : Nat) "QuorumChain$Message" "signature" "[J") ∈ GG := GG_in (i := 137) (by decide +kernel) (by decide +kernel)
theorem gw_139 : (Jvm.Cond.fieldLink "QuorumChain$Message" (19 : Nat) "QuorumChain$Message" "kind" "I") ∈ GG := GG_in (i := 139) (by decide +kernel) (by decide +kernel)
theorem gw_140 : (Jvm.Cond.fieldLink "QuorumChain" (123 : Nat) "QuorumChain$Message" "kind" "I") ∈ GG := GG_in (i := 140) (by decide +kernel) (by decide +kernel)
theorem gw_141 : (Jvm.Cond.fieldLink "QuorumChain$Message" (22 : Nat) "QuorumChain$Message" "sender" "I") ∈ GG := GG_in (i := 141) (by decide +kernel) (by decide +kernel)
theorem gw_142 : (Jvm.Cond.fieldLink "QuorumChain" (126 : Nat) "QuorumChain$Message" "sender" "I") ∈ GG := GG_in (i := 142) (by decide +kernel) (by decide +kernel)
theorem gw_143 : (Jvm.Cond.fieldLink "QuorumChain$Message" (25 : Nat) "QuorumChain$Message" "block" "I") ∈ GG := GG_in (i := 143) (by decide +kernel) (by decide +kernel)
theorem gw_144 : (Jvm.Cond.fieldLink "QuorumChain" (129 : Nat) "QuorumChain$Message" "block" "I") ∈ GG := GG_in (i := 144) (by decide +kernel) (by decide +kernel)
theorem gw_145 : (Jvm.Cond.fieldLink "QuorumChain$Message" (28 : Nat) "QuorumChain$Message" "view" "I") ∈ GG := GG_in (i := 145) (by decide +kernel) (by decide +kernel)
theorem gw_146 : (Jvm.Cond.fieldLink "QuorumChain" (139 : Nat) "QuorumChain$Message" "view" "I") ∈ GG := GG_in (i := 146) (by decide +kernel) (by decide +kernel)
theorem gw_147 : (Jvm.Cond.fieldLink "QuorumChain$Message" (15 : Nat) "QuorumChain$Message" "key" "I") ∈ GG := GG_in (i := 147) (by decide +kernel) (by decide +kernel)
theorem gw_148 : (Jvm.Cond.fieldLink "QuorumChain$KeyTree" (39 : Nat) "QuorumChain$Message" "key" "I") ∈ GG := GG_in (i := 148) (by decide +kernel) (by decide +kernel)
theorem gw_149 : (Jvm.Cond.fieldLink "QuorumChain" (161 : Nat) "QuorumChain$Message" "key" "I") ∈ GG := GG_in (i := 149) (by decide +kernel) (by decide +kernel)
theorem gw_150 : (Jvm.Cond.laysFinal "QuorumChain$Message" "QuorumChain$Message" "signature" "[J") ∈ GG := GG_in (i := 150) (by decide +kernel) (by decide +kernel)
theorem gw_152 : (Jvm.Cond.lays "QuorumChain$Message" "QuorumChain$Message" "kind" "I") ∈ GG := GG_in (i := 152) (by decide +kernel) (by decide +kernel)
theorem gw_154 : (Jvm.Cond.lays "QuorumChain$Message" "QuorumChain$Message" "sender" "I") ∈ GG := GG_in (i := 154) (by decide +kernel) (by decide +kernel)
theorem gw_156 : (Jvm.Cond.lays "QuorumChain$Message" "QuorumChain$Message" "block" "I") ∈ GG := GG_in (i := 156) (by decide +kernel) (by decide +kernel)
theorem gw_158 : (Jvm.Cond.lays "QuorumChain$Message" "QuorumChain$Message" "view" "I") ∈ GG := GG_in (i := 158) (by decide +kernel) (by decide +kernel)
theorem gw_160 : (Jvm.Cond.lays "QuorumChain$Message" "QuorumChain$Message" "key" "I") ∈ GG := GG_in (i := 160) (by decide +kernel) (by decide +kernel)
theorem gw_178 : (Jvm.Cond.fieldLink "QuorumChain$Inbox" (11 : Nat) "QuorumChain$Inbox" "row" "[LQuorumChain$Message;") ∈ GG := GG_in (i := 178) (by decide +kernel) (by decide +kernel)
theorem gw_179 : (Jvm.Cond.fieldLink "QuorumChain" (294 : Nat) "QuorumChain$Inbox" "row" "[LQuorumChain$Message;") ∈ GG := GG_in (i := 179) (by decide +kernel) (by decide +kernel)
theorem gw_180 : (Jvm.Cond.fieldLink "QuorumChain$Inbox" (18 : Nat) "QuorumChain$Inbox" "count" "I") ∈ GG := GG_in (i := 180) (by decide +kernel) (by decide +kernel)
theorem gw_181 : (Jvm.Cond.fieldLink "QuorumChain$Node" (63 : Nat) "QuorumChain$Inbox" "count" "I") ∈ GG := GG_in (i := 181) (by decide +kernel) (by decide +kernel)
theorem gw_182 : (Jvm.Cond.fieldLink "QuorumChain" (103 : Nat) "QuorumChain$Inbox" "count" "I") ∈ GG := GG_in (i := 182) (by decide +kernel) (by decide +kernel)
theorem gw_183 : (Jvm.Cond.laysFinal "QuorumChain$Inbox" "QuorumChain$Inbox" "row" "[LQuorumChain$Message;") ∈ GG := GG_in (i := 183) (by decide +kernel) (by decide +kernel)
theorem gw_185 : (Jvm.Cond.lays "QuorumChain$Inbox" "QuorumChain$Inbox" "count" "I") ∈ GG := GG_in (i := 185) (by decide +kernel) (by decide +kernel)
theorem gw_194 : (Jvm.Cond.fieldLink "QuorumChain$Tally" (7 : Nat) "QuorumChain$Tally" "bits" "[I") ∈ GG := GG_in (i := 194) (by decide +kernel) (by decide +kernel)
theorem gw_195 : (Jvm.Cond.laysFinal "QuorumChain$Tally" "QuorumChain$Tally" "bits" "[I") ∈ GG := GG_in (i := 195) (by decide +kernel) (by decide +kernel)
theorem gw_210 : (Jvm.Cond.fieldLink "QuorumChain$Accounts" (9 : Nat) "QuorumChain$Accounts" "money" "[I") ∈ GG := GG_in (i := 210) (by decide +kernel) (by decide +kernel)
theorem gw_211 : (Jvm.Cond.fieldLink "QuorumChain" (276 : Nat) "QuorumChain$Accounts" "money" "[I") ∈ GG := GG_in (i := 211) (by decide +kernel) (by decide +kernel)
theorem gw_212 : (Jvm.Cond.fieldLink "QuorumChain$Accounts" (15 : Nat) "QuorumChain$Accounts" "nonce" "[I") ∈ GG := GG_in (i := 212) (by decide +kernel) (by decide +kernel)
theorem gw_213 : (Jvm.Cond.fieldLink "QuorumChain" (282 : Nat) "QuorumChain$Accounts" "nonce" "[I") ∈ GG := GG_in (i := 213) (by decide +kernel) (by decide +kernel)
theorem gw_214 : (Jvm.Cond.laysFinal "QuorumChain$Accounts" "QuorumChain$Accounts" "money" "[I") ∈ GG := GG_in (i := 214) (by decide +kernel) (by decide +kernel)
theorem gw_216 : (Jvm.Cond.laysFinal "QuorumChain$Accounts" "QuorumChain$Accounts" "nonce" "[I") ∈ GG := GG_in (i := 216) (by decide +kernel) (by decide +kernel)
theorem gw_226 : (Jvm.Cond.static ({ cls := "QuorumChain$KeyTree", name := "leafOf", desc := "(III)J" } : Jvm.MethodName)) ∈ GG := GG_in (i := 226) (by decide +kernel) (by decide +kernel)
theorem gw_227 : (Jvm.Cond.code ({ cls := "QuorumChain$KeyTree", name := "leafOf", desc := "(III)J" } : Jvm.MethodName) prog_6_method_6_code (6 : Nat) (Option.some Jvm.ClassFile.FieldType.long)) ∈ GG := GG_in (i := 227) (by decide +kernel) (by decide +kernel)
theorem gw_228 : (Jvm.Cond.constantLong "QuorumChain$KeyTree" (67 : Nat) (-7046029254386353131 : Int64)) ∈ GG := GG_in (i := 228) (by decide +kernel) (by decide +kernel)
theorem gw_229 : (Jvm.Cond.methodLink "QuorumChain$KeyTree" (55 : Nat) ({ cls := "QuorumChain$KeyTree", name := "secretOf", desc := "(IIII)J" } : Jvm.MethodName)) ∈ GG := GG_in (i := 229) (by decide +kernel) (by decide +kernel)
theorem gw_230 : (Jvm.Cond.static ({ cls := "QuorumChain$KeyTree", name := "secretOf", desc := "(IIII)J" } : Jvm.MethodName)) ∈ GG := GG_in (i := 230) (by decide +kernel) (by decide +kernel)
theorem gw_231 : (Jvm.Cond.code ({ cls := "QuorumChain$KeyTree", name := "secretOf", desc := "(IIII)J" } : Jvm.MethodName) prog_6_method_7_code (6 : Nat) (Option.some Jvm.ClassFile.FieldType.long)) ∈ GG := GG_in (i := 231) (by decide +kernel) (by decide +kernel)
theorem gw_232 : (Jvm.Cond.methodLink "QuorumChain$KeyTree" (69 : Nat) ({ cls := "QuorumChain$Fold", name := "absorb", desc := "(JJ)J" } : Jvm.MethodName)) ∈ GG := GG_in (i := 232) (by decide +kernel) (by decide +kernel)
theorem gw_233 : (Jvm.Cond.static ({ cls := "QuorumChain$Fold", name := "absorb", desc := "(JJ)J" } : Jvm.MethodName)) ∈ GG := GG_in (i := 233) (by decide +kernel) (by decide +kernel)
theorem gw_234 : (Jvm.Cond.code ({ cls := "QuorumChain$Fold", name := "absorb", desc := "(JJ)J" } : Jvm.MethodName) prog_4_method_2_code (6 : Nat) (Option.some Jvm.ClassFile.FieldType.long)) ∈ GG := GG_in (i := 234) (by decide +kernel) (by decide +kernel)
theorem gw_235 : (Jvm.Cond.constantLong "QuorumChain$Fold" (9 : Nat) (-4417276706812531889 : Int64)) ∈ GG := GG_in (i := 235) (by decide +kernel) (by decide +kernel)
theorem gw_236 : (Jvm.Cond.methodLink "QuorumChain$KeyTree" (72 : Nat) ({ cls := "QuorumChain$Fold", name := "finish", desc := "(J)J" } : Jvm.MethodName)) ∈ GG := GG_in (i := 236) (by decide +kernel) (by decide +kernel)
theorem gw_237 : (Jvm.Cond.static ({ cls := "QuorumChain$Fold", name := "finish", desc := "(J)J" } : Jvm.MethodName)) ∈ GG := GG_in (i := 237) (by decide +kernel) (by decide +kernel)
theorem gw_238 : (Jvm.Cond.code ({ cls := "QuorumChain$Fold", name := "finish", desc := "(J)J" } : Jvm.MethodName) prog_4_method_3_code (4 : Nat) (Option.some Jvm.ClassFile.FieldType.long)) ∈ GG := GG_in (i := 238) (by decide +kernel) (by decide +kernel)
theorem gw_239 : (Jvm.Cond.constantLong "QuorumChain$Fold" (11 : Nat) (1609587929392839161 : Int64)) ∈ GG := GG_in (i := 239) (by decide +kernel) (by decide +kernel)
theorem gw_240 : (Jvm.Cond.methodLink "QuorumChain$KeyTree" (63 : Nat) ({ cls := "QuorumChain$Fold", name := "afterSteps", desc := "(JI)J" } : Jvm.MethodName)) ∈ GG := GG_in (i := 240) (by decide +kernel) (by decide +kernel)
theorem gw_241 : (Jvm.Cond.static ({ cls := "QuorumChain$Fold", name := "afterSteps", desc := "(JI)J" } : Jvm.MethodName)) ∈ GG := GG_in (i := 241) (by decide +kernel) (by decide +kernel)
theorem gw_242 : (Jvm.Cond.code ({ cls := "QuorumChain$Fold", name := "afterSteps", desc := "(JI)J" } : Jvm.MethodName) prog_4_method_5_code (6 : Nat) (Option.some Jvm.ClassFile.FieldType.long)) ∈ GG := GG_in (i := 242) (by decide +kernel) (by decide +kernel)
theorem gw_243 : (Jvm.Cond.constantLong "QuorumChain$Fold" (13 : Nat) (-7046029254386353131 : Int64)) ∈ GG := GG_in (i := 243) (by decide +kernel) (by decide +kernel)
theorem gw_244 : (Jvm.Cond.methodLink "QuorumChain$Fold" (15 : Nat) ({ cls := "QuorumChain$Fold", name := "absorb", desc := "(JJ)J" } : Jvm.MethodName)) ∈ GG := GG_in (i := 244) (by decide +kernel) (by decide +kernel)
theorem gw_245 : (Jvm.Cond.constantLong "QuorumChain$Fold" (23 : Nat) (77 : Int64)) ∈ GG := GG_in (i := 245) (by decide +kernel) (by decide +kernel)
theorem gw_246 : (Jvm.Cond.methodLink "QuorumChain$Fold" (19 : Nat) ({ cls := "QuorumChain$Fold", name := "finish", desc := "(J)J" } : Jvm.MethodName)) ∈ GG := GG_in (i := 246) (by decide +kernel) (by decide +kernel)
theorem gw_247 : (Jvm.Cond.methodLink "QuorumChain$KeyTree" (26 : Nat) ({ cls := "QuorumChain$Fold", name := "pair", desc := "(JJ)J" } : Jvm.MethodName)) ∈ GG := GG_in (i := 247) (by decide +kernel) (by decide +kernel)
theorem gw_248 : (Jvm.Cond.static ({ cls := "QuorumChain$Fold", name := "pair", desc := "(JJ)J" } : Jvm.MethodName)) ∈ GG := GG_in (i := 248) (by decide +kernel) (by decide +kernel)
theorem gw_249 : (Jvm.Cond.code ({ cls := "QuorumChain$Fold", name := "pair", desc := "(JJ)J" } : Jvm.MethodName) prog_4_method_4_code (4 : Nat) (Option.some Jvm.ClassFile.FieldType.long)) ∈ GG := GG_in (i := 249) (by decide +kernel) (by decide +kernel)
theorem gw_250 : (Jvm.Cond.fieldLink "QuorumChain$KeyTree" (9 : Nat) "QuorumChain$KeyTree" "tree" "[J") ∈ GG := GG_in (i := 250) (by decide +kernel) (by decide +kernel)
theorem gw_251 : (Jvm.Cond.fieldLink "QuorumChain$KeyTree" (15 : Nat) "QuorumChain$KeyTree" "seed" "I") ∈ GG := GG_in (i := 251) (by decide +kernel) (by decide +kernel)
theorem gw_252 : (Jvm.Cond.fieldLink "QuorumChain$KeyTree" (19 : Nat) "QuorumChain$KeyTree" "owner" "I") ∈ GG := GG_in (i := 252) (by decide +kernel) (by decide +kernel)
theorem gw_253 : (Jvm.Cond.fieldLink "QuorumChain$KeyTree" (32 : Nat) "QuorumChain$KeyTree" "used" "I") ∈ GG := GG_in (i := 253) (by decide +kernel) (by decide +kernel)
theorem gw_254 : (Jvm.Cond.fieldLink "QuorumChain" (257 : Nat) "QuorumChain$KeyTree" "used" "I") ∈ GG := GG_in (i := 254) (by decide +kernel) (by decide +kernel)
theorem gw_255 : (Jvm.Cond.laysFinal "QuorumChain$KeyTree" "QuorumChain$KeyTree" "tree" "[J") ∈ GG := GG_in (i := 255) (by decide +kernel) (by decide +kernel)
theorem gw_257 : (Jvm.Cond.laysFinal "QuorumChain$KeyTree" "QuorumChain$KeyTree" "seed" "I") ∈ GG := GG_in (i := 257) (by decide +kernel) (by decide +kernel)
theorem gw_259 : (Jvm.Cond.laysFinal "QuorumChain$KeyTree" "QuorumChain$KeyTree" "owner" "I") ∈ GG := GG_in (i := 259) (by decide +kernel) (by decide +kernel)
theorem gw_261 : (Jvm.Cond.lays "QuorumChain$KeyTree" "QuorumChain$KeyTree" "used" "I") ∈ GG := GG_in (i := 261) (by decide +kernel) (by decide +kernel)
theorem gw_264 : (Jvm.Cond.fieldLink "QuorumChain$Store" (9 : Nat) "QuorumChain$Store" "has" "[Z") ∈ GG := GG_in (i := 264) (by decide +kernel) (by decide +kernel)
theorem gw_265 : (Jvm.Cond.fieldLink "QuorumChain$Store" (15 : Nat) "QuorumChain$Store" "log" "[I") ∈ GG := GG_in (i := 265) (by decide +kernel) (by decide +kernel)
theorem gw_266 : (Jvm.Cond.fieldLink "QuorumChain" (386 : Nat) "QuorumChain$Store" "log" "[I") ∈ GG := GG_in (i := 266) (by decide +kernel) (by decide +kernel)
theorem gw_268 : (Jvm.Cond.fieldLink "QuorumChain" (272 : Nat) "QuorumChain$Store" "accounts" "LQuorumChain$Accounts;") ∈ GG := GG_in (i := 268) (by decide +kernel) (by decide +kernel)
theorem gw_270 : (Jvm.Cond.fieldLink "QuorumChain" (183 : Nat) "QuorumChain$Store" "keys" "LQuorumChain$KeyTree;") ∈ GG := GG_in (i := 270) (by decide +kernel) (by decide +kernel)
theorem gw_271 : (Jvm.Cond.fieldLink "QuorumChain$Store" (35 : Nat) "QuorumChain$Store" "blockCount" "I") ∈ GG := GG_in (i := 271) (by decide +kernel) (by decide +kernel)
theorem gw_272 : (Jvm.Cond.fieldLink "QuorumChain" (263 : Nat) "QuorumChain$Store" "blockCount" "I") ∈ GG := GG_in (i := 272) (by decide +kernel) (by decide +kernel)
theorem gw_273 : (Jvm.Cond.fieldLink "QuorumChain$Store" (39 : Nat) "QuorumChain$Store" "logLength" "I") ∈ GG := GG_in (i := 273) (by decide +kernel) (by decide +kernel)
theorem gw_274 : (Jvm.Cond.fieldLink "QuorumChain" (260 : Nat) "QuorumChain$Store" "logLength" "I") ∈ GG := GG_in (i := 274) (by decide +kernel) (by decide +kernel)
theorem gw_275 : (Jvm.Cond.fieldLink "QuorumChain$Node" (72 : Nat) "QuorumChain$Store" "voted" "I") ∈ GG := GG_in (i := 275) (by decide +kernel) (by decide +kernel)
theorem gw_276 : (Jvm.Cond.fieldLink "QuorumChain" (251 : Nat) "QuorumChain$Store" "voted" "I") ∈ GG := GG_in (i := 276) (by decide +kernel) (by decide +kernel)
theorem gw_277 : (Jvm.Cond.fieldLink "QuorumChain" (254 : Nat) "QuorumChain$Store" "locked" "I") ∈ GG := GG_in (i := 277) (by decide +kernel) (by decide +kernel)
theorem gw_278 : (Jvm.Cond.laysFinal "QuorumChain$Store" "QuorumChain$Store" "has" "[Z") ∈ GG := GG_in (i := 278) (by decide +kernel) (by decide +kernel)
theorem gw_280 : (Jvm.Cond.laysFinal "QuorumChain$Store" "QuorumChain$Store" "log" "[I") ∈ GG := GG_in (i := 280) (by decide +kernel) (by decide +kernel)
theorem gw_282 : (Jvm.Cond.laysFinal "QuorumChain$Store" "QuorumChain$Store" "accounts" "LQuorumChain$Accounts;") ∈ GG := GG_in (i := 282) (by decide +kernel) (by decide +kernel)
theorem gw_284 : (Jvm.Cond.laysFinal "QuorumChain$Store" "QuorumChain$Store" "keys" "LQuorumChain$KeyTree;") ∈ GG := GG_in (i := 284) (by decide +kernel) (by decide +kernel)
theorem gw_286 : (Jvm.Cond.lays "QuorumChain$Store" "QuorumChain$Store" "blockCount" "I") ∈ GG := GG_in (i := 286) (by decide +kernel) (by decide +kernel)
theorem gw_288 : (Jvm.Cond.lays "QuorumChain$Store" "QuorumChain$Store" "logLength" "I") ∈ GG := GG_in (i := 288) (by decide +kernel) (by decide +kernel)
theorem gw_290 : (Jvm.Cond.lays "QuorumChain$Store" "QuorumChain$Store" "voted" "I") ∈ GG := GG_in (i := 290) (by decide +kernel) (by decide +kernel)
theorem gw_292 : (Jvm.Cond.lays "QuorumChain$Store" "QuorumChain$Store" "locked" "I") ∈ GG := GG_in (i := 292) (by decide +kernel) (by decide +kernel)
theorem gw_296 : (Jvm.Cond.fieldLink "QuorumChain" (339 : Nat) "QuorumChain$Node" "id" "I") ∈ GG := GG_in (i := 296) (by decide +kernel) (by decide +kernel)
theorem gw_297 : (Jvm.Cond.fieldLink "QuorumChain$Node" (56 : Nat) "QuorumChain$Node" "store" "LQuorumChain$Store;") ∈ GG := GG_in (i := 297) (by decide +kernel) (by decide +kernel)
theorem gw_298 : (Jvm.Cond.fieldLink "QuorumChain" (179 : Nat) "QuorumChain$Node" "store" "LQuorumChain$Store;") ∈ GG := GG_in (i := 298) (by decide +kernel) (by decide +kernel)
theorem gw_299 : (Jvm.Cond.fieldLink "QuorumChain$Node" (12 : Nat) "QuorumChain$Node" "inbox" "LQuorumChain$Inbox;") ∈ GG := GG_in (i := 299) (by decide +kernel) (by decide +kernel)
theorem gw_300 : (Jvm.Cond.fieldLink "QuorumChain" (99 : Nat) "QuorumChain$Node" "inbox" "LQuorumChain$Inbox;") ∈ GG := GG_in (i := 300) (by decide +kernel) (by decide +kernel)
theorem gw_301 : (Jvm.Cond.fieldLink "QuorumChain$Node" (23 : Nat) "QuorumChain$Node" "votes" "LQuorumChain$Tally;") ∈ GG := GG_in (i := 301) (by decide +kernel) (by decide +kernel)
theorem gw_302 : (Jvm.Cond.fieldLink "QuorumChain" (342 : Nat) "QuorumChain$Node" "votes" "LQuorumChain$Tally;") ∈ GG := GG_in (i := 302) (by decide +kernel) (by decide +kernel)
theorem gw_303 : (Jvm.Cond.fieldLink "QuorumChain$Node" (27 : Nat) "QuorumChain$Node" "timeouts" "LQuorumChain$Tally;") ∈ GG := GG_in (i := 303) (by decide +kernel) (by decide +kernel)
theorem gw_304 : (Jvm.Cond.fieldLink "QuorumChain" (355 : Nat) "QuorumChain$Node" "timeouts" "LQuorumChain$Tally;") ∈ GG := GG_in (i := 304) (by decide +kernel) (by decide +kernel)
theorem gw_305 : (Jvm.Cond.fieldLink "QuorumChain$Node" (30 : Nat) "QuorumChain$Node" "pool" "[I") ∈ GG := GG_in (i := 305) (by decide +kernel) (by decide +kernel)
theorem gw_306 : (Jvm.Cond.fieldLink "QuorumChain" (365 : Nat) "QuorumChain$Node" "pool" "[I") ∈ GG := GG_in (i := 306) (by decide +kernel) (by decide +kernel)
theorem gw_307 : (Jvm.Cond.fieldLink "QuorumChain$Node" (60 : Nat) "QuorumChain$Node" "poolSize" "I") ∈ GG := GG_in (i := 307) (by decide +kernel) (by decide +kernel)
theorem gw_308 : (Jvm.Cond.fieldLink "QuorumChain" (266 : Nat) "QuorumChain$Node" "poolSize" "I") ∈ GG := GG_in (i := 308) (by decide +kernel) (by decide +kernel)
theorem gw_309 : (Jvm.Cond.fieldLink "QuorumChain$Node" (34 : Nat) "QuorumChain$Node" "up" "Z") ∈ GG := GG_in (i := 309) (by decide +kernel) (by decide +kernel)
theorem gw_310 : (Jvm.Cond.fieldLink "QuorumChain" (76 : Nat) "QuorumChain$Node" "up" "Z") ∈ GG := GG_in (i := 310) (by decide +kernel) (by decide +kernel)
theorem gw_311 : (Jvm.Cond.fieldLink "QuorumChain$Node" (38 : Nat) "QuorumChain$Node" "view" "I") ∈ GG := GG_in (i := 311) (by decide +kernel) (by decide +kernel)
theorem gw_312 : (Jvm.Cond.fieldLink "QuorumChain" (88 : Nat) "QuorumChain$Node" "view" "I") ∈ GG := GG_in (i := 312) (by decide +kernel) (by decide +kernel)
theorem gw_313 : (Jvm.Cond.fieldLink "QuorumChain$Node" (42 : Nat) "QuorumChain$Node" "timer" "I") ∈ GG := GG_in (i := 313) (by decide +kernel) (by decide +kernel)
theorem gw_314 : (Jvm.Cond.fieldLink "QuorumChain" (242 : Nat) "QuorumChain$Node" "timer" "I") ∈ GG := GG_in (i := 314) (by decide +kernel) (by decide +kernel)
theorem gw_315 : (Jvm.Cond.fieldLink "QuorumChain$Node" (45 : Nat) "QuorumChain$Node" "span" "I") ∈ GG := GG_in (i := 315) (by decide +kernel) (by decide +kernel)
theorem gw_316 : (Jvm.Cond.fieldLink "QuorumChain" (245 : Nat) "QuorumChain$Node" "span" "I") ∈ GG := GG_in (i := 316) (by decide +kernel) (by decide +kernel)
theorem gw_317 : (Jvm.Cond.fieldLink "QuorumChain$Node" (69 : Nat) "QuorumChain$Node" "high" "I") ∈ GG := GG_in (i := 317) (by decide +kernel) (by decide +kernel)
theorem gw_318 : (Jvm.Cond.fieldLink "QuorumChain" (248 : Nat) "QuorumChain$Node" "high" "I") ∈ GG := GG_in (i := 318) (by decide +kernel) (by decide +kernel)
theorem gw_319 : (Jvm.Cond.laysFinal "QuorumChain$Node" "QuorumChain$Node" "id" "I") ∈ GG := GG_in (i := 319) (by decide +kernel) (by decide +kernel)
theorem gw_321 : (Jvm.Cond.laysFinal "QuorumChain$Node" "QuorumChain$Node" "store" "LQuorumChain$Store;") ∈ GG := GG_in (i := 321) (by decide +kernel) (by decide +kernel)
theorem gw_323 : (Jvm.Cond.laysFinal "QuorumChain$Node" "QuorumChain$Node" "inbox" "LQuorumChain$Inbox;") ∈ GG := GG_in (i := 323) (by decide +kernel) (by decide +kernel)
theorem gw_325 : (Jvm.Cond.laysFinal "QuorumChain$Node" "QuorumChain$Node" "votes" "LQuorumChain$Tally;") ∈ GG := GG_in (i := 325) (by decide +kernel) (by decide +kernel)
theorem gw_327 : (Jvm.Cond.laysFinal "QuorumChain$Node" "QuorumChain$Node" "timeouts" "LQuorumChain$Tally;") ∈ GG := GG_in (i := 327) (by decide +kernel) (by decide +kernel)
theorem gw_329 : (Jvm.Cond.laysFinal "QuorumChain$Node" "QuorumChain$Node" "pool" "[I") ∈ GG := GG_in (i := 329) (by decide +kernel) (by decide +kernel)
theorem gw_331 : (Jvm.Cond.lays "QuorumChain$Node" "QuorumChain$Node" "poolSize" "I") ∈ GG := GG_in (i := 331) (by decide +kernel) (by decide +kernel)
theorem gw_333 : (Jvm.Cond.lays "QuorumChain$Node" "QuorumChain$Node" "up" "Z") ∈ GG := GG_in (i := 333) (by decide +kernel) (by decide +kernel)
theorem gw_335 : (Jvm.Cond.lays "QuorumChain$Node" "QuorumChain$Node" "view" "I") ∈ GG := GG_in (i := 335) (by decide +kernel) (by decide +kernel)
theorem gw_337 : (Jvm.Cond.lays "QuorumChain$Node" "QuorumChain$Node" "timer" "I") ∈ GG := GG_in (i := 337) (by decide +kernel) (by decide +kernel)
theorem gw_339 : (Jvm.Cond.lays "QuorumChain$Node" "QuorumChain$Node" "span" "I") ∈ GG := GG_in (i := 339) (by decide +kernel) (by decide +kernel)
theorem gw_341 : (Jvm.Cond.lays "QuorumChain$Node" "QuorumChain$Node" "high" "I") ∈ GG := GG_in (i := 341) (by decide +kernel) (by decide +kernel)
theorem gw_344 : (Jvm.Cond.fieldLink "QuorumChain" (11 : Nat) "QuorumChain" "nodes" "[LQuorumChain$Node;") ∈ GG := GG_in (i := 344) (by decide +kernel) (by decide +kernel)
theorem gw_345 : (Jvm.Cond.fieldLink "QuorumChain" (18 : Nat) "QuorumChain" "blocks" "LQuorumChain$Blocks;") ∈ GG := GG_in (i := 345) (by decide +kernel) (by decide +kernel)
theorem gw_346 : (Jvm.Cond.fieldLink "QuorumChain" (25 : Nat) "QuorumChain" "transactions" "LQuorumChain$Transactions;") ∈ GG := GG_in (i := 346) (by decide +kernel) (by decide +kernel)
theorem gw_347 : (Jvm.Cond.fieldLink "QuorumChain" (32 : Nat) "QuorumChain" "draft" "LQuorumChain$Message;") ∈ GG := GG_in (i := 347) (by decide +kernel) (by decide +kernel)
theorem gw_349 : (Jvm.Cond.fieldLink "QuorumChain" (224 : Nat) "QuorumChain" "clock" "I") ∈ GG := GG_in (i := 349) (by decide +kernel) (by decide +kernel)
theorem gw_351 : (Jvm.Cond.laysFinal "QuorumChain" "QuorumChain" "nodes" "[LQuorumChain$Node;") ∈ GG := GG_in (i := 351) (by decide +kernel) (by decide +kernel)
theorem gw_353 : (Jvm.Cond.laysFinal "QuorumChain" "QuorumChain" "blocks" "LQuorumChain$Blocks;") ∈ GG := GG_in (i := 353) (by decide +kernel) (by decide +kernel)
theorem gw_355 : (Jvm.Cond.laysFinal "QuorumChain" "QuorumChain" "transactions" "LQuorumChain$Transactions;") ∈ GG := GG_in (i := 355) (by decide +kernel) (by decide +kernel)
theorem gw_357 : (Jvm.Cond.laysFinal "QuorumChain" "QuorumChain" "draft" "LQuorumChain$Message;") ∈ GG := GG_in (i := 357) (by decide +kernel) (by decide +kernel)
theorem gw_359 : (Jvm.Cond.laysFinal "QuorumChain" "QuorumChain" "arrived" "LQuorumChain$Message;") ∈ GG := GG_in (i := 359) (by decide +kernel) (by decide +kernel)
theorem gw_361 : (Jvm.Cond.lays "QuorumChain" "QuorumChain" "clock" "I") ∈ GG := GG_in (i := 361) (by decide +kernel) (by decide +kernel)
theorem gw_363 : (Jvm.Cond.lays "QuorumChain" "QuorumChain" "begun" "Z") ∈ GG := GG_in (i := 363) (by decide +kernel) (by decide +kernel)
theorem gw_367 : (Jvm.Cond.instanceMethod ({ cls := "QuorumChain", name := "tick", desc := "()I" } : Jvm.MethodName)) ∈ GG := GG_in (i := 367) (by decide +kernel) (by decide +kernel)
theorem gw_368 : (Jvm.Cond.selects "QuorumChain" ({ cls := "QuorumChain", name := "tick", desc := "()I" } : Jvm.MethodName) ({ cls := "QuorumChain", name := "tick", desc := "()I" } : Jvm.MethodName)) ∈ GG := GG_in (i := 368) (by decide +kernel) (by decide +kernel)
theorem gw_369 : (Jvm.Cond.code ({ cls := "QuorumChain", name := "tick", desc := "()I" } : Jvm.MethodName) prog_1_method_10_code (2 : Nat) (Option.some Jvm.ClassFile.FieldType.int)) ∈ GG := GG_in (i := 369) (by decide +kernel) (by decide +kernel)
theorem gw_370 : (Jvm.Cond.methodLink "QuorumChain" (227 : Nat) ({ cls := "QuorumChain", name := "countDown", desc := "(LQuorumChain$Node;)V" } : Jvm.MethodName)) ∈ GG := GG_in (i := 370) (by decide +kernel) (by decide +kernel)
theorem gw_372 : (Jvm.Cond.instanceMethod ({ cls := "QuorumChain", name := "countDown", desc := "(LQuorumChain$Node;)V" } : Jvm.MethodName)) ∈ GG := GG_in (i := 372) (by decide +kernel) (by decide +kernel)
theorem gw_373 : (Jvm.Cond.code ({ cls := "QuorumChain", name := "countDown", desc := "(LQuorumChain$Node;)V" } : Jvm.MethodName) prog_1_method_37_code (2 : Nat) (Option.none : Option Jvm.ClassFile.FieldType)) ∈ GG := GG_in (i := 373) (by decide +kernel) (by decide +kernel)
theorem gw_374 : (Jvm.Cond.methodLink "QuorumChain" (371 : Nat) ({ cls := "java/lang/Math", name := "max", desc := "(II)I" } : Jvm.MethodName)) ∈ GG := GG_in (i := 374) (by decide +kernel) (by decide +kernel)
theorem gw_375 : (Jvm.Cond.static ({ cls := "java/lang/Math", name := "max", desc := "(II)I" } : Jvm.MethodName)) ∈ GG := GG_in (i := 375) (by decide +kernel) (by decide +kernel)
theorem gw_376 : (Jvm.Cond.code ({ cls := "java/lang/Math", name := "max", desc := "(II)I" } : Jvm.MethodName) prog_18_method_65_code (2 : Nat) (Option.some Jvm.ClassFile.FieldType.int)) ∈ GG := GG_in (i := 376) (by decide +kernel) (by decide +kernel)
theorem gw_377 : (Jvm.Cond.methodLink "QuorumChain" (216 : Nat) ({ cls := "QuorumChain", name := "writeSigned", desc := "(LQuorumChain$Node;III)Z" } : Jvm.MethodName)) ∈ GG := GG_in (i := 377) (by decide +kernel) (by decide +kernel)
theorem gw_379 : (Jvm.Cond.instanceMethod ({ cls := "QuorumChain", name := "writeSigned", desc := "(LQuorumChain$Node;III)Z" } : Jvm.MethodName)) ∈ GG := GG_in (i := 379) (by decide +kernel) (by decide +kernel)
theorem gw_380 : (Jvm.Cond.code ({ cls := "QuorumChain", name := "writeSigned", desc := "(LQuorumChain$Node;III)Z" } : Jvm.MethodName) prog_1_method_40_code (5 : Nat) (Option.some Jvm.ClassFile.FieldType.boolean)) ∈ GG := GG_in (i := 380) (by decide +kernel) (by decide +kernel)
theorem gw_381 : (Jvm.Cond.methodLink "QuorumChain" (393 : Nat) ({ cls := "QuorumChain$Message", name := "write", desc := "(IIII)V" } : Jvm.MethodName)) ∈ GG := GG_in (i := 381) (by decide +kernel) (by decide +kernel)
theorem gw_382 : (Jvm.Cond.instanceMethod ({ cls := "QuorumChain$Message", name := "write", desc := "(IIII)V" } : Jvm.MethodName)) ∈ GG := GG_in (i := 382) (by decide +kernel) (by decide +kernel)
theorem gw_383 : (Jvm.Cond.selects "QuorumChain$Message" ({ cls := "QuorumChain$Message", name := "write", desc := "(IIII)V" } : Jvm.MethodName) ({ cls := "QuorumChain$Message", name := "write", desc := "(IIII)V" } : Jvm.MethodName)) ∈ GG := GG_in (i := 383) (by decide +kernel) (by decide +kernel)
theorem gw_384 : (Jvm.Cond.code ({ cls := "QuorumChain$Message", name := "write", desc := "(IIII)V" } : Jvm.MethodName) prog_7_method_2_code (5 : Nat) (Option.none : Option Jvm.ClassFile.FieldType)) ∈ GG := GG_in (i := 384) (by decide +kernel) (by decide +kernel)
theorem gw_385 : (Jvm.Cond.methodLink "QuorumChain" (397 : Nat) ({ cls := "QuorumChain$KeyTree", name := "sign", desc := "(LQuorumChain$Message;)Z" } : Jvm.MethodName)) ∈ GG := GG_in (i := 385) (by decide +kernel) (by decide +kernel)
theorem gw_386 : (Jvm.Cond.instanceMethod ({ cls := "QuorumChain$KeyTree", name := "sign", desc := "(LQuorumChain$Message;)Z" } : Jvm.MethodName)) ∈ GG := GG_in (i := 386) (by decide +kernel) (by decide +kernel)
theorem gw_387 : (Jvm.Cond.selects "QuorumChain$KeyTree" ({ cls := "QuorumChain$KeyTree", name := "sign", desc := "(LQuorumChain$Message;)Z" } : Jvm.MethodName) ({ cls := "QuorumChain$KeyTree", name := "sign", desc := "(LQuorumChain$Message;)Z" } : Jvm.MethodName)) ∈ GG := GG_in (i := 387) (by decide +kernel) (by decide +kernel)
theorem gw_388 : (Jvm.Cond.code ({ cls := "QuorumChain$KeyTree", name := "sign", desc := "(LQuorumChain$Message;)Z" } : Jvm.MethodName) prog_6_method_4_code (5 : Nat) (Option.some Jvm.ClassFile.FieldType.boolean)) ∈ GG := GG_in (i := 388) (by decide +kernel) (by decide +kernel)
theorem gw_389 : (Jvm.Cond.methodLink "QuorumChain$KeyTree" (35 : Nat) ({ cls := "QuorumChain$KeyTree", name := "isLeft", desc := "()Z" } : Jvm.MethodName)) ∈ GG := GG_in (i := 389) (by decide +kernel) (by decide +kernel)
theorem gw_390 : (Jvm.Cond.instanceMethod ({ cls := "QuorumChain$KeyTree", name := "isLeft", desc := "()Z" } : Jvm.MethodName)) ∈ GG := GG_in (i := 390) (by decide +kernel) (by decide +kernel)
theorem gw_391 : (Jvm.Cond.selects "QuorumChain$KeyTree" ({ cls := "QuorumChain$KeyTree", name := "isLeft", desc := "()Z" } : Jvm.MethodName) ({ cls := "QuorumChain$KeyTree", name := "isLeft", desc := "()Z" } : Jvm.MethodName)) ∈ GG := GG_in (i := 391) (by decide +kernel) (by decide +kernel)
theorem gw_392 : (Jvm.Cond.code ({ cls := "QuorumChain$KeyTree", name := "isLeft", desc := "()Z" } : Jvm.MethodName) prog_6_method_3_code (1 : Nat) (Option.some Jvm.ClassFile.FieldType.boolean)) ∈ GG := GG_in (i := 392) (by decide +kernel) (by decide +kernel)
theorem gw_393 : (Jvm.Cond.methodLink "QuorumChain$KeyTree" (44 : Nat) ({ cls := "QuorumChain$Message", name := "meaning", desc := "()J" } : Jvm.MethodName)) ∈ GG := GG_in (i := 393) (by decide +kernel) (by decide +kernel)
theorem gw_394 : (Jvm.Cond.instanceMethod ({ cls := "QuorumChain$Message", name := "meaning", desc := "()J" } : Jvm.MethodName)) ∈ GG := GG_in (i := 394) (by decide +kernel) (by decide +kernel)
theorem gw_395 : (Jvm.Cond.selects "QuorumChain$Message" ({ cls := "QuorumChain$Message", name := "meaning", desc := "()J" } : Jvm.MethodName) ({ cls := "QuorumChain$Message", name := "meaning", desc := "()J" } : Jvm.MethodName)) ∈ GG := GG_in (i := 395) (by decide +kernel) (by decide +kernel)
theorem gw_396 : (Jvm.Cond.code ({ cls := "QuorumChain$Message", name := "meaning", desc := "()J" } : Jvm.MethodName) prog_7_method_4_code (3 : Nat) (Option.some Jvm.ClassFile.FieldType.long)) ∈ GG := GG_in (i := 396) (by decide +kernel) (by decide +kernel)
theorem gw_397 : (Jvm.Cond.constantLong "QuorumChain$Message" (43 : Nat) (-7046029254386353131 : Int64)) ∈ GG := GG_in (i := 397) (by decide +kernel) (by decide +kernel)
theorem gw_398 : (Jvm.Cond.methodLink "QuorumChain$Message" (45 : Nat) ({ cls := "QuorumChain$Fold", name := "absorb", desc := "(JJ)J" } : Jvm.MethodName)) ∈ GG := GG_in (i := 398) (by decide +kernel) (by decide +kernel)
theorem gw_399 : (Jvm.Cond.methodLink "QuorumChain$Message" (49 : Nat) ({ cls := "QuorumChain$Fold", name := "finish", desc := "(J)J" } : Jvm.MethodName)) ∈ GG := GG_in (i := 399) (by decide +kernel) (by decide +kernel)
theorem gw_400 : (Jvm.Cond.methodLink "QuorumChain$KeyTree" (48 : Nat) ({ cls := "QuorumChain$KeyTree", name := "digitsOf", desc := "(J)I" } : Jvm.MethodName)) ∈ GG := GG_in (i := 400) (by decide +kernel) (by decide +kernel)
theorem gw_401 : (Jvm.Cond.static ({ cls := "QuorumChain$KeyTree", name := "digitsOf", desc := "(J)I" } : Jvm.MethodName)) ∈ GG := GG_in (i := 401) (by decide +kernel) (by decide +kernel)
theorem gw_402 : (Jvm.Cond.code ({ cls := "QuorumChain$KeyTree", name := "digitsOf", desc := "(J)I" } : Jvm.MethodName) prog_6_method_8_code (5 : Nat) (Option.some Jvm.ClassFile.FieldType.int)) ∈ GG := GG_in (i := 402) (by decide +kernel) (by decide +kernel)
theorem gw_403 : (Jvm.Cond.constantLong "QuorumChain$KeyTree" (79 : Nat) (65535 : Int64)) ∈ GG := GG_in (i := 403) (by decide +kernel) (by decide +kernel)
theorem gw_404 : (Jvm.Cond.methodLink "QuorumChain$KeyTree" (59 : Nat) ({ cls := "QuorumChain$KeyTree", name := "digit", desc := "(II)I" } : Jvm.MethodName)) ∈ GG := GG_in (i := 404) (by decide +kernel) (by decide +kernel)
theorem gw_405 : (Jvm.Cond.static ({ cls := "QuorumChain$KeyTree", name := "digit", desc := "(II)I" } : Jvm.MethodName)) ∈ GG := GG_in (i := 405) (by decide +kernel) (by decide +kernel)
theorem gw_406 : (Jvm.Cond.code ({ cls := "QuorumChain$KeyTree", name := "digit", desc := "(II)I" } : Jvm.MethodName) prog_6_method_9_code (2 : Nat) (Option.some Jvm.ClassFile.FieldType.int)) ∈ GG := GG_in (i := 406) (by decide +kernel) (by decide +kernel)
theorem gw_407 : (Jvm.Cond.methodLink "QuorumChain" (362 : Nat) ({ cls := "QuorumChain", name := "sendDraftToAll", desc := "()V" } : Jvm.MethodName)) ∈ GG := GG_in (i := 407) (by decide +kernel) (by decide +kernel)
theorem gw_409 : (Jvm.Cond.instanceMethod ({ cls := "QuorumChain", name := "sendDraftToAll", desc := "()V" } : Jvm.MethodName)) ∈ GG := GG_in (i := 409) (by decide +kernel) (by decide +kernel)
theorem gw_410 : (Jvm.Cond.code ({ cls := "QuorumChain", name := "sendDraftToAll", desc := "()V" } : Jvm.MethodName) prog_1_method_41_code (2 : Nat) (Option.none : Option Jvm.ClassFile.FieldType)) ∈ GG := GG_in (i := 410) (by decide +kernel) (by decide +kernel)
theorem gw_411 : (Jvm.Cond.methodLink "QuorumChain" (157 : Nat) ({ cls := "QuorumChain$Inbox", name := "add", desc := "(LQuorumChain$Message;)V" } : Jvm.MethodName)) ∈ GG := GG_in (i := 411) (by decide +kernel) (by decide +kernel)
theorem gw_412 : (Jvm.Cond.instanceMethod ({ cls := "QuorumChain$Inbox", name := "add", desc := "(LQuorumChain$Message;)V" } : Jvm.MethodName)) ∈ GG := GG_in (i := 412) (by decide +kernel) (by decide +kernel)
theorem gw_413 : (Jvm.Cond.selects "QuorumChain$Inbox" ({ cls := "QuorumChain$Inbox", name := "add", desc := "(LQuorumChain$Message;)V" } : Jvm.MethodName) ({ cls := "QuorumChain$Inbox", name := "add", desc := "(LQuorumChain$Message;)V" } : Jvm.MethodName)) ∈ GG := GG_in (i := 413) (by decide +kernel) (by decide +kernel)
theorem gw_414 : (Jvm.Cond.code ({ cls := "QuorumChain$Inbox", name := "add", desc := "(LQuorumChain$Message;)V" } : Jvm.MethodName) prog_5_method_3_code (2 : Nat) (Option.none : Option Jvm.ClassFile.FieldType)) ∈ GG := GG_in (i := 414) (by decide +kernel) (by decide +kernel)
theorem gw_415 : (Jvm.Cond.methodLink "QuorumChain$Inbox" (22 : Nat) ({ cls := "QuorumChain$Message", name := "copyFrom", desc := "(LQuorumChain$Message;)V" } : Jvm.MethodName)) ∈ GG := GG_in (i := 415) (by decide +kernel) (by decide +kernel)
theorem gw_416 : (Jvm.Cond.instanceMethod ({ cls := "QuorumChain$Message", name := "copyFrom", desc := "(LQuorumChain$Message;)V" } : Jvm.MethodName)) ∈ GG := GG_in (i := 416) (by decide +kernel) (by decide +kernel)
theorem gw_417 : (Jvm.Cond.selects "QuorumChain$Message" ({ cls := "QuorumChain$Message", name := "copyFrom", desc := "(LQuorumChain$Message;)V" } : Jvm.MethodName) ({ cls := "QuorumChain$Message", name := "copyFrom", desc := "(LQuorumChain$Message;)V" } : Jvm.MethodName)) ∈ GG := GG_in (i := 417) (by decide +kernel) (by decide +kernel)
theorem gw_418 : (Jvm.Cond.code ({ cls := "QuorumChain$Message", name := "copyFrom", desc := "(LQuorumChain$Message;)V" } : Jvm.MethodName) prog_7_method_3_code (2 : Nat) (Option.none : Option Jvm.ClassFile.FieldType)) ∈ GG := GG_in (i := 418) (by decide +kernel) (by decide +kernel)
theorem gw_419 : (Jvm.Cond.methodLink "QuorumChain$Message" (31 : Nat) ({ cls := "QuorumChain$Message", name := "write", desc := "(IIII)V" } : Jvm.MethodName)) ∈ GG := GG_in (i := 419) (by decide +kernel) (by decide +kernel)
theorem gw_420 : (Jvm.Cond.methodLink "QuorumChain$Message" (35 : Nat) ({ cls := "java/lang/System", name := "arraycopy", desc := "(Ljava/lang/Object;ILjava/lang/Object;II)V" } : Jvm.MethodName)) ∈ GG := GG_in (i := 420) (by decide +kernel) (by decide +kernel)
theorem gw_421 : (Jvm.Cond.static ({ cls := "java/lang/System", name := "arraycopy", desc := "(Ljava/lang/Object;ILjava/lang/Object;II)V" } : Jvm.MethodName)) ∈ GG := GG_in (i := 421) (by decide +kernel) (by decide +kernel)
theorem gw_422 : (Jvm.Cond.native ({ cls := "java/lang/System", name := "arraycopy", desc := "(Ljava/lang/Object;ILjava/lang/Object;II)V" } : Jvm.MethodName)) ∈ GG := GG_in (i := 422) (by decide +kernel) (by decide +kernel)
theorem gw_423 : (Jvm.Cond.methodLink "QuorumChain" (376 : Nat) ({ cls := "java/lang/Math", name := "min", desc := "(II)I" } : Jvm.MethodName)) ∈ GG := GG_in (i := 423) (by decide +kernel) (by decide +kernel)
theorem gw_424 : (Jvm.Cond.static ({ cls := "java/lang/Math", name := "min", desc := "(II)I" } : Jvm.MethodName)) ∈ GG := GG_in (i := 424) (by decide +kernel) (by decide +kernel)
theorem gw_425 : (Jvm.Cond.code ({ cls := "java/lang/Math", name := "min", desc := "(II)I" } : Jvm.MethodName) prog_18_method_69_code (2 : Nat) (Option.some Jvm.ClassFile.FieldType.int)) ∈ GG := GG_in (i := 425) (by decide +kernel) (by decide +kernel)
theorem gw_427 : (Jvm.Cond.instanceMethod ({ cls := "QuorumChain", name := "node", desc := "(II)I" } : Jvm.MethodName)) ∈ GG := GG_in (i := 427) (by decide +kernel) (by decide +kernel)
theorem gw_428 : (Jvm.Cond.selects "QuorumChain" ({ cls := "QuorumChain", name := "node", desc := "(II)I" } : Jvm.MethodName) ({ cls := "QuorumChain", name := "node", desc := "(II)I" } : Jvm.MethodName)) ∈ GG := GG_in (i := 428) (by decide +kernel) (by decide +kernel)
theorem gw_429 : (Jvm.Cond.code ({ cls := "QuorumChain", name := "node", desc := "(II)I" } : Jvm.MethodName) prog_1_method_13_code (4 : Nat) (Option.some Jvm.ClassFile.FieldType.int)) ∈ GG := GG_in (i := 429) (by decide +kernel) (by decide +kernel)
theorem gw_430 : (Jvm.Cond.methodLink "QuorumChain" (68 : Nat) ({ cls := "QuorumChain", name := "isNode", desc := "(I)Z" } : Jvm.MethodName)) ∈ GG := GG_in (i := 430) (by decide +kernel) (by decide +kernel)
theorem gw_431 : (Jvm.Cond.static ({ cls := "QuorumChain", name := "isNode", desc := "(I)Z" } : Jvm.MethodName)) ∈ GG := GG_in (i := 431) (by decide +kernel) (by decide +kernel)
theorem gw_432 : (Jvm.Cond.code ({ cls := "QuorumChain", name := "isNode", desc := "(I)Z" } : Jvm.MethodName) prog_1_method_20_code (1 : Nat) (Option.some Jvm.ClassFile.FieldType.boolean)) ∈ GG := GG_in (i := 432) (by decide +kernel) (by decide +kernel)
theorem gw_434 : (Jvm.Cond.instanceMethod ({ cls := "QuorumChain", name := "log", desc := "(II)I" } : Jvm.MethodName)) ∈ GG := GG_in (i := 434) (by decide +kernel) (by decide +kernel)
theorem gw_435 : (Jvm.Cond.selects "QuorumChain" ({ cls := "QuorumChain", name := "log", desc := "(II)I" } : Jvm.MethodName) ({ cls := "QuorumChain", name := "log", desc := "(II)I" } : Jvm.MethodName)) ∈ GG := GG_in (i := 435) (by decide +kernel) (by decide +kernel)
theorem gw_436 : (Jvm.Cond.code ({ cls := "QuorumChain", name := "log", desc := "(II)I" } : Jvm.MethodName) prog_1_method_14_code (3 : Nat) (Option.some Jvm.ClassFile.FieldType.int)) ∈ GG := GG_in (i := 436) (by decide +kernel) (by decide +kernel)
theorem gw_437 : (Jvm.Cond.methodLink "QuorumChain" (269 : Nat) ({ cls := "QuorumChain$Store", name := "logged", desc := "(I)I" } : Jvm.MethodName)) ∈ GG := GG_in (i := 437) (by decide +kernel) (by decide +kernel)
theorem gw_438 : (Jvm.Cond.instanceMethod ({ cls := "QuorumChain$Store", name := "logged", desc := "(I)I" } : Jvm.MethodName)) ∈ GG := GG_in (i := 438) (by decide +kernel) (by decide +kernel)
theorem gw_439 : (Jvm.Cond.selects "QuorumChain$Store" ({ cls := "QuorumChain$Store", name := "logged", desc := "(I)I" } : Jvm.MethodName) ({ cls := "QuorumChain$Store", name := "logged", desc := "(I)I" } : Jvm.MethodName)) ∈ GG := GG_in (i := 439) (by decide +kernel) (by decide +kernel)
theorem gw_440 : (Jvm.Cond.code ({ cls := "QuorumChain$Store", name := "logged", desc := "(I)I" } : Jvm.MethodName) prog_9_method_4_code (2 : Nat) (Option.some Jvm.ClassFile.FieldType.int)) ∈ GG := GG_in (i := 440) (by decide +kernel) (by decide +kernel)
theorem gw_442 : (Jvm.Cond.instanceMethod ({ cls := "QuorumChain", name := "account", desc := "(III)I" } : Jvm.MethodName)) ∈ GG := GG_in (i := 442) (by decide +kernel) (by decide +kernel)
theorem gw_443 : (Jvm.Cond.selects "QuorumChain" ({ cls := "QuorumChain", name := "account", desc := "(III)I" } : Jvm.MethodName) ({ cls := "QuorumChain", name := "account", desc := "(III)I" } : Jvm.MethodName)) ∈ GG := GG_in (i := 443) (by decide +kernel) (by decide +kernel)
theorem gw_444 : (Jvm.Cond.code ({ cls := "QuorumChain", name := "account", desc := "(III)I" } : Jvm.MethodName) prog_1_method_15_code (5 : Nat) (Option.some Jvm.ClassFile.FieldType.int)) ∈ GG := GG_in (i := 444) (by decide +kernel) (by decide +kernel)
theorem gw_445 : (Jvm.Cond.methodLink "QuorumChain" (42 : Nat) ({ cls := "QuorumChain", name := "isAccount", desc := "(I)Z" } : Jvm.MethodName)) ∈ GG := GG_in (i := 445) (by decide +kernel) (by decide +kernel)
theorem gw_446 : (Jvm.Cond.static ({ cls := "QuorumChain", name := "isAccount", desc := "(I)Z" } : Jvm.MethodName)) ∈ GG := GG_in (i := 446) (by decide +kernel) (by decide +kernel)
theorem gw_447 : (Jvm.Cond.code ({ cls := "QuorumChain", name := "isAccount", desc := "(I)Z" } : Jvm.MethodName) prog_1_method_21_code (1 : Nat) (Option.some Jvm.ClassFile.FieldType.boolean)) ∈ GG := GG_in (i := 447) (by decide +kernel) (by decide +kernel)
theorem gw_449 : (Jvm.Cond.instanceMethod ({ cls := "QuorumChain", name := "block", desc := "(II)I" } : Jvm.MethodName)) ∈ GG := GG_in (i := 449) (by decide +kernel) (by decide +kernel)
theorem gw_450 : (Jvm.Cond.selects "QuorumChain" ({ cls := "QuorumChain", name := "block", desc := "(II)I" } : Jvm.MethodName) ({ cls := "QuorumChain", name := "block", desc := "(II)I" } : Jvm.MethodName)) ∈ GG := GG_in (i := 450) (by decide +kernel) (by decide +kernel)
theorem gw_451 : (Jvm.Cond.code ({ cls := "QuorumChain", name := "block", desc := "(II)I" } : Jvm.MethodName) prog_1_method_16_code (3 : Nat) (Option.some Jvm.ClassFile.FieldType.int)) ∈ GG := GG_in (i := 451) (by decide +kernel) (by decide +kernel)
theorem gw_452 : (Jvm.Cond.methodLink "QuorumChain" (170 : Nat) ({ cls := "QuorumChain$Blocks", name := "exists", desc := "(I)Z" } : Jvm.MethodName)) ∈ GG := GG_in (i := 452) (by decide +kernel) (by decide +kernel)
theorem gw_453 : (Jvm.Cond.instanceMethod ({ cls := "QuorumChain$Blocks", name := "exists", desc := "(I)Z" } : Jvm.MethodName)) ∈ GG := GG_in (i := 453) (by decide +kernel) (by decide +kernel)
theorem gw_454 : (Jvm.Cond.selects "QuorumChain$Blocks" ({ cls := "QuorumChain$Blocks", name := "exists", desc := "(I)Z" } : Jvm.MethodName) ({ cls := "QuorumChain$Blocks", name := "exists", desc := "(I)Z" } : Jvm.MethodName)) ∈ GG := GG_in (i := 454) (by decide +kernel) (by decide +kernel)
theorem gw_455 : (Jvm.Cond.code ({ cls := "QuorumChain$Blocks", name := "exists", desc := "(I)Z" } : Jvm.MethodName) prog_3_method_2_code (2 : Nat) (Option.some Jvm.ClassFile.FieldType.boolean)) ∈ GG := GG_in (i := 455) (by decide +kernel) (by decide +kernel)
theorem gw_456 : (Jvm.Cond.methodLink "QuorumChain" (203 : Nat) ({ cls := "QuorumChain$Blocks", name := "viewOf", desc := "(I)I" } : Jvm.MethodName)) ∈ GG := GG_in (i := 456) (by decide +kernel) (by decide +kernel)
theorem gw_457 : (Jvm.Cond.instanceMethod ({ cls := "QuorumChain$Blocks", name := "viewOf", desc := "(I)I" } : Jvm.MethodName)) ∈ GG := GG_in (i := 457) (by decide +kernel) (by decide +kernel)
theorem gw_458 : (Jvm.Cond.selects "QuorumChain$Blocks" ({ cls := "QuorumChain$Blocks", name := "viewOf", desc := "(I)I" } : Jvm.MethodName) ({ cls := "QuorumChain$Blocks", name := "viewOf", desc := "(I)I" } : Jvm.MethodName)) ∈ GG := GG_in (i := 458) (by decide +kernel) (by decide +kernel)
theorem gw_459 : (Jvm.Cond.code ({ cls := "QuorumChain$Blocks", name := "viewOf", desc := "(I)I" } : Jvm.MethodName) prog_3_method_4_code (2 : Nat) (Option.some Jvm.ClassFile.FieldType.int)) ∈ GG := GG_in (i := 459) (by decide +kernel) (by decide +kernel)
theorem gw_460 : (Jvm.Cond.methodLink "QuorumChain$Blocks" (29 : Nat) ({ cls := "QuorumChain$Blocks", name := "exists", desc := "(I)Z" } : Jvm.MethodName)) ∈ GG := GG_in (i := 460) (by decide +kernel) (by decide +kernel)
theorem gw_461 : (Jvm.Cond.methodLink "QuorumChain" (285 : Nat) ({ cls := "QuorumChain$Blocks", name := "parentOf", desc := "(I)I" } : Jvm.MethodName)) ∈ GG := GG_in (i := 461) (by decide +kernel) (by decide +kernel)
theorem gw_462 : (Jvm.Cond.instanceMethod ({ cls := "QuorumChain$Blocks", name := "parentOf", desc := "(I)I" } : Jvm.MethodName)) ∈ GG := GG_in (i := 462) (by decide +kernel) (by decide +kernel)
theorem gw_463 : (Jvm.Cond.selects "QuorumChain$Blocks" ({ cls := "QuorumChain$Blocks", name := "parentOf", desc := "(I)I" } : Jvm.MethodName) ({ cls := "QuorumChain$Blocks", name := "parentOf", desc := "(I)I" } : Jvm.MethodName)) ∈ GG := GG_in (i := 463) (by decide +kernel) (by decide +kernel)
theorem gw_464 : (Jvm.Cond.code ({ cls := "QuorumChain$Blocks", name := "parentOf", desc := "(I)I" } : Jvm.MethodName) prog_3_method_5_code (2 : Nat) (Option.some Jvm.ClassFile.FieldType.int)) ∈ GG := GG_in (i := 464) (by decide +kernel) (by decide +kernel)
theorem gw_465 : (Jvm.Cond.methodLink "QuorumChain" (288 : Nat) ({ cls := "QuorumChain$Blocks", name := "transactionOf", desc := "(I)I" } : Jvm.MethodName)) ∈ GG := GG_in (i := 465) (by decide +kernel) (by decide +kernel)
theorem gw_466 : (Jvm.Cond.instanceMethod ({ cls := "QuorumChain$Blocks", name := "transactionOf", desc := "(I)I" } : Jvm.MethodName)) ∈ GG := GG_in (i := 466) (by decide +kernel) (by decide +kernel)
theorem gw_467 : (Jvm.Cond.selects "QuorumChain$Blocks" ({ cls := "QuorumChain$Blocks", name := "transactionOf", desc := "(I)I" } : Jvm.MethodName) ({ cls := "QuorumChain$Blocks", name := "transactionOf", desc := "(I)I" } : Jvm.MethodName)) ∈ GG := GG_in (i := 467) (by decide +kernel) (by decide +kernel)
theorem gw_468 : (Jvm.Cond.code ({ cls := "QuorumChain$Blocks", name := "transactionOf", desc := "(I)I" } : Jvm.MethodName) prog_3_method_6_code (2 : Nat) (Option.some Jvm.ClassFile.FieldType.int)) ∈ GG := GG_in (i := 468) (by decide +kernel) (by decide +kernel)
theorem gw_469 : (Jvm.Cond.methodLink "QuorumChain" (200 : Nat) ({ cls := "QuorumChain$Blocks", name := "isCertified", desc := "(I)Z" } : Jvm.MethodName)) ∈ GG := GG_in (i := 469) (by decide +kernel) (by decide +kernel)
theorem gw_470 : (Jvm.Cond.instanceMethod ({ cls := "QuorumChain$Blocks", name := "isCertified", desc := "(I)Z" } : Jvm.MethodName)) ∈ GG := GG_in (i := 470) (by decide +kernel) (by decide +kernel)
theorem gw_471 : (Jvm.Cond.selects "QuorumChain$Blocks" ({ cls := "QuorumChain$Blocks", name := "isCertified", desc := "(I)Z" } : Jvm.MethodName) ({ cls := "QuorumChain$Blocks", name := "isCertified", desc := "(I)Z" } : Jvm.MethodName)) ∈ GG := GG_in (i := 471) (by decide +kernel) (by decide +kernel)
theorem gw_472 : (Jvm.Cond.code ({ cls := "QuorumChain$Blocks", name := "isCertified", desc := "(I)Z" } : Jvm.MethodName) prog_3_method_7_code (2 : Nat) (Option.some Jvm.ClassFile.FieldType.boolean)) ∈ GG := GG_in (i := 472) (by decide +kernel) (by decide +kernel)
theorem gw_473 : (Jvm.Cond.methodLink "QuorumChain" (291 : Nat) ({ cls := "QuorumChain", name := "nodesThatHave", desc := "(I)I" } : Jvm.MethodName)) ∈ GG := GG_in (i := 473) (by decide +kernel) (by decide +kernel)
theorem gw_475 : (Jvm.Cond.instanceMethod ({ cls := "QuorumChain", name := "nodesThatHave", desc := "(I)I" } : Jvm.MethodName)) ∈ GG := GG_in (i := 475) (by decide +kernel) (by decide +kernel)
theorem gw_476 : (Jvm.Cond.code ({ cls := "QuorumChain", name := "nodesThatHave", desc := "(I)I" } : Jvm.MethodName) prog_1_method_23_code (4 : Nat) (Option.some Jvm.ClassFile.FieldType.int)) ∈ GG := GG_in (i := 476) (by decide +kernel) (by decide +kernel)
theorem gw_477 : (Jvm.Cond.methodLink "QuorumChain" (195 : Nat) ({ cls := "QuorumChain$Store", name := "hasBlock", desc := "(I)Z" } : Jvm.MethodName)) ∈ GG := GG_in (i := 477) (by decide +kernel) (by decide +kernel)
theorem gw_478 : (Jvm.Cond.instanceMethod ({ cls := "QuorumChain$Store", name := "hasBlock", desc := "(I)Z" } : Jvm.MethodName)) ∈ GG := GG_in (i := 478) (by decide +kernel) (by decide +kernel)
theorem gw_479 : (Jvm.Cond.selects "QuorumChain$Store" ({ cls := "QuorumChain$Store", name := "hasBlock", desc := "(I)Z" } : Jvm.MethodName) ({ cls := "QuorumChain$Store", name := "hasBlock", desc := "(I)Z" } : Jvm.MethodName)) ∈ GG := GG_in (i := 479) (by decide +kernel) (by decide +kernel)
theorem gw_480 : (Jvm.Cond.code ({ cls := "QuorumChain$Store", name := "hasBlock", desc := "(I)Z" } : Jvm.MethodName) prog_9_method_2_code (2 : Nat) (Option.some Jvm.ClassFile.FieldType.boolean)) ∈ GG := GG_in (i := 480) (by decide +kernel) (by decide +kernel)
theorem gw_482 : (Jvm.Cond.instanceMethod ({ cls := "QuorumChain", name := "message", desc := "(III)I" } : Jvm.MethodName)) ∈ GG := GG_in (i := 482) (by decide +kernel) (by decide +kernel)
theorem gw_483 : (Jvm.Cond.selects "QuorumChain" ({ cls := "QuorumChain", name := "message", desc := "(III)I" } : Jvm.MethodName) ({ cls := "QuorumChain", name := "message", desc := "(III)I" } : Jvm.MethodName)) ∈ GG := GG_in (i := 483) (by decide +kernel) (by decide +kernel)
theorem gw_484 : (Jvm.Cond.code ({ cls := "QuorumChain", name := "message", desc := "(III)I" } : Jvm.MethodName) prog_1_method_17_code (5 : Nat) (Option.some Jvm.ClassFile.FieldType.int)) ∈ GG := GG_in (i := 484) (by decide +kernel) (by decide +kernel)
theorem gw_486 : (Jvm.Cond.instanceMethod ({ cls := "QuorumChain", name := "root", desc := "(I)J" } : Jvm.MethodName)) ∈ GG := GG_in (i := 486) (by decide +kernel) (by decide +kernel)
theorem gw_487 : (Jvm.Cond.selects "QuorumChain" ({ cls := "QuorumChain", name := "root", desc := "(I)J" } : Jvm.MethodName) ({ cls := "QuorumChain", name := "root", desc := "(I)J" } : Jvm.MethodName)) ∈ GG := GG_in (i := 487) (by decide +kernel) (by decide +kernel)
theorem gw_488 : (Jvm.Cond.code ({ cls := "QuorumChain", name := "root", desc := "(I)J" } : Jvm.MethodName) prog_1_method_18_code (2 : Nat) (Option.some Jvm.ClassFile.FieldType.long)) ∈ GG := GG_in (i := 488) (by decide +kernel) (by decide +kernel)
theorem gw_489 : (Jvm.Cond.methodLink "QuorumChain" (298 : Nat) ({ cls := "QuorumChain$KeyTree", name := "top", desc := "()J" } : Jvm.MethodName)) ∈ GG := GG_in (i := 489) (by decide +kernel) (by decide +kernel)
theorem gw_490 : (Jvm.Cond.instanceMethod ({ cls := "QuorumChain$KeyTree", name := "top", desc := "()J" } : Jvm.MethodName)) ∈ GG := GG_in (i := 490) (by decide +kernel) (by decide +kernel)
theorem gw_491 : (Jvm.Cond.selects "QuorumChain$KeyTree" ({ cls := "QuorumChain$KeyTree", name := "top", desc := "()J" } : Jvm.MethodName) ({ cls := "QuorumChain$KeyTree", name := "top", desc := "()J" } : Jvm.MethodName)) ∈ GG := GG_in (i := 491) (by decide +kernel) (by decide +kernel)
theorem gw_492 : (Jvm.Cond.code ({ cls := "QuorumChain$KeyTree", name := "top", desc := "()J" } : Jvm.MethodName) prog_6_method_2_code (1 : Nat) (Option.some Jvm.ClassFile.FieldType.long)) ∈ GG := GG_in (i := 492) (by decide +kernel) (by decide +kernel)
theorem gw_494 : (Jvm.Cond.instanceMethod ({ cls := "QuorumChain", name := "about", desc := "(I)I" } : Jvm.MethodName)) ∈ GG := GG_in (i := 494) (by decide +kernel) (by decide +kernel)
theorem gw_495 : (Jvm.Cond.selects "QuorumChain" ({ cls := "QuorumChain", name := "about", desc := "(I)I" } : Jvm.MethodName) ({ cls := "QuorumChain", name := "about", desc := "(I)I" } : Jvm.MethodName)) ∈ GG := GG_in (i := 495) (by decide +kernel) (by decide +kernel)
theorem gw_496 : (Jvm.Cond.code ({ cls := "QuorumChain", name := "about", desc := "(I)I" } : Jvm.MethodName) prog_1_method_19_code (2 : Nat) (Option.some Jvm.ClassFile.FieldType.int)) ∈ GG := GG_in (i := 496) (by decide +kernel) (by decide +kernel)
theorem gw_594 : (Jvm.Cond.instanceMethod ({ cls := "QuorumChain$Transactions", name := "add", desc := "(IIII)I" } : Jvm.MethodName)) ∈ GG := GG_in (i := 594) (by decide +kernel) (by decide +kernel)
theorem gw_595 : (Jvm.Cond.selects "QuorumChain$Transactions" ({ cls := "QuorumChain$Transactions", name := "add", desc := "(IIII)I" } : Jvm.MethodName) ({ cls := "QuorumChain$Transactions", name := "add", desc := "(IIII)I" } : Jvm.MethodName)) ∈ GG := GG_in (i := 595) (by decide +kernel) (by decide +kernel)
theorem gw_596 : (Jvm.Cond.code ({ cls := "QuorumChain$Transactions", name := "add", desc := "(IIII)I" } : Jvm.MethodName) prog_11_method_3_code (5 : Nat) (Option.some Jvm.ClassFile.FieldType.int)) ∈ GG := GG_in (i := 596) (by decide +kernel) (by decide +kernel)
theorem gw_605 : (Jvm.Cond.instanceMethod ({ cls := "QuorumChain$Transactions", name := "exists", desc := "(I)Z" } : Jvm.MethodName)) ∈ GG := GG_in (i := 605) (by decide +kernel) (by decide +kernel)
theorem gw_606 : (Jvm.Cond.selects "QuorumChain$Transactions" ({ cls := "QuorumChain$Transactions", name := "exists", desc := "(I)Z" } : Jvm.MethodName) ({ cls := "QuorumChain$Transactions", name := "exists", desc := "(I)Z" } : Jvm.MethodName)) ∈ GG := GG_in (i := 606) (by decide +kernel) (by decide +kernel)
theorem gw_607 : (Jvm.Cond.code ({ cls := "QuorumChain$Transactions", name := "exists", desc := "(I)Z" } : Jvm.MethodName) prog_11_method_2_code (2 : Nat) (Option.some Jvm.ClassFile.FieldType.boolean)) ∈ GG := GG_in (i := 607) (by decide +kernel) (by decide +kernel)
theorem gw_611 : (Jvm.Cond.instanceMethod ({ cls := "QuorumChain$Node", name := "addToPool", desc := "(I)Z" } : Jvm.MethodName)) ∈ GG := GG_in (i := 611) (by decide +kernel) (by decide +kernel)
theorem gw_612 : (Jvm.Cond.selects "QuorumChain$Node" ({ cls := "QuorumChain$Node", name := "addToPool", desc := "(I)Z" } : Jvm.MethodName) ({ cls := "QuorumChain$Node", name := "addToPool", desc := "(I)Z" } : Jvm.MethodName)) ∈ GG := GG_in (i := 612) (by decide +kernel) (by decide +kernel)
theorem gw_613 : (Jvm.Cond.code ({ cls := "QuorumChain$Node", name := "addToPool", desc := "(I)Z" } : Jvm.MethodName) prog_8_method_2_code (3 : Nat) (Option.some Jvm.ClassFile.FieldType.boolean)) ∈ GG := GG_in (i := 613) (by decide +kernel) (by decide +kernel)
theorem gw_622 : (Jvm.Cond.methodLink "QuorumChain" (93 : Nat) ({ cls := "QuorumChain", name := "propose", desc := "(LQuorumChain$Node;)V" } : Jvm.MethodName)) ∈ GG := GG_in (i := 622) (by decide +kernel) (by decide +kernel)
theorem gw_624 : (Jvm.Cond.instanceMethod ({ cls := "QuorumChain", name := "propose", desc := "(LQuorumChain$Node;)V" } : Jvm.MethodName)) ∈ GG := GG_in (i := 624) (by decide +kernel) (by decide +kernel)
theorem gw_625 : (Jvm.Cond.code ({ cls := "QuorumChain", name := "propose", desc := "(LQuorumChain$Node;)V" } : Jvm.MethodName) prog_1_method_35_code (3 : Nat) (Option.none : Option Jvm.ClassFile.FieldType)) ∈ GG := GG_in (i := 625) (by decide +kernel) (by decide +kernel)
theorem gw_626 : (Jvm.Cond.methodLink "QuorumChain" (358 : Nat) ({ cls := "QuorumChain", name := "firstNewTransaction", desc := "(LQuorumChain$Node;)I" } : Jvm.MethodName)) ∈ GG := GG_in (i := 626) (by decide +kernel) (by decide +kernel)
theorem gw_628 : (Jvm.Cond.instanceMethod ({ cls := "QuorumChain", name := "firstNewTransaction", desc := "(LQuorumChain$Node;)I" } : Jvm.MethodName)) ∈ GG := GG_in (i := 628) (by decide +kernel) (by decide +kernel)
theorem gw_629 : (Jvm.Cond.code ({ cls := "QuorumChain", name := "firstNewTransaction", desc := "(LQuorumChain$Node;)I" } : Jvm.MethodName) prog_1_method_36_code (3 : Nat) (Option.some Jvm.ClassFile.FieldType.int)) ∈ GG := GG_in (i := 629) (by decide +kernel) (by decide +kernel)
theorem gw_630 : (Jvm.Cond.methodLink "QuorumChain" (368 : Nat) ({ cls := "QuorumChain$Blocks", name := "isInChain", desc := "(II)Z" } : Jvm.MethodName)) ∈ GG := GG_in (i := 630) (by decide +kernel) (by decide +kernel)
theorem gw_631 : (Jvm.Cond.instanceMethod ({ cls := "QuorumChain$Blocks", name := "isInChain", desc := "(II)Z" } : Jvm.MethodName)) ∈ GG := GG_in (i := 631) (by decide +kernel) (by decide +kernel)
theorem gw_632 : (Jvm.Cond.selects "QuorumChain$Blocks" ({ cls := "QuorumChain$Blocks", name := "isInChain", desc := "(II)Z" } : Jvm.MethodName) ({ cls := "QuorumChain$Blocks", name := "isInChain", desc := "(II)Z" } : Jvm.MethodName)) ∈ GG := GG_in (i := 632) (by decide +kernel) (by decide +kernel)
theorem gw_633 : (Jvm.Cond.code ({ cls := "QuorumChain$Blocks", name := "isInChain", desc := "(II)Z" } : Jvm.MethodName) prog_3_method_13_code (5 : Nat) (Option.some Jvm.ClassFile.FieldType.boolean)) ∈ GG := GG_in (i := 633) (by decide +kernel) (by decide +kernel)
theorem gw_634 : (Jvm.Cond.methodLink "QuorumChain$Blocks" (44 : Nat) ({ cls := "QuorumChain$Blocks", name := "transactionOf", desc := "(I)I" } : Jvm.MethodName)) ∈ GG := GG_in (i := 634) (by decide +kernel) (by decide +kernel)
theorem gw_635 : (Jvm.Cond.methodLink "QuorumChain$Blocks" (41 : Nat) ({ cls := "QuorumChain$Blocks", name := "parentOf", desc := "(I)I" } : Jvm.MethodName)) ∈ GG := GG_in (i := 635) (by decide +kernel) (by decide +kernel)
theorem gw_636 : (Jvm.Cond.methodLink "QuorumChain" (209 : Nat) ({ cls := "QuorumChain$Blocks", name := "add", desc := "(III)I" } : Jvm.MethodName)) ∈ GG := GG_in (i := 636) (by decide +kernel) (by decide +kernel)
theorem gw_637 : (Jvm.Cond.instanceMethod ({ cls := "QuorumChain$Blocks", name := "add", desc := "(III)I" } : Jvm.MethodName)) ∈ GG := GG_in (i := 637) (by decide +kernel) (by decide +kernel)
theorem gw_638 : (Jvm.Cond.selects "QuorumChain$Blocks" ({ cls := "QuorumChain$Blocks", name := "add", desc := "(III)I" } : Jvm.MethodName) ({ cls := "QuorumChain$Blocks", name := "add", desc := "(III)I" } : Jvm.MethodName)) ∈ GG := GG_in (i := 638) (by decide +kernel) (by decide +kernel)
theorem gw_639 : (Jvm.Cond.code ({ cls := "QuorumChain$Blocks", name := "add", desc := "(III)I" } : Jvm.MethodName) prog_3_method_3_code (4 : Nat) (Option.some Jvm.ClassFile.FieldType.int)) ∈ GG := GG_in (i := 639) (by decide +kernel) (by decide +kernel)
theorem gw_640 : (Jvm.Cond.methodLink "QuorumChain" (212 : Nat) ({ cls := "QuorumChain$Store", name := "keepBlock", desc := "(I)V" } : Jvm.MethodName)) ∈ GG := GG_in (i := 640) (by decide +kernel) (by decide +kernel)
theorem gw_641 : (Jvm.Cond.instanceMethod ({ cls := "QuorumChain$Store", name := "keepBlock", desc := "(I)V" } : Jvm.MethodName)) ∈ GG := GG_in (i := 641) (by decide +kernel) (by decide +kernel)
theorem gw_642 : (Jvm.Cond.selects "QuorumChain$Store" ({ cls := "QuorumChain$Store", name := "keepBlock", desc := "(I)V" } : Jvm.MethodName) ({ cls := "QuorumChain$Store", name := "keepBlock", desc := "(I)V" } : Jvm.MethodName)) ∈ GG := GG_in (i := 642) (by decide +kernel) (by decide +kernel)
theorem gw_643 : (Jvm.Cond.code ({ cls := "QuorumChain$Store", name := "keepBlock", desc := "(I)V" } : Jvm.MethodName) prog_9_method_3_code (2 : Nat) (Option.none : Option Jvm.ClassFile.FieldType)) ∈ GG := GG_in (i := 643) (by decide +kernel) (by decide +kernel)
theorem gw_654 : (Jvm.Cond.instanceMethod ({ cls := "QuorumChain$Inbox", name := "first", desc := "()LQuorumChain$Message;" } : Jvm.MethodName)) ∈ GG := GG_in (i := 654) (by decide +kernel) (by decide +kernel)
theorem gw_655 : (Jvm.Cond.selects "QuorumChain$Inbox" ({ cls := "QuorumChain$Inbox", name := "first", desc := "()LQuorumChain$Message;" } : Jvm.MethodName) ({ cls := "QuorumChain$Inbox", name := "first", desc := "()LQuorumChain$Message;" } : Jvm.MethodName)) ∈ GG := GG_in (i := 655) (by decide +kernel) (by decide +kernel)
theorem gw_656 : (Jvm.Cond.code ({ cls := "QuorumChain$Inbox", name := "first", desc := "()LQuorumChain$Message;" } : Jvm.MethodName) prog_5_method_2_code (1 : Nat) (Option.some (Jvm.ClassFile.FieldType.object "QuorumChain$Message"))) ∈ GG := GG_in (i := 656) (by decide +kernel) (by decide +kernel)
theorem gw_659 : (Jvm.Cond.instanceMethod ({ cls := "QuorumChain$Inbox", name := "dropFirst", desc := "()V" } : Jvm.MethodName)) ∈ GG := GG_in (i := 659) (by decide +kernel) (by decide +kernel)
theorem gw_660 : (Jvm.Cond.selects "QuorumChain$Inbox" ({ cls := "QuorumChain$Inbox", name := "dropFirst", desc := "()V" } : Jvm.MethodName) ({ cls := "QuorumChain$Inbox", name := "dropFirst", desc := "()V" } : Jvm.MethodName)) ∈ GG := GG_in (i := 660) (by decide +kernel) (by decide +kernel)
theorem gw_661 : (Jvm.Cond.code ({ cls := "QuorumChain$Inbox", name := "dropFirst", desc := "()V" } : Jvm.MethodName) prog_5_method_5_code (1 : Nat) (Option.none : Option Jvm.ClassFile.FieldType)) ∈ GG := GG_in (i := 661) (by decide +kernel) (by decide +kernel)
theorem gw_662 : (Jvm.Cond.methodLink "QuorumChain$Inbox" (26 : Nat) ({ cls := "QuorumChain$Inbox", name := "moveFirstBehind", desc := "()V" } : Jvm.MethodName)) ∈ GG := GG_in (i := 662) (by decide +kernel) (by decide +kernel)
theorem gw_663 : (Jvm.Cond.instanceMethod ({ cls := "QuorumChain$Inbox", name := "moveFirstBehind", desc := "()V" } : Jvm.MethodName)) ∈ GG := GG_in (i := 663) (by decide +kernel) (by decide +kernel)
theorem gw_664 : (Jvm.Cond.selects "QuorumChain$Inbox" ({ cls := "QuorumChain$Inbox", name := "moveFirstBehind", desc := "()V" } : Jvm.MethodName) ({ cls := "QuorumChain$Inbox", name := "moveFirstBehind", desc := "()V" } : Jvm.MethodName)) ∈ GG := GG_in (i := 664) (by decide +kernel) (by decide +kernel)
theorem gw_665 : (Jvm.Cond.code ({ cls := "QuorumChain$Inbox", name := "moveFirstBehind", desc := "()V" } : Jvm.MethodName) prog_5_method_4_code (3 : Nat) (Option.none : Option Jvm.ClassFile.FieldType)) ∈ GG := GG_in (i := 665) (by decide +kernel) (by decide +kernel)
theorem gw_668 : (Jvm.Cond.instanceMethod ({ cls := "QuorumChain", name := "isHeard", desc := "(LQuorumChain$Message;)Z" } : Jvm.MethodName)) ∈ GG := GG_in (i := 668) (by decide +kernel) (by decide +kernel)
theorem gw_669 : (Jvm.Cond.code ({ cls := "QuorumChain", name := "isHeard", desc := "(LQuorumChain$Message;)Z" } : Jvm.MethodName) prog_1_method_25_code (2 : Nat) (Option.some Jvm.ClassFile.FieldType.boolean)) ∈ GG := GG_in (i := 669) (by decide +kernel) (by decide +kernel)
theorem gw_670 : (Jvm.Cond.methodLink "QuorumChain" (173 : Nat) ({ cls := "QuorumChain", name := "leaderOf", desc := "(I)I" } : Jvm.MethodName)) ∈ GG := GG_in (i := 670) (by decide +kernel) (by decide +kernel)
theorem gw_671 : (Jvm.Cond.static ({ cls := "QuorumChain", name := "leaderOf", desc := "(I)I" } : Jvm.MethodName)) ∈ GG := GG_in (i := 671) (by decide +kernel) (by decide +kernel)
theorem gw_672 : (Jvm.Cond.code ({ cls := "QuorumChain", name := "leaderOf", desc := "(I)I" } : Jvm.MethodName) prog_1_method_22_code (1 : Nat) (Option.some Jvm.ClassFile.FieldType.int)) ∈ GG := GG_in (i := 672) (by decide +kernel) (by decide +kernel)
theorem gw_673 : (Jvm.Cond.methodLink "QuorumChain" (306 : Nat) ({ cls := "QuorumChain$KeyTree", name := "isGood", desc := "(LQuorumChain$Message;)Z" } : Jvm.MethodName)) ∈ GG := GG_in (i := 673) (by decide +kernel) (by decide +kernel)
theorem gw_674 : (Jvm.Cond.instanceMethod ({ cls := "QuorumChain$KeyTree", name := "isGood", desc := "(LQuorumChain$Message;)Z" } : Jvm.MethodName)) ∈ GG := GG_in (i := 674) (by decide +kernel) (by decide +kernel)
theorem gw_675 : (Jvm.Cond.selects "QuorumChain$KeyTree" ({ cls := "QuorumChain$KeyTree", name := "isGood", desc := "(LQuorumChain$Message;)Z" } : Jvm.MethodName) ({ cls := "QuorumChain$KeyTree", name := "isGood", desc := "(LQuorumChain$Message;)Z" } : Jvm.MethodName)) ∈ GG := GG_in (i := 675) (by decide +kernel) (by decide +kernel)
theorem gw_676 : (Jvm.Cond.code ({ cls := "QuorumChain$KeyTree", name := "isGood", desc := "(LQuorumChain$Message;)Z" } : Jvm.MethodName) prog_6_method_5_code (9 : Nat) (Option.some Jvm.ClassFile.FieldType.boolean)) ∈ GG := GG_in (i := 676) (by decide +kernel) (by decide +kernel)
theorem gw_677 : (Jvm.Cond.methodLink "QuorumChain$KeyTree" (76 : Nat) ({ cls := "QuorumChain$KeyTree", name := "top", desc := "()J" } : Jvm.MethodName)) ∈ GG := GG_in (i := 677) (by decide +kernel) (by decide +kernel)
theorem gw_680 : (Jvm.Cond.instanceMethod ({ cls := "QuorumChain", name := "receiveProposal", desc := "(LQuorumChain$Node;II)V" } : Jvm.MethodName)) ∈ GG := GG_in (i := 680) (by decide +kernel) (by decide +kernel)
theorem gw_681 : (Jvm.Cond.code ({ cls := "QuorumChain", name := "receiveProposal", desc := "(LQuorumChain$Node;II)V" } : Jvm.MethodName) prog_1_method_26_code (5 : Nat) (Option.none : Option Jvm.ClassFile.FieldType)) ∈ GG := GG_in (i := 681) (by decide +kernel) (by decide +kernel)
theorem gw_682 : (Jvm.Cond.methodLink "QuorumChain" (309 : Nat) ({ cls := "QuorumChain", name := "sendUnsigned", desc := "(LQuorumChain$Node;III)V" } : Jvm.MethodName)) ∈ GG := GG_in (i := 682) (by decide +kernel) (by decide +kernel)
theorem gw_684 : (Jvm.Cond.instanceMethod ({ cls := "QuorumChain", name := "sendUnsigned", desc := "(LQuorumChain$Node;III)V" } : Jvm.MethodName)) ∈ GG := GG_in (i := 684) (by decide +kernel) (by decide +kernel)
theorem gw_685 : (Jvm.Cond.code ({ cls := "QuorumChain", name := "sendUnsigned", desc := "(LQuorumChain$Node;III)V" } : Jvm.MethodName) prog_1_method_39_code (5 : Nat) (Option.none : Option Jvm.ClassFile.FieldType)) ∈ GG := GG_in (i := 685) (by decide +kernel) (by decide +kernel)
theorem gw_686 : (Jvm.Cond.methodLink "QuorumChain" (312 : Nat) ({ cls := "QuorumChain", name := "takeAsCertified", desc := "(LQuorumChain$Node;I)V" } : Jvm.MethodName)) ∈ GG := GG_in (i := 686) (by decide +kernel) (by decide +kernel)
theorem gw_688 : (Jvm.Cond.instanceMethod ({ cls := "QuorumChain", name := "takeAsCertified", desc := "(LQuorumChain$Node;I)V" } : Jvm.MethodName)) ∈ GG := GG_in (i := 688) (by decide +kernel) (by decide +kernel)
theorem gw_689 : (Jvm.Cond.code ({ cls := "QuorumChain", name := "takeAsCertified", desc := "(LQuorumChain$Node;I)V" } : Jvm.MethodName) prog_1_method_27_code (5 : Nat) (Option.none : Option Jvm.ClassFile.FieldType)) ∈ GG := GG_in (i := 689) (by decide +kernel) (by decide +kernel)
theorem gw_690 : (Jvm.Cond.methodLink "QuorumChain" (323 : Nat) ({ cls := "QuorumChain", name := "raiseHigh", desc := "(LQuorumChain$Node;I)V" } : Jvm.MethodName)) ∈ GG := GG_in (i := 690) (by decide +kernel) (by decide +kernel)
theorem gw_692 : (Jvm.Cond.instanceMethod ({ cls := "QuorumChain", name := "raiseHigh", desc := "(LQuorumChain$Node;I)V" } : Jvm.MethodName)) ∈ GG := GG_in (i := 692) (by decide +kernel) (by decide +kernel)
theorem gw_693 : (Jvm.Cond.code ({ cls := "QuorumChain", name := "raiseHigh", desc := "(LQuorumChain$Node;I)V" } : Jvm.MethodName) prog_1_method_28_code (3 : Nat) (Option.none : Option Jvm.ClassFile.FieldType)) ∈ GG := GG_in (i := 693) (by decide +kernel) (by decide +kernel)
theorem gw_694 : (Jvm.Cond.methodLink "QuorumChain" (302 : Nat) ({ cls := "QuorumChain$Blocks", name := "isAbove", desc := "(II)Z" } : Jvm.MethodName)) ∈ GG := GG_in (i := 694) (by decide +kernel) (by decide +kernel)
theorem gw_695 : (Jvm.Cond.instanceMethod ({ cls := "QuorumChain$Blocks", name := "isAbove", desc := "(II)Z" } : Jvm.MethodName)) ∈ GG := GG_in (i := 695) (by decide +kernel) (by decide +kernel)
theorem gw_696 : (Jvm.Cond.selects "QuorumChain$Blocks" ({ cls := "QuorumChain$Blocks", name := "isAbove", desc := "(II)Z" } : Jvm.MethodName) ({ cls := "QuorumChain$Blocks", name := "isAbove", desc := "(II)Z" } : Jvm.MethodName)) ∈ GG := GG_in (i := 696) (by decide +kernel) (by decide +kernel)
theorem gw_697 : (Jvm.Cond.code ({ cls := "QuorumChain$Blocks", name := "isAbove", desc := "(II)Z" } : Jvm.MethodName) prog_3_method_9_code (3 : Nat) (Option.some Jvm.ClassFile.FieldType.boolean)) ∈ GG := GG_in (i := 697) (by decide +kernel) (by decide +kernel)
theorem gw_698 : (Jvm.Cond.methodLink "QuorumChain$Blocks" (33 : Nat) ({ cls := "QuorumChain$Blocks", name := "viewOf", desc := "(I)I" } : Jvm.MethodName)) ∈ GG := GG_in (i := 698) (by decide +kernel) (by decide +kernel)
theorem gw_699 : (Jvm.Cond.methodLink "QuorumChain" (326 : Nat) ({ cls := "QuorumChain$Blocks", name := "isNextView", desc := "(II)Z" } : Jvm.MethodName)) ∈ GG := GG_in (i := 699) (by decide +kernel) (by decide +kernel)
theorem gw_700 : (Jvm.Cond.instanceMethod ({ cls := "QuorumChain$Blocks", name := "isNextView", desc := "(II)Z" } : Jvm.MethodName)) ∈ GG := GG_in (i := 700) (by decide +kernel) (by decide +kernel)
theorem gw_701 : (Jvm.Cond.selects "QuorumChain$Blocks" ({ cls := "QuorumChain$Blocks", name := "isNextView", desc := "(II)Z" } : Jvm.MethodName) ({ cls := "QuorumChain$Blocks", name := "isNextView", desc := "(II)Z" } : Jvm.MethodName)) ∈ GG := GG_in (i := 701) (by decide +kernel) (by decide +kernel)
theorem gw_702 : (Jvm.Cond.code ({ cls := "QuorumChain$Blocks", name := "isNextView", desc := "(II)Z" } : Jvm.MethodName) prog_3_method_10_code (3 : Nat) (Option.some Jvm.ClassFile.FieldType.boolean)) ∈ GG := GG_in (i := 702) (by decide +kernel) (by decide +kernel)
theorem gw_703 : (Jvm.Cond.methodLink "QuorumChain" (329 : Nat) ({ cls := "QuorumChain", name := "commitUpTo", desc := "(LQuorumChain$Store;I)V" } : Jvm.MethodName)) ∈ GG := GG_in (i := 703) (by decide +kernel) (by decide +kernel)
theorem gw_705 : (Jvm.Cond.instanceMethod ({ cls := "QuorumChain", name := "commitUpTo", desc := "(LQuorumChain$Store;I)V" } : Jvm.MethodName)) ∈ GG := GG_in (i := 705) (by decide +kernel) (by decide +kernel)
theorem gw_706 : (Jvm.Cond.code ({ cls := "QuorumChain", name := "commitUpTo", desc := "(LQuorumChain$Store;I)V" } : Jvm.MethodName) prog_1_method_38_code (7 : Nat) (Option.none : Option Jvm.ClassFile.FieldType)) ∈ GG := GG_in (i := 706) (by decide +kernel) (by decide +kernel)
theorem gw_707 : (Jvm.Cond.methodLink "QuorumChain" (379 : Nat) ({ cls := "QuorumChain$Store", name := "lastLogged", desc := "()I" } : Jvm.MethodName)) ∈ GG := GG_in (i := 707) (by decide +kernel) (by decide +kernel)
theorem gw_708 : (Jvm.Cond.instanceMethod ({ cls := "QuorumChain$Store", name := "lastLogged", desc := "()I" } : Jvm.MethodName)) ∈ GG := GG_in (i := 708) (by decide +kernel) (by decide +kernel)
theorem gw_709 : (Jvm.Cond.selects "QuorumChain$Store" ({ cls := "QuorumChain$Store", name := "lastLogged", desc := "()I" } : Jvm.MethodName) ({ cls := "QuorumChain$Store", name := "lastLogged", desc := "()I" } : Jvm.MethodName)) ∈ GG := GG_in (i := 709) (by decide +kernel) (by decide +kernel)
theorem gw_710 : (Jvm.Cond.code ({ cls := "QuorumChain$Store", name := "lastLogged", desc := "()I" } : Jvm.MethodName) prog_9_method_5_code (1 : Nat) (Option.some Jvm.ClassFile.FieldType.int)) ∈ GG := GG_in (i := 710) (by decide +kernel) (by decide +kernel)
theorem gw_711 : (Jvm.Cond.methodLink "QuorumChain$Store" (42 : Nat) ({ cls := "QuorumChain$Store", name := "logged", desc := "(I)I" } : Jvm.MethodName)) ∈ GG := GG_in (i := 711) (by decide +kernel) (by decide +kernel)
theorem gw_712 : (Jvm.Cond.methodLink "QuorumChain" (383 : Nat) ({ cls := "QuorumChain$Blocks", name := "stepsDown", desc := "(II)I" } : Jvm.MethodName)) ∈ GG := GG_in (i := 712) (by decide +kernel) (by decide +kernel)
theorem gw_713 : (Jvm.Cond.instanceMethod ({ cls := "QuorumChain$Blocks", name := "stepsDown", desc := "(II)I" } : Jvm.MethodName)) ∈ GG := GG_in (i := 713) (by decide +kernel) (by decide +kernel)
theorem gw_714 : (Jvm.Cond.selects "QuorumChain$Blocks" ({ cls := "QuorumChain$Blocks", name := "stepsDown", desc := "(II)I" } : Jvm.MethodName) ({ cls := "QuorumChain$Blocks", name := "stepsDown", desc := "(II)I" } : Jvm.MethodName)) ∈ GG := GG_in (i := 714) (by decide +kernel) (by decide +kernel)
theorem gw_715 : (Jvm.Cond.code ({ cls := "QuorumChain$Blocks", name := "stepsDown", desc := "(II)I" } : Jvm.MethodName) prog_3_method_12_code (5 : Nat) (Option.some Jvm.ClassFile.FieldType.int)) ∈ GG := GG_in (i := 715) (by decide +kernel) (by decide +kernel)
theorem gw_716 : (Jvm.Cond.methodLink "QuorumChain" (389 : Nat) ({ cls := "QuorumChain$Transactions", name := "carryOut", desc := "(ILQuorumChain$Accounts;)V" } : Jvm.MethodName)) ∈ GG := GG_in (i := 716) (by decide +kernel) (by decide +kernel)
theorem gw_717 : (Jvm.Cond.instanceMethod ({ cls := "QuorumChain$Transactions", name := "carryOut", desc := "(ILQuorumChain$Accounts;)V" } : Jvm.MethodName)) ∈ GG := GG_in (i := 717) (by decide +kernel) (by decide +kernel)
theorem gw_718 : (Jvm.Cond.selects "QuorumChain$Transactions" ({ cls := "QuorumChain$Transactions", name := "carryOut", desc := "(ILQuorumChain$Accounts;)V" } : Jvm.MethodName) ({ cls := "QuorumChain$Transactions", name := "carryOut", desc := "(ILQuorumChain$Accounts;)V" } : Jvm.MethodName)) ∈ GG := GG_in (i := 718) (by decide +kernel) (by decide +kernel)
theorem gw_719 : (Jvm.Cond.code ({ cls := "QuorumChain$Transactions", name := "carryOut", desc := "(ILQuorumChain$Accounts;)V" } : Jvm.MethodName) prog_11_method_4_code (3 : Nat) (Option.none : Option Jvm.ClassFile.FieldType)) ∈ GG := GG_in (i := 719) (by decide +kernel) (by decide +kernel)
theorem gw_720 : (Jvm.Cond.methodLink "QuorumChain$Transactions" (28 : Nat) ({ cls := "QuorumChain$Transactions", name := "exists", desc := "(I)Z" } : Jvm.MethodName)) ∈ GG := GG_in (i := 720) (by decide +kernel) (by decide +kernel)
theorem gw_721 : (Jvm.Cond.methodLink "QuorumChain$Transactions" (32 : Nat) ({ cls := "QuorumChain$Accounts", name := "move", desc := "(IIII)V" } : Jvm.MethodName)) ∈ GG := GG_in (i := 721) (by decide +kernel) (by decide +kernel)
theorem gw_722 : (Jvm.Cond.instanceMethod ({ cls := "QuorumChain$Accounts", name := "move", desc := "(IIII)V" } : Jvm.MethodName)) ∈ GG := GG_in (i := 722) (by decide +kernel) (by decide +kernel)
theorem gw_723 : (Jvm.Cond.selects "QuorumChain$Accounts" ({ cls := "QuorumChain$Accounts", name := "move", desc := "(IIII)V" } : Jvm.MethodName) ({ cls := "QuorumChain$Accounts", name := "move", desc := "(IIII)V" } : Jvm.MethodName)) ∈ GG := GG_in (i := 723) (by decide +kernel) (by decide +kernel)
theorem gw_724 : (Jvm.Cond.code ({ cls := "QuorumChain$Accounts", name := "move", desc := "(IIII)V" } : Jvm.MethodName) prog_2_method_2_code (5 : Nat) (Option.none : Option Jvm.ClassFile.FieldType)) ∈ GG := GG_in (i := 724) (by decide +kernel) (by decide +kernel)
theorem gw_726 : (Jvm.Cond.methodLink "QuorumChain" (316 : Nat) ({ cls := "QuorumChain", name := "mayVoteFor", desc := "(LQuorumChain$Node;II)Z" } : Jvm.MethodName)) ∈ GG := GG_in (i := 726) (by decide +kernel) (by decide +kernel)
theorem gw_728 : (Jvm.Cond.instanceMethod ({ cls := "QuorumChain", name := "mayVoteFor", desc := "(LQuorumChain$Node;II)Z" } : Jvm.MethodName)) ∈ GG := GG_in (i := 728) (by decide +kernel) (by decide +kernel)
theorem gw_729 : (Jvm.Cond.code ({ cls := "QuorumChain", name := "mayVoteFor", desc := "(LQuorumChain$Node;II)Z" } : Jvm.MethodName) prog_1_method_29_code (6 : Nat) (Option.some Jvm.ClassFile.FieldType.boolean)) ∈ GG := GG_in (i := 729) (by decide +kernel) (by decide +kernel)
theorem gw_730 : (Jvm.Cond.methodLink "QuorumChain" (333 : Nat) ({ cls := "QuorumChain$Blocks", name := "isBelow", desc := "(II)Z" } : Jvm.MethodName)) ∈ GG := GG_in (i := 730) (by decide +kernel) (by decide +kernel)
theorem gw_731 : (Jvm.Cond.instanceMethod ({ cls := "QuorumChain$Blocks", name := "isBelow", desc := "(II)Z" } : Jvm.MethodName)) ∈ GG := GG_in (i := 731) (by decide +kernel) (by decide +kernel)
theorem gw_732 : (Jvm.Cond.selects "QuorumChain$Blocks" ({ cls := "QuorumChain$Blocks", name := "isBelow", desc := "(II)Z" } : Jvm.MethodName) ({ cls := "QuorumChain$Blocks", name := "isBelow", desc := "(II)Z" } : Jvm.MethodName)) ∈ GG := GG_in (i := 732) (by decide +kernel) (by decide +kernel)
theorem gw_733 : (Jvm.Cond.code ({ cls := "QuorumChain$Blocks", name := "isBelow", desc := "(II)Z" } : Jvm.MethodName) prog_3_method_11_code (3 : Nat) (Option.some Jvm.ClassFile.FieldType.boolean)) ∈ GG := GG_in (i := 733) (by decide +kernel) (by decide +kernel)
theorem gw_734 : (Jvm.Cond.methodLink "QuorumChain$Blocks" (37 : Nat) ({ cls := "QuorumChain$Blocks", name := "stepsDown", desc := "(II)I" } : Jvm.MethodName)) ∈ GG := GG_in (i := 734) (by decide +kernel) (by decide +kernel)
theorem gw_735 : (Jvm.Cond.methodLink "QuorumChain" (320 : Nat) ({ cls := "QuorumChain", name := "voteFor", desc := "(LQuorumChain$Node;II)V" } : Jvm.MethodName)) ∈ GG := GG_in (i := 735) (by decide +kernel) (by decide +kernel)
theorem gw_737 : (Jvm.Cond.instanceMethod ({ cls := "QuorumChain", name := "voteFor", desc := "(LQuorumChain$Node;II)V" } : Jvm.MethodName)) ∈ GG := GG_in (i := 737) (by decide +kernel) (by decide +kernel)
theorem gw_738 : (Jvm.Cond.code ({ cls := "QuorumChain", name := "voteFor", desc := "(LQuorumChain$Node;II)V" } : Jvm.MethodName) prog_1_method_30_code (6 : Nat) (Option.none : Option Jvm.ClassFile.FieldType)) ∈ GG := GG_in (i := 738) (by decide +kernel) (by decide +kernel)
theorem gw_739 : (Jvm.Cond.methodLink "QuorumChain" (336 : Nat) ({ cls := "QuorumChain$Node", name := "enter", desc := "(I)V" } : Jvm.MethodName)) ∈ GG := GG_in (i := 739) (by decide +kernel) (by decide +kernel)
theorem gw_740 : (Jvm.Cond.instanceMethod ({ cls := "QuorumChain$Node", name := "enter", desc := "(I)V" } : Jvm.MethodName)) ∈ GG := GG_in (i := 740) (by decide +kernel) (by decide +kernel)
theorem gw_741 : (Jvm.Cond.selects "QuorumChain$Node" ({ cls := "QuorumChain$Node", name := "enter", desc := "(I)V" } : Jvm.MethodName) ({ cls := "QuorumChain$Node", name := "enter", desc := "(I)V" } : Jvm.MethodName)) ∈ GG := GG_in (i := 741) (by decide +kernel) (by decide +kernel)
theorem gw_742 : (Jvm.Cond.code ({ cls := "QuorumChain$Node", name := "enter", desc := "(I)V" } : Jvm.MethodName) prog_8_method_3_code (2 : Nat) (Option.none : Option Jvm.ClassFile.FieldType)) ∈ GG := GG_in (i := 742) (by decide +kernel) (by decide +kernel)
theorem gw_745 : (Jvm.Cond.instanceMethod ({ cls := "QuorumChain", name := "receiveVote", desc := "(LQuorumChain$Node;II)V" } : Jvm.MethodName)) ∈ GG := GG_in (i := 745) (by decide +kernel) (by decide +kernel)
theorem gw_746 : (Jvm.Cond.code ({ cls := "QuorumChain", name := "receiveVote", desc := "(LQuorumChain$Node;II)V" } : Jvm.MethodName) prog_1_method_31_code (5 : Nat) (Option.none : Option Jvm.ClassFile.FieldType)) ∈ GG := GG_in (i := 746) (by decide +kernel) (by decide +kernel)
theorem gw_747 : (Jvm.Cond.methodLink "QuorumChain" (346 : Nat) ({ cls := "QuorumChain$Tally", name := "keep", desc := "(II)I" } : Jvm.MethodName)) ∈ GG := GG_in (i := 747) (by decide +kernel) (by decide +kernel)
theorem gw_748 : (Jvm.Cond.instanceMethod ({ cls := "QuorumChain$Tally", name := "keep", desc := "(II)I" } : Jvm.MethodName)) ∈ GG := GG_in (i := 748) (by decide +kernel) (by decide +kernel)
theorem gw_749 : (Jvm.Cond.selects "QuorumChain$Tally" ({ cls := "QuorumChain$Tally", name := "keep", desc := "(II)I" } : Jvm.MethodName) ({ cls := "QuorumChain$Tally", name := "keep", desc := "(II)I" } : Jvm.MethodName)) ∈ GG := GG_in (i := 749) (by decide +kernel) (by decide +kernel)
theorem gw_750 : (Jvm.Cond.code ({ cls := "QuorumChain$Tally", name := "keep", desc := "(II)I" } : Jvm.MethodName) prog_10_method_2_code (4 : Nat) (Option.some Jvm.ClassFile.FieldType.int)) ∈ GG := GG_in (i := 750) (by decide +kernel) (by decide +kernel)
theorem gw_751 : (Jvm.Cond.methodLink "QuorumChain$Tally" (13 : Nat) ({ cls := "java/lang/Integer", name := "bitCount", desc := "(I)I" } : Jvm.MethodName)) ∈ GG := GG_in (i := 751) (by decide +kernel) (by decide +kernel)
theorem gw_752 : (Jvm.Cond.static ({ cls := "java/lang/Integer", name := "bitCount", desc := "(I)I" } : Jvm.MethodName)) ∈ GG := GG_in (i := 752) (by decide +kernel) (by decide +kernel)
theorem gw_753 : (Jvm.Cond.code ({ cls := "java/lang/Integer", name := "bitCount", desc := "(I)I" } : Jvm.MethodName) prog_17_method_49_code (1 : Nat) (Option.some Jvm.ClassFile.FieldType.int)) ∈ GG := GG_in (i := 753) (by decide +kernel) (by decide +kernel)
theorem gw_754 : (Jvm.Cond.constant "java/lang/Integer" (265 : Nat) (1431655765 : Int32)) ∈ GG := GG_in (i := 754) (by decide +kernel) (by decide +kernel)
theorem gw_755 : (Jvm.Cond.constant "java/lang/Integer" (266 : Nat) (858993459 : Int32)) ∈ GG := GG_in (i := 755) (by decide +kernel) (by decide +kernel)
theorem gw_756 : (Jvm.Cond.constant "java/lang/Integer" (267 : Nat) (252645135 : Int32)) ∈ GG := GG_in (i := 756) (by decide +kernel) (by decide +kernel)
theorem gw_757 : (Jvm.Cond.methodLink "QuorumChain" (352 : Nat) ({ cls := "QuorumChain$Blocks", name := "certify", desc := "(I)V" } : Jvm.MethodName)) ∈ GG := GG_in (i := 757) (by decide +kernel) (by decide +kernel)
theorem gw_758 : (Jvm.Cond.instanceMethod ({ cls := "QuorumChain$Blocks", name := "certify", desc := "(I)V" } : Jvm.MethodName)) ∈ GG := GG_in (i := 758) (by decide +kernel) (by decide +kernel)
theorem gw_759 : (Jvm.Cond.selects "QuorumChain$Blocks" ({ cls := "QuorumChain$Blocks", name := "certify", desc := "(I)V" } : Jvm.MethodName) ({ cls := "QuorumChain$Blocks", name := "certify", desc := "(I)V" } : Jvm.MethodName)) ∈ GG := GG_in (i := 759) (by decide +kernel) (by decide +kernel)
theorem gw_760 : (Jvm.Cond.code ({ cls := "QuorumChain$Blocks", name := "certify", desc := "(I)V" } : Jvm.MethodName) prog_3_method_8_code (2 : Nat) (Option.none : Option Jvm.ClassFile.FieldType)) ∈ GG := GG_in (i := 760) (by decide +kernel) (by decide +kernel)
theorem gw_763 : (Jvm.Cond.instanceMethod ({ cls := "QuorumChain", name := "receiveTimeout", desc := "(LQuorumChain$Node;III)V" } : Jvm.MethodName)) ∈ GG := GG_in (i := 763) (by decide +kernel) (by decide +kernel)
theorem gw_764 : (Jvm.Cond.code ({ cls := "QuorumChain", name := "receiveTimeout", desc := "(LQuorumChain$Node;III)V" } : Jvm.MethodName) prog_1_method_32_code (5 : Nat) (Option.none : Option Jvm.ClassFile.FieldType)) ∈ GG := GG_in (i := 764) (by decide +kernel) (by decide +kernel)
theorem gw_767 : (Jvm.Cond.instanceMethod ({ cls := "QuorumChain", name := "receiveAsk", desc := "(LQuorumChain$Node;II)V" } : Jvm.MethodName)) ∈ GG := GG_in (i := 767) (by decide +kernel) (by decide +kernel)
theorem gw_768 : (Jvm.Cond.code ({ cls := "QuorumChain", name := "receiveAsk", desc := "(LQuorumChain$Node;II)V" } : Jvm.MethodName) prog_1_method_33_code (4 : Nat) (Option.none : Option Jvm.ClassFile.FieldType)) ∈ GG := GG_in (i := 768) (by decide +kernel) (by decide +kernel)
theorem gw_771 : (Jvm.Cond.instanceMethod ({ cls := "QuorumChain", name := "receiveBlock", desc := "(LQuorumChain$Node;II)V" } : Jvm.MethodName)) ∈ GG := GG_in (i := 771) (by decide +kernel) (by decide +kernel)
theorem gw_772 : (Jvm.Cond.code ({ cls := "QuorumChain", name := "receiveBlock", desc := "(LQuorumChain$Node;II)V" } : Jvm.MethodName) prog_1_method_34_code (5 : Nat) (Option.none : Option Jvm.ClassFile.FieldType)) ∈ GG := GG_in (i := 772) (by decide +kernel) (by decide +kernel)
theorem gw_821 : (Jvm.Cond.instanceMethod ({ cls := "QuorumChain$Node", name := "fall", desc := "()V" } : Jvm.MethodName)) ∈ GG := GG_in (i := 821) (by decide +kernel) (by decide +kernel)
theorem gw_822 : (Jvm.Cond.selects "QuorumChain$Node" ({ cls := "QuorumChain$Node", name := "fall", desc := "()V" } : Jvm.MethodName) ({ cls := "QuorumChain$Node", name := "fall", desc := "()V" } : Jvm.MethodName)) ∈ GG := GG_in (i := 822) (by decide +kernel) (by decide +kernel)
theorem gw_823 : (Jvm.Cond.code ({ cls := "QuorumChain$Node", name := "fall", desc := "()V" } : Jvm.MethodName) prog_8_method_4_code (1 : Nat) (Option.none : Option Jvm.ClassFile.FieldType)) ∈ GG := GG_in (i := 823) (by decide +kernel) (by decide +kernel)
theorem gw_824 : (Jvm.Cond.methodLink "QuorumChain$Node" (66 : Nat) ({ cls := "QuorumChain$Tally", name := "empty", desc := "()V" } : Jvm.MethodName)) ∈ GG := GG_in (i := 824) (by decide +kernel) (by decide +kernel)
theorem gw_825 : (Jvm.Cond.instanceMethod ({ cls := "QuorumChain$Tally", name := "empty", desc := "()V" } : Jvm.MethodName)) ∈ GG := GG_in (i := 825) (by decide +kernel) (by decide +kernel)
theorem gw_826 : (Jvm.Cond.selects "QuorumChain$Tally" ({ cls := "QuorumChain$Tally", name := "empty", desc := "()V" } : Jvm.MethodName) ({ cls := "QuorumChain$Tally", name := "empty", desc := "()V" } : Jvm.MethodName)) ∈ GG := GG_in (i := 826) (by decide +kernel) (by decide +kernel)
theorem gw_827 : (Jvm.Cond.code ({ cls := "QuorumChain$Tally", name := "empty", desc := "()V" } : Jvm.MethodName) prog_10_method_3_code (2 : Nat) (Option.none : Option Jvm.ClassFile.FieldType)) ∈ GG := GG_in (i := 827) (by decide +kernel) (by decide +kernel)
theorem gw_838 : (Jvm.Cond.instanceMethod ({ cls := "QuorumChain", name := "highestParent", desc := "(LQuorumChain$Store;)I" } : Jvm.MethodName)) ∈ GG := GG_in (i := 838) (by decide +kernel) (by decide +kernel)
theorem gw_839 : (Jvm.Cond.code ({ cls := "QuorumChain", name := "highestParent", desc := "(LQuorumChain$Store;)I" } : Jvm.MethodName) prog_1_method_24_code (7 : Nat) (Option.some Jvm.ClassFile.FieldType.int)) ∈ GG := GG_in (i := 839) (by decide +kernel) (by decide +kernel)
theorem gw_841 : (Jvm.Cond.instanceMethod ({ cls := "QuorumChain$Node", name := "rise", desc := "(I)V" } : Jvm.MethodName)) ∈ GG := GG_in (i := 841) (by decide +kernel) (by decide +kernel)
theorem gw_842 : (Jvm.Cond.selects "QuorumChain$Node" ({ cls := "QuorumChain$Node", name := "rise", desc := "(I)V" } : Jvm.MethodName) ({ cls := "QuorumChain$Node", name := "rise", desc := "(I)V" } : Jvm.MethodName)) ∈ GG := GG_in (i := 842) (by decide +kernel) (by decide +kernel)
theorem gw_843 : (Jvm.Cond.code ({ cls := "QuorumChain$Node", name := "rise", desc := "(I)V" } : Jvm.MethodName) prog_8_method_5_code (2 : Nat) (Option.none : Option Jvm.ClassFile.FieldType)) ∈ GG := GG_in (i := 843) (by decide +kernel) (by decide +kernel)
theorem gw_844 : (Jvm.Cond.methodLink "QuorumChain$Node" (75 : Nat) ({ cls := "java/lang/Math", name := "max", desc := "(II)I" } : Jvm.MethodName)) ∈ GG := GG_in (i := 844) (by decide +kernel) (by decide +kernel)
theorem gw_845 : (Jvm.Cond.methodLink "QuorumChain$Node" (81 : Nat) ({ cls := "QuorumChain$Node", name := "enter", desc := "(I)V" } : Jvm.MethodName)) ∈ GG := GG_in (i := 845) (by decide +kernel) (by decide +kernel)
theorem in_QC : ∀ w ∈ u_ws R_QC F_QC 7, w ∈ GG := List.forall_mem_cons.mpr ⟨gw_351, List.forall_mem_cons.mpr ⟨gw_353, List.forall_mem_cons.mpr ⟨gw_355, List.forall_mem_cons.mpr ⟨gw_357, List.forall_mem_cons.mpr ⟨gw_359, List.forall_mem_cons.mpr ⟨gw_361, List.forall_mem_cons.mpr ⟨gw_363, fun _ h => absurd h List.not_mem_nil⟩⟩⟩⟩⟩⟩⟩
theorem in_Node : ∀ w ∈ u_ws R_Node F_Node 12, w ∈ GG := List.forall_mem_cons.mpr ⟨gw_319, List.forall_mem_cons.mpr ⟨gw_321, List.forall_mem_cons.mpr ⟨gw_323, List.forall_mem_cons.mpr ⟨gw_325, List.forall_mem_cons.mpr ⟨gw_327, List.forall_mem_cons.mpr ⟨gw_329, List.forall_mem_cons.mpr ⟨gw_331, List.forall_mem_cons.mpr ⟨gw_333, List.forall_mem_cons.mpr ⟨gw_335, List.forall_mem_cons.mpr ⟨gw_337, List.forall_mem_cons.mpr ⟨gw_339, List.forall_mem_cons.mpr ⟨gw_341, fun _ h => absurd h List.not_mem_nil⟩⟩⟩⟩⟩⟩⟩⟩⟩⟩⟩⟩
theorem in_Store : ∀ w ∈ u_ws R_Store F_Store 8, w ∈ GG := List.forall_mem_cons.mpr ⟨gw_278, List.forall_mem_cons.mpr ⟨gw_280, List.forall_mem_cons.mpr ⟨gw_282, List.forall_mem_cons.mpr ⟨gw_284, List.forall_mem_cons.mpr ⟨gw_286, List.forall_mem_cons.mpr ⟨gw_288, List.forall_mem_cons.mpr ⟨gw_290, List.forall_mem_cons.mpr ⟨gw_292, fun _ h => absurd h List.not_mem_nil⟩⟩⟩⟩⟩⟩⟩⟩
theorem in_Accounts : ∀ w ∈ u_ws R_Accounts F_Accounts 2, w ∈ GG := List.forall_mem_cons.mpr ⟨gw_214, List.forall_mem_cons.mpr ⟨gw_216, fun _ h => absurd h List.not_mem_nil⟩⟩
theorem in_KeyTree : ∀ w ∈ u_ws R_KeyTree F_KeyTree 4, w ∈ GG := List.forall_mem_cons.mpr ⟨gw_255, List.forall_mem_cons.mpr ⟨gw_257, List.forall_mem_cons.mpr ⟨gw_259, List.forall_mem_cons.mpr ⟨gw_261, fun _ h => absurd h List.not_mem_nil⟩⟩⟩⟩
theorem in_Inbox : ∀ w ∈ u_ws R_Inbox F_Inbox 2, w ∈ GG := List.forall_mem_cons.mpr ⟨gw_183, List.forall_mem_cons.mpr ⟨gw_185, fun _ h => absurd h List.not_mem_nil⟩⟩
theorem in_Message : ∀ w ∈ u_ws R_Message F_Message 6, w ∈ GG := List.forall_mem_cons.mpr ⟨gw_150, List.forall_mem_cons.mpr ⟨gw_152, List.forall_mem_cons.mpr ⟨gw_154, List.forall_mem_cons.mpr ⟨gw_156, List.forall_mem_cons.mpr ⟨gw_158, List.forall_mem_cons.mpr ⟨gw_160, fun _ h => absurd h List.not_mem_nil⟩⟩⟩⟩⟩⟩
theorem in_Tally : ∀ w ∈ u_ws R_Tally F_Tally 1, w ∈ GG := List.forall_mem_cons.mpr ⟨gw_195, fun _ h => absurd h List.not_mem_nil⟩
theorem in_Blocks : ∀ w ∈ u_ws R_Blocks F_Blocks 5, w ∈ GG := List.forall_mem_cons.mpr ⟨gw_94, List.forall_mem_cons.mpr ⟨gw_96, List.forall_mem_cons.mpr ⟨gw_98, List.forall_mem_cons.mpr ⟨gw_100, List.forall_mem_cons.mpr ⟨gw_102, fun _ h => absurd h List.not_mem_nil⟩⟩⟩⟩⟩
theorem in_Transactions : ∀ w ∈ u_ws R_Transactions F_Transactions 5, w ∈ GG := List.forall_mem_cons.mpr ⟨gw_119, List.forall_mem_cons.mpr ⟨gw_121, List.forall_mem_cons.mpr ⟨gw_123, List.forall_mem_cons.mpr ⟨gw_125, List.forall_mem_cons.mpr ⟨gw_127, fun _ h => absurd h List.not_mem_nil⟩⟩⟩⟩⟩
theorem cd_Message_write : cdV GG y_Message_write b_Message_write 5 none 4 := ⟨gw_384, gw_382, gw_383, gw_55, by decide +kernel, GG_good⟩
theorem cd_KeyTree_isLeft : cdV GG y_KeyTree_isLeft b_KeyTree_isLeft 1 (some .boolean) 0 := ⟨gw_392, gw_390, gw_391, gw_61, by decide +kernel, GG_good⟩
theorem cd_Fold_absorb : cdS GG y_Fold_absorb b_Fold_absorb 6 (some .long) 2 := ⟨gw_234, gw_233, gw_62, by decide +kernel, GG_good⟩
theorem cd_Fold_finish : cdS GG y_Fold_finish b_Fold_finish 4 (some .long) 1 := ⟨gw_238, gw_237, gw_62, by decide +kernel, GG_good⟩
theorem cd_Message_meaning : cdV GG y_Message_meaning b_Message_meaning 3 (some .long) 0 := ⟨gw_396, gw_394, gw_395, gw_55, by decide +kernel, GG_good⟩
theorem cd_KeyTree_digit : cdS GG y_KeyTree_digit b_KeyTree_digit 2 (some .int) 2 := ⟨gw_406, gw_405, gw_61, by decide +kernel, GG_good⟩
theorem cd_KeyTree_digitsOf : cdS GG y_KeyTree_digitsOf b_KeyTree_digitsOf 5 (some .int) 1 := ⟨gw_402, gw_401, gw_61, by decide +kernel, GG_good⟩
theorem cd_KeyTree_secretOf : cdS GG y_KeyTree_secretOf b_KeyTree_secretOf 6 (some .long) 4 := ⟨gw_231, gw_230, gw_61, by decide +kernel, GG_good⟩
theorem cd_Fold_afterSteps : cdS GG y_Fold_afterSteps b_Fold_afterSteps 6 (some .long) 2 := ⟨gw_242, gw_241, gw_62, by decide +kernel, GG_good⟩
theorem cd_KeyTree_sign : cdV GG y_KeyTree_sign b_KeyTree_sign 5 (some .boolean) 1 := ⟨gw_388, gw_386, gw_387, gw_61, by decide +kernel, GG_good⟩
theorem cd_QC_writeSigned : cdV GG y_QC_writeSigned b_QC_writeSigned 5 (some .boolean) 4 := ⟨gw_380, gw_379, gw_1, gw_52, by decide +kernel, GG_good⟩
theorem cd_Message_copyFrom : cdV GG y_Message_copyFrom b_Message_copyFrom 2 none 1 := ⟨gw_418, gw_416, gw_417, gw_55, by decide +kernel, GG_good⟩
theorem cd_Inbox_add : cdV GG y_Inbox_add b_Inbox_add 2 none 1 := ⟨gw_414, gw_412, gw_413, gw_57, by decide +kernel, GG_good⟩
theorem cd_QC_sendDraftToAll : cdV GG y_QC_sendDraftToAll b_QC_sendDraftToAll 2 none 0 := ⟨gw_410, gw_409, gw_2, gw_52, by decide +kernel, GG_good⟩
theorem cd_QC_countDown : cdV GG y_QC_countDown b_QC_countDown 2 none 1 := ⟨gw_373, gw_372, gw_0, gw_52, by decide +kernel, GG_good⟩
theorem cd_QC_tick : cdV GG y_QC_tick b_QC_tick 2 (some .int) 0 := ⟨gw_369, gw_367, gw_368, gw_52, by decide +kernel, GG_good⟩
theorem cd_QC_isNode : cdS GG y_QC_isNode b_QC_isNode 1 (some .boolean) 1 := ⟨gw_432, gw_431, gw_52, by decide +kernel, GG_good⟩
theorem cd_QC_node : cdV GG y_QC_node b_QC_node 4 (some .int) 2 := ⟨gw_429, gw_427, gw_428, gw_52, by decide +kernel, GG_good⟩
theorem cd_Store_logged : cdV GG y_Store_logged b_Store_logged 2 (some .int) 1 := ⟨gw_440, gw_438, gw_439, gw_59, by decide +kernel, GG_good⟩
theorem cd_QC_log : cdV GG y_QC_log b_QC_log 3 (some .int) 2 := ⟨gw_436, gw_434, gw_435, gw_52, by decide +kernel, GG_good⟩
theorem cd_QC_isAccount : cdS GG y_QC_isAccount b_QC_isAccount 1 (some .boolean) 1 := ⟨gw_447, gw_446, gw_52, by decide +kernel, GG_good⟩
theorem cd_QC_account : cdV GG y_QC_account b_QC_account 5 (some .int) 3 := ⟨gw_444, gw_442, gw_443, gw_52, by decide +kernel, GG_good⟩
theorem cd_Blocks_exists : cdV GG y_Blocks_exists b_Blocks_exists 2 (some .boolean) 1 := ⟨gw_455, gw_453, gw_454, gw_53, by decide +kernel, GG_good⟩
theorem cd_Blocks_viewOf : cdV GG y_Blocks_viewOf b_Blocks_viewOf 2 (some .int) 1 := ⟨gw_459, gw_457, gw_458, gw_53, by decide +kernel, GG_good⟩
theorem cd_Blocks_parentOf : cdV GG y_Blocks_parentOf b_Blocks_parentOf 2 (some .int) 1 := ⟨gw_464, gw_462, gw_463, gw_53, by decide +kernel, GG_good⟩
theorem cd_Blocks_transactionOf : cdV GG y_Blocks_transactionOf b_Blocks_transactionOf 2 (some .int) 1 := ⟨gw_468, gw_466, gw_467, gw_53, by decide +kernel, GG_good⟩
theorem cd_Blocks_isCertified : cdV GG y_Blocks_isCertified b_Blocks_isCertified 2 (some .boolean) 1 := ⟨gw_472, gw_470, gw_471, gw_53, by decide +kernel, GG_good⟩
theorem cd_Store_hasBlock : cdV GG y_Store_hasBlock b_Store_hasBlock 2 (some .boolean) 1 := ⟨gw_480, gw_478, gw_479, gw_59, by decide +kernel, GG_good⟩
theorem cd_QC_nodesThatHave : cdV GG y_QC_nodesThatHave b_QC_nodesThatHave 4 (some .int) 1 := ⟨gw_476, gw_475, gw_3, gw_52, by decide +kernel, GG_good⟩
theorem cd_QC_block : cdV GG y_QC_block b_QC_block 3 (some .int) 2 := ⟨gw_451, gw_449, gw_450, gw_52, by decide +kernel, GG_good⟩
theorem cd_QC_message : cdV GG y_QC_message b_QC_message 5 (some .int) 3 := ⟨gw_484, gw_482, gw_483, gw_52, by decide +kernel, GG_good⟩
theorem cd_KeyTree_top : cdV GG y_KeyTree_top b_KeyTree_top 1 (some .long) 0 := ⟨gw_492, gw_490, gw_491, gw_61, by decide +kernel, GG_good⟩
theorem cd_QC_root : cdV GG y_QC_root b_QC_root 2 (some .long) 1 := ⟨gw_488, gw_486, gw_487, gw_52, by decide +kernel, GG_good⟩
theorem cd_QC_about : cdV GG y_QC_about b_QC_about 2 (some .int) 1 := ⟨gw_496, gw_494, gw_495, gw_52, by decide +kernel, GG_good⟩
theorem cd_QC_leaderOf : cdS GG y_QC_leaderOf b_QC_leaderOf 1 (some .int) 1 := ⟨gw_672, gw_671, gw_52, by decide +kernel, GG_good⟩
theorem cd_Blocks_isAbove : cdV GG y_Blocks_isAbove b_Blocks_isAbove 3 (some .boolean) 2 := ⟨gw_697, gw_695, gw_696, gw_53, by decide +kernel, GG_good⟩
theorem cd_QC_highestParent : cdV GG y_QC_highestParent b_QC_highestParent 7 (some .int) 1 := ⟨gw_839, gw_838, gw_19, gw_52, by decide +kernel, GG_good⟩
theorem cd_Fold_pair : cdS GG y_Fold_pair b_Fold_pair 4 (some .long) 2 := ⟨gw_249, gw_248, gw_62, by decide +kernel, GG_good⟩
theorem cd_KeyTree_isGood : cdV GG y_KeyTree_isGood b_KeyTree_isGood 9 (some .boolean) 1 := ⟨gw_676, gw_674, gw_675, gw_61, by decide +kernel, GG_good⟩
theorem cd_QC_isHeard : cdV GG y_QC_isHeard b_QC_isHeard 2 (some .boolean) 1 := ⟨gw_669, gw_668, gw_7, gw_52, by decide +kernel, GG_good⟩
theorem cd_QC_sendUnsigned : cdV GG y_QC_sendUnsigned b_QC_sendUnsigned 5 none 4 := ⟨gw_685, gw_684, gw_9, gw_52, by decide +kernel, GG_good⟩
theorem cd_Store_keepBlock : cdV GG y_Store_keepBlock b_Store_keepBlock 2 none 1 := ⟨gw_643, gw_641, gw_642, gw_59, by decide +kernel, GG_good⟩
theorem cd_QC_raiseHigh : cdV GG y_QC_raiseHigh b_QC_raiseHigh 3 none 2 := ⟨gw_693, gw_692, gw_11, gw_52, by decide +kernel, GG_good⟩
theorem cd_Blocks_isNextView : cdV GG y_Blocks_isNextView b_Blocks_isNextView 3 (some .boolean) 2 := ⟨gw_702, gw_700, gw_701, gw_53, by decide +kernel, GG_good⟩
theorem cd_Store_lastLogged : cdV GG y_Store_lastLogged b_Store_lastLogged 1 (some .int) 0 := ⟨gw_710, gw_708, gw_709, gw_59, by decide +kernel, GG_good⟩
theorem cd_Blocks_stepsDown : cdV GG y_Blocks_stepsDown b_Blocks_stepsDown 5 (some .int) 2 := ⟨gw_715, gw_713, gw_714, gw_53, by decide +kernel, GG_good⟩
theorem cd_Transactions_exists : cdV GG y_Transactions_exists b_Transactions_exists 2 (some .boolean) 1 := ⟨gw_607, gw_605, gw_606, gw_54, by decide +kernel, GG_good⟩
theorem cd_Accounts_move : cdV GG y_Accounts_move b_Accounts_move 5 none 4 := ⟨gw_724, gw_722, gw_723, gw_60, by decide +kernel, GG_good⟩
theorem cd_Transactions_carryOut : cdV GG y_Transactions_carryOut b_Transactions_carryOut 3 none 2 := ⟨gw_719, gw_717, gw_718, gw_54, by decide +kernel, GG_good⟩
theorem cd_QC_commitUpTo : cdV GG y_QC_commitUpTo b_QC_commitUpTo 7 none 2 := ⟨gw_706, gw_705, gw_12, gw_52, by decide +kernel, GG_good⟩
theorem cd_QC_takeAsCertified : cdV GG y_QC_takeAsCertified b_QC_takeAsCertified 5 none 2 := ⟨gw_689, gw_688, gw_10, gw_52, by decide +kernel, GG_good⟩
theorem cd_Blocks_isBelow : cdV GG y_Blocks_isBelow b_Blocks_isBelow 3 (some .boolean) 2 := ⟨gw_733, gw_731, gw_732, gw_53, by decide +kernel, GG_good⟩
theorem cd_QC_mayVoteFor : cdV GG y_QC_mayVoteFor b_QC_mayVoteFor 6 (some .boolean) 3 := ⟨gw_729, gw_728, gw_13, gw_52, by decide +kernel, GG_good⟩
theorem cd_Node_enter : cdV GG y_Node_enter b_Node_enter 2 none 1 := ⟨gw_742, gw_740, gw_741, gw_56, by decide +kernel, GG_good⟩
theorem cd_QC_voteFor : cdV GG y_QC_voteFor b_QC_voteFor 6 none 3 := ⟨gw_738, gw_737, gw_14, gw_52, by decide +kernel, GG_good⟩
theorem cd_QC_receiveProposal : cdV GG y_QC_receiveProposal b_QC_receiveProposal 5 none 3 := ⟨gw_681, gw_680, gw_8, gw_52, by decide +kernel, GG_good⟩
theorem cd_Integer_bitCount : cdS GG y_Integer_bitCount b_Integer_bitCount 1 (some .int) 1 := ⟨gw_753, gw_752, gw_70, by decide +kernel, GG_good⟩
theorem cd_Tally_keep : cdV GG y_Tally_keep b_Tally_keep 4 (some .int) 2 := ⟨gw_750, gw_748, gw_749, gw_58, by decide +kernel, GG_good⟩
theorem cd_Blocks_certify : cdV GG y_Blocks_certify b_Blocks_certify 2 none 1 := ⟨gw_760, gw_758, gw_759, gw_53, by decide +kernel, GG_good⟩
theorem cd_Blocks_isInChain : cdV GG y_Blocks_isInChain b_Blocks_isInChain 5 (some .boolean) 2 := ⟨gw_633, gw_631, gw_632, gw_53, by decide +kernel, GG_good⟩
theorem cd_QC_firstNewTransaction : cdV GG y_QC_firstNewTransaction b_QC_firstNewTransaction 3 (some .int) 1 := ⟨gw_629, gw_628, gw_6, gw_52, by decide +kernel, GG_good⟩
theorem cd_Blocks_add : cdV GG y_Blocks_add b_Blocks_add 4 (some .int) 3 := ⟨gw_639, gw_637, gw_638, gw_53, by decide +kernel, GG_good⟩
theorem cd_QC_propose : cdV GG y_QC_propose b_QC_propose 3 none 1 := ⟨gw_625, gw_624, gw_5, gw_52, by decide +kernel, GG_good⟩
theorem cd_QC_receiveVote : cdV GG y_QC_receiveVote b_QC_receiveVote 5 none 3 := ⟨gw_746, gw_745, gw_15, gw_52, by decide +kernel, GG_good⟩
theorem cd_QC_receiveTimeout : cdV GG y_QC_receiveTimeout b_QC_receiveTimeout 5 none 4 := ⟨gw_764, gw_763, gw_16, gw_52, by decide +kernel, GG_good⟩
theorem cd_QC_receiveAsk : cdV GG y_QC_receiveAsk b_QC_receiveAsk 4 none 3 := ⟨gw_768, gw_767, gw_17, gw_52, by decide +kernel, GG_good⟩
theorem cd_QC_receiveBlock : cdV GG y_QC_receiveBlock b_QC_receiveBlock 5 none 3 := ⟨gw_772, gw_771, gw_18, gw_52, by decide +kernel, GG_good⟩
theorem cd_Inbox_first : cdV GG y_Inbox_first b_Inbox_first 1 (some (.object "QuorumChain$Message")) 0 := ⟨gw_656, gw_654, gw_655, gw_57, by decide +kernel, GG_good⟩
theorem cd_Inbox_moveFirstBehind : cdV GG y_Inbox_moveFirstBehind b_Inbox_moveFirstBehind 3 none 0 := ⟨gw_665, gw_663, gw_664, gw_57, by decide +kernel, GG_good⟩
theorem cd_Inbox_dropFirst : cdV GG y_Inbox_dropFirst b_Inbox_dropFirst 1 none 0 := ⟨gw_661, gw_659, gw_660, gw_57, by decide +kernel, GG_good⟩
theorem cd_KeyTree_leafOf : cdS GG y_KeyTree_leafOf b_KeyTree_leafOf 6 (some .long) 3 := ⟨gw_227, gw_226, gw_61, by decide +kernel, GG_good⟩
theorem cd_Node_addToPool : cdV GG y_Node_addToPool b_Node_addToPool 3 (some .boolean) 1 := ⟨gw_613, gw_611, gw_612, gw_56, by decide +kernel, GG_good⟩
theorem cd_Tally_empty : cdV GG y_Tally_empty b_Tally_empty 2 none 0 := ⟨gw_827, gw_825, gw_826, gw_58, by decide +kernel, GG_good⟩
theorem cd_Node_fall : cdV GG y_Node_fall b_Node_fall 1 none 0 := ⟨gw_823, gw_821, gw_822, gw_56, by decide +kernel, GG_good⟩
theorem cd_Node_rise : cdV GG y_Node_rise b_Node_rise 2 none 1 := ⟨gw_843, gw_841, gw_842, gw_56, by decide +kernel, GG_good⟩
theorem cd_Transactions_add : cdV GG y_Transactions_add b_Transactions_add 5 (some .int) 4 := ⟨gw_596, gw_594, gw_595, gw_54, by decide +kernel, GG_good⟩
end
section
/-! The class's world: kinds of cells. Written by wip/whole/make.py. -/
abbrev clQ : List vw_C := [(R_QC, F_QC, 7), (R_Node, F_Node, 12), (R_Store, F_Store, 8), (R_Accounts, F_Accounts, 2), (R_KeyTree, F_KeyTree, 4), (R_Inbox, F_Inbox, 2), (R_Message, F_Message, 6), (R_Tally, F_Tally, 1), (R_Blocks, F_Blocks, 5), (R_Transactions, F_Transactions, 5)]
abbrev tysQ (ca : Nat → ClassId) : List (ClassId × FieldType) := [(ca 0, .int), (ca 1, .long), (ca 2, .boolean), (ca 3, .object "QuorumChain$Node"), (ca 4, .object "QuorumChain$Message")]
def nwQ : List (String × Nat × MethodName × String) := [("QuorumChain$Accounts", 18, ⟨"QuorumChain", "isAccount", "(I)Z"⟩, "QuorumChain")]
theorem nw_Accounts_18 : (R_Accounts, 18, y_QC_isAccount, "QuorumChain") ∈ nwQ := List.mem_singleton.mpr rfl
def tlen (j : Nat) : Nat := if j = 0 then 100 else 128
def inM (i j : Nat) : Prop := (i < 4 ∧ j < 16) ∨ (i = 4 ∧ j < 2)
def inT (i j : Nat) : Prop := i < 4 ∧ j < 2
theorem inM_D : inM 4 0 := Or.inr ⟨rfl, by decide⟩
theorem inM_A : inM 4 1 := Or.inr ⟨rfl, by decide⟩
theorem vin4 {x : Int32} (h : vp_in x 4) : x.toNatClampNeg < 4 := Nat.not_le.mp fun q => h (Or.inr q)
theorem z_inc {x k : Int32} {n : Int} (h : Int32.ofInt n = k) : x + Int32.ofInt n = x + k := by rw [h]
theorem z_swl {x : Int32} (lo hi : Int) (h : ∀ k : Int, lo ≤ k → k ≤ hi → ¬ x.toInt = k) : x.toInt < lo ∨ hi < x.toInt := by
  by_cases h1 : x.toInt < lo
  · exact Or.inl h1
  · by_cases h2 : hi < x.toInt
    · exact Or.inr h2
    · exact absurd rfl (h x.toInt (Int.not_lt.mp h1) (Int.not_lt.mp h2))
def cfQ (ad : N3 → Nat) (ca : Nat → ClassId) : Cf := fun t f g h => match t with
  | (1, _, _) => .inr (0, [.ref (ad (2, 0, 0)), .ref (ad (19, 0, 0)), .ref (ad (24, 0, 0)), .ref (ad (14, 4, 0)), .ref (ad (14, 4, 1)), .int (f 5), .int (f 6)])
  | (2, _, _) => .inl (ca 3, 4, .inr (.inr (.inr (.inr (fun x => some (ad (3, x, 0)))))))
  | (3, i, _) => .inr (1, [.int (f 0), .ref (ad (4, i, 0)), .ref (ad (12, i, 0)), .ref (ad (16, i, 0)), .ref (ad (16, i, 1)), .ref (ad (18, i, 0)), .int (f 6), .int (f 7), .int (f 8), .int (f 9), .int (f 10), .int (f 11)])
  | (4, i, _) => .inr (2, [.ref (ad (5, i, 0)), .ref (ad (6, i, 0)), .ref (ad (7, i, 0)), .ref (ad (10, i, 0)), .int (f 4), .int (f 5), .int (f 6), .int (f 7)])
  | (5, _, _) => .inl (ca 2, 100, .inl f)
  | (6, _, _) => .inl (ca 0, 100, .inl f)
  | (7, i, _) => .inr (3, [.ref (ad (8, i, 0)), .ref (ad (9, i, 0))])
  | (8, _, _) => .inl (ca 0, 4, .inl f)
  | (9, _, _) => .inl (ca 0, 4, .inl f)
  | (10, i, _) => .inr (4, [.ref (ad (11, i, 0)), .int (f 1), .int (f 2), .int (f 3)])
  | (11, _, _) => .inl (ca 1, 64, .inr (.inl g))
  | (12, i, _) => .inr (5, [.ref (ad (13, i, 0)), .int (f 1)])
  | (13, i, _) => .inl (ca 4, 16, .inr (.inr (.inr (.inr (fun x => some (ad (14, i, h x)))))))
  | (14, i, j) => .inr (6, [.ref (ad (15, i, j)), .int (f 1), .int (f 2), .int (f 3), .int (f 4), .int (f 5)])
  | (15, _, _) => .inl (ca 1, 11, .inr (.inl g))
  | (16, i, j) => .inr (7, [.ref (ad (17, i, j))])
  | (17, _, j) => .inl (ca 0, tlen j, .inl f)
  | (18, _, _) => .inl (ca 0, 40, .inl f)
  | (19, _, _) => .inr (8, [.ref (ad (20, 0, 0)), .ref (ad (21, 0, 0)), .ref (ad (22, 0, 0)), .ref (ad (23, 0, 0)), .int (f 4)])
  | (20, _, _) => .inl (ca 0, 100, .inl f)
  | (21, _, _) => .inl (ca 0, 100, .inl f)
  | (22, _, _) => .inl (ca 0, 100, .inl f)
  | (23, _, _) => .inl (ca 2, 100, .inl f)
  | (24, _, _) => .inr (9, [.ref (ad (25, 0, 0)), .ref (ad (26, 0, 0)), .ref (ad (27, 0, 0)), .ref (ad (28, 0, 0)), .int (f 4)])
  | (25, _, _) => .inl (ca 0, 40, .inl f)
  | (26, _, _) => .inl (ca 0, 40, .inl f)
  | (27, _, _) => .inl (ca 0, 40, .inl f)
  | (28, _, _) => .inl (ca 0, 40, .inl f)
  | _ => .inl (ca 0, 0, .inl f)
theorem cfQ_row {ad : N3 → Nat} {ca : Nat → ClassId} {i p w : Nat} {f : Nat → Int32} {g : Nat → Int64} {h : Nat → Nat} : cfQ ad ca (13, i, 0) f g (va_up h p w) = .inl (ca 4, 16, .inr (.inr (.inr (.inr (va_up (fun x => some (ad (14, i, h x))) p (some (ad (14, i, w)))))))) := by
  show Sum.inl (ca 4, 16, _) = _
  congr 7
  funext x
  by_cases hx : x = p
  · simp [va_up, hx]
  · simp [va_up, hx]
def TQ : List N3 := [(1, 0, 0), (2, 0, 0), (3, 0, 0), (3, 1, 0), (3, 2, 0), (3, 3, 0), (4, 0, 0), (4, 1, 0), (4, 2, 0), (4, 3, 0), (5, 0, 0), (5, 1, 0), (5, 2, 0), (5, 3, 0), (6, 0, 0), (6, 1, 0), (6, 2, 0), (6, 3, 0), (7, 0, 0), (7, 1, 0), (7, 2, 0), (7, 3, 0), (8, 0, 0), (8, 1, 0), (8, 2, 0), (8, 3, 0), (9, 0, 0), (9, 1, 0), (9, 2, 0), (9, 3, 0), (10, 0, 0), (10, 1, 0), (10, 2, 0), (10, 3, 0), (11, 0, 0), (11, 1, 0), (11, 2, 0), (11, 3, 0), (12, 0, 0), (12, 1, 0), (12, 2, 0), (12, 3, 0), (13, 0, 0), (13, 1, 0), (13, 2, 0), (13, 3, 0), (14, 0, 0), (14, 0, 1), (14, 0, 2), (14, 0, 3), (14, 0, 4), (14, 0, 5), (14, 0, 6), (14, 0, 7), (14, 0, 8), (14, 0, 9), (14, 0, 10), (14, 0, 11), (14, 0, 12), (14, 0, 13), (14, 0, 14), (14, 0, 15), (14, 1, 0), (14, 1, 1), (14, 1, 2), (14, 1, 3), (14, 1, 4), (14, 1, 5), (14, 1, 6), (14, 1, 7), (14, 1, 8), (14, 1, 9), (14, 1, 10), (14, 1, 11), (14, 1, 12), (14, 1, 13), (14, 1, 14), (14, 1, 15), (14, 2, 0), (14, 2, 1), (14, 2, 2), (14, 2, 3), (14, 2, 4), (14, 2, 5), (14, 2, 6), (14, 2, 7), (14, 2, 8), (14, 2, 9), (14, 2, 10), (14, 2, 11), (14, 2, 12), (14, 2, 13), (14, 2, 14), (14, 2, 15), (14, 3, 0), (14, 3, 1), (14, 3, 2), (14, 3, 3), (14, 3, 4), (14, 3, 5), (14, 3, 6), (14, 3, 7), (14, 3, 8), (14, 3, 9), (14, 3, 10), (14, 3, 11), (14, 3, 12), (14, 3, 13), (14, 3, 14), (14, 3, 15), (14, 4, 0), (14, 4, 1), (15, 0, 0), (15, 0, 1), (15, 0, 2), (15, 0, 3), (15, 0, 4), (15, 0, 5), (15, 0, 6), (15, 0, 7), (15, 0, 8), (15, 0, 9), (15, 0, 10), (15, 0, 11), (15, 0, 12), (15, 0, 13), (15, 0, 14), (15, 0, 15), (15, 1, 0), (15, 1, 1), (15, 1, 2), (15, 1, 3), (15, 1, 4), (15, 1, 5), (15, 1, 6), (15, 1, 7), (15, 1, 8), (15, 1, 9), (15, 1, 10), (15, 1, 11), (15, 1, 12), (15, 1, 13), (15, 1, 14), (15, 1, 15), (15, 2, 0), (15, 2, 1), (15, 2, 2), (15, 2, 3), (15, 2, 4), (15, 2, 5), (15, 2, 6), (15, 2, 7), (15, 2, 8), (15, 2, 9), (15, 2, 10), (15, 2, 11), (15, 2, 12), (15, 2, 13), (15, 2, 14), (15, 2, 15), (15, 3, 0), (15, 3, 1), (15, 3, 2), (15, 3, 3), (15, 3, 4), (15, 3, 5), (15, 3, 6), (15, 3, 7), (15, 3, 8), (15, 3, 9), (15, 3, 10), (15, 3, 11), (15, 3, 12), (15, 3, 13), (15, 3, 14), (15, 3, 15), (15, 4, 0), (15, 4, 1), (16, 0, 0), (16, 0, 1), (16, 1, 0), (16, 1, 1), (16, 2, 0), (16, 2, 1), (16, 3, 0), (16, 3, 1), (17, 0, 0), (17, 0, 1), (17, 1, 0), (17, 1, 1), (17, 2, 0), (17, 2, 1), (17, 3, 0), (17, 3, 1), (18, 0, 0), (18, 1, 0), (18, 2, 0), (18, 3, 0), (19, 0, 0), (20, 0, 0), (21, 0, 0), (22, 0, 0), (23, 0, 0), (24, 0, 0), (25, 0, 0), (26, 0, 0), (27, 0, 0), (28, 0, 0)]
theorem tq1 : ((1, 0, 0) : N3) ∈ TQ := by decide +kernel
theorem tq2 : ((2, 0, 0) : N3) ∈ TQ := by decide +kernel
theorem tq3 {i : Nat} (h : i < 4) : ((3, i, 0) : N3) ∈ TQ := (by decide +kernel : ∀ i, i < 4 → ((3, i, 0) : N3) ∈ TQ) i h
theorem tq4 {i : Nat} (h : i < 4) : ((4, i, 0) : N3) ∈ TQ := (by decide +kernel : ∀ i, i < 4 → ((4, i, 0) : N3) ∈ TQ) i h
theorem tq5 {i : Nat} (h : i < 4) : ((5, i, 0) : N3) ∈ TQ := (by decide +kernel : ∀ i, i < 4 → ((5, i, 0) : N3) ∈ TQ) i h
theorem tq6 {i : Nat} (h : i < 4) : ((6, i, 0) : N3) ∈ TQ := (by decide +kernel : ∀ i, i < 4 → ((6, i, 0) : N3) ∈ TQ) i h
theorem tq7 {i : Nat} (h : i < 4) : ((7, i, 0) : N3) ∈ TQ := (by decide +kernel : ∀ i, i < 4 → ((7, i, 0) : N3) ∈ TQ) i h
theorem tq8 {i : Nat} (h : i < 4) : ((8, i, 0) : N3) ∈ TQ := (by decide +kernel : ∀ i, i < 4 → ((8, i, 0) : N3) ∈ TQ) i h
theorem tq9 {i : Nat} (h : i < 4) : ((9, i, 0) : N3) ∈ TQ := (by decide +kernel : ∀ i, i < 4 → ((9, i, 0) : N3) ∈ TQ) i h
theorem tq10 {i : Nat} (h : i < 4) : ((10, i, 0) : N3) ∈ TQ := (by decide +kernel : ∀ i, i < 4 → ((10, i, 0) : N3) ∈ TQ) i h
theorem tq11 {i : Nat} (h : i < 4) : ((11, i, 0) : N3) ∈ TQ := (by decide +kernel : ∀ i, i < 4 → ((11, i, 0) : N3) ∈ TQ) i h
theorem tq12 {i : Nat} (h : i < 4) : ((12, i, 0) : N3) ∈ TQ := (by decide +kernel : ∀ i, i < 4 → ((12, i, 0) : N3) ∈ TQ) i h
theorem tq13 {i : Nat} (h : i < 4) : ((13, i, 0) : N3) ∈ TQ := (by decide +kernel : ∀ i, i < 4 → ((13, i, 0) : N3) ∈ TQ) i h
theorem tq14 {i j : Nat} (h : inM i j) : ((14, i, j) : N3) ∈ TQ := h.elim (fun h => (by decide +kernel : ∀ i, i < 4 → ∀ j, j < 16 → ((14, i, j) : N3) ∈ TQ) i h.1 j h.2) (fun h => by
  obtain ⟨rfl, hj⟩ := h
  exact (by decide +kernel : ∀ j, j < 2 → ((14, 4, j) : N3) ∈ TQ) j hj)
theorem tq15 {i j : Nat} (h : inM i j) : ((15, i, j) : N3) ∈ TQ := h.elim (fun h => (by decide +kernel : ∀ i, i < 4 → ∀ j, j < 16 → ((15, i, j) : N3) ∈ TQ) i h.1 j h.2) (fun h => by
  obtain ⟨rfl, hj⟩ := h
  exact (by decide +kernel : ∀ j, j < 2 → ((15, 4, j) : N3) ∈ TQ) j hj)
theorem tq16 {i j : Nat} (h : inT i j) : ((16, i, j) : N3) ∈ TQ := (by decide +kernel : ∀ i, i < 4 → ∀ j, j < 2 → ((16, i, j) : N3) ∈ TQ) i h.1 j h.2
theorem tq17 {i j : Nat} (h : inT i j) : ((17, i, j) : N3) ∈ TQ := (by decide +kernel : ∀ i, i < 4 → ∀ j, j < 2 → ((17, i, j) : N3) ∈ TQ) i h.1 j h.2
theorem tq18 {i : Nat} (h : i < 4) : ((18, i, 0) : N3) ∈ TQ := (by decide +kernel : ∀ i, i < 4 → ((18, i, 0) : N3) ∈ TQ) i h
theorem tq19 : ((19, 0, 0) : N3) ∈ TQ := by decide +kernel
theorem tq20 : ((20, 0, 0) : N3) ∈ TQ := by decide +kernel
theorem tq21 : ((21, 0, 0) : N3) ∈ TQ := by decide +kernel
theorem tq22 : ((22, 0, 0) : N3) ∈ TQ := by decide +kernel
theorem tq23 : ((23, 0, 0) : N3) ∈ TQ := by decide +kernel
theorem tq24 : ((24, 0, 0) : N3) ∈ TQ := by decide +kernel
theorem tq25 : ((25, 0, 0) : N3) ∈ TQ := by decide +kernel
theorem tq26 : ((26, 0, 0) : N3) ∈ TQ := by decide +kernel
theorem tq27 : ((27, 0, 0) : N3) ∈ TQ := by decide +kernel
theorem tq28 : ((28, 0, 0) : N3) ∈ TQ := by decide +kernel
end
section
/-! Named results: a step's value gets a name that nothing looks through. -/
def lt {α : Type} {β : Sort _} (v : α) (k : α → β) : β := k v
theorem lt_p {α : Type} {v z : α} {k : α → Prop} (e : z = v) (h : lt v k) : k z := by
  subst e
  exact h
theorem lt_e {α β : Type} {v z : α} {k : α → β} {res : β} (e : z = v) (h : lt v k = res) : k z = res := by
  subst e
  exact h
theorem zs_si {cf : Cf} {S S' : St} {k i j : Nat} {f : Nat → Int32} {e : va_E} (h : S' = wi S k i j f) (h1 : cf (k, i, j) f (S.2.1 k i j) (S.2.2 k i j) = e) : zs cf S' (k, i, j) = e := by
  subst h
  exact zs_wi_self.trans h1
theorem zs_sio {cf : Cf} {S S' : St} {k i j : Nat} {f : Nat → Int32} (h : S' = wi S k i j f) : ∀ t : N3, t ≠ (k, i, j) → zs cf S' t = zs cf S t := by
  subst h
  exact zs_wi_ne
theorem zs_sl {cf : Cf} {S S' : St} {k i j : Nat} {f : Nat → Int64} {e : va_E} (h : S' = wl S k i j f) (h1 : cf (k, i, j) (S.1 k i j) f (S.2.2 k i j) = e) : zs cf S' (k, i, j) = e := by
  subst h
  exact zs_wl_self.trans h1
theorem zs_slo {cf : Cf} {S S' : St} {k i j : Nat} {f : Nat → Int64} (h : S' = wl S k i j f) : ∀ t : N3, t ≠ (k, i, j) → zs cf S' t = zs cf S t := by
  subst h
  exact zs_wl_ne
theorem zs_sp {cf : Cf} {S S' : St} {k i j : Nat} {f : Nat → Nat} {e : va_E} (h : S' = wp S k i j f) (h1 : cf (k, i, j) (S.1 k i j) (S.2.1 k i j) f = e) : zs cf S' (k, i, j) = e := by
  subst h
  exact zs_wp_self.trans h1
theorem zs_spo {cf : Cf} {S S' : St} {k i j : Nat} {f : Nat → Nat} (h : S' = wp S k i j f) : ∀ t : N3, t ≠ (k, i, j) → zs cf S' t = zs cf S t := by
  subst h
  exact zs_wp_ne
section ZG
variable {p : Program} {l : Launch} {e : Env} {R : Room} {s : State} {m : MethodId} {args : Array Value} {below : List Frame} {meth : Method} {c : Code} {H : Heap} {locs : List Loc} {cells slots : Nat} {Q : State → Prop}
variable {pc : Nat} {ls : Array Slot} {rest st0 : List Value} {D : va_G} {cl : List vw_C} {A : Nat → Prop} {H0 : Heap} {X : va_W} {ad : N3 → Nat} {T : List N3} {cf : Cf} {S : St}
theorem z_goI {a : Array Value} {res : Int32 × St} {v : Int32} {z : St} (hW : Wd D cl A H0 (zw X ad T cf S) H locs) (hA : ∀ q, H0.size ≤ q → A q) (ez : (v, z) = res) (hr : va_Run p l e R s m args below meth c H locs cells slots 0 0 (F0 m pc ls st0) rest (eI D cl X ad T cf (va_A (zw X ad T cf S) H.size) res a) (va_A (zw X ad T cf S) H.size))
    (kk : ∀ (H1 : Heap) (locs1 : List Loc), Wd D cl A H0 (zw X ad T cf z) H1 locs1 → W p l e R s m args below meth c H1 locs1 cells slots Q (F0 m (pc + 3) ls (.int v :: rest))) : W p l e R s m args below meth c H locs cells slots Q (F0 m pc ls st0) := by
  subst ez
  exact z_thenI hW hA hr kk
theorem z_goL {a : Array Value} {res : Int64 × St} {v : Int64} {z : St} (hW : Wd D cl A H0 (zw X ad T cf S) H locs) (hA : ∀ q, H0.size ≤ q → A q) (ez : (v, z) = res) (hr : va_Run p l e R s m args below meth c H locs cells slots 0 0 (F0 m pc ls st0) rest (eL D cl X ad T cf (va_A (zw X ad T cf S) H.size) res a) (va_A (zw X ad T cf S) H.size))
    (kk : ∀ (H1 : Heap) (locs1 : List Loc), Wd D cl A H0 (zw X ad T cf z) H1 locs1 → W p l e R s m args below meth c H1 locs1 cells slots Q (F0 m (pc + 3) ls (.long v :: rest))) : W p l e R s m args below meth c H locs cells slots Q (F0 m pc ls st0) := by
  subst ez
  exact z_thenL hW hA hr kk
theorem z_goV {a : Array Value} {res z : St} (hW : Wd D cl A H0 (zw X ad T cf S) H locs) (hA : ∀ q, H0.size ≤ q → A q) (ez : z = res) (hr : va_Run p l e R s m args below meth c H locs cells slots 0 0 (F0 m pc ls st0) rest (eV D cl X ad T cf (va_A (zw X ad T cf S) H.size) res a) (va_A (zw X ad T cf S) H.size))
    (kk : ∀ (H1 : Heap) (locs1 : List Loc), Wd D cl A H0 (zw X ad T cf z) H1 locs1 → W p l e R s m args below meth c H1 locs1 cells slots Q (F0 m (pc + 3) ls rest)) : W p l e R s m args below meth c H locs cells slots Q (F0 m pc ls st0) := by
  subst ez
  exact z_thenV hW hA hr kk
theorem z_goR {a : Array Value} {res : N3 × St} {t : N3} {z : St} (hW : Wd D cl A H0 (zw X ad T cf S) H locs) (hA : ∀ q, H0.size ≤ q → A q) (ez : (t, z) = res) (hr : va_Run p l e R s m args below meth c H locs cells slots 0 0 (F0 m pc ls st0) rest (eR D cl X ad T cf (va_A (zw X ad T cf S) H.size) res a) (va_A (zw X ad T cf S) H.size))
    (kk : ∀ (H1 : Heap) (locs1 : List Loc), Wd D cl A H0 (zw X ad T cf z) H1 locs1 → W p l e R s m args below meth c H1 locs1 cells slots Q (F0 m (pc + 3) ls (.ref (ad t) :: rest))) : W p l e R s m args below meth c H locs cells slots Q (F0 m pc ls st0) := by
  subst ez
  exact z_thenR hW hA hr kk
end ZG
end
section
theorem d_Message_write_0 : decode b_Message_write 0 = .ok (.aload_n 0, 1) := by decide +kernel
theorem d_Message_write_1 : decode b_Message_write 1 = .ok (.iload_n 1, 1) := by decide +kernel
theorem d_Message_write_2 : decode b_Message_write 2 = .ok (.putfield 19, 3) := by decide +kernel
theorem d_Message_write_5 : decode b_Message_write 5 = .ok (.aload_n 0, 1) := by decide +kernel
theorem d_Message_write_6 : decode b_Message_write 6 = .ok (.iload_n 2, 1) := by decide +kernel
theorem d_Message_write_7 : decode b_Message_write 7 = .ok (.putfield 22, 3) := by decide +kernel
theorem d_Message_write_10 : decode b_Message_write 10 = .ok (.aload_n 0, 1) := by decide +kernel
theorem d_Message_write_11 : decode b_Message_write 11 = .ok (.iload_n 3, 1) := by decide +kernel
theorem d_Message_write_12 : decode b_Message_write 12 = .ok (.putfield 25, 3) := by decide +kernel
theorem d_Message_write_15 : decode b_Message_write 15 = .ok (.aload_n 0, 1) := by decide +kernel
theorem d_Message_write_16 : decode b_Message_write 16 = .ok (.iload 4, 2) := by decide +kernel
theorem d_Message_write_18 : decode b_Message_write 18 = .ok (.putfield 28, 3) := by decide +kernel
theorem d_Message_write_21 : decode b_Message_write 21 = .ok (.aload_n 0, 1) := by decide +kernel
theorem d_Message_write_22 : decode b_Message_write 22 = .ok (.iconst (-1), 1) := by decide +kernel
theorem d_Message_write_23 : decode b_Message_write 23 = .ok (.putfield 15, 3) := by decide +kernel
theorem d_Message_write_26 : decode b_Message_write 26 = .ok (.return_, 1) := by decide +kernel
def f_Message_write (i0 : Nat) (j0 : Nat) (a1 : Int32) (a2 : Int32) (a3 : Int32) (a4 : Int32) (S : St) : St :=
  lt (si S 14 i0 j0 1 a1) fun (S1 : St) =>
  lt (si S1 14 i0 j0 2 a2) fun (S2 : St) =>
  lt (si S2 14 i0 j0 3 a3) fun (S3 : St) =>
  lt (si S3 14 i0 j0 4 a4) fun (S4 : St) =>
  lt (si S4 14 i0 j0 5 (-1 : Int32)) fun (S5 : St) =>
  S5
set_option maxHeartbeats 4000000 in
set_option maxRecDepth 100000 in
theorem c_Message_write (l : Launch) (D : va_G) (X : va_W) (ad : N3 → Nat) (ca : Nat → ClassId) (i0 : Nat) (j0 : Nat) (a1 : Int32) (a2 : Int32) (a3 : Int32) (a4 : Int32) (h0 : inM i0 j0) (S : St) : cV l GG D clQ (tysQ ca) nwQ X ad TQ (cfQ ad ca) y_Message_write b_Message_write 5 0 0 [.ref (ad (14, i0, j0)), .int a1, .int a2, .int a3, .int a4] S (f_Message_write i0 j0 a1 a2 a3 a4 S) := by
  generalize hr : f_Message_write i0 j0 a1 a2 a3 a4 S = res
  refine zV_of pn_Message (Nat.le_of_ble_eq_true rfl) (fun p e s m below meth c A ls hy hW hA hl => ?_)
  have hF := hy.1
  have hx := hF.1
  have hb := hF.2.1
  have hK := hy.2.2.2
  have hl : lv_has ls 5 [(0, .ref (ad (14, i0, j0))), (1, .int a1), (2, .int a2), (3, .int a3), (4, .int a4)] := hl
  refine lv_aload_n (pc := 0) hx hb d_Message_write_0 rfl (lv_at hl 0 rfl) ?_
  refine lv_iload_n (pc := 1) hx hb d_Message_write_1 rfl (lv_at hl 1 rfl) ?_
  obtain ⟨S1, eS1⟩ : ∃ z : St, z = si S 14 i0 j0 1 a1 := ⟨_, rfl⟩
  have hr := lt_e eS1 hr
  refine z_put (pc := 2) (S' := S1) hF hK.1 hW (tq14 h0) rfl rfl in_Message t_Message tyo_Message nmo_Message 1 (by decide) gw_139 rfl rfl rfl rfl rfl (Nat.le_of_ble_eq_true rfl) (zs_si eS1 rfl) (zs_sio eS1) d_Message_write_2 (fun H locs (hW : Wd D clQ A s.heap (zw X ad TQ (cfQ ad ca) S1) H locs) => ?_)
  refine lv_aload_n (pc := 5) hx hb d_Message_write_5 rfl (lv_at hl 0 rfl) ?_
  refine lv_iload_n (pc := 6) hx hb d_Message_write_6 rfl (lv_at hl 2 rfl) ?_
  obtain ⟨S2, eS2⟩ : ∃ z : St, z = si S1 14 i0 j0 2 a2 := ⟨_, rfl⟩
  have hr := lt_e eS2 hr
  refine z_put (pc := 7) (S' := S2) hF hK.1 hW (tq14 h0) rfl rfl in_Message t_Message tyo_Message nmo_Message 2 (by decide) gw_141 rfl rfl rfl rfl rfl (Nat.le_of_ble_eq_true rfl) (zs_si eS2 rfl) (zs_sio eS2) d_Message_write_7 (fun H locs (hW : Wd D clQ A s.heap (zw X ad TQ (cfQ ad ca) S2) H locs) => ?_)
  refine lv_aload_n (pc := 10) hx hb d_Message_write_10 rfl (lv_at hl 0 rfl) ?_
  refine lv_iload_n (pc := 11) hx hb d_Message_write_11 rfl (lv_at hl 3 rfl) ?_
  obtain ⟨S3, eS3⟩ : ∃ z : St, z = si S2 14 i0 j0 3 a3 := ⟨_, rfl⟩
  have hr := lt_e eS3 hr
  refine z_put (pc := 12) (S' := S3) hF hK.1 hW (tq14 h0) rfl rfl in_Message t_Message tyo_Message nmo_Message 3 (by decide) gw_143 rfl rfl rfl rfl rfl (Nat.le_of_ble_eq_true rfl) (zs_si eS3 rfl) (zs_sio eS3) d_Message_write_12 (fun H locs (hW : Wd D clQ A s.heap (zw X ad TQ (cfQ ad ca) S3) H locs) => ?_)
  refine lv_aload_n (pc := 15) hx hb d_Message_write_15 rfl (lv_at hl 0 rfl) ?_
  refine lv_iload (pc := 16) hx hb d_Message_write_16 (lv_at hl 4 rfl) ?_
  obtain ⟨S4, eS4⟩ : ∃ z : St, z = si S3 14 i0 j0 4 a4 := ⟨_, rfl⟩
  have hr := lt_e eS4 hr
  refine z_put (pc := 18) (S' := S4) hF hK.1 hW (tq14 h0) rfl rfl in_Message t_Message tyo_Message nmo_Message 4 (by decide) gw_145 rfl rfl rfl rfl rfl (Nat.le_of_ble_eq_true rfl) (zs_si eS4 rfl) (zs_sio eS4) d_Message_write_18 (fun H locs (hW : Wd D clQ A s.heap (zw X ad TQ (cfQ ad ca) S4) H locs) => ?_)
  refine lv_aload_n (pc := 21) hx hb d_Message_write_21 rfl (lv_at hl 0 rfl) ?_
  refine lv_iconst (pc := 22) (v := -1) hx hb d_Message_write_22 (by decide) ?_
  obtain ⟨S5, eS5⟩ : ∃ z : St, z = si S4 14 i0 j0 5 (-1 : Int32) := ⟨_, rfl⟩
  have hr := lt_e eS5 hr
  refine z_put (pc := 23) (S' := S5) hF hK.1 hW (tq14 h0) rfl rfl in_Message t_Message tyo_Message nmo_Message 5 (by decide) gw_147 rfl rfl rfl rfl rfl (Nat.le_of_ble_eq_true rfl) (zs_si eS5 rfl) (zs_sio eS5) d_Message_write_23 (fun H locs (hW : Wd D clQ A s.heap (zw X ad TQ (cfQ ad ca) S5) H locs) => ?_)
  exact z_vret hy hW hr.symm d_Message_write_26
theorem d_KeyTree_isLeft_0 : decode b_KeyTree_isLeft 0 = .ok (.aload_n 0, 1) := by decide +kernel
theorem d_KeyTree_isLeft_1 : decode b_KeyTree_isLeft 1 = .ok (.getfield 32, 3) := by decide +kernel
theorem d_KeyTree_isLeft_4 : decode b_KeyTree_isLeft 4 = .ok (.bipush 32, 2) := by decide +kernel
theorem d_KeyTree_isLeft_6 : decode b_KeyTree_isLeft 6 = .ok (.if_icmp .ge 7, 3) := by decide +kernel
theorem d_KeyTree_isLeft_9 : decode b_KeyTree_isLeft 9 = .ok (.iconst 1, 1) := by decide +kernel
theorem d_KeyTree_isLeft_10 : decode b_KeyTree_isLeft 10 = .ok (.goto 4, 3) := by decide +kernel
theorem d_KeyTree_isLeft_13 : decode b_KeyTree_isLeft 13 = .ok (.iconst 0, 1) := by decide +kernel
theorem d_KeyTree_isLeft_14 : decode b_KeyTree_isLeft 14 = .ok (.ireturn, 1) := by decide +kernel
def f_KeyTree_isLeft (i0 : Nat) (S : St) : Int32 :=
  if (32 : Int32) ≤ (S.1 10 i0 0 3) then
    (0 : Int32)
  else
    (1 : Int32)
set_option maxHeartbeats 4000000 in
set_option maxRecDepth 100000 in
theorem c_KeyTree_isLeft (l : Launch) (D : va_G) (X : va_W) (ad : N3 → Nat) (ca : Nat → ClassId) (i0 : Nat) (h0 : i0 < 4) (S : St) : cI l GG D clQ (tysQ ca) nwQ X ad TQ (cfQ ad ca) y_KeyTree_isLeft b_KeyTree_isLeft 1 .boolean 0 0 [.ref (ad (10, i0, 0))] S ((f_KeyTree_isLeft i0 S), S) := by
  generalize hr : f_KeyTree_isLeft i0 S = res
  refine zI_of pn_KeyTree (Nat.le_of_ble_eq_true rfl) (fun p e s m below meth c A ls hy hW hA hl => ?_)
  have hF := hy.1
  have hx := hF.1
  have hb := hF.2.1
  have hK := hy.2.2.2
  have hl : lv_has ls 1 [(0, .ref (ad (10, i0, 0)))] := hl
  refine lv_aload_n (pc := 0) hx hb d_KeyTree_isLeft_0 rfl (lv_at hl 0 rfl) ?_
  refine z_get (pc := 1) (v := .int (S.1 10 i0 0 3)) hF hK.1 hW (tq10 h0) rfl rfl in_KeyTree 3 (by decide) gw_253 rfl rfl d_KeyTree_isLeft_1 ?_
  refine lv_bipush (pc := 4) (v := 32) hx hb d_KeyTree_isLeft_4 (by decide) ?_
  refine lv_icmp_ge (pc := 6) (tgt := 13) hx hb d_KeyTree_isLeft_6 (by decide) (fun c1 => ?_) (fun c1 => ?_)
  · have hr := (if_pos c1).symm.trans hr
    refine lv_iconst (pc := 13) (v := 0) hx hb d_KeyTree_isLeft_13 (by decide) ?_
    exact z_zret (v := (0 : Int32)) hy hW rfl (congrArg (fun z => (z, S)) hr.symm) d_KeyTree_isLeft_14
  · have hr := (if_neg c1).symm.trans hr
    refine lv_iconst (pc := 9) (v := 1) hx hb d_KeyTree_isLeft_9 (by decide) ?_
    refine lv_goto (pc := 10) (tgt := 14) hx hb d_KeyTree_isLeft_10 (by decide) ?_
    exact z_zret (v := (1 : Int32)) hy hW rfl (congrArg (fun z => (z, S)) hr.symm) d_KeyTree_isLeft_14
theorem d_Fold_absorb_0 : decode b_Fold_absorb 0 = .ok (.lload_n 0, 1) := by decide +kernel
theorem d_Fold_absorb_1 : decode b_Fold_absorb 1 = .ok (.lload_n 2, 1) := by decide +kernel
theorem d_Fold_absorb_2 : decode b_Fold_absorb 2 = .ok (.lxor, 1) := by decide +kernel
theorem d_Fold_absorb_3 : decode b_Fold_absorb 3 = .ok (.ldc2_w 9, 3) := by decide +kernel
theorem d_Fold_absorb_6 : decode b_Fold_absorb 6 = .ok (.lmul, 1) := by decide +kernel
theorem d_Fold_absorb_7 : decode b_Fold_absorb 7 = .ok (.lstore 4, 2) := by decide +kernel
theorem d_Fold_absorb_9 : decode b_Fold_absorb 9 = .ok (.lload 4, 2) := by decide +kernel
theorem d_Fold_absorb_11 : decode b_Fold_absorb 11 = .ok (.lload 4, 2) := by decide +kernel
theorem d_Fold_absorb_13 : decode b_Fold_absorb 13 = .ok (.bipush 29, 2) := by decide +kernel
theorem d_Fold_absorb_15 : decode b_Fold_absorb 15 = .ok (.lushr, 1) := by decide +kernel
theorem d_Fold_absorb_16 : decode b_Fold_absorb 16 = .ok (.lxor, 1) := by decide +kernel
theorem d_Fold_absorb_17 : decode b_Fold_absorb 17 = .ok (.lreturn, 1) := by decide +kernel
def f_Fold_absorb (a0 : Int64) (a2 : Int64) (S : St) : Int64 :=
  ((a0 ^^^ a2) * (-4417276706812531889 : Int64)) ^^^ ((((a0 ^^^ a2) * (-4417276706812531889 : Int64)).toUInt64 >>> ((29 : Int32).toInt64.toUInt64 &&& Int64.toUInt64 63)).toInt64)
set_option maxHeartbeats 4000000 in
set_option maxRecDepth 100000 in
theorem c_Fold_absorb (l : Launch) (D : va_G) (X : va_W) (ad : N3 → Nat) (ca : Nat → ClassId) (a0 : Int64) (a2 : Int64)  (S : St) : cL l GG D clQ (tysQ ca) nwQ X ad TQ (cfQ ad ca) y_Fold_absorb b_Fold_absorb 6 .long 0 0 [.long a0, .long a2] S ((f_Fold_absorb a0 a2 S), S) := by
  generalize hr : f_Fold_absorb a0 a2 S = res
  refine zL_of pn_Fold (Nat.le_of_ble_eq_true rfl) (fun p e s m below meth c A ls hy hW hA hl => ?_)
  have hF := hy.1
  have hx := hF.1
  have hb := hF.2.1
  have hK := hy.2.2.2
  have hl : lv_has ls 6 [(0, .long a0), (2, .long a2)] := hl
  refine lv_lload_n (pc := 0) hx hb d_Fold_absorb_0 rfl (lv_at hl 0 rfl) ?_
  refine lv_lload_n (pc := 1) hx hb d_Fold_absorb_1 rfl (lv_at hl 1 rfl) ?_
  refine lv_lxor (pc := 2) hx hb d_Fold_absorb_2 ?_
  refine lv_ldc2 (pc := 3) hx hb hF.2.2.2.1 (hF.2.2.2.2 _ gw_235) d_Fold_absorb_3 ?_
  refine lv_lmul (pc := 6) hx hb d_Fold_absorb_6 ?_
  refine lv_lstore (pc := 7) (lv' := [(4, .long ((a0 ^^^ a2) * (-4417276706812531889 : Int64))), (0, .long a0), (2, .long a2)]) hx hb d_Fold_absorb_7 hl (by decide) rfl (fun ls hl => ?_)
  refine lv_lload (pc := 9) hx hb d_Fold_absorb_9 (lv_at hl 0 rfl) ?_
  refine lv_lload (pc := 11) hx hb d_Fold_absorb_11 (lv_at hl 0 rfl) ?_
  refine lv_bipush (pc := 13) (v := 29) hx hb d_Fold_absorb_13 (by decide) ?_
  refine lv_lushr (pc := 15) hx hb d_Fold_absorb_15 rfl ?_
  refine lv_lxor (pc := 16) hx hb d_Fold_absorb_16 ?_
  exact z_lret (v := ((a0 ^^^ a2) * (-4417276706812531889 : Int64)) ^^^ ((((a0 ^^^ a2) * (-4417276706812531889 : Int64)).toUInt64 >>> ((29 : Int32).toInt64.toUInt64 &&& Int64.toUInt64 63)).toInt64)) hy hW (congrArg (fun z => (z, S)) hr.symm) d_Fold_absorb_17
theorem d_Fold_finish_0 : decode b_Fold_finish 0 = .ok (.lload_n 0, 1) := by decide +kernel
theorem d_Fold_finish_1 : decode b_Fold_finish 1 = .ok (.ldc2_w 11, 3) := by decide +kernel
theorem d_Fold_finish_4 : decode b_Fold_finish 4 = .ok (.lmul, 1) := by decide +kernel
theorem d_Fold_finish_5 : decode b_Fold_finish 5 = .ok (.lstore_n 2, 1) := by decide +kernel
theorem d_Fold_finish_6 : decode b_Fold_finish 6 = .ok (.lload_n 2, 1) := by decide +kernel
theorem d_Fold_finish_7 : decode b_Fold_finish 7 = .ok (.lload_n 2, 1) := by decide +kernel
theorem d_Fold_finish_8 : decode b_Fold_finish 8 = .ok (.bipush 32, 2) := by decide +kernel
theorem d_Fold_finish_10 : decode b_Fold_finish 10 = .ok (.lushr, 1) := by decide +kernel
theorem d_Fold_finish_11 : decode b_Fold_finish 11 = .ok (.lxor, 1) := by decide +kernel
theorem d_Fold_finish_12 : decode b_Fold_finish 12 = .ok (.lreturn, 1) := by decide +kernel
def f_Fold_finish (a0 : Int64) (S : St) : Int64 :=
  (a0 * (1609587929392839161 : Int64)) ^^^ (((a0 * (1609587929392839161 : Int64)).toUInt64 >>> ((32 : Int32).toInt64.toUInt64 &&& Int64.toUInt64 63)).toInt64)
set_option maxHeartbeats 4000000 in
set_option maxRecDepth 100000 in
theorem c_Fold_finish (l : Launch) (D : va_G) (X : va_W) (ad : N3 → Nat) (ca : Nat → ClassId) (a0 : Int64)  (S : St) : cL l GG D clQ (tysQ ca) nwQ X ad TQ (cfQ ad ca) y_Fold_finish b_Fold_finish 4 .long 0 0 [.long a0] S ((f_Fold_finish a0 S), S) := by
  generalize hr : f_Fold_finish a0 S = res
  refine zL_of pn_Fold (Nat.le_of_ble_eq_true rfl) (fun p e s m below meth c A ls hy hW hA hl => ?_)
  have hF := hy.1
  have hx := hF.1
  have hb := hF.2.1
  have hK := hy.2.2.2
  have hl : lv_has ls 4 [(0, .long a0)] := hl
  refine lv_lload_n (pc := 0) hx hb d_Fold_finish_0 rfl (lv_at hl 0 rfl) ?_
  refine lv_ldc2 (pc := 1) hx hb hF.2.2.2.1 (hF.2.2.2.2 _ gw_239) d_Fold_finish_1 ?_
  refine lv_lmul (pc := 4) hx hb d_Fold_finish_4 ?_
  refine lv_lstore_n (pc := 5) (lv' := [(2, .long (a0 * (1609587929392839161 : Int64))), (0, .long a0)]) hx hb d_Fold_finish_5 rfl hl (by decide) rfl (fun ls hl => ?_)
  refine lv_lload_n (pc := 6) hx hb d_Fold_finish_6 rfl (lv_at hl 0 rfl) ?_
  refine lv_lload_n (pc := 7) hx hb d_Fold_finish_7 rfl (lv_at hl 0 rfl) ?_
  refine lv_bipush (pc := 8) (v := 32) hx hb d_Fold_finish_8 (by decide) ?_
  refine lv_lushr (pc := 10) hx hb d_Fold_finish_10 rfl ?_
  refine lv_lxor (pc := 11) hx hb d_Fold_finish_11 ?_
  exact z_lret (v := (a0 * (1609587929392839161 : Int64)) ^^^ (((a0 * (1609587929392839161 : Int64)).toUInt64 >>> ((32 : Int32).toInt64.toUInt64 &&& Int64.toUInt64 63)).toInt64)) hy hW (congrArg (fun z => (z, S)) hr.symm) d_Fold_finish_12
theorem d_Message_meaning_0 : decode b_Message_meaning 0 = .ok (.ldc2_w 43, 3) := by decide +kernel
theorem d_Message_meaning_3 : decode b_Message_meaning 3 = .ok (.aload_n 0, 1) := by decide +kernel
theorem d_Message_meaning_4 : decode b_Message_meaning 4 = .ok (.getfield 19, 3) := by decide +kernel
theorem d_Message_meaning_7 : decode b_Message_meaning 7 = .ok (.i2l, 1) := by decide +kernel
theorem d_Message_meaning_8 : decode b_Message_meaning 8 = .ok (.invokestatic 45, 3) := by decide +kernel
theorem d_Message_meaning_11 : decode b_Message_meaning 11 = .ok (.lstore_n 1, 1) := by decide +kernel
theorem d_Message_meaning_12 : decode b_Message_meaning 12 = .ok (.aload_n 0, 1) := by decide +kernel
theorem d_Message_meaning_13 : decode b_Message_meaning 13 = .ok (.getfield 19, 3) := by decide +kernel
theorem d_Message_meaning_16 : decode b_Message_meaning 16 = .ok (.iconst 3, 1) := by decide +kernel
theorem d_Message_meaning_17 : decode b_Message_meaning 17 = .ok (.if_icmp .ne 13, 3) := by decide +kernel
theorem d_Message_meaning_20 : decode b_Message_meaning 20 = .ok (.lload_n 1, 1) := by decide +kernel
theorem d_Message_meaning_21 : decode b_Message_meaning 21 = .ok (.aload_n 0, 1) := by decide +kernel
theorem d_Message_meaning_22 : decode b_Message_meaning 22 = .ok (.getfield 28, 3) := by decide +kernel
theorem d_Message_meaning_25 : decode b_Message_meaning 25 = .ok (.i2l, 1) := by decide +kernel
theorem d_Message_meaning_26 : decode b_Message_meaning 26 = .ok (.invokestatic 45, 3) := by decide +kernel
theorem d_Message_meaning_29 : decode b_Message_meaning 29 = .ok (.lstore_n 1, 1) := by decide +kernel
theorem d_Message_meaning_30 : decode b_Message_meaning 30 = .ok (.lload_n 1, 1) := by decide +kernel
theorem d_Message_meaning_31 : decode b_Message_meaning 31 = .ok (.aload_n 0, 1) := by decide +kernel
theorem d_Message_meaning_32 : decode b_Message_meaning 32 = .ok (.getfield 25, 3) := by decide +kernel
theorem d_Message_meaning_35 : decode b_Message_meaning 35 = .ok (.i2l, 1) := by decide +kernel
theorem d_Message_meaning_36 : decode b_Message_meaning 36 = .ok (.invokestatic 45, 3) := by decide +kernel
theorem d_Message_meaning_39 : decode b_Message_meaning 39 = .ok (.invokestatic 49, 3) := by decide +kernel
theorem d_Message_meaning_42 : decode b_Message_meaning 42 = .ok (.lreturn, 1) := by decide +kernel
def f_Message_meaning_30 (i0 : Nat) (j0 : Nat) (S : St) (l1 : Int64) : Int64 :=
  lt (f_Fold_absorb l1 ((S.1 14 i0 j0 3).toInt64) S) fun (r4 : Int64) =>
  lt (f_Fold_finish r4 S) fun (r5 : Int64) =>
  r5
def ok_Message_meaning_30 (i0 : Nat) (j0 : Nat) (S : St) (l1 : Int64) : Prop :=
  True
set_option maxHeartbeats 4000000 in
set_option maxRecDepth 100000 in
theorem w_Message_meaning_30 {l : Launch} {D : va_G} {X : va_W} {ad : N3 → Nat} {ca : Nat → ClassId} (i0 : Nat) (j0 : Nat) (h0 : inM i0 j0) (S : St) {p : Program} {e : Env} {s : State} {m : MethodId} {below : List Frame} {meth : Method} {c : Code} {A : Nat → Prop} (hy : Hy p s m ([.ref (ad (14, i0, j0))] : List Value).toArray meth c b_Message_meaning 3 (some .long) R_Message GG D clQ (tysQ ca) nwQ) (hA : ∀ q, s.heap.size ≤ q → A q) {res : Int64} : ∀  (l1 : Int64) , ok_Message_meaning_30 i0 j0 S l1 → f_Message_meaning_30 i0 j0 S l1 = res → ∀ (H : Heap) (locs : List Loc) (ls : Array Slot), Wd D clQ A s.heap (zw X ad TQ (cfQ ad ca) S) H locs → lv_has ls 3 [(0, .ref (ad (14, i0, j0))), (1, .long l1)] → W p l e { frames := 1, cells := 0, slots := 0, locals := 25 } s m ([.ref (ad (14, i0, j0))] : List Value).toArray below meth c H locs 0 0 (MQ below (eL D clQ X ad TQ (cfQ ad ca) A (res, S)) ([.ref (ad (14, i0, j0))] : List Value).toArray s 0 0 A) (F0 m 30 ls []) := by
  have hF := hy.1
  have hx := hF.1
  have hb := hF.2.1
  have hK := hy.2.2.2
  intro l1 hk hr H locs ls hW hl
  refine lv_lload_n (pc := 30) hx hb d_Message_meaning_30 rfl (lv_at hl 1 rfl) ?_
  refine lv_aload_n (pc := 31) hx hb d_Message_meaning_31 rfl (lv_at hl 0 rfl) ?_
  refine z_get (pc := 32) (v := .int (S.1 14 i0 j0 3)) hF hK.1 hW (tq14 h0) rfl rfl in_Message 3 (by decide) gw_143 rfl rfl d_Message_meaning_32 ?_
  refine lv_i2l (pc := 35) hx hb d_Message_meaning_35 rfl ?_
  obtain ⟨r4, er4⟩ : ∃ z : Int64, z = f_Fold_absorb l1 ((S.1 14 i0 j0 3).toInt64) S := ⟨_, rfl⟩
  have hr := lt_e er4 hr
  refine z_goL (pc := 36) hW hA (congrArg (fun q => (q, S)) er4) (z_runS hF hK hW (c_Fold_absorb l D X ad ca l1 ((S.1 14 i0 j0 3).toInt64) S _) cd_Fold_absorb gw_398 ⟨Nat.le_of_ble_eq_true rfl, Nat.le_of_ble_eq_true rfl⟩ ⟨Nat.zero_le _, Nat.zero_le _⟩ rfl rfl hl.1 (Nat.le_of_ble_eq_true rfl) d_Message_meaning_36) (fun H locs (hW : Wd D clQ A s.heap (zw X ad TQ (cfQ ad ca) S) H locs) => ?_)
  obtain ⟨r5, er5⟩ : ∃ z : Int64, z = f_Fold_finish r4 S := ⟨_, rfl⟩
  have hr := lt_e er5 hr
  refine z_goL (pc := 39) hW hA (congrArg (fun q => (q, S)) er5) (z_runS hF hK hW (c_Fold_finish l D X ad ca r4 S _) cd_Fold_finish gw_399 ⟨Nat.le_of_ble_eq_true rfl, Nat.le_of_ble_eq_true rfl⟩ ⟨Nat.zero_le _, Nat.zero_le _⟩ rfl rfl hl.1 (Nat.le_of_ble_eq_true rfl) d_Message_meaning_39) (fun H locs (hW : Wd D clQ A s.heap (zw X ad TQ (cfQ ad ca) S) H locs) => ?_)
  exact z_lret (v := r5) hy hW (congrArg (fun z => (z, S)) hr.symm) d_Message_meaning_42
def f_Message_meaning (i0 : Nat) (j0 : Nat) (S : St) : Int64 :=
  lt (f_Fold_absorb (-7046029254386353131 : Int64) ((S.1 14 i0 j0 1).toInt64) S) fun (r1 : Int64) =>
  if (S.1 14 i0 j0 1) = (3 : Int32) then
    lt (f_Fold_absorb r1 ((S.1 14 i0 j0 4).toInt64) S) fun (r3 : Int64) =>
    f_Message_meaning_30 i0 j0 S r3
  else
    f_Message_meaning_30 i0 j0 S r1
def ok_Message_meaning (i0 : Nat) (j0 : Nat) (S : St) : Prop :=
  lt (f_Fold_absorb (-7046029254386353131 : Int64) ((S.1 14 i0 j0 1).toInt64) S) fun (r1 : Int64) =>
  ((S.1 14 i0 j0 1) = (3 : Int32) → (
    lt (f_Fold_absorb r1 ((S.1 14 i0 j0 4).toInt64) S) fun (r3 : Int64) =>
    ok_Message_meaning_30 i0 j0 S r3)) ∧ (¬ ((S.1 14 i0 j0 1) = (3 : Int32)) → (
    ok_Message_meaning_30 i0 j0 S r1))
set_option maxHeartbeats 4000000 in
set_option maxRecDepth 100000 in
theorem c_Message_meaning (l : Launch) (D : va_G) (X : va_W) (ad : N3 → Nat) (ca : Nat → ClassId) (i0 : Nat) (j0 : Nat) (h0 : inM i0 j0) (S : St) (hk : ok_Message_meaning i0 j0 S) : cL l GG D clQ (tysQ ca) nwQ X ad TQ (cfQ ad ca) y_Message_meaning b_Message_meaning 3 .long 1 25 [.ref (ad (14, i0, j0))] S ((f_Message_meaning i0 j0 S), S) := by
  generalize hr : f_Message_meaning i0 j0 S = res
  refine zL_of pn_Message (Nat.le_of_ble_eq_true rfl) (fun p e s m below meth c A ls hy hW hA hl => ?_)
  have hF := hy.1
  have hx := hF.1
  have hb := hF.2.1
  have hK := hy.2.2.2
  have hl : lv_has ls 3 [(0, .ref (ad (14, i0, j0)))] := hl
  refine lv_ldc2 (pc := 0) hx hb hF.2.2.2.1 (hF.2.2.2.2 _ gw_397) d_Message_meaning_0 ?_
  refine lv_aload_n (pc := 3) hx hb d_Message_meaning_3 rfl (lv_at hl 0 rfl) ?_
  refine z_get (pc := 4) (v := .int (S.1 14 i0 j0 1)) hF hK.1 hW (tq14 h0) rfl rfl in_Message 1 (by decide) gw_139 rfl rfl d_Message_meaning_4 ?_
  refine lv_i2l (pc := 7) hx hb d_Message_meaning_7 rfl ?_
  obtain ⟨r1, er1⟩ : ∃ z : Int64, z = f_Fold_absorb (-7046029254386353131 : Int64) ((S.1 14 i0 j0 1).toInt64) S := ⟨_, rfl⟩
  have hk := lt_p er1 hk
  have hr := lt_e er1 hr
  refine z_goL (pc := 8) hW hA (congrArg (fun q => (q, S)) er1) (z_runS hF hK hW (c_Fold_absorb l D X ad ca (-7046029254386353131 : Int64) ((S.1 14 i0 j0 1).toInt64) S _) cd_Fold_absorb gw_398 ⟨Nat.le_of_ble_eq_true rfl, Nat.le_of_ble_eq_true rfl⟩ ⟨Nat.zero_le _, Nat.zero_le _⟩ rfl rfl hl.1 (Nat.le_of_ble_eq_true rfl) d_Message_meaning_8) (fun H locs (hW : Wd D clQ A s.heap (zw X ad TQ (cfQ ad ca) S) H locs) => ?_)
  refine lv_lstore_n (pc := 11) (lv' := [(1, .long r1), (0, .ref (ad (14, i0, j0)))]) hx hb d_Message_meaning_11 rfl hl (by decide) rfl (fun ls hl => ?_)
  refine lv_aload_n (pc := 12) hx hb d_Message_meaning_12 rfl (lv_at hl 1 rfl) ?_
  refine z_get (pc := 13) (v := .int (S.1 14 i0 j0 1)) hF hK.1 hW (tq14 h0) rfl rfl in_Message 1 (by decide) gw_139 rfl rfl d_Message_meaning_13 ?_
  refine lv_iconst (pc := 16) (v := 3) hx hb d_Message_meaning_16 (by decide) ?_
  refine lv_icmp_ne (pc := 17) (tgt := 30) hx hb d_Message_meaning_17 (by decide) (fun c2 => ?_) (fun c2 => ?_)
  · have hk := hk.2 c2
    have hr := (if_neg c2).symm.trans hr
    exact w_Message_meaning_30 i0 j0 h0 S hy hA r1 hk hr _ _ _ hW (lv_sub hl [1, 0] rfl)
  · have hk := hk.1 c2
    have hr := (if_pos c2).symm.trans hr
    refine lv_lload_n (pc := 20) hx hb d_Message_meaning_20 rfl (lv_at hl 0 rfl) ?_
    refine lv_aload_n (pc := 21) hx hb d_Message_meaning_21 rfl (lv_at hl 1 rfl) ?_
    refine z_get (pc := 22) (v := .int (S.1 14 i0 j0 4)) hF hK.1 hW (tq14 h0) rfl rfl in_Message 4 (by decide) gw_145 rfl rfl d_Message_meaning_22 ?_
    refine lv_i2l (pc := 25) hx hb d_Message_meaning_25 rfl ?_
    obtain ⟨r3, er3⟩ : ∃ z : Int64, z = f_Fold_absorb r1 ((S.1 14 i0 j0 4).toInt64) S := ⟨_, rfl⟩
    have hk := lt_p er3 hk
    have hr := lt_e er3 hr
    refine z_goL (pc := 26) hW hA (congrArg (fun q => (q, S)) er3) (z_runS hF hK hW (c_Fold_absorb l D X ad ca r1 ((S.1 14 i0 j0 4).toInt64) S _) cd_Fold_absorb gw_398 ⟨Nat.le_of_ble_eq_true rfl, Nat.le_of_ble_eq_true rfl⟩ ⟨Nat.zero_le _, Nat.zero_le _⟩ rfl rfl hl.1 (Nat.le_of_ble_eq_true rfl) d_Message_meaning_26) (fun H locs (hW : Wd D clQ A s.heap (zw X ad TQ (cfQ ad ca) S) H locs) => ?_)
    refine lv_lstore_n (pc := 29) (lv' := [(1, .long r3), (0, .ref (ad (14, i0, j0)))]) hx hb d_Message_meaning_29 rfl hl (by decide) rfl (fun ls hl => ?_)
    exact w_Message_meaning_30 i0 j0 h0 S hy hA r3 hk hr _ _ _ hW (lv_sub hl [1, 0] rfl)
theorem d_KeyTree_digit_0 : decode b_KeyTree_digit 0 = .ok (.iload_n 0, 1) := by decide +kernel
theorem d_KeyTree_digit_1 : decode b_KeyTree_digit 1 = .ok (.iconst 4, 1) := by decide +kernel
theorem d_KeyTree_digit_2 : decode b_KeyTree_digit 2 = .ok (.iload_n 1, 1) := by decide +kernel
theorem d_KeyTree_digit_3 : decode b_KeyTree_digit 3 = .ok (.imul, 1) := by decide +kernel
theorem d_KeyTree_digit_4 : decode b_KeyTree_digit 4 = .ok (.iushr, 1) := by decide +kernel
theorem d_KeyTree_digit_5 : decode b_KeyTree_digit 5 = .ok (.bipush 15, 2) := by decide +kernel
theorem d_KeyTree_digit_7 : decode b_KeyTree_digit 7 = .ok (.iand, 1) := by decide +kernel
theorem d_KeyTree_digit_8 : decode b_KeyTree_digit 8 = .ok (.ireturn, 1) := by decide +kernel
def f_KeyTree_digit (a0 : Int32) (a1 : Int32) (S : St) : Int32 :=
  ((a0.toUInt32 >>> (((4 : Int32) * a1).toUInt32 &&& Int32.toUInt32 31)).toInt32) &&& (15 : Int32)
set_option maxHeartbeats 4000000 in
set_option maxRecDepth 100000 in
theorem c_KeyTree_digit (l : Launch) (D : va_G) (X : va_W) (ad : N3 → Nat) (ca : Nat → ClassId) (a0 : Int32) (a1 : Int32)  (S : St) : cI l GG D clQ (tysQ ca) nwQ X ad TQ (cfQ ad ca) y_KeyTree_digit b_KeyTree_digit 2 .int 0 0 [.int a0, .int a1] S ((f_KeyTree_digit a0 a1 S), S) := by
  generalize hr : f_KeyTree_digit a0 a1 S = res
  refine zI_of pn_KeyTree (Nat.le_of_ble_eq_true rfl) (fun p e s m below meth c A ls hy hW hA hl => ?_)
  have hF := hy.1
  have hx := hF.1
  have hb := hF.2.1
  have hK := hy.2.2.2
  have hl : lv_has ls 2 [(0, .int a0), (1, .int a1)] := hl
  refine lv_iload_n (pc := 0) hx hb d_KeyTree_digit_0 rfl (lv_at hl 0 rfl) ?_
  refine lv_iconst (pc := 1) (v := 4) hx hb d_KeyTree_digit_1 (by decide) ?_
  refine lv_iload_n (pc := 2) hx hb d_KeyTree_digit_2 rfl (lv_at hl 1 rfl) ?_
  refine lv_imul (pc := 3) hx hb d_KeyTree_digit_3 ?_
  refine lv_iushr (pc := 4) hx hb d_KeyTree_digit_4 rfl ?_
  refine lv_bipush (pc := 5) (v := 15) hx hb d_KeyTree_digit_5 (by decide) ?_
  refine lv_iand (pc := 7) hx hb d_KeyTree_digit_7 ?_
  exact z_iret (v := ((a0.toUInt32 >>> (((4 : Int32) * a1).toUInt32 &&& Int32.toUInt32 31)).toInt32) &&& (15 : Int32)) hy hW (congrArg (fun z => (z, S)) hr.symm) d_KeyTree_digit_8
theorem d_KeyTree_digitsOf_0 : decode b_KeyTree_digitsOf 0 = .ok (.ldc2_w 67, 3) := by decide +kernel
theorem d_KeyTree_digitsOf_3 : decode b_KeyTree_digitsOf 3 = .ok (.lload_n 0, 1) := by decide +kernel
theorem d_KeyTree_digitsOf_4 : decode b_KeyTree_digitsOf 4 = .ok (.invokestatic 69, 3) := by decide +kernel
theorem d_KeyTree_digitsOf_7 : decode b_KeyTree_digitsOf 7 = .ok (.invokestatic 72, 3) := by decide +kernel
theorem d_KeyTree_digitsOf_10 : decode b_KeyTree_digitsOf 10 = .ok (.ldc2_w 79, 3) := by decide +kernel
theorem d_KeyTree_digitsOf_13 : decode b_KeyTree_digitsOf 13 = .ok (.land, 1) := by decide +kernel
theorem d_KeyTree_digitsOf_14 : decode b_KeyTree_digitsOf 14 = .ok (.l2i, 1) := by decide +kernel
theorem d_KeyTree_digitsOf_15 : decode b_KeyTree_digitsOf 15 = .ok (.istore_n 2, 1) := by decide +kernel
theorem d_KeyTree_digitsOf_16 : decode b_KeyTree_digitsOf 16 = .ok (.iconst 0, 1) := by decide +kernel
theorem d_KeyTree_digitsOf_17 : decode b_KeyTree_digitsOf 17 = .ok (.istore_n 3, 1) := by decide +kernel
theorem d_KeyTree_digitsOf_18 : decode b_KeyTree_digitsOf 18 = .ok (.iconst 0, 1) := by decide +kernel
theorem d_KeyTree_digitsOf_19 : decode b_KeyTree_digitsOf 19 = .ok (.istore 4, 2) := by decide +kernel
theorem d_KeyTree_digitsOf_21 : decode b_KeyTree_digitsOf 21 = .ok (.iload 4, 2) := by decide +kernel
theorem d_KeyTree_digitsOf_23 : decode b_KeyTree_digitsOf 23 = .ok (.iconst 4, 1) := by decide +kernel
theorem d_KeyTree_digitsOf_24 : decode b_KeyTree_digitsOf 24 = .ok (.if_icmp .ge 18, 3) := by decide +kernel
theorem d_KeyTree_digitsOf_27 : decode b_KeyTree_digitsOf 27 = .ok (.iload_n 3, 1) := by decide +kernel
theorem d_KeyTree_digitsOf_28 : decode b_KeyTree_digitsOf 28 = .ok (.iload_n 2, 1) := by decide +kernel
theorem d_KeyTree_digitsOf_29 : decode b_KeyTree_digitsOf 29 = .ok (.iload 4, 2) := by decide +kernel
theorem d_KeyTree_digitsOf_31 : decode b_KeyTree_digitsOf 31 = .ok (.invokestatic 59, 3) := by decide +kernel
theorem d_KeyTree_digitsOf_34 : decode b_KeyTree_digitsOf 34 = .ok (.iadd, 1) := by decide +kernel
theorem d_KeyTree_digitsOf_35 : decode b_KeyTree_digitsOf 35 = .ok (.istore_n 3, 1) := by decide +kernel
theorem d_KeyTree_digitsOf_36 : decode b_KeyTree_digitsOf 36 = .ok (.iinc 4 1, 3) := by decide +kernel
theorem d_KeyTree_digitsOf_39 : decode b_KeyTree_digitsOf 39 = .ok (.goto (-18), 3) := by decide +kernel
theorem d_KeyTree_digitsOf_42 : decode b_KeyTree_digitsOf 42 = .ok (.iload_n 2, 1) := by decide +kernel
theorem d_KeyTree_digitsOf_43 : decode b_KeyTree_digitsOf 43 = .ok (.bipush 60, 2) := by decide +kernel
theorem d_KeyTree_digitsOf_45 : decode b_KeyTree_digitsOf 45 = .ok (.iload_n 3, 1) := by decide +kernel
theorem d_KeyTree_digitsOf_46 : decode b_KeyTree_digitsOf 46 = .ok (.isub, 1) := by decide +kernel
theorem d_KeyTree_digitsOf_47 : decode b_KeyTree_digitsOf 47 = .ok (.bipush 16, 2) := by decide +kernel
theorem d_KeyTree_digitsOf_49 : decode b_KeyTree_digitsOf 49 = .ok (.ishl, 1) := by decide +kernel
theorem d_KeyTree_digitsOf_50 : decode b_KeyTree_digitsOf 50 = .ok (.ior, 1) := by decide +kernel
theorem d_KeyTree_digitsOf_51 : decode b_KeyTree_digitsOf 51 = .ok (.ireturn, 1) := by decide +kernel
def f_KeyTree_digitsOf_21 (a0 : Int64) : Nat → St → Int32 → Int32 → Int32 → Int32
  | 0, _, _, _, _ => 0
  | n + 1, S, l2, l3, l4 =>
    if (4 : Int32) ≤ l4 then
      l2 ||| (((60 : Int32) - l3) <<< ((16 : Int32) &&& 31))
    else
      lt (f_KeyTree_digit l2 l4 S) fun (r4 : Int32) =>
      f_KeyTree_digitsOf_21 a0 n S l2 (l3 + r4) (l4 + (1 : Int32))
def ok_KeyTree_digitsOf_21 (a0 : Int64) : Nat → St → Int32 → Int32 → Int32 → Prop
  | 0, _, _, _, _ => False
  | n + 1, S, l2, l3, l4 =>
    ((4 : Int32) ≤ l4 → (
      True)) ∧ (¬ ((4 : Int32) ≤ l4) → (
      lt (f_KeyTree_digit l2 l4 S) fun (r4 : Int32) =>
      ok_KeyTree_digitsOf_21 a0 n S l2 (l3 + r4) (l4 + (1 : Int32))))
set_option maxHeartbeats 4000000 in
set_option maxRecDepth 100000 in
theorem w_KeyTree_digitsOf_21 {l : Launch} {D : va_G} {X : va_W} {ad : N3 → Nat} {ca : Nat → ClassId} (a0 : Int64)  (S : St) {p : Program} {e : Env} {s : State} {m : MethodId} {below : List Frame} {meth : Method} {c : Code} {A : Nat → Prop} (hy : Hy p s m ([.long a0] : List Value).toArray meth c b_KeyTree_digitsOf 5 (some .int) R_KeyTree GG D clQ (tysQ ca) nwQ) (hA : ∀ q, s.heap.size ≤ q → A q) {res : Int32} : ∀ (n : Nat) (l2 : Int32) (l3 : Int32) (l4 : Int32) , ok_KeyTree_digitsOf_21 a0 n S l2 l3 l4 → f_KeyTree_digitsOf_21 a0 n S l2 l3 l4 = res → ∀ (H : Heap) (locs : List Loc) (ls : Array Slot), Wd D clQ A s.heap (zw X ad TQ (cfQ ad ca) S) H locs → lv_has ls 5 [(2, .int l2), (3, .int l3), (4, .int l4)] → W p l e { frames := 1, cells := 0, slots := 0, locals := 25 } s m ([.long a0] : List Value).toArray below meth c H locs 0 0 (MQ below (eI D clQ X ad TQ (cfQ ad ca) A (res, S)) ([.long a0] : List Value).toArray s 0 0 A) (F0 m 21 ls []) := by
  have hF := hy.1
  have hx := hF.1
  have hb := hF.2.1
  have hK := hy.2.2.2
  intro n
  induction n with
  | zero =>
    intro l2 l3 l4 hk
    exact hk.elim
  | succ n ih =>
    intro l2 l3 l4 hk hr H locs ls hW hl
    refine lv_iload (pc := 21) hx hb d_KeyTree_digitsOf_21 (lv_at hl 2 rfl) ?_
    refine lv_iconst (pc := 23) (v := 4) hx hb d_KeyTree_digitsOf_23 (by decide) ?_
    refine lv_icmp_ge (pc := 24) (tgt := 42) hx hb d_KeyTree_digitsOf_24 (by decide) (fun c3 => ?_) (fun c3 => ?_)
    · have hk := hk.1 c3
      have hr := (if_pos c3).symm.trans hr
      refine lv_iload_n (pc := 42) hx hb d_KeyTree_digitsOf_42 rfl (lv_at hl 0 rfl) ?_
      refine lv_bipush (pc := 43) (v := 60) hx hb d_KeyTree_digitsOf_43 (by decide) ?_
      refine lv_iload_n (pc := 45) hx hb d_KeyTree_digitsOf_45 rfl (lv_at hl 1 rfl) ?_
      refine lv_isub (pc := 46) hx hb d_KeyTree_digitsOf_46 ?_
      refine lv_bipush (pc := 47) (v := 16) hx hb d_KeyTree_digitsOf_47 (by decide) ?_
      refine lv_ishl (pc := 49) hx hb d_KeyTree_digitsOf_49 ?_
      refine lv_ior (pc := 50) hx hb d_KeyTree_digitsOf_50 ?_
      exact z_iret (v := l2 ||| (((60 : Int32) - l3) <<< ((16 : Int32) &&& 31))) hy hW (congrArg (fun z => (z, S)) hr.symm) d_KeyTree_digitsOf_51
    · have hk := hk.2 c3
      have hr := (if_neg c3).symm.trans hr
      refine lv_iload_n (pc := 27) hx hb d_KeyTree_digitsOf_27 rfl (lv_at hl 1 rfl) ?_
      refine lv_iload_n (pc := 28) hx hb d_KeyTree_digitsOf_28 rfl (lv_at hl 0 rfl) ?_
      refine lv_iload (pc := 29) hx hb d_KeyTree_digitsOf_29 (lv_at hl 2 rfl) ?_
      obtain ⟨r4, er4⟩ : ∃ z : Int32, z = f_KeyTree_digit l2 l4 S := ⟨_, rfl⟩
      have hk := lt_p er4 hk
      have hr := lt_e er4 hr
      refine z_goI (pc := 31) hW hA (congrArg (fun q => (q, S)) er4) (z_runS hF hK hW (c_KeyTree_digit l D X ad ca l2 l4 S _) cd_KeyTree_digit gw_404 ⟨Nat.le_of_ble_eq_true rfl, Nat.le_of_ble_eq_true rfl⟩ ⟨Nat.zero_le _, Nat.zero_le _⟩ rfl rfl hl.1 (Nat.le_of_ble_eq_true rfl) d_KeyTree_digitsOf_31) (fun H locs (hW : Wd D clQ A s.heap (zw X ad TQ (cfQ ad ca) S) H locs) => ?_)
      refine lv_iadd (pc := 34) hx hb d_KeyTree_digitsOf_34 ?_
      refine lv_istore_n (pc := 35) (lv' := [(3, .int (l3 + r4)), (2, .int l2), (4, .int l4)]) hx hb d_KeyTree_digitsOf_35 rfl hl (by decide) rfl (fun ls hl => ?_)
      refine lv_iinc (pc := 36) (v := l4 + (1 : Int32)) (lv' := [(4, .int (l4 + (1 : Int32))), (3, .int (l3 + r4)), (2, .int l2)]) (k := 2) hx hb d_KeyTree_digitsOf_36 hl rfl (z_inc (by decide)) (by decide) rfl (fun ls hl => ?_)
      refine lv_goto (pc := 39) (tgt := 21) hx hb d_KeyTree_digitsOf_39 (by decide) ?_
      exact ih l2 (l3 + r4) (l4 + (1 : Int32)) hk hr _ _ _ hW (lv_sub hl [2, 1, 0] rfl)
def f_KeyTree_digitsOf (a0 : Int64) (S : St) : Int32 :=
  lt (f_Fold_absorb (-7046029254386353131 : Int64) a0 S) fun (r1 : Int64) =>
  lt (f_Fold_finish r1 S) fun (r2 : Int64) =>
  f_KeyTree_digitsOf_21 a0 200 S ((r2 &&& (65535 : Int64)).toInt32) (0 : Int32) (0 : Int32)
def ok_KeyTree_digitsOf (a0 : Int64) (S : St) : Prop :=
  lt (f_Fold_absorb (-7046029254386353131 : Int64) a0 S) fun (r1 : Int64) =>
  lt (f_Fold_finish r1 S) fun (r2 : Int64) =>
  ok_KeyTree_digitsOf_21 a0 200 S ((r2 &&& (65535 : Int64)).toInt32) (0 : Int32) (0 : Int32)
set_option maxHeartbeats 4000000 in
set_option maxRecDepth 100000 in
theorem c_KeyTree_digitsOf (l : Launch) (D : va_G) (X : va_W) (ad : N3 → Nat) (ca : Nat → ClassId) (a0 : Int64)  (S : St) (hk : ok_KeyTree_digitsOf a0 S) : cI l GG D clQ (tysQ ca) nwQ X ad TQ (cfQ ad ca) y_KeyTree_digitsOf b_KeyTree_digitsOf 5 .int 1 25 [.long a0] S ((f_KeyTree_digitsOf a0 S), S) := by
  generalize hr : f_KeyTree_digitsOf a0 S = res
  refine zI_of pn_KeyTree (Nat.le_of_ble_eq_true rfl) (fun p e s m below meth c A ls hy hW hA hl => ?_)
  have hF := hy.1
  have hx := hF.1
  have hb := hF.2.1
  have hK := hy.2.2.2
  have hl : lv_has ls 5 [(0, .long a0)] := hl
  refine lv_ldc2 (pc := 0) hx hb hF.2.2.2.1 (hF.2.2.2.2 _ gw_228) d_KeyTree_digitsOf_0 ?_
  refine lv_lload_n (pc := 3) hx hb d_KeyTree_digitsOf_3 rfl (lv_at hl 0 rfl) ?_
  obtain ⟨r1, er1⟩ : ∃ z : Int64, z = f_Fold_absorb (-7046029254386353131 : Int64) a0 S := ⟨_, rfl⟩
  have hk := lt_p er1 hk
  have hr := lt_e er1 hr
  refine z_goL (pc := 4) hW hA (congrArg (fun q => (q, S)) er1) (z_runS hF hK hW (c_Fold_absorb l D X ad ca (-7046029254386353131 : Int64) a0 S _) cd_Fold_absorb gw_232 ⟨Nat.le_of_ble_eq_true rfl, Nat.le_of_ble_eq_true rfl⟩ ⟨Nat.zero_le _, Nat.zero_le _⟩ rfl rfl hl.1 (Nat.le_of_ble_eq_true rfl) d_KeyTree_digitsOf_4) (fun H locs (hW : Wd D clQ A s.heap (zw X ad TQ (cfQ ad ca) S) H locs) => ?_)
  obtain ⟨r2, er2⟩ : ∃ z : Int64, z = f_Fold_finish r1 S := ⟨_, rfl⟩
  have hk := lt_p er2 hk
  have hr := lt_e er2 hr
  refine z_goL (pc := 7) hW hA (congrArg (fun q => (q, S)) er2) (z_runS hF hK hW (c_Fold_finish l D X ad ca r1 S _) cd_Fold_finish gw_236 ⟨Nat.le_of_ble_eq_true rfl, Nat.le_of_ble_eq_true rfl⟩ ⟨Nat.zero_le _, Nat.zero_le _⟩ rfl rfl hl.1 (Nat.le_of_ble_eq_true rfl) d_KeyTree_digitsOf_7) (fun H locs (hW : Wd D clQ A s.heap (zw X ad TQ (cfQ ad ca) S) H locs) => ?_)
  refine lv_ldc2 (pc := 10) hx hb hF.2.2.2.1 (hF.2.2.2.2 _ gw_403) d_KeyTree_digitsOf_10 ?_
  refine lv_land (pc := 13) hx hb d_KeyTree_digitsOf_13 ?_
  refine lv_l2i (pc := 14) hx hb d_KeyTree_digitsOf_14 rfl ?_
  refine lv_istore_n (pc := 15) (lv' := [(2, .int ((r2 &&& (65535 : Int64)).toInt32)), (0, .long a0)]) hx hb d_KeyTree_digitsOf_15 rfl hl (by decide) rfl (fun ls hl => ?_)
  refine lv_iconst (pc := 16) (v := 0) hx hb d_KeyTree_digitsOf_16 (by decide) ?_
  refine lv_istore_n (pc := 17) (lv' := [(3, .int (0 : Int32)), (2, .int ((r2 &&& (65535 : Int64)).toInt32)), (0, .long a0)]) hx hb d_KeyTree_digitsOf_17 rfl hl (by decide) rfl (fun ls hl => ?_)
  refine lv_iconst (pc := 18) (v := 0) hx hb d_KeyTree_digitsOf_18 (by decide) ?_
  refine lv_istore (pc := 19) (lv' := [(4, .int (0 : Int32)), (3, .int (0 : Int32)), (2, .int ((r2 &&& (65535 : Int64)).toInt32)), (0, .long a0)]) hx hb d_KeyTree_digitsOf_19 hl (by decide) rfl (fun ls hl => ?_)
  exact w_KeyTree_digitsOf_21 a0 S hy hA 200 ((r2 &&& (65535 : Int64)).toInt32) (0 : Int32) (0 : Int32) hk hr _ _ _ hW (lv_sub hl [2, 1, 0] rfl)
theorem d_KeyTree_secretOf_0 : decode b_KeyTree_secretOf 0 = .ok (.ldc2_w 67, 3) := by decide +kernel
theorem d_KeyTree_secretOf_3 : decode b_KeyTree_secretOf 3 = .ok (.iload_n 0, 1) := by decide +kernel
theorem d_KeyTree_secretOf_4 : decode b_KeyTree_secretOf 4 = .ok (.i2l, 1) := by decide +kernel
theorem d_KeyTree_secretOf_5 : decode b_KeyTree_secretOf 5 = .ok (.invokestatic 69, 3) := by decide +kernel
theorem d_KeyTree_secretOf_8 : decode b_KeyTree_secretOf 8 = .ok (.iload_n 1, 1) := by decide +kernel
theorem d_KeyTree_secretOf_9 : decode b_KeyTree_secretOf 9 = .ok (.i2l, 1) := by decide +kernel
theorem d_KeyTree_secretOf_10 : decode b_KeyTree_secretOf 10 = .ok (.invokestatic 69, 3) := by decide +kernel
theorem d_KeyTree_secretOf_13 : decode b_KeyTree_secretOf 13 = .ok (.lstore 4, 2) := by decide +kernel
theorem d_KeyTree_secretOf_15 : decode b_KeyTree_secretOf 15 = .ok (.lload 4, 2) := by decide +kernel
theorem d_KeyTree_secretOf_17 : decode b_KeyTree_secretOf 17 = .ok (.iload_n 2, 1) := by decide +kernel
theorem d_KeyTree_secretOf_18 : decode b_KeyTree_secretOf 18 = .ok (.i2l, 1) := by decide +kernel
theorem d_KeyTree_secretOf_19 : decode b_KeyTree_secretOf 19 = .ok (.invokestatic 69, 3) := by decide +kernel
theorem d_KeyTree_secretOf_22 : decode b_KeyTree_secretOf 22 = .ok (.iload_n 3, 1) := by decide +kernel
theorem d_KeyTree_secretOf_23 : decode b_KeyTree_secretOf 23 = .ok (.i2l, 1) := by decide +kernel
theorem d_KeyTree_secretOf_24 : decode b_KeyTree_secretOf 24 = .ok (.invokestatic 69, 3) := by decide +kernel
theorem d_KeyTree_secretOf_27 : decode b_KeyTree_secretOf 27 = .ok (.invokestatic 72, 3) := by decide +kernel
theorem d_KeyTree_secretOf_30 : decode b_KeyTree_secretOf 30 = .ok (.lreturn, 1) := by decide +kernel
def f_KeyTree_secretOf (a0 : Int32) (a1 : Int32) (a2 : Int32) (a3 : Int32) (S : St) : Int64 :=
  lt (f_Fold_absorb (-7046029254386353131 : Int64) a0.toInt64 S) fun (r1 : Int64) =>
  lt (f_Fold_absorb r1 a1.toInt64 S) fun (r2 : Int64) =>
  lt (f_Fold_absorb r2 a2.toInt64 S) fun (r3 : Int64) =>
  lt (f_Fold_absorb r3 a3.toInt64 S) fun (r4 : Int64) =>
  lt (f_Fold_finish r4 S) fun (r5 : Int64) =>
  r5
set_option maxHeartbeats 4000000 in
set_option maxRecDepth 100000 in
theorem c_KeyTree_secretOf (l : Launch) (D : va_G) (X : va_W) (ad : N3 → Nat) (ca : Nat → ClassId) (a0 : Int32) (a1 : Int32) (a2 : Int32) (a3 : Int32)  (S : St) : cL l GG D clQ (tysQ ca) nwQ X ad TQ (cfQ ad ca) y_KeyTree_secretOf b_KeyTree_secretOf 6 .long 1 25 [.int a0, .int a1, .int a2, .int a3] S ((f_KeyTree_secretOf a0 a1 a2 a3 S), S) := by
  generalize hr : f_KeyTree_secretOf a0 a1 a2 a3 S = res
  refine zL_of pn_KeyTree (Nat.le_of_ble_eq_true rfl) (fun p e s m below meth c A ls hy hW hA hl => ?_)
  have hF := hy.1
  have hx := hF.1
  have hb := hF.2.1
  have hK := hy.2.2.2
  have hl : lv_has ls 6 [(0, .int a0), (1, .int a1), (2, .int a2), (3, .int a3)] := hl
  refine lv_ldc2 (pc := 0) hx hb hF.2.2.2.1 (hF.2.2.2.2 _ gw_228) d_KeyTree_secretOf_0 ?_
  refine lv_iload_n (pc := 3) hx hb d_KeyTree_secretOf_3 rfl (lv_at hl 0 rfl) ?_
  refine lv_i2l (pc := 4) hx hb d_KeyTree_secretOf_4 rfl ?_
  obtain ⟨r1, er1⟩ : ∃ z : Int64, z = f_Fold_absorb (-7046029254386353131 : Int64) a0.toInt64 S := ⟨_, rfl⟩
  have hr := lt_e er1 hr
  refine z_goL (pc := 5) hW hA (congrArg (fun q => (q, S)) er1) (z_runS hF hK hW (c_Fold_absorb l D X ad ca (-7046029254386353131 : Int64) a0.toInt64 S _) cd_Fold_absorb gw_232 ⟨Nat.le_of_ble_eq_true rfl, Nat.le_of_ble_eq_true rfl⟩ ⟨Nat.zero_le _, Nat.zero_le _⟩ rfl rfl hl.1 (Nat.le_of_ble_eq_true rfl) d_KeyTree_secretOf_5) (fun H locs (hW : Wd D clQ A s.heap (zw X ad TQ (cfQ ad ca) S) H locs) => ?_)
  refine lv_iload_n (pc := 8) hx hb d_KeyTree_secretOf_8 rfl (lv_at hl 1 rfl) ?_
  refine lv_i2l (pc := 9) hx hb d_KeyTree_secretOf_9 rfl ?_
  obtain ⟨r2, er2⟩ : ∃ z : Int64, z = f_Fold_absorb r1 a1.toInt64 S := ⟨_, rfl⟩
  have hr := lt_e er2 hr
  refine z_goL (pc := 10) hW hA (congrArg (fun q => (q, S)) er2) (z_runS hF hK hW (c_Fold_absorb l D X ad ca r1 a1.toInt64 S _) cd_Fold_absorb gw_232 ⟨Nat.le_of_ble_eq_true rfl, Nat.le_of_ble_eq_true rfl⟩ ⟨Nat.zero_le _, Nat.zero_le _⟩ rfl rfl hl.1 (Nat.le_of_ble_eq_true rfl) d_KeyTree_secretOf_10) (fun H locs (hW : Wd D clQ A s.heap (zw X ad TQ (cfQ ad ca) S) H locs) => ?_)
  refine lv_lstore (pc := 13) (lv' := [(4, .long r2), (0, .int a0), (1, .int a1), (2, .int a2), (3, .int a3)]) hx hb d_KeyTree_secretOf_13 hl (by decide) rfl (fun ls hl => ?_)
  refine lv_lload (pc := 15) hx hb d_KeyTree_secretOf_15 (lv_at hl 0 rfl) ?_
  refine lv_iload_n (pc := 17) hx hb d_KeyTree_secretOf_17 rfl (lv_at hl 3 rfl) ?_
  refine lv_i2l (pc := 18) hx hb d_KeyTree_secretOf_18 rfl ?_
  obtain ⟨r3, er3⟩ : ∃ z : Int64, z = f_Fold_absorb r2 a2.toInt64 S := ⟨_, rfl⟩
  have hr := lt_e er3 hr
  refine z_goL (pc := 19) hW hA (congrArg (fun q => (q, S)) er3) (z_runS hF hK hW (c_Fold_absorb l D X ad ca r2 a2.toInt64 S _) cd_Fold_absorb gw_232 ⟨Nat.le_of_ble_eq_true rfl, Nat.le_of_ble_eq_true rfl⟩ ⟨Nat.zero_le _, Nat.zero_le _⟩ rfl rfl hl.1 (Nat.le_of_ble_eq_true rfl) d_KeyTree_secretOf_19) (fun H locs (hW : Wd D clQ A s.heap (zw X ad TQ (cfQ ad ca) S) H locs) => ?_)
  refine lv_iload_n (pc := 22) hx hb d_KeyTree_secretOf_22 rfl (lv_at hl 4 rfl) ?_
  refine lv_i2l (pc := 23) hx hb d_KeyTree_secretOf_23 rfl ?_
  obtain ⟨r4, er4⟩ : ∃ z : Int64, z = f_Fold_absorb r3 a3.toInt64 S := ⟨_, rfl⟩
  have hr := lt_e er4 hr
  refine z_goL (pc := 24) hW hA (congrArg (fun q => (q, S)) er4) (z_runS hF hK hW (c_Fold_absorb l D X ad ca r3 a3.toInt64 S _) cd_Fold_absorb gw_232 ⟨Nat.le_of_ble_eq_true rfl, Nat.le_of_ble_eq_true rfl⟩ ⟨Nat.zero_le _, Nat.zero_le _⟩ rfl rfl hl.1 (Nat.le_of_ble_eq_true rfl) d_KeyTree_secretOf_24) (fun H locs (hW : Wd D clQ A s.heap (zw X ad TQ (cfQ ad ca) S) H locs) => ?_)
  obtain ⟨r5, er5⟩ : ∃ z : Int64, z = f_Fold_finish r4 S := ⟨_, rfl⟩
  have hr := lt_e er5 hr
  refine z_goL (pc := 27) hW hA (congrArg (fun q => (q, S)) er5) (z_runS hF hK hW (c_Fold_finish l D X ad ca r4 S _) cd_Fold_finish gw_236 ⟨Nat.le_of_ble_eq_true rfl, Nat.le_of_ble_eq_true rfl⟩ ⟨Nat.zero_le _, Nat.zero_le _⟩ rfl rfl hl.1 (Nat.le_of_ble_eq_true rfl) d_KeyTree_secretOf_27) (fun H locs (hW : Wd D clQ A s.heap (zw X ad TQ (cfQ ad ca) S) H locs) => ?_)
  exact z_lret (v := r5) hy hW (congrArg (fun z => (z, S)) hr.symm) d_KeyTree_secretOf_30
end
section
theorem d_Fold_afterSteps_0 : decode b_Fold_afterSteps 0 = .ok (.lload_n 0, 1) := by decide +kernel
theorem d_Fold_afterSteps_1 : decode b_Fold_afterSteps 1 = .ok (.lstore_n 3, 1) := by decide +kernel
theorem d_Fold_afterSteps_2 : decode b_Fold_afterSteps 2 = .ok (.iconst 0, 1) := by decide +kernel
theorem d_Fold_afterSteps_3 : decode b_Fold_afterSteps 3 = .ok (.istore 5, 2) := by decide +kernel
theorem d_Fold_afterSteps_5 : decode b_Fold_afterSteps 5 = .ok (.iload 5, 2) := by decide +kernel
theorem d_Fold_afterSteps_7 : decode b_Fold_afterSteps 7 = .ok (.iload_n 2, 1) := by decide +kernel
theorem d_Fold_afterSteps_8 : decode b_Fold_afterSteps 8 = .ok (.if_icmp .ge 26, 3) := by decide +kernel
theorem d_Fold_afterSteps_11 : decode b_Fold_afterSteps 11 = .ok (.ldc2_w 13, 3) := by decide +kernel
theorem d_Fold_afterSteps_14 : decode b_Fold_afterSteps 14 = .ok (.lload_n 3, 1) := by decide +kernel
theorem d_Fold_afterSteps_15 : decode b_Fold_afterSteps 15 = .ok (.invokestatic 15, 3) := by decide +kernel
theorem d_Fold_afterSteps_18 : decode b_Fold_afterSteps 18 = .ok (.ldc2_w 23, 3) := by decide +kernel
theorem d_Fold_afterSteps_21 : decode b_Fold_afterSteps 21 = .ok (.invokestatic 15, 3) := by decide +kernel
theorem d_Fold_afterSteps_24 : decode b_Fold_afterSteps 24 = .ok (.invokestatic 19, 3) := by decide +kernel
theorem d_Fold_afterSteps_27 : decode b_Fold_afterSteps 27 = .ok (.lstore_n 3, 1) := by decide +kernel
theorem d_Fold_afterSteps_28 : decode b_Fold_afterSteps 28 = .ok (.iinc 5 1, 3) := by decide +kernel
theorem d_Fold_afterSteps_31 : decode b_Fold_afterSteps 31 = .ok (.goto (-26), 3) := by decide +kernel
theorem d_Fold_afterSteps_34 : decode b_Fold_afterSteps 34 = .ok (.lload_n 3, 1) := by decide +kernel
theorem d_Fold_afterSteps_35 : decode b_Fold_afterSteps 35 = .ok (.lreturn, 1) := by decide +kernel
def f_Fold_afterSteps_5 (a0 : Int64) (a2 : Int32) : Nat → St → Int64 → Int32 → Int64
  | 0, _, _, _ => 0
  | n + 1, S, l3, l5 =>
    if a2 ≤ l5 then
      l3
    else
      lt (f_Fold_absorb (-7046029254386353131 : Int64) l3 S) fun (r2 : Int64) =>
      lt (f_Fold_absorb r2 (77 : Int64) S) fun (r3 : Int64) =>
      lt (f_Fold_finish r3 S) fun (r4 : Int64) =>
      f_Fold_afterSteps_5 a0 a2 n S r4 (l5 + (1 : Int32))
def ok_Fold_afterSteps_5 (a0 : Int64) (a2 : Int32) : Nat → St → Int64 → Int32 → Prop
  | 0, _, _, _ => False
  | n + 1, S, l3, l5 =>
    (a2 ≤ l5 → (
      True)) ∧ (¬ (a2 ≤ l5) → (
      lt (f_Fold_absorb (-7046029254386353131 : Int64) l3 S) fun (r2 : Int64) =>
      lt (f_Fold_absorb r2 (77 : Int64) S) fun (r3 : Int64) =>
      lt (f_Fold_finish r3 S) fun (r4 : Int64) =>
      ok_Fold_afterSteps_5 a0 a2 n S r4 (l5 + (1 : Int32))))
set_option maxHeartbeats 4000000 in
set_option maxRecDepth 100000 in
theorem w_Fold_afterSteps_5 {l : Launch} {D : va_G} {X : va_W} {ad : N3 → Nat} {ca : Nat → ClassId} (a0 : Int64) (a2 : Int32)  (S : St) {p : Program} {e : Env} {s : State} {m : MethodId} {below : List Frame} {meth : Method} {c : Code} {A : Nat → Prop} (hy : Hy p s m ([.long a0, .int a2] : List Value).toArray meth c b_Fold_afterSteps 6 (some .long) R_Fold GG D clQ (tysQ ca) nwQ) (hA : ∀ q, s.heap.size ≤ q → A q) {res : Int64} : ∀ (n : Nat) (l3 : Int64) (l5 : Int32) , ok_Fold_afterSteps_5 a0 a2 n S l3 l5 → f_Fold_afterSteps_5 a0 a2 n S l3 l5 = res → ∀ (H : Heap) (locs : List Loc) (ls : Array Slot), Wd D clQ A s.heap (zw X ad TQ (cfQ ad ca) S) H locs → lv_has ls 6 [(2, .int a2), (3, .long l3), (5, .int l5)] → W p l e { frames := 1, cells := 0, slots := 0, locals := 25 } s m ([.long a0, .int a2] : List Value).toArray below meth c H locs 0 0 (MQ below (eL D clQ X ad TQ (cfQ ad ca) A (res, S)) ([.long a0, .int a2] : List Value).toArray s 0 0 A) (F0 m 5 ls []) := by
  have hF := hy.1
  have hx := hF.1
  have hb := hF.2.1
  have hK := hy.2.2.2
  intro n
  induction n with
  | zero =>
    intro l3 l5 hk
    exact hk.elim
  | succ n ih =>
    intro l3 l5 hk hr H locs ls hW hl
    refine lv_iload (pc := 5) hx hb d_Fold_afterSteps_5 (lv_at hl 2 rfl) ?_
    refine lv_iload_n (pc := 7) hx hb d_Fold_afterSteps_7 rfl (lv_at hl 0 rfl) ?_
    refine lv_icmp_ge (pc := 8) (tgt := 34) hx hb d_Fold_afterSteps_8 (by decide) (fun c1 => ?_) (fun c1 => ?_)
    · have hk := hk.1 c1
      have hr := (if_pos c1).symm.trans hr
      refine lv_lload_n (pc := 34) hx hb d_Fold_afterSteps_34 rfl (lv_at hl 1 rfl) ?_
      exact z_lret (v := l3) hy hW (congrArg (fun z => (z, S)) hr.symm) d_Fold_afterSteps_35
    · have hk := hk.2 c1
      have hr := (if_neg c1).symm.trans hr
      refine lv_ldc2 (pc := 11) hx hb hF.2.2.2.1 (hF.2.2.2.2 _ gw_243) d_Fold_afterSteps_11 ?_
      refine lv_lload_n (pc := 14) hx hb d_Fold_afterSteps_14 rfl (lv_at hl 1 rfl) ?_
      obtain ⟨r2, er2⟩ : ∃ z : Int64, z = f_Fold_absorb (-7046029254386353131 : Int64) l3 S := ⟨_, rfl⟩
      have hk := lt_p er2 hk
      have hr := lt_e er2 hr
      refine z_goL (pc := 15) hW hA (congrArg (fun q => (q, S)) er2) (z_runS hF hK hW (c_Fold_absorb l D X ad ca (-7046029254386353131 : Int64) l3 S _) cd_Fold_absorb gw_244 ⟨Nat.le_of_ble_eq_true rfl, Nat.le_of_ble_eq_true rfl⟩ ⟨Nat.zero_le _, Nat.zero_le _⟩ rfl rfl hl.1 (Nat.le_of_ble_eq_true rfl) d_Fold_afterSteps_15) (fun H locs (hW : Wd D clQ A s.heap (zw X ad TQ (cfQ ad ca) S) H locs) => ?_)
      refine lv_ldc2 (pc := 18) hx hb hF.2.2.2.1 (hF.2.2.2.2 _ gw_245) d_Fold_afterSteps_18 ?_
      obtain ⟨r3, er3⟩ : ∃ z : Int64, z = f_Fold_absorb r2 (77 : Int64) S := ⟨_, rfl⟩
      have hk := lt_p er3 hk
      have hr := lt_e er3 hr
      refine z_goL (pc := 21) hW hA (congrArg (fun q => (q, S)) er3) (z_runS hF hK hW (c_Fold_absorb l D X ad ca r2 (77 : Int64) S _) cd_Fold_absorb gw_244 ⟨Nat.le_of_ble_eq_true rfl, Nat.le_of_ble_eq_true rfl⟩ ⟨Nat.zero_le _, Nat.zero_le _⟩ rfl rfl hl.1 (Nat.le_of_ble_eq_true rfl) d_Fold_afterSteps_21) (fun H locs (hW : Wd D clQ A s.heap (zw X ad TQ (cfQ ad ca) S) H locs) => ?_)
      obtain ⟨r4, er4⟩ : ∃ z : Int64, z = f_Fold_finish r3 S := ⟨_, rfl⟩
      have hk := lt_p er4 hk
      have hr := lt_e er4 hr
      refine z_goL (pc := 24) hW hA (congrArg (fun q => (q, S)) er4) (z_runS hF hK hW (c_Fold_finish l D X ad ca r3 S _) cd_Fold_finish gw_246 ⟨Nat.le_of_ble_eq_true rfl, Nat.le_of_ble_eq_true rfl⟩ ⟨Nat.zero_le _, Nat.zero_le _⟩ rfl rfl hl.1 (Nat.le_of_ble_eq_true rfl) d_Fold_afterSteps_24) (fun H locs (hW : Wd D clQ A s.heap (zw X ad TQ (cfQ ad ca) S) H locs) => ?_)
      refine lv_lstore_n (pc := 27) (lv' := [(3, .long r4), (2, .int a2), (5, .int l5)]) hx hb d_Fold_afterSteps_27 rfl hl (by decide) rfl (fun ls hl => ?_)
      refine lv_iinc (pc := 28) (v := l5 + (1 : Int32)) (lv' := [(5, .int (l5 + (1 : Int32))), (3, .long r4), (2, .int a2)]) (k := 2) hx hb d_Fold_afterSteps_28 hl rfl (z_inc (by decide)) (by decide) rfl (fun ls hl => ?_)
      refine lv_goto (pc := 31) (tgt := 5) hx hb d_Fold_afterSteps_31 (by decide) ?_
      exact ih r4 (l5 + (1 : Int32)) hk hr _ _ _ hW (lv_sub hl [2, 1, 0] rfl)
def f_Fold_afterSteps (a0 : Int64) (a2 : Int32) (S : St) : Int64 :=
  f_Fold_afterSteps_5 a0 a2 200 S a0 (0 : Int32)
def ok_Fold_afterSteps (a0 : Int64) (a2 : Int32) (S : St) : Prop :=
  ok_Fold_afterSteps_5 a0 a2 200 S a0 (0 : Int32)
set_option maxHeartbeats 4000000 in
set_option maxRecDepth 100000 in
theorem c_Fold_afterSteps (l : Launch) (D : va_G) (X : va_W) (ad : N3 → Nat) (ca : Nat → ClassId) (a0 : Int64) (a2 : Int32)  (S : St) (hk : ok_Fold_afterSteps a0 a2 S) : cL l GG D clQ (tysQ ca) nwQ X ad TQ (cfQ ad ca) y_Fold_afterSteps b_Fold_afterSteps 6 .long 1 25 [.long a0, .int a2] S ((f_Fold_afterSteps a0 a2 S), S) := by
  generalize hr : f_Fold_afterSteps a0 a2 S = res
  refine zL_of pn_Fold (Nat.le_of_ble_eq_true rfl) (fun p e s m below meth c A ls hy hW hA hl => ?_)
  have hF := hy.1
  have hx := hF.1
  have hb := hF.2.1
  have hK := hy.2.2.2
  have hl : lv_has ls 6 [(0, .long a0), (2, .int a2)] := hl
  refine lv_lload_n (pc := 0) hx hb d_Fold_afterSteps_0 rfl (lv_at hl 0 rfl) ?_
  refine lv_lstore_n (pc := 1) (lv' := [(3, .long a0), (0, .long a0), (2, .int a2)]) hx hb d_Fold_afterSteps_1 rfl hl (by decide) rfl (fun ls hl => ?_)
  refine lv_iconst (pc := 2) (v := 0) hx hb d_Fold_afterSteps_2 (by decide) ?_
  refine lv_istore (pc := 3) (lv' := [(5, .int (0 : Int32)), (3, .long a0), (0, .long a0), (2, .int a2)]) hx hb d_Fold_afterSteps_3 hl (by decide) rfl (fun ls hl => ?_)
  exact w_Fold_afterSteps_5 a0 a2 S hy hA 200 a0 (0 : Int32) hk hr _ _ _ hW (lv_sub hl [3, 1, 0] rfl)
theorem d_KeyTree_sign_0 : decode b_KeyTree_sign 0 = .ok (.aload_n 0, 1) := by decide +kernel
theorem d_KeyTree_sign_1 : decode b_KeyTree_sign 1 = .ok (.invokevirtual 35, 3) := by decide +kernel
theorem d_KeyTree_sign_4 : decode b_KeyTree_sign 4 = .ok (.ifCond .ne 5, 3) := by decide +kernel
theorem d_KeyTree_sign_7 : decode b_KeyTree_sign 7 = .ok (.iconst 0, 1) := by decide +kernel
theorem d_KeyTree_sign_8 : decode b_KeyTree_sign 8 = .ok (.ireturn, 1) := by decide +kernel
theorem d_KeyTree_sign_9 : decode b_KeyTree_sign 9 = .ok (.aload_n 1, 1) := by decide +kernel
theorem d_KeyTree_sign_10 : decode b_KeyTree_sign 10 = .ok (.aload_n 0, 1) := by decide +kernel
theorem d_KeyTree_sign_11 : decode b_KeyTree_sign 11 = .ok (.getfield 32, 3) := by decide +kernel
theorem d_KeyTree_sign_14 : decode b_KeyTree_sign 14 = .ok (.putfield 39, 3) := by decide +kernel
theorem d_KeyTree_sign_17 : decode b_KeyTree_sign 17 = .ok (.aload_n 0, 1) := by decide +kernel
theorem d_KeyTree_sign_18 : decode b_KeyTree_sign 18 = .ok (.dup, 1) := by decide +kernel
theorem d_KeyTree_sign_19 : decode b_KeyTree_sign 19 = .ok (.getfield 32, 3) := by decide +kernel
theorem d_KeyTree_sign_22 : decode b_KeyTree_sign 22 = .ok (.iconst 1, 1) := by decide +kernel
theorem d_KeyTree_sign_23 : decode b_KeyTree_sign 23 = .ok (.iadd, 1) := by decide +kernel
theorem d_KeyTree_sign_24 : decode b_KeyTree_sign 24 = .ok (.putfield 32, 3) := by decide +kernel
theorem d_KeyTree_sign_27 : decode b_KeyTree_sign 27 = .ok (.aload_n 1, 1) := by decide +kernel
theorem d_KeyTree_sign_28 : decode b_KeyTree_sign 28 = .ok (.invokevirtual 44, 3) := by decide +kernel
theorem d_KeyTree_sign_31 : decode b_KeyTree_sign 31 = .ok (.invokestatic 48, 3) := by decide +kernel
theorem d_KeyTree_sign_34 : decode b_KeyTree_sign 34 = .ok (.istore_n 2, 1) := by decide +kernel
theorem d_KeyTree_sign_35 : decode b_KeyTree_sign 35 = .ok (.iconst 0, 1) := by decide +kernel
theorem d_KeyTree_sign_36 : decode b_KeyTree_sign 36 = .ok (.istore_n 3, 1) := by decide +kernel
theorem d_KeyTree_sign_37 : decode b_KeyTree_sign 37 = .ok (.iload_n 3, 1) := by decide +kernel
theorem d_KeyTree_sign_38 : decode b_KeyTree_sign 38 = .ok (.bipush 6, 2) := by decide +kernel
theorem d_KeyTree_sign_40 : decode b_KeyTree_sign 40 = .ok (.if_icmp .ge 39, 3) := by decide +kernel
theorem d_KeyTree_sign_43 : decode b_KeyTree_sign 43 = .ok (.aload_n 1, 1) := by decide +kernel
theorem d_KeyTree_sign_44 : decode b_KeyTree_sign 44 = .ok (.getfield 52, 3) := by decide +kernel
theorem d_KeyTree_sign_47 : decode b_KeyTree_sign 47 = .ok (.iload_n 3, 1) := by decide +kernel
theorem d_KeyTree_sign_48 : decode b_KeyTree_sign 48 = .ok (.aload_n 0, 1) := by decide +kernel
theorem d_KeyTree_sign_49 : decode b_KeyTree_sign 49 = .ok (.getfield 15, 3) := by decide +kernel
theorem d_KeyTree_sign_52 : decode b_KeyTree_sign 52 = .ok (.aload_n 0, 1) := by decide +kernel
theorem d_KeyTree_sign_53 : decode b_KeyTree_sign 53 = .ok (.getfield 19, 3) := by decide +kernel
theorem d_KeyTree_sign_56 : decode b_KeyTree_sign 56 = .ok (.aload_n 1, 1) := by decide +kernel
theorem d_KeyTree_sign_57 : decode b_KeyTree_sign 57 = .ok (.getfield 39, 3) := by decide +kernel
theorem d_KeyTree_sign_60 : decode b_KeyTree_sign 60 = .ok (.iload_n 3, 1) := by decide +kernel
theorem d_KeyTree_sign_61 : decode b_KeyTree_sign 61 = .ok (.invokestatic 55, 3) := by decide +kernel
theorem d_KeyTree_sign_64 : decode b_KeyTree_sign 64 = .ok (.iload_n 2, 1) := by decide +kernel
theorem d_KeyTree_sign_65 : decode b_KeyTree_sign 65 = .ok (.iload_n 3, 1) := by decide +kernel
theorem d_KeyTree_sign_66 : decode b_KeyTree_sign 66 = .ok (.invokestatic 59, 3) := by decide +kernel
theorem d_KeyTree_sign_69 : decode b_KeyTree_sign 69 = .ok (.invokestatic 63, 3) := by decide +kernel
theorem d_KeyTree_sign_72 : decode b_KeyTree_sign 72 = .ok (.lastore, 1) := by decide +kernel
theorem d_KeyTree_sign_73 : decode b_KeyTree_sign 73 = .ok (.iinc 3 1, 3) := by decide +kernel
theorem d_KeyTree_sign_76 : decode b_KeyTree_sign 76 = .ok (.goto (-39), 3) := by decide +kernel
theorem d_KeyTree_sign_79 : decode b_KeyTree_sign 79 = .ok (.bipush 32, 2) := by decide +kernel
theorem d_KeyTree_sign_81 : decode b_KeyTree_sign 81 = .ok (.aload_n 1, 1) := by decide +kernel
theorem d_KeyTree_sign_82 : decode b_KeyTree_sign 82 = .ok (.getfield 39, 3) := by decide +kernel
theorem d_KeyTree_sign_85 : decode b_KeyTree_sign 85 = .ok (.iadd, 1) := by decide +kernel
theorem d_KeyTree_sign_86 : decode b_KeyTree_sign 86 = .ok (.istore_n 3, 1) := by decide +kernel
theorem d_KeyTree_sign_87 : decode b_KeyTree_sign 87 = .ok (.iconst 0, 1) := by decide +kernel
theorem d_KeyTree_sign_88 : decode b_KeyTree_sign 88 = .ok (.istore 4, 2) := by decide +kernel
theorem d_KeyTree_sign_90 : decode b_KeyTree_sign 90 = .ok (.iload 4, 2) := by decide +kernel
theorem d_KeyTree_sign_92 : decode b_KeyTree_sign 92 = .ok (.iconst 5, 1) := by decide +kernel
theorem d_KeyTree_sign_93 : decode b_KeyTree_sign 93 = .ok (.if_icmp .ge 31, 3) := by decide +kernel
theorem d_KeyTree_sign_96 : decode b_KeyTree_sign 96 = .ok (.aload_n 1, 1) := by decide +kernel
theorem d_KeyTree_sign_97 : decode b_KeyTree_sign 97 = .ok (.getfield 52, 3) := by decide +kernel
theorem d_KeyTree_sign_100 : decode b_KeyTree_sign 100 = .ok (.bipush 6, 2) := by decide +kernel
theorem d_KeyTree_sign_102 : decode b_KeyTree_sign 102 = .ok (.iload 4, 2) := by decide +kernel
theorem d_KeyTree_sign_104 : decode b_KeyTree_sign 104 = .ok (.iadd, 1) := by decide +kernel
theorem d_KeyTree_sign_105 : decode b_KeyTree_sign 105 = .ok (.aload_n 0, 1) := by decide +kernel
theorem d_KeyTree_sign_106 : decode b_KeyTree_sign 106 = .ok (.getfield 9, 3) := by decide +kernel
theorem d_KeyTree_sign_109 : decode b_KeyTree_sign 109 = .ok (.iload_n 3, 1) := by decide +kernel
theorem d_KeyTree_sign_110 : decode b_KeyTree_sign 110 = .ok (.iconst 1, 1) := by decide +kernel
theorem d_KeyTree_sign_111 : decode b_KeyTree_sign 111 = .ok (.ixor, 1) := by decide +kernel
theorem d_KeyTree_sign_112 : decode b_KeyTree_sign 112 = .ok (.laload, 1) := by decide +kernel
theorem d_KeyTree_sign_113 : decode b_KeyTree_sign 113 = .ok (.lastore, 1) := by decide +kernel
theorem d_KeyTree_sign_114 : decode b_KeyTree_sign 114 = .ok (.iload_n 3, 1) := by decide +kernel
theorem d_KeyTree_sign_115 : decode b_KeyTree_sign 115 = .ok (.iconst 1, 1) := by decide +kernel
theorem d_KeyTree_sign_116 : decode b_KeyTree_sign 116 = .ok (.ishr, 1) := by decide +kernel
theorem d_KeyTree_sign_117 : decode b_KeyTree_sign 117 = .ok (.istore_n 3, 1) := by decide +kernel
theorem d_KeyTree_sign_118 : decode b_KeyTree_sign 118 = .ok (.iinc 4 1, 3) := by decide +kernel
theorem d_KeyTree_sign_121 : decode b_KeyTree_sign 121 = .ok (.goto (-31), 3) := by decide +kernel
theorem d_KeyTree_sign_124 : decode b_KeyTree_sign 124 = .ok (.iconst 1, 1) := by decide +kernel
theorem d_KeyTree_sign_125 : decode b_KeyTree_sign 125 = .ok (.ireturn, 1) := by decide +kernel
def f_KeyTree_sign_90 (i0 : Nat) (i1 : Nat) (j1 : Nat) : Nat → St → Int32 → Int32 → Int32 × St
  | 0, S, _, _ => (0, S)
  | n + 1, S, l3, l4 =>
    if (5 : Int32) ≤ l4 then
      ((1 : Int32), S)
    else
      lt (sl S 15 i1 j1 (((6 : Int32) + l4).toNatClampNeg) (S.2.1 11 i0 0 (l3 ^^^ (1 : Int32)).toNatClampNeg)) fun (S19 : St) =>
      f_KeyTree_sign_90 i0 i1 j1 n S19 (l3 >>> ((1 : Int32) &&& 31)) (l4 + (1 : Int32))
def ok_KeyTree_sign_90 (i0 : Nat) (i1 : Nat) (j1 : Nat) : Nat → St → Int32 → Int32 → Prop
  | 0, _, _, _ => False
  | n + 1, S, l3, l4 =>
    ((5 : Int32) ≤ l4 → (
      True)) ∧ (¬ ((5 : Int32) ≤ l4) → (
      (vp_in (l3 ^^^ (1 : Int32)) 64) ∧ (
        (vp_in ((6 : Int32) + l4) 11) ∧ (
          lt (sl S 15 i1 j1 (((6 : Int32) + l4).toNatClampNeg) (S.2.1 11 i0 0 (l3 ^^^ (1 : Int32)).toNatClampNeg)) fun (S19 : St) =>
          ok_KeyTree_sign_90 i0 i1 j1 n S19 (l3 >>> ((1 : Int32) &&& 31)) (l4 + (1 : Int32))))))
set_option maxHeartbeats 4000000 in
set_option maxRecDepth 100000 in
theorem w_KeyTree_sign_90 {l : Launch} {D : va_G} {X : va_W} {ad : N3 → Nat} {ca : Nat → ClassId} (i0 : Nat) (i1 : Nat) (j1 : Nat) (h0 : i0 < 4) (h1 : inM i1 j1) {p : Program} {e : Env} {s : State} {m : MethodId} {below : List Frame} {meth : Method} {c : Code} {A : Nat → Prop} (hy : Hy p s m ([.ref (ad (10, i0, 0)), .ref (ad (14, i1, j1))] : List Value).toArray meth c b_KeyTree_sign 5 (some .boolean) R_KeyTree GG D clQ (tysQ ca) nwQ) (hA : ∀ q, s.heap.size ≤ q → A q) {res : Int32 × St} : ∀ (n : Nat) (S : St) (l3 : Int32) (l4 : Int32) , ok_KeyTree_sign_90 i0 i1 j1 n S l3 l4 → f_KeyTree_sign_90 i0 i1 j1 n S l3 l4 = res → ∀ (H : Heap) (locs : List Loc) (ls : Array Slot), Wd D clQ A s.heap (zw X ad TQ (cfQ ad ca) S) H locs → lv_has ls 5 [(0, .ref (ad (10, i0, 0))), (1, .ref (ad (14, i1, j1))), (3, .int l3), (4, .int l4)] → W p l e { frames := 2, cells := 0, slots := 0, locals := 50 } s m ([.ref (ad (10, i0, 0)), .ref (ad (14, i1, j1))] : List Value).toArray below meth c H locs 0 0 (MQ below (eI D clQ X ad TQ (cfQ ad ca) A res) ([.ref (ad (10, i0, 0)), .ref (ad (14, i1, j1))] : List Value).toArray s 0 0 A) (F0 m 90 ls []) := by
  have hF := hy.1
  have hx := hF.1
  have hb := hF.2.1
  have hK := hy.2.2.2
  intro n
  induction n with
  | zero =>
    intro S l3 l4 hk
    exact hk.elim
  | succ n ih =>
    intro S l3 l4 hk hr H locs ls hW hl
    refine lv_iload (pc := 90) hx hb d_KeyTree_sign_90 (lv_at hl 3 rfl) ?_
    refine lv_iconst (pc := 92) (v := 5) hx hb d_KeyTree_sign_92 (by decide) ?_
    refine lv_icmp_ge (pc := 93) (tgt := 124) hx hb d_KeyTree_sign_93 (by decide) (fun c16 => ?_) (fun c16 => ?_)
    · have hk := hk.1 c16
      have hr := (if_pos c16).symm.trans hr
      refine lv_iconst (pc := 124) (v := 1) hx hb d_KeyTree_sign_124 (by decide) ?_
      exact z_zret (v := (1 : Int32)) hy hW rfl hr.symm d_KeyTree_sign_125
    · have hk := hk.2 c16
      have hr := (if_neg c16).symm.trans hr
      refine lv_aload_n (pc := 96) hx hb d_KeyTree_sign_96 rfl (lv_at hl 1 rfl) ?_
      refine z_get (pc := 97) (v := .ref (ad (15, i1, j1))) hF hK.1 hW (tq14 h1) rfl rfl in_Message 0 (by decide) gw_137 rfl rfl d_KeyTree_sign_97 ?_
      refine lv_bipush (pc := 100) (v := 6) hx hb d_KeyTree_sign_100 (by decide) ?_
      refine lv_iload (pc := 102) hx hb d_KeyTree_sign_102 (lv_at hl 3 rfl) ?_
      refine lv_iadd (pc := 104) hx hb d_KeyTree_sign_104 ?_
      refine lv_aload_n (pc := 105) hx hb d_KeyTree_sign_105 rfl (lv_at hl 0 rfl) ?_
      refine z_get (pc := 106) (v := .ref (ad (11, i0, 0))) hF hK.1 hW (tq10 h0) rfl rfl in_KeyTree 0 (by decide) gw_250 rfl rfl d_KeyTree_sign_106 ?_
      refine lv_iload_n (pc := 109) hx hb d_KeyTree_sign_109 rfl (lv_at hl 2 rfl) ?_
      refine lv_iconst (pc := 110) (v := 1) hx hb d_KeyTree_sign_110 (by decide) ?_
      refine lv_ixor (pc := 111) hx hb d_KeyTree_sign_111 ?_
      have b17 := hk.1
      have hk := hk.2
      refine z_lald (pc := 112) (v := S.2.1 11 i0 0 (l3 ^^^ (1 : Int32)).toNatClampNeg) hF hK.1 hW (tq11 h0) 1 rfl rfl b17 rfl d_KeyTree_sign_112 ?_
      have b18 := hk.1
      have hk := hk.2
      obtain ⟨S19, eS19⟩ : ∃ z : St, z = sl S 15 i1 j1 (((6 : Int32) + l4).toNatClampNeg) (S.2.1 11 i0 0 (l3 ^^^ (1 : Int32)).toNatClampNeg) := ⟨_, rfl⟩
      have hk := lt_p eS19 hk
      have hr := lt_e eS19 hr
      refine z_last (pc := 113) (S' := S19) hF hK.1 hW (tq15 h1) 1 rfl rfl b18 (zs_sl eS19 rfl) (zs_slo eS19) d_KeyTree_sign_113 (fun H locs (hW : Wd D clQ A s.heap (zw X ad TQ (cfQ ad ca) S19) H locs) => ?_)
      refine lv_iload_n (pc := 114) hx hb d_KeyTree_sign_114 rfl (lv_at hl 2 rfl) ?_
      refine lv_iconst (pc := 115) (v := 1) hx hb d_KeyTree_sign_115 (by decide) ?_
      refine lv_ishr (pc := 116) hx hb d_KeyTree_sign_116 ?_
      refine lv_istore_n (pc := 117) (lv' := [(3, .int (l3 >>> ((1 : Int32) &&& 31))), (0, .ref (ad (10, i0, 0))), (1, .ref (ad (14, i1, j1))), (4, .int l4)]) hx hb d_KeyTree_sign_117 rfl hl (by decide) rfl (fun ls hl => ?_)
      refine lv_iinc (pc := 118) (v := l4 + (1 : Int32)) (lv' := [(4, .int (l4 + (1 : Int32))), (3, .int (l3 >>> ((1 : Int32) &&& 31))), (0, .ref (ad (10, i0, 0))), (1, .ref (ad (14, i1, j1)))]) (k := 3) hx hb d_KeyTree_sign_118 hl rfl (z_inc (by decide)) (by decide) rfl (fun ls hl => ?_)
      refine lv_goto (pc := 121) (tgt := 90) hx hb d_KeyTree_sign_121 (by decide) ?_
      exact ih S19 (l3 >>> ((1 : Int32) &&& 31)) (l4 + (1 : Int32)) hk hr _ _ _ hW (lv_sub hl [2, 3, 1, 0] rfl)
def f_KeyTree_sign_37 (i0 : Nat) (i1 : Nat) (j1 : Nat) : Nat → St → Int32 → Int32 → Int32 × St
  | 0, S, _, _ => (0, S)
  | n + 1, S, l2, l3 =>
    if (6 : Int32) ≤ l3 then
      f_KeyTree_sign_90 i0 i1 j1 200 S ((32 : Int32) + (S.1 14 i1 j1 5)) (0 : Int32)
    else
      lt (f_KeyTree_secretOf (S.1 10 i0 0 1) (S.1 10 i0 0 2) (S.1 14 i1 j1 5) l3 S) fun (r10 : Int64) =>
      lt (f_KeyTree_digit l2 l3 S) fun (r11 : Int32) =>
      lt (f_Fold_afterSteps r10 r11 S) fun (r13 : Int64) =>
      lt (sl S 15 i1 j1 (l3.toNatClampNeg) r13) fun (S15 : St) =>
      f_KeyTree_sign_37 i0 i1 j1 n S15 l2 (l3 + (1 : Int32))
def ok_KeyTree_sign_37 (i0 : Nat) (i1 : Nat) (j1 : Nat) : Nat → St → Int32 → Int32 → Prop
  | 0, _, _, _ => False
  | n + 1, S, l2, l3 =>
    ((6 : Int32) ≤ l3 → (
      ok_KeyTree_sign_90 i0 i1 j1 200 S ((32 : Int32) + (S.1 14 i1 j1 5)) (0 : Int32))) ∧ (¬ ((6 : Int32) ≤ l3) → (
      lt (f_KeyTree_secretOf (S.1 10 i0 0 1) (S.1 10 i0 0 2) (S.1 14 i1 j1 5) l3 S) fun (r10 : Int64) =>
      lt (f_KeyTree_digit l2 l3 S) fun (r11 : Int32) =>
      (ok_Fold_afterSteps r10 r11 S) ∧ (
        lt (f_Fold_afterSteps r10 r11 S) fun (r13 : Int64) =>
        (vp_in l3 11) ∧ (
          lt (sl S 15 i1 j1 (l3.toNatClampNeg) r13) fun (S15 : St) =>
          ok_KeyTree_sign_37 i0 i1 j1 n S15 l2 (l3 + (1 : Int32))))))
set_option maxHeartbeats 4000000 in
set_option maxRecDepth 100000 in
theorem w_KeyTree_sign_37 {l : Launch} {D : va_G} {X : va_W} {ad : N3 → Nat} {ca : Nat → ClassId} (i0 : Nat) (i1 : Nat) (j1 : Nat) (h0 : i0 < 4) (h1 : inM i1 j1) {p : Program} {e : Env} {s : State} {m : MethodId} {below : List Frame} {meth : Method} {c : Code} {A : Nat → Prop} (hy : Hy p s m ([.ref (ad (10, i0, 0)), .ref (ad (14, i1, j1))] : List Value).toArray meth c b_KeyTree_sign 5 (some .boolean) R_KeyTree GG D clQ (tysQ ca) nwQ) (hA : ∀ q, s.heap.size ≤ q → A q) {res : Int32 × St} : ∀ (n : Nat) (S : St) (l2 : Int32) (l3 : Int32) , ok_KeyTree_sign_37 i0 i1 j1 n S l2 l3 → f_KeyTree_sign_37 i0 i1 j1 n S l2 l3 = res → ∀ (H : Heap) (locs : List Loc) (ls : Array Slot), Wd D clQ A s.heap (zw X ad TQ (cfQ ad ca) S) H locs → lv_has ls 5 [(0, .ref (ad (10, i0, 0))), (1, .ref (ad (14, i1, j1))), (2, .int l2), (3, .int l3)] → W p l e { frames := 2, cells := 0, slots := 0, locals := 50 } s m ([.ref (ad (10, i0, 0)), .ref (ad (14, i1, j1))] : List Value).toArray below meth c H locs 0 0 (MQ below (eI D clQ X ad TQ (cfQ ad ca) A res) ([.ref (ad (10, i0, 0)), .ref (ad (14, i1, j1))] : List Value).toArray s 0 0 A) (F0 m 37 ls []) := by
  have hF := hy.1
  have hx := hF.1
  have hb := hF.2.1
  have hK := hy.2.2.2
  intro n
  induction n with
  | zero =>
    intro S l2 l3 hk
    exact hk.elim
  | succ n ih =>
    intro S l2 l3 hk hr H locs ls hW hl
    refine lv_iload_n (pc := 37) hx hb d_KeyTree_sign_37 rfl (lv_at hl 3 rfl) ?_
    refine lv_bipush (pc := 38) (v := 6) hx hb d_KeyTree_sign_38 (by decide) ?_
    refine lv_icmp_ge (pc := 40) (tgt := 79) hx hb d_KeyTree_sign_40 (by decide) (fun c9 => ?_) (fun c9 => ?_)
    · have hk := hk.1 c9
      have hr := (if_pos c9).symm.trans hr
      refine lv_bipush (pc := 79) (v := 32) hx hb d_KeyTree_sign_79 (by decide) ?_
      refine lv_aload_n (pc := 81) hx hb d_KeyTree_sign_81 rfl (lv_at hl 1 rfl) ?_
      refine z_get (pc := 82) (v := .int (S.1 14 i1 j1 5)) hF hK.1 hW (tq14 h1) rfl rfl in_Message 5 (by decide) gw_148 rfl rfl d_KeyTree_sign_82 ?_
      refine lv_iadd (pc := 85) hx hb d_KeyTree_sign_85 ?_
      refine lv_istore_n (pc := 86) (lv' := [(3, .int ((32 : Int32) + (S.1 14 i1 j1 5))), (0, .ref (ad (10, i0, 0))), (1, .ref (ad (14, i1, j1))), (2, .int l2)]) hx hb d_KeyTree_sign_86 rfl hl (by decide) rfl (fun ls hl => ?_)
      refine lv_iconst (pc := 87) (v := 0) hx hb d_KeyTree_sign_87 (by decide) ?_
      refine lv_istore (pc := 88) (lv' := [(4, .int (0 : Int32)), (3, .int ((32 : Int32) + (S.1 14 i1 j1 5))), (0, .ref (ad (10, i0, 0))), (1, .ref (ad (14, i1, j1))), (2, .int l2)]) hx hb d_KeyTree_sign_88 hl (by decide) rfl (fun ls hl => ?_)
      exact w_KeyTree_sign_90 i0 i1 j1 h0 h1 hy hA 200 S ((32 : Int32) + (S.1 14 i1 j1 5)) (0 : Int32) hk hr _ _ _ hW (lv_sub hl [2, 3, 1, 0] rfl)
    · have hk := hk.2 c9
      have hr := (if_neg c9).symm.trans hr
      refine lv_aload_n (pc := 43) hx hb d_KeyTree_sign_43 rfl (lv_at hl 1 rfl) ?_
      refine z_get (pc := 44) (v := .ref (ad (15, i1, j1))) hF hK.1 hW (tq14 h1) rfl rfl in_Message 0 (by decide) gw_137 rfl rfl d_KeyTree_sign_44 ?_
      refine lv_iload_n (pc := 47) hx hb d_KeyTree_sign_47 rfl (lv_at hl 3 rfl) ?_
      refine lv_aload_n (pc := 48) hx hb d_KeyTree_sign_48 rfl (lv_at hl 0 rfl) ?_
      refine z_get (pc := 49) (v := .int (S.1 10 i0 0 1)) hF hK.1 hW (tq10 h0) rfl rfl in_KeyTree 1 (by decide) gw_251 rfl rfl d_KeyTree_sign_49 ?_
      refine lv_aload_n (pc := 52) hx hb d_KeyTree_sign_52 rfl (lv_at hl 0 rfl) ?_
      refine z_get (pc := 53) (v := .int (S.1 10 i0 0 2)) hF hK.1 hW (tq10 h0) rfl rfl in_KeyTree 2 (by decide) gw_252 rfl rfl d_KeyTree_sign_53 ?_
      refine lv_aload_n (pc := 56) hx hb d_KeyTree_sign_56 rfl (lv_at hl 1 rfl) ?_
      refine z_get (pc := 57) (v := .int (S.1 14 i1 j1 5)) hF hK.1 hW (tq14 h1) rfl rfl in_Message 5 (by decide) gw_148 rfl rfl d_KeyTree_sign_57 ?_
      refine lv_iload_n (pc := 60) hx hb d_KeyTree_sign_60 rfl (lv_at hl 3 rfl) ?_
      obtain ⟨r10, er10⟩ : ∃ z : Int64, z = f_KeyTree_secretOf (S.1 10 i0 0 1) (S.1 10 i0 0 2) (S.1 14 i1 j1 5) l3 S := ⟨_, rfl⟩
      have hk := lt_p er10 hk
      have hr := lt_e er10 hr
      refine z_goL (pc := 61) hW hA (congrArg (fun q => (q, S)) er10) (z_runS hF hK hW (c_KeyTree_secretOf l D X ad ca (S.1 10 i0 0 1) (S.1 10 i0 0 2) (S.1 14 i1 j1 5) l3 S _) cd_KeyTree_secretOf gw_229 ⟨Nat.le_of_ble_eq_true rfl, Nat.le_of_ble_eq_true rfl⟩ ⟨Nat.zero_le _, Nat.zero_le _⟩ rfl rfl hl.1 (Nat.le_of_ble_eq_true rfl) d_KeyTree_sign_61) (fun H locs (hW : Wd D clQ A s.heap (zw X ad TQ (cfQ ad ca) S) H locs) => ?_)
      refine lv_iload_n (pc := 64) hx hb d_KeyTree_sign_64 rfl (lv_at hl 2 rfl) ?_
      refine lv_iload_n (pc := 65) hx hb d_KeyTree_sign_65 rfl (lv_at hl 3 rfl) ?_
      obtain ⟨r11, er11⟩ : ∃ z : Int32, z = f_KeyTree_digit l2 l3 S := ⟨_, rfl⟩
      have hk := lt_p er11 hk
      have hr := lt_e er11 hr
      refine z_goI (pc := 66) hW hA (congrArg (fun q => (q, S)) er11) (z_runS hF hK hW (c_KeyTree_digit l D X ad ca l2 l3 S _) cd_KeyTree_digit gw_404 ⟨Nat.le_of_ble_eq_true rfl, Nat.le_of_ble_eq_true rfl⟩ ⟨Nat.zero_le _, Nat.zero_le _⟩ rfl rfl hl.1 (Nat.le_of_ble_eq_true rfl) d_KeyTree_sign_66) (fun H locs (hW : Wd D clQ A s.heap (zw X ad TQ (cfQ ad ca) S) H locs) => ?_)
      have o12 := hk.1
      have hk := hk.2
      obtain ⟨r13, er13⟩ : ∃ z : Int64, z = f_Fold_afterSteps r10 r11 S := ⟨_, rfl⟩
      have hk := lt_p er13 hk
      have hr := lt_e er13 hr
      refine z_goL (pc := 69) hW hA (congrArg (fun q => (q, S)) er13) (z_runS hF hK hW (c_Fold_afterSteps l D X ad ca r10 r11 S o12 _) cd_Fold_afterSteps gw_240 ⟨Nat.le_of_ble_eq_true rfl, Nat.le_of_ble_eq_true rfl⟩ ⟨Nat.zero_le _, Nat.zero_le _⟩ rfl rfl hl.1 (Nat.le_of_ble_eq_true rfl) d_KeyTree_sign_69) (fun H locs (hW : Wd D clQ A s.heap (zw X ad TQ (cfQ ad ca) S) H locs) => ?_)
      have b14 := hk.1
      have hk := hk.2
      obtain ⟨S15, eS15⟩ : ∃ z : St, z = sl S 15 i1 j1 (l3.toNatClampNeg) r13 := ⟨_, rfl⟩
      have hk := lt_p eS15 hk
      have hr := lt_e eS15 hr
      refine z_last (pc := 72) (S' := S15) hF hK.1 hW (tq15 h1) 1 rfl rfl b14 (zs_sl eS15 rfl) (zs_slo eS15) d_KeyTree_sign_72 (fun H locs (hW : Wd D clQ A s.heap (zw X ad TQ (cfQ ad ca) S15) H locs) => ?_)
      refine lv_iinc (pc := 73) (v := l3 + (1 : Int32)) (lv' := [(3, .int (l3 + (1 : Int32))), (0, .ref (ad (10, i0, 0))), (1, .ref (ad (14, i1, j1))), (2, .int l2)]) (k := 3) hx hb d_KeyTree_sign_73 hl rfl (z_inc (by decide)) (by decide) rfl (fun ls hl => ?_)
      refine lv_goto (pc := 76) (tgt := 37) hx hb d_KeyTree_sign_76 (by decide) ?_
      exact ih S15 l2 (l3 + (1 : Int32)) hk hr _ _ _ hW (lv_sub hl [1, 2, 3, 0] rfl)
def f_KeyTree_sign (i0 : Nat) (i1 : Nat) (j1 : Nat) (S : St) : Int32 × St :=
  lt (f_KeyTree_isLeft i0 S) fun (r1 : Int32) =>
  if r1 = 0 then
    ((0 : Int32), S)
  else
    lt (si S 14 i1 j1 5 (S.1 10 i0 0 3)) fun (S3 : St) =>
    lt (si S3 10 i0 0 3 ((S3.1 10 i0 0 3) + (1 : Int32))) fun (S4 : St) =>
    lt (f_Message_meaning i1 j1 S4) fun (r6 : Int64) =>
    lt (f_KeyTree_digitsOf r6 S4) fun (r8 : Int32) =>
    f_KeyTree_sign_37 i0 i1 j1 200 S4 r8 (0 : Int32)
def ok_KeyTree_sign (i0 : Nat) (i1 : Nat) (j1 : Nat) (S : St) : Prop :=
  lt (f_KeyTree_isLeft i0 S) fun (r1 : Int32) =>
  (r1 = 0 → (
    True)) ∧ (¬ (r1 = 0) → (
    lt (si S 14 i1 j1 5 (S.1 10 i0 0 3)) fun (S3 : St) =>
    lt (si S3 10 i0 0 3 ((S3.1 10 i0 0 3) + (1 : Int32))) fun (S4 : St) =>
    (ok_Message_meaning i1 j1 S4) ∧ (
      lt (f_Message_meaning i1 j1 S4) fun (r6 : Int64) =>
      (ok_KeyTree_digitsOf r6 S4) ∧ (
        lt (f_KeyTree_digitsOf r6 S4) fun (r8 : Int32) =>
        ok_KeyTree_sign_37 i0 i1 j1 200 S4 r8 (0 : Int32)))))
set_option maxHeartbeats 4000000 in
set_option maxRecDepth 100000 in
theorem c_KeyTree_sign (l : Launch) (D : va_G) (X : va_W) (ad : N3 → Nat) (ca : Nat → ClassId) (i0 : Nat) (i1 : Nat) (j1 : Nat) (h0 : i0 < 4) (h1 : inM i1 j1) (S : St) (hk : ok_KeyTree_sign i0 i1 j1 S) : cI l GG D clQ (tysQ ca) nwQ X ad TQ (cfQ ad ca) y_KeyTree_sign b_KeyTree_sign 5 .boolean 2 50 [.ref (ad (10, i0, 0)), .ref (ad (14, i1, j1))] S (f_KeyTree_sign i0 i1 j1 S) := by
  generalize hr : f_KeyTree_sign i0 i1 j1 S = res
  refine zI_of pn_KeyTree (Nat.le_of_ble_eq_true rfl) (fun p e s m below meth c A ls hy hW hA hl => ?_)
  have hF := hy.1
  have hx := hF.1
  have hb := hF.2.1
  have hK := hy.2.2.2
  have hl : lv_has ls 5 [(0, .ref (ad (10, i0, 0))), (1, .ref (ad (14, i1, j1)))] := hl
  refine lv_aload_n (pc := 0) hx hb d_KeyTree_sign_0 rfl (lv_at hl 0 rfl) ?_
  obtain ⟨r1, er1⟩ : ∃ z : Int32, z = f_KeyTree_isLeft i0 S := ⟨_, rfl⟩
  have hk := lt_p er1 hk
  have hr := lt_e er1 hr
  refine z_goI (pc := 1) hW hA (congrArg (fun q => (q, S)) er1) (z_runV hF hK hW (c_KeyTree_isLeft l D X ad ca i0 h0 S _) cd_KeyTree_isLeft gw_389 (tq10 h0) rfl rfl ⟨Nat.le_of_ble_eq_true rfl, Nat.le_of_ble_eq_true rfl⟩ ⟨Nat.zero_le _, Nat.zero_le _⟩ rfl rfl hl.1 (Nat.le_of_ble_eq_true rfl) d_KeyTree_sign_1) (fun H locs (hW : Wd D clQ A s.heap (zw X ad TQ (cfQ ad ca) S) H locs) => ?_)
  refine lv_if_ne (pc := 4) (tgt := 9) hx hb d_KeyTree_sign_4 (by decide) (fun c2 => ?_) (fun c2 => ?_)
  · have hk := hk.2 c2
    have hr := (if_neg c2).symm.trans hr
    refine lv_aload_n (pc := 9) hx hb d_KeyTree_sign_9 rfl (lv_at hl 1 rfl) ?_
    refine lv_aload_n (pc := 10) hx hb d_KeyTree_sign_10 rfl (lv_at hl 0 rfl) ?_
    refine z_get (pc := 11) (v := .int (S.1 10 i0 0 3)) hF hK.1 hW (tq10 h0) rfl rfl in_KeyTree 3 (by decide) gw_253 rfl rfl d_KeyTree_sign_11 ?_
    obtain ⟨S3, eS3⟩ : ∃ z : St, z = si S 14 i1 j1 5 (S.1 10 i0 0 3) := ⟨_, rfl⟩
    have hk := lt_p eS3 hk
    have hr := lt_e eS3 hr
    refine z_put (pc := 14) (S' := S3) hF hK.1 hW (tq14 h1) rfl rfl in_Message t_Message tyo_Message nmo_Message 5 (by decide) gw_148 rfl rfl rfl rfl rfl (Nat.le_of_ble_eq_true rfl) (zs_si eS3 rfl) (zs_sio eS3) d_KeyTree_sign_14 (fun H locs (hW : Wd D clQ A s.heap (zw X ad TQ (cfQ ad ca) S3) H locs) => ?_)
    refine lv_aload_n (pc := 17) hx hb d_KeyTree_sign_17 rfl (lv_at hl 0 rfl) ?_
    refine lv_dup (pc := 18) hx hb d_KeyTree_sign_18 rfl ?_
    refine z_get (pc := 19) (v := .int (S3.1 10 i0 0 3)) hF hK.1 hW (tq10 h0) rfl rfl in_KeyTree 3 (by decide) gw_253 rfl rfl d_KeyTree_sign_19 ?_
    refine lv_iconst (pc := 22) (v := 1) hx hb d_KeyTree_sign_22 (by decide) ?_
    refine lv_iadd (pc := 23) hx hb d_KeyTree_sign_23 ?_
    obtain ⟨S4, eS4⟩ : ∃ z : St, z = si S3 10 i0 0 3 ((S3.1 10 i0 0 3) + (1 : Int32)) := ⟨_, rfl⟩
    have hk := lt_p eS4 hk
    have hr := lt_e eS4 hr
    refine z_put (pc := 24) (S' := S4) hF hK.1 hW (tq10 h0) rfl rfl in_KeyTree t_KeyTree tyo_KeyTree nmo_KeyTree 3 (by decide) gw_253 rfl rfl rfl rfl rfl (Nat.le_of_ble_eq_true rfl) (zs_si eS4 rfl) (zs_sio eS4) d_KeyTree_sign_24 (fun H locs (hW : Wd D clQ A s.heap (zw X ad TQ (cfQ ad ca) S4) H locs) => ?_)
    refine lv_aload_n (pc := 27) hx hb d_KeyTree_sign_27 rfl (lv_at hl 1 rfl) ?_
    have o5 := hk.1
    have hk := hk.2
    obtain ⟨r6, er6⟩ : ∃ z : Int64, z = f_Message_meaning i1 j1 S4 := ⟨_, rfl⟩
    have hk := lt_p er6 hk
    have hr := lt_e er6 hr
    refine z_goL (pc := 28) hW hA (congrArg (fun q => (q, S4)) er6) (z_runV hF hK hW (c_Message_meaning l D X ad ca i1 j1 h1 S4 o5 _) cd_Message_meaning gw_393 (tq14 h1) rfl rfl ⟨Nat.le_of_ble_eq_true rfl, Nat.le_of_ble_eq_true rfl⟩ ⟨Nat.zero_le _, Nat.zero_le _⟩ rfl rfl hl.1 (Nat.le_of_ble_eq_true rfl) d_KeyTree_sign_28) (fun H locs (hW : Wd D clQ A s.heap (zw X ad TQ (cfQ ad ca) S4) H locs) => ?_)
    have o7 := hk.1
    have hk := hk.2
    obtain ⟨r8, er8⟩ : ∃ z : Int32, z = f_KeyTree_digitsOf r6 S4 := ⟨_, rfl⟩
    have hk := lt_p er8 hk
    have hr := lt_e er8 hr
    refine z_goI (pc := 31) hW hA (congrArg (fun q => (q, S4)) er8) (z_runS hF hK hW (c_KeyTree_digitsOf l D X ad ca r6 S4 o7 _) cd_KeyTree_digitsOf gw_400 ⟨Nat.le_of_ble_eq_true rfl, Nat.le_of_ble_eq_true rfl⟩ ⟨Nat.zero_le _, Nat.zero_le _⟩ rfl rfl hl.1 (Nat.le_of_ble_eq_true rfl) d_KeyTree_sign_31) (fun H locs (hW : Wd D clQ A s.heap (zw X ad TQ (cfQ ad ca) S4) H locs) => ?_)
    refine lv_istore_n (pc := 34) (lv' := [(2, .int r8), (0, .ref (ad (10, i0, 0))), (1, .ref (ad (14, i1, j1)))]) hx hb d_KeyTree_sign_34 rfl hl (by decide) rfl (fun ls hl => ?_)
    refine lv_iconst (pc := 35) (v := 0) hx hb d_KeyTree_sign_35 (by decide) ?_
    refine lv_istore_n (pc := 36) (lv' := [(3, .int (0 : Int32)), (2, .int r8), (0, .ref (ad (10, i0, 0))), (1, .ref (ad (14, i1, j1)))]) hx hb d_KeyTree_sign_36 rfl hl (by decide) rfl (fun ls hl => ?_)
    exact w_KeyTree_sign_37 i0 i1 j1 h0 h1 hy hA 200 S4 r8 (0 : Int32) hk hr _ _ _ hW (lv_sub hl [2, 3, 1, 0] rfl)
  · have hk := hk.1 c2
    have hr := (if_pos c2).symm.trans hr
    refine lv_iconst (pc := 7) (v := 0) hx hb d_KeyTree_sign_7 (by decide) ?_
    exact z_zret (v := (0 : Int32)) hy hW rfl hr.symm d_KeyTree_sign_8
end
section
theorem d_QC_writeSigned_0 : decode b_QC_writeSigned 0 = .ok (.aload_n 0, 1) := by decide +kernel
theorem d_QC_writeSigned_1 : decode b_QC_writeSigned 1 = .ok (.getfield 32, 3) := by decide +kernel
theorem d_QC_writeSigned_4 : decode b_QC_writeSigned 4 = .ok (.iload_n 2, 1) := by decide +kernel
theorem d_QC_writeSigned_5 : decode b_QC_writeSigned 5 = .ok (.aload_n 1, 1) := by decide +kernel
theorem d_QC_writeSigned_6 : decode b_QC_writeSigned 6 = .ok (.getfield 339, 3) := by decide +kernel
theorem d_QC_writeSigned_9 : decode b_QC_writeSigned 9 = .ok (.iload_n 3, 1) := by decide +kernel
theorem d_QC_writeSigned_10 : decode b_QC_writeSigned 10 = .ok (.iload 4, 2) := by decide +kernel
theorem d_QC_writeSigned_12 : decode b_QC_writeSigned 12 = .ok (.invokevirtual 393, 3) := by decide +kernel
theorem d_QC_writeSigned_15 : decode b_QC_writeSigned 15 = .ok (.aload_n 1, 1) := by decide +kernel
theorem d_QC_writeSigned_16 : decode b_QC_writeSigned 16 = .ok (.getfield 179, 3) := by decide +kernel
theorem d_QC_writeSigned_19 : decode b_QC_writeSigned 19 = .ok (.getfield 183, 3) := by decide +kernel
theorem d_QC_writeSigned_22 : decode b_QC_writeSigned 22 = .ok (.aload_n 0, 1) := by decide +kernel
theorem d_QC_writeSigned_23 : decode b_QC_writeSigned 23 = .ok (.getfield 32, 3) := by decide +kernel
theorem d_QC_writeSigned_26 : decode b_QC_writeSigned 26 = .ok (.invokevirtual 397, 3) := by decide +kernel
theorem d_QC_writeSigned_29 : decode b_QC_writeSigned 29 = .ok (.ireturn, 1) := by decide +kernel
def f_QC_writeSigned (i1 : Nat) (a2 : Int32) (a3 : Int32) (a4 : Int32) (S : St) : Int32 × St :=
  lt (f_Message_write 4 0 a2 (S.1 3 i1 0 0) a3 a4 S) fun (S2 : St) =>
  lt (f_KeyTree_sign i1 4 0 S2) fun (r4 : Int32 × St) =>
  (r4.1, r4.2)
def ok_QC_writeSigned (i1 : Nat) (a2 : Int32) (a3 : Int32) (a4 : Int32) (S : St) : Prop :=
  lt (f_Message_write 4 0 a2 (S.1 3 i1 0 0) a3 a4 S) fun (S2 : St) =>
  (ok_KeyTree_sign i1 4 0 S2) ∧ (
    lt (f_KeyTree_sign i1 4 0 S2) fun (r4 : Int32 × St) =>
    (narrow .boolean (.int r4.1) = .int r4.1) ∧ (
      True))
set_option maxHeartbeats 4000000 in
set_option maxRecDepth 100000 in
theorem c_QC_writeSigned (l : Launch) (D : va_G) (X : va_W) (ad : N3 → Nat) (ca : Nat → ClassId) (i1 : Nat) (a2 : Int32) (a3 : Int32) (a4 : Int32) (h1 : i1 < 4) (S : St) (hk : ok_QC_writeSigned i1 a2 a3 a4 S) : cI l GG D clQ (tysQ ca) nwQ X ad TQ (cfQ ad ca) y_QC_writeSigned b_QC_writeSigned 5 .boolean 3 74 [.ref (ad (1, 0, 0)), .ref (ad (3, i1, 0)), .int a2, .int a3, .int a4] S (f_QC_writeSigned i1 a2 a3 a4 S) := by
  generalize hr : f_QC_writeSigned i1 a2 a3 a4 S = res
  refine zI_of pn_QC (Nat.le_of_ble_eq_true rfl) (fun p e s m below meth c A ls hy hW hA hl => ?_)
  have hF := hy.1
  have hx := hF.1
  have hb := hF.2.1
  have hK := hy.2.2.2
  have hl : lv_has ls 5 [(0, .ref (ad (1, 0, 0))), (1, .ref (ad (3, i1, 0))), (2, .int a2), (3, .int a3), (4, .int a4)] := hl
  refine lv_aload_n (pc := 0) hx hb d_QC_writeSigned_0 rfl (lv_at hl 0 rfl) ?_
  refine z_get (pc := 1) (v := .ref (ad (14, 4, 0))) hF hK.1 hW tq1 rfl rfl in_QC 3 (by decide) gw_347 rfl rfl d_QC_writeSigned_1 ?_
  refine lv_iload_n (pc := 4) hx hb d_QC_writeSigned_4 rfl (lv_at hl 2 rfl) ?_
  refine lv_aload_n (pc := 5) hx hb d_QC_writeSigned_5 rfl (lv_at hl 1 rfl) ?_
  refine z_get (pc := 6) (v := .int (S.1 3 i1 0 0)) hF hK.1 hW (tq3 h1) rfl rfl in_Node 0 (by decide) gw_296 rfl rfl d_QC_writeSigned_6 ?_
  refine lv_iload_n (pc := 9) hx hb d_QC_writeSigned_9 rfl (lv_at hl 3 rfl) ?_
  refine lv_iload (pc := 10) hx hb d_QC_writeSigned_10 (lv_at hl 4 rfl) ?_
  obtain ⟨S2, eS2⟩ : ∃ z : St, z = f_Message_write 4 0 a2 (S.1 3 i1 0 0) a3 a4 S := ⟨_, rfl⟩
  have hk := lt_p eS2 hk
  have hr := lt_e eS2 hr
  refine z_goV (pc := 12) hW hA eS2 (z_runV hF hK hW (c_Message_write l D X ad ca 4 0 a2 (S.1 3 i1 0 0) a3 a4 inM_D S _) cd_Message_write gw_381 (tq14 inM_D) rfl rfl ⟨Nat.le_of_ble_eq_true rfl, Nat.le_of_ble_eq_true rfl⟩ ⟨Nat.zero_le _, Nat.zero_le _⟩ rfl rfl hl.1 (Nat.le_of_ble_eq_true rfl) d_QC_writeSigned_12) (fun H locs (hW : Wd D clQ A s.heap (zw X ad TQ (cfQ ad ca) S2) H locs) => ?_)
  refine lv_aload_n (pc := 15) hx hb d_QC_writeSigned_15 rfl (lv_at hl 1 rfl) ?_
  refine z_get (pc := 16) (v := .ref (ad (4, i1, 0))) hF hK.1 hW (tq3 h1) rfl rfl in_Node 1 (by decide) gw_298 rfl rfl d_QC_writeSigned_16 ?_
  refine z_get (pc := 19) (v := .ref (ad (10, i1, 0))) hF hK.1 hW (tq4 h1) rfl rfl in_Store 3 (by decide) gw_270 rfl rfl d_QC_writeSigned_19 ?_
  refine lv_aload_n (pc := 22) hx hb d_QC_writeSigned_22 rfl (lv_at hl 0 rfl) ?_
  refine z_get (pc := 23) (v := .ref (ad (14, 4, 0))) hF hK.1 hW tq1 rfl rfl in_QC 3 (by decide) gw_347 rfl rfl d_QC_writeSigned_23 ?_
  have o3 := hk.1
  have hk := hk.2
  obtain ⟨r4, er4⟩ : ∃ z : Int32 × St, z = f_KeyTree_sign i1 4 0 S2 := ⟨_, rfl⟩
  have hk := lt_p er4 hk
  have hr := lt_e er4 hr
  refine z_goI (pc := 26) hW hA (show (r4.1, r4.2) = _ from er4) (z_runV hF hK hW (c_KeyTree_sign l D X ad ca i1 4 0 h1 inM_D S2 o3 _) cd_KeyTree_sign gw_385 (tq10 h1) rfl rfl ⟨Nat.le_of_ble_eq_true rfl, Nat.le_of_ble_eq_true rfl⟩ ⟨Nat.zero_le _, Nat.zero_le _⟩ rfl rfl hl.1 (Nat.le_of_ble_eq_true rfl) d_QC_writeSigned_26) (fun H locs (hW : Wd D clQ A s.heap (zw X ad TQ (cfQ ad ca) r4.2) H locs) => ?_)
  exact z_zret (v := r4.1) hy hW hk.1 hr.symm d_QC_writeSigned_29
theorem d_Message_copyFrom_0 : decode b_Message_copyFrom 0 = .ok (.aload_n 0, 1) := by decide +kernel
theorem d_Message_copyFrom_1 : decode b_Message_copyFrom 1 = .ok (.aload_n 1, 1) := by decide +kernel
theorem d_Message_copyFrom_2 : decode b_Message_copyFrom 2 = .ok (.getfield 19, 3) := by decide +kernel
theorem d_Message_copyFrom_5 : decode b_Message_copyFrom 5 = .ok (.aload_n 1, 1) := by decide +kernel
theorem d_Message_copyFrom_6 : decode b_Message_copyFrom 6 = .ok (.getfield 22, 3) := by decide +kernel
theorem d_Message_copyFrom_9 : decode b_Message_copyFrom 9 = .ok (.aload_n 1, 1) := by decide +kernel
theorem d_Message_copyFrom_10 : decode b_Message_copyFrom 10 = .ok (.getfield 25, 3) := by decide +kernel
theorem d_Message_copyFrom_13 : decode b_Message_copyFrom 13 = .ok (.aload_n 1, 1) := by decide +kernel
theorem d_Message_copyFrom_14 : decode b_Message_copyFrom 14 = .ok (.getfield 28, 3) := by decide +kernel
theorem d_Message_copyFrom_17 : decode b_Message_copyFrom 17 = .ok (.invokevirtual 31, 3) := by decide +kernel
theorem d_Message_copyFrom_20 : decode b_Message_copyFrom 20 = .ok (.aload_n 0, 1) := by decide +kernel
theorem d_Message_copyFrom_21 : decode b_Message_copyFrom 21 = .ok (.aload_n 1, 1) := by decide +kernel
theorem d_Message_copyFrom_22 : decode b_Message_copyFrom 22 = .ok (.getfield 15, 3) := by decide +kernel
theorem d_Message_copyFrom_25 : decode b_Message_copyFrom 25 = .ok (.putfield 15, 3) := by decide +kernel
theorem d_Message_copyFrom_28 : decode b_Message_copyFrom 28 = .ok (.aload_n 1, 1) := by decide +kernel
theorem d_Message_copyFrom_29 : decode b_Message_copyFrom 29 = .ok (.getfield 9, 3) := by decide +kernel
theorem d_Message_copyFrom_32 : decode b_Message_copyFrom 32 = .ok (.iconst 0, 1) := by decide +kernel
theorem d_Message_copyFrom_33 : decode b_Message_copyFrom 33 = .ok (.aload_n 0, 1) := by decide +kernel
theorem d_Message_copyFrom_34 : decode b_Message_copyFrom 34 = .ok (.getfield 9, 3) := by decide +kernel
theorem d_Message_copyFrom_37 : decode b_Message_copyFrom 37 = .ok (.iconst 0, 1) := by decide +kernel
theorem d_Message_copyFrom_38 : decode b_Message_copyFrom 38 = .ok (.bipush 11, 2) := by decide +kernel
theorem d_Message_copyFrom_40 : decode b_Message_copyFrom 40 = .ok (.invokestatic 35, 3) := by decide +kernel
theorem d_Message_copyFrom_43 : decode b_Message_copyFrom 43 = .ok (.return_, 1) := by decide +kernel
def f_Message_copyFrom (i0 : Nat) (j0 : Nat) (i1 : Nat) (j1 : Nat) (S : St) : St :=
  lt (f_Message_write i0 j0 (S.1 14 i1 j1 1) (S.1 14 i1 j1 2) (S.1 14 i1 j1 3) (S.1 14 i1 j1 4) S) fun (S2 : St) =>
  lt (si S2 14 i0 j0 5 (S2.1 14 i1 j1 5)) fun (S3 : St) =>
  lt (wl S3 15 i0 j0 (va_cpy (S3.2.1 15 i1 j1) (S3.2.1 15 i0 j0) 0 0 11)) fun (S4 : St) =>
  S4
set_option maxHeartbeats 4000000 in
set_option maxRecDepth 100000 in
theorem c_Message_copyFrom (l : Launch) (D : va_G) (X : va_W) (ad : N3 → Nat) (ca : Nat → ClassId) (i0 : Nat) (j0 : Nat) (i1 : Nat) (j1 : Nat) (h0 : inM i0 j0) (h1 : inM i1 j1) (S : St) : cV l GG D clQ (tysQ ca) nwQ X ad TQ (cfQ ad ca) y_Message_copyFrom b_Message_copyFrom 2 1 80 [.ref (ad (14, i0, j0)), .ref (ad (14, i1, j1))] S (f_Message_copyFrom i0 j0 i1 j1 S) := by
  generalize hr : f_Message_copyFrom i0 j0 i1 j1 S = res
  refine zV_of pn_Message (Nat.le_of_ble_eq_true rfl) (fun p e s m below meth c A ls hy hW hA hl => ?_)
  have hF := hy.1
  have hx := hF.1
  have hb := hF.2.1
  have hK := hy.2.2.2
  have hl : lv_has ls 2 [(0, .ref (ad (14, i0, j0))), (1, .ref (ad (14, i1, j1)))] := hl
  refine lv_aload_n (pc := 0) hx hb d_Message_copyFrom_0 rfl (lv_at hl 0 rfl) ?_
  refine lv_aload_n (pc := 1) hx hb d_Message_copyFrom_1 rfl (lv_at hl 1 rfl) ?_
  refine z_get (pc := 2) (v := .int (S.1 14 i1 j1 1)) hF hK.1 hW (tq14 h1) rfl rfl in_Message 1 (by decide) gw_139 rfl rfl d_Message_copyFrom_2 ?_
  refine lv_aload_n (pc := 5) hx hb d_Message_copyFrom_5 rfl (lv_at hl 1 rfl) ?_
  refine z_get (pc := 6) (v := .int (S.1 14 i1 j1 2)) hF hK.1 hW (tq14 h1) rfl rfl in_Message 2 (by decide) gw_141 rfl rfl d_Message_copyFrom_6 ?_
  refine lv_aload_n (pc := 9) hx hb d_Message_copyFrom_9 rfl (lv_at hl 1 rfl) ?_
  refine z_get (pc := 10) (v := .int (S.1 14 i1 j1 3)) hF hK.1 hW (tq14 h1) rfl rfl in_Message 3 (by decide) gw_143 rfl rfl d_Message_copyFrom_10 ?_
  refine lv_aload_n (pc := 13) hx hb d_Message_copyFrom_13 rfl (lv_at hl 1 rfl) ?_
  refine z_get (pc := 14) (v := .int (S.1 14 i1 j1 4)) hF hK.1 hW (tq14 h1) rfl rfl in_Message 4 (by decide) gw_145 rfl rfl d_Message_copyFrom_14 ?_
  obtain ⟨S2, eS2⟩ : ∃ z : St, z = f_Message_write i0 j0 (S.1 14 i1 j1 1) (S.1 14 i1 j1 2) (S.1 14 i1 j1 3) (S.1 14 i1 j1 4) S := ⟨_, rfl⟩
  have hr := lt_e eS2 hr
  refine z_goV (pc := 17) hW hA eS2 (z_runV hF hK hW (c_Message_write l D X ad ca i0 j0 (S.1 14 i1 j1 1) (S.1 14 i1 j1 2) (S.1 14 i1 j1 3) (S.1 14 i1 j1 4) h0 S _) cd_Message_write gw_419 (tq14 h0) rfl rfl ⟨Nat.le_of_ble_eq_true rfl, Nat.le_of_ble_eq_true rfl⟩ ⟨Nat.zero_le _, Nat.zero_le _⟩ rfl rfl hl.1 (Nat.le_of_ble_eq_true rfl) d_Message_copyFrom_17) (fun H locs (hW : Wd D clQ A s.heap (zw X ad TQ (cfQ ad ca) S2) H locs) => ?_)
  refine lv_aload_n (pc := 20) hx hb d_Message_copyFrom_20 rfl (lv_at hl 0 rfl) ?_
  refine lv_aload_n (pc := 21) hx hb d_Message_copyFrom_21 rfl (lv_at hl 1 rfl) ?_
  refine z_get (pc := 22) (v := .int (S2.1 14 i1 j1 5)) hF hK.1 hW (tq14 h1) rfl rfl in_Message 5 (by decide) gw_147 rfl rfl d_Message_copyFrom_22 ?_
  obtain ⟨S3, eS3⟩ : ∃ z : St, z = si S2 14 i0 j0 5 (S2.1 14 i1 j1 5) := ⟨_, rfl⟩
  have hr := lt_e eS3 hr
  refine z_put (pc := 25) (S' := S3) hF hK.1 hW (tq14 h0) rfl rfl in_Message t_Message tyo_Message nmo_Message 5 (by decide) gw_147 rfl rfl rfl rfl rfl (Nat.le_of_ble_eq_true rfl) (zs_si eS3 rfl) (zs_sio eS3) d_Message_copyFrom_25 (fun H locs (hW : Wd D clQ A s.heap (zw X ad TQ (cfQ ad ca) S3) H locs) => ?_)
  refine lv_aload_n (pc := 28) hx hb d_Message_copyFrom_28 rfl (lv_at hl 1 rfl) ?_
  refine z_get (pc := 29) (v := .ref (ad (15, i1, j1))) hF hK.1 hW (tq14 h1) rfl rfl in_Message 0 (by decide) gw_136 rfl rfl d_Message_copyFrom_29 ?_
  refine lv_iconst (pc := 32) (v := 0) hx hb d_Message_copyFrom_32 (by decide) ?_
  refine lv_aload_n (pc := 33) hx hb d_Message_copyFrom_33 rfl (lv_at hl 0 rfl) ?_
  refine z_get (pc := 34) (v := .ref (ad (15, i0, j0))) hF hK.1 hW (tq14 h0) rfl rfl in_Message 0 (by decide) gw_136 rfl rfl d_Message_copyFrom_34 ?_
  refine lv_iconst (pc := 37) (v := 0) hx hb d_Message_copyFrom_37 (by decide) ?_
  refine lv_bipush (pc := 38) (v := 11) hx hb d_Message_copyFrom_38 (by decide) ?_
  obtain ⟨S4, eS4⟩ : ∃ z : St, z = wl S3 15 i0 j0 (va_cpy (S3.2.1 15 i1 j1) (S3.2.1 15 i0 j0) 0 0 11) := ⟨_, rfl⟩
  have hr := lt_e eS4 hr
  refine z_copyl (pc := 40) (S' := S4) hF hK.1 hW hl.1 (tq15 h1) (tq15 h0) 1 gw_420 gw_422 gw_421 gw_69 rfl rfl rfl rfl (by decide) (by decide) (by decide) (by decide) (by decide) (Nat.le_of_ble_eq_true rfl) (Nat.le_of_ble_eq_true rfl) (zs_sl eS4 rfl) (zs_slo eS4) d_Message_copyFrom_40 (fun H locs (hW : Wd D clQ A s.heap (zw X ad TQ (cfQ ad ca) S4) H locs) => ?_)
  exact z_vret hy hW hr.symm d_Message_copyFrom_43
theorem d_Inbox_add_0 : decode b_Inbox_add 0 = .ok (.aload_n 0, 1) := by decide +kernel
theorem d_Inbox_add_1 : decode b_Inbox_add 1 = .ok (.getfield 18, 3) := by decide +kernel
theorem d_Inbox_add_4 : decode b_Inbox_add 4 = .ok (.bipush 16, 2) := by decide +kernel
theorem d_Inbox_add_6 : decode b_Inbox_add 6 = .ok (.if_icmp .ge 26, 3) := by decide +kernel
theorem d_Inbox_add_9 : decode b_Inbox_add 9 = .ok (.aload_n 0, 1) := by decide +kernel
theorem d_Inbox_add_10 : decode b_Inbox_add 10 = .ok (.getfield 11, 3) := by decide +kernel
theorem d_Inbox_add_13 : decode b_Inbox_add 13 = .ok (.aload_n 0, 1) := by decide +kernel
theorem d_Inbox_add_14 : decode b_Inbox_add 14 = .ok (.getfield 18, 3) := by decide +kernel
theorem d_Inbox_add_17 : decode b_Inbox_add 17 = .ok (.aaload, 1) := by decide +kernel
theorem d_Inbox_add_18 : decode b_Inbox_add 18 = .ok (.aload_n 1, 1) := by decide +kernel
theorem d_Inbox_add_19 : decode b_Inbox_add 19 = .ok (.invokevirtual 22, 3) := by decide +kernel
theorem d_Inbox_add_22 : decode b_Inbox_add 22 = .ok (.aload_n 0, 1) := by decide +kernel
theorem d_Inbox_add_23 : decode b_Inbox_add 23 = .ok (.dup, 1) := by decide +kernel
theorem d_Inbox_add_24 : decode b_Inbox_add 24 = .ok (.getfield 18, 3) := by decide +kernel
theorem d_Inbox_add_27 : decode b_Inbox_add 27 = .ok (.iconst 1, 1) := by decide +kernel
theorem d_Inbox_add_28 : decode b_Inbox_add 28 = .ok (.iadd, 1) := by decide +kernel
theorem d_Inbox_add_29 : decode b_Inbox_add 29 = .ok (.putfield 18, 3) := by decide +kernel
theorem d_Inbox_add_32 : decode b_Inbox_add 32 = .ok (.return_, 1) := by decide +kernel
def f_Inbox_add (i0 : Nat) (i1 : Nat) (j1 : Nat) (S : St) : St :=
  if (16 : Int32) ≤ (S.1 12 i0 0 1) then
    S
  else
    lt (f_Message_copyFrom i0 (S.2.2 13 i0 0 ((S.1 12 i0 0 1).toNatClampNeg)) i1 j1 S) fun (S5 : St) =>
    lt (si S5 12 i0 0 1 ((S5.1 12 i0 0 1) + (1 : Int32))) fun (S6 : St) =>
    S6
def ok_Inbox_add (i0 : Nat) (i1 : Nat) (j1 : Nat) (S : St) : Prop :=
  ((16 : Int32) ≤ (S.1 12 i0 0 1) → (
    True)) ∧ (¬ ((16 : Int32) ≤ (S.1 12 i0 0 1)) → (
    (vp_in (S.1 12 i0 0 1) 16) ∧ (
      ((S.2.2 13 i0 0 ((S.1 12 i0 0 1).toNatClampNeg)) < 16) ∧ (
        True))))
set_option maxHeartbeats 4000000 in
set_option maxRecDepth 100000 in
theorem c_Inbox_add (l : Launch) (D : va_G) (X : va_W) (ad : N3 → Nat) (ca : Nat → ClassId) (i0 : Nat) (i1 : Nat) (j1 : Nat) (h0 : i0 < 4) (h1 : inM i1 j1) (S : St) (hk : ok_Inbox_add i0 i1 j1 S) : cV l GG D clQ (tysQ ca) nwQ X ad TQ (cfQ ad ca) y_Inbox_add b_Inbox_add 2 2 101 [.ref (ad (12, i0, 0)), .ref (ad (14, i1, j1))] S (f_Inbox_add i0 i1 j1 S) := by
  generalize hr : f_Inbox_add i0 i1 j1 S = res
  refine zV_of pn_Inbox (Nat.le_of_ble_eq_true rfl) (fun p e s m below meth c A ls hy hW hA hl => ?_)
  have hF := hy.1
  have hx := hF.1
  have hb := hF.2.1
  have hK := hy.2.2.2
  have hl : lv_has ls 2 [(0, .ref (ad (12, i0, 0))), (1, .ref (ad (14, i1, j1)))] := hl
  refine lv_aload_n (pc := 0) hx hb d_Inbox_add_0 rfl (lv_at hl 0 rfl) ?_
  refine z_get (pc := 1) (v := .int (S.1 12 i0 0 1)) hF hK.1 hW (tq12 h0) rfl rfl in_Inbox 1 (by decide) gw_180 rfl rfl d_Inbox_add_1 ?_
  refine lv_bipush (pc := 4) (v := 16) hx hb d_Inbox_add_4 (by decide) ?_
  refine lv_icmp_ge (pc := 6) (tgt := 32) hx hb d_Inbox_add_6 (by decide) (fun c1 => ?_) (fun c1 => ?_)
  · have hk := hk.1 c1
    have hr := (if_pos c1).symm.trans hr
    exact z_vret hy hW hr.symm d_Inbox_add_32
  · have hk := hk.2 c1
    have hr := (if_neg c1).symm.trans hr
    refine lv_aload_n (pc := 9) hx hb d_Inbox_add_9 rfl (lv_at hl 0 rfl) ?_
    refine z_get (pc := 10) (v := .ref (ad (13, i0, 0))) hF hK.1 hW (tq12 h0) rfl rfl in_Inbox 0 (by decide) gw_178 rfl rfl d_Inbox_add_10 ?_
    refine lv_aload_n (pc := 13) hx hb d_Inbox_add_13 rfl (lv_at hl 0 rfl) ?_
    refine z_get (pc := 14) (v := .int (S.1 12 i0 0 1)) hF hK.1 hW (tq12 h0) rfl rfl in_Inbox 1 (by decide) gw_180 rfl rfl d_Inbox_add_14 ?_
    have b2 := hk.1
    have hk := hk.2
    have b3 := hk.1
    have hk := hk.2
    refine z_aald (pc := 17) (q := ad (14, i0, (S.2.2 13 i0 0 ((S.1 12 i0 0 1).toNatClampNeg)))) hF hK.1 hW (tq13 h0) 4 rfl rfl b2 rfl d_Inbox_add_17 ?_
    refine lv_aload_n (pc := 18) hx hb d_Inbox_add_18 rfl (lv_at hl 1 rfl) ?_
    obtain ⟨S5, eS5⟩ : ∃ z : St, z = f_Message_copyFrom i0 (S.2.2 13 i0 0 ((S.1 12 i0 0 1).toNatClampNeg)) i1 j1 S := ⟨_, rfl⟩
    have hr := lt_e eS5 hr
    refine z_goV (pc := 19) hW hA eS5 (z_runV hF hK hW (c_Message_copyFrom l D X ad ca i0 (S.2.2 13 i0 0 ((S.1 12 i0 0 1).toNatClampNeg)) i1 j1 (Or.inl ⟨h0, b3⟩) h1 S _) cd_Message_copyFrom gw_415 (tq14 (Or.inl ⟨h0, b3⟩)) rfl rfl ⟨Nat.le_of_ble_eq_true rfl, Nat.le_of_ble_eq_true rfl⟩ ⟨Nat.zero_le _, Nat.zero_le _⟩ rfl rfl hl.1 (Nat.le_of_ble_eq_true rfl) d_Inbox_add_19) (fun H locs (hW : Wd D clQ A s.heap (zw X ad TQ (cfQ ad ca) S5) H locs) => ?_)
    refine lv_aload_n (pc := 22) hx hb d_Inbox_add_22 rfl (lv_at hl 0 rfl) ?_
    refine lv_dup (pc := 23) hx hb d_Inbox_add_23 rfl ?_
    refine z_get (pc := 24) (v := .int (S5.1 12 i0 0 1)) hF hK.1 hW (tq12 h0) rfl rfl in_Inbox 1 (by decide) gw_180 rfl rfl d_Inbox_add_24 ?_
    refine lv_iconst (pc := 27) (v := 1) hx hb d_Inbox_add_27 (by decide) ?_
    refine lv_iadd (pc := 28) hx hb d_Inbox_add_28 ?_
    obtain ⟨S6, eS6⟩ : ∃ z : St, z = si S5 12 i0 0 1 ((S5.1 12 i0 0 1) + (1 : Int32)) := ⟨_, rfl⟩
    have hr := lt_e eS6 hr
    refine z_put (pc := 29) (S' := S6) hF hK.1 hW (tq12 h0) rfl rfl in_Inbox t_Inbox tyo_Inbox nmo_Inbox 1 (by decide) gw_180 rfl rfl rfl rfl rfl (Nat.le_of_ble_eq_true rfl) (zs_si eS6 rfl) (zs_sio eS6) d_Inbox_add_29 (fun H locs (hW : Wd D clQ A s.heap (zw X ad TQ (cfQ ad ca) S6) H locs) => ?_)
    exact z_vret hy hW hr.symm d_Inbox_add_32
theorem d_QC_sendDraftToAll_0 : decode b_QC_sendDraftToAll 0 = .ok (.iconst 0, 1) := by decide +kernel
theorem d_QC_sendDraftToAll_1 : decode b_QC_sendDraftToAll 1 = .ok (.istore_n 1, 1) := by decide +kernel
theorem d_QC_sendDraftToAll_2 : decode b_QC_sendDraftToAll 2 = .ok (.iload_n 1, 1) := by decide +kernel
theorem d_QC_sendDraftToAll_3 : decode b_QC_sendDraftToAll 3 = .ok (.iconst 4, 1) := by decide +kernel
theorem d_QC_sendDraftToAll_4 : decode b_QC_sendDraftToAll 4 = .ok (.if_icmp .ge 25, 3) := by decide +kernel
theorem d_QC_sendDraftToAll_7 : decode b_QC_sendDraftToAll 7 = .ok (.aload_n 0, 1) := by decide +kernel
theorem d_QC_sendDraftToAll_8 : decode b_QC_sendDraftToAll 8 = .ok (.getfield 11, 3) := by decide +kernel
theorem d_QC_sendDraftToAll_11 : decode b_QC_sendDraftToAll 11 = .ok (.iload_n 1, 1) := by decide +kernel
theorem d_QC_sendDraftToAll_12 : decode b_QC_sendDraftToAll 12 = .ok (.aaload, 1) := by decide +kernel
theorem d_QC_sendDraftToAll_13 : decode b_QC_sendDraftToAll 13 = .ok (.getfield 99, 3) := by decide +kernel
theorem d_QC_sendDraftToAll_16 : decode b_QC_sendDraftToAll 16 = .ok (.aload_n 0, 1) := by decide +kernel
theorem d_QC_sendDraftToAll_17 : decode b_QC_sendDraftToAll 17 = .ok (.getfield 32, 3) := by decide +kernel
theorem d_QC_sendDraftToAll_20 : decode b_QC_sendDraftToAll 20 = .ok (.invokevirtual 157, 3) := by decide +kernel
theorem d_QC_sendDraftToAll_23 : decode b_QC_sendDraftToAll 23 = .ok (.iinc 1 1, 3) := by decide +kernel
theorem d_QC_sendDraftToAll_26 : decode b_QC_sendDraftToAll 26 = .ok (.goto (-24), 3) := by decide +kernel
theorem d_QC_sendDraftToAll_29 : decode b_QC_sendDraftToAll 29 = .ok (.return_, 1) := by decide +kernel
def f_QC_sendDraftToAll_2  : Nat → St → Int32 → St
  | 0, S, _ => S
  | n + 1, S, l1 =>
    if (4 : Int32) ≤ l1 then
      S
    else
      lt (f_Inbox_add (l1.toNatClampNeg) 4 0 S) fun (S5 : St) =>
      f_QC_sendDraftToAll_2 n S5 (l1 + (1 : Int32))
def ok_QC_sendDraftToAll_2  : Nat → St → Int32 → Prop
  | 0, _, _ => False
  | n + 1, S, l1 =>
    ((4 : Int32) ≤ l1 → (
      True)) ∧ (¬ ((4 : Int32) ≤ l1) → (
      (vp_in l1 4) ∧ (
        (ok_Inbox_add (l1.toNatClampNeg) 4 0 S) ∧ (
          lt (f_Inbox_add (l1.toNatClampNeg) 4 0 S) fun (S5 : St) =>
          ok_QC_sendDraftToAll_2 n S5 (l1 + (1 : Int32))))))
set_option maxHeartbeats 4000000 in
set_option maxRecDepth 100000 in
theorem w_QC_sendDraftToAll_2 {l : Launch} {D : va_G} {X : va_W} {ad : N3 → Nat} {ca : Nat → ClassId}   {p : Program} {e : Env} {s : State} {m : MethodId} {below : List Frame} {meth : Method} {c : Code} {A : Nat → Prop} (hy : Hy p s m ([.ref (ad (1, 0, 0))] : List Value).toArray meth c b_QC_sendDraftToAll 2 none R_QC GG D clQ (tysQ ca) nwQ) (hA : ∀ q, s.heap.size ≤ q → A q) {res : St} : ∀ (n : Nat) (S : St) (l1 : Int32) , ok_QC_sendDraftToAll_2 n S l1 → f_QC_sendDraftToAll_2 n S l1 = res → ∀ (H : Heap) (locs : List Loc) (ls : Array Slot), Wd D clQ A s.heap (zw X ad TQ (cfQ ad ca) S) H locs → lv_has ls 2 [(0, .ref (ad (1, 0, 0))), (1, .int l1)] → W p l e { frames := 3, cells := 0, slots := 0, locals := 122 } s m ([.ref (ad (1, 0, 0))] : List Value).toArray below meth c H locs 0 0 (MQ below (eV D clQ X ad TQ (cfQ ad ca) A res) ([.ref (ad (1, 0, 0))] : List Value).toArray s 0 0 A) (F0 m 2 ls []) := by
  have hF := hy.1
  have hx := hF.1
  have hb := hF.2.1
  have hK := hy.2.2.2
  intro n
  induction n with
  | zero =>
    intro S l1 hk
    exact hk.elim
  | succ n ih =>
    intro S l1 hk hr H locs ls hW hl
    refine lv_iload_n (pc := 2) hx hb d_QC_sendDraftToAll_2 rfl (lv_at hl 1 rfl) ?_
    refine lv_iconst (pc := 3) (v := 4) hx hb d_QC_sendDraftToAll_3 (by decide) ?_
    refine lv_icmp_ge (pc := 4) (tgt := 29) hx hb d_QC_sendDraftToAll_4 (by decide) (fun c1 => ?_) (fun c1 => ?_)
    · have hk := hk.1 c1
      have hr := (if_pos c1).symm.trans hr
      exact z_vret hy hW hr.symm d_QC_sendDraftToAll_29
    · have hk := hk.2 c1
      have hr := (if_neg c1).symm.trans hr
      refine lv_aload_n (pc := 7) hx hb d_QC_sendDraftToAll_7 rfl (lv_at hl 0 rfl) ?_
      refine z_get (pc := 8) (v := .ref (ad (2, 0, 0))) hF hK.1 hW tq1 rfl rfl in_QC 0 (by decide) gw_344 rfl rfl d_QC_sendDraftToAll_8 ?_
      refine lv_iload_n (pc := 11) hx hb d_QC_sendDraftToAll_11 rfl (lv_at hl 1 rfl) ?_
      have b2 := hk.1
      have hk := hk.2
      refine z_aald (pc := 12) (q := ad (3, (l1.toNatClampNeg), 0)) hF hK.1 hW tq2 3 rfl rfl b2 rfl d_QC_sendDraftToAll_12 ?_
      refine z_get (pc := 13) (v := .ref (ad (12, (l1.toNatClampNeg), 0))) hF hK.1 hW (tq3 (vin4 b2)) rfl rfl in_Node 2 (by decide) gw_300 rfl rfl d_QC_sendDraftToAll_13 ?_
      refine lv_aload_n (pc := 16) hx hb d_QC_sendDraftToAll_16 rfl (lv_at hl 0 rfl) ?_
      refine z_get (pc := 17) (v := .ref (ad (14, 4, 0))) hF hK.1 hW tq1 rfl rfl in_QC 3 (by decide) gw_347 rfl rfl d_QC_sendDraftToAll_17 ?_
      have o3 := hk.1
      have hk := hk.2
      obtain ⟨S5, eS5⟩ : ∃ z : St, z = f_Inbox_add (l1.toNatClampNeg) 4 0 S := ⟨_, rfl⟩
      have hk := lt_p eS5 hk
      have hr := lt_e eS5 hr
      refine z_goV (pc := 20) hW hA eS5 (z_runV hF hK hW (c_Inbox_add l D X ad ca (l1.toNatClampNeg) 4 0 (vin4 b2) inM_D S o3 _) cd_Inbox_add gw_411 (tq12 (vin4 b2)) rfl rfl ⟨Nat.le_of_ble_eq_true rfl, Nat.le_of_ble_eq_true rfl⟩ ⟨Nat.zero_le _, Nat.zero_le _⟩ rfl rfl hl.1 (Nat.le_of_ble_eq_true rfl) d_QC_sendDraftToAll_20) (fun H locs (hW : Wd D clQ A s.heap (zw X ad TQ (cfQ ad ca) S5) H locs) => ?_)
      refine lv_iinc (pc := 23) (v := l1 + (1 : Int32)) (lv' := [(1, .int (l1 + (1 : Int32))), (0, .ref (ad (1, 0, 0)))]) (k := 1) hx hb d_QC_sendDraftToAll_23 hl rfl (z_inc (by decide)) (by decide) rfl (fun ls hl => ?_)
      refine lv_goto (pc := 26) (tgt := 2) hx hb d_QC_sendDraftToAll_26 (by decide) ?_
      exact ih S5 (l1 + (1 : Int32)) hk hr _ _ _ hW (lv_sub hl [1, 0] rfl)
def f_QC_sendDraftToAll  (S : St) : St :=
  f_QC_sendDraftToAll_2 200 S (0 : Int32)
def ok_QC_sendDraftToAll  (S : St) : Prop :=
  ok_QC_sendDraftToAll_2 200 S (0 : Int32)
set_option maxHeartbeats 4000000 in
set_option maxRecDepth 100000 in
theorem c_QC_sendDraftToAll (l : Launch) (D : va_G) (X : va_W) (ad : N3 → Nat) (ca : Nat → ClassId)   (S : St) (hk : ok_QC_sendDraftToAll S) : cV l GG D clQ (tysQ ca) nwQ X ad TQ (cfQ ad ca) y_QC_sendDraftToAll b_QC_sendDraftToAll 2 3 122 [.ref (ad (1, 0, 0))] S (f_QC_sendDraftToAll S) := by
  generalize hr : f_QC_sendDraftToAll S = res
  refine zV_of pn_QC (Nat.le_of_ble_eq_true rfl) (fun p e s m below meth c A ls hy hW hA hl => ?_)
  have hF := hy.1
  have hx := hF.1
  have hb := hF.2.1
  have hK := hy.2.2.2
  have hl : lv_has ls 2 [(0, .ref (ad (1, 0, 0)))] := hl
  refine lv_iconst (pc := 0) (v := 0) hx hb d_QC_sendDraftToAll_0 (by decide) ?_
  refine lv_istore_n (pc := 1) (lv' := [(1, .int (0 : Int32)), (0, .ref (ad (1, 0, 0)))]) hx hb d_QC_sendDraftToAll_1 rfl hl (by decide) rfl (fun ls hl => ?_)
  exact w_QC_sendDraftToAll_2  hy hA 200 S (0 : Int32) hk hr _ _ _ hW (lv_sub hl [1, 0] rfl)
theorem d_QC_countDown_0 : decode b_QC_countDown 0 = .ok (.aload_n 1, 1) := by decide +kernel
theorem d_QC_countDown_1 : decode b_QC_countDown 1 = .ok (.dup, 1) := by decide +kernel
theorem d_QC_countDown_2 : decode b_QC_countDown 2 = .ok (.getfield 242, 3) := by decide +kernel
theorem d_QC_countDown_5 : decode b_QC_countDown 5 = .ok (.iconst 1, 1) := by decide +kernel
theorem d_QC_countDown_6 : decode b_QC_countDown 6 = .ok (.isub, 1) := by decide +kernel
theorem d_QC_countDown_7 : decode b_QC_countDown 7 = .ok (.putfield 242, 3) := by decide +kernel
theorem d_QC_countDown_10 : decode b_QC_countDown 10 = .ok (.aload_n 1, 1) := by decide +kernel
theorem d_QC_countDown_11 : decode b_QC_countDown 11 = .ok (.getfield 242, 3) := by decide +kernel
theorem d_QC_countDown_14 : decode b_QC_countDown 14 = .ok (.ifCond .le 4, 3) := by decide +kernel
theorem d_QC_countDown_17 : decode b_QC_countDown 17 = .ok (.return_, 1) := by decide +kernel
theorem d_QC_countDown_18 : decode b_QC_countDown 18 = .ok (.aload_n 1, 1) := by decide +kernel
theorem d_QC_countDown_19 : decode b_QC_countDown 19 = .ok (.getfield 179, 3) := by decide +kernel
theorem d_QC_countDown_22 : decode b_QC_countDown 22 = .ok (.aload_n 1, 1) := by decide +kernel
theorem d_QC_countDown_23 : decode b_QC_countDown 23 = .ok (.getfield 179, 3) := by decide +kernel
theorem d_QC_countDown_26 : decode b_QC_countDown 26 = .ok (.getfield 251, 3) := by decide +kernel
theorem d_QC_countDown_29 : decode b_QC_countDown 29 = .ok (.aload_n 1, 1) := by decide +kernel
theorem d_QC_countDown_30 : decode b_QC_countDown 30 = .ok (.getfield 88, 3) := by decide +kernel
theorem d_QC_countDown_33 : decode b_QC_countDown 33 = .ok (.invokestatic 371, 3) := by decide +kernel
theorem d_QC_countDown_36 : decode b_QC_countDown 36 = .ok (.putfield 251, 3) := by decide +kernel
theorem d_QC_countDown_39 : decode b_QC_countDown 39 = .ok (.aload_n 0, 1) := by decide +kernel
theorem d_QC_countDown_40 : decode b_QC_countDown 40 = .ok (.aload_n 1, 1) := by decide +kernel
theorem d_QC_countDown_41 : decode b_QC_countDown 41 = .ok (.iconst 3, 1) := by decide +kernel
theorem d_QC_countDown_42 : decode b_QC_countDown 42 = .ok (.aload_n 1, 1) := by decide +kernel
theorem d_QC_countDown_43 : decode b_QC_countDown 43 = .ok (.getfield 248, 3) := by decide +kernel
theorem d_QC_countDown_46 : decode b_QC_countDown 46 = .ok (.aload_n 1, 1) := by decide +kernel
theorem d_QC_countDown_47 : decode b_QC_countDown 47 = .ok (.getfield 88, 3) := by decide +kernel
theorem d_QC_countDown_50 : decode b_QC_countDown 50 = .ok (.invokevirtual 216, 3) := by decide +kernel
theorem d_QC_countDown_53 : decode b_QC_countDown 53 = .ok (.ifCond .eq 7, 3) := by decide +kernel
theorem d_QC_countDown_56 : decode b_QC_countDown 56 = .ok (.aload_n 0, 1) := by decide +kernel
theorem d_QC_countDown_57 : decode b_QC_countDown 57 = .ok (.invokevirtual 362, 3) := by decide +kernel
theorem d_QC_countDown_60 : decode b_QC_countDown 60 = .ok (.aload_n 1, 1) := by decide +kernel
theorem d_QC_countDown_61 : decode b_QC_countDown 61 = .ok (.iconst 2, 1) := by decide +kernel
theorem d_QC_countDown_62 : decode b_QC_countDown 62 = .ok (.aload_n 1, 1) := by decide +kernel
theorem d_QC_countDown_63 : decode b_QC_countDown 63 = .ok (.getfield 245, 3) := by decide +kernel
theorem d_QC_countDown_66 : decode b_QC_countDown 66 = .ok (.imul, 1) := by decide +kernel
theorem d_QC_countDown_67 : decode b_QC_countDown 67 = .ok (.bipush 24, 2) := by decide +kernel
theorem d_QC_countDown_69 : decode b_QC_countDown 69 = .ok (.invokestatic 376, 3) := by decide +kernel
theorem d_QC_countDown_72 : decode b_QC_countDown 72 = .ok (.putfield 245, 3) := by decide +kernel
theorem d_QC_countDown_75 : decode b_QC_countDown 75 = .ok (.aload_n 1, 1) := by decide +kernel
theorem d_QC_countDown_76 : decode b_QC_countDown 76 = .ok (.aload_n 1, 1) := by decide +kernel
theorem d_QC_countDown_77 : decode b_QC_countDown 77 = .ok (.getfield 245, 3) := by decide +kernel
theorem d_QC_countDown_80 : decode b_QC_countDown 80 = .ok (.putfield 242, 3) := by decide +kernel
theorem d_QC_countDown_83 : decode b_QC_countDown 83 = .ok (.return_, 1) := by decide +kernel
def f_QC_countDown_60 (i1 : Nat) (S : St)  : St :=
  lt (si S 3 i1 0 10 (if (24 : Int32) < (2 : Int32) * (S.1 3 i1 0 10) then (24 : Int32) else (2 : Int32) * (S.1 3 i1 0 10))) fun (S10 : St) =>
  lt (si S10 3 i1 0 9 (S10.1 3 i1 0 10)) fun (S11 : St) =>
  S11
def ok_QC_countDown_60 (i1 : Nat) (S : St)  : Prop :=
  True
set_option maxHeartbeats 4000000 in
set_option maxRecDepth 100000 in
theorem w_QC_countDown_60 {l : Launch} {D : va_G} {X : va_W} {ad : N3 → Nat} {ca : Nat → ClassId} (i1 : Nat) (h1 : i1 < 4) {p : Program} {e : Env} {s : State} {m : MethodId} {below : List Frame} {meth : Method} {c : Code} {A : Nat → Prop} (hy : Hy p s m ([.ref (ad (1, 0, 0)), .ref (ad (3, i1, 0))] : List Value).toArray meth c b_QC_countDown 2 none R_QC GG D clQ (tysQ ca) nwQ) (hA : ∀ q, s.heap.size ≤ q → A q) {res : St} : ∀  (S : St)  , ok_QC_countDown_60 i1 S → f_QC_countDown_60 i1 S = res → ∀ (H : Heap) (locs : List Loc) (ls : Array Slot), Wd D clQ A s.heap (zw X ad TQ (cfQ ad ca) S) H locs → lv_has ls 2 [(1, .ref (ad (3, i1, 0)))] → W p l e { frames := 4, cells := 0, slots := 0, locals := 143 } s m ([.ref (ad (1, 0, 0)), .ref (ad (3, i1, 0))] : List Value).toArray below meth c H locs 0 0 (MQ below (eV D clQ X ad TQ (cfQ ad ca) A res) ([.ref (ad (1, 0, 0)), .ref (ad (3, i1, 0))] : List Value).toArray s 0 0 A) (F0 m 60 ls []) := by
  have hF := hy.1
  have hx := hF.1
  have hb := hF.2.1
  have hK := hy.2.2.2
  intro S hk hr H locs ls hW hl
  refine lv_aload_n (pc := 60) hx hb d_QC_countDown_60 rfl (lv_at hl 0 rfl) ?_
  refine lv_iconst (pc := 61) (v := 2) hx hb d_QC_countDown_61 (by decide) ?_
  refine lv_aload_n (pc := 62) hx hb d_QC_countDown_62 rfl (lv_at hl 0 rfl) ?_
  refine z_get (pc := 63) (v := .int (S.1 3 i1 0 10)) hF hK.1 hW (tq3 h1) rfl rfl in_Node 10 (by decide) gw_316 rfl rfl d_QC_countDown_63 ?_
  refine lv_imul (pc := 66) hx hb d_QC_countDown_66 ?_
  refine lv_bipush (pc := 67) (v := 24) hx hb d_QC_countDown_67 (by decide) ?_
  refine va_mmin (pc := 69) hx hb (by rw [hF.2.2.1, hl.1]) hF.2.2.2.1 (hF.2.2.2.2 _ gw_423) (hF.2.2.2.2 _ gw_424) (hF.2.2.2.2 _ gw_71) (hF.2.2.2.2 _ gw_425) (Nat.le_of_ble_eq_true rfl) (Nat.le_of_ble_eq_true rfl) (Nat.zero_le _) (Nat.zero_le _) d_QC_countDown_69 ?_
  obtain ⟨S10, eS10⟩ : ∃ z : St, z = si S 3 i1 0 10 (if (24 : Int32) < (2 : Int32) * (S.1 3 i1 0 10) then (24 : Int32) else (2 : Int32) * (S.1 3 i1 0 10)) := ⟨_, rfl⟩
  have hr := lt_e eS10 hr
  refine z_put (pc := 72) (S' := S10) hF hK.1 hW (tq3 h1) rfl rfl in_Node t_Node tyo_Node nmo_Node 10 (by decide) gw_316 rfl rfl rfl rfl rfl (Nat.le_of_ble_eq_true rfl) (zs_si eS10 rfl) (zs_sio eS10) d_QC_countDown_72 (fun H locs (hW : Wd D clQ A s.heap (zw X ad TQ (cfQ ad ca) S10) H locs) => ?_)
  refine lv_aload_n (pc := 75) hx hb d_QC_countDown_75 rfl (lv_at hl 0 rfl) ?_
  refine lv_aload_n (pc := 76) hx hb d_QC_countDown_76 rfl (lv_at hl 0 rfl) ?_
  refine z_get (pc := 77) (v := .int (S10.1 3 i1 0 10)) hF hK.1 hW (tq3 h1) rfl rfl in_Node 10 (by decide) gw_316 rfl rfl d_QC_countDown_77 ?_
  obtain ⟨S11, eS11⟩ : ∃ z : St, z = si S10 3 i1 0 9 (S10.1 3 i1 0 10) := ⟨_, rfl⟩
  have hr := lt_e eS11 hr
  refine z_put (pc := 80) (S' := S11) hF hK.1 hW (tq3 h1) rfl rfl in_Node t_Node tyo_Node nmo_Node 9 (by decide) gw_314 rfl rfl rfl rfl rfl (Nat.le_of_ble_eq_true rfl) (zs_si eS11 rfl) (zs_sio eS11) d_QC_countDown_80 (fun H locs (hW : Wd D clQ A s.heap (zw X ad TQ (cfQ ad ca) S11) H locs) => ?_)
  exact z_vret hy hW hr.symm d_QC_countDown_83
def f_QC_countDown (i1 : Nat) (S : St) : St :=
  lt (si S 3 i1 0 9 ((S.1 3 i1 0 9) - (1 : Int32))) fun (S1 : St) =>
  if (S1.1 3 i1 0 9) ≤ 0 then
    lt (si S1 4 i1 0 6 (if S1.1 4 i1 0 6 < S1.1 3 i1 0 8 then S1.1 3 i1 0 8 else S1.1 4 i1 0 6)) fun (S3 : St) =>
    lt (f_QC_writeSigned i1 (3 : Int32) (S3.1 3 i1 0 11) (S3.1 3 i1 0 8) S3) fun (r5 : Int32 × St) =>
    if r5.1 = 0 then
      f_QC_countDown_60 i1 r5.2
    else
      lt (f_QC_sendDraftToAll r5.2) fun (S9 : St) =>
      f_QC_countDown_60 i1 S9
  else
    S1
def ok_QC_countDown (i1 : Nat) (S : St) : Prop :=
  lt (si S 3 i1 0 9 ((S.1 3 i1 0 9) - (1 : Int32))) fun (S1 : St) =>
  ((S1.1 3 i1 0 9) ≤ 0 → (
    lt (si S1 4 i1 0 6 (if S1.1 4 i1 0 6 < S1.1 3 i1 0 8 then S1.1 3 i1 0 8 else S1.1 4 i1 0 6)) fun (S3 : St) =>
    (ok_QC_writeSigned i1 (3 : Int32) (S3.1 3 i1 0 11) (S3.1 3 i1 0 8) S3) ∧ (
      lt (f_QC_writeSigned i1 (3 : Int32) (S3.1 3 i1 0 11) (S3.1 3 i1 0 8) S3) fun (r5 : Int32 × St) =>
      (r5.1 = 0 → (
        ok_QC_countDown_60 i1 r5.2)) ∧ (¬ (r5.1 = 0) → (
        (ok_QC_sendDraftToAll r5.2) ∧ (
          lt (f_QC_sendDraftToAll r5.2) fun (S9 : St) =>
          ok_QC_countDown_60 i1 S9)))))) ∧ (¬ ((S1.1 3 i1 0 9) ≤ 0) → (
    True))
set_option maxHeartbeats 4000000 in
set_option maxRecDepth 100000 in
theorem c_QC_countDown (l : Launch) (D : va_G) (X : va_W) (ad : N3 → Nat) (ca : Nat → ClassId) (i1 : Nat) (h1 : i1 < 4) (S : St) (hk : ok_QC_countDown i1 S) : cV l GG D clQ (tysQ ca) nwQ X ad TQ (cfQ ad ca) y_QC_countDown b_QC_countDown 2 4 143 [.ref (ad (1, 0, 0)), .ref (ad (3, i1, 0))] S (f_QC_countDown i1 S) := by
  generalize hr : f_QC_countDown i1 S = res
  refine zV_of pn_QC (Nat.le_of_ble_eq_true rfl) (fun p e s m below meth c A ls hy hW hA hl => ?_)
  have hF := hy.1
  have hx := hF.1
  have hb := hF.2.1
  have hK := hy.2.2.2
  have hl : lv_has ls 2 [(0, .ref (ad (1, 0, 0))), (1, .ref (ad (3, i1, 0)))] := hl
  refine lv_aload_n (pc := 0) hx hb d_QC_countDown_0 rfl (lv_at hl 1 rfl) ?_
  refine lv_dup (pc := 1) hx hb d_QC_countDown_1 rfl ?_
  refine z_get (pc := 2) (v := .int (S.1 3 i1 0 9)) hF hK.1 hW (tq3 h1) rfl rfl in_Node 9 (by decide) gw_314 rfl rfl d_QC_countDown_2 ?_
  refine lv_iconst (pc := 5) (v := 1) hx hb d_QC_countDown_5 (by decide) ?_
  refine lv_isub (pc := 6) hx hb d_QC_countDown_6 ?_
  obtain ⟨S1, eS1⟩ : ∃ z : St, z = si S 3 i1 0 9 ((S.1 3 i1 0 9) - (1 : Int32)) := ⟨_, rfl⟩
  have hk := lt_p eS1 hk
  have hr := lt_e eS1 hr
  refine z_put (pc := 7) (S' := S1) hF hK.1 hW (tq3 h1) rfl rfl in_Node t_Node tyo_Node nmo_Node 9 (by decide) gw_314 rfl rfl rfl rfl rfl (Nat.le_of_ble_eq_true rfl) (zs_si eS1 rfl) (zs_sio eS1) d_QC_countDown_7 (fun H locs (hW : Wd D clQ A s.heap (zw X ad TQ (cfQ ad ca) S1) H locs) => ?_)
  refine lv_aload_n (pc := 10) hx hb d_QC_countDown_10 rfl (lv_at hl 1 rfl) ?_
  refine z_get (pc := 11) (v := .int (S1.1 3 i1 0 9)) hF hK.1 hW (tq3 h1) rfl rfl in_Node 9 (by decide) gw_314 rfl rfl d_QC_countDown_11 ?_
  refine lv_if_le (pc := 14) (tgt := 18) hx hb d_QC_countDown_14 (by decide) (fun c2 => ?_) (fun c2 => ?_)
  · have hk := hk.1 c2
    have hr := (if_pos c2).symm.trans hr
    refine lv_aload_n (pc := 18) hx hb d_QC_countDown_18 rfl (lv_at hl 1 rfl) ?_
    refine z_get (pc := 19) (v := .ref (ad (4, i1, 0))) hF hK.1 hW (tq3 h1) rfl rfl in_Node 1 (by decide) gw_298 rfl rfl d_QC_countDown_19 ?_
    refine lv_aload_n (pc := 22) hx hb d_QC_countDown_22 rfl (lv_at hl 1 rfl) ?_
    refine z_get (pc := 23) (v := .ref (ad (4, i1, 0))) hF hK.1 hW (tq3 h1) rfl rfl in_Node 1 (by decide) gw_298 rfl rfl d_QC_countDown_23 ?_
    refine z_get (pc := 26) (v := .int (S1.1 4 i1 0 6)) hF hK.1 hW (tq4 h1) rfl rfl in_Store 6 (by decide) gw_276 rfl rfl d_QC_countDown_26 ?_
    refine lv_aload_n (pc := 29) hx hb d_QC_countDown_29 rfl (lv_at hl 1 rfl) ?_
    refine z_get (pc := 30) (v := .int (S1.1 3 i1 0 8)) hF hK.1 hW (tq3 h1) rfl rfl in_Node 8 (by decide) gw_312 rfl rfl d_QC_countDown_30 ?_
    refine va_mmax (pc := 33) hx hb (by rw [hF.2.2.1, hl.1]) hF.2.2.2.1 (hF.2.2.2.2 _ gw_374) (hF.2.2.2.2 _ gw_375) (hF.2.2.2.2 _ gw_71) (hF.2.2.2.2 _ gw_376) (Nat.le_of_ble_eq_true rfl) (Nat.le_of_ble_eq_true rfl) (Nat.zero_le _) (Nat.zero_le _) d_QC_countDown_33 ?_
    obtain ⟨S3, eS3⟩ : ∃ z : St, z = si S1 4 i1 0 6 (if S1.1 4 i1 0 6 < S1.1 3 i1 0 8 then S1.1 3 i1 0 8 else S1.1 4 i1 0 6) := ⟨_, rfl⟩
    have hk := lt_p eS3 hk
    have hr := lt_e eS3 hr
    refine z_put (pc := 36) (S' := S3) hF hK.1 hW (tq4 h1) rfl rfl in_Store t_Store tyo_Store nmo_Store 6 (by decide) gw_276 rfl rfl rfl rfl rfl (Nat.le_of_ble_eq_true rfl) (zs_si eS3 rfl) (zs_sio eS3) d_QC_countDown_36 (fun H locs (hW : Wd D clQ A s.heap (zw X ad TQ (cfQ ad ca) S3) H locs) => ?_)
    refine lv_aload_n (pc := 39) hx hb d_QC_countDown_39 rfl (lv_at hl 0 rfl) ?_
    refine lv_aload_n (pc := 40) hx hb d_QC_countDown_40 rfl (lv_at hl 1 rfl) ?_
    refine lv_iconst (pc := 41) (v := 3) hx hb d_QC_countDown_41 (by decide) ?_
    refine lv_aload_n (pc := 42) hx hb d_QC_countDown_42 rfl (lv_at hl 1 rfl) ?_
    refine z_get (pc := 43) (v := .int (S3.1 3 i1 0 11)) hF hK.1 hW (tq3 h1) rfl rfl in_Node 11 (by decide) gw_318 rfl rfl d_QC_countDown_43 ?_
    refine lv_aload_n (pc := 46) hx hb d_QC_countDown_46 rfl (lv_at hl 1 rfl) ?_
    refine z_get (pc := 47) (v := .int (S3.1 3 i1 0 8)) hF hK.1 hW (tq3 h1) rfl rfl in_Node 8 (by decide) gw_312 rfl rfl d_QC_countDown_47 ?_
    have o4 := hk.1
    have hk := hk.2
    obtain ⟨r5, er5⟩ : ∃ z : Int32 × St, z = f_QC_writeSigned i1 (3 : Int32) (S3.1 3 i1 0 11) (S3.1 3 i1 0 8) S3 := ⟨_, rfl⟩
    have hk := lt_p er5 hk
    have hr := lt_e er5 hr
    refine z_goI (pc := 50) hW hA (show (r5.1, r5.2) = _ from er5) (z_runV hF hK hW (c_QC_writeSigned l D X ad ca i1 (3 : Int32) (S3.1 3 i1 0 11) (S3.1 3 i1 0 8) h1 S3 o4 _) cd_QC_writeSigned gw_377 tq1 rfl rfl ⟨Nat.le_of_ble_eq_true rfl, Nat.le_of_ble_eq_true rfl⟩ ⟨Nat.zero_le _, Nat.zero_le _⟩ rfl rfl hl.1 (Nat.le_of_ble_eq_true rfl) d_QC_countDown_50) (fun H locs (hW : Wd D clQ A s.heap (zw X ad TQ (cfQ ad ca) r5.2) H locs) => ?_)
    refine lv_if_eq (pc := 53) (tgt := 60) hx hb d_QC_countDown_53 (by decide) (fun c6 => ?_) (fun c6 => ?_)
    · have hk := hk.1 c6
      have hr := (if_pos c6).symm.trans hr
      exact w_QC_countDown_60 i1 h1 hy hA r5.2 hk hr _ _ _ hW (lv_sub hl [1] rfl)
    · have hk := hk.2 c6
      have hr := (if_neg c6).symm.trans hr
      refine lv_aload_n (pc := 56) hx hb d_QC_countDown_56 rfl (lv_at hl 0 rfl) ?_
      have o7 := hk.1
      have hk := hk.2
      obtain ⟨S9, eS9⟩ : ∃ z : St, z = f_QC_sendDraftToAll r5.2 := ⟨_, rfl⟩
      have hk := lt_p eS9 hk
      have hr := lt_e eS9 hr
      refine z_goV (pc := 57) hW hA eS9 (z_runV hF hK hW (c_QC_sendDraftToAll l D X ad ca r5.2 o7 _) cd_QC_sendDraftToAll gw_407 tq1 rfl rfl ⟨Nat.le_of_ble_eq_true rfl, Nat.le_of_ble_eq_true rfl⟩ ⟨Nat.zero_le _, Nat.zero_le _⟩ rfl rfl hl.1 (Nat.le_of_ble_eq_true rfl) d_QC_countDown_57) (fun H locs (hW : Wd D clQ A s.heap (zw X ad TQ (cfQ ad ca) S9) H locs) => ?_)
      exact w_QC_countDown_60 i1 h1 hy hA S9 hk hr _ _ _ hW (lv_sub hl [1] rfl)
  · have hk := hk.2 c2
    have hr := (if_neg c2).symm.trans hr
    exact z_vret hy hW hr.symm d_QC_countDown_17
theorem d_QC_tick_0 : decode b_QC_tick 0 = .ok (.aload_n 0, 1) := by decide +kernel
theorem d_QC_tick_1 : decode b_QC_tick 1 = .ok (.dup, 1) := by decide +kernel
theorem d_QC_tick_2 : decode b_QC_tick 2 = .ok (.getfield 224, 3) := by decide +kernel
theorem d_QC_tick_5 : decode b_QC_tick 5 = .ok (.iconst 1, 1) := by decide +kernel
theorem d_QC_tick_6 : decode b_QC_tick 6 = .ok (.iadd, 1) := by decide +kernel
theorem d_QC_tick_7 : decode b_QC_tick 7 = .ok (.putfield 224, 3) := by decide +kernel
theorem d_QC_tick_10 : decode b_QC_tick 10 = .ok (.iconst 0, 1) := by decide +kernel
theorem d_QC_tick_11 : decode b_QC_tick 11 = .ok (.istore_n 1, 1) := by decide +kernel
theorem d_QC_tick_12 : decode b_QC_tick 12 = .ok (.iload_n 1, 1) := by decide +kernel
theorem d_QC_tick_13 : decode b_QC_tick 13 = .ok (.iconst 4, 1) := by decide +kernel
theorem d_QC_tick_14 : decode b_QC_tick 14 = .ok (.if_icmp .ge 31, 3) := by decide +kernel
theorem d_QC_tick_17 : decode b_QC_tick 17 = .ok (.aload_n 0, 1) := by decide +kernel
theorem d_QC_tick_18 : decode b_QC_tick 18 = .ok (.getfield 11, 3) := by decide +kernel
theorem d_QC_tick_21 : decode b_QC_tick 21 = .ok (.iload_n 1, 1) := by decide +kernel
theorem d_QC_tick_22 : decode b_QC_tick 22 = .ok (.aaload, 1) := by decide +kernel
theorem d_QC_tick_23 : decode b_QC_tick 23 = .ok (.getfield 76, 3) := by decide +kernel
theorem d_QC_tick_26 : decode b_QC_tick 26 = .ok (.ifCond .eq 13, 3) := by decide +kernel
theorem d_QC_tick_29 : decode b_QC_tick 29 = .ok (.aload_n 0, 1) := by decide +kernel
theorem d_QC_tick_30 : decode b_QC_tick 30 = .ok (.aload_n 0, 1) := by decide +kernel
theorem d_QC_tick_31 : decode b_QC_tick 31 = .ok (.getfield 11, 3) := by decide +kernel
theorem d_QC_tick_34 : decode b_QC_tick 34 = .ok (.iload_n 1, 1) := by decide +kernel
theorem d_QC_tick_35 : decode b_QC_tick 35 = .ok (.aaload, 1) := by decide +kernel
theorem d_QC_tick_36 : decode b_QC_tick 36 = .ok (.invokevirtual 227, 3) := by decide +kernel
theorem d_QC_tick_39 : decode b_QC_tick 39 = .ok (.iinc 1 1, 3) := by decide +kernel
theorem d_QC_tick_42 : decode b_QC_tick 42 = .ok (.goto (-30), 3) := by decide +kernel
theorem d_QC_tick_45 : decode b_QC_tick 45 = .ok (.aload_n 0, 1) := by decide +kernel
theorem d_QC_tick_46 : decode b_QC_tick 46 = .ok (.getfield 224, 3) := by decide +kernel
theorem d_QC_tick_49 : decode b_QC_tick 49 = .ok (.ireturn, 1) := by decide +kernel
def f_QC_tick_12  : Nat → St → Int32 → Int32 × St
  | 0, S, _ => (0, S)
  | n + 1, S, l1 =>
    if (4 : Int32) ≤ l1 then
      (S.1 1 0 0 5, S)
    else
      if (S.1 3 (l1.toNatClampNeg) 0 7) = 0 then
        f_QC_tick_12 n S (l1 + (1 : Int32))
      else
        lt (f_QC_countDown (l1.toNatClampNeg) S) fun (S8 : St) =>
        f_QC_tick_12 n S8 (l1 + (1 : Int32))
def ok_QC_tick_12  : Nat → St → Int32 → Prop
  | 0, _, _ => False
  | n + 1, S, l1 =>
    ((4 : Int32) ≤ l1 → (
      True)) ∧ (¬ ((4 : Int32) ≤ l1) → (
      (vp_in l1 4) ∧ (
        ((S.1 3 (l1.toNatClampNeg) 0 7) = 0 → (
          ok_QC_tick_12 n S (l1 + (1 : Int32)))) ∧ (¬ ((S.1 3 (l1.toNatClampNeg) 0 7) = 0) → (
          (vp_in l1 4) ∧ (
            (ok_QC_countDown (l1.toNatClampNeg) S) ∧ (
              lt (f_QC_countDown (l1.toNatClampNeg) S) fun (S8 : St) =>
              ok_QC_tick_12 n S8 (l1 + (1 : Int32)))))))))
set_option maxHeartbeats 4000000 in
set_option maxRecDepth 100000 in
theorem w_QC_tick_12 {l : Launch} {D : va_G} {X : va_W} {ad : N3 → Nat} {ca : Nat → ClassId}   {p : Program} {e : Env} {s : State} {m : MethodId} {below : List Frame} {meth : Method} {c : Code} {A : Nat → Prop} (hy : Hy p s m ([.ref (ad (1, 0, 0))] : List Value).toArray meth c b_QC_tick 2 (some .int) R_QC GG D clQ (tysQ ca) nwQ) (hA : ∀ q, s.heap.size ≤ q → A q) {res : Int32 × St} : ∀ (n : Nat) (S : St) (l1 : Int32) , ok_QC_tick_12 n S l1 → f_QC_tick_12 n S l1 = res → ∀ (H : Heap) (locs : List Loc) (ls : Array Slot), Wd D clQ A s.heap (zw X ad TQ (cfQ ad ca) S) H locs → lv_has ls 2 [(0, .ref (ad (1, 0, 0))), (1, .int l1)] → W p l e { frames := 5, cells := 0, slots := 0, locals := 164 } s m ([.ref (ad (1, 0, 0))] : List Value).toArray below meth c H locs 0 0 (MQ below (eI D clQ X ad TQ (cfQ ad ca) A res) ([.ref (ad (1, 0, 0))] : List Value).toArray s 0 0 A) (F0 m 12 ls []) := by
  have hF := hy.1
  have hx := hF.1
  have hb := hF.2.1
  have hK := hy.2.2.2
  intro n
  induction n with
  | zero =>
    intro S l1 hk
    exact hk.elim
  | succ n ih =>
    intro S l1 hk hr H locs ls hW hl
    refine lv_iload_n (pc := 12) hx hb d_QC_tick_12 rfl (lv_at hl 1 rfl) ?_
    refine lv_iconst (pc := 13) (v := 4) hx hb d_QC_tick_13 (by decide) ?_
    refine lv_icmp_ge (pc := 14) (tgt := 45) hx hb d_QC_tick_14 (by decide) (fun c2 => ?_) (fun c2 => ?_)
    · have hk := hk.1 c2
      have hr := (if_pos c2).symm.trans hr
      refine lv_aload_n (pc := 45) hx hb d_QC_tick_45 rfl (lv_at hl 0 rfl) ?_
      refine z_get (pc := 46) (v := .int (S.1 1 0 0 5)) hF hK.1 hW tq1 rfl rfl in_QC 5 (by decide) gw_349 rfl rfl d_QC_tick_46 ?_
      exact z_iret (v := S.1 1 0 0 5) hy hW hr.symm d_QC_tick_49
    · have hk := hk.2 c2
      have hr := (if_neg c2).symm.trans hr
      refine lv_aload_n (pc := 17) hx hb d_QC_tick_17 rfl (lv_at hl 0 rfl) ?_
      refine z_get (pc := 18) (v := .ref (ad (2, 0, 0))) hF hK.1 hW tq1 rfl rfl in_QC 0 (by decide) gw_344 rfl rfl d_QC_tick_18 ?_
      refine lv_iload_n (pc := 21) hx hb d_QC_tick_21 rfl (lv_at hl 1 rfl) ?_
      have b3 := hk.1
      have hk := hk.2
      refine z_aald (pc := 22) (q := ad (3, (l1.toNatClampNeg), 0)) hF hK.1 hW tq2 3 rfl rfl b3 rfl d_QC_tick_22 ?_
      refine z_get (pc := 23) (v := .int (S.1 3 (l1.toNatClampNeg) 0 7)) hF hK.1 hW (tq3 (vin4 b3)) rfl rfl in_Node 7 (by decide) gw_310 rfl rfl d_QC_tick_23 ?_
      refine lv_if_eq (pc := 26) (tgt := 39) hx hb d_QC_tick_26 (by decide) (fun c4 => ?_) (fun c4 => ?_)
      · have hk := hk.1 c4
        have hr := (if_pos c4).symm.trans hr
        refine lv_iinc (pc := 39) (v := l1 + (1 : Int32)) (lv' := [(1, .int (l1 + (1 : Int32))), (0, .ref (ad (1, 0, 0)))]) (k := 1) hx hb d_QC_tick_39 hl rfl (z_inc (by decide)) (by decide) rfl (fun ls hl => ?_)
        refine lv_goto (pc := 42) (tgt := 12) hx hb d_QC_tick_42 (by decide) ?_
        exact ih S (l1 + (1 : Int32)) hk hr _ _ _ hW (lv_sub hl [1, 0] rfl)
      · have hk := hk.2 c4
        have hr := (if_neg c4).symm.trans hr
        refine lv_aload_n (pc := 29) hx hb d_QC_tick_29 rfl (lv_at hl 0 rfl) ?_
        refine lv_aload_n (pc := 30) hx hb d_QC_tick_30 rfl (lv_at hl 0 rfl) ?_
        refine z_get (pc := 31) (v := .ref (ad (2, 0, 0))) hF hK.1 hW tq1 rfl rfl in_QC 0 (by decide) gw_344 rfl rfl d_QC_tick_31 ?_
        refine lv_iload_n (pc := 34) hx hb d_QC_tick_34 rfl (lv_at hl 1 rfl) ?_
        have b5 := hk.1
        have hk := hk.2
        refine z_aald (pc := 35) (q := ad (3, (l1.toNatClampNeg), 0)) hF hK.1 hW tq2 3 rfl rfl b5 rfl d_QC_tick_35 ?_
        have o6 := hk.1
        have hk := hk.2
        obtain ⟨S8, eS8⟩ : ∃ z : St, z = f_QC_countDown (l1.toNatClampNeg) S := ⟨_, rfl⟩
        have hk := lt_p eS8 hk
        have hr := lt_e eS8 hr
        refine z_goV (pc := 36) hW hA eS8 (z_runV hF hK hW (c_QC_countDown l D X ad ca (l1.toNatClampNeg) (vin4 b5) S o6 _) cd_QC_countDown gw_370 tq1 rfl rfl ⟨Nat.le_of_ble_eq_true rfl, Nat.le_of_ble_eq_true rfl⟩ ⟨Nat.zero_le _, Nat.zero_le _⟩ rfl rfl hl.1 (Nat.le_of_ble_eq_true rfl) d_QC_tick_36) (fun H locs (hW : Wd D clQ A s.heap (zw X ad TQ (cfQ ad ca) S8) H locs) => ?_)
        refine lv_iinc (pc := 39) (v := l1 + (1 : Int32)) (lv' := [(1, .int (l1 + (1 : Int32))), (0, .ref (ad (1, 0, 0)))]) (k := 1) hx hb d_QC_tick_39 hl rfl (z_inc (by decide)) (by decide) rfl (fun ls hl => ?_)
        refine lv_goto (pc := 42) (tgt := 12) hx hb d_QC_tick_42 (by decide) ?_
        exact ih S8 (l1 + (1 : Int32)) hk hr _ _ _ hW (lv_sub hl [1, 0] rfl)
def f_QC_tick  (S : St) : Int32 × St :=
  lt (si S 1 0 0 5 ((S.1 1 0 0 5) + (1 : Int32))) fun (S1 : St) =>
  f_QC_tick_12 200 S1 (0 : Int32)
def ok_QC_tick  (S : St) : Prop :=
  lt (si S 1 0 0 5 ((S.1 1 0 0 5) + (1 : Int32))) fun (S1 : St) =>
  ok_QC_tick_12 200 S1 (0 : Int32)
set_option maxHeartbeats 4000000 in
set_option maxRecDepth 100000 in
theorem c_QC_tick (l : Launch) (D : va_G) (X : va_W) (ad : N3 → Nat) (ca : Nat → ClassId)   (S : St) (hk : ok_QC_tick S) : cI l GG D clQ (tysQ ca) nwQ X ad TQ (cfQ ad ca) y_QC_tick b_QC_tick 2 .int 5 164 [.ref (ad (1, 0, 0))] S (f_QC_tick S) := by
  generalize hr : f_QC_tick S = res
  refine zI_of pn_QC (Nat.le_of_ble_eq_true rfl) (fun p e s m below meth c A ls hy hW hA hl => ?_)
  have hF := hy.1
  have hx := hF.1
  have hb := hF.2.1
  have hK := hy.2.2.2
  have hl : lv_has ls 2 [(0, .ref (ad (1, 0, 0)))] := hl
  refine lv_aload_n (pc := 0) hx hb d_QC_tick_0 rfl (lv_at hl 0 rfl) ?_
  refine lv_dup (pc := 1) hx hb d_QC_tick_1 rfl ?_
  refine z_get (pc := 2) (v := .int (S.1 1 0 0 5)) hF hK.1 hW tq1 rfl rfl in_QC 5 (by decide) gw_349 rfl rfl d_QC_tick_2 ?_
  refine lv_iconst (pc := 5) (v := 1) hx hb d_QC_tick_5 (by decide) ?_
  refine lv_iadd (pc := 6) hx hb d_QC_tick_6 ?_
  obtain ⟨S1, eS1⟩ : ∃ z : St, z = si S 1 0 0 5 ((S.1 1 0 0 5) + (1 : Int32)) := ⟨_, rfl⟩
  have hk := lt_p eS1 hk
  have hr := lt_e eS1 hr
  refine z_put (pc := 7) (S' := S1) hF hK.1 hW tq1 rfl rfl in_QC t_QC tyo_QC nmo_QC 5 (by decide) gw_349 rfl rfl rfl rfl rfl (Nat.le_of_ble_eq_true rfl) (zs_si eS1 rfl) (zs_sio eS1) d_QC_tick_7 (fun H locs (hW : Wd D clQ A s.heap (zw X ad TQ (cfQ ad ca) S1) H locs) => ?_)
  refine lv_iconst (pc := 10) (v := 0) hx hb d_QC_tick_10 (by decide) ?_
  refine lv_istore_n (pc := 11) (lv' := [(1, .int (0 : Int32)), (0, .ref (ad (1, 0, 0)))]) hx hb d_QC_tick_11 rfl hl (by decide) rfl (fun ls hl => ?_)
  exact w_QC_tick_12  hy hA 200 S1 (0 : Int32) hk hr _ _ _ hW (lv_sub hl [1, 0] rfl)
theorem d_QC_isNode_0 : decode b_QC_isNode 0 = .ok (.iload_n 0, 1) := by decide +kernel
theorem d_QC_isNode_1 : decode b_QC_isNode 1 = .ok (.ifCond .lt 12, 3) := by decide +kernel
theorem d_QC_isNode_4 : decode b_QC_isNode 4 = .ok (.iload_n 0, 1) := by decide +kernel
theorem d_QC_isNode_5 : decode b_QC_isNode 5 = .ok (.iconst 4, 1) := by decide +kernel
theorem d_QC_isNode_6 : decode b_QC_isNode 6 = .ok (.if_icmp .ge 7, 3) := by decide +kernel
theorem d_QC_isNode_9 : decode b_QC_isNode 9 = .ok (.iconst 1, 1) := by decide +kernel
theorem d_QC_isNode_10 : decode b_QC_isNode 10 = .ok (.goto 4, 3) := by decide +kernel
theorem d_QC_isNode_13 : decode b_QC_isNode 13 = .ok (.iconst 0, 1) := by decide +kernel
theorem d_QC_isNode_14 : decode b_QC_isNode 14 = .ok (.ireturn, 1) := by decide +kernel
def f_QC_isNode (a0 : Int32) (S : St) : Int32 :=
  if a0 < 0 then
    (0 : Int32)
  else
    if (4 : Int32) ≤ a0 then
      (0 : Int32)
    else
      (1 : Int32)
set_option maxHeartbeats 4000000 in
set_option maxRecDepth 100000 in
theorem c_QC_isNode (l : Launch) (D : va_G) (X : va_W) (ad : N3 → Nat) (ca : Nat → ClassId) (a0 : Int32)  (S : St) : cI l GG D clQ (tysQ ca) nwQ X ad TQ (cfQ ad ca) y_QC_isNode b_QC_isNode 1 .boolean 0 0 [.int a0] S ((f_QC_isNode a0 S), S) := by
  generalize hr : f_QC_isNode a0 S = res
  refine zI_of pn_QC (Nat.le_of_ble_eq_true rfl) (fun p e s m below meth c A ls hy hW hA hl => ?_)
  have hF := hy.1
  have hx := hF.1
  have hb := hF.2.1
  have hK := hy.2.2.2
  have hl : lv_has ls 1 [(0, .int a0)] := hl
  refine lv_iload_n (pc := 0) hx hb d_QC_isNode_0 rfl (lv_at hl 0 rfl) ?_
  refine lv_if_lt (pc := 1) (tgt := 13) hx hb d_QC_isNode_1 (by decide) (fun c1 => ?_) (fun c1 => ?_)
  · have hr := (if_pos c1).symm.trans hr
    refine lv_iconst (pc := 13) (v := 0) hx hb d_QC_isNode_13 (by decide) ?_
    exact z_zret (v := (0 : Int32)) hy hW rfl (congrArg (fun z => (z, S)) hr.symm) d_QC_isNode_14
  · have hr := (if_neg c1).symm.trans hr
    refine lv_iload_n (pc := 4) hx hb d_QC_isNode_4 rfl (lv_at hl 0 rfl) ?_
    refine lv_iconst (pc := 5) (v := 4) hx hb d_QC_isNode_5 (by decide) ?_
    refine lv_icmp_ge (pc := 6) (tgt := 13) hx hb d_QC_isNode_6 (by decide) (fun c2 => ?_) (fun c2 => ?_)
    · have hr := (if_pos c2).symm.trans hr
      refine lv_iconst (pc := 13) (v := 0) hx hb d_QC_isNode_13 (by decide) ?_
      exact z_zret (v := (0 : Int32)) hy hW rfl (congrArg (fun z => (z, S)) hr.symm) d_QC_isNode_14
    · have hr := (if_neg c2).symm.trans hr
      refine lv_iconst (pc := 9) (v := 1) hx hb d_QC_isNode_9 (by decide) ?_
      refine lv_goto (pc := 10) (tgt := 14) hx hb d_QC_isNode_10 (by decide) ?_
      exact z_zret (v := (1 : Int32)) hy hW rfl (congrArg (fun z => (z, S)) hr.symm) d_QC_isNode_14
theorem d_QC_node_0 : decode b_QC_node 0 = .ok (.iload_n 1, 1) := by decide +kernel
theorem d_QC_node_1 : decode b_QC_node 1 = .ok (.invokestatic 68, 3) := by decide +kernel
theorem d_QC_node_4 : decode b_QC_node 4 = .ok (.ifCond .ne 5, 3) := by decide +kernel
theorem d_QC_node_7 : decode b_QC_node 7 = .ok (.iconst (-1), 1) := by decide +kernel
theorem d_QC_node_8 : decode b_QC_node 8 = .ok (.ireturn, 1) := by decide +kernel
theorem d_QC_node_9 : decode b_QC_node 9 = .ok (.aload_n 0, 1) := by decide +kernel
theorem d_QC_node_10 : decode b_QC_node 10 = .ok (.getfield 11, 3) := by decide +kernel
theorem d_QC_node_13 : decode b_QC_node 13 = .ok (.iload_n 1, 1) := by decide +kernel
theorem d_QC_node_14 : decode b_QC_node 14 = .ok (.aaload, 1) := by decide +kernel
theorem d_QC_node_15 : decode b_QC_node 15 = .ok (.astore_n 3, 1) := by decide +kernel
theorem d_QC_node_16 : decode b_QC_node 16 = .ok (.iload_n 2, 1) := by decide +kernel
theorem d_QC_node_17 : decode b_QC_node 17 = .ok (.tableswitch 207 0 11 #[63, 76, 92, 108, 124, 140, 148, 156, 167, 175, 183, 199], 63) := by decide +kernel
theorem d_QC_node_80 : decode b_QC_node 80 = .ok (.aload_n 3, 1) := by decide +kernel
theorem d_QC_node_81 : decode b_QC_node 81 = .ok (.getfield 76, 3) := by decide +kernel
theorem d_QC_node_84 : decode b_QC_node 84 = .ok (.ifCond .eq 7, 3) := by decide +kernel
theorem d_QC_node_87 : decode b_QC_node 87 = .ok (.iconst 1, 1) := by decide +kernel
theorem d_QC_node_88 : decode b_QC_node 88 = .ok (.goto 4, 3) := by decide +kernel
theorem d_QC_node_91 : decode b_QC_node 91 = .ok (.iconst 0, 1) := by decide +kernel
theorem d_QC_node_92 : decode b_QC_node 92 = .ok (.ireturn, 1) := by decide +kernel
theorem d_QC_node_93 : decode b_QC_node 93 = .ok (.aload_n 3, 1) := by decide +kernel
theorem d_QC_node_94 : decode b_QC_node 94 = .ok (.getfield 76, 3) := by decide +kernel
theorem d_QC_node_97 : decode b_QC_node 97 = .ok (.ifCond .eq 10, 3) := by decide +kernel
theorem d_QC_node_100 : decode b_QC_node 100 = .ok (.aload_n 3, 1) := by decide +kernel
theorem d_QC_node_101 : decode b_QC_node 101 = .ok (.getfield 88, 3) := by decide +kernel
theorem d_QC_node_104 : decode b_QC_node 104 = .ok (.goto 4, 3) := by decide +kernel
theorem d_QC_node_107 : decode b_QC_node 107 = .ok (.iconst 0, 1) := by decide +kernel
theorem d_QC_node_108 : decode b_QC_node 108 = .ok (.ireturn, 1) := by decide +kernel
theorem d_QC_node_109 : decode b_QC_node 109 = .ok (.aload_n 3, 1) := by decide +kernel
theorem d_QC_node_110 : decode b_QC_node 110 = .ok (.getfield 76, 3) := by decide +kernel
theorem d_QC_node_113 : decode b_QC_node 113 = .ok (.ifCond .eq 10, 3) := by decide +kernel
theorem d_QC_node_116 : decode b_QC_node 116 = .ok (.aload_n 3, 1) := by decide +kernel
theorem d_QC_node_117 : decode b_QC_node 117 = .ok (.getfield 242, 3) := by decide +kernel
theorem d_QC_node_120 : decode b_QC_node 120 = .ok (.goto 4, 3) := by decide +kernel
theorem d_QC_node_123 : decode b_QC_node 123 = .ok (.iconst 0, 1) := by decide +kernel
theorem d_QC_node_124 : decode b_QC_node 124 = .ok (.ireturn, 1) := by decide +kernel
theorem d_QC_node_125 : decode b_QC_node 125 = .ok (.aload_n 3, 1) := by decide +kernel
theorem d_QC_node_126 : decode b_QC_node 126 = .ok (.getfield 76, 3) := by decide +kernel
theorem d_QC_node_129 : decode b_QC_node 129 = .ok (.ifCond .eq 10, 3) := by decide +kernel
theorem d_QC_node_132 : decode b_QC_node 132 = .ok (.aload_n 3, 1) := by decide +kernel
theorem d_QC_node_133 : decode b_QC_node 133 = .ok (.getfield 245, 3) := by decide +kernel
theorem d_QC_node_136 : decode b_QC_node 136 = .ok (.goto 4, 3) := by decide +kernel
theorem d_QC_node_139 : decode b_QC_node 139 = .ok (.iconst 0, 1) := by decide +kernel
theorem d_QC_node_140 : decode b_QC_node 140 = .ok (.ireturn, 1) := by decide +kernel
theorem d_QC_node_141 : decode b_QC_node 141 = .ok (.aload_n 3, 1) := by decide +kernel
theorem d_QC_node_142 : decode b_QC_node 142 = .ok (.getfield 76, 3) := by decide +kernel
theorem d_QC_node_145 : decode b_QC_node 145 = .ok (.ifCond .eq 10, 3) := by decide +kernel
theorem d_QC_node_148 : decode b_QC_node 148 = .ok (.aload_n 3, 1) := by decide +kernel
theorem d_QC_node_149 : decode b_QC_node 149 = .ok (.getfield 248, 3) := by decide +kernel
theorem d_QC_node_152 : decode b_QC_node 152 = .ok (.goto 4, 3) := by decide +kernel
theorem d_QC_node_155 : decode b_QC_node 155 = .ok (.iconst 0, 1) := by decide +kernel
theorem d_QC_node_156 : decode b_QC_node 156 = .ok (.ireturn, 1) := by decide +kernel
theorem d_QC_node_157 : decode b_QC_node 157 = .ok (.aload_n 3, 1) := by decide +kernel
theorem d_QC_node_158 : decode b_QC_node 158 = .ok (.getfield 179, 3) := by decide +kernel
theorem d_QC_node_161 : decode b_QC_node 161 = .ok (.getfield 251, 3) := by decide +kernel
theorem d_QC_node_164 : decode b_QC_node 164 = .ok (.ireturn, 1) := by decide +kernel
theorem d_QC_node_165 : decode b_QC_node 165 = .ok (.aload_n 3, 1) := by decide +kernel
theorem d_QC_node_166 : decode b_QC_node 166 = .ok (.getfield 179, 3) := by decide +kernel
theorem d_QC_node_169 : decode b_QC_node 169 = .ok (.getfield 254, 3) := by decide +kernel
theorem d_QC_node_172 : decode b_QC_node 172 = .ok (.ireturn, 1) := by decide +kernel
theorem d_QC_node_173 : decode b_QC_node 173 = .ok (.aload_n 3, 1) := by decide +kernel
theorem d_QC_node_174 : decode b_QC_node 174 = .ok (.getfield 179, 3) := by decide +kernel
theorem d_QC_node_177 : decode b_QC_node 177 = .ok (.getfield 183, 3) := by decide +kernel
theorem d_QC_node_180 : decode b_QC_node 180 = .ok (.getfield 257, 3) := by decide +kernel
theorem d_QC_node_183 : decode b_QC_node 183 = .ok (.ireturn, 1) := by decide +kernel
theorem d_QC_node_184 : decode b_QC_node 184 = .ok (.aload_n 3, 1) := by decide +kernel
theorem d_QC_node_185 : decode b_QC_node 185 = .ok (.getfield 179, 3) := by decide +kernel
theorem d_QC_node_188 : decode b_QC_node 188 = .ok (.getfield 260, 3) := by decide +kernel
theorem d_QC_node_191 : decode b_QC_node 191 = .ok (.ireturn, 1) := by decide +kernel
theorem d_QC_node_192 : decode b_QC_node 192 = .ok (.aload_n 3, 1) := by decide +kernel
theorem d_QC_node_193 : decode b_QC_node 193 = .ok (.getfield 179, 3) := by decide +kernel
theorem d_QC_node_196 : decode b_QC_node 196 = .ok (.getfield 263, 3) := by decide +kernel
theorem d_QC_node_199 : decode b_QC_node 199 = .ok (.ireturn, 1) := by decide +kernel
theorem d_QC_node_200 : decode b_QC_node 200 = .ok (.aload_n 3, 1) := by decide +kernel
theorem d_QC_node_201 : decode b_QC_node 201 = .ok (.getfield 76, 3) := by decide +kernel
theorem d_QC_node_204 : decode b_QC_node 204 = .ok (.ifCond .eq 10, 3) := by decide +kernel
theorem d_QC_node_207 : decode b_QC_node 207 = .ok (.aload_n 3, 1) := by decide +kernel
theorem d_QC_node_208 : decode b_QC_node 208 = .ok (.getfield 266, 3) := by decide +kernel
theorem d_QC_node_211 : decode b_QC_node 211 = .ok (.goto 4, 3) := by decide +kernel
theorem d_QC_node_214 : decode b_QC_node 214 = .ok (.iconst 0, 1) := by decide +kernel
theorem d_QC_node_215 : decode b_QC_node 215 = .ok (.ireturn, 1) := by decide +kernel
theorem d_QC_node_216 : decode b_QC_node 216 = .ok (.aload_n 3, 1) := by decide +kernel
theorem d_QC_node_217 : decode b_QC_node 217 = .ok (.getfield 99, 3) := by decide +kernel
theorem d_QC_node_220 : decode b_QC_node 220 = .ok (.getfield 103, 3) := by decide +kernel
theorem d_QC_node_223 : decode b_QC_node 223 = .ok (.ireturn, 1) := by decide +kernel
theorem d_QC_node_224 : decode b_QC_node 224 = .ok (.iconst (-1), 1) := by decide +kernel
theorem d_QC_node_225 : decode b_QC_node 225 = .ok (.ireturn, 1) := by decide +kernel
def f_QC_node (a1 : Int32) (a2 : Int32) (S : St) : Int32 :=
  lt (f_QC_isNode a1 S) fun (r1 : Int32) =>
  if r1 = 0 then
    (-1 : Int32)
  else
    if a2 = (0 : Int32) then
      if (S.1 3 (a1.toNatClampNeg) 0 7) = 0 then
        (0 : Int32)
      else
        (1 : Int32)
    else
      if a2 = (1 : Int32) then
        if (S.1 3 (a1.toNatClampNeg) 0 7) = 0 then
          (0 : Int32)
        else
          S.1 3 (a1.toNatClampNeg) 0 8
      else
        if a2 = (2 : Int32) then
          if (S.1 3 (a1.toNatClampNeg) 0 7) = 0 then
            (0 : Int32)
          else
            S.1 3 (a1.toNatClampNeg) 0 9
        else
          if a2 = (3 : Int32) then
            if (S.1 3 (a1.toNatClampNeg) 0 7) = 0 then
              (0 : Int32)
            else
              S.1 3 (a1.toNatClampNeg) 0 10
          else
            if a2 = (4 : Int32) then
              if (S.1 3 (a1.toNatClampNeg) 0 7) = 0 then
                (0 : Int32)
              else
                S.1 3 (a1.toNatClampNeg) 0 11
            else
              if a2 = (5 : Int32) then
                S.1 4 (a1.toNatClampNeg) 0 6
              else
                if a2 = (6 : Int32) then
                  S.1 4 (a1.toNatClampNeg) 0 7
                else
                  if a2 = (7 : Int32) then
                    S.1 10 (a1.toNatClampNeg) 0 3
                  else
                    if a2 = (8 : Int32) then
                      S.1 4 (a1.toNatClampNeg) 0 5
                    else
                      if a2 = (9 : Int32) then
                        S.1 4 (a1.toNatClampNeg) 0 4
                      else
                        if a2 = (10 : Int32) then
                          if (S.1 3 (a1.toNatClampNeg) 0 7) = 0 then
                            (0 : Int32)
                          else
                            S.1 3 (a1.toNatClampNeg) 0 6
                        else
                          if a2 = (11 : Int32) then
                            S.1 12 (a1.toNatClampNeg) 0 1
                          else
                            (-1 : Int32)
def ok_QC_node (a1 : Int32) (a2 : Int32) (S : St) : Prop :=
  lt (f_QC_isNode a1 S) fun (r1 : Int32) =>
  (r1 = 0 → (
    True)) ∧ (¬ (r1 = 0) → (
    (vp_in a1 4) ∧ (
      True)))
set_option maxHeartbeats 4000000 in
set_option maxRecDepth 100000 in
theorem c_QC_node (l : Launch) (D : va_G) (X : va_W) (ad : N3 → Nat) (ca : Nat → ClassId) (a1 : Int32) (a2 : Int32)  (S : St) (hk : ok_QC_node a1 a2 S) : cI l GG D clQ (tysQ ca) nwQ X ad TQ (cfQ ad ca) y_QC_node b_QC_node 4 .int 1 20 [.ref (ad (1, 0, 0)), .int a1, .int a2] S ((f_QC_node a1 a2 S), S) := by
  generalize hr : f_QC_node a1 a2 S = res
  refine zI_of pn_QC (Nat.le_of_ble_eq_true rfl) (fun p e s m below meth c A ls hy hW hA hl => ?_)
  have hF := hy.1
  have hx := hF.1
  have hb := hF.2.1
  have hK := hy.2.2.2
  have hl : lv_has ls 4 [(0, .ref (ad (1, 0, 0))), (1, .int a1), (2, .int a2)] := hl
  refine lv_iload_n (pc := 0) hx hb d_QC_node_0 rfl (lv_at hl 1 rfl) ?_
  obtain ⟨r1, er1⟩ : ∃ z : Int32, z = f_QC_isNode a1 S := ⟨_, rfl⟩
  have hk := lt_p er1 hk
  have hr := lt_e er1 hr
  refine z_goI (pc := 1) hW hA (congrArg (fun q => (q, S)) er1) (z_runS hF hK hW (c_QC_isNode l D X ad ca a1 S _) cd_QC_isNode gw_430 ⟨Nat.le_of_ble_eq_true rfl, Nat.le_of_ble_eq_true rfl⟩ ⟨Nat.zero_le _, Nat.zero_le _⟩ rfl rfl hl.1 (Nat.le_of_ble_eq_true rfl) d_QC_node_1) (fun H locs (hW : Wd D clQ A s.heap (zw X ad TQ (cfQ ad ca) S) H locs) => ?_)
  refine lv_if_ne (pc := 4) (tgt := 9) hx hb d_QC_node_4 (by decide) (fun c2 => ?_) (fun c2 => ?_)
  · have hk := hk.2 c2
    have hr := (if_neg c2).symm.trans hr
    refine lv_aload_n (pc := 9) hx hb d_QC_node_9 rfl (lv_at hl 0 rfl) ?_
    refine z_get (pc := 10) (v := .ref (ad (2, 0, 0))) hF hK.1 hW tq1 rfl rfl in_QC 0 (by decide) gw_344 rfl rfl d_QC_node_10 ?_
    refine lv_iload_n (pc := 13) hx hb d_QC_node_13 rfl (lv_at hl 1 rfl) ?_
    have b3 := hk.1
    have hk := hk.2
    refine z_aald (pc := 14) (q := ad (3, (a1.toNatClampNeg), 0)) hF hK.1 hW tq2 3 rfl rfl b3 rfl d_QC_node_14 ?_
    refine lv_astore_n (pc := 15) (lv' := [(3, .ref (ad (3, (a1.toNatClampNeg), 0))), (0, .ref (ad (1, 0, 0))), (1, .int a1), (2, .int a2)]) hx hb d_QC_node_15 rfl hl (by decide) rfl (fun ls hl => ?_)
    refine lv_iload_n (pc := 16) hx hb d_QC_node_16 rfl (lv_at hl 3 rfl) ?_
    by_cases c4 : a2 = (0 : Int32)
    · have hr := (if_pos c4).symm.trans hr
      refine lv_tableIn (pc := 17) (tgt := 80) (off := 63) hx hb d_QC_node_17 (by (rw [c4]) <;> decide) (by (rw [c4]) <;> decide) (by (rw [c4]) <;> rfl) (by decide) ?_
      refine lv_aload_n (pc := 80) hx hb d_QC_node_80 rfl (lv_at hl 0 rfl) ?_
      refine z_get (pc := 81) (v := .int (S.1 3 (a1.toNatClampNeg) 0 7)) hF hK.1 hW (tq3 (vin4 b3)) rfl rfl in_Node 7 (by decide) gw_310 rfl rfl d_QC_node_81 ?_
      refine lv_if_eq (pc := 84) (tgt := 91) hx hb d_QC_node_84 (by decide) (fun c5 => ?_) (fun c5 => ?_)
      · have hr := (if_pos c5).symm.trans hr
        refine lv_iconst (pc := 91) (v := 0) hx hb d_QC_node_91 (by decide) ?_
        exact z_iret (v := (0 : Int32)) hy hW (congrArg (fun z => (z, S)) hr.symm) d_QC_node_92
      · have hr := (if_neg c5).symm.trans hr
        refine lv_iconst (pc := 87) (v := 1) hx hb d_QC_node_87 (by decide) ?_
        refine lv_goto (pc := 88) (tgt := 92) hx hb d_QC_node_88 (by decide) ?_
        exact z_iret (v := (1 : Int32)) hy hW (congrArg (fun z => (z, S)) hr.symm) d_QC_node_92
    · have hr := (if_neg c4).symm.trans hr
      by_cases c6 : a2 = (1 : Int32)
      · have hr := (if_pos c6).symm.trans hr
        refine lv_tableIn (pc := 17) (tgt := 93) (off := 76) hx hb d_QC_node_17 (by (rw [c6]) <;> decide) (by (rw [c6]) <;> decide) (by (rw [c6]) <;> rfl) (by decide) ?_
        refine lv_aload_n (pc := 93) hx hb d_QC_node_93 rfl (lv_at hl 0 rfl) ?_
        refine z_get (pc := 94) (v := .int (S.1 3 (a1.toNatClampNeg) 0 7)) hF hK.1 hW (tq3 (vin4 b3)) rfl rfl in_Node 7 (by decide) gw_310 rfl rfl d_QC_node_94 ?_
        refine lv_if_eq (pc := 97) (tgt := 107) hx hb d_QC_node_97 (by decide) (fun c7 => ?_) (fun c7 => ?_)
        · have hr := (if_pos c7).symm.trans hr
          refine lv_iconst (pc := 107) (v := 0) hx hb d_QC_node_107 (by decide) ?_
          exact z_iret (v := (0 : Int32)) hy hW (congrArg (fun z => (z, S)) hr.symm) d_QC_node_108
        · have hr := (if_neg c7).symm.trans hr
          refine lv_aload_n (pc := 100) hx hb d_QC_node_100 rfl (lv_at hl 0 rfl) ?_
          refine z_get (pc := 101) (v := .int (S.1 3 (a1.toNatClampNeg) 0 8)) hF hK.1 hW (tq3 (vin4 b3)) rfl rfl in_Node 8 (by decide) gw_312 rfl rfl d_QC_node_101 ?_
          refine lv_goto (pc := 104) (tgt := 108) hx hb d_QC_node_104 (by decide) ?_
          exact z_iret (v := S.1 3 (a1.toNatClampNeg) 0 8) hy hW (congrArg (fun z => (z, S)) hr.symm) d_QC_node_108
      · have hr := (if_neg c6).symm.trans hr
        by_cases c8 : a2 = (2 : Int32)
        · have hr := (if_pos c8).symm.trans hr
          refine lv_tableIn (pc := 17) (tgt := 109) (off := 92) hx hb d_QC_node_17 (by (rw [c8]) <;> decide) (by (rw [c8]) <;> decide) (by (rw [c8]) <;> rfl) (by decide) ?_
          refine lv_aload_n (pc := 109) hx hb d_QC_node_109 rfl (lv_at hl 0 rfl) ?_
          refine z_get (pc := 110) (v := .int (S.1 3 (a1.toNatClampNeg) 0 7)) hF hK.1 hW (tq3 (vin4 b3)) rfl rfl in_Node 7 (by decide) gw_310 rfl rfl d_QC_node_110 ?_
          refine lv_if_eq (pc := 113) (tgt := 123) hx hb d_QC_node_113 (by decide) (fun c9 => ?_) (fun c9 => ?_)
          · have hr := (if_pos c9).symm.trans hr
            refine lv_iconst (pc := 123) (v := 0) hx hb d_QC_node_123 (by decide) ?_
            exact z_iret (v := (0 : Int32)) hy hW (congrArg (fun z => (z, S)) hr.symm) d_QC_node_124
          · have hr := (if_neg c9).symm.trans hr
            refine lv_aload_n (pc := 116) hx hb d_QC_node_116 rfl (lv_at hl 0 rfl) ?_
            refine z_get (pc := 117) (v := .int (S.1 3 (a1.toNatClampNeg) 0 9)) hF hK.1 hW (tq3 (vin4 b3)) rfl rfl in_Node 9 (by decide) gw_314 rfl rfl d_QC_node_117 ?_
            refine lv_goto (pc := 120) (tgt := 124) hx hb d_QC_node_120 (by decide) ?_
            exact z_iret (v := S.1 3 (a1.toNatClampNeg) 0 9) hy hW (congrArg (fun z => (z, S)) hr.symm) d_QC_node_124
        · have hr := (if_neg c8).symm.trans hr
          by_cases c10 : a2 = (3 : Int32)
          · have hr := (if_pos c10).symm.trans hr
            refine lv_tableIn (pc := 17) (tgt := 125) (off := 108) hx hb d_QC_node_17 (by (rw [c10]) <;> decide) (by (rw [c10]) <;> decide) (by (rw [c10]) <;> rfl) (by decide) ?_
            refine lv_aload_n (pc := 125) hx hb d_QC_node_125 rfl (lv_at hl 0 rfl) ?_
            refine z_get (pc := 126) (v := .int (S.1 3 (a1.toNatClampNeg) 0 7)) hF hK.1 hW (tq3 (vin4 b3)) rfl rfl in_Node 7 (by decide) gw_310 rfl rfl d_QC_node_126 ?_
            refine lv_if_eq (pc := 129) (tgt := 139) hx hb d_QC_node_129 (by decide) (fun c11 => ?_) (fun c11 => ?_)
            · have hr := (if_pos c11).symm.trans hr
              refine lv_iconst (pc := 139) (v := 0) hx hb d_QC_node_139 (by decide) ?_
              exact z_iret (v := (0 : Int32)) hy hW (congrArg (fun z => (z, S)) hr.symm) d_QC_node_140
            · have hr := (if_neg c11).symm.trans hr
              refine lv_aload_n (pc := 132) hx hb d_QC_node_132 rfl (lv_at hl 0 rfl) ?_
              refine z_get (pc := 133) (v := .int (S.1 3 (a1.toNatClampNeg) 0 10)) hF hK.1 hW (tq3 (vin4 b3)) rfl rfl in_Node 10 (by decide) gw_316 rfl rfl d_QC_node_133 ?_
              refine lv_goto (pc := 136) (tgt := 140) hx hb d_QC_node_136 (by decide) ?_
              exact z_iret (v := S.1 3 (a1.toNatClampNeg) 0 10) hy hW (congrArg (fun z => (z, S)) hr.symm) d_QC_node_140
          · have hr := (if_neg c10).symm.trans hr
            by_cases c12 : a2 = (4 : Int32)
            · have hr := (if_pos c12).symm.trans hr
              refine lv_tableIn (pc := 17) (tgt := 141) (off := 124) hx hb d_QC_node_17 (by (rw [c12]) <;> decide) (by (rw [c12]) <;> decide) (by (rw [c12]) <;> rfl) (by decide) ?_
              refine lv_aload_n (pc := 141) hx hb d_QC_node_141 rfl (lv_at hl 0 rfl) ?_
              refine z_get (pc := 142) (v := .int (S.1 3 (a1.toNatClampNeg) 0 7)) hF hK.1 hW (tq3 (vin4 b3)) rfl rfl in_Node 7 (by decide) gw_310 rfl rfl d_QC_node_142 ?_
              refine lv_if_eq (pc := 145) (tgt := 155) hx hb d_QC_node_145 (by decide) (fun c13 => ?_) (fun c13 => ?_)
              · have hr := (if_pos c13).symm.trans hr
                refine lv_iconst (pc := 155) (v := 0) hx hb d_QC_node_155 (by decide) ?_
                exact z_iret (v := (0 : Int32)) hy hW (congrArg (fun z => (z, S)) hr.symm) d_QC_node_156
              · have hr := (if_neg c13).symm.trans hr
                refine lv_aload_n (pc := 148) hx hb d_QC_node_148 rfl (lv_at hl 0 rfl) ?_
                refine z_get (pc := 149) (v := .int (S.1 3 (a1.toNatClampNeg) 0 11)) hF hK.1 hW (tq3 (vin4 b3)) rfl rfl in_Node 11 (by decide) gw_318 rfl rfl d_QC_node_149 ?_
                refine lv_goto (pc := 152) (tgt := 156) hx hb d_QC_node_152 (by decide) ?_
                exact z_iret (v := S.1 3 (a1.toNatClampNeg) 0 11) hy hW (congrArg (fun z => (z, S)) hr.symm) d_QC_node_156
            · have hr := (if_neg c12).symm.trans hr
              by_cases c14 : a2 = (5 : Int32)
              · have hr := (if_pos c14).symm.trans hr
                refine lv_tableIn (pc := 17) (tgt := 157) (off := 140) hx hb d_QC_node_17 (by (rw [c14]) <;> decide) (by (rw [c14]) <;> decide) (by (rw [c14]) <;> rfl) (by decide) ?_
                refine lv_aload_n (pc := 157) hx hb d_QC_node_157 rfl (lv_at hl 0 rfl) ?_
                refine z_get (pc := 158) (v := .ref (ad (4, (a1.toNatClampNeg), 0))) hF hK.1 hW (tq3 (vin4 b3)) rfl rfl in_Node 1 (by decide) gw_298 rfl rfl d_QC_node_158 ?_
                refine z_get (pc := 161) (v := .int (S.1 4 (a1.toNatClampNeg) 0 6)) hF hK.1 hW (tq4 (vin4 b3)) rfl rfl in_Store 6 (by decide) gw_276 rfl rfl d_QC_node_161 ?_
                exact z_iret (v := S.1 4 (a1.toNatClampNeg) 0 6) hy hW (congrArg (fun z => (z, S)) hr.symm) d_QC_node_164
              · have hr := (if_neg c14).symm.trans hr
                by_cases c15 : a2 = (6 : Int32)
                · have hr := (if_pos c15).symm.trans hr
                  refine lv_tableIn (pc := 17) (tgt := 165) (off := 148) hx hb d_QC_node_17 (by (rw [c15]) <;> decide) (by (rw [c15]) <;> decide) (by (rw [c15]) <;> rfl) (by decide) ?_
                  refine lv_aload_n (pc := 165) hx hb d_QC_node_165 rfl (lv_at hl 0 rfl) ?_
                  refine z_get (pc := 166) (v := .ref (ad (4, (a1.toNatClampNeg), 0))) hF hK.1 hW (tq3 (vin4 b3)) rfl rfl in_Node 1 (by decide) gw_298 rfl rfl d_QC_node_166 ?_
                  refine z_get (pc := 169) (v := .int (S.1 4 (a1.toNatClampNeg) 0 7)) hF hK.1 hW (tq4 (vin4 b3)) rfl rfl in_Store 7 (by decide) gw_277 rfl rfl d_QC_node_169 ?_
                  exact z_iret (v := S.1 4 (a1.toNatClampNeg) 0 7) hy hW (congrArg (fun z => (z, S)) hr.symm) d_QC_node_172
                · have hr := (if_neg c15).symm.trans hr
                  by_cases c16 : a2 = (7 : Int32)
                  · have hr := (if_pos c16).symm.trans hr
                    refine lv_tableIn (pc := 17) (tgt := 173) (off := 156) hx hb d_QC_node_17 (by (rw [c16]) <;> decide) (by (rw [c16]) <;> decide) (by (rw [c16]) <;> rfl) (by decide) ?_
                    refine lv_aload_n (pc := 173) hx hb d_QC_node_173 rfl (lv_at hl 0 rfl) ?_
                    refine z_get (pc := 174) (v := .ref (ad (4, (a1.toNatClampNeg), 0))) hF hK.1 hW (tq3 (vin4 b3)) rfl rfl in_Node 1 (by decide) gw_298 rfl rfl d_QC_node_174 ?_
                    refine z_get (pc := 177) (v := .ref (ad (10, (a1.toNatClampNeg), 0))) hF hK.1 hW (tq4 (vin4 b3)) rfl rfl in_Store 3 (by decide) gw_270 rfl rfl d_QC_node_177 ?_
                    refine z_get (pc := 180) (v := .int (S.1 10 (a1.toNatClampNeg) 0 3)) hF hK.1 hW (tq10 (vin4 b3)) rfl rfl in_KeyTree 3 (by decide) gw_254 rfl rfl d_QC_node_180 ?_
                    exact z_iret (v := S.1 10 (a1.toNatClampNeg) 0 3) hy hW (congrArg (fun z => (z, S)) hr.symm) d_QC_node_183
                  · have hr := (if_neg c16).symm.trans hr
                    by_cases c17 : a2 = (8 : Int32)
                    · have hr := (if_pos c17).symm.trans hr
                      refine lv_tableIn (pc := 17) (tgt := 184) (off := 167) hx hb d_QC_node_17 (by (rw [c17]) <;> decide) (by (rw [c17]) <;> decide) (by (rw [c17]) <;> rfl) (by decide) ?_
                      refine lv_aload_n (pc := 184) hx hb d_QC_node_184 rfl (lv_at hl 0 rfl) ?_
                      refine z_get (pc := 185) (v := .ref (ad (4, (a1.toNatClampNeg), 0))) hF hK.1 hW (tq3 (vin4 b3)) rfl rfl in_Node 1 (by decide) gw_298 rfl rfl d_QC_node_185 ?_
                      refine z_get (pc := 188) (v := .int (S.1 4 (a1.toNatClampNeg) 0 5)) hF hK.1 hW (tq4 (vin4 b3)) rfl rfl in_Store 5 (by decide) gw_274 rfl rfl d_QC_node_188 ?_
                      exact z_iret (v := S.1 4 (a1.toNatClampNeg) 0 5) hy hW (congrArg (fun z => (z, S)) hr.symm) d_QC_node_191
                    · have hr := (if_neg c17).symm.trans hr
                      by_cases c18 : a2 = (9 : Int32)
                      · have hr := (if_pos c18).symm.trans hr
                        refine lv_tableIn (pc := 17) (tgt := 192) (off := 175) hx hb d_QC_node_17 (by (rw [c18]) <;> decide) (by (rw [c18]) <;> decide) (by (rw [c18]) <;> rfl) (by decide) ?_
                        refine lv_aload_n (pc := 192) hx hb d_QC_node_192 rfl (lv_at hl 0 rfl) ?_
                        refine z_get (pc := 193) (v := .ref (ad (4, (a1.toNatClampNeg), 0))) hF hK.1 hW (tq3 (vin4 b3)) rfl rfl in_Node 1 (by decide) gw_298 rfl rfl d_QC_node_193 ?_
                        refine z_get (pc := 196) (v := .int (S.1 4 (a1.toNatClampNeg) 0 4)) hF hK.1 hW (tq4 (vin4 b3)) rfl rfl in_Store 4 (by decide) gw_272 rfl rfl d_QC_node_196 ?_
                        exact z_iret (v := S.1 4 (a1.toNatClampNeg) 0 4) hy hW (congrArg (fun z => (z, S)) hr.symm) d_QC_node_199
                      · have hr := (if_neg c18).symm.trans hr
                        by_cases c19 : a2 = (10 : Int32)
                        · have hr := (if_pos c19).symm.trans hr
                          refine lv_tableIn (pc := 17) (tgt := 200) (off := 183) hx hb d_QC_node_17 (by (rw [c19]) <;> decide) (by (rw [c19]) <;> decide) (by (rw [c19]) <;> rfl) (by decide) ?_
                          refine lv_aload_n (pc := 200) hx hb d_QC_node_200 rfl (lv_at hl 0 rfl) ?_
                          refine z_get (pc := 201) (v := .int (S.1 3 (a1.toNatClampNeg) 0 7)) hF hK.1 hW (tq3 (vin4 b3)) rfl rfl in_Node 7 (by decide) gw_310 rfl rfl d_QC_node_201 ?_
                          refine lv_if_eq (pc := 204) (tgt := 214) hx hb d_QC_node_204 (by decide) (fun c20 => ?_) (fun c20 => ?_)
                          · have hr := (if_pos c20).symm.trans hr
                            refine lv_iconst (pc := 214) (v := 0) hx hb d_QC_node_214 (by decide) ?_
                            exact z_iret (v := (0 : Int32)) hy hW (congrArg (fun z => (z, S)) hr.symm) d_QC_node_215
                          · have hr := (if_neg c20).symm.trans hr
                            refine lv_aload_n (pc := 207) hx hb d_QC_node_207 rfl (lv_at hl 0 rfl) ?_
                            refine z_get (pc := 208) (v := .int (S.1 3 (a1.toNatClampNeg) 0 6)) hF hK.1 hW (tq3 (vin4 b3)) rfl rfl in_Node 6 (by decide) gw_308 rfl rfl d_QC_node_208 ?_
                            refine lv_goto (pc := 211) (tgt := 215) hx hb d_QC_node_211 (by decide) ?_
                            exact z_iret (v := S.1 3 (a1.toNatClampNeg) 0 6) hy hW (congrArg (fun z => (z, S)) hr.symm) d_QC_node_215
                        · have hr := (if_neg c19).symm.trans hr
                          by_cases c21 : a2 = (11 : Int32)
                          · have hr := (if_pos c21).symm.trans hr
                            refine lv_tableIn (pc := 17) (tgt := 216) (off := 199) hx hb d_QC_node_17 (by (rw [c21]) <;> decide) (by (rw [c21]) <;> decide) (by (rw [c21]) <;> rfl) (by decide) ?_
                            refine lv_aload_n (pc := 216) hx hb d_QC_node_216 rfl (lv_at hl 0 rfl) ?_
                            refine z_get (pc := 217) (v := .ref (ad (12, (a1.toNatClampNeg), 0))) hF hK.1 hW (tq3 (vin4 b3)) rfl rfl in_Node 2 (by decide) gw_300 rfl rfl d_QC_node_217 ?_
                            refine z_get (pc := 220) (v := .int (S.1 12 (a1.toNatClampNeg) 0 1)) hF hK.1 hW (tq12 (vin4 b3)) rfl rfl in_Inbox 1 (by decide) gw_182 rfl rfl d_QC_node_220 ?_
                            exact z_iret (v := S.1 12 (a1.toNatClampNeg) 0 1) hy hW (congrArg (fun z => (z, S)) hr.symm) d_QC_node_223
                          · have hr := (if_neg c21).symm.trans hr
                            have ho : a2.toInt < (0 : Int) ∨ (11 : Int) < a2.toInt := z_swl (0) (11) (fun k h1 h2 => by
                              rcases (show k = 0 ∨ k = 1 ∨ k = 2 ∨ k = 3 ∨ k = 4 ∨ k = 5 ∨ k = 6 ∨ k = 7 ∨ k = 8 ∨ k = 9 ∨ k = 10 ∨ k = 11 by omega) with rfl | rfl | rfl | rfl | rfl | rfl | rfl | rfl | rfl | rfl | rfl | rfl
                              · exact lv_neT c4 (by decide)
                              · exact lv_neT c6 (by decide)
                              · exact lv_neT c8 (by decide)
                              · exact lv_neT c10 (by decide)
                              · exact lv_neT c12 (by decide)
                              · exact lv_neT c14 (by decide)
                              · exact lv_neT c15 (by decide)
                              · exact lv_neT c16 (by decide)
                              · exact lv_neT c17 (by decide)
                              · exact lv_neT c18 (by decide)
                              · exact lv_neT c19 (by decide)
                              · exact lv_neT c21 (by decide))
                            refine lv_tableOut (pc := 17) (tgt := 224) hx hb d_QC_node_17 ho (by decide) ?_
                            refine lv_iconst (pc := 224) (v := -1) hx hb d_QC_node_224 (by decide) ?_
                            exact z_iret (v := (-1 : Int32)) hy hW (congrArg (fun z => (z, S)) hr.symm) d_QC_node_225
  · have hk := hk.1 c2
    have hr := (if_pos c2).symm.trans hr
    refine lv_iconst (pc := 7) (v := -1) hx hb d_QC_node_7 (by decide) ?_
    exact z_iret (v := (-1 : Int32)) hy hW (congrArg (fun z => (z, S)) hr.symm) d_QC_node_8
end
section
theorem d_Store_logged_0 : decode b_Store_logged 0 = .ok (.iload_n 1, 1) := by decide +kernel
theorem d_Store_logged_1 : decode b_Store_logged 1 = .ok (.ifCond .lt 20, 3) := by decide +kernel
theorem d_Store_logged_4 : decode b_Store_logged 4 = .ok (.iload_n 1, 1) := by decide +kernel
theorem d_Store_logged_5 : decode b_Store_logged 5 = .ok (.aload_n 0, 1) := by decide +kernel
theorem d_Store_logged_6 : decode b_Store_logged 6 = .ok (.getfield 39, 3) := by decide +kernel
theorem d_Store_logged_9 : decode b_Store_logged 9 = .ok (.if_icmp .ge 12, 3) := by decide +kernel
theorem d_Store_logged_12 : decode b_Store_logged 12 = .ok (.aload_n 0, 1) := by decide +kernel
theorem d_Store_logged_13 : decode b_Store_logged 13 = .ok (.getfield 15, 3) := by decide +kernel
theorem d_Store_logged_16 : decode b_Store_logged 16 = .ok (.iload_n 1, 1) := by decide +kernel
theorem d_Store_logged_17 : decode b_Store_logged 17 = .ok (.iaload, 1) := by decide +kernel
theorem d_Store_logged_18 : decode b_Store_logged 18 = .ok (.goto 4, 3) := by decide +kernel
theorem d_Store_logged_21 : decode b_Store_logged 21 = .ok (.iconst (-1), 1) := by decide +kernel
theorem d_Store_logged_22 : decode b_Store_logged 22 = .ok (.ireturn, 1) := by decide +kernel
def f_Store_logged (i0 : Nat) (a1 : Int32) (S : St) : Int32 :=
  if a1 < 0 then
    (-1 : Int32)
  else
    if (S.1 4 i0 0 5) ≤ a1 then
      (-1 : Int32)
    else
      S.1 6 i0 0 a1.toNatClampNeg
def ok_Store_logged (i0 : Nat) (a1 : Int32) (S : St) : Prop :=
  (a1 < 0 → (
    True)) ∧ (¬ (a1 < 0) → (
    ((S.1 4 i0 0 5) ≤ a1 → (
      True)) ∧ (¬ ((S.1 4 i0 0 5) ≤ a1) → (
      (vp_in a1 100) ∧ (
        True)))))
set_option maxHeartbeats 4000000 in
set_option maxRecDepth 100000 in
theorem c_Store_logged (l : Launch) (D : va_G) (X : va_W) (ad : N3 → Nat) (ca : Nat → ClassId) (i0 : Nat) (a1 : Int32) (h0 : i0 < 4) (S : St) (hk : ok_Store_logged i0 a1 S) : cI l GG D clQ (tysQ ca) nwQ X ad TQ (cfQ ad ca) y_Store_logged b_Store_logged 2 .int 0 0 [.ref (ad (4, i0, 0)), .int a1] S ((f_Store_logged i0 a1 S), S) := by
  generalize hr : f_Store_logged i0 a1 S = res
  refine zI_of pn_Store (Nat.le_of_ble_eq_true rfl) (fun p e s m below meth c A ls hy hW hA hl => ?_)
  have hF := hy.1
  have hx := hF.1
  have hb := hF.2.1
  have hK := hy.2.2.2
  have hl : lv_has ls 2 [(0, .ref (ad (4, i0, 0))), (1, .int a1)] := hl
  refine lv_iload_n (pc := 0) hx hb d_Store_logged_0 rfl (lv_at hl 1 rfl) ?_
  refine lv_if_lt (pc := 1) (tgt := 21) hx hb d_Store_logged_1 (by decide) (fun c1 => ?_) (fun c1 => ?_)
  · have hk := hk.1 c1
    have hr := (if_pos c1).symm.trans hr
    refine lv_iconst (pc := 21) (v := -1) hx hb d_Store_logged_21 (by decide) ?_
    exact z_iret (v := (-1 : Int32)) hy hW (congrArg (fun z => (z, S)) hr.symm) d_Store_logged_22
  · have hk := hk.2 c1
    have hr := (if_neg c1).symm.trans hr
    refine lv_iload_n (pc := 4) hx hb d_Store_logged_4 rfl (lv_at hl 1 rfl) ?_
    refine lv_aload_n (pc := 5) hx hb d_Store_logged_5 rfl (lv_at hl 0 rfl) ?_
    refine z_get (pc := 6) (v := .int (S.1 4 i0 0 5)) hF hK.1 hW (tq4 h0) rfl rfl in_Store 5 (by decide) gw_273 rfl rfl d_Store_logged_6 ?_
    refine lv_icmp_ge (pc := 9) (tgt := 21) hx hb d_Store_logged_9 (by decide) (fun c2 => ?_) (fun c2 => ?_)
    · have hk := hk.1 c2
      have hr := (if_pos c2).symm.trans hr
      refine lv_iconst (pc := 21) (v := -1) hx hb d_Store_logged_21 (by decide) ?_
      exact z_iret (v := (-1 : Int32)) hy hW (congrArg (fun z => (z, S)) hr.symm) d_Store_logged_22
    · have hk := hk.2 c2
      have hr := (if_neg c2).symm.trans hr
      refine lv_aload_n (pc := 12) hx hb d_Store_logged_12 rfl (lv_at hl 0 rfl) ?_
      refine z_get (pc := 13) (v := .ref (ad (6, i0, 0))) hF hK.1 hW (tq4 h0) rfl rfl in_Store 1 (by decide) gw_265 rfl rfl d_Store_logged_13 ?_
      refine lv_iload_n (pc := 16) hx hb d_Store_logged_16 rfl (lv_at hl 1 rfl) ?_
      have b3 := hk.1
      have hk := hk.2
      refine z_iald (pc := 17) (v := S.1 6 i0 0 a1.toNatClampNeg) hF hK.1 hW (tq6 h0) 0 rfl rfl b3 rfl d_Store_logged_17 ?_
      refine lv_goto (pc := 18) (tgt := 22) hx hb d_Store_logged_18 (by decide) ?_
      exact z_iret (v := S.1 6 i0 0 a1.toNatClampNeg) hy hW (congrArg (fun z => (z, S)) hr.symm) d_Store_logged_22
theorem d_QC_log_0 : decode b_QC_log 0 = .ok (.iload_n 1, 1) := by decide +kernel
theorem d_QC_log_1 : decode b_QC_log 1 = .ok (.invokestatic 68, 3) := by decide +kernel
theorem d_QC_log_4 : decode b_QC_log 4 = .ok (.ifCond .eq 19, 3) := by decide +kernel
theorem d_QC_log_7 : decode b_QC_log 7 = .ok (.aload_n 0, 1) := by decide +kernel
theorem d_QC_log_8 : decode b_QC_log 8 = .ok (.getfield 11, 3) := by decide +kernel
theorem d_QC_log_11 : decode b_QC_log 11 = .ok (.iload_n 1, 1) := by decide +kernel
theorem d_QC_log_12 : decode b_QC_log 12 = .ok (.aaload, 1) := by decide +kernel
theorem d_QC_log_13 : decode b_QC_log 13 = .ok (.getfield 179, 3) := by decide +kernel
theorem d_QC_log_16 : decode b_QC_log 16 = .ok (.iload_n 2, 1) := by decide +kernel
theorem d_QC_log_17 : decode b_QC_log 17 = .ok (.invokevirtual 269, 3) := by decide +kernel
theorem d_QC_log_20 : decode b_QC_log 20 = .ok (.goto 4, 3) := by decide +kernel
theorem d_QC_log_23 : decode b_QC_log 23 = .ok (.iconst (-1), 1) := by decide +kernel
theorem d_QC_log_24 : decode b_QC_log 24 = .ok (.ireturn, 1) := by decide +kernel
def f_QC_log (a1 : Int32) (a2 : Int32) (S : St) : Int32 :=
  lt (f_QC_isNode a1 S) fun (r1 : Int32) =>
  if r1 = 0 then
    (-1 : Int32)
  else
    lt (f_Store_logged (a1.toNatClampNeg) a2 S) fun (r5 : Int32) =>
    r5
def ok_QC_log (a1 : Int32) (a2 : Int32) (S : St) : Prop :=
  lt (f_QC_isNode a1 S) fun (r1 : Int32) =>
  (r1 = 0 → (
    True)) ∧ (¬ (r1 = 0) → (
    (vp_in a1 4) ∧ (
      (ok_Store_logged (a1.toNatClampNeg) a2 S) ∧ (
        True))))
set_option maxHeartbeats 4000000 in
set_option maxRecDepth 100000 in
theorem c_QC_log (l : Launch) (D : va_G) (X : va_W) (ad : N3 → Nat) (ca : Nat → ClassId) (a1 : Int32) (a2 : Int32)  (S : St) (hk : ok_QC_log a1 a2 S) : cI l GG D clQ (tysQ ca) nwQ X ad TQ (cfQ ad ca) y_QC_log b_QC_log 3 .int 1 21 [.ref (ad (1, 0, 0)), .int a1, .int a2] S ((f_QC_log a1 a2 S), S) := by
  generalize hr : f_QC_log a1 a2 S = res
  refine zI_of pn_QC (Nat.le_of_ble_eq_true rfl) (fun p e s m below meth c A ls hy hW hA hl => ?_)
  have hF := hy.1
  have hx := hF.1
  have hb := hF.2.1
  have hK := hy.2.2.2
  have hl : lv_has ls 3 [(0, .ref (ad (1, 0, 0))), (1, .int a1), (2, .int a2)] := hl
  refine lv_iload_n (pc := 0) hx hb d_QC_log_0 rfl (lv_at hl 1 rfl) ?_
  obtain ⟨r1, er1⟩ : ∃ z : Int32, z = f_QC_isNode a1 S := ⟨_, rfl⟩
  have hk := lt_p er1 hk
  have hr := lt_e er1 hr
  refine z_goI (pc := 1) hW hA (congrArg (fun q => (q, S)) er1) (z_runS hF hK hW (c_QC_isNode l D X ad ca a1 S _) cd_QC_isNode gw_430 ⟨Nat.le_of_ble_eq_true rfl, Nat.le_of_ble_eq_true rfl⟩ ⟨Nat.zero_le _, Nat.zero_le _⟩ rfl rfl hl.1 (Nat.le_of_ble_eq_true rfl) d_QC_log_1) (fun H locs (hW : Wd D clQ A s.heap (zw X ad TQ (cfQ ad ca) S) H locs) => ?_)
  refine lv_if_eq (pc := 4) (tgt := 23) hx hb d_QC_log_4 (by decide) (fun c2 => ?_) (fun c2 => ?_)
  · have hk := hk.1 c2
    have hr := (if_pos c2).symm.trans hr
    refine lv_iconst (pc := 23) (v := -1) hx hb d_QC_log_23 (by decide) ?_
    exact z_iret (v := (-1 : Int32)) hy hW (congrArg (fun z => (z, S)) hr.symm) d_QC_log_24
  · have hk := hk.2 c2
    have hr := (if_neg c2).symm.trans hr
    refine lv_aload_n (pc := 7) hx hb d_QC_log_7 rfl (lv_at hl 0 rfl) ?_
    refine z_get (pc := 8) (v := .ref (ad (2, 0, 0))) hF hK.1 hW tq1 rfl rfl in_QC 0 (by decide) gw_344 rfl rfl d_QC_log_8 ?_
    refine lv_iload_n (pc := 11) hx hb d_QC_log_11 rfl (lv_at hl 1 rfl) ?_
    have b3 := hk.1
    have hk := hk.2
    refine z_aald (pc := 12) (q := ad (3, (a1.toNatClampNeg), 0)) hF hK.1 hW tq2 3 rfl rfl b3 rfl d_QC_log_12 ?_
    refine z_get (pc := 13) (v := .ref (ad (4, (a1.toNatClampNeg), 0))) hF hK.1 hW (tq3 (vin4 b3)) rfl rfl in_Node 1 (by decide) gw_298 rfl rfl d_QC_log_13 ?_
    refine lv_iload_n (pc := 16) hx hb d_QC_log_16 rfl (lv_at hl 2 rfl) ?_
    have o4 := hk.1
    have hk := hk.2
    obtain ⟨r5, er5⟩ : ∃ z : Int32, z = f_Store_logged (a1.toNatClampNeg) a2 S := ⟨_, rfl⟩
    have hr := lt_e er5 hr
    refine z_goI (pc := 17) hW hA (congrArg (fun q => (q, S)) er5) (z_runV hF hK hW (c_Store_logged l D X ad ca (a1.toNatClampNeg) a2 (vin4 b3) S o4 _) cd_Store_logged gw_437 (tq4 (vin4 b3)) rfl rfl ⟨Nat.le_of_ble_eq_true rfl, Nat.le_of_ble_eq_true rfl⟩ ⟨Nat.zero_le _, Nat.zero_le _⟩ rfl rfl hl.1 (Nat.le_of_ble_eq_true rfl) d_QC_log_17) (fun H locs (hW : Wd D clQ A s.heap (zw X ad TQ (cfQ ad ca) S) H locs) => ?_)
    refine lv_goto (pc := 20) (tgt := 24) hx hb d_QC_log_20 (by decide) ?_
    exact z_iret (v := r5) hy hW (congrArg (fun z => (z, S)) hr.symm) d_QC_log_24
theorem d_QC_isAccount_0 : decode b_QC_isAccount 0 = .ok (.iload_n 0, 1) := by decide +kernel
theorem d_QC_isAccount_1 : decode b_QC_isAccount 1 = .ok (.ifCond .lt 12, 3) := by decide +kernel
theorem d_QC_isAccount_4 : decode b_QC_isAccount 4 = .ok (.iload_n 0, 1) := by decide +kernel
theorem d_QC_isAccount_5 : decode b_QC_isAccount 5 = .ok (.iconst 4, 1) := by decide +kernel
theorem d_QC_isAccount_6 : decode b_QC_isAccount 6 = .ok (.if_icmp .ge 7, 3) := by decide +kernel
theorem d_QC_isAccount_9 : decode b_QC_isAccount 9 = .ok (.iconst 1, 1) := by decide +kernel
theorem d_QC_isAccount_10 : decode b_QC_isAccount 10 = .ok (.goto 4, 3) := by decide +kernel
theorem d_QC_isAccount_13 : decode b_QC_isAccount 13 = .ok (.iconst 0, 1) := by decide +kernel
theorem d_QC_isAccount_14 : decode b_QC_isAccount 14 = .ok (.ireturn, 1) := by decide +kernel
def f_QC_isAccount (a0 : Int32) (S : St) : Int32 :=
  if a0 < 0 then
    (0 : Int32)
  else
    if (4 : Int32) ≤ a0 then
      (0 : Int32)
    else
      (1 : Int32)
set_option maxHeartbeats 4000000 in
set_option maxRecDepth 100000 in
theorem c_QC_isAccount (l : Launch) (D : va_G) (X : va_W) (ad : N3 → Nat) (ca : Nat → ClassId) (a0 : Int32)  (S : St) : cI l GG D clQ (tysQ ca) nwQ X ad TQ (cfQ ad ca) y_QC_isAccount b_QC_isAccount 1 .boolean 0 0 [.int a0] S ((f_QC_isAccount a0 S), S) := by
  generalize hr : f_QC_isAccount a0 S = res
  refine zI_of pn_QC (Nat.le_of_ble_eq_true rfl) (fun p e s m below meth c A ls hy hW hA hl => ?_)
  have hF := hy.1
  have hx := hF.1
  have hb := hF.2.1
  have hK := hy.2.2.2
  have hl : lv_has ls 1 [(0, .int a0)] := hl
  refine lv_iload_n (pc := 0) hx hb d_QC_isAccount_0 rfl (lv_at hl 0 rfl) ?_
  refine lv_if_lt (pc := 1) (tgt := 13) hx hb d_QC_isAccount_1 (by decide) (fun c1 => ?_) (fun c1 => ?_)
  · have hr := (if_pos c1).symm.trans hr
    refine lv_iconst (pc := 13) (v := 0) hx hb d_QC_isAccount_13 (by decide) ?_
    exact z_zret (v := (0 : Int32)) hy hW rfl (congrArg (fun z => (z, S)) hr.symm) d_QC_isAccount_14
  · have hr := (if_neg c1).symm.trans hr
    refine lv_iload_n (pc := 4) hx hb d_QC_isAccount_4 rfl (lv_at hl 0 rfl) ?_
    refine lv_iconst (pc := 5) (v := 4) hx hb d_QC_isAccount_5 (by decide) ?_
    refine lv_icmp_ge (pc := 6) (tgt := 13) hx hb d_QC_isAccount_6 (by decide) (fun c2 => ?_) (fun c2 => ?_)
    · have hr := (if_pos c2).symm.trans hr
      refine lv_iconst (pc := 13) (v := 0) hx hb d_QC_isAccount_13 (by decide) ?_
      exact z_zret (v := (0 : Int32)) hy hW rfl (congrArg (fun z => (z, S)) hr.symm) d_QC_isAccount_14
    · have hr := (if_neg c2).symm.trans hr
      refine lv_iconst (pc := 9) (v := 1) hx hb d_QC_isAccount_9 (by decide) ?_
      refine lv_goto (pc := 10) (tgt := 14) hx hb d_QC_isAccount_10 (by decide) ?_
      exact z_zret (v := (1 : Int32)) hy hW rfl (congrArg (fun z => (z, S)) hr.symm) d_QC_isAccount_14
theorem d_QC_account_0 : decode b_QC_account 0 = .ok (.iload_n 1, 1) := by decide +kernel
theorem d_QC_account_1 : decode b_QC_account 1 = .ok (.invokestatic 68, 3) := by decide +kernel
theorem d_QC_account_4 : decode b_QC_account 4 = .ok (.ifCond .eq 10, 3) := by decide +kernel
theorem d_QC_account_7 : decode b_QC_account 7 = .ok (.iload_n 2, 1) := by decide +kernel
theorem d_QC_account_8 : decode b_QC_account 8 = .ok (.invokestatic 42, 3) := by decide +kernel
theorem d_QC_account_11 : decode b_QC_account 11 = .ok (.ifCond .ne 5, 3) := by decide +kernel
theorem d_QC_account_14 : decode b_QC_account 14 = .ok (.iconst (-1), 1) := by decide +kernel
theorem d_QC_account_15 : decode b_QC_account 15 = .ok (.ireturn, 1) := by decide +kernel
theorem d_QC_account_16 : decode b_QC_account 16 = .ok (.aload_n 0, 1) := by decide +kernel
theorem d_QC_account_17 : decode b_QC_account 17 = .ok (.getfield 11, 3) := by decide +kernel
theorem d_QC_account_20 : decode b_QC_account 20 = .ok (.iload_n 1, 1) := by decide +kernel
theorem d_QC_account_21 : decode b_QC_account 21 = .ok (.aaload, 1) := by decide +kernel
theorem d_QC_account_22 : decode b_QC_account 22 = .ok (.getfield 179, 3) := by decide +kernel
theorem d_QC_account_25 : decode b_QC_account 25 = .ok (.getfield 272, 3) := by decide +kernel
theorem d_QC_account_28 : decode b_QC_account 28 = .ok (.astore 4, 2) := by decide +kernel
theorem d_QC_account_30 : decode b_QC_account 30 = .ok (.iload_n 3, 1) := by decide +kernel
theorem d_QC_account_31 : decode b_QC_account 31 = .ok (.lookupswitch 41 #[(0, 25), (1, 33)], 25) := by decide +kernel
theorem d_QC_account_56 : decode b_QC_account 56 = .ok (.aload 4, 2) := by decide +kernel
theorem d_QC_account_58 : decode b_QC_account 58 = .ok (.getfield 276, 3) := by decide +kernel
theorem d_QC_account_61 : decode b_QC_account 61 = .ok (.iload_n 2, 1) := by decide +kernel
theorem d_QC_account_62 : decode b_QC_account 62 = .ok (.iaload, 1) := by decide +kernel
theorem d_QC_account_63 : decode b_QC_account 63 = .ok (.ireturn, 1) := by decide +kernel
theorem d_QC_account_64 : decode b_QC_account 64 = .ok (.aload 4, 2) := by decide +kernel
theorem d_QC_account_66 : decode b_QC_account 66 = .ok (.getfield 282, 3) := by decide +kernel
theorem d_QC_account_69 : decode b_QC_account 69 = .ok (.iload_n 2, 1) := by decide +kernel
theorem d_QC_account_70 : decode b_QC_account 70 = .ok (.iaload, 1) := by decide +kernel
theorem d_QC_account_71 : decode b_QC_account 71 = .ok (.ireturn, 1) := by decide +kernel
theorem d_QC_account_72 : decode b_QC_account 72 = .ok (.iconst (-1), 1) := by decide +kernel
theorem d_QC_account_73 : decode b_QC_account 73 = .ok (.ireturn, 1) := by decide +kernel
def f_QC_account (a1 : Int32) (a2 : Int32) (a3 : Int32) (S : St) : Int32 :=
  lt (f_QC_isNode a1 S) fun (r1 : Int32) =>
  if r1 = 0 then
    (-1 : Int32)
  else
    lt (f_QC_isAccount a2 S) fun (r3 : Int32) =>
    if r3 = 0 then
      (-1 : Int32)
    else
      if a3 = (0 : Int32) then
        S.1 8 (a1.toNatClampNeg) 0 a2.toNatClampNeg
      else
        if a3 = (1 : Int32) then
          S.1 9 (a1.toNatClampNeg) 0 a2.toNatClampNeg
        else
          (-1 : Int32)
def ok_QC_account (a1 : Int32) (a2 : Int32) (a3 : Int32) (S : St) : Prop :=
  lt (f_QC_isNode a1 S) fun (r1 : Int32) =>
  (r1 = 0 → (
    True)) ∧ (¬ (r1 = 0) → (
    lt (f_QC_isAccount a2 S) fun (r3 : Int32) =>
    (r3 = 0 → (
      True)) ∧ (¬ (r3 = 0) → (
      (vp_in a1 4) ∧ (
        (a3 = (0 : Int32) → (
          (vp_in a2 4) ∧ (
            True))) ∧ (¬ (a3 = (0 : Int32)) → (
          (a3 = (1 : Int32) → (
            (vp_in a2 4) ∧ (
              True))) ∧ (¬ (a3 = (1 : Int32)) → (
            True)))))))))
set_option maxHeartbeats 4000000 in
set_option maxRecDepth 100000 in
theorem c_QC_account (l : Launch) (D : va_G) (X : va_W) (ad : N3 → Nat) (ca : Nat → ClassId) (a1 : Int32) (a2 : Int32) (a3 : Int32)  (S : St) (hk : ok_QC_account a1 a2 a3 S) : cI l GG D clQ (tysQ ca) nwQ X ad TQ (cfQ ad ca) y_QC_account b_QC_account 5 .int 1 20 [.ref (ad (1, 0, 0)), .int a1, .int a2, .int a3] S ((f_QC_account a1 a2 a3 S), S) := by
  generalize hr : f_QC_account a1 a2 a3 S = res
  refine zI_of pn_QC (Nat.le_of_ble_eq_true rfl) (fun p e s m below meth c A ls hy hW hA hl => ?_)
  have hF := hy.1
  have hx := hF.1
  have hb := hF.2.1
  have hK := hy.2.2.2
  have hl : lv_has ls 5 [(0, .ref (ad (1, 0, 0))), (1, .int a1), (2, .int a2), (3, .int a3)] := hl
  refine lv_iload_n (pc := 0) hx hb d_QC_account_0 rfl (lv_at hl 1 rfl) ?_
  obtain ⟨r1, er1⟩ : ∃ z : Int32, z = f_QC_isNode a1 S := ⟨_, rfl⟩
  have hk := lt_p er1 hk
  have hr := lt_e er1 hr
  refine z_goI (pc := 1) hW hA (congrArg (fun q => (q, S)) er1) (z_runS hF hK hW (c_QC_isNode l D X ad ca a1 S _) cd_QC_isNode gw_430 ⟨Nat.le_of_ble_eq_true rfl, Nat.le_of_ble_eq_true rfl⟩ ⟨Nat.zero_le _, Nat.zero_le _⟩ rfl rfl hl.1 (Nat.le_of_ble_eq_true rfl) d_QC_account_1) (fun H locs (hW : Wd D clQ A s.heap (zw X ad TQ (cfQ ad ca) S) H locs) => ?_)
  refine lv_if_eq (pc := 4) (tgt := 14) hx hb d_QC_account_4 (by decide) (fun c2 => ?_) (fun c2 => ?_)
  · have hk := hk.1 c2
    have hr := (if_pos c2).symm.trans hr
    refine lv_iconst (pc := 14) (v := -1) hx hb d_QC_account_14 (by decide) ?_
    exact z_iret (v := (-1 : Int32)) hy hW (congrArg (fun z => (z, S)) hr.symm) d_QC_account_15
  · have hk := hk.2 c2
    have hr := (if_neg c2).symm.trans hr
    refine lv_iload_n (pc := 7) hx hb d_QC_account_7 rfl (lv_at hl 2 rfl) ?_
    obtain ⟨r3, er3⟩ : ∃ z : Int32, z = f_QC_isAccount a2 S := ⟨_, rfl⟩
    have hk := lt_p er3 hk
    have hr := lt_e er3 hr
    refine z_goI (pc := 8) hW hA (congrArg (fun q => (q, S)) er3) (z_runS hF hK hW (c_QC_isAccount l D X ad ca a2 S _) cd_QC_isAccount gw_445 ⟨Nat.le_of_ble_eq_true rfl, Nat.le_of_ble_eq_true rfl⟩ ⟨Nat.zero_le _, Nat.zero_le _⟩ rfl rfl hl.1 (Nat.le_of_ble_eq_true rfl) d_QC_account_8) (fun H locs (hW : Wd D clQ A s.heap (zw X ad TQ (cfQ ad ca) S) H locs) => ?_)
    refine lv_if_ne (pc := 11) (tgt := 16) hx hb d_QC_account_11 (by decide) (fun c4 => ?_) (fun c4 => ?_)
    · have hk := hk.2 c4
      have hr := (if_neg c4).symm.trans hr
      refine lv_aload_n (pc := 16) hx hb d_QC_account_16 rfl (lv_at hl 0 rfl) ?_
      refine z_get (pc := 17) (v := .ref (ad (2, 0, 0))) hF hK.1 hW tq1 rfl rfl in_QC 0 (by decide) gw_344 rfl rfl d_QC_account_17 ?_
      refine lv_iload_n (pc := 20) hx hb d_QC_account_20 rfl (lv_at hl 1 rfl) ?_
      have b5 := hk.1
      have hk := hk.2
      refine z_aald (pc := 21) (q := ad (3, (a1.toNatClampNeg), 0)) hF hK.1 hW tq2 3 rfl rfl b5 rfl d_QC_account_21 ?_
      refine z_get (pc := 22) (v := .ref (ad (4, (a1.toNatClampNeg), 0))) hF hK.1 hW (tq3 (vin4 b5)) rfl rfl in_Node 1 (by decide) gw_298 rfl rfl d_QC_account_22 ?_
      refine z_get (pc := 25) (v := .ref (ad (7, (a1.toNatClampNeg), 0))) hF hK.1 hW (tq4 (vin4 b5)) rfl rfl in_Store 2 (by decide) gw_268 rfl rfl d_QC_account_25 ?_
      refine lv_astore (pc := 28) (lv' := [(4, .ref (ad (7, (a1.toNatClampNeg), 0))), (0, .ref (ad (1, 0, 0))), (1, .int a1), (2, .int a2), (3, .int a3)]) hx hb d_QC_account_28 hl (by decide) rfl (fun ls hl => ?_)
      refine lv_iload_n (pc := 30) hx hb d_QC_account_30 rfl (lv_at hl 4 rfl) ?_
      by_cases c6 : a3 = (0 : Int32)
      · have hk := hk.1 c6
        have hr := (if_pos c6).symm.trans hr
        refine lv_lookup (pc := 31) (tgt := 56) (off := 25) hx hb d_QC_account_31 (by decide) (by (rw [c6]) <;> decide) (by decide) ?_
        refine lv_aload (pc := 56) hx hb d_QC_account_56 (lv_at hl 0 rfl) ?_
        refine z_get (pc := 58) (v := .ref (ad (8, (a1.toNatClampNeg), 0))) hF hK.1 hW (tq7 (vin4 b5)) rfl rfl in_Accounts 0 (by decide) gw_211 rfl rfl d_QC_account_58 ?_
        refine lv_iload_n (pc := 61) hx hb d_QC_account_61 rfl (lv_at hl 3 rfl) ?_
        have b7 := hk.1
        have hk := hk.2
        refine z_iald (pc := 62) (v := S.1 8 (a1.toNatClampNeg) 0 a2.toNatClampNeg) hF hK.1 hW (tq8 (vin4 b5)) 0 rfl rfl b7 rfl d_QC_account_62 ?_
        exact z_iret (v := S.1 8 (a1.toNatClampNeg) 0 a2.toNatClampNeg) hy hW (congrArg (fun z => (z, S)) hr.symm) d_QC_account_63
      · have hk := hk.2 c6
        have hr := (if_neg c6).symm.trans hr
        by_cases c8 : a3 = (1 : Int32)
        · have hk := hk.1 c8
          have hr := (if_pos c8).symm.trans hr
          refine lv_lookup (pc := 31) (tgt := 64) (off := 33) hx hb d_QC_account_31 (by decide) (by (rw [c8]) <;> decide) (by decide) ?_
          refine lv_aload (pc := 64) hx hb d_QC_account_64 (lv_at hl 0 rfl) ?_
          refine z_get (pc := 66) (v := .ref (ad (9, (a1.toNatClampNeg), 0))) hF hK.1 hW (tq7 (vin4 b5)) rfl rfl in_Accounts 1 (by decide) gw_213 rfl rfl d_QC_account_66 ?_
          refine lv_iload_n (pc := 69) hx hb d_QC_account_69 rfl (lv_at hl 3 rfl) ?_
          have b9 := hk.1
          have hk := hk.2
          refine z_iald (pc := 70) (v := S.1 9 (a1.toNatClampNeg) 0 a2.toNatClampNeg) hF hK.1 hW (tq9 (vin4 b5)) 0 rfl rfl b9 rfl d_QC_account_70 ?_
          exact z_iret (v := S.1 9 (a1.toNatClampNeg) 0 a2.toNatClampNeg) hy hW (congrArg (fun z => (z, S)) hr.symm) d_QC_account_71
        · have hk := hk.2 c8
          have hr := (if_neg c8).symm.trans hr
          refine lv_lookup (pc := 31) (tgt := 72) (off := 41) hx hb d_QC_account_31 (by decide) ((lv_osw c6 (by decide)).trans <| (lv_osw c8 (by decide)).trans <| rfl) (by decide) ?_
          refine lv_iconst (pc := 72) (v := -1) hx hb d_QC_account_72 (by decide) ?_
          exact z_iret (v := (-1 : Int32)) hy hW (congrArg (fun z => (z, S)) hr.symm) d_QC_account_73
    · have hk := hk.1 c4
      have hr := (if_pos c4).symm.trans hr
      refine lv_iconst (pc := 14) (v := -1) hx hb d_QC_account_14 (by decide) ?_
      exact z_iret (v := (-1 : Int32)) hy hW (congrArg (fun z => (z, S)) hr.symm) d_QC_account_15
theorem d_Blocks_exists_0 : decode b_Blocks_exists 0 = .ok (.iload_n 1, 1) := by decide +kernel
theorem d_Blocks_exists_1 : decode b_Blocks_exists 1 = .ok (.ifCond .lt 15, 3) := by decide +kernel
theorem d_Blocks_exists_4 : decode b_Blocks_exists 4 = .ok (.iload_n 1, 1) := by decide +kernel
theorem d_Blocks_exists_5 : decode b_Blocks_exists 5 = .ok (.aload_n 0, 1) := by decide +kernel
theorem d_Blocks_exists_6 : decode b_Blocks_exists 6 = .ok (.getfield 25, 3) := by decide +kernel
theorem d_Blocks_exists_9 : decode b_Blocks_exists 9 = .ok (.if_icmp .ge 7, 3) := by decide +kernel
theorem d_Blocks_exists_12 : decode b_Blocks_exists 12 = .ok (.iconst 1, 1) := by decide +kernel
theorem d_Blocks_exists_13 : decode b_Blocks_exists 13 = .ok (.goto 4, 3) := by decide +kernel
theorem d_Blocks_exists_16 : decode b_Blocks_exists 16 = .ok (.iconst 0, 1) := by decide +kernel
theorem d_Blocks_exists_17 : decode b_Blocks_exists 17 = .ok (.ireturn, 1) := by decide +kernel
def f_Blocks_exists (a1 : Int32) (S : St) : Int32 :=
  if a1 < 0 then
    (0 : Int32)
  else
    if (S.1 19 0 0 4) ≤ a1 then
      (0 : Int32)
    else
      (1 : Int32)
set_option maxHeartbeats 4000000 in
set_option maxRecDepth 100000 in
theorem c_Blocks_exists (l : Launch) (D : va_G) (X : va_W) (ad : N3 → Nat) (ca : Nat → ClassId) (a1 : Int32)  (S : St) : cI l GG D clQ (tysQ ca) nwQ X ad TQ (cfQ ad ca) y_Blocks_exists b_Blocks_exists 2 .boolean 0 0 [.ref (ad (19, 0, 0)), .int a1] S ((f_Blocks_exists a1 S), S) := by
  generalize hr : f_Blocks_exists a1 S = res
  refine zI_of pn_Blocks (Nat.le_of_ble_eq_true rfl) (fun p e s m below meth c A ls hy hW hA hl => ?_)
  have hF := hy.1
  have hx := hF.1
  have hb := hF.2.1
  have hK := hy.2.2.2
  have hl : lv_has ls 2 [(0, .ref (ad (19, 0, 0))), (1, .int a1)] := hl
  refine lv_iload_n (pc := 0) hx hb d_Blocks_exists_0 rfl (lv_at hl 1 rfl) ?_
  refine lv_if_lt (pc := 1) (tgt := 16) hx hb d_Blocks_exists_1 (by decide) (fun c1 => ?_) (fun c1 => ?_)
  · have hr := (if_pos c1).symm.trans hr
    refine lv_iconst (pc := 16) (v := 0) hx hb d_Blocks_exists_16 (by decide) ?_
    exact z_zret (v := (0 : Int32)) hy hW rfl (congrArg (fun z => (z, S)) hr.symm) d_Blocks_exists_17
  · have hr := (if_neg c1).symm.trans hr
    refine lv_iload_n (pc := 4) hx hb d_Blocks_exists_4 rfl (lv_at hl 1 rfl) ?_
    refine lv_aload_n (pc := 5) hx hb d_Blocks_exists_5 rfl (lv_at hl 0 rfl) ?_
    refine z_get (pc := 6) (v := .int (S.1 19 0 0 4)) hF hK.1 hW tq19 rfl rfl in_Blocks 4 (by decide) gw_92 rfl rfl d_Blocks_exists_6 ?_
    refine lv_icmp_ge (pc := 9) (tgt := 16) hx hb d_Blocks_exists_9 (by decide) (fun c2 => ?_) (fun c2 => ?_)
    · have hr := (if_pos c2).symm.trans hr
      refine lv_iconst (pc := 16) (v := 0) hx hb d_Blocks_exists_16 (by decide) ?_
      exact z_zret (v := (0 : Int32)) hy hW rfl (congrArg (fun z => (z, S)) hr.symm) d_Blocks_exists_17
    · have hr := (if_neg c2).symm.trans hr
      refine lv_iconst (pc := 12) (v := 1) hx hb d_Blocks_exists_12 (by decide) ?_
      refine lv_goto (pc := 13) (tgt := 17) hx hb d_Blocks_exists_13 (by decide) ?_
      exact z_zret (v := (1 : Int32)) hy hW rfl (congrArg (fun z => (z, S)) hr.symm) d_Blocks_exists_17
theorem d_Blocks_viewOf_0 : decode b_Blocks_viewOf 0 = .ok (.aload_n 0, 1) := by decide +kernel
theorem d_Blocks_viewOf_1 : decode b_Blocks_viewOf 1 = .ok (.iload_n 1, 1) := by decide +kernel
theorem d_Blocks_viewOf_2 : decode b_Blocks_viewOf 2 = .ok (.invokevirtual 29, 3) := by decide +kernel
theorem d_Blocks_viewOf_5 : decode b_Blocks_viewOf 5 = .ok (.ifCond .eq 12, 3) := by decide +kernel
theorem d_Blocks_viewOf_8 : decode b_Blocks_viewOf 8 = .ok (.aload_n 0, 1) := by decide +kernel
theorem d_Blocks_viewOf_9 : decode b_Blocks_viewOf 9 = .ok (.getfield 9, 3) := by decide +kernel
theorem d_Blocks_viewOf_12 : decode b_Blocks_viewOf 12 = .ok (.iload_n 1, 1) := by decide +kernel
theorem d_Blocks_viewOf_13 : decode b_Blocks_viewOf 13 = .ok (.iaload, 1) := by decide +kernel
theorem d_Blocks_viewOf_14 : decode b_Blocks_viewOf 14 = .ok (.goto 4, 3) := by decide +kernel
theorem d_Blocks_viewOf_17 : decode b_Blocks_viewOf 17 = .ok (.iconst (-1), 1) := by decide +kernel
theorem d_Blocks_viewOf_18 : decode b_Blocks_viewOf 18 = .ok (.ireturn, 1) := by decide +kernel
def f_Blocks_viewOf (a1 : Int32) (S : St) : Int32 :=
  lt (f_Blocks_exists a1 S) fun (r1 : Int32) =>
  if r1 = 0 then
    (-1 : Int32)
  else
    S.1 20 0 0 a1.toNatClampNeg
def ok_Blocks_viewOf (a1 : Int32) (S : St) : Prop :=
  lt (f_Blocks_exists a1 S) fun (r1 : Int32) =>
  (r1 = 0 → (
    True)) ∧ (¬ (r1 = 0) → (
    (vp_in a1 100) ∧ (
      True)))
set_option maxHeartbeats 4000000 in
set_option maxRecDepth 100000 in
theorem c_Blocks_viewOf (l : Launch) (D : va_G) (X : va_W) (ad : N3 → Nat) (ca : Nat → ClassId) (a1 : Int32)  (S : St) (hk : ok_Blocks_viewOf a1 S) : cI l GG D clQ (tysQ ca) nwQ X ad TQ (cfQ ad ca) y_Blocks_viewOf b_Blocks_viewOf 2 .int 1 21 [.ref (ad (19, 0, 0)), .int a1] S ((f_Blocks_viewOf a1 S), S) := by
  generalize hr : f_Blocks_viewOf a1 S = res
  refine zI_of pn_Blocks (Nat.le_of_ble_eq_true rfl) (fun p e s m below meth c A ls hy hW hA hl => ?_)
  have hF := hy.1
  have hx := hF.1
  have hb := hF.2.1
  have hK := hy.2.2.2
  have hl : lv_has ls 2 [(0, .ref (ad (19, 0, 0))), (1, .int a1)] := hl
  refine lv_aload_n (pc := 0) hx hb d_Blocks_viewOf_0 rfl (lv_at hl 0 rfl) ?_
  refine lv_iload_n (pc := 1) hx hb d_Blocks_viewOf_1 rfl (lv_at hl 1 rfl) ?_
  obtain ⟨r1, er1⟩ : ∃ z : Int32, z = f_Blocks_exists a1 S := ⟨_, rfl⟩
  have hk := lt_p er1 hk
  have hr := lt_e er1 hr
  refine z_goI (pc := 2) hW hA (congrArg (fun q => (q, S)) er1) (z_runV hF hK hW (c_Blocks_exists l D X ad ca a1 S _) cd_Blocks_exists gw_460 tq19 rfl rfl ⟨Nat.le_of_ble_eq_true rfl, Nat.le_of_ble_eq_true rfl⟩ ⟨Nat.zero_le _, Nat.zero_le _⟩ rfl rfl hl.1 (Nat.le_of_ble_eq_true rfl) d_Blocks_viewOf_2) (fun H locs (hW : Wd D clQ A s.heap (zw X ad TQ (cfQ ad ca) S) H locs) => ?_)
  refine lv_if_eq (pc := 5) (tgt := 17) hx hb d_Blocks_viewOf_5 (by decide) (fun c2 => ?_) (fun c2 => ?_)
  · have hk := hk.1 c2
    have hr := (if_pos c2).symm.trans hr
    refine lv_iconst (pc := 17) (v := -1) hx hb d_Blocks_viewOf_17 (by decide) ?_
    exact z_iret (v := (-1 : Int32)) hy hW (congrArg (fun z => (z, S)) hr.symm) d_Blocks_viewOf_18
  · have hk := hk.2 c2
    have hr := (if_neg c2).symm.trans hr
    refine lv_aload_n (pc := 8) hx hb d_Blocks_viewOf_8 rfl (lv_at hl 0 rfl) ?_
    refine z_get (pc := 9) (v := .ref (ad (20, 0, 0))) hF hK.1 hW tq19 rfl rfl in_Blocks 0 (by decide) gw_88 rfl rfl d_Blocks_viewOf_9 ?_
    refine lv_iload_n (pc := 12) hx hb d_Blocks_viewOf_12 rfl (lv_at hl 1 rfl) ?_
    have b3 := hk.1
    have hk := hk.2
    refine z_iald (pc := 13) (v := S.1 20 0 0 a1.toNatClampNeg) hF hK.1 hW tq20 0 rfl rfl b3 rfl d_Blocks_viewOf_13 ?_
    refine lv_goto (pc := 14) (tgt := 18) hx hb d_Blocks_viewOf_14 (by decide) ?_
    exact z_iret (v := S.1 20 0 0 a1.toNatClampNeg) hy hW (congrArg (fun z => (z, S)) hr.symm) d_Blocks_viewOf_18
theorem d_Blocks_parentOf_0 : decode b_Blocks_parentOf 0 = .ok (.aload_n 0, 1) := by decide +kernel
theorem d_Blocks_parentOf_1 : decode b_Blocks_parentOf 1 = .ok (.iload_n 1, 1) := by decide +kernel
theorem d_Blocks_parentOf_2 : decode b_Blocks_parentOf 2 = .ok (.invokevirtual 29, 3) := by decide +kernel
theorem d_Blocks_parentOf_5 : decode b_Blocks_parentOf 5 = .ok (.ifCond .eq 12, 3) := by decide +kernel
theorem d_Blocks_parentOf_8 : decode b_Blocks_parentOf 8 = .ok (.aload_n 0, 1) := by decide +kernel
theorem d_Blocks_parentOf_9 : decode b_Blocks_parentOf 9 = .ok (.getfield 15, 3) := by decide +kernel
theorem d_Blocks_parentOf_12 : decode b_Blocks_parentOf 12 = .ok (.iload_n 1, 1) := by decide +kernel
theorem d_Blocks_parentOf_13 : decode b_Blocks_parentOf 13 = .ok (.iaload, 1) := by decide +kernel
theorem d_Blocks_parentOf_14 : decode b_Blocks_parentOf 14 = .ok (.goto 4, 3) := by decide +kernel
theorem d_Blocks_parentOf_17 : decode b_Blocks_parentOf 17 = .ok (.iconst (-1), 1) := by decide +kernel
theorem d_Blocks_parentOf_18 : decode b_Blocks_parentOf 18 = .ok (.ireturn, 1) := by decide +kernel
def f_Blocks_parentOf (a1 : Int32) (S : St) : Int32 :=
  lt (f_Blocks_exists a1 S) fun (r1 : Int32) =>
  if r1 = 0 then
    (-1 : Int32)
  else
    S.1 21 0 0 a1.toNatClampNeg
def ok_Blocks_parentOf (a1 : Int32) (S : St) : Prop :=
  lt (f_Blocks_exists a1 S) fun (r1 : Int32) =>
  (r1 = 0 → (
    True)) ∧ (¬ (r1 = 0) → (
    (vp_in a1 100) ∧ (
      True)))
set_option maxHeartbeats 4000000 in
set_option maxRecDepth 100000 in
theorem c_Blocks_parentOf (l : Launch) (D : va_G) (X : va_W) (ad : N3 → Nat) (ca : Nat → ClassId) (a1 : Int32)  (S : St) (hk : ok_Blocks_parentOf a1 S) : cI l GG D clQ (tysQ ca) nwQ X ad TQ (cfQ ad ca) y_Blocks_parentOf b_Blocks_parentOf 2 .int 1 21 [.ref (ad (19, 0, 0)), .int a1] S ((f_Blocks_parentOf a1 S), S) := by
  generalize hr : f_Blocks_parentOf a1 S = res
  refine zI_of pn_Blocks (Nat.le_of_ble_eq_true rfl) (fun p e s m below meth c A ls hy hW hA hl => ?_)
  have hF := hy.1
  have hx := hF.1
  have hb := hF.2.1
  have hK := hy.2.2.2
  have hl : lv_has ls 2 [(0, .ref (ad (19, 0, 0))), (1, .int a1)] := hl
  refine lv_aload_n (pc := 0) hx hb d_Blocks_parentOf_0 rfl (lv_at hl 0 rfl) ?_
  refine lv_iload_n (pc := 1) hx hb d_Blocks_parentOf_1 rfl (lv_at hl 1 rfl) ?_
  obtain ⟨r1, er1⟩ : ∃ z : Int32, z = f_Blocks_exists a1 S := ⟨_, rfl⟩
  have hk := lt_p er1 hk
  have hr := lt_e er1 hr
  refine z_goI (pc := 2) hW hA (congrArg (fun q => (q, S)) er1) (z_runV hF hK hW (c_Blocks_exists l D X ad ca a1 S _) cd_Blocks_exists gw_460 tq19 rfl rfl ⟨Nat.le_of_ble_eq_true rfl, Nat.le_of_ble_eq_true rfl⟩ ⟨Nat.zero_le _, Nat.zero_le _⟩ rfl rfl hl.1 (Nat.le_of_ble_eq_true rfl) d_Blocks_parentOf_2) (fun H locs (hW : Wd D clQ A s.heap (zw X ad TQ (cfQ ad ca) S) H locs) => ?_)
  refine lv_if_eq (pc := 5) (tgt := 17) hx hb d_Blocks_parentOf_5 (by decide) (fun c2 => ?_) (fun c2 => ?_)
  · have hk := hk.1 c2
    have hr := (if_pos c2).symm.trans hr
    refine lv_iconst (pc := 17) (v := -1) hx hb d_Blocks_parentOf_17 (by decide) ?_
    exact z_iret (v := (-1 : Int32)) hy hW (congrArg (fun z => (z, S)) hr.symm) d_Blocks_parentOf_18
  · have hk := hk.2 c2
    have hr := (if_neg c2).symm.trans hr
    refine lv_aload_n (pc := 8) hx hb d_Blocks_parentOf_8 rfl (lv_at hl 0 rfl) ?_
    refine z_get (pc := 9) (v := .ref (ad (21, 0, 0))) hF hK.1 hW tq19 rfl rfl in_Blocks 1 (by decide) gw_89 rfl rfl d_Blocks_parentOf_9 ?_
    refine lv_iload_n (pc := 12) hx hb d_Blocks_parentOf_12 rfl (lv_at hl 1 rfl) ?_
    have b3 := hk.1
    have hk := hk.2
    refine z_iald (pc := 13) (v := S.1 21 0 0 a1.toNatClampNeg) hF hK.1 hW tq21 0 rfl rfl b3 rfl d_Blocks_parentOf_13 ?_
    refine lv_goto (pc := 14) (tgt := 18) hx hb d_Blocks_parentOf_14 (by decide) ?_
    exact z_iret (v := S.1 21 0 0 a1.toNatClampNeg) hy hW (congrArg (fun z => (z, S)) hr.symm) d_Blocks_parentOf_18
theorem d_Blocks_transactionOf_0 : decode b_Blocks_transactionOf 0 = .ok (.aload_n 0, 1) := by decide +kernel
theorem d_Blocks_transactionOf_1 : decode b_Blocks_transactionOf 1 = .ok (.iload_n 1, 1) := by decide +kernel
theorem d_Blocks_transactionOf_2 : decode b_Blocks_transactionOf 2 = .ok (.invokevirtual 29, 3) := by decide +kernel
theorem d_Blocks_transactionOf_5 : decode b_Blocks_transactionOf 5 = .ok (.ifCond .eq 12, 3) := by decide +kernel
theorem d_Blocks_transactionOf_8 : decode b_Blocks_transactionOf 8 = .ok (.aload_n 0, 1) := by decide +kernel
theorem d_Blocks_transactionOf_9 : decode b_Blocks_transactionOf 9 = .ok (.getfield 18, 3) := by decide +kernel
theorem d_Blocks_transactionOf_12 : decode b_Blocks_transactionOf 12 = .ok (.iload_n 1, 1) := by decide +kernel
theorem d_Blocks_transactionOf_13 : decode b_Blocks_transactionOf 13 = .ok (.iaload, 1) := by decide +kernel
theorem d_Blocks_transactionOf_14 : decode b_Blocks_transactionOf 14 = .ok (.goto 4, 3) := by decide +kernel
theorem d_Blocks_transactionOf_17 : decode b_Blocks_transactionOf 17 = .ok (.iconst (-1), 1) := by decide +kernel
theorem d_Blocks_transactionOf_18 : decode b_Blocks_transactionOf 18 = .ok (.ireturn, 1) := by decide +kernel
def f_Blocks_transactionOf (a1 : Int32) (S : St) : Int32 :=
  lt (f_Blocks_exists a1 S) fun (r1 : Int32) =>
  if r1 = 0 then
    (-1 : Int32)
  else
    S.1 22 0 0 a1.toNatClampNeg
def ok_Blocks_transactionOf (a1 : Int32) (S : St) : Prop :=
  lt (f_Blocks_exists a1 S) fun (r1 : Int32) =>
  (r1 = 0 → (
    True)) ∧ (¬ (r1 = 0) → (
    (vp_in a1 100) ∧ (
      True)))
set_option maxHeartbeats 4000000 in
set_option maxRecDepth 100000 in
theorem c_Blocks_transactionOf (l : Launch) (D : va_G) (X : va_W) (ad : N3 → Nat) (ca : Nat → ClassId) (a1 : Int32)  (S : St) (hk : ok_Blocks_transactionOf a1 S) : cI l GG D clQ (tysQ ca) nwQ X ad TQ (cfQ ad ca) y_Blocks_transactionOf b_Blocks_transactionOf 2 .int 1 21 [.ref (ad (19, 0, 0)), .int a1] S ((f_Blocks_transactionOf a1 S), S) := by
  generalize hr : f_Blocks_transactionOf a1 S = res
  refine zI_of pn_Blocks (Nat.le_of_ble_eq_true rfl) (fun p e s m below meth c A ls hy hW hA hl => ?_)
  have hF := hy.1
  have hx := hF.1
  have hb := hF.2.1
  have hK := hy.2.2.2
  have hl : lv_has ls 2 [(0, .ref (ad (19, 0, 0))), (1, .int a1)] := hl
  refine lv_aload_n (pc := 0) hx hb d_Blocks_transactionOf_0 rfl (lv_at hl 0 rfl) ?_
  refine lv_iload_n (pc := 1) hx hb d_Blocks_transactionOf_1 rfl (lv_at hl 1 rfl) ?_
  obtain ⟨r1, er1⟩ : ∃ z : Int32, z = f_Blocks_exists a1 S := ⟨_, rfl⟩
  have hk := lt_p er1 hk
  have hr := lt_e er1 hr
  refine z_goI (pc := 2) hW hA (congrArg (fun q => (q, S)) er1) (z_runV hF hK hW (c_Blocks_exists l D X ad ca a1 S _) cd_Blocks_exists gw_460 tq19 rfl rfl ⟨Nat.le_of_ble_eq_true rfl, Nat.le_of_ble_eq_true rfl⟩ ⟨Nat.zero_le _, Nat.zero_le _⟩ rfl rfl hl.1 (Nat.le_of_ble_eq_true rfl) d_Blocks_transactionOf_2) (fun H locs (hW : Wd D clQ A s.heap (zw X ad TQ (cfQ ad ca) S) H locs) => ?_)
  refine lv_if_eq (pc := 5) (tgt := 17) hx hb d_Blocks_transactionOf_5 (by decide) (fun c2 => ?_) (fun c2 => ?_)
  · have hk := hk.1 c2
    have hr := (if_pos c2).symm.trans hr
    refine lv_iconst (pc := 17) (v := -1) hx hb d_Blocks_transactionOf_17 (by decide) ?_
    exact z_iret (v := (-1 : Int32)) hy hW (congrArg (fun z => (z, S)) hr.symm) d_Blocks_transactionOf_18
  · have hk := hk.2 c2
    have hr := (if_neg c2).symm.trans hr
    refine lv_aload_n (pc := 8) hx hb d_Blocks_transactionOf_8 rfl (lv_at hl 0 rfl) ?_
    refine z_get (pc := 9) (v := .ref (ad (22, 0, 0))) hF hK.1 hW tq19 rfl rfl in_Blocks 2 (by decide) gw_90 rfl rfl d_Blocks_transactionOf_9 ?_
    refine lv_iload_n (pc := 12) hx hb d_Blocks_transactionOf_12 rfl (lv_at hl 1 rfl) ?_
    have b3 := hk.1
    have hk := hk.2
    refine z_iald (pc := 13) (v := S.1 22 0 0 a1.toNatClampNeg) hF hK.1 hW tq22 0 rfl rfl b3 rfl d_Blocks_transactionOf_13 ?_
    refine lv_goto (pc := 14) (tgt := 18) hx hb d_Blocks_transactionOf_14 (by decide) ?_
    exact z_iret (v := S.1 22 0 0 a1.toNatClampNeg) hy hW (congrArg (fun z => (z, S)) hr.symm) d_Blocks_transactionOf_18
theorem d_Blocks_isCertified_0 : decode b_Blocks_isCertified 0 = .ok (.aload_n 0, 1) := by decide +kernel
theorem d_Blocks_isCertified_1 : decode b_Blocks_isCertified 1 = .ok (.iload_n 1, 1) := by decide +kernel
theorem d_Blocks_isCertified_2 : decode b_Blocks_isCertified 2 = .ok (.invokevirtual 29, 3) := by decide +kernel
theorem d_Blocks_isCertified_5 : decode b_Blocks_isCertified 5 = .ok (.ifCond .eq 16, 3) := by decide +kernel
theorem d_Blocks_isCertified_8 : decode b_Blocks_isCertified 8 = .ok (.aload_n 0, 1) := by decide +kernel
theorem d_Blocks_isCertified_9 : decode b_Blocks_isCertified 9 = .ok (.getfield 21, 3) := by decide +kernel
theorem d_Blocks_isCertified_12 : decode b_Blocks_isCertified 12 = .ok (.iload_n 1, 1) := by decide +kernel
theorem d_Blocks_isCertified_13 : decode b_Blocks_isCertified 13 = .ok (.baload, 1) := by decide +kernel
theorem d_Blocks_isCertified_14 : decode b_Blocks_isCertified 14 = .ok (.ifCond .eq 7, 3) := by decide +kernel
theorem d_Blocks_isCertified_17 : decode b_Blocks_isCertified 17 = .ok (.iconst 1, 1) := by decide +kernel
theorem d_Blocks_isCertified_18 : decode b_Blocks_isCertified 18 = .ok (.goto 4, 3) := by decide +kernel
theorem d_Blocks_isCertified_21 : decode b_Blocks_isCertified 21 = .ok (.iconst 0, 1) := by decide +kernel
theorem d_Blocks_isCertified_22 : decode b_Blocks_isCertified 22 = .ok (.ireturn, 1) := by decide +kernel
def f_Blocks_isCertified (a1 : Int32) (S : St) : Int32 :=
  lt (f_Blocks_exists a1 S) fun (r1 : Int32) =>
  if r1 = 0 then
    (0 : Int32)
  else
    if (S.1 23 0 0 a1.toNatClampNeg) = 0 then
      (0 : Int32)
    else
      (1 : Int32)
def ok_Blocks_isCertified (a1 : Int32) (S : St) : Prop :=
  lt (f_Blocks_exists a1 S) fun (r1 : Int32) =>
  (r1 = 0 → (
    True)) ∧ (¬ (r1 = 0) → (
    (vp_in a1 100) ∧ (
      True)))
set_option maxHeartbeats 4000000 in
set_option maxRecDepth 100000 in
theorem c_Blocks_isCertified (l : Launch) (D : va_G) (X : va_W) (ad : N3 → Nat) (ca : Nat → ClassId) (a1 : Int32)  (S : St) (hk : ok_Blocks_isCertified a1 S) : cI l GG D clQ (tysQ ca) nwQ X ad TQ (cfQ ad ca) y_Blocks_isCertified b_Blocks_isCertified 2 .boolean 1 21 [.ref (ad (19, 0, 0)), .int a1] S ((f_Blocks_isCertified a1 S), S) := by
  generalize hr : f_Blocks_isCertified a1 S = res
  refine zI_of pn_Blocks (Nat.le_of_ble_eq_true rfl) (fun p e s m below meth c A ls hy hW hA hl => ?_)
  have hF := hy.1
  have hx := hF.1
  have hb := hF.2.1
  have hK := hy.2.2.2
  have hl : lv_has ls 2 [(0, .ref (ad (19, 0, 0))), (1, .int a1)] := hl
  refine lv_aload_n (pc := 0) hx hb d_Blocks_isCertified_0 rfl (lv_at hl 0 rfl) ?_
  refine lv_iload_n (pc := 1) hx hb d_Blocks_isCertified_1 rfl (lv_at hl 1 rfl) ?_
  obtain ⟨r1, er1⟩ : ∃ z : Int32, z = f_Blocks_exists a1 S := ⟨_, rfl⟩
  have hk := lt_p er1 hk
  have hr := lt_e er1 hr
  refine z_goI (pc := 2) hW hA (congrArg (fun q => (q, S)) er1) (z_runV hF hK hW (c_Blocks_exists l D X ad ca a1 S _) cd_Blocks_exists gw_460 tq19 rfl rfl ⟨Nat.le_of_ble_eq_true rfl, Nat.le_of_ble_eq_true rfl⟩ ⟨Nat.zero_le _, Nat.zero_le _⟩ rfl rfl hl.1 (Nat.le_of_ble_eq_true rfl) d_Blocks_isCertified_2) (fun H locs (hW : Wd D clQ A s.heap (zw X ad TQ (cfQ ad ca) S) H locs) => ?_)
  refine lv_if_eq (pc := 5) (tgt := 21) hx hb d_Blocks_isCertified_5 (by decide) (fun c2 => ?_) (fun c2 => ?_)
  · have hk := hk.1 c2
    have hr := (if_pos c2).symm.trans hr
    refine lv_iconst (pc := 21) (v := 0) hx hb d_Blocks_isCertified_21 (by decide) ?_
    exact z_zret (v := (0 : Int32)) hy hW rfl (congrArg (fun z => (z, S)) hr.symm) d_Blocks_isCertified_22
  · have hk := hk.2 c2
    have hr := (if_neg c2).symm.trans hr
    refine lv_aload_n (pc := 8) hx hb d_Blocks_isCertified_8 rfl (lv_at hl 0 rfl) ?_
    refine z_get (pc := 9) (v := .ref (ad (23, 0, 0))) hF hK.1 hW tq19 rfl rfl in_Blocks 3 (by decide) gw_91 rfl rfl d_Blocks_isCertified_9 ?_
    refine lv_iload_n (pc := 12) hx hb d_Blocks_isCertified_12 rfl (lv_at hl 1 rfl) ?_
    have b3 := hk.1
    have hk := hk.2
    refine z_zald (pc := 13) (v := S.1 23 0 0 a1.toNatClampNeg) hF hK.1 hW tq23 2 rfl rfl b3 rfl d_Blocks_isCertified_13 ?_
    refine lv_if_eq (pc := 14) (tgt := 21) hx hb d_Blocks_isCertified_14 (by decide) (fun c4 => ?_) (fun c4 => ?_)
    · have hr := (if_pos c4).symm.trans hr
      refine lv_iconst (pc := 21) (v := 0) hx hb d_Blocks_isCertified_21 (by decide) ?_
      exact z_zret (v := (0 : Int32)) hy hW rfl (congrArg (fun z => (z, S)) hr.symm) d_Blocks_isCertified_22
    · have hr := (if_neg c4).symm.trans hr
      refine lv_iconst (pc := 17) (v := 1) hx hb d_Blocks_isCertified_17 (by decide) ?_
      refine lv_goto (pc := 18) (tgt := 22) hx hb d_Blocks_isCertified_18 (by decide) ?_
      exact z_zret (v := (1 : Int32)) hy hW rfl (congrArg (fun z => (z, S)) hr.symm) d_Blocks_isCertified_22
end
section
theorem d_Store_hasBlock_0 : decode b_Store_hasBlock 0 = .ok (.iload_n 1, 1) := by decide +kernel
theorem d_Store_hasBlock_1 : decode b_Store_hasBlock 1 = .ok (.ifCond .lt 22, 3) := by decide +kernel
theorem d_Store_hasBlock_4 : decode b_Store_hasBlock 4 = .ok (.iload_n 1, 1) := by decide +kernel
theorem d_Store_hasBlock_5 : decode b_Store_hasBlock 5 = .ok (.bipush 100, 2) := by decide +kernel
theorem d_Store_hasBlock_7 : decode b_Store_hasBlock 7 = .ok (.if_icmp .ge 16, 3) := by decide +kernel
theorem d_Store_hasBlock_10 : decode b_Store_hasBlock 10 = .ok (.aload_n 0, 1) := by decide +kernel
theorem d_Store_hasBlock_11 : decode b_Store_hasBlock 11 = .ok (.getfield 9, 3) := by decide +kernel
theorem d_Store_hasBlock_14 : decode b_Store_hasBlock 14 = .ok (.iload_n 1, 1) := by decide +kernel
theorem d_Store_hasBlock_15 : decode b_Store_hasBlock 15 = .ok (.baload, 1) := by decide +kernel
theorem d_Store_hasBlock_16 : decode b_Store_hasBlock 16 = .ok (.ifCond .eq 7, 3) := by decide +kernel
theorem d_Store_hasBlock_19 : decode b_Store_hasBlock 19 = .ok (.iconst 1, 1) := by decide +kernel
theorem d_Store_hasBlock_20 : decode b_Store_hasBlock 20 = .ok (.goto 4, 3) := by decide +kernel
theorem d_Store_hasBlock_23 : decode b_Store_hasBlock 23 = .ok (.iconst 0, 1) := by decide +kernel
theorem d_Store_hasBlock_24 : decode b_Store_hasBlock 24 = .ok (.ireturn, 1) := by decide +kernel
def f_Store_hasBlock (i0 : Nat) (a1 : Int32) (S : St) : Int32 :=
  if a1 < 0 then
    (0 : Int32)
  else
    if (100 : Int32) ≤ a1 then
      (0 : Int32)
    else
      if (S.1 5 i0 0 a1.toNatClampNeg) = 0 then
        (0 : Int32)
      else
        (1 : Int32)
def ok_Store_hasBlock (i0 : Nat) (a1 : Int32) (S : St) : Prop :=
  (a1 < 0 → (
    True)) ∧ (¬ (a1 < 0) → (
    ((100 : Int32) ≤ a1 → (
      True)) ∧ (¬ ((100 : Int32) ≤ a1) → (
      (vp_in a1 100) ∧ (
        True)))))
set_option maxHeartbeats 4000000 in
set_option maxRecDepth 100000 in
theorem c_Store_hasBlock (l : Launch) (D : va_G) (X : va_W) (ad : N3 → Nat) (ca : Nat → ClassId) (i0 : Nat) (a1 : Int32) (h0 : i0 < 4) (S : St) (hk : ok_Store_hasBlock i0 a1 S) : cI l GG D clQ (tysQ ca) nwQ X ad TQ (cfQ ad ca) y_Store_hasBlock b_Store_hasBlock 2 .boolean 0 0 [.ref (ad (4, i0, 0)), .int a1] S ((f_Store_hasBlock i0 a1 S), S) := by
  generalize hr : f_Store_hasBlock i0 a1 S = res
  refine zI_of pn_Store (Nat.le_of_ble_eq_true rfl) (fun p e s m below meth c A ls hy hW hA hl => ?_)
  have hF := hy.1
  have hx := hF.1
  have hb := hF.2.1
  have hK := hy.2.2.2
  have hl : lv_has ls 2 [(0, .ref (ad (4, i0, 0))), (1, .int a1)] := hl
  refine lv_iload_n (pc := 0) hx hb d_Store_hasBlock_0 rfl (lv_at hl 1 rfl) ?_
  refine lv_if_lt (pc := 1) (tgt := 23) hx hb d_Store_hasBlock_1 (by decide) (fun c1 => ?_) (fun c1 => ?_)
  · have hk := hk.1 c1
    have hr := (if_pos c1).symm.trans hr
    refine lv_iconst (pc := 23) (v := 0) hx hb d_Store_hasBlock_23 (by decide) ?_
    exact z_zret (v := (0 : Int32)) hy hW rfl (congrArg (fun z => (z, S)) hr.symm) d_Store_hasBlock_24
  · have hk := hk.2 c1
    have hr := (if_neg c1).symm.trans hr
    refine lv_iload_n (pc := 4) hx hb d_Store_hasBlock_4 rfl (lv_at hl 1 rfl) ?_
    refine lv_bipush (pc := 5) (v := 100) hx hb d_Store_hasBlock_5 (by decide) ?_
    refine lv_icmp_ge (pc := 7) (tgt := 23) hx hb d_Store_hasBlock_7 (by decide) (fun c2 => ?_) (fun c2 => ?_)
    · have hk := hk.1 c2
      have hr := (if_pos c2).symm.trans hr
      refine lv_iconst (pc := 23) (v := 0) hx hb d_Store_hasBlock_23 (by decide) ?_
      exact z_zret (v := (0 : Int32)) hy hW rfl (congrArg (fun z => (z, S)) hr.symm) d_Store_hasBlock_24
    · have hk := hk.2 c2
      have hr := (if_neg c2).symm.trans hr
      refine lv_aload_n (pc := 10) hx hb d_Store_hasBlock_10 rfl (lv_at hl 0 rfl) ?_
      refine z_get (pc := 11) (v := .ref (ad (5, i0, 0))) hF hK.1 hW (tq4 h0) rfl rfl in_Store 0 (by decide) gw_264 rfl rfl d_Store_hasBlock_11 ?_
      refine lv_iload_n (pc := 14) hx hb d_Store_hasBlock_14 rfl (lv_at hl 1 rfl) ?_
      have b3 := hk.1
      have hk := hk.2
      refine z_zald (pc := 15) (v := S.1 5 i0 0 a1.toNatClampNeg) hF hK.1 hW (tq5 h0) 2 rfl rfl b3 rfl d_Store_hasBlock_15 ?_
      refine lv_if_eq (pc := 16) (tgt := 23) hx hb d_Store_hasBlock_16 (by decide) (fun c4 => ?_) (fun c4 => ?_)
      · have hr := (if_pos c4).symm.trans hr
        refine lv_iconst (pc := 23) (v := 0) hx hb d_Store_hasBlock_23 (by decide) ?_
        exact z_zret (v := (0 : Int32)) hy hW rfl (congrArg (fun z => (z, S)) hr.symm) d_Store_hasBlock_24
      · have hr := (if_neg c4).symm.trans hr
        refine lv_iconst (pc := 19) (v := 1) hx hb d_Store_hasBlock_19 (by decide) ?_
        refine lv_goto (pc := 20) (tgt := 24) hx hb d_Store_hasBlock_20 (by decide) ?_
        exact z_zret (v := (1 : Int32)) hy hW rfl (congrArg (fun z => (z, S)) hr.symm) d_Store_hasBlock_24
theorem d_QC_nodesThatHave_0 : decode b_QC_nodesThatHave 0 = .ok (.iconst 0, 1) := by decide +kernel
theorem d_QC_nodesThatHave_1 : decode b_QC_nodesThatHave 1 = .ok (.istore_n 2, 1) := by decide +kernel
theorem d_QC_nodesThatHave_2 : decode b_QC_nodesThatHave 2 = .ok (.iconst 0, 1) := by decide +kernel
theorem d_QC_nodesThatHave_3 : decode b_QC_nodesThatHave 3 = .ok (.istore_n 3, 1) := by decide +kernel
theorem d_QC_nodesThatHave_4 : decode b_QC_nodesThatHave 4 = .ok (.iload_n 3, 1) := by decide +kernel
theorem d_QC_nodesThatHave_5 : decode b_QC_nodesThatHave 5 = .ok (.iconst 4, 1) := by decide +kernel
theorem d_QC_nodesThatHave_6 : decode b_QC_nodesThatHave 6 = .ok (.if_icmp .ge 31, 3) := by decide +kernel
theorem d_QC_nodesThatHave_9 : decode b_QC_nodesThatHave 9 = .ok (.aload_n 0, 1) := by decide +kernel
theorem d_QC_nodesThatHave_10 : decode b_QC_nodesThatHave 10 = .ok (.getfield 11, 3) := by decide +kernel
theorem d_QC_nodesThatHave_13 : decode b_QC_nodesThatHave 13 = .ok (.iload_n 3, 1) := by decide +kernel
theorem d_QC_nodesThatHave_14 : decode b_QC_nodesThatHave 14 = .ok (.aaload, 1) := by decide +kernel
theorem d_QC_nodesThatHave_15 : decode b_QC_nodesThatHave 15 = .ok (.getfield 179, 3) := by decide +kernel
theorem d_QC_nodesThatHave_18 : decode b_QC_nodesThatHave 18 = .ok (.iload_n 1, 1) := by decide +kernel
theorem d_QC_nodesThatHave_19 : decode b_QC_nodesThatHave 19 = .ok (.invokevirtual 195, 3) := by decide +kernel
theorem d_QC_nodesThatHave_22 : decode b_QC_nodesThatHave 22 = .ok (.ifCond .eq 9, 3) := by decide +kernel
theorem d_QC_nodesThatHave_25 : decode b_QC_nodesThatHave 25 = .ok (.iload_n 2, 1) := by decide +kernel
theorem d_QC_nodesThatHave_26 : decode b_QC_nodesThatHave 26 = .ok (.iconst 1, 1) := by decide +kernel
theorem d_QC_nodesThatHave_27 : decode b_QC_nodesThatHave 27 = .ok (.iload_n 3, 1) := by decide +kernel
theorem d_QC_nodesThatHave_28 : decode b_QC_nodesThatHave 28 = .ok (.ishl, 1) := by decide +kernel
theorem d_QC_nodesThatHave_29 : decode b_QC_nodesThatHave 29 = .ok (.ior, 1) := by decide +kernel
theorem d_QC_nodesThatHave_30 : decode b_QC_nodesThatHave 30 = .ok (.istore_n 2, 1) := by decide +kernel
theorem d_QC_nodesThatHave_31 : decode b_QC_nodesThatHave 31 = .ok (.iinc 3 1, 3) := by decide +kernel
theorem d_QC_nodesThatHave_34 : decode b_QC_nodesThatHave 34 = .ok (.goto (-30), 3) := by decide +kernel
theorem d_QC_nodesThatHave_37 : decode b_QC_nodesThatHave 37 = .ok (.iload_n 2, 1) := by decide +kernel
theorem d_QC_nodesThatHave_38 : decode b_QC_nodesThatHave 38 = .ok (.ireturn, 1) := by decide +kernel
def f_QC_nodesThatHave_4 (a1 : Int32) : Nat → St → Int32 → Int32 → Int32
  | 0, _, _, _ => 0
  | n + 1, S, l2, l3 =>
    if (4 : Int32) ≤ l3 then
      l2
    else
      lt (f_Store_hasBlock (l3.toNatClampNeg) a1 S) fun (r4 : Int32) =>
      if r4 = 0 then
        f_QC_nodesThatHave_4 a1 n S l2 (l3 + (1 : Int32))
      else
        f_QC_nodesThatHave_4 a1 n S (l2 ||| ((1 : Int32) <<< (l3 &&& 31))) (l3 + (1 : Int32))
def ok_QC_nodesThatHave_4 (a1 : Int32) : Nat → St → Int32 → Int32 → Prop
  | 0, _, _, _ => False
  | n + 1, S, l2, l3 =>
    ((4 : Int32) ≤ l3 → (
      True)) ∧ (¬ ((4 : Int32) ≤ l3) → (
      (vp_in l3 4) ∧ (
        (ok_Store_hasBlock (l3.toNatClampNeg) a1 S) ∧ (
          lt (f_Store_hasBlock (l3.toNatClampNeg) a1 S) fun (r4 : Int32) =>
          (r4 = 0 → (
            ok_QC_nodesThatHave_4 a1 n S l2 (l3 + (1 : Int32)))) ∧ (¬ (r4 = 0) → (
            ok_QC_nodesThatHave_4 a1 n S (l2 ||| ((1 : Int32) <<< (l3 &&& 31))) (l3 + (1 : Int32))))))))
set_option maxHeartbeats 4000000 in
set_option maxRecDepth 100000 in
theorem w_QC_nodesThatHave_4 {l : Launch} {D : va_G} {X : va_W} {ad : N3 → Nat} {ca : Nat → ClassId} (a1 : Int32)  (S : St) {p : Program} {e : Env} {s : State} {m : MethodId} {below : List Frame} {meth : Method} {c : Code} {A : Nat → Prop} (hy : Hy p s m ([.ref (ad (1, 0, 0)), .int a1] : List Value).toArray meth c b_QC_nodesThatHave 4 (some .int) R_QC GG D clQ (tysQ ca) nwQ) (hA : ∀ q, s.heap.size ≤ q → A q) {res : Int32} : ∀ (n : Nat) (l2 : Int32) (l3 : Int32) , ok_QC_nodesThatHave_4 a1 n S l2 l3 → f_QC_nodesThatHave_4 a1 n S l2 l3 = res → ∀ (H : Heap) (locs : List Loc) (ls : Array Slot), Wd D clQ A s.heap (zw X ad TQ (cfQ ad ca) S) H locs → lv_has ls 4 [(0, .ref (ad (1, 0, 0))), (1, .int a1), (2, .int l2), (3, .int l3)] → W p l e { frames := 1, cells := 0, slots := 0, locals := 21 } s m ([.ref (ad (1, 0, 0)), .int a1] : List Value).toArray below meth c H locs 0 0 (MQ below (eI D clQ X ad TQ (cfQ ad ca) A (res, S)) ([.ref (ad (1, 0, 0)), .int a1] : List Value).toArray s 0 0 A) (F0 m 4 ls []) := by
  have hF := hy.1
  have hx := hF.1
  have hb := hF.2.1
  have hK := hy.2.2.2
  intro n
  induction n with
  | zero =>
    intro l2 l3 hk
    exact hk.elim
  | succ n ih =>
    intro l2 l3 hk hr H locs ls hW hl
    refine lv_iload_n (pc := 4) hx hb d_QC_nodesThatHave_4 rfl (lv_at hl 3 rfl) ?_
    refine lv_iconst (pc := 5) (v := 4) hx hb d_QC_nodesThatHave_5 (by decide) ?_
    refine lv_icmp_ge (pc := 6) (tgt := 37) hx hb d_QC_nodesThatHave_6 (by decide) (fun c1 => ?_) (fun c1 => ?_)
    · have hk := hk.1 c1
      have hr := (if_pos c1).symm.trans hr
      refine lv_iload_n (pc := 37) hx hb d_QC_nodesThatHave_37 rfl (lv_at hl 2 rfl) ?_
      exact z_iret (v := l2) hy hW (congrArg (fun z => (z, S)) hr.symm) d_QC_nodesThatHave_38
    · have hk := hk.2 c1
      have hr := (if_neg c1).symm.trans hr
      refine lv_aload_n (pc := 9) hx hb d_QC_nodesThatHave_9 rfl (lv_at hl 0 rfl) ?_
      refine z_get (pc := 10) (v := .ref (ad (2, 0, 0))) hF hK.1 hW tq1 rfl rfl in_QC 0 (by decide) gw_344 rfl rfl d_QC_nodesThatHave_10 ?_
      refine lv_iload_n (pc := 13) hx hb d_QC_nodesThatHave_13 rfl (lv_at hl 3 rfl) ?_
      have b2 := hk.1
      have hk := hk.2
      refine z_aald (pc := 14) (q := ad (3, (l3.toNatClampNeg), 0)) hF hK.1 hW tq2 3 rfl rfl b2 rfl d_QC_nodesThatHave_14 ?_
      refine z_get (pc := 15) (v := .ref (ad (4, (l3.toNatClampNeg), 0))) hF hK.1 hW (tq3 (vin4 b2)) rfl rfl in_Node 1 (by decide) gw_298 rfl rfl d_QC_nodesThatHave_15 ?_
      refine lv_iload_n (pc := 18) hx hb d_QC_nodesThatHave_18 rfl (lv_at hl 1 rfl) ?_
      have o3 := hk.1
      have hk := hk.2
      obtain ⟨r4, er4⟩ : ∃ z : Int32, z = f_Store_hasBlock (l3.toNatClampNeg) a1 S := ⟨_, rfl⟩
      have hk := lt_p er4 hk
      have hr := lt_e er4 hr
      refine z_goI (pc := 19) hW hA (congrArg (fun q => (q, S)) er4) (z_runV hF hK hW (c_Store_hasBlock l D X ad ca (l3.toNatClampNeg) a1 (vin4 b2) S o3 _) cd_Store_hasBlock gw_477 (tq4 (vin4 b2)) rfl rfl ⟨Nat.le_of_ble_eq_true rfl, Nat.le_of_ble_eq_true rfl⟩ ⟨Nat.zero_le _, Nat.zero_le _⟩ rfl rfl hl.1 (Nat.le_of_ble_eq_true rfl) d_QC_nodesThatHave_19) (fun H locs (hW : Wd D clQ A s.heap (zw X ad TQ (cfQ ad ca) S) H locs) => ?_)
      refine lv_if_eq (pc := 22) (tgt := 31) hx hb d_QC_nodesThatHave_22 (by decide) (fun c5 => ?_) (fun c5 => ?_)
      · have hk := hk.1 c5
        have hr := (if_pos c5).symm.trans hr
        refine lv_iinc (pc := 31) (v := l3 + (1 : Int32)) (lv' := [(3, .int (l3 + (1 : Int32))), (0, .ref (ad (1, 0, 0))), (1, .int a1), (2, .int l2)]) (k := 3) hx hb d_QC_nodesThatHave_31 hl rfl (z_inc (by decide)) (by decide) rfl (fun ls hl => ?_)
        refine lv_goto (pc := 34) (tgt := 4) hx hb d_QC_nodesThatHave_34 (by decide) ?_
        exact ih l2 (l3 + (1 : Int32)) hk hr _ _ _ hW (lv_sub hl [1, 2, 3, 0] rfl)
      · have hk := hk.2 c5
        have hr := (if_neg c5).symm.trans hr
        refine lv_iload_n (pc := 25) hx hb d_QC_nodesThatHave_25 rfl (lv_at hl 2 rfl) ?_
        refine lv_iconst (pc := 26) (v := 1) hx hb d_QC_nodesThatHave_26 (by decide) ?_
        refine lv_iload_n (pc := 27) hx hb d_QC_nodesThatHave_27 rfl (lv_at hl 3 rfl) ?_
        refine lv_ishl (pc := 28) hx hb d_QC_nodesThatHave_28 ?_
        refine lv_ior (pc := 29) hx hb d_QC_nodesThatHave_29 ?_
        refine lv_istore_n (pc := 30) (lv' := [(2, .int (l2 ||| ((1 : Int32) <<< (l3 &&& 31)))), (0, .ref (ad (1, 0, 0))), (1, .int a1), (3, .int l3)]) hx hb d_QC_nodesThatHave_30 rfl hl (by decide) rfl (fun ls hl => ?_)
        refine lv_iinc (pc := 31) (v := l3 + (1 : Int32)) (lv' := [(3, .int (l3 + (1 : Int32))), (2, .int (l2 ||| ((1 : Int32) <<< (l3 &&& 31)))), (0, .ref (ad (1, 0, 0))), (1, .int a1)]) (k := 3) hx hb d_QC_nodesThatHave_31 hl rfl (z_inc (by decide)) (by decide) rfl (fun ls hl => ?_)
        refine lv_goto (pc := 34) (tgt := 4) hx hb d_QC_nodesThatHave_34 (by decide) ?_
        exact ih (l2 ||| ((1 : Int32) <<< (l3 &&& 31))) (l3 + (1 : Int32)) hk hr _ _ _ hW (lv_sub hl [2, 3, 1, 0] rfl)
def f_QC_nodesThatHave (a1 : Int32) (S : St) : Int32 :=
  f_QC_nodesThatHave_4 a1 200 S (0 : Int32) (0 : Int32)
def ok_QC_nodesThatHave (a1 : Int32) (S : St) : Prop :=
  ok_QC_nodesThatHave_4 a1 200 S (0 : Int32) (0 : Int32)
set_option maxHeartbeats 4000000 in
set_option maxRecDepth 100000 in
theorem c_QC_nodesThatHave (l : Launch) (D : va_G) (X : va_W) (ad : N3 → Nat) (ca : Nat → ClassId) (a1 : Int32)  (S : St) (hk : ok_QC_nodesThatHave a1 S) : cI l GG D clQ (tysQ ca) nwQ X ad TQ (cfQ ad ca) y_QC_nodesThatHave b_QC_nodesThatHave 4 .int 1 21 [.ref (ad (1, 0, 0)), .int a1] S ((f_QC_nodesThatHave a1 S), S) := by
  generalize hr : f_QC_nodesThatHave a1 S = res
  refine zI_of pn_QC (Nat.le_of_ble_eq_true rfl) (fun p e s m below meth c A ls hy hW hA hl => ?_)
  have hF := hy.1
  have hx := hF.1
  have hb := hF.2.1
  have hK := hy.2.2.2
  have hl : lv_has ls 4 [(0, .ref (ad (1, 0, 0))), (1, .int a1)] := hl
  refine lv_iconst (pc := 0) (v := 0) hx hb d_QC_nodesThatHave_0 (by decide) ?_
  refine lv_istore_n (pc := 1) (lv' := [(2, .int (0 : Int32)), (0, .ref (ad (1, 0, 0))), (1, .int a1)]) hx hb d_QC_nodesThatHave_1 rfl hl (by decide) rfl (fun ls hl => ?_)
  refine lv_iconst (pc := 2) (v := 0) hx hb d_QC_nodesThatHave_2 (by decide) ?_
  refine lv_istore_n (pc := 3) (lv' := [(3, .int (0 : Int32)), (2, .int (0 : Int32)), (0, .ref (ad (1, 0, 0))), (1, .int a1)]) hx hb d_QC_nodesThatHave_3 rfl hl (by decide) rfl (fun ls hl => ?_)
  exact w_QC_nodesThatHave_4 a1 S hy hA 200 (0 : Int32) (0 : Int32) hk hr _ _ _ hW (lv_sub hl [2, 3, 1, 0] rfl)
theorem d_QC_block_0 : decode b_QC_block 0 = .ok (.aload_n 0, 1) := by decide +kernel
theorem d_QC_block_1 : decode b_QC_block 1 = .ok (.getfield 18, 3) := by decide +kernel
theorem d_QC_block_4 : decode b_QC_block 4 = .ok (.iload_n 1, 1) := by decide +kernel
theorem d_QC_block_5 : decode b_QC_block 5 = .ok (.invokevirtual 170, 3) := by decide +kernel
theorem d_QC_block_8 : decode b_QC_block 8 = .ok (.ifCond .ne 5, 3) := by decide +kernel
theorem d_QC_block_11 : decode b_QC_block 11 = .ok (.iconst (-1), 1) := by decide +kernel
theorem d_QC_block_12 : decode b_QC_block 12 = .ok (.ireturn, 1) := by decide +kernel
theorem d_QC_block_13 : decode b_QC_block 13 = .ok (.iload_n 2, 1) := by decide +kernel
theorem d_QC_block_14 : decode b_QC_block 14 = .ok (.tableswitch 84 0 4 #[34, 43, 52, 61, 78], 34) := by decide +kernel
theorem d_QC_block_48 : decode b_QC_block 48 = .ok (.aload_n 0, 1) := by decide +kernel
theorem d_QC_block_49 : decode b_QC_block 49 = .ok (.getfield 18, 3) := by decide +kernel
theorem d_QC_block_52 : decode b_QC_block 52 = .ok (.iload_n 1, 1) := by decide +kernel
theorem d_QC_block_53 : decode b_QC_block 53 = .ok (.invokevirtual 203, 3) := by decide +kernel
theorem d_QC_block_56 : decode b_QC_block 56 = .ok (.ireturn, 1) := by decide +kernel
theorem d_QC_block_57 : decode b_QC_block 57 = .ok (.aload_n 0, 1) := by decide +kernel
theorem d_QC_block_58 : decode b_QC_block 58 = .ok (.getfield 18, 3) := by decide +kernel
theorem d_QC_block_61 : decode b_QC_block 61 = .ok (.iload_n 1, 1) := by decide +kernel
theorem d_QC_block_62 : decode b_QC_block 62 = .ok (.invokevirtual 285, 3) := by decide +kernel
theorem d_QC_block_65 : decode b_QC_block 65 = .ok (.ireturn, 1) := by decide +kernel
theorem d_QC_block_66 : decode b_QC_block 66 = .ok (.aload_n 0, 1) := by decide +kernel
theorem d_QC_block_67 : decode b_QC_block 67 = .ok (.getfield 18, 3) := by decide +kernel
theorem d_QC_block_70 : decode b_QC_block 70 = .ok (.iload_n 1, 1) := by decide +kernel
theorem d_QC_block_71 : decode b_QC_block 71 = .ok (.invokevirtual 288, 3) := by decide +kernel
theorem d_QC_block_74 : decode b_QC_block 74 = .ok (.ireturn, 1) := by decide +kernel
theorem d_QC_block_75 : decode b_QC_block 75 = .ok (.aload_n 0, 1) := by decide +kernel
theorem d_QC_block_76 : decode b_QC_block 76 = .ok (.getfield 18, 3) := by decide +kernel
theorem d_QC_block_79 : decode b_QC_block 79 = .ok (.iload_n 1, 1) := by decide +kernel
theorem d_QC_block_80 : decode b_QC_block 80 = .ok (.invokevirtual 200, 3) := by decide +kernel
theorem d_QC_block_83 : decode b_QC_block 83 = .ok (.ifCond .eq 7, 3) := by decide +kernel
theorem d_QC_block_86 : decode b_QC_block 86 = .ok (.iconst 1, 1) := by decide +kernel
theorem d_QC_block_87 : decode b_QC_block 87 = .ok (.goto 4, 3) := by decide +kernel
theorem d_QC_block_90 : decode b_QC_block 90 = .ok (.iconst 0, 1) := by decide +kernel
theorem d_QC_block_91 : decode b_QC_block 91 = .ok (.ireturn, 1) := by decide +kernel
theorem d_QC_block_92 : decode b_QC_block 92 = .ok (.aload_n 0, 1) := by decide +kernel
theorem d_QC_block_93 : decode b_QC_block 93 = .ok (.iload_n 1, 1) := by decide +kernel
theorem d_QC_block_94 : decode b_QC_block 94 = .ok (.invokevirtual 291, 3) := by decide +kernel
theorem d_QC_block_97 : decode b_QC_block 97 = .ok (.ireturn, 1) := by decide +kernel
theorem d_QC_block_98 : decode b_QC_block 98 = .ok (.iconst (-1), 1) := by decide +kernel
theorem d_QC_block_99 : decode b_QC_block 99 = .ok (.ireturn, 1) := by decide +kernel
def f_QC_block (a1 : Int32) (a2 : Int32) (S : St) : Int32 :=
  lt (f_Blocks_exists a1 S) fun (r1 : Int32) =>
  if r1 = 0 then
    (-1 : Int32)
  else
    if a2 = (0 : Int32) then
      lt (f_Blocks_viewOf a1 S) fun (r5 : Int32) =>
      r5
    else
      if a2 = (1 : Int32) then
        lt (f_Blocks_parentOf a1 S) fun (r8 : Int32) =>
        r8
      else
        if a2 = (2 : Int32) then
          lt (f_Blocks_transactionOf a1 S) fun (r11 : Int32) =>
          r11
        else
          if a2 = (3 : Int32) then
            lt (f_Blocks_isCertified a1 S) fun (r14 : Int32) =>
            if r14 = 0 then
              (0 : Int32)
            else
              (1 : Int32)
          else
            if a2 = (4 : Int32) then
              lt (f_QC_nodesThatHave a1 S) fun (r18 : Int32) =>
              r18
            else
              (-1 : Int32)
def ok_QC_block (a1 : Int32) (a2 : Int32) (S : St) : Prop :=
  lt (f_Blocks_exists a1 S) fun (r1 : Int32) =>
  (r1 = 0 → (
    True)) ∧ (¬ (r1 = 0) → (
    (a2 = (0 : Int32) → (
      (ok_Blocks_viewOf a1 S) ∧ (
        True))) ∧ (¬ (a2 = (0 : Int32)) → (
      (a2 = (1 : Int32) → (
        (ok_Blocks_parentOf a1 S) ∧ (
          True))) ∧ (¬ (a2 = (1 : Int32)) → (
        (a2 = (2 : Int32) → (
          (ok_Blocks_transactionOf a1 S) ∧ (
            True))) ∧ (¬ (a2 = (2 : Int32)) → (
          (a2 = (3 : Int32) → (
            (ok_Blocks_isCertified a1 S) ∧ (
              True))) ∧ (¬ (a2 = (3 : Int32)) → (
            (a2 = (4 : Int32) → (
              (ok_QC_nodesThatHave a1 S) ∧ (
                True))) ∧ (¬ (a2 = (4 : Int32)) → (
              True))))))))))))
set_option maxHeartbeats 4000000 in
set_option maxRecDepth 100000 in
theorem c_QC_block (l : Launch) (D : va_G) (X : va_W) (ad : N3 → Nat) (ca : Nat → ClassId) (a1 : Int32) (a2 : Int32)  (S : St) (hk : ok_QC_block a1 a2 S) : cI l GG D clQ (tysQ ca) nwQ X ad TQ (cfQ ad ca) y_QC_block b_QC_block 3 .int 2 44 [.ref (ad (1, 0, 0)), .int a1, .int a2] S ((f_QC_block a1 a2 S), S) := by
  generalize hr : f_QC_block a1 a2 S = res
  refine zI_of pn_QC (Nat.le_of_ble_eq_true rfl) (fun p e s m below meth c A ls hy hW hA hl => ?_)
  have hF := hy.1
  have hx := hF.1
  have hb := hF.2.1
  have hK := hy.2.2.2
  have hl : lv_has ls 3 [(0, .ref (ad (1, 0, 0))), (1, .int a1), (2, .int a2)] := hl
  refine lv_aload_n (pc := 0) hx hb d_QC_block_0 rfl (lv_at hl 0 rfl) ?_
  refine z_get (pc := 1) (v := .ref (ad (19, 0, 0))) hF hK.1 hW tq1 rfl rfl in_QC 1 (by decide) gw_345 rfl rfl d_QC_block_1 ?_
  refine lv_iload_n (pc := 4) hx hb d_QC_block_4 rfl (lv_at hl 1 rfl) ?_
  obtain ⟨r1, er1⟩ : ∃ z : Int32, z = f_Blocks_exists a1 S := ⟨_, rfl⟩
  have hk := lt_p er1 hk
  have hr := lt_e er1 hr
  refine z_goI (pc := 5) hW hA (congrArg (fun q => (q, S)) er1) (z_runV hF hK hW (c_Blocks_exists l D X ad ca a1 S _) cd_Blocks_exists gw_452 tq19 rfl rfl ⟨Nat.le_of_ble_eq_true rfl, Nat.le_of_ble_eq_true rfl⟩ ⟨Nat.zero_le _, Nat.zero_le _⟩ rfl rfl hl.1 (Nat.le_of_ble_eq_true rfl) d_QC_block_5) (fun H locs (hW : Wd D clQ A s.heap (zw X ad TQ (cfQ ad ca) S) H locs) => ?_)
  refine lv_if_ne (pc := 8) (tgt := 13) hx hb d_QC_block_8 (by decide) (fun c2 => ?_) (fun c2 => ?_)
  · have hk := hk.2 c2
    have hr := (if_neg c2).symm.trans hr
    refine lv_iload_n (pc := 13) hx hb d_QC_block_13 rfl (lv_at hl 2 rfl) ?_
    by_cases c3 : a2 = (0 : Int32)
    · have hk := hk.1 c3
      have hr := (if_pos c3).symm.trans hr
      refine lv_tableIn (pc := 14) (tgt := 48) (off := 34) hx hb d_QC_block_14 (by (rw [c3]) <;> decide) (by (rw [c3]) <;> decide) (by (rw [c3]) <;> rfl) (by decide) ?_
      refine lv_aload_n (pc := 48) hx hb d_QC_block_48 rfl (lv_at hl 0 rfl) ?_
      refine z_get (pc := 49) (v := .ref (ad (19, 0, 0))) hF hK.1 hW tq1 rfl rfl in_QC 1 (by decide) gw_345 rfl rfl d_QC_block_49 ?_
      refine lv_iload_n (pc := 52) hx hb d_QC_block_52 rfl (lv_at hl 1 rfl) ?_
      have o4 := hk.1
      have hk := hk.2
      obtain ⟨r5, er5⟩ : ∃ z : Int32, z = f_Blocks_viewOf a1 S := ⟨_, rfl⟩
      have hr := lt_e er5 hr
      refine z_goI (pc := 53) hW hA (congrArg (fun q => (q, S)) er5) (z_runV hF hK hW (c_Blocks_viewOf l D X ad ca a1 S o4 _) cd_Blocks_viewOf gw_456 tq19 rfl rfl ⟨Nat.le_of_ble_eq_true rfl, Nat.le_of_ble_eq_true rfl⟩ ⟨Nat.zero_le _, Nat.zero_le _⟩ rfl rfl hl.1 (Nat.le_of_ble_eq_true rfl) d_QC_block_53) (fun H locs (hW : Wd D clQ A s.heap (zw X ad TQ (cfQ ad ca) S) H locs) => ?_)
      exact z_iret (v := r5) hy hW (congrArg (fun z => (z, S)) hr.symm) d_QC_block_56
    · have hk := hk.2 c3
      have hr := (if_neg c3).symm.trans hr
      by_cases c6 : a2 = (1 : Int32)
      · have hk := hk.1 c6
        have hr := (if_pos c6).symm.trans hr
        refine lv_tableIn (pc := 14) (tgt := 57) (off := 43) hx hb d_QC_block_14 (by (rw [c6]) <;> decide) (by (rw [c6]) <;> decide) (by (rw [c6]) <;> rfl) (by decide) ?_
        refine lv_aload_n (pc := 57) hx hb d_QC_block_57 rfl (lv_at hl 0 rfl) ?_
        refine z_get (pc := 58) (v := .ref (ad (19, 0, 0))) hF hK.1 hW tq1 rfl rfl in_QC 1 (by decide) gw_345 rfl rfl d_QC_block_58 ?_
        refine lv_iload_n (pc := 61) hx hb d_QC_block_61 rfl (lv_at hl 1 rfl) ?_
        have o7 := hk.1
        have hk := hk.2
        obtain ⟨r8, er8⟩ : ∃ z : Int32, z = f_Blocks_parentOf a1 S := ⟨_, rfl⟩
        have hr := lt_e er8 hr
        refine z_goI (pc := 62) hW hA (congrArg (fun q => (q, S)) er8) (z_runV hF hK hW (c_Blocks_parentOf l D X ad ca a1 S o7 _) cd_Blocks_parentOf gw_461 tq19 rfl rfl ⟨Nat.le_of_ble_eq_true rfl, Nat.le_of_ble_eq_true rfl⟩ ⟨Nat.zero_le _, Nat.zero_le _⟩ rfl rfl hl.1 (Nat.le_of_ble_eq_true rfl) d_QC_block_62) (fun H locs (hW : Wd D clQ A s.heap (zw X ad TQ (cfQ ad ca) S) H locs) => ?_)
        exact z_iret (v := r8) hy hW (congrArg (fun z => (z, S)) hr.symm) d_QC_block_65
      · have hk := hk.2 c6
        have hr := (if_neg c6).symm.trans hr
        by_cases c9 : a2 = (2 : Int32)
        · have hk := hk.1 c9
          have hr := (if_pos c9).symm.trans hr
          refine lv_tableIn (pc := 14) (tgt := 66) (off := 52) hx hb d_QC_block_14 (by (rw [c9]) <;> decide) (by (rw [c9]) <;> decide) (by (rw [c9]) <;> rfl) (by decide) ?_
          refine lv_aload_n (pc := 66) hx hb d_QC_block_66 rfl (lv_at hl 0 rfl) ?_
          refine z_get (pc := 67) (v := .ref (ad (19, 0, 0))) hF hK.1 hW tq1 rfl rfl in_QC 1 (by decide) gw_345 rfl rfl d_QC_block_67 ?_
          refine lv_iload_n (pc := 70) hx hb d_QC_block_70 rfl (lv_at hl 1 rfl) ?_
          have o10 := hk.1
          have hk := hk.2
          obtain ⟨r11, er11⟩ : ∃ z : Int32, z = f_Blocks_transactionOf a1 S := ⟨_, rfl⟩
          have hr := lt_e er11 hr
          refine z_goI (pc := 71) hW hA (congrArg (fun q => (q, S)) er11) (z_runV hF hK hW (c_Blocks_transactionOf l D X ad ca a1 S o10 _) cd_Blocks_transactionOf gw_465 tq19 rfl rfl ⟨Nat.le_of_ble_eq_true rfl, Nat.le_of_ble_eq_true rfl⟩ ⟨Nat.zero_le _, Nat.zero_le _⟩ rfl rfl hl.1 (Nat.le_of_ble_eq_true rfl) d_QC_block_71) (fun H locs (hW : Wd D clQ A s.heap (zw X ad TQ (cfQ ad ca) S) H locs) => ?_)
          exact z_iret (v := r11) hy hW (congrArg (fun z => (z, S)) hr.symm) d_QC_block_74
        · have hk := hk.2 c9
          have hr := (if_neg c9).symm.trans hr
          by_cases c12 : a2 = (3 : Int32)
          · have hk := hk.1 c12
            have hr := (if_pos c12).symm.trans hr
            refine lv_tableIn (pc := 14) (tgt := 75) (off := 61) hx hb d_QC_block_14 (by (rw [c12]) <;> decide) (by (rw [c12]) <;> decide) (by (rw [c12]) <;> rfl) (by decide) ?_
            refine lv_aload_n (pc := 75) hx hb d_QC_block_75 rfl (lv_at hl 0 rfl) ?_
            refine z_get (pc := 76) (v := .ref (ad (19, 0, 0))) hF hK.1 hW tq1 rfl rfl in_QC 1 (by decide) gw_345 rfl rfl d_QC_block_76 ?_
            refine lv_iload_n (pc := 79) hx hb d_QC_block_79 rfl (lv_at hl 1 rfl) ?_
            have o13 := hk.1
            have hk := hk.2
            obtain ⟨r14, er14⟩ : ∃ z : Int32, z = f_Blocks_isCertified a1 S := ⟨_, rfl⟩
            have hr := lt_e er14 hr
            refine z_goI (pc := 80) hW hA (congrArg (fun q => (q, S)) er14) (z_runV hF hK hW (c_Blocks_isCertified l D X ad ca a1 S o13 _) cd_Blocks_isCertified gw_469 tq19 rfl rfl ⟨Nat.le_of_ble_eq_true rfl, Nat.le_of_ble_eq_true rfl⟩ ⟨Nat.zero_le _, Nat.zero_le _⟩ rfl rfl hl.1 (Nat.le_of_ble_eq_true rfl) d_QC_block_80) (fun H locs (hW : Wd D clQ A s.heap (zw X ad TQ (cfQ ad ca) S) H locs) => ?_)
            refine lv_if_eq (pc := 83) (tgt := 90) hx hb d_QC_block_83 (by decide) (fun c15 => ?_) (fun c15 => ?_)
            · have hr := (if_pos c15).symm.trans hr
              refine lv_iconst (pc := 90) (v := 0) hx hb d_QC_block_90 (by decide) ?_
              exact z_iret (v := (0 : Int32)) hy hW (congrArg (fun z => (z, S)) hr.symm) d_QC_block_91
            · have hr := (if_neg c15).symm.trans hr
              refine lv_iconst (pc := 86) (v := 1) hx hb d_QC_block_86 (by decide) ?_
              refine lv_goto (pc := 87) (tgt := 91) hx hb d_QC_block_87 (by decide) ?_
              exact z_iret (v := (1 : Int32)) hy hW (congrArg (fun z => (z, S)) hr.symm) d_QC_block_91
          · have hk := hk.2 c12
            have hr := (if_neg c12).symm.trans hr
            by_cases c16 : a2 = (4 : Int32)
            · have hk := hk.1 c16
              have hr := (if_pos c16).symm.trans hr
              refine lv_tableIn (pc := 14) (tgt := 92) (off := 78) hx hb d_QC_block_14 (by (rw [c16]) <;> decide) (by (rw [c16]) <;> decide) (by (rw [c16]) <;> rfl) (by decide) ?_
              refine lv_aload_n (pc := 92) hx hb d_QC_block_92 rfl (lv_at hl 0 rfl) ?_
              refine lv_iload_n (pc := 93) hx hb d_QC_block_93 rfl (lv_at hl 1 rfl) ?_
              have o17 := hk.1
              have hk := hk.2
              obtain ⟨r18, er18⟩ : ∃ z : Int32, z = f_QC_nodesThatHave a1 S := ⟨_, rfl⟩
              have hr := lt_e er18 hr
              refine z_goI (pc := 94) hW hA (congrArg (fun q => (q, S)) er18) (z_runV hF hK hW (c_QC_nodesThatHave l D X ad ca a1 S o17 _) cd_QC_nodesThatHave gw_473 tq1 rfl rfl ⟨Nat.le_of_ble_eq_true rfl, Nat.le_of_ble_eq_true rfl⟩ ⟨Nat.zero_le _, Nat.zero_le _⟩ rfl rfl hl.1 (Nat.le_of_ble_eq_true rfl) d_QC_block_94) (fun H locs (hW : Wd D clQ A s.heap (zw X ad TQ (cfQ ad ca) S) H locs) => ?_)
              exact z_iret (v := r18) hy hW (congrArg (fun z => (z, S)) hr.symm) d_QC_block_97
            · have hk := hk.2 c16
              have hr := (if_neg c16).symm.trans hr
              have ho : a2.toInt < (0 : Int) ∨ (4 : Int) < a2.toInt := z_swl (0) (4) (fun k h1 h2 => by
                rcases (show k = 0 ∨ k = 1 ∨ k = 2 ∨ k = 3 ∨ k = 4 by omega) with rfl | rfl | rfl | rfl | rfl
                · exact lv_neT c3 (by decide)
                · exact lv_neT c6 (by decide)
                · exact lv_neT c9 (by decide)
                · exact lv_neT c12 (by decide)
                · exact lv_neT c16 (by decide))
              refine lv_tableOut (pc := 14) (tgt := 98) hx hb d_QC_block_14 ho (by decide) ?_
              refine lv_iconst (pc := 98) (v := -1) hx hb d_QC_block_98 (by decide) ?_
              exact z_iret (v := (-1 : Int32)) hy hW (congrArg (fun z => (z, S)) hr.symm) d_QC_block_99
  · have hk := hk.1 c2
    have hr := (if_pos c2).symm.trans hr
    refine lv_iconst (pc := 11) (v := -1) hx hb d_QC_block_11 (by decide) ?_
    exact z_iret (v := (-1 : Int32)) hy hW (congrArg (fun z => (z, S)) hr.symm) d_QC_block_12
theorem d_QC_message_0 : decode b_QC_message 0 = .ok (.iload_n 1, 1) := by decide +kernel
theorem d_QC_message_1 : decode b_QC_message 1 = .ok (.invokestatic 68, 3) := by decide +kernel
theorem d_QC_message_4 : decode b_QC_message 4 = .ok (.ifCond .eq 23, 3) := by decide +kernel
theorem d_QC_message_7 : decode b_QC_message 7 = .ok (.iload_n 2, 1) := by decide +kernel
theorem d_QC_message_8 : decode b_QC_message 8 = .ok (.ifCond .lt 19, 3) := by decide +kernel
theorem d_QC_message_11 : decode b_QC_message 11 = .ok (.iload_n 2, 1) := by decide +kernel
theorem d_QC_message_12 : decode b_QC_message 12 = .ok (.aload_n 0, 1) := by decide +kernel
theorem d_QC_message_13 : decode b_QC_message 13 = .ok (.getfield 11, 3) := by decide +kernel
theorem d_QC_message_16 : decode b_QC_message 16 = .ok (.iload_n 1, 1) := by decide +kernel
theorem d_QC_message_17 : decode b_QC_message 17 = .ok (.aaload, 1) := by decide +kernel
theorem d_QC_message_18 : decode b_QC_message 18 = .ok (.getfield 99, 3) := by decide +kernel
theorem d_QC_message_21 : decode b_QC_message 21 = .ok (.getfield 103, 3) := by decide +kernel
theorem d_QC_message_24 : decode b_QC_message 24 = .ok (.if_icmp .lt 5, 3) := by decide +kernel
theorem d_QC_message_27 : decode b_QC_message 27 = .ok (.iconst (-1), 1) := by decide +kernel
theorem d_QC_message_28 : decode b_QC_message 28 = .ok (.ireturn, 1) := by decide +kernel
theorem d_QC_message_29 : decode b_QC_message 29 = .ok (.aload_n 0, 1) := by decide +kernel
theorem d_QC_message_30 : decode b_QC_message 30 = .ok (.getfield 11, 3) := by decide +kernel
theorem d_QC_message_33 : decode b_QC_message 33 = .ok (.iload_n 1, 1) := by decide +kernel
theorem d_QC_message_34 : decode b_QC_message 34 = .ok (.aaload, 1) := by decide +kernel
theorem d_QC_message_35 : decode b_QC_message 35 = .ok (.getfield 99, 3) := by decide +kernel
theorem d_QC_message_38 : decode b_QC_message 38 = .ok (.getfield 294, 3) := by decide +kernel
theorem d_QC_message_41 : decode b_QC_message 41 = .ok (.iload_n 2, 1) := by decide +kernel
theorem d_QC_message_42 : decode b_QC_message 42 = .ok (.aaload, 1) := by decide +kernel
theorem d_QC_message_43 : decode b_QC_message 43 = .ok (.astore 4, 2) := by decide +kernel
theorem d_QC_message_45 : decode b_QC_message 45 = .ok (.iload_n 3, 1) := by decide +kernel
theorem d_QC_message_46 : decode b_QC_message 46 = .ok (.tableswitch 64 0 4 #[34, 40, 46, 52, 58], 34) := by decide +kernel
theorem d_QC_message_80 : decode b_QC_message 80 = .ok (.aload 4, 2) := by decide +kernel
theorem d_QC_message_82 : decode b_QC_message 82 = .ok (.getfield 123, 3) := by decide +kernel
theorem d_QC_message_85 : decode b_QC_message 85 = .ok (.ireturn, 1) := by decide +kernel
theorem d_QC_message_86 : decode b_QC_message 86 = .ok (.aload 4, 2) := by decide +kernel
theorem d_QC_message_88 : decode b_QC_message 88 = .ok (.getfield 126, 3) := by decide +kernel
theorem d_QC_message_91 : decode b_QC_message 91 = .ok (.ireturn, 1) := by decide +kernel
theorem d_QC_message_92 : decode b_QC_message 92 = .ok (.aload 4, 2) := by decide +kernel
theorem d_QC_message_94 : decode b_QC_message 94 = .ok (.getfield 129, 3) := by decide +kernel
theorem d_QC_message_97 : decode b_QC_message 97 = .ok (.ireturn, 1) := by decide +kernel
theorem d_QC_message_98 : decode b_QC_message 98 = .ok (.aload 4, 2) := by decide +kernel
theorem d_QC_message_100 : decode b_QC_message 100 = .ok (.getfield 139, 3) := by decide +kernel
theorem d_QC_message_103 : decode b_QC_message 103 = .ok (.ireturn, 1) := by decide +kernel
theorem d_QC_message_104 : decode b_QC_message 104 = .ok (.aload 4, 2) := by decide +kernel
theorem d_QC_message_106 : decode b_QC_message 106 = .ok (.getfield 161, 3) := by decide +kernel
theorem d_QC_message_109 : decode b_QC_message 109 = .ok (.ireturn, 1) := by decide +kernel
theorem d_QC_message_110 : decode b_QC_message 110 = .ok (.iconst (-1), 1) := by decide +kernel
theorem d_QC_message_111 : decode b_QC_message 111 = .ok (.ireturn, 1) := by decide +kernel
def f_QC_message (a1 : Int32) (a2 : Int32) (a3 : Int32) (S : St) : Int32 :=
  lt (f_QC_isNode a1 S) fun (r1 : Int32) =>
  if r1 = 0 then
    (-1 : Int32)
  else
    if a2 < 0 then
      (-1 : Int32)
    else
      if a2 < (S.1 12 (a1.toNatClampNeg) 0 1) then
        if a3 = (0 : Int32) then
          S.1 14 (a1.toNatClampNeg) (S.2.2 13 (a1.toNatClampNeg) 0 (a2.toNatClampNeg)) 1
        else
          if a3 = (1 : Int32) then
            S.1 14 (a1.toNatClampNeg) (S.2.2 13 (a1.toNatClampNeg) 0 (a2.toNatClampNeg)) 2
          else
            if a3 = (2 : Int32) then
              S.1 14 (a1.toNatClampNeg) (S.2.2 13 (a1.toNatClampNeg) 0 (a2.toNatClampNeg)) 3
            else
              if a3 = (3 : Int32) then
                S.1 14 (a1.toNatClampNeg) (S.2.2 13 (a1.toNatClampNeg) 0 (a2.toNatClampNeg)) 4
              else
                if a3 = (4 : Int32) then
                  S.1 14 (a1.toNatClampNeg) (S.2.2 13 (a1.toNatClampNeg) 0 (a2.toNatClampNeg)) 5
                else
                  (-1 : Int32)
      else
        (-1 : Int32)
def ok_QC_message (a1 : Int32) (a2 : Int32) (a3 : Int32) (S : St) : Prop :=
  lt (f_QC_isNode a1 S) fun (r1 : Int32) =>
  (r1 = 0 → (
    True)) ∧ (¬ (r1 = 0) → (
    (a2 < 0 → (
      True)) ∧ (¬ (a2 < 0) → (
      (vp_in a1 4) ∧ (
        (a2 < (S.1 12 (a1.toNatClampNeg) 0 1) → (
          (vp_in a1 4) ∧ (
            (vp_in a2 16) ∧ (
              ((S.2.2 13 (a1.toNatClampNeg) 0 (a2.toNatClampNeg)) < 16) ∧ (
                True))))) ∧ (¬ (a2 < (S.1 12 (a1.toNatClampNeg) 0 1)) → (
          True)))))))
set_option maxHeartbeats 4000000 in
set_option maxRecDepth 100000 in
theorem c_QC_message (l : Launch) (D : va_G) (X : va_W) (ad : N3 → Nat) (ca : Nat → ClassId) (a1 : Int32) (a2 : Int32) (a3 : Int32)  (S : St) (hk : ok_QC_message a1 a2 a3 S) : cI l GG D clQ (tysQ ca) nwQ X ad TQ (cfQ ad ca) y_QC_message b_QC_message 5 .int 1 20 [.ref (ad (1, 0, 0)), .int a1, .int a2, .int a3] S ((f_QC_message a1 a2 a3 S), S) := by
  generalize hr : f_QC_message a1 a2 a3 S = res
  refine zI_of pn_QC (Nat.le_of_ble_eq_true rfl) (fun p e s m below meth c A ls hy hW hA hl => ?_)
  have hF := hy.1
  have hx := hF.1
  have hb := hF.2.1
  have hK := hy.2.2.2
  have hl : lv_has ls 5 [(0, .ref (ad (1, 0, 0))), (1, .int a1), (2, .int a2), (3, .int a3)] := hl
  refine lv_iload_n (pc := 0) hx hb d_QC_message_0 rfl (lv_at hl 1 rfl) ?_
  obtain ⟨r1, er1⟩ : ∃ z : Int32, z = f_QC_isNode a1 S := ⟨_, rfl⟩
  have hk := lt_p er1 hk
  have hr := lt_e er1 hr
  refine z_goI (pc := 1) hW hA (congrArg (fun q => (q, S)) er1) (z_runS hF hK hW (c_QC_isNode l D X ad ca a1 S _) cd_QC_isNode gw_430 ⟨Nat.le_of_ble_eq_true rfl, Nat.le_of_ble_eq_true rfl⟩ ⟨Nat.zero_le _, Nat.zero_le _⟩ rfl rfl hl.1 (Nat.le_of_ble_eq_true rfl) d_QC_message_1) (fun H locs (hW : Wd D clQ A s.heap (zw X ad TQ (cfQ ad ca) S) H locs) => ?_)
  refine lv_if_eq (pc := 4) (tgt := 27) hx hb d_QC_message_4 (by decide) (fun c2 => ?_) (fun c2 => ?_)
  · have hk := hk.1 c2
    have hr := (if_pos c2).symm.trans hr
    refine lv_iconst (pc := 27) (v := -1) hx hb d_QC_message_27 (by decide) ?_
    exact z_iret (v := (-1 : Int32)) hy hW (congrArg (fun z => (z, S)) hr.symm) d_QC_message_28
  · have hk := hk.2 c2
    have hr := (if_neg c2).symm.trans hr
    refine lv_iload_n (pc := 7) hx hb d_QC_message_7 rfl (lv_at hl 2 rfl) ?_
    refine lv_if_lt (pc := 8) (tgt := 27) hx hb d_QC_message_8 (by decide) (fun c3 => ?_) (fun c3 => ?_)
    · have hk := hk.1 c3
      have hr := (if_pos c3).symm.trans hr
      refine lv_iconst (pc := 27) (v := -1) hx hb d_QC_message_27 (by decide) ?_
      exact z_iret (v := (-1 : Int32)) hy hW (congrArg (fun z => (z, S)) hr.symm) d_QC_message_28
    · have hk := hk.2 c3
      have hr := (if_neg c3).symm.trans hr
      refine lv_iload_n (pc := 11) hx hb d_QC_message_11 rfl (lv_at hl 2 rfl) ?_
      refine lv_aload_n (pc := 12) hx hb d_QC_message_12 rfl (lv_at hl 0 rfl) ?_
      refine z_get (pc := 13) (v := .ref (ad (2, 0, 0))) hF hK.1 hW tq1 rfl rfl in_QC 0 (by decide) gw_344 rfl rfl d_QC_message_13 ?_
      refine lv_iload_n (pc := 16) hx hb d_QC_message_16 rfl (lv_at hl 1 rfl) ?_
      have b4 := hk.1
      have hk := hk.2
      refine z_aald (pc := 17) (q := ad (3, (a1.toNatClampNeg), 0)) hF hK.1 hW tq2 3 rfl rfl b4 rfl d_QC_message_17 ?_
      refine z_get (pc := 18) (v := .ref (ad (12, (a1.toNatClampNeg), 0))) hF hK.1 hW (tq3 (vin4 b4)) rfl rfl in_Node 2 (by decide) gw_300 rfl rfl d_QC_message_18 ?_
      refine z_get (pc := 21) (v := .int (S.1 12 (a1.toNatClampNeg) 0 1)) hF hK.1 hW (tq12 (vin4 b4)) rfl rfl in_Inbox 1 (by decide) gw_182 rfl rfl d_QC_message_21 ?_
      refine lv_icmp_lt (pc := 24) (tgt := 29) hx hb d_QC_message_24 (by decide) (fun c5 => ?_) (fun c5 => ?_)
      · have hk := hk.1 c5
        have hr := (if_pos c5).symm.trans hr
        refine lv_aload_n (pc := 29) hx hb d_QC_message_29 rfl (lv_at hl 0 rfl) ?_
        refine z_get (pc := 30) (v := .ref (ad (2, 0, 0))) hF hK.1 hW tq1 rfl rfl in_QC 0 (by decide) gw_344 rfl rfl d_QC_message_30 ?_
        refine lv_iload_n (pc := 33) hx hb d_QC_message_33 rfl (lv_at hl 1 rfl) ?_
        have b6 := hk.1
        have hk := hk.2
        refine z_aald (pc := 34) (q := ad (3, (a1.toNatClampNeg), 0)) hF hK.1 hW tq2 3 rfl rfl b6 rfl d_QC_message_34 ?_
        refine z_get (pc := 35) (v := .ref (ad (12, (a1.toNatClampNeg), 0))) hF hK.1 hW (tq3 (vin4 b6)) rfl rfl in_Node 2 (by decide) gw_300 rfl rfl d_QC_message_35 ?_
        refine z_get (pc := 38) (v := .ref (ad (13, (a1.toNatClampNeg), 0))) hF hK.1 hW (tq12 (vin4 b6)) rfl rfl in_Inbox 0 (by decide) gw_179 rfl rfl d_QC_message_38 ?_
        refine lv_iload_n (pc := 41) hx hb d_QC_message_41 rfl (lv_at hl 2 rfl) ?_
        have b7 := hk.1
        have hk := hk.2
        have b8 := hk.1
        have hk := hk.2
        refine z_aald (pc := 42) (q := ad (14, (a1.toNatClampNeg), (S.2.2 13 (a1.toNatClampNeg) 0 (a2.toNatClampNeg)))) hF hK.1 hW (tq13 (vin4 b6)) 4 rfl rfl b7 rfl d_QC_message_42 ?_
        refine lv_astore (pc := 43) (lv' := [(4, .ref (ad (14, (a1.toNatClampNeg), (S.2.2 13 (a1.toNatClampNeg) 0 (a2.toNatClampNeg))))), (0, .ref (ad (1, 0, 0))), (1, .int a1), (2, .int a2), (3, .int a3)]) hx hb d_QC_message_43 hl (by decide) rfl (fun ls hl => ?_)
        refine lv_iload_n (pc := 45) hx hb d_QC_message_45 rfl (lv_at hl 4 rfl) ?_
        by_cases c9 : a3 = (0 : Int32)
        · have hr := (if_pos c9).symm.trans hr
          refine lv_tableIn (pc := 46) (tgt := 80) (off := 34) hx hb d_QC_message_46 (by (rw [c9]) <;> decide) (by (rw [c9]) <;> decide) (by (rw [c9]) <;> rfl) (by decide) ?_
          refine lv_aload (pc := 80) hx hb d_QC_message_80 (lv_at hl 0 rfl) ?_
          refine z_get (pc := 82) (v := .int (S.1 14 (a1.toNatClampNeg) (S.2.2 13 (a1.toNatClampNeg) 0 (a2.toNatClampNeg)) 1)) hF hK.1 hW (tq14 (Or.inl ⟨(vin4 b6), b8⟩)) rfl rfl in_Message 1 (by decide) gw_140 rfl rfl d_QC_message_82 ?_
          exact z_iret (v := S.1 14 (a1.toNatClampNeg) (S.2.2 13 (a1.toNatClampNeg) 0 (a2.toNatClampNeg)) 1) hy hW (congrArg (fun z => (z, S)) hr.symm) d_QC_message_85
        · have hr := (if_neg c9).symm.trans hr
          by_cases c10 : a3 = (1 : Int32)
          · have hr := (if_pos c10).symm.trans hr
            refine lv_tableIn (pc := 46) (tgt := 86) (off := 40) hx hb d_QC_message_46 (by (rw [c10]) <;> decide) (by (rw [c10]) <;> decide) (by (rw [c10]) <;> rfl) (by decide) ?_
            refine lv_aload (pc := 86) hx hb d_QC_message_86 (lv_at hl 0 rfl) ?_
            refine z_get (pc := 88) (v := .int (S.1 14 (a1.toNatClampNeg) (S.2.2 13 (a1.toNatClampNeg) 0 (a2.toNatClampNeg)) 2)) hF hK.1 hW (tq14 (Or.inl ⟨(vin4 b6), b8⟩)) rfl rfl in_Message 2 (by decide) gw_142 rfl rfl d_QC_message_88 ?_
            exact z_iret (v := S.1 14 (a1.toNatClampNeg) (S.2.2 13 (a1.toNatClampNeg) 0 (a2.toNatClampNeg)) 2) hy hW (congrArg (fun z => (z, S)) hr.symm) d_QC_message_91
          · have hr := (if_neg c10).symm.trans hr
            by_cases c11 : a3 = (2 : Int32)
            · have hr := (if_pos c11).symm.trans hr
              refine lv_tableIn (pc := 46) (tgt := 92) (off := 46) hx hb d_QC_message_46 (by (rw [c11]) <;> decide) (by (rw [c11]) <;> decide) (by (rw [c11]) <;> rfl) (by decide) ?_
              refine lv_aload (pc := 92) hx hb d_QC_message_92 (lv_at hl 0 rfl) ?_
              refine z_get (pc := 94) (v := .int (S.1 14 (a1.toNatClampNeg) (S.2.2 13 (a1.toNatClampNeg) 0 (a2.toNatClampNeg)) 3)) hF hK.1 hW (tq14 (Or.inl ⟨(vin4 b6), b8⟩)) rfl rfl in_Message 3 (by decide) gw_144 rfl rfl d_QC_message_94 ?_
              exact z_iret (v := S.1 14 (a1.toNatClampNeg) (S.2.2 13 (a1.toNatClampNeg) 0 (a2.toNatClampNeg)) 3) hy hW (congrArg (fun z => (z, S)) hr.symm) d_QC_message_97
            · have hr := (if_neg c11).symm.trans hr
              by_cases c12 : a3 = (3 : Int32)
              · have hr := (if_pos c12).symm.trans hr
                refine lv_tableIn (pc := 46) (tgt := 98) (off := 52) hx hb d_QC_message_46 (by (rw [c12]) <;> decide) (by (rw [c12]) <;> decide) (by (rw [c12]) <;> rfl) (by decide) ?_
                refine lv_aload (pc := 98) hx hb d_QC_message_98 (lv_at hl 0 rfl) ?_
                refine z_get (pc := 100) (v := .int (S.1 14 (a1.toNatClampNeg) (S.2.2 13 (a1.toNatClampNeg) 0 (a2.toNatClampNeg)) 4)) hF hK.1 hW (tq14 (Or.inl ⟨(vin4 b6), b8⟩)) rfl rfl in_Message 4 (by decide) gw_146 rfl rfl d_QC_message_100 ?_
                exact z_iret (v := S.1 14 (a1.toNatClampNeg) (S.2.2 13 (a1.toNatClampNeg) 0 (a2.toNatClampNeg)) 4) hy hW (congrArg (fun z => (z, S)) hr.symm) d_QC_message_103
              · have hr := (if_neg c12).symm.trans hr
                by_cases c13 : a3 = (4 : Int32)
                · have hr := (if_pos c13).symm.trans hr
                  refine lv_tableIn (pc := 46) (tgt := 104) (off := 58) hx hb d_QC_message_46 (by (rw [c13]) <;> decide) (by (rw [c13]) <;> decide) (by (rw [c13]) <;> rfl) (by decide) ?_
                  refine lv_aload (pc := 104) hx hb d_QC_message_104 (lv_at hl 0 rfl) ?_
                  refine z_get (pc := 106) (v := .int (S.1 14 (a1.toNatClampNeg) (S.2.2 13 (a1.toNatClampNeg) 0 (a2.toNatClampNeg)) 5)) hF hK.1 hW (tq14 (Or.inl ⟨(vin4 b6), b8⟩)) rfl rfl in_Message 5 (by decide) gw_149 rfl rfl d_QC_message_106 ?_
                  exact z_iret (v := S.1 14 (a1.toNatClampNeg) (S.2.2 13 (a1.toNatClampNeg) 0 (a2.toNatClampNeg)) 5) hy hW (congrArg (fun z => (z, S)) hr.symm) d_QC_message_109
                · have hr := (if_neg c13).symm.trans hr
                  have ho : a3.toInt < (0 : Int) ∨ (4 : Int) < a3.toInt := z_swl (0) (4) (fun k h1 h2 => by
                    rcases (show k = 0 ∨ k = 1 ∨ k = 2 ∨ k = 3 ∨ k = 4 by omega) with rfl | rfl | rfl | rfl | rfl
                    · exact lv_neT c9 (by decide)
                    · exact lv_neT c10 (by decide)
                    · exact lv_neT c11 (by decide)
                    · exact lv_neT c12 (by decide)
                    · exact lv_neT c13 (by decide))
                  refine lv_tableOut (pc := 46) (tgt := 110) hx hb d_QC_message_46 ho (by decide) ?_
                  refine lv_iconst (pc := 110) (v := -1) hx hb d_QC_message_110 (by decide) ?_
                  exact z_iret (v := (-1 : Int32)) hy hW (congrArg (fun z => (z, S)) hr.symm) d_QC_message_111
      · have hk := hk.2 c5
        have hr := (if_neg c5).symm.trans hr
        refine lv_iconst (pc := 27) (v := -1) hx hb d_QC_message_27 (by decide) ?_
        exact z_iret (v := (-1 : Int32)) hy hW (congrArg (fun z => (z, S)) hr.symm) d_QC_message_28
end
section
theorem d_KeyTree_top_0 : decode b_KeyTree_top 0 = .ok (.aload_n 0, 1) := by decide +kernel
theorem d_KeyTree_top_1 : decode b_KeyTree_top 1 = .ok (.getfield 9, 3) := by decide +kernel
theorem d_KeyTree_top_4 : decode b_KeyTree_top 4 = .ok (.iconst 1, 1) := by decide +kernel
theorem d_KeyTree_top_5 : decode b_KeyTree_top 5 = .ok (.laload, 1) := by decide +kernel
theorem d_KeyTree_top_6 : decode b_KeyTree_top 6 = .ok (.lreturn, 1) := by decide +kernel
def f_KeyTree_top (i0 : Nat) (S : St) : Int64 :=
  S.2.1 11 i0 0 1
set_option maxHeartbeats 4000000 in
set_option maxRecDepth 100000 in
theorem c_KeyTree_top (l : Launch) (D : va_G) (X : va_W) (ad : N3 → Nat) (ca : Nat → ClassId) (i0 : Nat) (h0 : i0 < 4) (S : St) : cL l GG D clQ (tysQ ca) nwQ X ad TQ (cfQ ad ca) y_KeyTree_top b_KeyTree_top 1 .long 0 0 [.ref (ad (10, i0, 0))] S ((f_KeyTree_top i0 S), S) := by
  generalize hr : f_KeyTree_top i0 S = res
  refine zL_of pn_KeyTree (Nat.le_of_ble_eq_true rfl) (fun p e s m below meth c A ls hy hW hA hl => ?_)
  have hF := hy.1
  have hx := hF.1
  have hb := hF.2.1
  have hK := hy.2.2.2
  have hl : lv_has ls 1 [(0, .ref (ad (10, i0, 0)))] := hl
  refine lv_aload_n (pc := 0) hx hb d_KeyTree_top_0 rfl (lv_at hl 0 rfl) ?_
  refine z_get (pc := 1) (v := .ref (ad (11, i0, 0))) hF hK.1 hW (tq10 h0) rfl rfl in_KeyTree 0 (by decide) gw_250 rfl rfl d_KeyTree_top_1 ?_
  refine lv_iconst (pc := 4) (v := 1) hx hb d_KeyTree_top_4 (by decide) ?_
  have b1 : vp_in (1 : Int32) 64 := by unfold vp_in; decide
  refine z_lald (pc := 5) (v := S.2.1 11 i0 0 1) hF hK.1 hW (tq11 h0) 1 rfl rfl b1 rfl d_KeyTree_top_5 ?_
  exact z_lret (v := S.2.1 11 i0 0 1) hy hW (congrArg (fun z => (z, S)) hr.symm) d_KeyTree_top_6
theorem d_QC_root_0 : decode b_QC_root 0 = .ok (.iload_n 1, 1) := by decide +kernel
theorem d_QC_root_1 : decode b_QC_root 1 = .ok (.invokestatic 68, 3) := by decide +kernel
theorem d_QC_root_4 : decode b_QC_root 4 = .ok (.ifCond .eq 21, 3) := by decide +kernel
theorem d_QC_root_7 : decode b_QC_root 7 = .ok (.aload_n 0, 1) := by decide +kernel
theorem d_QC_root_8 : decode b_QC_root 8 = .ok (.getfield 11, 3) := by decide +kernel
theorem d_QC_root_11 : decode b_QC_root 11 = .ok (.iload_n 1, 1) := by decide +kernel
theorem d_QC_root_12 : decode b_QC_root 12 = .ok (.aaload, 1) := by decide +kernel
theorem d_QC_root_13 : decode b_QC_root 13 = .ok (.getfield 179, 3) := by decide +kernel
theorem d_QC_root_16 : decode b_QC_root 16 = .ok (.getfield 183, 3) := by decide +kernel
theorem d_QC_root_19 : decode b_QC_root 19 = .ok (.invokevirtual 298, 3) := by decide +kernel
theorem d_QC_root_22 : decode b_QC_root 22 = .ok (.goto 4, 3) := by decide +kernel
theorem d_QC_root_25 : decode b_QC_root 25 = .ok (.lconst 0, 1) := by decide +kernel
theorem d_QC_root_26 : decode b_QC_root 26 = .ok (.lreturn, 1) := by decide +kernel
def f_QC_root (a1 : Int32) (S : St) : Int64 :=
  lt (f_QC_isNode a1 S) fun (r1 : Int32) =>
  if r1 = 0 then
    (0 : Int64)
  else
    lt (f_KeyTree_top (a1.toNatClampNeg) S) fun (r4 : Int64) =>
    r4
def ok_QC_root (a1 : Int32) (S : St) : Prop :=
  lt (f_QC_isNode a1 S) fun (r1 : Int32) =>
  (r1 = 0 → (
    True)) ∧ (¬ (r1 = 0) → (
    (vp_in a1 4) ∧ (
      True)))
set_option maxHeartbeats 4000000 in
set_option maxRecDepth 100000 in
theorem c_QC_root (l : Launch) (D : va_G) (X : va_W) (ad : N3 → Nat) (ca : Nat → ClassId) (a1 : Int32)  (S : St) (hk : ok_QC_root a1 S) : cL l GG D clQ (tysQ ca) nwQ X ad TQ (cfQ ad ca) y_QC_root b_QC_root 2 .long 1 20 [.ref (ad (1, 0, 0)), .int a1] S ((f_QC_root a1 S), S) := by
  generalize hr : f_QC_root a1 S = res
  refine zL_of pn_QC (Nat.le_of_ble_eq_true rfl) (fun p e s m below meth c A ls hy hW hA hl => ?_)
  have hF := hy.1
  have hx := hF.1
  have hb := hF.2.1
  have hK := hy.2.2.2
  have hl : lv_has ls 2 [(0, .ref (ad (1, 0, 0))), (1, .int a1)] := hl
  refine lv_iload_n (pc := 0) hx hb d_QC_root_0 rfl (lv_at hl 1 rfl) ?_
  obtain ⟨r1, er1⟩ : ∃ z : Int32, z = f_QC_isNode a1 S := ⟨_, rfl⟩
  have hk := lt_p er1 hk
  have hr := lt_e er1 hr
  refine z_goI (pc := 1) hW hA (congrArg (fun q => (q, S)) er1) (z_runS hF hK hW (c_QC_isNode l D X ad ca a1 S _) cd_QC_isNode gw_430 ⟨Nat.le_of_ble_eq_true rfl, Nat.le_of_ble_eq_true rfl⟩ ⟨Nat.zero_le _, Nat.zero_le _⟩ rfl rfl hl.1 (Nat.le_of_ble_eq_true rfl) d_QC_root_1) (fun H locs (hW : Wd D clQ A s.heap (zw X ad TQ (cfQ ad ca) S) H locs) => ?_)
  refine lv_if_eq (pc := 4) (tgt := 25) hx hb d_QC_root_4 (by decide) (fun c2 => ?_) (fun c2 => ?_)
  · have hk := hk.1 c2
    have hr := (if_pos c2).symm.trans hr
    refine lv_lconst (pc := 25) (v := 0) hx hb d_QC_root_25 (by decide) ?_
    exact z_lret (v := (0 : Int64)) hy hW (congrArg (fun z => (z, S)) hr.symm) d_QC_root_26
  · have hk := hk.2 c2
    have hr := (if_neg c2).symm.trans hr
    refine lv_aload_n (pc := 7) hx hb d_QC_root_7 rfl (lv_at hl 0 rfl) ?_
    refine z_get (pc := 8) (v := .ref (ad (2, 0, 0))) hF hK.1 hW tq1 rfl rfl in_QC 0 (by decide) gw_344 rfl rfl d_QC_root_8 ?_
    refine lv_iload_n (pc := 11) hx hb d_QC_root_11 rfl (lv_at hl 1 rfl) ?_
    have b3 := hk.1
    have hk := hk.2
    refine z_aald (pc := 12) (q := ad (3, (a1.toNatClampNeg), 0)) hF hK.1 hW tq2 3 rfl rfl b3 rfl d_QC_root_12 ?_
    refine z_get (pc := 13) (v := .ref (ad (4, (a1.toNatClampNeg), 0))) hF hK.1 hW (tq3 (vin4 b3)) rfl rfl in_Node 1 (by decide) gw_298 rfl rfl d_QC_root_13 ?_
    refine z_get (pc := 16) (v := .ref (ad (10, (a1.toNatClampNeg), 0))) hF hK.1 hW (tq4 (vin4 b3)) rfl rfl in_Store 3 (by decide) gw_270 rfl rfl d_QC_root_16 ?_
    obtain ⟨r4, er4⟩ : ∃ z : Int64, z = f_KeyTree_top (a1.toNatClampNeg) S := ⟨_, rfl⟩
    have hr := lt_e er4 hr
    refine z_goL (pc := 19) hW hA (congrArg (fun q => (q, S)) er4) (z_runV hF hK hW (c_KeyTree_top l D X ad ca (a1.toNatClampNeg) (vin4 b3) S _) cd_KeyTree_top gw_489 (tq10 (vin4 b3)) rfl rfl ⟨Nat.le_of_ble_eq_true rfl, Nat.le_of_ble_eq_true rfl⟩ ⟨Nat.zero_le _, Nat.zero_le _⟩ rfl rfl hl.1 (Nat.le_of_ble_eq_true rfl) d_QC_root_19) (fun H locs (hW : Wd D clQ A s.heap (zw X ad TQ (cfQ ad ca) S) H locs) => ?_)
    refine lv_goto (pc := 22) (tgt := 26) hx hb d_QC_root_22 (by decide) ?_
    exact z_lret (v := r4) hy hW (congrArg (fun z => (z, S)) hr.symm) d_QC_root_26
theorem d_QC_about_0 : decode b_QC_about 0 = .ok (.iload_n 1, 1) := by decide +kernel
theorem d_QC_about_1 : decode b_QC_about 1 = .ok (.tableswitch 48 0 2 #[27, 32, 40], 27) := by decide +kernel
theorem d_QC_about_28 : decode b_QC_about 28 = .ok (.aload_n 0, 1) := by decide +kernel
theorem d_QC_about_29 : decode b_QC_about 29 = .ok (.getfield 224, 3) := by decide +kernel
theorem d_QC_about_32 : decode b_QC_about 32 = .ok (.ireturn, 1) := by decide +kernel
theorem d_QC_about_33 : decode b_QC_about 33 = .ok (.aload_n 0, 1) := by decide +kernel
theorem d_QC_about_34 : decode b_QC_about 34 = .ok (.getfield 18, 3) := by decide +kernel
theorem d_QC_about_37 : decode b_QC_about 37 = .ok (.getfield 206, 3) := by decide +kernel
theorem d_QC_about_40 : decode b_QC_about 40 = .ok (.ireturn, 1) := by decide +kernel
theorem d_QC_about_41 : decode b_QC_about 41 = .ok (.aload_n 0, 1) := by decide +kernel
theorem d_QC_about_42 : decode b_QC_about 42 = .ok (.getfield 25, 3) := by decide +kernel
theorem d_QC_about_45 : decode b_QC_about 45 = .ok (.getfield 55, 3) := by decide +kernel
theorem d_QC_about_48 : decode b_QC_about 48 = .ok (.ireturn, 1) := by decide +kernel
theorem d_QC_about_49 : decode b_QC_about 49 = .ok (.iconst (-1), 1) := by decide +kernel
theorem d_QC_about_50 : decode b_QC_about 50 = .ok (.ireturn, 1) := by decide +kernel
def f_QC_about (a1 : Int32) (S : St) : Int32 :=
  if a1 = (0 : Int32) then
    S.1 1 0 0 5
  else
    if a1 = (1 : Int32) then
      S.1 19 0 0 4
    else
      if a1 = (2 : Int32) then
        S.1 24 0 0 4
      else
        (-1 : Int32)
set_option maxHeartbeats 4000000 in
set_option maxRecDepth 100000 in
theorem c_QC_about (l : Launch) (D : va_G) (X : va_W) (ad : N3 → Nat) (ca : Nat → ClassId) (a1 : Int32)  (S : St) : cI l GG D clQ (tysQ ca) nwQ X ad TQ (cfQ ad ca) y_QC_about b_QC_about 2 .int 0 0 [.ref (ad (1, 0, 0)), .int a1] S ((f_QC_about a1 S), S) := by
  generalize hr : f_QC_about a1 S = res
  refine zI_of pn_QC (Nat.le_of_ble_eq_true rfl) (fun p e s m below meth c A ls hy hW hA hl => ?_)
  have hF := hy.1
  have hx := hF.1
  have hb := hF.2.1
  have hK := hy.2.2.2
  have hl : lv_has ls 2 [(0, .ref (ad (1, 0, 0))), (1, .int a1)] := hl
  refine lv_iload_n (pc := 0) hx hb d_QC_about_0 rfl (lv_at hl 1 rfl) ?_
  by_cases c1 : a1 = (0 : Int32)
  · have hr := (if_pos c1).symm.trans hr
    refine lv_tableIn (pc := 1) (tgt := 28) (off := 27) hx hb d_QC_about_1 (by (rw [c1]) <;> decide) (by (rw [c1]) <;> decide) (by (rw [c1]) <;> rfl) (by decide) ?_
    refine lv_aload_n (pc := 28) hx hb d_QC_about_28 rfl (lv_at hl 0 rfl) ?_
    refine z_get (pc := 29) (v := .int (S.1 1 0 0 5)) hF hK.1 hW tq1 rfl rfl in_QC 5 (by decide) gw_349 rfl rfl d_QC_about_29 ?_
    exact z_iret (v := S.1 1 0 0 5) hy hW (congrArg (fun z => (z, S)) hr.symm) d_QC_about_32
  · have hr := (if_neg c1).symm.trans hr
    by_cases c2 : a1 = (1 : Int32)
    · have hr := (if_pos c2).symm.trans hr
      refine lv_tableIn (pc := 1) (tgt := 33) (off := 32) hx hb d_QC_about_1 (by (rw [c2]) <;> decide) (by (rw [c2]) <;> decide) (by (rw [c2]) <;> rfl) (by decide) ?_
      refine lv_aload_n (pc := 33) hx hb d_QC_about_33 rfl (lv_at hl 0 rfl) ?_
      refine z_get (pc := 34) (v := .ref (ad (19, 0, 0))) hF hK.1 hW tq1 rfl rfl in_QC 1 (by decide) gw_345 rfl rfl d_QC_about_34 ?_
      refine z_get (pc := 37) (v := .int (S.1 19 0 0 4)) hF hK.1 hW tq19 rfl rfl in_Blocks 4 (by decide) gw_93 rfl rfl d_QC_about_37 ?_
      exact z_iret (v := S.1 19 0 0 4) hy hW (congrArg (fun z => (z, S)) hr.symm) d_QC_about_40
    · have hr := (if_neg c2).symm.trans hr
      by_cases c3 : a1 = (2 : Int32)
      · have hr := (if_pos c3).symm.trans hr
        refine lv_tableIn (pc := 1) (tgt := 41) (off := 40) hx hb d_QC_about_1 (by (rw [c3]) <;> decide) (by (rw [c3]) <;> decide) (by (rw [c3]) <;> rfl) (by decide) ?_
        refine lv_aload_n (pc := 41) hx hb d_QC_about_41 rfl (lv_at hl 0 rfl) ?_
        refine z_get (pc := 42) (v := .ref (ad (24, 0, 0))) hF hK.1 hW tq1 rfl rfl in_QC 2 (by decide) gw_346 rfl rfl d_QC_about_42 ?_
        refine z_get (pc := 45) (v := .int (S.1 24 0 0 4)) hF hK.1 hW tq24 rfl rfl in_Transactions 4 (by decide) gw_118 rfl rfl d_QC_about_45 ?_
        exact z_iret (v := S.1 24 0 0 4) hy hW (congrArg (fun z => (z, S)) hr.symm) d_QC_about_48
      · have hr := (if_neg c3).symm.trans hr
        have ho : a1.toInt < (0 : Int) ∨ (2 : Int) < a1.toInt := z_swl (0) (2) (fun k h1 h2 => by
          rcases (show k = 0 ∨ k = 1 ∨ k = 2 by omega) with rfl | rfl | rfl
          · exact lv_neT c1 (by decide)
          · exact lv_neT c2 (by decide)
          · exact lv_neT c3 (by decide))
        refine lv_tableOut (pc := 1) (tgt := 49) hx hb d_QC_about_1 ho (by decide) ?_
        refine lv_iconst (pc := 49) (v := -1) hx hb d_QC_about_49 (by decide) ?_
        exact z_iret (v := (-1 : Int32)) hy hW (congrArg (fun z => (z, S)) hr.symm) d_QC_about_50
theorem d_QC_leaderOf_0 : decode b_QC_leaderOf 0 = .ok (.iload_n 0, 1) := by decide +kernel
theorem d_QC_leaderOf_1 : decode b_QC_leaderOf 1 = .ok (.iconst 1, 1) := by decide +kernel
theorem d_QC_leaderOf_2 : decode b_QC_leaderOf 2 = .ok (.if_icmp .ge 7, 3) := by decide +kernel
theorem d_QC_leaderOf_5 : decode b_QC_leaderOf 5 = .ok (.iconst (-1), 1) := by decide +kernel
theorem d_QC_leaderOf_6 : decode b_QC_leaderOf 6 = .ok (.goto 10, 3) := by decide +kernel
theorem d_QC_leaderOf_9 : decode b_QC_leaderOf 9 = .ok (.iload_n 0, 1) := by decide +kernel
theorem d_QC_leaderOf_10 : decode b_QC_leaderOf 10 = .ok (.iconst 1, 1) := by decide +kernel
theorem d_QC_leaderOf_11 : decode b_QC_leaderOf 11 = .ok (.isub, 1) := by decide +kernel
theorem d_QC_leaderOf_12 : decode b_QC_leaderOf 12 = .ok (.iconst 4, 1) := by decide +kernel
theorem d_QC_leaderOf_13 : decode b_QC_leaderOf 13 = .ok (.idiv, 1) := by decide +kernel
theorem d_QC_leaderOf_14 : decode b_QC_leaderOf 14 = .ok (.iconst 4, 1) := by decide +kernel
theorem d_QC_leaderOf_15 : decode b_QC_leaderOf 15 = .ok (.irem, 1) := by decide +kernel
theorem d_QC_leaderOf_16 : decode b_QC_leaderOf 16 = .ok (.ireturn, 1) := by decide +kernel
def f_QC_leaderOf (a0 : Int32) (S : St) : Int32 :=
  if (1 : Int32) ≤ a0 then
    ((a0 - (1 : Int32)) / (4 : Int32)) - ((a0 - (1 : Int32)) / (4 : Int32)) / (4 : Int32) * (4 : Int32)
  else
    (-1 : Int32)
set_option maxHeartbeats 4000000 in
set_option maxRecDepth 100000 in
theorem c_QC_leaderOf (l : Launch) (D : va_G) (X : va_W) (ad : N3 → Nat) (ca : Nat → ClassId) (a0 : Int32)  (S : St) : cI l GG D clQ (tysQ ca) nwQ X ad TQ (cfQ ad ca) y_QC_leaderOf b_QC_leaderOf 1 .int 0 0 [.int a0] S ((f_QC_leaderOf a0 S), S) := by
  generalize hr : f_QC_leaderOf a0 S = res
  refine zI_of pn_QC (Nat.le_of_ble_eq_true rfl) (fun p e s m below meth c A ls hy hW hA hl => ?_)
  have hF := hy.1
  have hx := hF.1
  have hb := hF.2.1
  have hK := hy.2.2.2
  have hl : lv_has ls 1 [(0, .int a0)] := hl
  refine lv_iload_n (pc := 0) hx hb d_QC_leaderOf_0 rfl (lv_at hl 0 rfl) ?_
  refine lv_iconst (pc := 1) (v := 1) hx hb d_QC_leaderOf_1 (by decide) ?_
  refine lv_icmp_ge (pc := 2) (tgt := 9) hx hb d_QC_leaderOf_2 (by decide) (fun c1 => ?_) (fun c1 => ?_)
  · have hr := (if_pos c1).symm.trans hr
    refine lv_iload_n (pc := 9) hx hb d_QC_leaderOf_9 rfl (lv_at hl 0 rfl) ?_
    refine lv_iconst (pc := 10) (v := 1) hx hb d_QC_leaderOf_10 (by decide) ?_
    refine lv_isub (pc := 11) hx hb d_QC_leaderOf_11 ?_
    refine lv_iconst (pc := 12) (v := 4) hx hb d_QC_leaderOf_12 (by decide) ?_
    refine lv_idiv (pc := 13) hx hb d_QC_leaderOf_13 (by decide) ?_
    refine lv_iconst (pc := 14) (v := 4) hx hb d_QC_leaderOf_14 (by decide) ?_
    refine lv_irem (pc := 15) hx hb d_QC_leaderOf_15 (by decide) ?_
    exact z_iret (v := ((a0 - (1 : Int32)) / (4 : Int32)) - ((a0 - (1 : Int32)) / (4 : Int32)) / (4 : Int32) * (4 : Int32)) hy hW (congrArg (fun z => (z, S)) hr.symm) d_QC_leaderOf_16
  · have hr := (if_neg c1).symm.trans hr
    refine lv_iconst (pc := 5) (v := -1) hx hb d_QC_leaderOf_5 (by decide) ?_
    refine lv_goto (pc := 6) (tgt := 16) hx hb d_QC_leaderOf_6 (by decide) ?_
    exact z_iret (v := (-1 : Int32)) hy hW (congrArg (fun z => (z, S)) hr.symm) d_QC_leaderOf_16
theorem d_Blocks_isAbove_0 : decode b_Blocks_isAbove 0 = .ok (.aload_n 0, 1) := by decide +kernel
theorem d_Blocks_isAbove_1 : decode b_Blocks_isAbove 1 = .ok (.iload_n 1, 1) := by decide +kernel
theorem d_Blocks_isAbove_2 : decode b_Blocks_isAbove 2 = .ok (.invokevirtual 33, 3) := by decide +kernel
theorem d_Blocks_isAbove_5 : decode b_Blocks_isAbove 5 = .ok (.aload_n 0, 1) := by decide +kernel
theorem d_Blocks_isAbove_6 : decode b_Blocks_isAbove 6 = .ok (.iload_n 2, 1) := by decide +kernel
theorem d_Blocks_isAbove_7 : decode b_Blocks_isAbove 7 = .ok (.invokevirtual 33, 3) := by decide +kernel
theorem d_Blocks_isAbove_10 : decode b_Blocks_isAbove 10 = .ok (.if_icmp .le 7, 3) := by decide +kernel
theorem d_Blocks_isAbove_13 : decode b_Blocks_isAbove 13 = .ok (.iconst 1, 1) := by decide +kernel
theorem d_Blocks_isAbove_14 : decode b_Blocks_isAbove 14 = .ok (.goto 4, 3) := by decide +kernel
theorem d_Blocks_isAbove_17 : decode b_Blocks_isAbove 17 = .ok (.iconst 0, 1) := by decide +kernel
theorem d_Blocks_isAbove_18 : decode b_Blocks_isAbove 18 = .ok (.ireturn, 1) := by decide +kernel
def f_Blocks_isAbove (a1 : Int32) (a2 : Int32) (S : St) : Int32 :=
  lt (f_Blocks_viewOf a1 S) fun (r2 : Int32) =>
  lt (f_Blocks_viewOf a2 S) fun (r4 : Int32) =>
  if r2 ≤ r4 then
    (0 : Int32)
  else
    (1 : Int32)
def ok_Blocks_isAbove (a1 : Int32) (a2 : Int32) (S : St) : Prop :=
  (ok_Blocks_viewOf a1 S) ∧ (
    lt (f_Blocks_viewOf a1 S) fun (r2 : Int32) =>
    (ok_Blocks_viewOf a2 S) ∧ (
      True))
set_option maxHeartbeats 4000000 in
set_option maxRecDepth 100000 in
theorem c_Blocks_isAbove (l : Launch) (D : va_G) (X : va_W) (ad : N3 → Nat) (ca : Nat → ClassId) (a1 : Int32) (a2 : Int32)  (S : St) (hk : ok_Blocks_isAbove a1 a2 S) : cI l GG D clQ (tysQ ca) nwQ X ad TQ (cfQ ad ca) y_Blocks_isAbove b_Blocks_isAbove 3 .boolean 2 42 [.ref (ad (19, 0, 0)), .int a1, .int a2] S ((f_Blocks_isAbove a1 a2 S), S) := by
  generalize hr : f_Blocks_isAbove a1 a2 S = res
  refine zI_of pn_Blocks (Nat.le_of_ble_eq_true rfl) (fun p e s m below meth c A ls hy hW hA hl => ?_)
  have hF := hy.1
  have hx := hF.1
  have hb := hF.2.1
  have hK := hy.2.2.2
  have hl : lv_has ls 3 [(0, .ref (ad (19, 0, 0))), (1, .int a1), (2, .int a2)] := hl
  refine lv_aload_n (pc := 0) hx hb d_Blocks_isAbove_0 rfl (lv_at hl 0 rfl) ?_
  refine lv_iload_n (pc := 1) hx hb d_Blocks_isAbove_1 rfl (lv_at hl 1 rfl) ?_
  have o1 := hk.1
  have hk := hk.2
  obtain ⟨r2, er2⟩ : ∃ z : Int32, z = f_Blocks_viewOf a1 S := ⟨_, rfl⟩
  have hk := lt_p er2 hk
  have hr := lt_e er2 hr
  refine z_goI (pc := 2) hW hA (congrArg (fun q => (q, S)) er2) (z_runV hF hK hW (c_Blocks_viewOf l D X ad ca a1 S o1 _) cd_Blocks_viewOf gw_698 tq19 rfl rfl ⟨Nat.le_of_ble_eq_true rfl, Nat.le_of_ble_eq_true rfl⟩ ⟨Nat.zero_le _, Nat.zero_le _⟩ rfl rfl hl.1 (Nat.le_of_ble_eq_true rfl) d_Blocks_isAbove_2) (fun H locs (hW : Wd D clQ A s.heap (zw X ad TQ (cfQ ad ca) S) H locs) => ?_)
  refine lv_aload_n (pc := 5) hx hb d_Blocks_isAbove_5 rfl (lv_at hl 0 rfl) ?_
  refine lv_iload_n (pc := 6) hx hb d_Blocks_isAbove_6 rfl (lv_at hl 2 rfl) ?_
  have o3 := hk.1
  have hk := hk.2
  obtain ⟨r4, er4⟩ : ∃ z : Int32, z = f_Blocks_viewOf a2 S := ⟨_, rfl⟩
  have hr := lt_e er4 hr
  refine z_goI (pc := 7) hW hA (congrArg (fun q => (q, S)) er4) (z_runV hF hK hW (c_Blocks_viewOf l D X ad ca a2 S o3 _) cd_Blocks_viewOf gw_698 tq19 rfl rfl ⟨Nat.le_of_ble_eq_true rfl, Nat.le_of_ble_eq_true rfl⟩ ⟨Nat.zero_le _, Nat.zero_le _⟩ rfl rfl hl.1 (Nat.le_of_ble_eq_true rfl) d_Blocks_isAbove_7) (fun H locs (hW : Wd D clQ A s.heap (zw X ad TQ (cfQ ad ca) S) H locs) => ?_)
  refine lv_icmp_le (pc := 10) (tgt := 17) hx hb d_Blocks_isAbove_10 (by decide) (fun c5 => ?_) (fun c5 => ?_)
  · have hr := (if_pos c5).symm.trans hr
    refine lv_iconst (pc := 17) (v := 0) hx hb d_Blocks_isAbove_17 (by decide) ?_
    exact z_zret (v := (0 : Int32)) hy hW rfl (congrArg (fun z => (z, S)) hr.symm) d_Blocks_isAbove_18
  · have hr := (if_neg c5).symm.trans hr
    refine lv_iconst (pc := 13) (v := 1) hx hb d_Blocks_isAbove_13 (by decide) ?_
    refine lv_goto (pc := 14) (tgt := 18) hx hb d_Blocks_isAbove_14 (by decide) ?_
    exact z_zret (v := (1 : Int32)) hy hW rfl (congrArg (fun z => (z, S)) hr.symm) d_Blocks_isAbove_18
theorem d_QC_highestParent_0 : decode b_QC_highestParent 0 = .ok (.iconst 0, 1) := by decide +kernel
theorem d_QC_highestParent_1 : decode b_QC_highestParent 1 = .ok (.istore_n 2, 1) := by decide +kernel
theorem d_QC_highestParent_2 : decode b_QC_highestParent 2 = .ok (.iconst 1, 1) := by decide +kernel
theorem d_QC_highestParent_3 : decode b_QC_highestParent 3 = .ok (.istore_n 3, 1) := by decide +kernel
theorem d_QC_highestParent_4 : decode b_QC_highestParent 4 = .ok (.iload_n 3, 1) := by decide +kernel
theorem d_QC_highestParent_5 : decode b_QC_highestParent 5 = .ok (.aload_n 0, 1) := by decide +kernel
theorem d_QC_highestParent_6 : decode b_QC_highestParent 6 = .ok (.getfield 18, 3) := by decide +kernel
theorem d_QC_highestParent_9 : decode b_QC_highestParent 9 = .ok (.getfield 206, 3) := by decide +kernel
theorem d_QC_highestParent_12 : decode b_QC_highestParent 12 = .ok (.if_icmp .ge 85, 3) := by decide +kernel
theorem d_QC_highestParent_15 : decode b_QC_highestParent 15 = .ok (.aload_n 0, 1) := by decide +kernel
theorem d_QC_highestParent_16 : decode b_QC_highestParent 16 = .ok (.getfield 18, 3) := by decide +kernel
theorem d_QC_highestParent_19 : decode b_QC_highestParent 19 = .ok (.iload_n 3, 1) := by decide +kernel
theorem d_QC_highestParent_20 : decode b_QC_highestParent 20 = .ok (.invokevirtual 285, 3) := by decide +kernel
theorem d_QC_highestParent_23 : decode b_QC_highestParent 23 = .ok (.istore 4, 2) := by decide +kernel
theorem d_QC_highestParent_25 : decode b_QC_highestParent 25 = .ok (.aload_n 0, 1) := by decide +kernel
theorem d_QC_highestParent_26 : decode b_QC_highestParent 26 = .ok (.getfield 18, 3) := by decide +kernel
theorem d_QC_highestParent_29 : decode b_QC_highestParent 29 = .ok (.iload 4, 2) := by decide +kernel
theorem d_QC_highestParent_31 : decode b_QC_highestParent 31 = .ok (.iload_n 2, 1) := by decide +kernel
theorem d_QC_highestParent_32 : decode b_QC_highestParent 32 = .ok (.invokevirtual 302, 3) := by decide +kernel
theorem d_QC_highestParent_35 : decode b_QC_highestParent 35 = .ok (.istore 5, 2) := by decide +kernel
theorem d_QC_highestParent_37 : decode b_QC_highestParent 37 = .ok (.iload 4, 2) := by decide +kernel
theorem d_QC_highestParent_39 : decode b_QC_highestParent 39 = .ok (.iload_n 2, 1) := by decide +kernel
theorem d_QC_highestParent_40 : decode b_QC_highestParent 40 = .ok (.if_icmp .ge 27, 3) := by decide +kernel
theorem d_QC_highestParent_43 : decode b_QC_highestParent 43 = .ok (.aload_n 0, 1) := by decide +kernel
theorem d_QC_highestParent_44 : decode b_QC_highestParent 44 = .ok (.getfield 18, 3) := by decide +kernel
theorem d_QC_highestParent_47 : decode b_QC_highestParent 47 = .ok (.iload 4, 2) := by decide +kernel
theorem d_QC_highestParent_49 : decode b_QC_highestParent 49 = .ok (.invokevirtual 203, 3) := by decide +kernel
theorem d_QC_highestParent_52 : decode b_QC_highestParent 52 = .ok (.aload_n 0, 1) := by decide +kernel
theorem d_QC_highestParent_53 : decode b_QC_highestParent 53 = .ok (.getfield 18, 3) := by decide +kernel
theorem d_QC_highestParent_56 : decode b_QC_highestParent 56 = .ok (.iload_n 2, 1) := by decide +kernel
theorem d_QC_highestParent_57 : decode b_QC_highestParent 57 = .ok (.invokevirtual 203, 3) := by decide +kernel
theorem d_QC_highestParent_60 : decode b_QC_highestParent 60 = .ok (.if_icmp .ne 7, 3) := by decide +kernel
theorem d_QC_highestParent_63 : decode b_QC_highestParent 63 = .ok (.iconst 1, 1) := by decide +kernel
theorem d_QC_highestParent_64 : decode b_QC_highestParent 64 = .ok (.goto 4, 3) := by decide +kernel
theorem d_QC_highestParent_67 : decode b_QC_highestParent 67 = .ok (.iconst 0, 1) := by decide +kernel
theorem d_QC_highestParent_68 : decode b_QC_highestParent 68 = .ok (.istore 6, 2) := by decide +kernel
theorem d_QC_highestParent_70 : decode b_QC_highestParent 70 = .ok (.aload_n 1, 1) := by decide +kernel
theorem d_QC_highestParent_71 : decode b_QC_highestParent 71 = .ok (.iload_n 3, 1) := by decide +kernel
theorem d_QC_highestParent_72 : decode b_QC_highestParent 72 = .ok (.invokevirtual 195, 3) := by decide +kernel
theorem d_QC_highestParent_75 : decode b_QC_highestParent 75 = .ok (.ifCond .eq 16, 3) := by decide +kernel
theorem d_QC_highestParent_78 : decode b_QC_highestParent 78 = .ok (.iload 5, 2) := by decide +kernel
theorem d_QC_highestParent_80 : decode b_QC_highestParent 80 = .ok (.ifCond .ne 8, 3) := by decide +kernel
theorem d_QC_highestParent_83 : decode b_QC_highestParent 83 = .ok (.iload 6, 2) := by decide +kernel
theorem d_QC_highestParent_85 : decode b_QC_highestParent 85 = .ok (.ifCond .eq 6, 3) := by decide +kernel
theorem d_QC_highestParent_88 : decode b_QC_highestParent 88 = .ok (.iload 4, 2) := by decide +kernel
theorem d_QC_highestParent_90 : decode b_QC_highestParent 90 = .ok (.istore_n 2, 1) := by decide +kernel
theorem d_QC_highestParent_91 : decode b_QC_highestParent 91 = .ok (.iinc 3 1, 3) := by decide +kernel
theorem d_QC_highestParent_94 : decode b_QC_highestParent 94 = .ok (.goto (-90), 3) := by decide +kernel
theorem d_QC_highestParent_97 : decode b_QC_highestParent 97 = .ok (.iload_n 2, 1) := by decide +kernel
theorem d_QC_highestParent_98 : decode b_QC_highestParent 98 = .ok (.ireturn, 1) := by decide +kernel
def f_QC_highestParent_4 (i1 : Nat) : Nat → St → Int32 → Int32 → Int32
  | 0, _, _, _ => 0
  | n + 1, S, l2, l3 =>
    if (S.1 19 0 0 4) ≤ l3 then
      l2
    else
      lt (f_Blocks_parentOf l3 S) fun (r3 : Int32) =>
      lt (f_Blocks_isAbove r3 l2 S) fun (r5 : Int32) =>
      if l2 ≤ r3 then
        lt (f_Store_hasBlock i1 l3 S) fun (r8 : Int32) =>
        if r8 = 0 then
          f_QC_highestParent_4 i1 n S l2 (l3 + (1 : Int32))
        else
          if r5 = 0 then
            if (0 : Int32) = 0 then
              f_QC_highestParent_4 i1 n S l2 (l3 + (1 : Int32))
            else
              f_QC_highestParent_4 i1 n S r3 (l3 + (1 : Int32))
          else
            f_QC_highestParent_4 i1 n S r3 (l3 + (1 : Int32))
      else
        lt (f_Blocks_viewOf r3 S) fun (r13 : Int32) =>
        lt (f_Blocks_viewOf l2 S) fun (r15 : Int32) =>
        if r13 = r15 then
          lt (f_Store_hasBlock i1 l3 S) fun (r23 : Int32) =>
          if r23 = 0 then
            f_QC_highestParent_4 i1 n S l2 (l3 + (1 : Int32))
          else
            if r5 = 0 then
              if (1 : Int32) = 0 then
                f_QC_highestParent_4 i1 n S l2 (l3 + (1 : Int32))
              else
                f_QC_highestParent_4 i1 n S r3 (l3 + (1 : Int32))
            else
              f_QC_highestParent_4 i1 n S r3 (l3 + (1 : Int32))
        else
          lt (f_Store_hasBlock i1 l3 S) fun (r18 : Int32) =>
          if r18 = 0 then
            f_QC_highestParent_4 i1 n S l2 (l3 + (1 : Int32))
          else
            if r5 = 0 then
              if (0 : Int32) = 0 then
                f_QC_highestParent_4 i1 n S l2 (l3 + (1 : Int32))
              else
                f_QC_highestParent_4 i1 n S r3 (l3 + (1 : Int32))
            else
              f_QC_highestParent_4 i1 n S r3 (l3 + (1 : Int32))
def ok_QC_highestParent_4 (i1 : Nat) : Nat → St → Int32 → Int32 → Prop
  | 0, _, _, _ => False
  | n + 1, S, l2, l3 =>
    ((S.1 19 0 0 4) ≤ l3 → (
      True)) ∧ (¬ ((S.1 19 0 0 4) ≤ l3) → (
      (ok_Blocks_parentOf l3 S) ∧ (
        lt (f_Blocks_parentOf l3 S) fun (r3 : Int32) =>
        (ok_Blocks_isAbove r3 l2 S) ∧ (
          lt (f_Blocks_isAbove r3 l2 S) fun (r5 : Int32) =>
          (l2 ≤ r3 → (
            (ok_Store_hasBlock i1 l3 S) ∧ (
              lt (f_Store_hasBlock i1 l3 S) fun (r8 : Int32) =>
              (r8 = 0 → (
                ok_QC_highestParent_4 i1 n S l2 (l3 + (1 : Int32)))) ∧ (¬ (r8 = 0) → (
                (r5 = 0 → (
                  ((0 : Int32) = 0 → (
                    ok_QC_highestParent_4 i1 n S l2 (l3 + (1 : Int32)))) ∧ (¬ ((0 : Int32) = 0) → (
                    ok_QC_highestParent_4 i1 n S r3 (l3 + (1 : Int32)))))) ∧ (¬ (r5 = 0) → (
                  ok_QC_highestParent_4 i1 n S r3 (l3 + (1 : Int32))))))))) ∧ (¬ (l2 ≤ r3) → (
            (ok_Blocks_viewOf r3 S) ∧ (
              lt (f_Blocks_viewOf r3 S) fun (r13 : Int32) =>
              (ok_Blocks_viewOf l2 S) ∧ (
                lt (f_Blocks_viewOf l2 S) fun (r15 : Int32) =>
                (r13 = r15 → (
                  (ok_Store_hasBlock i1 l3 S) ∧ (
                    lt (f_Store_hasBlock i1 l3 S) fun (r23 : Int32) =>
                    (r23 = 0 → (
                      ok_QC_highestParent_4 i1 n S l2 (l3 + (1 : Int32)))) ∧ (¬ (r23 = 0) → (
                      (r5 = 0 → (
                        ((1 : Int32) = 0 → (
                          ok_QC_highestParent_4 i1 n S l2 (l3 + (1 : Int32)))) ∧ (¬ ((1 : Int32) = 0) → (
                          ok_QC_highestParent_4 i1 n S r3 (l3 + (1 : Int32)))))) ∧ (¬ (r5 = 0) → (
                        ok_QC_highestParent_4 i1 n S r3 (l3 + (1 : Int32))))))))) ∧ (¬ (r13 = r15) → (
                  (ok_Store_hasBlock i1 l3 S) ∧ (
                    lt (f_Store_hasBlock i1 l3 S) fun (r18 : Int32) =>
                    (r18 = 0 → (
                      ok_QC_highestParent_4 i1 n S l2 (l3 + (1 : Int32)))) ∧ (¬ (r18 = 0) → (
                      (r5 = 0 → (
                        ((0 : Int32) = 0 → (
                          ok_QC_highestParent_4 i1 n S l2 (l3 + (1 : Int32)))) ∧ (¬ ((0 : Int32) = 0) → (
                          ok_QC_highestParent_4 i1 n S r3 (l3 + (1 : Int32)))))) ∧ (¬ (r5 = 0) → (
                        ok_QC_highestParent_4 i1 n S r3 (l3 + (1 : Int32)))))))))))))))))
set_option maxHeartbeats 4000000 in
set_option maxRecDepth 100000 in
theorem w_QC_highestParent_4 {l : Launch} {D : va_G} {X : va_W} {ad : N3 → Nat} {ca : Nat → ClassId} (i1 : Nat) (h1 : i1 < 4) (S : St) {p : Program} {e : Env} {s : State} {m : MethodId} {below : List Frame} {meth : Method} {c : Code} {A : Nat → Prop} (hy : Hy p s m ([.ref (ad (1, 0, 0)), .ref (ad (4, i1, 0))] : List Value).toArray meth c b_QC_highestParent 7 (some .int) R_QC GG D clQ (tysQ ca) nwQ) (hA : ∀ q, s.heap.size ≤ q → A q) {res : Int32} : ∀ (n : Nat) (l2 : Int32) (l3 : Int32) , ok_QC_highestParent_4 i1 n S l2 l3 → f_QC_highestParent_4 i1 n S l2 l3 = res → ∀ (H : Heap) (locs : List Loc) (ls : Array Slot), Wd D clQ A s.heap (zw X ad TQ (cfQ ad ca) S) H locs → lv_has ls 7 [(0, .ref (ad (1, 0, 0))), (1, .ref (ad (4, i1, 0))), (2, .int l2), (3, .int l3)] → W p l e { frames := 3, cells := 0, slots := 0, locals := 64 } s m ([.ref (ad (1, 0, 0)), .ref (ad (4, i1, 0))] : List Value).toArray below meth c H locs 0 0 (MQ below (eI D clQ X ad TQ (cfQ ad ca) A (res, S)) ([.ref (ad (1, 0, 0)), .ref (ad (4, i1, 0))] : List Value).toArray s 0 0 A) (F0 m 4 ls []) := by
  have hF := hy.1
  have hx := hF.1
  have hb := hF.2.1
  have hK := hy.2.2.2
  intro n
  induction n with
  | zero =>
    intro l2 l3 hk
    exact hk.elim
  | succ n ih =>
    intro l2 l3 hk hr H locs ls hW hl
    refine lv_iload_n (pc := 4) hx hb d_QC_highestParent_4 rfl (lv_at hl 3 rfl) ?_
    refine lv_aload_n (pc := 5) hx hb d_QC_highestParent_5 rfl (lv_at hl 0 rfl) ?_
    refine z_get (pc := 6) (v := .ref (ad (19, 0, 0))) hF hK.1 hW tq1 rfl rfl in_QC 1 (by decide) gw_345 rfl rfl d_QC_highestParent_6 ?_
    refine z_get (pc := 9) (v := .int (S.1 19 0 0 4)) hF hK.1 hW tq19 rfl rfl in_Blocks 4 (by decide) gw_93 rfl rfl d_QC_highestParent_9 ?_
    refine lv_icmp_ge (pc := 12) (tgt := 97) hx hb d_QC_highestParent_12 (by decide) (fun c1 => ?_) (fun c1 => ?_)
    · have hk := hk.1 c1
      have hr := (if_pos c1).symm.trans hr
      refine lv_iload_n (pc := 97) hx hb d_QC_highestParent_97 rfl (lv_at hl 2 rfl) ?_
      exact z_iret (v := l2) hy hW (congrArg (fun z => (z, S)) hr.symm) d_QC_highestParent_98
    · have hk := hk.2 c1
      have hr := (if_neg c1).symm.trans hr
      refine lv_aload_n (pc := 15) hx hb d_QC_highestParent_15 rfl (lv_at hl 0 rfl) ?_
      refine z_get (pc := 16) (v := .ref (ad (19, 0, 0))) hF hK.1 hW tq1 rfl rfl in_QC 1 (by decide) gw_345 rfl rfl d_QC_highestParent_16 ?_
      refine lv_iload_n (pc := 19) hx hb d_QC_highestParent_19 rfl (lv_at hl 3 rfl) ?_
      have o2 := hk.1
      have hk := hk.2
      obtain ⟨r3, er3⟩ : ∃ z : Int32, z = f_Blocks_parentOf l3 S := ⟨_, rfl⟩
      have hk := lt_p er3 hk
      have hr := lt_e er3 hr
      refine z_goI (pc := 20) hW hA (congrArg (fun q => (q, S)) er3) (z_runV hF hK hW (c_Blocks_parentOf l D X ad ca l3 S o2 _) cd_Blocks_parentOf gw_461 tq19 rfl rfl ⟨Nat.le_of_ble_eq_true rfl, Nat.le_of_ble_eq_true rfl⟩ ⟨Nat.zero_le _, Nat.zero_le _⟩ rfl rfl hl.1 (Nat.le_of_ble_eq_true rfl) d_QC_highestParent_20) (fun H locs (hW : Wd D clQ A s.heap (zw X ad TQ (cfQ ad ca) S) H locs) => ?_)
      refine lv_istore (pc := 23) (lv' := [(4, .int r3), (0, .ref (ad (1, 0, 0))), (1, .ref (ad (4, i1, 0))), (2, .int l2), (3, .int l3)]) hx hb d_QC_highestParent_23 hl (by decide) rfl (fun ls hl => ?_)
      refine lv_aload_n (pc := 25) hx hb d_QC_highestParent_25 rfl (lv_at hl 1 rfl) ?_
      refine z_get (pc := 26) (v := .ref (ad (19, 0, 0))) hF hK.1 hW tq1 rfl rfl in_QC 1 (by decide) gw_345 rfl rfl d_QC_highestParent_26 ?_
      refine lv_iload (pc := 29) hx hb d_QC_highestParent_29 (lv_at hl 0 rfl) ?_
      refine lv_iload_n (pc := 31) hx hb d_QC_highestParent_31 rfl (lv_at hl 3 rfl) ?_
      have o4 := hk.1
      have hk := hk.2
      obtain ⟨r5, er5⟩ : ∃ z : Int32, z = f_Blocks_isAbove r3 l2 S := ⟨_, rfl⟩
      have hk := lt_p er5 hk
      have hr := lt_e er5 hr
      refine z_goI (pc := 32) hW hA (congrArg (fun q => (q, S)) er5) (z_runV hF hK hW (c_Blocks_isAbove l D X ad ca r3 l2 S o4 _) cd_Blocks_isAbove gw_694 tq19 rfl rfl ⟨Nat.le_of_ble_eq_true rfl, Nat.le_of_ble_eq_true rfl⟩ ⟨Nat.zero_le _, Nat.zero_le _⟩ rfl rfl hl.1 (Nat.le_of_ble_eq_true rfl) d_QC_highestParent_32) (fun H locs (hW : Wd D clQ A s.heap (zw X ad TQ (cfQ ad ca) S) H locs) => ?_)
      refine lv_istore (pc := 35) (lv' := [(5, .int r5), (4, .int r3), (0, .ref (ad (1, 0, 0))), (1, .ref (ad (4, i1, 0))), (2, .int l2), (3, .int l3)]) hx hb d_QC_highestParent_35 hl (by decide) rfl (fun ls hl => ?_)
      refine lv_iload (pc := 37) hx hb d_QC_highestParent_37 (lv_at hl 1 rfl) ?_
      refine lv_iload_n (pc := 39) hx hb d_QC_highestParent_39 rfl (lv_at hl 4 rfl) ?_
      refine lv_icmp_ge (pc := 40) (tgt := 67) hx hb d_QC_highestParent_40 (by decide) (fun c6 => ?_) (fun c6 => ?_)
      · have hk := hk.1 c6
        have hr := (if_pos c6).symm.trans hr
        refine lv_iconst (pc := 67) (v := 0) hx hb d_QC_highestParent_67 (by decide) ?_
        refine lv_istore (pc := 68) (lv' := [(6, .int (0 : Int32)), (5, .int r5), (4, .int r3), (0, .ref (ad (1, 0, 0))), (1, .ref (ad (4, i1, 0))), (2, .int l2), (3, .int l3)]) hx hb d_QC_highestParent_68 hl (by decide) rfl (fun ls hl => ?_)
        refine lv_aload_n (pc := 70) hx hb d_QC_highestParent_70 rfl (lv_at hl 4 rfl) ?_
        refine lv_iload_n (pc := 71) hx hb d_QC_highestParent_71 rfl (lv_at hl 6 rfl) ?_
        have o7 := hk.1
        have hk := hk.2
        obtain ⟨r8, er8⟩ : ∃ z : Int32, z = f_Store_hasBlock i1 l3 S := ⟨_, rfl⟩
        have hk := lt_p er8 hk
        have hr := lt_e er8 hr
        refine z_goI (pc := 72) hW hA (congrArg (fun q => (q, S)) er8) (z_runV hF hK hW (c_Store_hasBlock l D X ad ca i1 l3 h1 S o7 _) cd_Store_hasBlock gw_477 (tq4 h1) rfl rfl ⟨Nat.le_of_ble_eq_true rfl, Nat.le_of_ble_eq_true rfl⟩ ⟨Nat.zero_le _, Nat.zero_le _⟩ rfl rfl hl.1 (Nat.le_of_ble_eq_true rfl) d_QC_highestParent_72) (fun H locs (hW : Wd D clQ A s.heap (zw X ad TQ (cfQ ad ca) S) H locs) => ?_)
        refine lv_if_eq (pc := 75) (tgt := 91) hx hb d_QC_highestParent_75 (by decide) (fun c9 => ?_) (fun c9 => ?_)
        · have hk := hk.1 c9
          have hr := (if_pos c9).symm.trans hr
          refine lv_iinc (pc := 91) (v := l3 + (1 : Int32)) (lv' := [(3, .int (l3 + (1 : Int32))), (6, .int (0 : Int32)), (5, .int r5), (4, .int r3), (0, .ref (ad (1, 0, 0))), (1, .ref (ad (4, i1, 0))), (2, .int l2)]) (k := 6) hx hb d_QC_highestParent_91 hl rfl (z_inc (by decide)) (by decide) rfl (fun ls hl => ?_)
          refine lv_goto (pc := 94) (tgt := 4) hx hb d_QC_highestParent_94 (by decide) ?_
          exact ih l2 (l3 + (1 : Int32)) hk hr _ _ _ hW (lv_sub hl [4, 5, 6, 0] rfl)
        · have hk := hk.2 c9
          have hr := (if_neg c9).symm.trans hr
          refine lv_iload (pc := 78) hx hb d_QC_highestParent_78 (lv_at hl 1 rfl) ?_
          refine lv_if_ne (pc := 80) (tgt := 88) hx hb d_QC_highestParent_80 (by decide) (fun c10 => ?_) (fun c10 => ?_)
          · have hk := hk.2 c10
            have hr := (if_neg c10).symm.trans hr
            refine lv_iload (pc := 88) hx hb d_QC_highestParent_88 (lv_at hl 2 rfl) ?_
            refine lv_istore_n (pc := 90) (lv' := [(2, .int r3), (6, .int (0 : Int32)), (5, .int r5), (4, .int r3), (0, .ref (ad (1, 0, 0))), (1, .ref (ad (4, i1, 0))), (3, .int l3)]) hx hb d_QC_highestParent_90 rfl hl (by decide) rfl (fun ls hl => ?_)
            refine lv_iinc (pc := 91) (v := l3 + (1 : Int32)) (lv' := [(3, .int (l3 + (1 : Int32))), (2, .int r3), (6, .int (0 : Int32)), (5, .int r5), (4, .int r3), (0, .ref (ad (1, 0, 0))), (1, .ref (ad (4, i1, 0)))]) (k := 6) hx hb d_QC_highestParent_91 hl rfl (z_inc (by decide)) (by decide) rfl (fun ls hl => ?_)
            refine lv_goto (pc := 94) (tgt := 4) hx hb d_QC_highestParent_94 (by decide) ?_
            exact ih r3 (l3 + (1 : Int32)) hk hr _ _ _ hW (lv_sub hl [5, 6, 1, 0] rfl)
          · have hk := hk.1 c10
            have hr := (if_pos c10).symm.trans hr
            refine lv_iload (pc := 83) hx hb d_QC_highestParent_83 (lv_at hl 0 rfl) ?_
            refine lv_if_eq (pc := 85) (tgt := 91) hx hb d_QC_highestParent_85 (by decide) (fun c11 => ?_) (fun c11 => ?_)
            · have hk := hk.1 c11
              have hr := (if_pos c11).symm.trans hr
              refine lv_iinc (pc := 91) (v := l3 + (1 : Int32)) (lv' := [(3, .int (l3 + (1 : Int32))), (6, .int (0 : Int32)), (5, .int r5), (4, .int r3), (0, .ref (ad (1, 0, 0))), (1, .ref (ad (4, i1, 0))), (2, .int l2)]) (k := 6) hx hb d_QC_highestParent_91 hl rfl (z_inc (by decide)) (by decide) rfl (fun ls hl => ?_)
              refine lv_goto (pc := 94) (tgt := 4) hx hb d_QC_highestParent_94 (by decide) ?_
              exact ih l2 (l3 + (1 : Int32)) hk hr _ _ _ hW (lv_sub hl [4, 5, 6, 0] rfl)
            · have hk := hk.2 c11
              have hr := (if_neg c11).symm.trans hr
              refine lv_iload (pc := 88) hx hb d_QC_highestParent_88 (lv_at hl 2 rfl) ?_
              refine lv_istore_n (pc := 90) (lv' := [(2, .int r3), (6, .int (0 : Int32)), (5, .int r5), (4, .int r3), (0, .ref (ad (1, 0, 0))), (1, .ref (ad (4, i1, 0))), (3, .int l3)]) hx hb d_QC_highestParent_90 rfl hl (by decide) rfl (fun ls hl => ?_)
              refine lv_iinc (pc := 91) (v := l3 + (1 : Int32)) (lv' := [(3, .int (l3 + (1 : Int32))), (2, .int r3), (6, .int (0 : Int32)), (5, .int r5), (4, .int r3), (0, .ref (ad (1, 0, 0))), (1, .ref (ad (4, i1, 0)))]) (k := 6) hx hb d_QC_highestParent_91 hl rfl (z_inc (by decide)) (by decide) rfl (fun ls hl => ?_)
              refine lv_goto (pc := 94) (tgt := 4) hx hb d_QC_highestParent_94 (by decide) ?_
              exact ih r3 (l3 + (1 : Int32)) hk hr _ _ _ hW (lv_sub hl [5, 6, 1, 0] rfl)
      · have hk := hk.2 c6
        have hr := (if_neg c6).symm.trans hr
        refine lv_aload_n (pc := 43) hx hb d_QC_highestParent_43 rfl (lv_at hl 2 rfl) ?_
        refine z_get (pc := 44) (v := .ref (ad (19, 0, 0))) hF hK.1 hW tq1 rfl rfl in_QC 1 (by decide) gw_345 rfl rfl d_QC_highestParent_44 ?_
        refine lv_iload (pc := 47) hx hb d_QC_highestParent_47 (lv_at hl 1 rfl) ?_
        have o12 := hk.1
        have hk := hk.2
        obtain ⟨r13, er13⟩ : ∃ z : Int32, z = f_Blocks_viewOf r3 S := ⟨_, rfl⟩
        have hk := lt_p er13 hk
        have hr := lt_e er13 hr
        refine z_goI (pc := 49) hW hA (congrArg (fun q => (q, S)) er13) (z_runV hF hK hW (c_Blocks_viewOf l D X ad ca r3 S o12 _) cd_Blocks_viewOf gw_456 tq19 rfl rfl ⟨Nat.le_of_ble_eq_true rfl, Nat.le_of_ble_eq_true rfl⟩ ⟨Nat.zero_le _, Nat.zero_le _⟩ rfl rfl hl.1 (Nat.le_of_ble_eq_true rfl) d_QC_highestParent_49) (fun H locs (hW : Wd D clQ A s.heap (zw X ad TQ (cfQ ad ca) S) H locs) => ?_)
        refine lv_aload_n (pc := 52) hx hb d_QC_highestParent_52 rfl (lv_at hl 2 rfl) ?_
        refine z_get (pc := 53) (v := .ref (ad (19, 0, 0))) hF hK.1 hW tq1 rfl rfl in_QC 1 (by decide) gw_345 rfl rfl d_QC_highestParent_53 ?_
        refine lv_iload_n (pc := 56) hx hb d_QC_highestParent_56 rfl (lv_at hl 4 rfl) ?_
        have o14 := hk.1
        have hk := hk.2
        obtain ⟨r15, er15⟩ : ∃ z : Int32, z = f_Blocks_viewOf l2 S := ⟨_, rfl⟩
        have hk := lt_p er15 hk
        have hr := lt_e er15 hr
        refine z_goI (pc := 57) hW hA (congrArg (fun q => (q, S)) er15) (z_runV hF hK hW (c_Blocks_viewOf l D X ad ca l2 S o14 _) cd_Blocks_viewOf gw_456 tq19 rfl rfl ⟨Nat.le_of_ble_eq_true rfl, Nat.le_of_ble_eq_true rfl⟩ ⟨Nat.zero_le _, Nat.zero_le _⟩ rfl rfl hl.1 (Nat.le_of_ble_eq_true rfl) d_QC_highestParent_57) (fun H locs (hW : Wd D clQ A s.heap (zw X ad TQ (cfQ ad ca) S) H locs) => ?_)
        refine lv_icmp_ne (pc := 60) (tgt := 67) hx hb d_QC_highestParent_60 (by decide) (fun c16 => ?_) (fun c16 => ?_)
        · have hk := hk.2 c16
          have hr := (if_neg c16).symm.trans hr
          refine lv_iconst (pc := 67) (v := 0) hx hb d_QC_highestParent_67 (by decide) ?_
          refine lv_istore (pc := 68) (lv' := [(6, .int (0 : Int32)), (5, .int r5), (4, .int r3), (0, .ref (ad (1, 0, 0))), (1, .ref (ad (4, i1, 0))), (2, .int l2), (3, .int l3)]) hx hb d_QC_highestParent_68 hl (by decide) rfl (fun ls hl => ?_)
          refine lv_aload_n (pc := 70) hx hb d_QC_highestParent_70 rfl (lv_at hl 4 rfl) ?_
          refine lv_iload_n (pc := 71) hx hb d_QC_highestParent_71 rfl (lv_at hl 6 rfl) ?_
          have o17 := hk.1
          have hk := hk.2
          obtain ⟨r18, er18⟩ : ∃ z : Int32, z = f_Store_hasBlock i1 l3 S := ⟨_, rfl⟩
          have hk := lt_p er18 hk
          have hr := lt_e er18 hr
          refine z_goI (pc := 72) hW hA (congrArg (fun q => (q, S)) er18) (z_runV hF hK hW (c_Store_hasBlock l D X ad ca i1 l3 h1 S o17 _) cd_Store_hasBlock gw_477 (tq4 h1) rfl rfl ⟨Nat.le_of_ble_eq_true rfl, Nat.le_of_ble_eq_true rfl⟩ ⟨Nat.zero_le _, Nat.zero_le _⟩ rfl rfl hl.1 (Nat.le_of_ble_eq_true rfl) d_QC_highestParent_72) (fun H locs (hW : Wd D clQ A s.heap (zw X ad TQ (cfQ ad ca) S) H locs) => ?_)
          refine lv_if_eq (pc := 75) (tgt := 91) hx hb d_QC_highestParent_75 (by decide) (fun c19 => ?_) (fun c19 => ?_)
          · have hk := hk.1 c19
            have hr := (if_pos c19).symm.trans hr
            refine lv_iinc (pc := 91) (v := l3 + (1 : Int32)) (lv' := [(3, .int (l3 + (1 : Int32))), (6, .int (0 : Int32)), (5, .int r5), (4, .int r3), (0, .ref (ad (1, 0, 0))), (1, .ref (ad (4, i1, 0))), (2, .int l2)]) (k := 6) hx hb d_QC_highestParent_91 hl rfl (z_inc (by decide)) (by decide) rfl (fun ls hl => ?_)
            refine lv_goto (pc := 94) (tgt := 4) hx hb d_QC_highestParent_94 (by decide) ?_
            exact ih l2 (l3 + (1 : Int32)) hk hr _ _ _ hW (lv_sub hl [4, 5, 6, 0] rfl)
          · have hk := hk.2 c19
            have hr := (if_neg c19).symm.trans hr
            refine lv_iload (pc := 78) hx hb d_QC_highestParent_78 (lv_at hl 1 rfl) ?_
            refine lv_if_ne (pc := 80) (tgt := 88) hx hb d_QC_highestParent_80 (by decide) (fun c20 => ?_) (fun c20 => ?_)
            · have hk := hk.2 c20
              have hr := (if_neg c20).symm.trans hr
              refine lv_iload (pc := 88) hx hb d_QC_highestParent_88 (lv_at hl 2 rfl) ?_
              refine lv_istore_n (pc := 90) (lv' := [(2, .int r3), (6, .int (0 : Int32)), (5, .int r5), (4, .int r3), (0, .ref (ad (1, 0, 0))), (1, .ref (ad (4, i1, 0))), (3, .int l3)]) hx hb d_QC_highestParent_90 rfl hl (by decide) rfl (fun ls hl => ?_)
              refine lv_iinc (pc := 91) (v := l3 + (1 : Int32)) (lv' := [(3, .int (l3 + (1 : Int32))), (2, .int r3), (6, .int (0 : Int32)), (5, .int r5), (4, .int r3), (0, .ref (ad (1, 0, 0))), (1, .ref (ad (4, i1, 0)))]) (k := 6) hx hb d_QC_highestParent_91 hl rfl (z_inc (by decide)) (by decide) rfl (fun ls hl => ?_)
              refine lv_goto (pc := 94) (tgt := 4) hx hb d_QC_highestParent_94 (by decide) ?_
              exact ih r3 (l3 + (1 : Int32)) hk hr _ _ _ hW (lv_sub hl [5, 6, 1, 0] rfl)
            · have hk := hk.1 c20
              have hr := (if_pos c20).symm.trans hr
              refine lv_iload (pc := 83) hx hb d_QC_highestParent_83 (lv_at hl 0 rfl) ?_
              refine lv_if_eq (pc := 85) (tgt := 91) hx hb d_QC_highestParent_85 (by decide) (fun c21 => ?_) (fun c21 => ?_)
              · have hk := hk.1 c21
                have hr := (if_pos c21).symm.trans hr
                refine lv_iinc (pc := 91) (v := l3 + (1 : Int32)) (lv' := [(3, .int (l3 + (1 : Int32))), (6, .int (0 : Int32)), (5, .int r5), (4, .int r3), (0, .ref (ad (1, 0, 0))), (1, .ref (ad (4, i1, 0))), (2, .int l2)]) (k := 6) hx hb d_QC_highestParent_91 hl rfl (z_inc (by decide)) (by decide) rfl (fun ls hl => ?_)
                refine lv_goto (pc := 94) (tgt := 4) hx hb d_QC_highestParent_94 (by decide) ?_
                exact ih l2 (l3 + (1 : Int32)) hk hr _ _ _ hW (lv_sub hl [4, 5, 6, 0] rfl)
              · have hk := hk.2 c21
                have hr := (if_neg c21).symm.trans hr
                refine lv_iload (pc := 88) hx hb d_QC_highestParent_88 (lv_at hl 2 rfl) ?_
                refine lv_istore_n (pc := 90) (lv' := [(2, .int r3), (6, .int (0 : Int32)), (5, .int r5), (4, .int r3), (0, .ref (ad (1, 0, 0))), (1, .ref (ad (4, i1, 0))), (3, .int l3)]) hx hb d_QC_highestParent_90 rfl hl (by decide) rfl (fun ls hl => ?_)
                refine lv_iinc (pc := 91) (v := l3 + (1 : Int32)) (lv' := [(3, .int (l3 + (1 : Int32))), (2, .int r3), (6, .int (0 : Int32)), (5, .int r5), (4, .int r3), (0, .ref (ad (1, 0, 0))), (1, .ref (ad (4, i1, 0)))]) (k := 6) hx hb d_QC_highestParent_91 hl rfl (z_inc (by decide)) (by decide) rfl (fun ls hl => ?_)
                refine lv_goto (pc := 94) (tgt := 4) hx hb d_QC_highestParent_94 (by decide) ?_
                exact ih r3 (l3 + (1 : Int32)) hk hr _ _ _ hW (lv_sub hl [5, 6, 1, 0] rfl)
        · have hk := hk.1 c16
          have hr := (if_pos c16).symm.trans hr
          refine lv_iconst (pc := 63) (v := 1) hx hb d_QC_highestParent_63 (by decide) ?_
          refine lv_goto (pc := 64) (tgt := 68) hx hb d_QC_highestParent_64 (by decide) ?_
          refine lv_istore (pc := 68) (lv' := [(6, .int (1 : Int32)), (5, .int r5), (4, .int r3), (0, .ref (ad (1, 0, 0))), (1, .ref (ad (4, i1, 0))), (2, .int l2), (3, .int l3)]) hx hb d_QC_highestParent_68 hl (by decide) rfl (fun ls hl => ?_)
          refine lv_aload_n (pc := 70) hx hb d_QC_highestParent_70 rfl (lv_at hl 4 rfl) ?_
          refine lv_iload_n (pc := 71) hx hb d_QC_highestParent_71 rfl (lv_at hl 6 rfl) ?_
          have o22 := hk.1
          have hk := hk.2
          obtain ⟨r23, er23⟩ : ∃ z : Int32, z = f_Store_hasBlock i1 l3 S := ⟨_, rfl⟩
          have hk := lt_p er23 hk
          have hr := lt_e er23 hr
          refine z_goI (pc := 72) hW hA (congrArg (fun q => (q, S)) er23) (z_runV hF hK hW (c_Store_hasBlock l D X ad ca i1 l3 h1 S o22 _) cd_Store_hasBlock gw_477 (tq4 h1) rfl rfl ⟨Nat.le_of_ble_eq_true rfl, Nat.le_of_ble_eq_true rfl⟩ ⟨Nat.zero_le _, Nat.zero_le _⟩ rfl rfl hl.1 (Nat.le_of_ble_eq_true rfl) d_QC_highestParent_72) (fun H locs (hW : Wd D clQ A s.heap (zw X ad TQ (cfQ ad ca) S) H locs) => ?_)
          refine lv_if_eq (pc := 75) (tgt := 91) hx hb d_QC_highestParent_75 (by decide) (fun c24 => ?_) (fun c24 => ?_)
          · have hk := hk.1 c24
            have hr := (if_pos c24).symm.trans hr
            refine lv_iinc (pc := 91) (v := l3 + (1 : Int32)) (lv' := [(3, .int (l3 + (1 : Int32))), (6, .int (1 : Int32)), (5, .int r5), (4, .int r3), (0, .ref (ad (1, 0, 0))), (1, .ref (ad (4, i1, 0))), (2, .int l2)]) (k := 6) hx hb d_QC_highestParent_91 hl rfl (z_inc (by decide)) (by decide) rfl (fun ls hl => ?_)
            refine lv_goto (pc := 94) (tgt := 4) hx hb d_QC_highestParent_94 (by decide) ?_
            exact ih l2 (l3 + (1 : Int32)) hk hr _ _ _ hW (lv_sub hl [4, 5, 6, 0] rfl)
          · have hk := hk.2 c24
            have hr := (if_neg c24).symm.trans hr
            refine lv_iload (pc := 78) hx hb d_QC_highestParent_78 (lv_at hl 1 rfl) ?_
            refine lv_if_ne (pc := 80) (tgt := 88) hx hb d_QC_highestParent_80 (by decide) (fun c25 => ?_) (fun c25 => ?_)
            · have hk := hk.2 c25
              have hr := (if_neg c25).symm.trans hr
              refine lv_iload (pc := 88) hx hb d_QC_highestParent_88 (lv_at hl 2 rfl) ?_
              refine lv_istore_n (pc := 90) (lv' := [(2, .int r3), (6, .int (1 : Int32)), (5, .int r5), (4, .int r3), (0, .ref (ad (1, 0, 0))), (1, .ref (ad (4, i1, 0))), (3, .int l3)]) hx hb d_QC_highestParent_90 rfl hl (by decide) rfl (fun ls hl => ?_)
              refine lv_iinc (pc := 91) (v := l3 + (1 : Int32)) (lv' := [(3, .int (l3 + (1 : Int32))), (2, .int r3), (6, .int (1 : Int32)), (5, .int r5), (4, .int r3), (0, .ref (ad (1, 0, 0))), (1, .ref (ad (4, i1, 0)))]) (k := 6) hx hb d_QC_highestParent_91 hl rfl (z_inc (by decide)) (by decide) rfl (fun ls hl => ?_)
              refine lv_goto (pc := 94) (tgt := 4) hx hb d_QC_highestParent_94 (by decide) ?_
              exact ih r3 (l3 + (1 : Int32)) hk hr _ _ _ hW (lv_sub hl [5, 6, 1, 0] rfl)
            · have hk := hk.1 c25
              have hr := (if_pos c25).symm.trans hr
              refine lv_iload (pc := 83) hx hb d_QC_highestParent_83 (lv_at hl 0 rfl) ?_
              refine lv_if_eq (pc := 85) (tgt := 91) hx hb d_QC_highestParent_85 (by decide) (fun c26 => ?_) (fun c26 => ?_)
              · have hk := hk.1 c26
                have hr := (if_pos c26).symm.trans hr
                refine lv_iinc (pc := 91) (v := l3 + (1 : Int32)) (lv' := [(3, .int (l3 + (1 : Int32))), (6, .int (1 : Int32)), (5, .int r5), (4, .int r3), (0, .ref (ad (1, 0, 0))), (1, .ref (ad (4, i1, 0))), (2, .int l2)]) (k := 6) hx hb d_QC_highestParent_91 hl rfl (z_inc (by decide)) (by decide) rfl (fun ls hl => ?_)
                refine lv_goto (pc := 94) (tgt := 4) hx hb d_QC_highestParent_94 (by decide) ?_
                exact ih l2 (l3 + (1 : Int32)) hk hr _ _ _ hW (lv_sub hl [4, 5, 6, 0] rfl)
              · have hk := hk.2 c26
                have hr := (if_neg c26).symm.trans hr
                refine lv_iload (pc := 88) hx hb d_QC_highestParent_88 (lv_at hl 2 rfl) ?_
                refine lv_istore_n (pc := 90) (lv' := [(2, .int r3), (6, .int (1 : Int32)), (5, .int r5), (4, .int r3), (0, .ref (ad (1, 0, 0))), (1, .ref (ad (4, i1, 0))), (3, .int l3)]) hx hb d_QC_highestParent_90 rfl hl (by decide) rfl (fun ls hl => ?_)
                refine lv_iinc (pc := 91) (v := l3 + (1 : Int32)) (lv' := [(3, .int (l3 + (1 : Int32))), (2, .int r3), (6, .int (1 : Int32)), (5, .int r5), (4, .int r3), (0, .ref (ad (1, 0, 0))), (1, .ref (ad (4, i1, 0)))]) (k := 6) hx hb d_QC_highestParent_91 hl rfl (z_inc (by decide)) (by decide) rfl (fun ls hl => ?_)
                refine lv_goto (pc := 94) (tgt := 4) hx hb d_QC_highestParent_94 (by decide) ?_
                exact ih r3 (l3 + (1 : Int32)) hk hr _ _ _ hW (lv_sub hl [5, 6, 1, 0] rfl)
def f_QC_highestParent (i1 : Nat) (S : St) : Int32 :=
  f_QC_highestParent_4 i1 200 S (0 : Int32) (1 : Int32)
def ok_QC_highestParent (i1 : Nat) (S : St) : Prop :=
  ok_QC_highestParent_4 i1 200 S (0 : Int32) (1 : Int32)
set_option maxHeartbeats 4000000 in
set_option maxRecDepth 100000 in
theorem c_QC_highestParent (l : Launch) (D : va_G) (X : va_W) (ad : N3 → Nat) (ca : Nat → ClassId) (i1 : Nat) (h1 : i1 < 4) (S : St) (hk : ok_QC_highestParent i1 S) : cI l GG D clQ (tysQ ca) nwQ X ad TQ (cfQ ad ca) y_QC_highestParent b_QC_highestParent 7 .int 3 64 [.ref (ad (1, 0, 0)), .ref (ad (4, i1, 0))] S ((f_QC_highestParent i1 S), S) := by
  generalize hr : f_QC_highestParent i1 S = res
  refine zI_of pn_QC (Nat.le_of_ble_eq_true rfl) (fun p e s m below meth c A ls hy hW hA hl => ?_)
  have hF := hy.1
  have hx := hF.1
  have hb := hF.2.1
  have hK := hy.2.2.2
  have hl : lv_has ls 7 [(0, .ref (ad (1, 0, 0))), (1, .ref (ad (4, i1, 0)))] := hl
  refine lv_iconst (pc := 0) (v := 0) hx hb d_QC_highestParent_0 (by decide) ?_
  refine lv_istore_n (pc := 1) (lv' := [(2, .int (0 : Int32)), (0, .ref (ad (1, 0, 0))), (1, .ref (ad (4, i1, 0)))]) hx hb d_QC_highestParent_1 rfl hl (by decide) rfl (fun ls hl => ?_)
  refine lv_iconst (pc := 2) (v := 1) hx hb d_QC_highestParent_2 (by decide) ?_
  refine lv_istore_n (pc := 3) (lv' := [(3, .int (1 : Int32)), (2, .int (0 : Int32)), (0, .ref (ad (1, 0, 0))), (1, .ref (ad (4, i1, 0)))]) hx hb d_QC_highestParent_3 rfl hl (by decide) rfl (fun ls hl => ?_)
  exact w_QC_highestParent_4 i1 h1 S hy hA 200 (0 : Int32) (1 : Int32) hk hr _ _ _ hW (lv_sub hl [2, 3, 1, 0] rfl)
end
section
theorem d_Fold_pair_0 : decode b_Fold_pair 0 = .ok (.ldc2_w 13, 3) := by decide +kernel
theorem d_Fold_pair_3 : decode b_Fold_pair 3 = .ok (.lload_n 0, 1) := by decide +kernel
theorem d_Fold_pair_4 : decode b_Fold_pair 4 = .ok (.invokestatic 15, 3) := by decide +kernel
theorem d_Fold_pair_7 : decode b_Fold_pair 7 = .ok (.lload_n 2, 1) := by decide +kernel
theorem d_Fold_pair_8 : decode b_Fold_pair 8 = .ok (.invokestatic 15, 3) := by decide +kernel
theorem d_Fold_pair_11 : decode b_Fold_pair 11 = .ok (.invokestatic 19, 3) := by decide +kernel
theorem d_Fold_pair_14 : decode b_Fold_pair 14 = .ok (.lreturn, 1) := by decide +kernel
def f_Fold_pair (a0 : Int64) (a2 : Int64) (S : St) : Int64 :=
  lt (f_Fold_absorb (-7046029254386353131 : Int64) a0 S) fun (r1 : Int64) =>
  lt (f_Fold_absorb r1 a2 S) fun (r2 : Int64) =>
  lt (f_Fold_finish r2 S) fun (r3 : Int64) =>
  r3
set_option maxHeartbeats 4000000 in
set_option maxRecDepth 100000 in
theorem c_Fold_pair (l : Launch) (D : va_G) (X : va_W) (ad : N3 → Nat) (ca : Nat → ClassId) (a0 : Int64) (a2 : Int64)  (S : St) : cL l GG D clQ (tysQ ca) nwQ X ad TQ (cfQ ad ca) y_Fold_pair b_Fold_pair 4 .long 1 25 [.long a0, .long a2] S ((f_Fold_pair a0 a2 S), S) := by
  generalize hr : f_Fold_pair a0 a2 S = res
  refine zL_of pn_Fold (Nat.le_of_ble_eq_true rfl) (fun p e s m below meth c A ls hy hW hA hl => ?_)
  have hF := hy.1
  have hx := hF.1
  have hb := hF.2.1
  have hK := hy.2.2.2
  have hl : lv_has ls 4 [(0, .long a0), (2, .long a2)] := hl
  refine lv_ldc2 (pc := 0) hx hb hF.2.2.2.1 (hF.2.2.2.2 _ gw_243) d_Fold_pair_0 ?_
  refine lv_lload_n (pc := 3) hx hb d_Fold_pair_3 rfl (lv_at hl 0 rfl) ?_
  obtain ⟨r1, er1⟩ : ∃ z : Int64, z = f_Fold_absorb (-7046029254386353131 : Int64) a0 S := ⟨_, rfl⟩
  have hr := lt_e er1 hr
  refine z_goL (pc := 4) hW hA (congrArg (fun q => (q, S)) er1) (z_runS hF hK hW (c_Fold_absorb l D X ad ca (-7046029254386353131 : Int64) a0 S _) cd_Fold_absorb gw_244 ⟨Nat.le_of_ble_eq_true rfl, Nat.le_of_ble_eq_true rfl⟩ ⟨Nat.zero_le _, Nat.zero_le _⟩ rfl rfl hl.1 (Nat.le_of_ble_eq_true rfl) d_Fold_pair_4) (fun H locs (hW : Wd D clQ A s.heap (zw X ad TQ (cfQ ad ca) S) H locs) => ?_)
  refine lv_lload_n (pc := 7) hx hb d_Fold_pair_7 rfl (lv_at hl 1 rfl) ?_
  obtain ⟨r2, er2⟩ : ∃ z : Int64, z = f_Fold_absorb r1 a2 S := ⟨_, rfl⟩
  have hr := lt_e er2 hr
  refine z_goL (pc := 8) hW hA (congrArg (fun q => (q, S)) er2) (z_runS hF hK hW (c_Fold_absorb l D X ad ca r1 a2 S _) cd_Fold_absorb gw_244 ⟨Nat.le_of_ble_eq_true rfl, Nat.le_of_ble_eq_true rfl⟩ ⟨Nat.zero_le _, Nat.zero_le _⟩ rfl rfl hl.1 (Nat.le_of_ble_eq_true rfl) d_Fold_pair_8) (fun H locs (hW : Wd D clQ A s.heap (zw X ad TQ (cfQ ad ca) S) H locs) => ?_)
  obtain ⟨r3, er3⟩ : ∃ z : Int64, z = f_Fold_finish r2 S := ⟨_, rfl⟩
  have hr := lt_e er3 hr
  refine z_goL (pc := 11) hW hA (congrArg (fun q => (q, S)) er3) (z_runS hF hK hW (c_Fold_finish l D X ad ca r2 S _) cd_Fold_finish gw_246 ⟨Nat.le_of_ble_eq_true rfl, Nat.le_of_ble_eq_true rfl⟩ ⟨Nat.zero_le _, Nat.zero_le _⟩ rfl rfl hl.1 (Nat.le_of_ble_eq_true rfl) d_Fold_pair_11) (fun H locs (hW : Wd D clQ A s.heap (zw X ad TQ (cfQ ad ca) S) H locs) => ?_)
  exact z_lret (v := r3) hy hW (congrArg (fun z => (z, S)) hr.symm) d_Fold_pair_14
theorem d_KeyTree_isGood_0 : decode b_KeyTree_isGood 0 = .ok (.aload_n 1, 1) := by decide +kernel
theorem d_KeyTree_isGood_1 : decode b_KeyTree_isGood 1 = .ok (.invokevirtual 44, 3) := by decide +kernel
theorem d_KeyTree_isGood_4 : decode b_KeyTree_isGood 4 = .ok (.invokestatic 48, 3) := by decide +kernel
theorem d_KeyTree_isGood_7 : decode b_KeyTree_isGood 7 = .ok (.istore_n 2, 1) := by decide +kernel
theorem d_KeyTree_isGood_8 : decode b_KeyTree_isGood 8 = .ok (.ldc2_w 67, 3) := by decide +kernel
theorem d_KeyTree_isGood_11 : decode b_KeyTree_isGood 11 = .ok (.lstore_n 3, 1) := by decide +kernel
theorem d_KeyTree_isGood_12 : decode b_KeyTree_isGood 12 = .ok (.iconst 0, 1) := by decide +kernel
theorem d_KeyTree_isGood_13 : decode b_KeyTree_isGood 13 = .ok (.istore 5, 2) := by decide +kernel
theorem d_KeyTree_isGood_15 : decode b_KeyTree_isGood 15 = .ok (.iload 5, 2) := by decide +kernel
theorem d_KeyTree_isGood_17 : decode b_KeyTree_isGood 17 = .ok (.bipush 6, 2) := by decide +kernel
theorem d_KeyTree_isGood_19 : decode b_KeyTree_isGood 19 = .ok (.if_icmp .ge 33, 3) := by decide +kernel
theorem d_KeyTree_isGood_22 : decode b_KeyTree_isGood 22 = .ok (.lload_n 3, 1) := by decide +kernel
theorem d_KeyTree_isGood_23 : decode b_KeyTree_isGood 23 = .ok (.aload_n 1, 1) := by decide +kernel
theorem d_KeyTree_isGood_24 : decode b_KeyTree_isGood 24 = .ok (.getfield 52, 3) := by decide +kernel
theorem d_KeyTree_isGood_27 : decode b_KeyTree_isGood 27 = .ok (.iload 5, 2) := by decide +kernel
theorem d_KeyTree_isGood_29 : decode b_KeyTree_isGood 29 = .ok (.laload, 1) := by decide +kernel
theorem d_KeyTree_isGood_30 : decode b_KeyTree_isGood 30 = .ok (.bipush 15, 2) := by decide +kernel
theorem d_KeyTree_isGood_32 : decode b_KeyTree_isGood 32 = .ok (.iload_n 2, 1) := by decide +kernel
theorem d_KeyTree_isGood_33 : decode b_KeyTree_isGood 33 = .ok (.iload 5, 2) := by decide +kernel
theorem d_KeyTree_isGood_35 : decode b_KeyTree_isGood 35 = .ok (.invokestatic 59, 3) := by decide +kernel
theorem d_KeyTree_isGood_38 : decode b_KeyTree_isGood 38 = .ok (.isub, 1) := by decide +kernel
theorem d_KeyTree_isGood_39 : decode b_KeyTree_isGood 39 = .ok (.invokestatic 63, 3) := by decide +kernel
theorem d_KeyTree_isGood_42 : decode b_KeyTree_isGood 42 = .ok (.invokestatic 69, 3) := by decide +kernel
theorem d_KeyTree_isGood_45 : decode b_KeyTree_isGood 45 = .ok (.lstore_n 3, 1) := by decide +kernel
theorem d_KeyTree_isGood_46 : decode b_KeyTree_isGood 46 = .ok (.iinc 5 1, 3) := by decide +kernel
theorem d_KeyTree_isGood_49 : decode b_KeyTree_isGood 49 = .ok (.goto (-34), 3) := by decide +kernel
theorem d_KeyTree_isGood_52 : decode b_KeyTree_isGood 52 = .ok (.lload_n 3, 1) := by decide +kernel
theorem d_KeyTree_isGood_53 : decode b_KeyTree_isGood 53 = .ok (.invokestatic 72, 3) := by decide +kernel
theorem d_KeyTree_isGood_56 : decode b_KeyTree_isGood 56 = .ok (.lstore_n 3, 1) := by decide +kernel
theorem d_KeyTree_isGood_57 : decode b_KeyTree_isGood 57 = .ok (.bipush 32, 2) := by decide +kernel
theorem d_KeyTree_isGood_59 : decode b_KeyTree_isGood 59 = .ok (.aload_n 1, 1) := by decide +kernel
theorem d_KeyTree_isGood_60 : decode b_KeyTree_isGood 60 = .ok (.getfield 39, 3) := by decide +kernel
theorem d_KeyTree_isGood_63 : decode b_KeyTree_isGood 63 = .ok (.iadd, 1) := by decide +kernel
theorem d_KeyTree_isGood_64 : decode b_KeyTree_isGood 64 = .ok (.istore 5, 2) := by decide +kernel
theorem d_KeyTree_isGood_66 : decode b_KeyTree_isGood 66 = .ok (.iconst 0, 1) := by decide +kernel
theorem d_KeyTree_isGood_67 : decode b_KeyTree_isGood 67 = .ok (.istore 6, 2) := by decide +kernel
theorem d_KeyTree_isGood_69 : decode b_KeyTree_isGood 69 = .ok (.iload 6, 2) := by decide +kernel
theorem d_KeyTree_isGood_71 : decode b_KeyTree_isGood 71 = .ok (.iconst 5, 1) := by decide +kernel
theorem d_KeyTree_isGood_72 : decode b_KeyTree_isGood 72 = .ok (.if_icmp .ge 50, 3) := by decide +kernel
theorem d_KeyTree_isGood_75 : decode b_KeyTree_isGood 75 = .ok (.aload_n 1, 1) := by decide +kernel
theorem d_KeyTree_isGood_76 : decode b_KeyTree_isGood 76 = .ok (.getfield 52, 3) := by decide +kernel
theorem d_KeyTree_isGood_79 : decode b_KeyTree_isGood 79 = .ok (.bipush 6, 2) := by decide +kernel
theorem d_KeyTree_isGood_81 : decode b_KeyTree_isGood 81 = .ok (.iload 6, 2) := by decide +kernel
theorem d_KeyTree_isGood_83 : decode b_KeyTree_isGood 83 = .ok (.iadd, 1) := by decide +kernel
theorem d_KeyTree_isGood_84 : decode b_KeyTree_isGood 84 = .ok (.laload, 1) := by decide +kernel
theorem d_KeyTree_isGood_85 : decode b_KeyTree_isGood 85 = .ok (.lstore 7, 2) := by decide +kernel
theorem d_KeyTree_isGood_87 : decode b_KeyTree_isGood 87 = .ok (.iload 5, 2) := by decide +kernel
theorem d_KeyTree_isGood_89 : decode b_KeyTree_isGood 89 = .ok (.iconst 1, 1) := by decide +kernel
theorem d_KeyTree_isGood_90 : decode b_KeyTree_isGood 90 = .ok (.iand, 1) := by decide +kernel
theorem d_KeyTree_isGood_91 : decode b_KeyTree_isGood 91 = .ok (.ifCond .ne 12, 3) := by decide +kernel
theorem d_KeyTree_isGood_94 : decode b_KeyTree_isGood 94 = .ok (.lload_n 3, 1) := by decide +kernel
theorem d_KeyTree_isGood_95 : decode b_KeyTree_isGood 95 = .ok (.lload 7, 2) := by decide +kernel
theorem d_KeyTree_isGood_97 : decode b_KeyTree_isGood 97 = .ok (.invokestatic 26, 3) := by decide +kernel
theorem d_KeyTree_isGood_100 : decode b_KeyTree_isGood 100 = .ok (.goto 9, 3) := by decide +kernel
theorem d_KeyTree_isGood_103 : decode b_KeyTree_isGood 103 = .ok (.lload 7, 2) := by decide +kernel
theorem d_KeyTree_isGood_105 : decode b_KeyTree_isGood 105 = .ok (.lload_n 3, 1) := by decide +kernel
theorem d_KeyTree_isGood_106 : decode b_KeyTree_isGood 106 = .ok (.invokestatic 26, 3) := by decide +kernel
theorem d_KeyTree_isGood_109 : decode b_KeyTree_isGood 109 = .ok (.lstore_n 3, 1) := by decide +kernel
theorem d_KeyTree_isGood_110 : decode b_KeyTree_isGood 110 = .ok (.iload 5, 2) := by decide +kernel
theorem d_KeyTree_isGood_112 : decode b_KeyTree_isGood 112 = .ok (.iconst 1, 1) := by decide +kernel
theorem d_KeyTree_isGood_113 : decode b_KeyTree_isGood 113 = .ok (.ishr, 1) := by decide +kernel
theorem d_KeyTree_isGood_114 : decode b_KeyTree_isGood 114 = .ok (.istore 5, 2) := by decide +kernel
theorem d_KeyTree_isGood_116 : decode b_KeyTree_isGood 116 = .ok (.iinc 6 1, 3) := by decide +kernel
theorem d_KeyTree_isGood_119 : decode b_KeyTree_isGood 119 = .ok (.goto (-50), 3) := by decide +kernel
theorem d_KeyTree_isGood_122 : decode b_KeyTree_isGood 122 = .ok (.lload_n 3, 1) := by decide +kernel
theorem d_KeyTree_isGood_123 : decode b_KeyTree_isGood 123 = .ok (.aload_n 0, 1) := by decide +kernel
theorem d_KeyTree_isGood_124 : decode b_KeyTree_isGood 124 = .ok (.invokevirtual 76, 3) := by decide +kernel
theorem d_KeyTree_isGood_127 : decode b_KeyTree_isGood 127 = .ok (.lcmp, 1) := by decide +kernel
theorem d_KeyTree_isGood_128 : decode b_KeyTree_isGood 128 = .ok (.ifCond .ne 7, 3) := by decide +kernel
theorem d_KeyTree_isGood_131 : decode b_KeyTree_isGood 131 = .ok (.iconst 1, 1) := by decide +kernel
theorem d_KeyTree_isGood_132 : decode b_KeyTree_isGood 132 = .ok (.goto 4, 3) := by decide +kernel
theorem d_KeyTree_isGood_135 : decode b_KeyTree_isGood 135 = .ok (.iconst 0, 1) := by decide +kernel
theorem d_KeyTree_isGood_136 : decode b_KeyTree_isGood 136 = .ok (.ireturn, 1) := by decide +kernel
def f_KeyTree_isGood_69 (i0 : Nat) (i1 : Nat) (j1 : Nat) : Nat → St → Int64 → Int32 → Int32 → Int32
  | 0, _, _, _, _ => 0
  | n + 1, S, l3, l5, l6 =>
    if (5 : Int32) ≤ l6 then
      lt (f_KeyTree_top i0 S) fun (r13 : Int64) =>
      if (lg_cmp l3 r13) = 0 then
        (1 : Int32)
      else
        (0 : Int32)
    else
      if (l5 &&& (1 : Int32)) = 0 then
        lt (f_Fold_pair l3 (S.2.1 15 i1 j1 ((6 : Int32) + l6).toNatClampNeg) S) fun (r18 : Int64) =>
        f_KeyTree_isGood_69 i0 i1 j1 n S r18 (l5 >>> ((1 : Int32) &&& 31)) (l6 + (1 : Int32))
      else
        lt (f_Fold_pair (S.2.1 15 i1 j1 ((6 : Int32) + l6).toNatClampNeg) l3 S) fun (r17 : Int64) =>
        f_KeyTree_isGood_69 i0 i1 j1 n S r17 (l5 >>> ((1 : Int32) &&& 31)) (l6 + (1 : Int32))
def ok_KeyTree_isGood_69 (i0 : Nat) (i1 : Nat) (j1 : Nat) : Nat → St → Int64 → Int32 → Int32 → Prop
  | 0, _, _, _, _ => False
  | n + 1, S, l3, l5, l6 =>
    ((5 : Int32) ≤ l6 → (
      True)) ∧ (¬ ((5 : Int32) ≤ l6) → (
      (vp_in ((6 : Int32) + l6) 11) ∧ (
        ((l5 &&& (1 : Int32)) = 0 → (
          lt (f_Fold_pair l3 (S.2.1 15 i1 j1 ((6 : Int32) + l6).toNatClampNeg) S) fun (r18 : Int64) =>
          ok_KeyTree_isGood_69 i0 i1 j1 n S r18 (l5 >>> ((1 : Int32) &&& 31)) (l6 + (1 : Int32)))) ∧ (¬ ((l5 &&& (1 : Int32)) = 0) → (
          lt (f_Fold_pair (S.2.1 15 i1 j1 ((6 : Int32) + l6).toNatClampNeg) l3 S) fun (r17 : Int64) =>
          ok_KeyTree_isGood_69 i0 i1 j1 n S r17 (l5 >>> ((1 : Int32) &&& 31)) (l6 + (1 : Int32)))))))
set_option maxHeartbeats 4000000 in
set_option maxRecDepth 100000 in
theorem w_KeyTree_isGood_69 {l : Launch} {D : va_G} {X : va_W} {ad : N3 → Nat} {ca : Nat → ClassId} (i0 : Nat) (i1 : Nat) (j1 : Nat) (h0 : i0 < 4) (h1 : inM i1 j1) (S : St) {p : Program} {e : Env} {s : State} {m : MethodId} {below : List Frame} {meth : Method} {c : Code} {A : Nat → Prop} (hy : Hy p s m ([.ref (ad (10, i0, 0)), .ref (ad (14, i1, j1))] : List Value).toArray meth c b_KeyTree_isGood 9 (some .boolean) R_KeyTree GG D clQ (tysQ ca) nwQ) (hA : ∀ q, s.heap.size ≤ q → A q) {res : Int32} : ∀ (n : Nat) (l3 : Int64) (l5 : Int32) (l6 : Int32) , ok_KeyTree_isGood_69 i0 i1 j1 n S l3 l5 l6 → f_KeyTree_isGood_69 i0 i1 j1 n S l3 l5 l6 = res → ∀ (H : Heap) (locs : List Loc) (ls : Array Slot), Wd D clQ A s.heap (zw X ad TQ (cfQ ad ca) S) H locs → lv_has ls 9 [(0, .ref (ad (10, i0, 0))), (1, .ref (ad (14, i1, j1))), (3, .long l3), (5, .int l5), (6, .int l6)] → W p l e { frames := 2, cells := 0, slots := 0, locals := 50 } s m ([.ref (ad (10, i0, 0)), .ref (ad (14, i1, j1))] : List Value).toArray below meth c H locs 0 0 (MQ below (eI D clQ X ad TQ (cfQ ad ca) A (res, S)) ([.ref (ad (10, i0, 0)), .ref (ad (14, i1, j1))] : List Value).toArray s 0 0 A) (F0 m 69 ls []) := by
  have hF := hy.1
  have hx := hF.1
  have hb := hF.2.1
  have hK := hy.2.2.2
  intro n
  induction n with
  | zero =>
    intro l3 l5 l6 hk
    exact hk.elim
  | succ n ih =>
    intro l3 l5 l6 hk hr H locs ls hW hl
    refine lv_iload (pc := 69) hx hb d_KeyTree_isGood_69 (lv_at hl 4 rfl) ?_
    refine lv_iconst (pc := 71) (v := 5) hx hb d_KeyTree_isGood_71 (by decide) ?_
    refine lv_icmp_ge (pc := 72) (tgt := 122) hx hb d_KeyTree_isGood_72 (by decide) (fun c12 => ?_) (fun c12 => ?_)
    · have hk := hk.1 c12
      have hr := (if_pos c12).symm.trans hr
      refine lv_lload_n (pc := 122) hx hb d_KeyTree_isGood_122 rfl (lv_at hl 2 rfl) ?_
      refine lv_aload_n (pc := 123) hx hb d_KeyTree_isGood_123 rfl (lv_at hl 0 rfl) ?_
      obtain ⟨r13, er13⟩ : ∃ z : Int64, z = f_KeyTree_top i0 S := ⟨_, rfl⟩
      have hr := lt_e er13 hr
      refine z_goL (pc := 124) hW hA (congrArg (fun q => (q, S)) er13) (z_runV hF hK hW (c_KeyTree_top l D X ad ca i0 h0 S _) cd_KeyTree_top gw_677 (tq10 h0) rfl rfl ⟨Nat.le_of_ble_eq_true rfl, Nat.le_of_ble_eq_true rfl⟩ ⟨Nat.zero_le _, Nat.zero_le _⟩ rfl rfl hl.1 (Nat.le_of_ble_eq_true rfl) d_KeyTree_isGood_124) (fun H locs (hW : Wd D clQ A s.heap (zw X ad TQ (cfQ ad ca) S) H locs) => ?_)
      refine W.lcmp (pc := 127) hx hb d_KeyTree_isGood_127 ?_
      refine lv_if_ne (pc := 128) (tgt := 135) hx hb d_KeyTree_isGood_128 (by decide) (fun c14 => ?_) (fun c14 => ?_)
      · have hr := (if_neg c14).symm.trans hr
        refine lv_iconst (pc := 135) (v := 0) hx hb d_KeyTree_isGood_135 (by decide) ?_
        exact z_zret (v := (0 : Int32)) hy hW rfl (congrArg (fun z => (z, S)) hr.symm) d_KeyTree_isGood_136
      · have hr := (if_pos c14).symm.trans hr
        refine lv_iconst (pc := 131) (v := 1) hx hb d_KeyTree_isGood_131 (by decide) ?_
        refine lv_goto (pc := 132) (tgt := 136) hx hb d_KeyTree_isGood_132 (by decide) ?_
        exact z_zret (v := (1 : Int32)) hy hW rfl (congrArg (fun z => (z, S)) hr.symm) d_KeyTree_isGood_136
    · have hk := hk.2 c12
      have hr := (if_neg c12).symm.trans hr
      refine lv_aload_n (pc := 75) hx hb d_KeyTree_isGood_75 rfl (lv_at hl 1 rfl) ?_
      refine z_get (pc := 76) (v := .ref (ad (15, i1, j1))) hF hK.1 hW (tq14 h1) rfl rfl in_Message 0 (by decide) gw_137 rfl rfl d_KeyTree_isGood_76 ?_
      refine lv_bipush (pc := 79) (v := 6) hx hb d_KeyTree_isGood_79 (by decide) ?_
      refine lv_iload (pc := 81) hx hb d_KeyTree_isGood_81 (lv_at hl 4 rfl) ?_
      refine lv_iadd (pc := 83) hx hb d_KeyTree_isGood_83 ?_
      have b15 := hk.1
      have hk := hk.2
      refine z_lald (pc := 84) (v := S.2.1 15 i1 j1 ((6 : Int32) + l6).toNatClampNeg) hF hK.1 hW (tq15 h1) 1 rfl rfl b15 rfl d_KeyTree_isGood_84 ?_
      refine lv_lstore (pc := 85) (lv' := [(7, .long (S.2.1 15 i1 j1 ((6 : Int32) + l6).toNatClampNeg)), (0, .ref (ad (10, i0, 0))), (1, .ref (ad (14, i1, j1))), (3, .long l3), (5, .int l5), (6, .int l6)]) hx hb d_KeyTree_isGood_85 hl (by decide) rfl (fun ls hl => ?_)
      refine lv_iload (pc := 87) hx hb d_KeyTree_isGood_87 (lv_at hl 4 rfl) ?_
      refine lv_iconst (pc := 89) (v := 1) hx hb d_KeyTree_isGood_89 (by decide) ?_
      refine lv_iand (pc := 90) hx hb d_KeyTree_isGood_90 ?_
      refine lv_if_ne (pc := 91) (tgt := 103) hx hb d_KeyTree_isGood_91 (by decide) (fun c16 => ?_) (fun c16 => ?_)
      · have hk := hk.2 c16
        have hr := (if_neg c16).symm.trans hr
        refine lv_lload (pc := 103) hx hb d_KeyTree_isGood_103 (lv_at hl 0 rfl) ?_
        refine lv_lload_n (pc := 105) hx hb d_KeyTree_isGood_105 rfl (lv_at hl 3 rfl) ?_
        obtain ⟨r17, er17⟩ : ∃ z : Int64, z = f_Fold_pair (S.2.1 15 i1 j1 ((6 : Int32) + l6).toNatClampNeg) l3 S := ⟨_, rfl⟩
        have hk := lt_p er17 hk
        have hr := lt_e er17 hr
        refine z_goL (pc := 106) hW hA (congrArg (fun q => (q, S)) er17) (z_runS hF hK hW (c_Fold_pair l D X ad ca (S.2.1 15 i1 j1 ((6 : Int32) + l6).toNatClampNeg) l3 S _) cd_Fold_pair gw_247 ⟨Nat.le_of_ble_eq_true rfl, Nat.le_of_ble_eq_true rfl⟩ ⟨Nat.zero_le _, Nat.zero_le _⟩ rfl rfl hl.1 (Nat.le_of_ble_eq_true rfl) d_KeyTree_isGood_106) (fun H locs (hW : Wd D clQ A s.heap (zw X ad TQ (cfQ ad ca) S) H locs) => ?_)
        refine lv_lstore_n (pc := 109) (lv' := [(3, .long r17), (7, .long (S.2.1 15 i1 j1 ((6 : Int32) + l6).toNatClampNeg)), (0, .ref (ad (10, i0, 0))), (1, .ref (ad (14, i1, j1))), (5, .int l5), (6, .int l6)]) hx hb d_KeyTree_isGood_109 rfl hl (by decide) rfl (fun ls hl => ?_)
        refine lv_iload (pc := 110) hx hb d_KeyTree_isGood_110 (lv_at hl 4 rfl) ?_
        refine lv_iconst (pc := 112) (v := 1) hx hb d_KeyTree_isGood_112 (by decide) ?_
        refine lv_ishr (pc := 113) hx hb d_KeyTree_isGood_113 ?_
        refine lv_istore (pc := 114) (lv' := [(5, .int (l5 >>> ((1 : Int32) &&& 31))), (3, .long r17), (7, .long (S.2.1 15 i1 j1 ((6 : Int32) + l6).toNatClampNeg)), (0, .ref (ad (10, i0, 0))), (1, .ref (ad (14, i1, j1))), (6, .int l6)]) hx hb d_KeyTree_isGood_114 hl (by decide) rfl (fun ls hl => ?_)
        refine lv_iinc (pc := 116) (v := l6 + (1 : Int32)) (lv' := [(6, .int (l6 + (1 : Int32))), (5, .int (l5 >>> ((1 : Int32) &&& 31))), (3, .long r17), (7, .long (S.2.1 15 i1 j1 ((6 : Int32) + l6).toNatClampNeg)), (0, .ref (ad (10, i0, 0))), (1, .ref (ad (14, i1, j1)))]) (k := 5) hx hb d_KeyTree_isGood_116 hl rfl (z_inc (by decide)) (by decide) rfl (fun ls hl => ?_)
        refine lv_goto (pc := 119) (tgt := 69) hx hb d_KeyTree_isGood_119 (by decide) ?_
        exact ih r17 (l5 >>> ((1 : Int32) &&& 31)) (l6 + (1 : Int32)) hk hr _ _ _ hW (lv_sub hl [4, 5, 2, 1, 0] rfl)
      · have hk := hk.1 c16
        have hr := (if_pos c16).symm.trans hr
        refine lv_lload_n (pc := 94) hx hb d_KeyTree_isGood_94 rfl (lv_at hl 3 rfl) ?_
        refine lv_lload (pc := 95) hx hb d_KeyTree_isGood_95 (lv_at hl 0 rfl) ?_
        obtain ⟨r18, er18⟩ : ∃ z : Int64, z = f_Fold_pair l3 (S.2.1 15 i1 j1 ((6 : Int32) + l6).toNatClampNeg) S := ⟨_, rfl⟩
        have hk := lt_p er18 hk
        have hr := lt_e er18 hr
        refine z_goL (pc := 97) hW hA (congrArg (fun q => (q, S)) er18) (z_runS hF hK hW (c_Fold_pair l D X ad ca l3 (S.2.1 15 i1 j1 ((6 : Int32) + l6).toNatClampNeg) S _) cd_Fold_pair gw_247 ⟨Nat.le_of_ble_eq_true rfl, Nat.le_of_ble_eq_true rfl⟩ ⟨Nat.zero_le _, Nat.zero_le _⟩ rfl rfl hl.1 (Nat.le_of_ble_eq_true rfl) d_KeyTree_isGood_97) (fun H locs (hW : Wd D clQ A s.heap (zw X ad TQ (cfQ ad ca) S) H locs) => ?_)
        refine lv_goto (pc := 100) (tgt := 109) hx hb d_KeyTree_isGood_100 (by decide) ?_
        refine lv_lstore_n (pc := 109) (lv' := [(3, .long r18), (7, .long (S.2.1 15 i1 j1 ((6 : Int32) + l6).toNatClampNeg)), (0, .ref (ad (10, i0, 0))), (1, .ref (ad (14, i1, j1))), (5, .int l5), (6, .int l6)]) hx hb d_KeyTree_isGood_109 rfl hl (by decide) rfl (fun ls hl => ?_)
        refine lv_iload (pc := 110) hx hb d_KeyTree_isGood_110 (lv_at hl 4 rfl) ?_
        refine lv_iconst (pc := 112) (v := 1) hx hb d_KeyTree_isGood_112 (by decide) ?_
        refine lv_ishr (pc := 113) hx hb d_KeyTree_isGood_113 ?_
        refine lv_istore (pc := 114) (lv' := [(5, .int (l5 >>> ((1 : Int32) &&& 31))), (3, .long r18), (7, .long (S.2.1 15 i1 j1 ((6 : Int32) + l6).toNatClampNeg)), (0, .ref (ad (10, i0, 0))), (1, .ref (ad (14, i1, j1))), (6, .int l6)]) hx hb d_KeyTree_isGood_114 hl (by decide) rfl (fun ls hl => ?_)
        refine lv_iinc (pc := 116) (v := l6 + (1 : Int32)) (lv' := [(6, .int (l6 + (1 : Int32))), (5, .int (l5 >>> ((1 : Int32) &&& 31))), (3, .long r18), (7, .long (S.2.1 15 i1 j1 ((6 : Int32) + l6).toNatClampNeg)), (0, .ref (ad (10, i0, 0))), (1, .ref (ad (14, i1, j1)))]) (k := 5) hx hb d_KeyTree_isGood_116 hl rfl (z_inc (by decide)) (by decide) rfl (fun ls hl => ?_)
        refine lv_goto (pc := 119) (tgt := 69) hx hb d_KeyTree_isGood_119 (by decide) ?_
        exact ih r18 (l5 >>> ((1 : Int32) &&& 31)) (l6 + (1 : Int32)) hk hr _ _ _ hW (lv_sub hl [4, 5, 2, 1, 0] rfl)
def f_KeyTree_isGood_15 (i0 : Nat) (i1 : Nat) (j1 : Nat) : Nat → St → Int32 → Int64 → Int32 → Int32
  | 0, _, _, _, _ => 0
  | n + 1, S, l2, l3, l5 =>
    if (6 : Int32) ≤ l5 then
      lt (f_Fold_finish l3 S) fun (r6 : Int64) =>
      f_KeyTree_isGood_69 i0 i1 j1 200 S r6 ((32 : Int32) + (S.1 14 i1 j1 5)) (0 : Int32)
    else
      lt (f_KeyTree_digit l2 l5 S) fun (r8 : Int32) =>
      lt (f_Fold_afterSteps (S.2.1 15 i1 j1 l5.toNatClampNeg) ((15 : Int32) - r8) S) fun (r10 : Int64) =>
      lt (f_Fold_absorb l3 r10 S) fun (r11 : Int64) =>
      f_KeyTree_isGood_15 i0 i1 j1 n S l2 r11 (l5 + (1 : Int32))
def ok_KeyTree_isGood_15 (i0 : Nat) (i1 : Nat) (j1 : Nat) : Nat → St → Int32 → Int64 → Int32 → Prop
  | 0, _, _, _, _ => False
  | n + 1, S, l2, l3, l5 =>
    ((6 : Int32) ≤ l5 → (
      lt (f_Fold_finish l3 S) fun (r6 : Int64) =>
      ok_KeyTree_isGood_69 i0 i1 j1 200 S r6 ((32 : Int32) + (S.1 14 i1 j1 5)) (0 : Int32))) ∧ (¬ ((6 : Int32) ≤ l5) → (
      (vp_in l5 11) ∧ (
        lt (f_KeyTree_digit l2 l5 S) fun (r8 : Int32) =>
        (ok_Fold_afterSteps (S.2.1 15 i1 j1 l5.toNatClampNeg) ((15 : Int32) - r8) S) ∧ (
          lt (f_Fold_afterSteps (S.2.1 15 i1 j1 l5.toNatClampNeg) ((15 : Int32) - r8) S) fun (r10 : Int64) =>
          lt (f_Fold_absorb l3 r10 S) fun (r11 : Int64) =>
          ok_KeyTree_isGood_15 i0 i1 j1 n S l2 r11 (l5 + (1 : Int32))))))
set_option maxHeartbeats 4000000 in
set_option maxRecDepth 100000 in
theorem w_KeyTree_isGood_15 {l : Launch} {D : va_G} {X : va_W} {ad : N3 → Nat} {ca : Nat → ClassId} (i0 : Nat) (i1 : Nat) (j1 : Nat) (h0 : i0 < 4) (h1 : inM i1 j1) (S : St) {p : Program} {e : Env} {s : State} {m : MethodId} {below : List Frame} {meth : Method} {c : Code} {A : Nat → Prop} (hy : Hy p s m ([.ref (ad (10, i0, 0)), .ref (ad (14, i1, j1))] : List Value).toArray meth c b_KeyTree_isGood 9 (some .boolean) R_KeyTree GG D clQ (tysQ ca) nwQ) (hA : ∀ q, s.heap.size ≤ q → A q) {res : Int32} : ∀ (n : Nat) (l2 : Int32) (l3 : Int64) (l5 : Int32) , ok_KeyTree_isGood_15 i0 i1 j1 n S l2 l3 l5 → f_KeyTree_isGood_15 i0 i1 j1 n S l2 l3 l5 = res → ∀ (H : Heap) (locs : List Loc) (ls : Array Slot), Wd D clQ A s.heap (zw X ad TQ (cfQ ad ca) S) H locs → lv_has ls 9 [(0, .ref (ad (10, i0, 0))), (1, .ref (ad (14, i1, j1))), (2, .int l2), (3, .long l3), (5, .int l5)] → W p l e { frames := 2, cells := 0, slots := 0, locals := 50 } s m ([.ref (ad (10, i0, 0)), .ref (ad (14, i1, j1))] : List Value).toArray below meth c H locs 0 0 (MQ below (eI D clQ X ad TQ (cfQ ad ca) A (res, S)) ([.ref (ad (10, i0, 0)), .ref (ad (14, i1, j1))] : List Value).toArray s 0 0 A) (F0 m 15 ls []) := by
  have hF := hy.1
  have hx := hF.1
  have hb := hF.2.1
  have hK := hy.2.2.2
  intro n
  induction n with
  | zero =>
    intro l2 l3 l5 hk
    exact hk.elim
  | succ n ih =>
    intro l2 l3 l5 hk hr H locs ls hW hl
    refine lv_iload (pc := 15) hx hb d_KeyTree_isGood_15 (lv_at hl 4 rfl) ?_
    refine lv_bipush (pc := 17) (v := 6) hx hb d_KeyTree_isGood_17 (by decide) ?_
    refine lv_icmp_ge (pc := 19) (tgt := 52) hx hb d_KeyTree_isGood_19 (by decide) (fun c5 => ?_) (fun c5 => ?_)
    · have hk := hk.1 c5
      have hr := (if_pos c5).symm.trans hr
      refine lv_lload_n (pc := 52) hx hb d_KeyTree_isGood_52 rfl (lv_at hl 3 rfl) ?_
      obtain ⟨r6, er6⟩ : ∃ z : Int64, z = f_Fold_finish l3 S := ⟨_, rfl⟩
      have hk := lt_p er6 hk
      have hr := lt_e er6 hr
      refine z_goL (pc := 53) hW hA (congrArg (fun q => (q, S)) er6) (z_runS hF hK hW (c_Fold_finish l D X ad ca l3 S _) cd_Fold_finish gw_236 ⟨Nat.le_of_ble_eq_true rfl, Nat.le_of_ble_eq_true rfl⟩ ⟨Nat.zero_le _, Nat.zero_le _⟩ rfl rfl hl.1 (Nat.le_of_ble_eq_true rfl) d_KeyTree_isGood_53) (fun H locs (hW : Wd D clQ A s.heap (zw X ad TQ (cfQ ad ca) S) H locs) => ?_)
      refine lv_lstore_n (pc := 56) (lv' := [(3, .long r6), (0, .ref (ad (10, i0, 0))), (1, .ref (ad (14, i1, j1))), (2, .int l2), (5, .int l5)]) hx hb d_KeyTree_isGood_56 rfl hl (by decide) rfl (fun ls hl => ?_)
      refine lv_bipush (pc := 57) (v := 32) hx hb d_KeyTree_isGood_57 (by decide) ?_
      refine lv_aload_n (pc := 59) hx hb d_KeyTree_isGood_59 rfl (lv_at hl 2 rfl) ?_
      refine z_get (pc := 60) (v := .int (S.1 14 i1 j1 5)) hF hK.1 hW (tq14 h1) rfl rfl in_Message 5 (by decide) gw_148 rfl rfl d_KeyTree_isGood_60 ?_
      refine lv_iadd (pc := 63) hx hb d_KeyTree_isGood_63 ?_
      refine lv_istore (pc := 64) (lv' := [(5, .int ((32 : Int32) + (S.1 14 i1 j1 5))), (3, .long r6), (0, .ref (ad (10, i0, 0))), (1, .ref (ad (14, i1, j1))), (2, .int l2)]) hx hb d_KeyTree_isGood_64 hl (by decide) rfl (fun ls hl => ?_)
      refine lv_iconst (pc := 66) (v := 0) hx hb d_KeyTree_isGood_66 (by decide) ?_
      refine lv_istore (pc := 67) (lv' := [(6, .int (0 : Int32)), (5, .int ((32 : Int32) + (S.1 14 i1 j1 5))), (3, .long r6), (0, .ref (ad (10, i0, 0))), (1, .ref (ad (14, i1, j1))), (2, .int l2)]) hx hb d_KeyTree_isGood_67 hl (by decide) rfl (fun ls hl => ?_)
      exact w_KeyTree_isGood_69 i0 i1 j1 h0 h1 S hy hA 200 r6 ((32 : Int32) + (S.1 14 i1 j1 5)) (0 : Int32) hk hr _ _ _ hW (lv_sub hl [3, 4, 2, 1, 0] rfl)
    · have hk := hk.2 c5
      have hr := (if_neg c5).symm.trans hr
      refine lv_lload_n (pc := 22) hx hb d_KeyTree_isGood_22 rfl (lv_at hl 3 rfl) ?_
      refine lv_aload_n (pc := 23) hx hb d_KeyTree_isGood_23 rfl (lv_at hl 1 rfl) ?_
      refine z_get (pc := 24) (v := .ref (ad (15, i1, j1))) hF hK.1 hW (tq14 h1) rfl rfl in_Message 0 (by decide) gw_137 rfl rfl d_KeyTree_isGood_24 ?_
      refine lv_iload (pc := 27) hx hb d_KeyTree_isGood_27 (lv_at hl 4 rfl) ?_
      have b7 := hk.1
      have hk := hk.2
      refine z_lald (pc := 29) (v := S.2.1 15 i1 j1 l5.toNatClampNeg) hF hK.1 hW (tq15 h1) 1 rfl rfl b7 rfl d_KeyTree_isGood_29 ?_
      refine lv_bipush (pc := 30) (v := 15) hx hb d_KeyTree_isGood_30 (by decide) ?_
      refine lv_iload_n (pc := 32) hx hb d_KeyTree_isGood_32 rfl (lv_at hl 2 rfl) ?_
      refine lv_iload (pc := 33) hx hb d_KeyTree_isGood_33 (lv_at hl 4 rfl) ?_
      obtain ⟨r8, er8⟩ : ∃ z : Int32, z = f_KeyTree_digit l2 l5 S := ⟨_, rfl⟩
      have hk := lt_p er8 hk
      have hr := lt_e er8 hr
      refine z_goI (pc := 35) hW hA (congrArg (fun q => (q, S)) er8) (z_runS hF hK hW (c_KeyTree_digit l D X ad ca l2 l5 S _) cd_KeyTree_digit gw_404 ⟨Nat.le_of_ble_eq_true rfl, Nat.le_of_ble_eq_true rfl⟩ ⟨Nat.zero_le _, Nat.zero_le _⟩ rfl rfl hl.1 (Nat.le_of_ble_eq_true rfl) d_KeyTree_isGood_35) (fun H locs (hW : Wd D clQ A s.heap (zw X ad TQ (cfQ ad ca) S) H locs) => ?_)
      refine lv_isub (pc := 38) hx hb d_KeyTree_isGood_38 ?_
      have o9 := hk.1
      have hk := hk.2
      obtain ⟨r10, er10⟩ : ∃ z : Int64, z = f_Fold_afterSteps (S.2.1 15 i1 j1 l5.toNatClampNeg) ((15 : Int32) - r8) S := ⟨_, rfl⟩
      have hk := lt_p er10 hk
      have hr := lt_e er10 hr
      refine z_goL (pc := 39) hW hA (congrArg (fun q => (q, S)) er10) (z_runS hF hK hW (c_Fold_afterSteps l D X ad ca (S.2.1 15 i1 j1 l5.toNatClampNeg) ((15 : Int32) - r8) S o9 _) cd_Fold_afterSteps gw_240 ⟨Nat.le_of_ble_eq_true rfl, Nat.le_of_ble_eq_true rfl⟩ ⟨Nat.zero_le _, Nat.zero_le _⟩ rfl rfl hl.1 (Nat.le_of_ble_eq_true rfl) d_KeyTree_isGood_39) (fun H locs (hW : Wd D clQ A s.heap (zw X ad TQ (cfQ ad ca) S) H locs) => ?_)
      obtain ⟨r11, er11⟩ : ∃ z : Int64, z = f_Fold_absorb l3 r10 S := ⟨_, rfl⟩
      have hk := lt_p er11 hk
      have hr := lt_e er11 hr
      refine z_goL (pc := 42) hW hA (congrArg (fun q => (q, S)) er11) (z_runS hF hK hW (c_Fold_absorb l D X ad ca l3 r10 S _) cd_Fold_absorb gw_232 ⟨Nat.le_of_ble_eq_true rfl, Nat.le_of_ble_eq_true rfl⟩ ⟨Nat.zero_le _, Nat.zero_le _⟩ rfl rfl hl.1 (Nat.le_of_ble_eq_true rfl) d_KeyTree_isGood_42) (fun H locs (hW : Wd D clQ A s.heap (zw X ad TQ (cfQ ad ca) S) H locs) => ?_)
      refine lv_lstore_n (pc := 45) (lv' := [(3, .long r11), (0, .ref (ad (10, i0, 0))), (1, .ref (ad (14, i1, j1))), (2, .int l2), (5, .int l5)]) hx hb d_KeyTree_isGood_45 rfl hl (by decide) rfl (fun ls hl => ?_)
      refine lv_iinc (pc := 46) (v := l5 + (1 : Int32)) (lv' := [(5, .int (l5 + (1 : Int32))), (3, .long r11), (0, .ref (ad (10, i0, 0))), (1, .ref (ad (14, i1, j1))), (2, .int l2)]) (k := 4) hx hb d_KeyTree_isGood_46 hl rfl (z_inc (by decide)) (by decide) rfl (fun ls hl => ?_)
      refine lv_goto (pc := 49) (tgt := 15) hx hb d_KeyTree_isGood_49 (by decide) ?_
      exact ih l2 r11 (l5 + (1 : Int32)) hk hr _ _ _ hW (lv_sub hl [2, 3, 4, 1, 0] rfl)
def f_KeyTree_isGood (i0 : Nat) (i1 : Nat) (j1 : Nat) (S : St) : Int32 :=
  lt (f_Message_meaning i1 j1 S) fun (r2 : Int64) =>
  lt (f_KeyTree_digitsOf r2 S) fun (r4 : Int32) =>
  f_KeyTree_isGood_15 i0 i1 j1 200 S r4 (-7046029254386353131 : Int64) (0 : Int32)
def ok_KeyTree_isGood (i0 : Nat) (i1 : Nat) (j1 : Nat) (S : St) : Prop :=
  (ok_Message_meaning i1 j1 S) ∧ (
    lt (f_Message_meaning i1 j1 S) fun (r2 : Int64) =>
    (ok_KeyTree_digitsOf r2 S) ∧ (
      lt (f_KeyTree_digitsOf r2 S) fun (r4 : Int32) =>
      ok_KeyTree_isGood_15 i0 i1 j1 200 S r4 (-7046029254386353131 : Int64) (0 : Int32)))
set_option maxHeartbeats 4000000 in
set_option maxRecDepth 100000 in
theorem c_KeyTree_isGood (l : Launch) (D : va_G) (X : va_W) (ad : N3 → Nat) (ca : Nat → ClassId) (i0 : Nat) (i1 : Nat) (j1 : Nat) (h0 : i0 < 4) (h1 : inM i1 j1) (S : St) (hk : ok_KeyTree_isGood i0 i1 j1 S) : cI l GG D clQ (tysQ ca) nwQ X ad TQ (cfQ ad ca) y_KeyTree_isGood b_KeyTree_isGood 9 .boolean 2 50 [.ref (ad (10, i0, 0)), .ref (ad (14, i1, j1))] S ((f_KeyTree_isGood i0 i1 j1 S), S) := by
  generalize hr : f_KeyTree_isGood i0 i1 j1 S = res
  refine zI_of pn_KeyTree (Nat.le_of_ble_eq_true rfl) (fun p e s m below meth c A ls hy hW hA hl => ?_)
  have hF := hy.1
  have hx := hF.1
  have hb := hF.2.1
  have hK := hy.2.2.2
  have hl : lv_has ls 9 [(0, .ref (ad (10, i0, 0))), (1, .ref (ad (14, i1, j1)))] := hl
  refine lv_aload_n (pc := 0) hx hb d_KeyTree_isGood_0 rfl (lv_at hl 1 rfl) ?_
  have o1 := hk.1
  have hk := hk.2
  obtain ⟨r2, er2⟩ : ∃ z : Int64, z = f_Message_meaning i1 j1 S := ⟨_, rfl⟩
  have hk := lt_p er2 hk
  have hr := lt_e er2 hr
  refine z_goL (pc := 1) hW hA (congrArg (fun q => (q, S)) er2) (z_runV hF hK hW (c_Message_meaning l D X ad ca i1 j1 h1 S o1 _) cd_Message_meaning gw_393 (tq14 h1) rfl rfl ⟨Nat.le_of_ble_eq_true rfl, Nat.le_of_ble_eq_true rfl⟩ ⟨Nat.zero_le _, Nat.zero_le _⟩ rfl rfl hl.1 (Nat.le_of_ble_eq_true rfl) d_KeyTree_isGood_1) (fun H locs (hW : Wd D clQ A s.heap (zw X ad TQ (cfQ ad ca) S) H locs) => ?_)
  have o3 := hk.1
  have hk := hk.2
  obtain ⟨r4, er4⟩ : ∃ z : Int32, z = f_KeyTree_digitsOf r2 S := ⟨_, rfl⟩
  have hk := lt_p er4 hk
  have hr := lt_e er4 hr
  refine z_goI (pc := 4) hW hA (congrArg (fun q => (q, S)) er4) (z_runS hF hK hW (c_KeyTree_digitsOf l D X ad ca r2 S o3 _) cd_KeyTree_digitsOf gw_400 ⟨Nat.le_of_ble_eq_true rfl, Nat.le_of_ble_eq_true rfl⟩ ⟨Nat.zero_le _, Nat.zero_le _⟩ rfl rfl hl.1 (Nat.le_of_ble_eq_true rfl) d_KeyTree_isGood_4) (fun H locs (hW : Wd D clQ A s.heap (zw X ad TQ (cfQ ad ca) S) H locs) => ?_)
  refine lv_istore_n (pc := 7) (lv' := [(2, .int r4), (0, .ref (ad (10, i0, 0))), (1, .ref (ad (14, i1, j1)))]) hx hb d_KeyTree_isGood_7 rfl hl (by decide) rfl (fun ls hl => ?_)
  refine lv_ldc2 (pc := 8) hx hb hF.2.2.2.1 (hF.2.2.2.2 _ gw_228) d_KeyTree_isGood_8 ?_
  refine lv_lstore_n (pc := 11) (lv' := [(3, .long (-7046029254386353131 : Int64)), (2, .int r4), (0, .ref (ad (10, i0, 0))), (1, .ref (ad (14, i1, j1)))]) hx hb d_KeyTree_isGood_11 rfl hl (by decide) rfl (fun ls hl => ?_)
  refine lv_iconst (pc := 12) (v := 0) hx hb d_KeyTree_isGood_12 (by decide) ?_
  refine lv_istore (pc := 13) (lv' := [(5, .int (0 : Int32)), (3, .long (-7046029254386353131 : Int64)), (2, .int r4), (0, .ref (ad (10, i0, 0))), (1, .ref (ad (14, i1, j1)))]) hx hb d_KeyTree_isGood_13 hl (by decide) rfl (fun ls hl => ?_)
  exact w_KeyTree_isGood_15 i0 i1 j1 h0 h1 S hy hA 200 r4 (-7046029254386353131 : Int64) (0 : Int32) hk hr _ _ _ hW (lv_sub hl [3, 4, 2, 1, 0] rfl)
end
section
theorem d_QC_isHeard_0 : decode b_QC_isHeard 0 = .ok (.aload_n 1, 1) := by decide +kernel
theorem d_QC_isHeard_1 : decode b_QC_isHeard 1 = .ok (.getfield 123, 3) := by decide +kernel
theorem d_QC_isHeard_4 : decode b_QC_isHeard 4 = .ok (.iconst 4, 1) := by decide +kernel
theorem d_QC_isHeard_5 : decode b_QC_isHeard 5 = .ok (.if_icmp .eq 11, 3) := by decide +kernel
theorem d_QC_isHeard_8 : decode b_QC_isHeard 8 = .ok (.aload_n 1, 1) := by decide +kernel
theorem d_QC_isHeard_9 : decode b_QC_isHeard 9 = .ok (.getfield 123, 3) := by decide +kernel
theorem d_QC_isHeard_12 : decode b_QC_isHeard 12 = .ok (.iconst 5, 1) := by decide +kernel
theorem d_QC_isHeard_13 : decode b_QC_isHeard 13 = .ok (.if_icmp .ne 5, 3) := by decide +kernel
theorem d_QC_isHeard_16 : decode b_QC_isHeard 16 = .ok (.iconst 1, 1) := by decide +kernel
theorem d_QC_isHeard_17 : decode b_QC_isHeard 17 = .ok (.ireturn, 1) := by decide +kernel
theorem d_QC_isHeard_18 : decode b_QC_isHeard 18 = .ok (.aload_n 1, 1) := by decide +kernel
theorem d_QC_isHeard_19 : decode b_QC_isHeard 19 = .ok (.getfield 123, 3) := by decide +kernel
theorem d_QC_isHeard_22 : decode b_QC_isHeard 22 = .ok (.iconst 1, 1) := by decide +kernel
theorem d_QC_isHeard_23 : decode b_QC_isHeard 23 = .ok (.if_icmp .ne 26, 3) := by decide +kernel
theorem d_QC_isHeard_26 : decode b_QC_isHeard 26 = .ok (.aload_n 0, 1) := by decide +kernel
theorem d_QC_isHeard_27 : decode b_QC_isHeard 27 = .ok (.getfield 18, 3) := by decide +kernel
theorem d_QC_isHeard_30 : decode b_QC_isHeard 30 = .ok (.aload_n 1, 1) := by decide +kernel
theorem d_QC_isHeard_31 : decode b_QC_isHeard 31 = .ok (.getfield 129, 3) := by decide +kernel
theorem d_QC_isHeard_34 : decode b_QC_isHeard 34 = .ok (.invokevirtual 203, 3) := by decide +kernel
theorem d_QC_isHeard_37 : decode b_QC_isHeard 37 = .ok (.invokestatic 173, 3) := by decide +kernel
theorem d_QC_isHeard_40 : decode b_QC_isHeard 40 = .ok (.aload_n 1, 1) := by decide +kernel
theorem d_QC_isHeard_41 : decode b_QC_isHeard 41 = .ok (.getfield 126, 3) := by decide +kernel
theorem d_QC_isHeard_44 : decode b_QC_isHeard 44 = .ok (.if_icmp .eq 5, 3) := by decide +kernel
theorem d_QC_isHeard_47 : decode b_QC_isHeard 47 = .ok (.iconst 0, 1) := by decide +kernel
theorem d_QC_isHeard_48 : decode b_QC_isHeard 48 = .ok (.ireturn, 1) := by decide +kernel
theorem d_QC_isHeard_49 : decode b_QC_isHeard 49 = .ok (.aload_n 1, 1) := by decide +kernel
theorem d_QC_isHeard_50 : decode b_QC_isHeard 50 = .ok (.getfield 126, 3) := by decide +kernel
theorem d_QC_isHeard_53 : decode b_QC_isHeard 53 = .ok (.invokestatic 68, 3) := by decide +kernel
theorem d_QC_isHeard_56 : decode b_QC_isHeard 56 = .ok (.ifCond .eq 29, 3) := by decide +kernel
theorem d_QC_isHeard_59 : decode b_QC_isHeard 59 = .ok (.aload_n 0, 1) := by decide +kernel
theorem d_QC_isHeard_60 : decode b_QC_isHeard 60 = .ok (.getfield 11, 3) := by decide +kernel
theorem d_QC_isHeard_63 : decode b_QC_isHeard 63 = .ok (.aload_n 1, 1) := by decide +kernel
theorem d_QC_isHeard_64 : decode b_QC_isHeard 64 = .ok (.getfield 126, 3) := by decide +kernel
theorem d_QC_isHeard_67 : decode b_QC_isHeard 67 = .ok (.aaload, 1) := by decide +kernel
theorem d_QC_isHeard_68 : decode b_QC_isHeard 68 = .ok (.getfield 179, 3) := by decide +kernel
theorem d_QC_isHeard_71 : decode b_QC_isHeard 71 = .ok (.getfield 183, 3) := by decide +kernel
theorem d_QC_isHeard_74 : decode b_QC_isHeard 74 = .ok (.aload_n 1, 1) := by decide +kernel
theorem d_QC_isHeard_75 : decode b_QC_isHeard 75 = .ok (.invokevirtual 306, 3) := by decide +kernel
theorem d_QC_isHeard_78 : decode b_QC_isHeard 78 = .ok (.ifCond .eq 7, 3) := by decide +kernel
theorem d_QC_isHeard_81 : decode b_QC_isHeard 81 = .ok (.iconst 1, 1) := by decide +kernel
theorem d_QC_isHeard_82 : decode b_QC_isHeard 82 = .ok (.goto 4, 3) := by decide +kernel
theorem d_QC_isHeard_85 : decode b_QC_isHeard 85 = .ok (.iconst 0, 1) := by decide +kernel
theorem d_QC_isHeard_86 : decode b_QC_isHeard 86 = .ok (.ireturn, 1) := by decide +kernel
def f_QC_isHeard_49 (i1 : Nat) (j1 : Nat) (S : St)  : Int32 :=
  lt (f_QC_isNode (S.1 14 i1 j1 2) S) fun (r8 : Int32) =>
  if r8 = 0 then
    (0 : Int32)
  else
    lt (f_KeyTree_isGood ((S.1 14 i1 j1 2).toNatClampNeg) i1 j1 S) fun (r12 : Int32) =>
    if r12 = 0 then
      (0 : Int32)
    else
      (1 : Int32)
def ok_QC_isHeard_49 (i1 : Nat) (j1 : Nat) (S : St)  : Prop :=
  lt (f_QC_isNode (S.1 14 i1 j1 2) S) fun (r8 : Int32) =>
  (r8 = 0 → (
    True)) ∧ (¬ (r8 = 0) → (
    (vp_in (S.1 14 i1 j1 2) 4) ∧ (
      (ok_KeyTree_isGood ((S.1 14 i1 j1 2).toNatClampNeg) i1 j1 S) ∧ (
        True))))
set_option maxHeartbeats 4000000 in
set_option maxRecDepth 100000 in
theorem w_QC_isHeard_49 {l : Launch} {D : va_G} {X : va_W} {ad : N3 → Nat} {ca : Nat → ClassId} (i1 : Nat) (j1 : Nat) (h1 : inM i1 j1) (S : St) {p : Program} {e : Env} {s : State} {m : MethodId} {below : List Frame} {meth : Method} {c : Code} {A : Nat → Prop} (hy : Hy p s m ([.ref (ad (1, 0, 0)), .ref (ad (14, i1, j1))] : List Value).toArray meth c b_QC_isHeard 2 (some .boolean) R_QC GG D clQ (tysQ ca) nwQ) (hA : ∀ q, s.heap.size ≤ q → A q) {res : Int32} : ok_QC_isHeard_49 i1 j1 S → f_QC_isHeard_49 i1 j1 S = res → ∀ (H : Heap) (locs : List Loc) (ls : Array Slot), Wd D clQ A s.heap (zw X ad TQ (cfQ ad ca) S) H locs → lv_has ls 2 [(0, .ref (ad (1, 0, 0))), (1, .ref (ad (14, i1, j1)))] → W p l e { frames := 3, cells := 0, slots := 0, locals := 78 } s m ([.ref (ad (1, 0, 0)), .ref (ad (14, i1, j1))] : List Value).toArray below meth c H locs 0 0 (MQ below (eI D clQ X ad TQ (cfQ ad ca) A (res, S)) ([.ref (ad (1, 0, 0)), .ref (ad (14, i1, j1))] : List Value).toArray s 0 0 A) (F0 m 49 ls []) := by
  have hF := hy.1
  have hx := hF.1
  have hb := hF.2.1
  have hK := hy.2.2.2
  intro  hk hr H locs ls hW hl
  refine lv_aload_n (pc := 49) hx hb d_QC_isHeard_49 rfl (lv_at hl 1 rfl) ?_
  refine z_get (pc := 50) (v := .int (S.1 14 i1 j1 2)) hF hK.1 hW (tq14 h1) rfl rfl in_Message 2 (by decide) gw_142 rfl rfl d_QC_isHeard_50 ?_
  obtain ⟨r8, er8⟩ : ∃ z : Int32, z = f_QC_isNode (S.1 14 i1 j1 2) S := ⟨_, rfl⟩
  have hk := lt_p er8 hk
  have hr := lt_e er8 hr
  refine z_goI (pc := 53) hW hA (congrArg (fun q => (q, S)) er8) (z_runS hF hK hW (c_QC_isNode l D X ad ca (S.1 14 i1 j1 2) S _) cd_QC_isNode gw_430 ⟨Nat.le_of_ble_eq_true rfl, Nat.le_of_ble_eq_true rfl⟩ ⟨Nat.zero_le _, Nat.zero_le _⟩ rfl rfl hl.1 (Nat.le_of_ble_eq_true rfl) d_QC_isHeard_53) (fun H locs (hW : Wd D clQ A s.heap (zw X ad TQ (cfQ ad ca) S) H locs) => ?_)
  refine lv_if_eq (pc := 56) (tgt := 85) hx hb d_QC_isHeard_56 (by decide) (fun c9 => ?_) (fun c9 => ?_)
  · have hk := hk.1 c9
    have hr := (if_pos c9).symm.trans hr
    refine lv_iconst (pc := 85) (v := 0) hx hb d_QC_isHeard_85 (by decide) ?_
    exact z_zret (v := (0 : Int32)) hy hW rfl (congrArg (fun z => (z, S)) hr.symm) d_QC_isHeard_86
  · have hk := hk.2 c9
    have hr := (if_neg c9).symm.trans hr
    refine lv_aload_n (pc := 59) hx hb d_QC_isHeard_59 rfl (lv_at hl 0 rfl) ?_
    refine z_get (pc := 60) (v := .ref (ad (2, 0, 0))) hF hK.1 hW tq1 rfl rfl in_QC 0 (by decide) gw_344 rfl rfl d_QC_isHeard_60 ?_
    refine lv_aload_n (pc := 63) hx hb d_QC_isHeard_63 rfl (lv_at hl 1 rfl) ?_
    refine z_get (pc := 64) (v := .int (S.1 14 i1 j1 2)) hF hK.1 hW (tq14 h1) rfl rfl in_Message 2 (by decide) gw_142 rfl rfl d_QC_isHeard_64 ?_
    have b10 := hk.1
    have hk := hk.2
    refine z_aald (pc := 67) (q := ad (3, ((S.1 14 i1 j1 2).toNatClampNeg), 0)) hF hK.1 hW tq2 3 rfl rfl b10 rfl d_QC_isHeard_67 ?_
    refine z_get (pc := 68) (v := .ref (ad (4, ((S.1 14 i1 j1 2).toNatClampNeg), 0))) hF hK.1 hW (tq3 (vin4 b10)) rfl rfl in_Node 1 (by decide) gw_298 rfl rfl d_QC_isHeard_68 ?_
    refine z_get (pc := 71) (v := .ref (ad (10, ((S.1 14 i1 j1 2).toNatClampNeg), 0))) hF hK.1 hW (tq4 (vin4 b10)) rfl rfl in_Store 3 (by decide) gw_270 rfl rfl d_QC_isHeard_71 ?_
    refine lv_aload_n (pc := 74) hx hb d_QC_isHeard_74 rfl (lv_at hl 1 rfl) ?_
    have o11 := hk.1
    have hk := hk.2
    obtain ⟨r12, er12⟩ : ∃ z : Int32, z = f_KeyTree_isGood ((S.1 14 i1 j1 2).toNatClampNeg) i1 j1 S := ⟨_, rfl⟩
    have hr := lt_e er12 hr
    refine z_goI (pc := 75) hW hA (congrArg (fun q => (q, S)) er12) (z_runV hF hK hW (c_KeyTree_isGood l D X ad ca ((S.1 14 i1 j1 2).toNatClampNeg) i1 j1 (vin4 b10) h1 S o11 _) cd_KeyTree_isGood gw_673 (tq10 (vin4 b10)) rfl rfl ⟨Nat.le_of_ble_eq_true rfl, Nat.le_of_ble_eq_true rfl⟩ ⟨Nat.zero_le _, Nat.zero_le _⟩ rfl rfl hl.1 (Nat.le_of_ble_eq_true rfl) d_QC_isHeard_75) (fun H locs (hW : Wd D clQ A s.heap (zw X ad TQ (cfQ ad ca) S) H locs) => ?_)
    refine lv_if_eq (pc := 78) (tgt := 85) hx hb d_QC_isHeard_78 (by decide) (fun c13 => ?_) (fun c13 => ?_)
    · have hr := (if_pos c13).symm.trans hr
      refine lv_iconst (pc := 85) (v := 0) hx hb d_QC_isHeard_85 (by decide) ?_
      exact z_zret (v := (0 : Int32)) hy hW rfl (congrArg (fun z => (z, S)) hr.symm) d_QC_isHeard_86
    · have hr := (if_neg c13).symm.trans hr
      refine lv_iconst (pc := 81) (v := 1) hx hb d_QC_isHeard_81 (by decide) ?_
      refine lv_goto (pc := 82) (tgt := 86) hx hb d_QC_isHeard_82 (by decide) ?_
      exact z_zret (v := (1 : Int32)) hy hW rfl (congrArg (fun z => (z, S)) hr.symm) d_QC_isHeard_86
def f_QC_isHeard (i1 : Nat) (j1 : Nat) (S : St) : Int32 :=
  if (S.1 14 i1 j1 1) = (4 : Int32) then
    (1 : Int32)
  else
    if (S.1 14 i1 j1 1) = (5 : Int32) then
      (1 : Int32)
    else
      if (S.1 14 i1 j1 1) = (1 : Int32) then
        lt (f_Blocks_viewOf (S.1 14 i1 j1 3) S) fun (r5 : Int32) =>
        lt (f_QC_leaderOf r5 S) fun (r6 : Int32) =>
        if r6 = (S.1 14 i1 j1 2) then
          f_QC_isHeard_49 i1 j1 S
        else
          (0 : Int32)
      else
        f_QC_isHeard_49 i1 j1 S
def ok_QC_isHeard (i1 : Nat) (j1 : Nat) (S : St) : Prop :=
  ((S.1 14 i1 j1 1) = (4 : Int32) → (
    True)) ∧ (¬ ((S.1 14 i1 j1 1) = (4 : Int32)) → (
    ((S.1 14 i1 j1 1) = (5 : Int32) → (
      True)) ∧ (¬ ((S.1 14 i1 j1 1) = (5 : Int32)) → (
      ((S.1 14 i1 j1 1) = (1 : Int32) → (
        (ok_Blocks_viewOf (S.1 14 i1 j1 3) S) ∧ (
          lt (f_Blocks_viewOf (S.1 14 i1 j1 3) S) fun (r5 : Int32) =>
          lt (f_QC_leaderOf r5 S) fun (r6 : Int32) =>
          (r6 = (S.1 14 i1 j1 2) → (
            ok_QC_isHeard_49 i1 j1 S)) ∧ (¬ (r6 = (S.1 14 i1 j1 2)) → (
            True))))) ∧ (¬ ((S.1 14 i1 j1 1) = (1 : Int32)) → (
        ok_QC_isHeard_49 i1 j1 S))))))
set_option maxHeartbeats 4000000 in
set_option maxRecDepth 100000 in
theorem c_QC_isHeard (l : Launch) (D : va_G) (X : va_W) (ad : N3 → Nat) (ca : Nat → ClassId) (i1 : Nat) (j1 : Nat) (h1 : inM i1 j1) (S : St) (hk : ok_QC_isHeard i1 j1 S) : cI l GG D clQ (tysQ ca) nwQ X ad TQ (cfQ ad ca) y_QC_isHeard b_QC_isHeard 2 .boolean 3 78 [.ref (ad (1, 0, 0)), .ref (ad (14, i1, j1))] S ((f_QC_isHeard i1 j1 S), S) := by
  generalize hr : f_QC_isHeard i1 j1 S = res
  refine zI_of pn_QC (Nat.le_of_ble_eq_true rfl) (fun p e s m below meth c A ls hy hW hA hl => ?_)
  have hF := hy.1
  have hx := hF.1
  have hb := hF.2.1
  have hK := hy.2.2.2
  have hl : lv_has ls 2 [(0, .ref (ad (1, 0, 0))), (1, .ref (ad (14, i1, j1)))] := hl
  refine lv_aload_n (pc := 0) hx hb d_QC_isHeard_0 rfl (lv_at hl 1 rfl) ?_
  refine z_get (pc := 1) (v := .int (S.1 14 i1 j1 1)) hF hK.1 hW (tq14 h1) rfl rfl in_Message 1 (by decide) gw_140 rfl rfl d_QC_isHeard_1 ?_
  refine lv_iconst (pc := 4) (v := 4) hx hb d_QC_isHeard_4 (by decide) ?_
  refine lv_icmp_eq (pc := 5) (tgt := 16) hx hb d_QC_isHeard_5 (by decide) (fun c1 => ?_) (fun c1 => ?_)
  · have hk := hk.1 c1
    have hr := (if_pos c1).symm.trans hr
    refine lv_iconst (pc := 16) (v := 1) hx hb d_QC_isHeard_16 (by decide) ?_
    exact z_zret (v := (1 : Int32)) hy hW rfl (congrArg (fun z => (z, S)) hr.symm) d_QC_isHeard_17
  · have hk := hk.2 c1
    have hr := (if_neg c1).symm.trans hr
    refine lv_aload_n (pc := 8) hx hb d_QC_isHeard_8 rfl (lv_at hl 1 rfl) ?_
    refine z_get (pc := 9) (v := .int (S.1 14 i1 j1 1)) hF hK.1 hW (tq14 h1) rfl rfl in_Message 1 (by decide) gw_140 rfl rfl d_QC_isHeard_9 ?_
    refine lv_iconst (pc := 12) (v := 5) hx hb d_QC_isHeard_12 (by decide) ?_
    refine lv_icmp_ne (pc := 13) (tgt := 18) hx hb d_QC_isHeard_13 (by decide) (fun c2 => ?_) (fun c2 => ?_)
    · have hk := hk.2 c2
      have hr := (if_neg c2).symm.trans hr
      refine lv_aload_n (pc := 18) hx hb d_QC_isHeard_18 rfl (lv_at hl 1 rfl) ?_
      refine z_get (pc := 19) (v := .int (S.1 14 i1 j1 1)) hF hK.1 hW (tq14 h1) rfl rfl in_Message 1 (by decide) gw_140 rfl rfl d_QC_isHeard_19 ?_
      refine lv_iconst (pc := 22) (v := 1) hx hb d_QC_isHeard_22 (by decide) ?_
      refine lv_icmp_ne (pc := 23) (tgt := 49) hx hb d_QC_isHeard_23 (by decide) (fun c3 => ?_) (fun c3 => ?_)
      · have hk := hk.2 c3
        have hr := (if_neg c3).symm.trans hr
        exact w_QC_isHeard_49 i1 j1 h1 S hy hA  hk hr _ _ _ hW (lv_sub hl [0, 1] rfl)
      · have hk := hk.1 c3
        have hr := (if_pos c3).symm.trans hr
        refine lv_aload_n (pc := 26) hx hb d_QC_isHeard_26 rfl (lv_at hl 0 rfl) ?_
        refine z_get (pc := 27) (v := .ref (ad (19, 0, 0))) hF hK.1 hW tq1 rfl rfl in_QC 1 (by decide) gw_345 rfl rfl d_QC_isHeard_27 ?_
        refine lv_aload_n (pc := 30) hx hb d_QC_isHeard_30 rfl (lv_at hl 1 rfl) ?_
        refine z_get (pc := 31) (v := .int (S.1 14 i1 j1 3)) hF hK.1 hW (tq14 h1) rfl rfl in_Message 3 (by decide) gw_144 rfl rfl d_QC_isHeard_31 ?_
        have o4 := hk.1
        have hk := hk.2
        obtain ⟨r5, er5⟩ : ∃ z : Int32, z = f_Blocks_viewOf (S.1 14 i1 j1 3) S := ⟨_, rfl⟩
        have hk := lt_p er5 hk
        have hr := lt_e er5 hr
        refine z_goI (pc := 34) hW hA (congrArg (fun q => (q, S)) er5) (z_runV hF hK hW (c_Blocks_viewOf l D X ad ca (S.1 14 i1 j1 3) S o4 _) cd_Blocks_viewOf gw_456 tq19 rfl rfl ⟨Nat.le_of_ble_eq_true rfl, Nat.le_of_ble_eq_true rfl⟩ ⟨Nat.zero_le _, Nat.zero_le _⟩ rfl rfl hl.1 (Nat.le_of_ble_eq_true rfl) d_QC_isHeard_34) (fun H locs (hW : Wd D clQ A s.heap (zw X ad TQ (cfQ ad ca) S) H locs) => ?_)
        obtain ⟨r6, er6⟩ : ∃ z : Int32, z = f_QC_leaderOf r5 S := ⟨_, rfl⟩
        have hk := lt_p er6 hk
        have hr := lt_e er6 hr
        refine z_goI (pc := 37) hW hA (congrArg (fun q => (q, S)) er6) (z_runS hF hK hW (c_QC_leaderOf l D X ad ca r5 S _) cd_QC_leaderOf gw_670 ⟨Nat.le_of_ble_eq_true rfl, Nat.le_of_ble_eq_true rfl⟩ ⟨Nat.zero_le _, Nat.zero_le _⟩ rfl rfl hl.1 (Nat.le_of_ble_eq_true rfl) d_QC_isHeard_37) (fun H locs (hW : Wd D clQ A s.heap (zw X ad TQ (cfQ ad ca) S) H locs) => ?_)
        refine lv_aload_n (pc := 40) hx hb d_QC_isHeard_40 rfl (lv_at hl 1 rfl) ?_
        refine z_get (pc := 41) (v := .int (S.1 14 i1 j1 2)) hF hK.1 hW (tq14 h1) rfl rfl in_Message 2 (by decide) gw_142 rfl rfl d_QC_isHeard_41 ?_
        refine lv_icmp_eq (pc := 44) (tgt := 49) hx hb d_QC_isHeard_44 (by decide) (fun c7 => ?_) (fun c7 => ?_)
        · have hk := hk.1 c7
          have hr := (if_pos c7).symm.trans hr
          exact w_QC_isHeard_49 i1 j1 h1 S hy hA  hk hr _ _ _ hW (lv_sub hl [0, 1] rfl)
        · have hk := hk.2 c7
          have hr := (if_neg c7).symm.trans hr
          refine lv_iconst (pc := 47) (v := 0) hx hb d_QC_isHeard_47 (by decide) ?_
          exact z_zret (v := (0 : Int32)) hy hW rfl (congrArg (fun z => (z, S)) hr.symm) d_QC_isHeard_48
    · have hk := hk.1 c2
      have hr := (if_pos c2).symm.trans hr
      refine lv_iconst (pc := 16) (v := 1) hx hb d_QC_isHeard_16 (by decide) ?_
      exact z_zret (v := (1 : Int32)) hy hW rfl (congrArg (fun z => (z, S)) hr.symm) d_QC_isHeard_17
theorem d_QC_sendUnsigned_0 : decode b_QC_sendUnsigned 0 = .ok (.aload_n 0, 1) := by decide +kernel
theorem d_QC_sendUnsigned_1 : decode b_QC_sendUnsigned 1 = .ok (.getfield 32, 3) := by decide +kernel
theorem d_QC_sendUnsigned_4 : decode b_QC_sendUnsigned 4 = .ok (.iload_n 2, 1) := by decide +kernel
theorem d_QC_sendUnsigned_5 : decode b_QC_sendUnsigned 5 = .ok (.aload_n 1, 1) := by decide +kernel
theorem d_QC_sendUnsigned_6 : decode b_QC_sendUnsigned 6 = .ok (.getfield 339, 3) := by decide +kernel
theorem d_QC_sendUnsigned_9 : decode b_QC_sendUnsigned 9 = .ok (.iload_n 3, 1) := by decide +kernel
theorem d_QC_sendUnsigned_10 : decode b_QC_sendUnsigned 10 = .ok (.iconst 0, 1) := by decide +kernel
theorem d_QC_sendUnsigned_11 : decode b_QC_sendUnsigned 11 = .ok (.invokevirtual 393, 3) := by decide +kernel
theorem d_QC_sendUnsigned_14 : decode b_QC_sendUnsigned 14 = .ok (.iload 4, 2) := by decide +kernel
theorem d_QC_sendUnsigned_16 : decode b_QC_sendUnsigned 16 = .ok (.invokestatic 68, 3) := by decide +kernel
theorem d_QC_sendUnsigned_19 : decode b_QC_sendUnsigned 19 = .ok (.ifCond .eq 20, 3) := by decide +kernel
theorem d_QC_sendUnsigned_22 : decode b_QC_sendUnsigned 22 = .ok (.aload_n 0, 1) := by decide +kernel
theorem d_QC_sendUnsigned_23 : decode b_QC_sendUnsigned 23 = .ok (.getfield 11, 3) := by decide +kernel
theorem d_QC_sendUnsigned_26 : decode b_QC_sendUnsigned 26 = .ok (.iload 4, 2) := by decide +kernel
theorem d_QC_sendUnsigned_28 : decode b_QC_sendUnsigned 28 = .ok (.aaload, 1) := by decide +kernel
theorem d_QC_sendUnsigned_29 : decode b_QC_sendUnsigned 29 = .ok (.getfield 99, 3) := by decide +kernel
theorem d_QC_sendUnsigned_32 : decode b_QC_sendUnsigned 32 = .ok (.aload_n 0, 1) := by decide +kernel
theorem d_QC_sendUnsigned_33 : decode b_QC_sendUnsigned 33 = .ok (.getfield 32, 3) := by decide +kernel
theorem d_QC_sendUnsigned_36 : decode b_QC_sendUnsigned 36 = .ok (.invokevirtual 157, 3) := by decide +kernel
theorem d_QC_sendUnsigned_39 : decode b_QC_sendUnsigned 39 = .ok (.return_, 1) := by decide +kernel
def f_QC_sendUnsigned (i1 : Nat) (a2 : Int32) (a3 : Int32) (a4 : Int32) (S : St) : St :=
  lt (f_Message_write 4 0 a2 (S.1 3 i1 0 0) a3 (0 : Int32) S) fun (S2 : St) =>
  lt (f_QC_isNode a4 S2) fun (r3 : Int32) =>
  if r3 = 0 then
    S2
  else
    lt (f_Inbox_add (a4.toNatClampNeg) 4 0 S2) fun (S8 : St) =>
    S8
def ok_QC_sendUnsigned (i1 : Nat) (a2 : Int32) (a3 : Int32) (a4 : Int32) (S : St) : Prop :=
  lt (f_Message_write 4 0 a2 (S.1 3 i1 0 0) a3 (0 : Int32) S) fun (S2 : St) =>
  lt (f_QC_isNode a4 S2) fun (r3 : Int32) =>
  (r3 = 0 → (
    True)) ∧ (¬ (r3 = 0) → (
    (vp_in a4 4) ∧ (
      (ok_Inbox_add (a4.toNatClampNeg) 4 0 S2) ∧ (
        True))))
set_option maxHeartbeats 4000000 in
set_option maxRecDepth 100000 in
theorem c_QC_sendUnsigned (l : Launch) (D : va_G) (X : va_W) (ad : N3 → Nat) (ca : Nat → ClassId) (i1 : Nat) (a2 : Int32) (a3 : Int32) (a4 : Int32) (h1 : i1 < 4) (S : St) (hk : ok_QC_sendUnsigned i1 a2 a3 a4 S) : cV l GG D clQ (tysQ ca) nwQ X ad TQ (cfQ ad ca) y_QC_sendUnsigned b_QC_sendUnsigned 5 3 122 [.ref (ad (1, 0, 0)), .ref (ad (3, i1, 0)), .int a2, .int a3, .int a4] S (f_QC_sendUnsigned i1 a2 a3 a4 S) := by
  generalize hr : f_QC_sendUnsigned i1 a2 a3 a4 S = res
  refine zV_of pn_QC (Nat.le_of_ble_eq_true rfl) (fun p e s m below meth c A ls hy hW hA hl => ?_)
  have hF := hy.1
  have hx := hF.1
  have hb := hF.2.1
  have hK := hy.2.2.2
  have hl : lv_has ls 5 [(0, .ref (ad (1, 0, 0))), (1, .ref (ad (3, i1, 0))), (2, .int a2), (3, .int a3), (4, .int a4)] := hl
  refine lv_aload_n (pc := 0) hx hb d_QC_sendUnsigned_0 rfl (lv_at hl 0 rfl) ?_
  refine z_get (pc := 1) (v := .ref (ad (14, 4, 0))) hF hK.1 hW tq1 rfl rfl in_QC 3 (by decide) gw_347 rfl rfl d_QC_sendUnsigned_1 ?_
  refine lv_iload_n (pc := 4) hx hb d_QC_sendUnsigned_4 rfl (lv_at hl 2 rfl) ?_
  refine lv_aload_n (pc := 5) hx hb d_QC_sendUnsigned_5 rfl (lv_at hl 1 rfl) ?_
  refine z_get (pc := 6) (v := .int (S.1 3 i1 0 0)) hF hK.1 hW (tq3 h1) rfl rfl in_Node 0 (by decide) gw_296 rfl rfl d_QC_sendUnsigned_6 ?_
  refine lv_iload_n (pc := 9) hx hb d_QC_sendUnsigned_9 rfl (lv_at hl 3 rfl) ?_
  refine lv_iconst (pc := 10) (v := 0) hx hb d_QC_sendUnsigned_10 (by decide) ?_
  obtain ⟨S2, eS2⟩ : ∃ z : St, z = f_Message_write 4 0 a2 (S.1 3 i1 0 0) a3 (0 : Int32) S := ⟨_, rfl⟩
  have hk := lt_p eS2 hk
  have hr := lt_e eS2 hr
  refine z_goV (pc := 11) hW hA eS2 (z_runV hF hK hW (c_Message_write l D X ad ca 4 0 a2 (S.1 3 i1 0 0) a3 (0 : Int32) inM_D S _) cd_Message_write gw_381 (tq14 inM_D) rfl rfl ⟨Nat.le_of_ble_eq_true rfl, Nat.le_of_ble_eq_true rfl⟩ ⟨Nat.zero_le _, Nat.zero_le _⟩ rfl rfl hl.1 (Nat.le_of_ble_eq_true rfl) d_QC_sendUnsigned_11) (fun H locs (hW : Wd D clQ A s.heap (zw X ad TQ (cfQ ad ca) S2) H locs) => ?_)
  refine lv_iload (pc := 14) hx hb d_QC_sendUnsigned_14 (lv_at hl 4 rfl) ?_
  obtain ⟨r3, er3⟩ : ∃ z : Int32, z = f_QC_isNode a4 S2 := ⟨_, rfl⟩
  have hk := lt_p er3 hk
  have hr := lt_e er3 hr
  refine z_goI (pc := 16) hW hA (congrArg (fun q => (q, S2)) er3) (z_runS hF hK hW (c_QC_isNode l D X ad ca a4 S2 _) cd_QC_isNode gw_430 ⟨Nat.le_of_ble_eq_true rfl, Nat.le_of_ble_eq_true rfl⟩ ⟨Nat.zero_le _, Nat.zero_le _⟩ rfl rfl hl.1 (Nat.le_of_ble_eq_true rfl) d_QC_sendUnsigned_16) (fun H locs (hW : Wd D clQ A s.heap (zw X ad TQ (cfQ ad ca) S2) H locs) => ?_)
  refine lv_if_eq (pc := 19) (tgt := 39) hx hb d_QC_sendUnsigned_19 (by decide) (fun c4 => ?_) (fun c4 => ?_)
  · have hk := hk.1 c4
    have hr := (if_pos c4).symm.trans hr
    exact z_vret hy hW hr.symm d_QC_sendUnsigned_39
  · have hk := hk.2 c4
    have hr := (if_neg c4).symm.trans hr
    refine lv_aload_n (pc := 22) hx hb d_QC_sendUnsigned_22 rfl (lv_at hl 0 rfl) ?_
    refine z_get (pc := 23) (v := .ref (ad (2, 0, 0))) hF hK.1 hW tq1 rfl rfl in_QC 0 (by decide) gw_344 rfl rfl d_QC_sendUnsigned_23 ?_
    refine lv_iload (pc := 26) hx hb d_QC_sendUnsigned_26 (lv_at hl 4 rfl) ?_
    have b5 := hk.1
    have hk := hk.2
    refine z_aald (pc := 28) (q := ad (3, (a4.toNatClampNeg), 0)) hF hK.1 hW tq2 3 rfl rfl b5 rfl d_QC_sendUnsigned_28 ?_
    refine z_get (pc := 29) (v := .ref (ad (12, (a4.toNatClampNeg), 0))) hF hK.1 hW (tq3 (vin4 b5)) rfl rfl in_Node 2 (by decide) gw_300 rfl rfl d_QC_sendUnsigned_29 ?_
    refine lv_aload_n (pc := 32) hx hb d_QC_sendUnsigned_32 rfl (lv_at hl 0 rfl) ?_
    refine z_get (pc := 33) (v := .ref (ad (14, 4, 0))) hF hK.1 hW tq1 rfl rfl in_QC 3 (by decide) gw_347 rfl rfl d_QC_sendUnsigned_33 ?_
    have o6 := hk.1
    have hk := hk.2
    obtain ⟨S8, eS8⟩ : ∃ z : St, z = f_Inbox_add (a4.toNatClampNeg) 4 0 S2 := ⟨_, rfl⟩
    have hr := lt_e eS8 hr
    refine z_goV (pc := 36) hW hA eS8 (z_runV hF hK hW (c_Inbox_add l D X ad ca (a4.toNatClampNeg) 4 0 (vin4 b5) inM_D S2 o6 _) cd_Inbox_add gw_411 (tq12 (vin4 b5)) rfl rfl ⟨Nat.le_of_ble_eq_true rfl, Nat.le_of_ble_eq_true rfl⟩ ⟨Nat.zero_le _, Nat.zero_le _⟩ rfl rfl hl.1 (Nat.le_of_ble_eq_true rfl) d_QC_sendUnsigned_36) (fun H locs (hW : Wd D clQ A s.heap (zw X ad TQ (cfQ ad ca) S8) H locs) => ?_)
    exact z_vret hy hW hr.symm d_QC_sendUnsigned_39
theorem d_Store_keepBlock_0 : decode b_Store_keepBlock 0 = .ok (.iload_n 1, 1) := by decide +kernel
theorem d_Store_keepBlock_1 : decode b_Store_keepBlock 1 = .ok (.ifCond .lt 35, 3) := by decide +kernel
theorem d_Store_keepBlock_4 : decode b_Store_keepBlock 4 = .ok (.iload_n 1, 1) := by decide +kernel
theorem d_Store_keepBlock_5 : decode b_Store_keepBlock 5 = .ok (.bipush 100, 2) := by decide +kernel
theorem d_Store_keepBlock_7 : decode b_Store_keepBlock 7 = .ok (.if_icmp .ge 29, 3) := by decide +kernel
theorem d_Store_keepBlock_10 : decode b_Store_keepBlock 10 = .ok (.aload_n 0, 1) := by decide +kernel
theorem d_Store_keepBlock_11 : decode b_Store_keepBlock 11 = .ok (.getfield 9, 3) := by decide +kernel
theorem d_Store_keepBlock_14 : decode b_Store_keepBlock 14 = .ok (.iload_n 1, 1) := by decide +kernel
theorem d_Store_keepBlock_15 : decode b_Store_keepBlock 15 = .ok (.baload, 1) := by decide +kernel
theorem d_Store_keepBlock_16 : decode b_Store_keepBlock 16 = .ok (.ifCond .ne 20, 3) := by decide +kernel
theorem d_Store_keepBlock_19 : decode b_Store_keepBlock 19 = .ok (.aload_n 0, 1) := by decide +kernel
theorem d_Store_keepBlock_20 : decode b_Store_keepBlock 20 = .ok (.getfield 9, 3) := by decide +kernel
theorem d_Store_keepBlock_23 : decode b_Store_keepBlock 23 = .ok (.iload_n 1, 1) := by decide +kernel
theorem d_Store_keepBlock_24 : decode b_Store_keepBlock 24 = .ok (.iconst 1, 1) := by decide +kernel
theorem d_Store_keepBlock_25 : decode b_Store_keepBlock 25 = .ok (.bastore, 1) := by decide +kernel
theorem d_Store_keepBlock_26 : decode b_Store_keepBlock 26 = .ok (.aload_n 0, 1) := by decide +kernel
theorem d_Store_keepBlock_27 : decode b_Store_keepBlock 27 = .ok (.dup, 1) := by decide +kernel
theorem d_Store_keepBlock_28 : decode b_Store_keepBlock 28 = .ok (.getfield 35, 3) := by decide +kernel
theorem d_Store_keepBlock_31 : decode b_Store_keepBlock 31 = .ok (.iconst 1, 1) := by decide +kernel
theorem d_Store_keepBlock_32 : decode b_Store_keepBlock 32 = .ok (.iadd, 1) := by decide +kernel
theorem d_Store_keepBlock_33 : decode b_Store_keepBlock 33 = .ok (.putfield 35, 3) := by decide +kernel
theorem d_Store_keepBlock_36 : decode b_Store_keepBlock 36 = .ok (.return_, 1) := by decide +kernel
def f_Store_keepBlock (i0 : Nat) (a1 : Int32) (S : St) : St :=
  if a1 < 0 then
    S
  else
    if (100 : Int32) ≤ a1 then
      S
    else
      if (S.1 5 i0 0 a1.toNatClampNeg) = 0 then
        lt (si S 5 i0 0 (a1.toNatClampNeg) (1 : Int32)) fun (S6 : St) =>
        lt (si S6 4 i0 0 4 ((S6.1 4 i0 0 4) + (1 : Int32))) fun (S7 : St) =>
        S7
      else
        S
def ok_Store_keepBlock (i0 : Nat) (a1 : Int32) (S : St) : Prop :=
  (a1 < 0 → (
    True)) ∧ (¬ (a1 < 0) → (
    ((100 : Int32) ≤ a1 → (
      True)) ∧ (¬ ((100 : Int32) ≤ a1) → (
      (vp_in a1 100) ∧ (
        ((S.1 5 i0 0 a1.toNatClampNeg) = 0 → (
          (vp_in a1 100) ∧ (
            True))) ∧ (¬ ((S.1 5 i0 0 a1.toNatClampNeg) = 0) → (
          True)))))))
set_option maxHeartbeats 4000000 in
set_option maxRecDepth 100000 in
theorem c_Store_keepBlock (l : Launch) (D : va_G) (X : va_W) (ad : N3 → Nat) (ca : Nat → ClassId) (i0 : Nat) (a1 : Int32) (h0 : i0 < 4) (S : St) (hk : ok_Store_keepBlock i0 a1 S) : cV l GG D clQ (tysQ ca) nwQ X ad TQ (cfQ ad ca) y_Store_keepBlock b_Store_keepBlock 2 0 0 [.ref (ad (4, i0, 0)), .int a1] S (f_Store_keepBlock i0 a1 S) := by
  generalize hr : f_Store_keepBlock i0 a1 S = res
  refine zV_of pn_Store (Nat.le_of_ble_eq_true rfl) (fun p e s m below meth c A ls hy hW hA hl => ?_)
  have hF := hy.1
  have hx := hF.1
  have hb := hF.2.1
  have hK := hy.2.2.2
  have hl : lv_has ls 2 [(0, .ref (ad (4, i0, 0))), (1, .int a1)] := hl
  refine lv_iload_n (pc := 0) hx hb d_Store_keepBlock_0 rfl (lv_at hl 1 rfl) ?_
  refine lv_if_lt (pc := 1) (tgt := 36) hx hb d_Store_keepBlock_1 (by decide) (fun c1 => ?_) (fun c1 => ?_)
  · have hk := hk.1 c1
    have hr := (if_pos c1).symm.trans hr
    exact z_vret hy hW hr.symm d_Store_keepBlock_36
  · have hk := hk.2 c1
    have hr := (if_neg c1).symm.trans hr
    refine lv_iload_n (pc := 4) hx hb d_Store_keepBlock_4 rfl (lv_at hl 1 rfl) ?_
    refine lv_bipush (pc := 5) (v := 100) hx hb d_Store_keepBlock_5 (by decide) ?_
    refine lv_icmp_ge (pc := 7) (tgt := 36) hx hb d_Store_keepBlock_7 (by decide) (fun c2 => ?_) (fun c2 => ?_)
    · have hk := hk.1 c2
      have hr := (if_pos c2).symm.trans hr
      exact z_vret hy hW hr.symm d_Store_keepBlock_36
    · have hk := hk.2 c2
      have hr := (if_neg c2).symm.trans hr
      refine lv_aload_n (pc := 10) hx hb d_Store_keepBlock_10 rfl (lv_at hl 0 rfl) ?_
      refine z_get (pc := 11) (v := .ref (ad (5, i0, 0))) hF hK.1 hW (tq4 h0) rfl rfl in_Store 0 (by decide) gw_264 rfl rfl d_Store_keepBlock_11 ?_
      refine lv_iload_n (pc := 14) hx hb d_Store_keepBlock_14 rfl (lv_at hl 1 rfl) ?_
      have b3 := hk.1
      have hk := hk.2
      refine z_zald (pc := 15) (v := S.1 5 i0 0 a1.toNatClampNeg) hF hK.1 hW (tq5 h0) 2 rfl rfl b3 rfl d_Store_keepBlock_15 ?_
      refine lv_if_ne (pc := 16) (tgt := 36) hx hb d_Store_keepBlock_16 (by decide) (fun c4 => ?_) (fun c4 => ?_)
      · have hk := hk.2 c4
        have hr := (if_neg c4).symm.trans hr
        exact z_vret hy hW hr.symm d_Store_keepBlock_36
      · have hk := hk.1 c4
        have hr := (if_pos c4).symm.trans hr
        refine lv_aload_n (pc := 19) hx hb d_Store_keepBlock_19 rfl (lv_at hl 0 rfl) ?_
        refine z_get (pc := 20) (v := .ref (ad (5, i0, 0))) hF hK.1 hW (tq4 h0) rfl rfl in_Store 0 (by decide) gw_264 rfl rfl d_Store_keepBlock_20 ?_
        refine lv_iload_n (pc := 23) hx hb d_Store_keepBlock_23 rfl (lv_at hl 1 rfl) ?_
        refine lv_iconst (pc := 24) (v := 1) hx hb d_Store_keepBlock_24 (by decide) ?_
        have b5 := hk.1
        have hk := hk.2
        obtain ⟨S6, eS6⟩ : ∃ z : St, z = si S 5 i0 0 (a1.toNatClampNeg) (1 : Int32) := ⟨_, rfl⟩
        have hr := lt_e eS6 hr
        refine z_zast (pc := 25) (S' := S6) hF hK.1 hW (tq5 h0) 2 rfl rfl b5 (zs_si eS6 rfl) (zs_sio eS6) d_Store_keepBlock_25 (fun H locs (hW : Wd D clQ A s.heap (zw X ad TQ (cfQ ad ca) S6) H locs) => ?_)
        refine lv_aload_n (pc := 26) hx hb d_Store_keepBlock_26 rfl (lv_at hl 0 rfl) ?_
        refine lv_dup (pc := 27) hx hb d_Store_keepBlock_27 rfl ?_
        refine z_get (pc := 28) (v := .int (S6.1 4 i0 0 4)) hF hK.1 hW (tq4 h0) rfl rfl in_Store 4 (by decide) gw_271 rfl rfl d_Store_keepBlock_28 ?_
        refine lv_iconst (pc := 31) (v := 1) hx hb d_Store_keepBlock_31 (by decide) ?_
        refine lv_iadd (pc := 32) hx hb d_Store_keepBlock_32 ?_
        obtain ⟨S7, eS7⟩ : ∃ z : St, z = si S6 4 i0 0 4 ((S6.1 4 i0 0 4) + (1 : Int32)) := ⟨_, rfl⟩
        have hr := lt_e eS7 hr
        refine z_put (pc := 33) (S' := S7) hF hK.1 hW (tq4 h0) rfl rfl in_Store t_Store tyo_Store nmo_Store 4 (by decide) gw_271 rfl rfl rfl rfl rfl (Nat.le_of_ble_eq_true rfl) (zs_si eS7 rfl) (zs_sio eS7) d_Store_keepBlock_33 (fun H locs (hW : Wd D clQ A s.heap (zw X ad TQ (cfQ ad ca) S7) H locs) => ?_)
        exact z_vret hy hW hr.symm d_Store_keepBlock_36
theorem d_QC_raiseHigh_0 : decode b_QC_raiseHigh 0 = .ok (.aload_n 0, 1) := by decide +kernel
theorem d_QC_raiseHigh_1 : decode b_QC_raiseHigh 1 = .ok (.getfield 18, 3) := by decide +kernel
theorem d_QC_raiseHigh_4 : decode b_QC_raiseHigh 4 = .ok (.iload_n 2, 1) := by decide +kernel
theorem d_QC_raiseHigh_5 : decode b_QC_raiseHigh 5 = .ok (.aload_n 1, 1) := by decide +kernel
theorem d_QC_raiseHigh_6 : decode b_QC_raiseHigh 6 = .ok (.getfield 248, 3) := by decide +kernel
theorem d_QC_raiseHigh_9 : decode b_QC_raiseHigh 9 = .ok (.invokevirtual 302, 3) := by decide +kernel
theorem d_QC_raiseHigh_12 : decode b_QC_raiseHigh 12 = .ok (.ifCond .eq 8, 3) := by decide +kernel
theorem d_QC_raiseHigh_15 : decode b_QC_raiseHigh 15 = .ok (.aload_n 1, 1) := by decide +kernel
theorem d_QC_raiseHigh_16 : decode b_QC_raiseHigh 16 = .ok (.iload_n 2, 1) := by decide +kernel
theorem d_QC_raiseHigh_17 : decode b_QC_raiseHigh 17 = .ok (.putfield 248, 3) := by decide +kernel
theorem d_QC_raiseHigh_20 : decode b_QC_raiseHigh 20 = .ok (.return_, 1) := by decide +kernel
def f_QC_raiseHigh (i1 : Nat) (a2 : Int32) (S : St) : St :=
  lt (f_Blocks_isAbove a2 (S.1 3 i1 0 11) S) fun (r2 : Int32) =>
  if r2 = 0 then
    S
  else
    lt (si S 3 i1 0 11 a2) fun (S4 : St) =>
    S4
def ok_QC_raiseHigh (i1 : Nat) (a2 : Int32) (S : St) : Prop :=
  (ok_Blocks_isAbove a2 (S.1 3 i1 0 11) S) ∧ (
    True)
set_option maxHeartbeats 4000000 in
set_option maxRecDepth 100000 in
theorem c_QC_raiseHigh (l : Launch) (D : va_G) (X : va_W) (ad : N3 → Nat) (ca : Nat → ClassId) (i1 : Nat) (a2 : Int32) (h1 : i1 < 4) (S : St) (hk : ok_QC_raiseHigh i1 a2 S) : cV l GG D clQ (tysQ ca) nwQ X ad TQ (cfQ ad ca) y_QC_raiseHigh b_QC_raiseHigh 3 3 64 [.ref (ad (1, 0, 0)), .ref (ad (3, i1, 0)), .int a2] S (f_QC_raiseHigh i1 a2 S) := by
  generalize hr : f_QC_raiseHigh i1 a2 S = res
  refine zV_of pn_QC (Nat.le_of_ble_eq_true rfl) (fun p e s m below meth c A ls hy hW hA hl => ?_)
  have hF := hy.1
  have hx := hF.1
  have hb := hF.2.1
  have hK := hy.2.2.2
  have hl : lv_has ls 3 [(0, .ref (ad (1, 0, 0))), (1, .ref (ad (3, i1, 0))), (2, .int a2)] := hl
  refine lv_aload_n (pc := 0) hx hb d_QC_raiseHigh_0 rfl (lv_at hl 0 rfl) ?_
  refine z_get (pc := 1) (v := .ref (ad (19, 0, 0))) hF hK.1 hW tq1 rfl rfl in_QC 1 (by decide) gw_345 rfl rfl d_QC_raiseHigh_1 ?_
  refine lv_iload_n (pc := 4) hx hb d_QC_raiseHigh_4 rfl (lv_at hl 2 rfl) ?_
  refine lv_aload_n (pc := 5) hx hb d_QC_raiseHigh_5 rfl (lv_at hl 1 rfl) ?_
  refine z_get (pc := 6) (v := .int (S.1 3 i1 0 11)) hF hK.1 hW (tq3 h1) rfl rfl in_Node 11 (by decide) gw_318 rfl rfl d_QC_raiseHigh_6 ?_
  have o1 := hk.1
  have hk := hk.2
  obtain ⟨r2, er2⟩ : ∃ z : Int32, z = f_Blocks_isAbove a2 (S.1 3 i1 0 11) S := ⟨_, rfl⟩
  have hr := lt_e er2 hr
  refine z_goI (pc := 9) hW hA (congrArg (fun q => (q, S)) er2) (z_runV hF hK hW (c_Blocks_isAbove l D X ad ca a2 (S.1 3 i1 0 11) S o1 _) cd_Blocks_isAbove gw_694 tq19 rfl rfl ⟨Nat.le_of_ble_eq_true rfl, Nat.le_of_ble_eq_true rfl⟩ ⟨Nat.zero_le _, Nat.zero_le _⟩ rfl rfl hl.1 (Nat.le_of_ble_eq_true rfl) d_QC_raiseHigh_9) (fun H locs (hW : Wd D clQ A s.heap (zw X ad TQ (cfQ ad ca) S) H locs) => ?_)
  refine lv_if_eq (pc := 12) (tgt := 20) hx hb d_QC_raiseHigh_12 (by decide) (fun c3 => ?_) (fun c3 => ?_)
  · have hr := (if_pos c3).symm.trans hr
    exact z_vret hy hW hr.symm d_QC_raiseHigh_20
  · have hr := (if_neg c3).symm.trans hr
    refine lv_aload_n (pc := 15) hx hb d_QC_raiseHigh_15 rfl (lv_at hl 1 rfl) ?_
    refine lv_iload_n (pc := 16) hx hb d_QC_raiseHigh_16 rfl (lv_at hl 2 rfl) ?_
    obtain ⟨S4, eS4⟩ : ∃ z : St, z = si S 3 i1 0 11 a2 := ⟨_, rfl⟩
    have hr := lt_e eS4 hr
    refine z_put (pc := 17) (S' := S4) hF hK.1 hW (tq3 h1) rfl rfl in_Node t_Node tyo_Node nmo_Node 11 (by decide) gw_318 rfl rfl rfl rfl rfl (Nat.le_of_ble_eq_true rfl) (zs_si eS4 rfl) (zs_sio eS4) d_QC_raiseHigh_17 (fun H locs (hW : Wd D clQ A s.heap (zw X ad TQ (cfQ ad ca) S4) H locs) => ?_)
    exact z_vret hy hW hr.symm d_QC_raiseHigh_20
theorem d_Blocks_isNextView_0 : decode b_Blocks_isNextView 0 = .ok (.aload_n 0, 1) := by decide +kernel
theorem d_Blocks_isNextView_1 : decode b_Blocks_isNextView 1 = .ok (.iload_n 1, 1) := by decide +kernel
theorem d_Blocks_isNextView_2 : decode b_Blocks_isNextView 2 = .ok (.invokevirtual 33, 3) := by decide +kernel
theorem d_Blocks_isNextView_5 : decode b_Blocks_isNextView 5 = .ok (.aload_n 0, 1) := by decide +kernel
theorem d_Blocks_isNextView_6 : decode b_Blocks_isNextView 6 = .ok (.iload_n 2, 1) := by decide +kernel
theorem d_Blocks_isNextView_7 : decode b_Blocks_isNextView 7 = .ok (.invokevirtual 33, 3) := by decide +kernel
theorem d_Blocks_isNextView_10 : decode b_Blocks_isNextView 10 = .ok (.iconst 1, 1) := by decide +kernel
theorem d_Blocks_isNextView_11 : decode b_Blocks_isNextView 11 = .ok (.iadd, 1) := by decide +kernel
theorem d_Blocks_isNextView_12 : decode b_Blocks_isNextView 12 = .ok (.if_icmp .ne 7, 3) := by decide +kernel
theorem d_Blocks_isNextView_15 : decode b_Blocks_isNextView 15 = .ok (.iconst 1, 1) := by decide +kernel
theorem d_Blocks_isNextView_16 : decode b_Blocks_isNextView 16 = .ok (.goto 4, 3) := by decide +kernel
theorem d_Blocks_isNextView_19 : decode b_Blocks_isNextView 19 = .ok (.iconst 0, 1) := by decide +kernel
theorem d_Blocks_isNextView_20 : decode b_Blocks_isNextView 20 = .ok (.ireturn, 1) := by decide +kernel
def f_Blocks_isNextView (a1 : Int32) (a2 : Int32) (S : St) : Int32 :=
  lt (f_Blocks_viewOf a1 S) fun (r2 : Int32) =>
  lt (f_Blocks_viewOf a2 S) fun (r4 : Int32) =>
  if r2 = (r4 + (1 : Int32)) then
    (1 : Int32)
  else
    (0 : Int32)
def ok_Blocks_isNextView (a1 : Int32) (a2 : Int32) (S : St) : Prop :=
  (ok_Blocks_viewOf a1 S) ∧ (
    lt (f_Blocks_viewOf a1 S) fun (r2 : Int32) =>
    (ok_Blocks_viewOf a2 S) ∧ (
      True))
set_option maxHeartbeats 4000000 in
set_option maxRecDepth 100000 in
theorem c_Blocks_isNextView (l : Launch) (D : va_G) (X : va_W) (ad : N3 → Nat) (ca : Nat → ClassId) (a1 : Int32) (a2 : Int32)  (S : St) (hk : ok_Blocks_isNextView a1 a2 S) : cI l GG D clQ (tysQ ca) nwQ X ad TQ (cfQ ad ca) y_Blocks_isNextView b_Blocks_isNextView 3 .boolean 2 42 [.ref (ad (19, 0, 0)), .int a1, .int a2] S ((f_Blocks_isNextView a1 a2 S), S) := by
  generalize hr : f_Blocks_isNextView a1 a2 S = res
  refine zI_of pn_Blocks (Nat.le_of_ble_eq_true rfl) (fun p e s m below meth c A ls hy hW hA hl => ?_)
  have hF := hy.1
  have hx := hF.1
  have hb := hF.2.1
  have hK := hy.2.2.2
  have hl : lv_has ls 3 [(0, .ref (ad (19, 0, 0))), (1, .int a1), (2, .int a2)] := hl
  refine lv_aload_n (pc := 0) hx hb d_Blocks_isNextView_0 rfl (lv_at hl 0 rfl) ?_
  refine lv_iload_n (pc := 1) hx hb d_Blocks_isNextView_1 rfl (lv_at hl 1 rfl) ?_
  have o1 := hk.1
  have hk := hk.2
  obtain ⟨r2, er2⟩ : ∃ z : Int32, z = f_Blocks_viewOf a1 S := ⟨_, rfl⟩
  have hk := lt_p er2 hk
  have hr := lt_e er2 hr
  refine z_goI (pc := 2) hW hA (congrArg (fun q => (q, S)) er2) (z_runV hF hK hW (c_Blocks_viewOf l D X ad ca a1 S o1 _) cd_Blocks_viewOf gw_698 tq19 rfl rfl ⟨Nat.le_of_ble_eq_true rfl, Nat.le_of_ble_eq_true rfl⟩ ⟨Nat.zero_le _, Nat.zero_le _⟩ rfl rfl hl.1 (Nat.le_of_ble_eq_true rfl) d_Blocks_isNextView_2) (fun H locs (hW : Wd D clQ A s.heap (zw X ad TQ (cfQ ad ca) S) H locs) => ?_)
  refine lv_aload_n (pc := 5) hx hb d_Blocks_isNextView_5 rfl (lv_at hl 0 rfl) ?_
  refine lv_iload_n (pc := 6) hx hb d_Blocks_isNextView_6 rfl (lv_at hl 2 rfl) ?_
  have o3 := hk.1
  have hk := hk.2
  obtain ⟨r4, er4⟩ : ∃ z : Int32, z = f_Blocks_viewOf a2 S := ⟨_, rfl⟩
  have hr := lt_e er4 hr
  refine z_goI (pc := 7) hW hA (congrArg (fun q => (q, S)) er4) (z_runV hF hK hW (c_Blocks_viewOf l D X ad ca a2 S o3 _) cd_Blocks_viewOf gw_698 tq19 rfl rfl ⟨Nat.le_of_ble_eq_true rfl, Nat.le_of_ble_eq_true rfl⟩ ⟨Nat.zero_le _, Nat.zero_le _⟩ rfl rfl hl.1 (Nat.le_of_ble_eq_true rfl) d_Blocks_isNextView_7) (fun H locs (hW : Wd D clQ A s.heap (zw X ad TQ (cfQ ad ca) S) H locs) => ?_)
  refine lv_iconst (pc := 10) (v := 1) hx hb d_Blocks_isNextView_10 (by decide) ?_
  refine lv_iadd (pc := 11) hx hb d_Blocks_isNextView_11 ?_
  refine lv_icmp_ne (pc := 12) (tgt := 19) hx hb d_Blocks_isNextView_12 (by decide) (fun c5 => ?_) (fun c5 => ?_)
  · have hr := (if_neg c5).symm.trans hr
    refine lv_iconst (pc := 19) (v := 0) hx hb d_Blocks_isNextView_19 (by decide) ?_
    exact z_zret (v := (0 : Int32)) hy hW rfl (congrArg (fun z => (z, S)) hr.symm) d_Blocks_isNextView_20
  · have hr := (if_pos c5).symm.trans hr
    refine lv_iconst (pc := 15) (v := 1) hx hb d_Blocks_isNextView_15 (by decide) ?_
    refine lv_goto (pc := 16) (tgt := 20) hx hb d_Blocks_isNextView_16 (by decide) ?_
    exact z_zret (v := (1 : Int32)) hy hW rfl (congrArg (fun z => (z, S)) hr.symm) d_Blocks_isNextView_20
end
section
theorem d_Store_lastLogged_0 : decode b_Store_lastLogged 0 = .ok (.aload_n 0, 1) := by decide +kernel
theorem d_Store_lastLogged_1 : decode b_Store_lastLogged 1 = .ok (.aload_n 0, 1) := by decide +kernel
theorem d_Store_lastLogged_2 : decode b_Store_lastLogged 2 = .ok (.getfield 39, 3) := by decide +kernel
theorem d_Store_lastLogged_5 : decode b_Store_lastLogged 5 = .ok (.iconst 1, 1) := by decide +kernel
theorem d_Store_lastLogged_6 : decode b_Store_lastLogged 6 = .ok (.isub, 1) := by decide +kernel
theorem d_Store_lastLogged_7 : decode b_Store_lastLogged 7 = .ok (.invokevirtual 42, 3) := by decide +kernel
theorem d_Store_lastLogged_10 : decode b_Store_lastLogged 10 = .ok (.ireturn, 1) := by decide +kernel
def f_Store_lastLogged (i0 : Nat) (S : St) : Int32 :=
  lt (f_Store_logged i0 ((S.1 4 i0 0 5) - (1 : Int32)) S) fun (r2 : Int32) =>
  r2
def ok_Store_lastLogged (i0 : Nat) (S : St) : Prop :=
  (ok_Store_logged i0 ((S.1 4 i0 0 5) - (1 : Int32)) S) ∧ (
    True)
set_option maxHeartbeats 4000000 in
set_option maxRecDepth 100000 in
theorem c_Store_lastLogged (l : Launch) (D : va_G) (X : va_W) (ad : N3 → Nat) (ca : Nat → ClassId) (i0 : Nat) (h0 : i0 < 4) (S : St) (hk : ok_Store_lastLogged i0 S) : cI l GG D clQ (tysQ ca) nwQ X ad TQ (cfQ ad ca) y_Store_lastLogged b_Store_lastLogged 1 .int 1 21 [.ref (ad (4, i0, 0))] S ((f_Store_lastLogged i0 S), S) := by
  generalize hr : f_Store_lastLogged i0 S = res
  refine zI_of pn_Store (Nat.le_of_ble_eq_true rfl) (fun p e s m below meth c A ls hy hW hA hl => ?_)
  have hF := hy.1
  have hx := hF.1
  have hb := hF.2.1
  have hK := hy.2.2.2
  have hl : lv_has ls 1 [(0, .ref (ad (4, i0, 0)))] := hl
  refine lv_aload_n (pc := 0) hx hb d_Store_lastLogged_0 rfl (lv_at hl 0 rfl) ?_
  refine lv_aload_n (pc := 1) hx hb d_Store_lastLogged_1 rfl (lv_at hl 0 rfl) ?_
  refine z_get (pc := 2) (v := .int (S.1 4 i0 0 5)) hF hK.1 hW (tq4 h0) rfl rfl in_Store 5 (by decide) gw_273 rfl rfl d_Store_lastLogged_2 ?_
  refine lv_iconst (pc := 5) (v := 1) hx hb d_Store_lastLogged_5 (by decide) ?_
  refine lv_isub (pc := 6) hx hb d_Store_lastLogged_6 ?_
  have o1 := hk.1
  have hk := hk.2
  obtain ⟨r2, er2⟩ : ∃ z : Int32, z = f_Store_logged i0 ((S.1 4 i0 0 5) - (1 : Int32)) S := ⟨_, rfl⟩
  have hr := lt_e er2 hr
  refine z_goI (pc := 7) hW hA (congrArg (fun q => (q, S)) er2) (z_runV hF hK hW (c_Store_logged l D X ad ca i0 ((S.1 4 i0 0 5) - (1 : Int32)) h0 S o1 _) cd_Store_logged gw_711 (tq4 h0) rfl rfl ⟨Nat.le_of_ble_eq_true rfl, Nat.le_of_ble_eq_true rfl⟩ ⟨Nat.zero_le _, Nat.zero_le _⟩ rfl rfl hl.1 (Nat.le_of_ble_eq_true rfl) d_Store_lastLogged_7) (fun H locs (hW : Wd D clQ A s.heap (zw X ad TQ (cfQ ad ca) S) H locs) => ?_)
  exact z_iret (v := r2) hy hW (congrArg (fun z => (z, S)) hr.symm) d_Store_lastLogged_10
theorem d_Blocks_stepsDown_0 : decode b_Blocks_stepsDown 0 = .ok (.iload_n 1, 1) := by decide +kernel
theorem d_Blocks_stepsDown_1 : decode b_Blocks_stepsDown 1 = .ok (.istore_n 3, 1) := by decide +kernel
theorem d_Blocks_stepsDown_2 : decode b_Blocks_stepsDown 2 = .ok (.iconst 0, 1) := by decide +kernel
theorem d_Blocks_stepsDown_3 : decode b_Blocks_stepsDown 3 = .ok (.istore 4, 2) := by decide +kernel
theorem d_Blocks_stepsDown_5 : decode b_Blocks_stepsDown 5 = .ok (.iload 4, 2) := by decide +kernel
theorem d_Blocks_stepsDown_7 : decode b_Blocks_stepsDown 7 = .ok (.bipush 100, 2) := by decide +kernel
theorem d_Blocks_stepsDown_9 : decode b_Blocks_stepsDown 9 = .ok (.if_icmp .ge 28, 3) := by decide +kernel
theorem d_Blocks_stepsDown_12 : decode b_Blocks_stepsDown 12 = .ok (.iload_n 3, 1) := by decide +kernel
theorem d_Blocks_stepsDown_13 : decode b_Blocks_stepsDown 13 = .ok (.iconst (-1), 1) := by decide +kernel
theorem d_Blocks_stepsDown_14 : decode b_Blocks_stepsDown 14 = .ok (.if_icmp .eq 23, 3) := by decide +kernel
theorem d_Blocks_stepsDown_17 : decode b_Blocks_stepsDown 17 = .ok (.iload_n 3, 1) := by decide +kernel
theorem d_Blocks_stepsDown_18 : decode b_Blocks_stepsDown 18 = .ok (.iload_n 2, 1) := by decide +kernel
theorem d_Blocks_stepsDown_19 : decode b_Blocks_stepsDown 19 = .ok (.if_icmp .ne 6, 3) := by decide +kernel
theorem d_Blocks_stepsDown_22 : decode b_Blocks_stepsDown 22 = .ok (.iload 4, 2) := by decide +kernel
theorem d_Blocks_stepsDown_24 : decode b_Blocks_stepsDown 24 = .ok (.ireturn, 1) := by decide +kernel
theorem d_Blocks_stepsDown_25 : decode b_Blocks_stepsDown 25 = .ok (.aload_n 0, 1) := by decide +kernel
theorem d_Blocks_stepsDown_26 : decode b_Blocks_stepsDown 26 = .ok (.iload_n 3, 1) := by decide +kernel
theorem d_Blocks_stepsDown_27 : decode b_Blocks_stepsDown 27 = .ok (.invokevirtual 41, 3) := by decide +kernel
theorem d_Blocks_stepsDown_30 : decode b_Blocks_stepsDown 30 = .ok (.istore_n 3, 1) := by decide +kernel
theorem d_Blocks_stepsDown_31 : decode b_Blocks_stepsDown 31 = .ok (.iinc 4 1, 3) := by decide +kernel
theorem d_Blocks_stepsDown_34 : decode b_Blocks_stepsDown 34 = .ok (.goto (-29), 3) := by decide +kernel
theorem d_Blocks_stepsDown_37 : decode b_Blocks_stepsDown 37 = .ok (.iconst (-1), 1) := by decide +kernel
theorem d_Blocks_stepsDown_38 : decode b_Blocks_stepsDown 38 = .ok (.ireturn, 1) := by decide +kernel
def f_Blocks_stepsDown_5 (a1 : Int32) (a2 : Int32) : Nat → St → Int32 → Int32 → Int32
  | 0, _, _, _ => 0
  | n + 1, S, l3, l4 =>
    if (100 : Int32) ≤ l4 then
      (-1 : Int32)
    else
      if l3 = (-1 : Int32) then
        (-1 : Int32)
      else
        if l3 = a2 then
          l4
        else
          lt (f_Blocks_parentOf l3 S) fun (r5 : Int32) =>
          f_Blocks_stepsDown_5 a1 a2 n S r5 (l4 + (1 : Int32))
def ok_Blocks_stepsDown_5 (a1 : Int32) (a2 : Int32) : Nat → St → Int32 → Int32 → Prop
  | 0, _, _, _ => False
  | n + 1, S, l3, l4 =>
    ((100 : Int32) ≤ l4 → (
      True)) ∧ (¬ ((100 : Int32) ≤ l4) → (
      (l3 = (-1 : Int32) → (
        True)) ∧ (¬ (l3 = (-1 : Int32)) → (
        (l3 = a2 → (
          True)) ∧ (¬ (l3 = a2) → (
          (ok_Blocks_parentOf l3 S) ∧ (
            lt (f_Blocks_parentOf l3 S) fun (r5 : Int32) =>
            ok_Blocks_stepsDown_5 a1 a2 n S r5 (l4 + (1 : Int32)))))))))
set_option maxHeartbeats 4000000 in
set_option maxRecDepth 100000 in
theorem w_Blocks_stepsDown_5 {l : Launch} {D : va_G} {X : va_W} {ad : N3 → Nat} {ca : Nat → ClassId} (a1 : Int32) (a2 : Int32)  (S : St) {p : Program} {e : Env} {s : State} {m : MethodId} {below : List Frame} {meth : Method} {c : Code} {A : Nat → Prop} (hy : Hy p s m ([.ref (ad (19, 0, 0)), .int a1, .int a2] : List Value).toArray meth c b_Blocks_stepsDown 5 (some .int) R_Blocks GG D clQ (tysQ ca) nwQ) (hA : ∀ q, s.heap.size ≤ q → A q) {res : Int32} : ∀ (n : Nat) (l3 : Int32) (l4 : Int32) , ok_Blocks_stepsDown_5 a1 a2 n S l3 l4 → f_Blocks_stepsDown_5 a1 a2 n S l3 l4 = res → ∀ (H : Heap) (locs : List Loc) (ls : Array Slot), Wd D clQ A s.heap (zw X ad TQ (cfQ ad ca) S) H locs → lv_has ls 5 [(0, .ref (ad (19, 0, 0))), (2, .int a2), (3, .int l3), (4, .int l4)] → W p l e { frames := 2, cells := 0, slots := 0, locals := 42 } s m ([.ref (ad (19, 0, 0)), .int a1, .int a2] : List Value).toArray below meth c H locs 0 0 (MQ below (eI D clQ X ad TQ (cfQ ad ca) A (res, S)) ([.ref (ad (19, 0, 0)), .int a1, .int a2] : List Value).toArray s 0 0 A) (F0 m 5 ls []) := by
  have hF := hy.1
  have hx := hF.1
  have hb := hF.2.1
  have hK := hy.2.2.2
  intro n
  induction n with
  | zero =>
    intro l3 l4 hk
    exact hk.elim
  | succ n ih =>
    intro l3 l4 hk hr H locs ls hW hl
    refine lv_iload (pc := 5) hx hb d_Blocks_stepsDown_5 (lv_at hl 3 rfl) ?_
    refine lv_bipush (pc := 7) (v := 100) hx hb d_Blocks_stepsDown_7 (by decide) ?_
    refine lv_icmp_ge (pc := 9) (tgt := 37) hx hb d_Blocks_stepsDown_9 (by decide) (fun c1 => ?_) (fun c1 => ?_)
    · have hk := hk.1 c1
      have hr := (if_pos c1).symm.trans hr
      refine lv_iconst (pc := 37) (v := -1) hx hb d_Blocks_stepsDown_37 (by decide) ?_
      exact z_iret (v := (-1 : Int32)) hy hW (congrArg (fun z => (z, S)) hr.symm) d_Blocks_stepsDown_38
    · have hk := hk.2 c1
      have hr := (if_neg c1).symm.trans hr
      refine lv_iload_n (pc := 12) hx hb d_Blocks_stepsDown_12 rfl (lv_at hl 2 rfl) ?_
      refine lv_iconst (pc := 13) (v := -1) hx hb d_Blocks_stepsDown_13 (by decide) ?_
      refine lv_icmp_eq (pc := 14) (tgt := 37) hx hb d_Blocks_stepsDown_14 (by decide) (fun c2 => ?_) (fun c2 => ?_)
      · have hk := hk.1 c2
        have hr := (if_pos c2).symm.trans hr
        refine lv_iconst (pc := 37) (v := -1) hx hb d_Blocks_stepsDown_37 (by decide) ?_
        exact z_iret (v := (-1 : Int32)) hy hW (congrArg (fun z => (z, S)) hr.symm) d_Blocks_stepsDown_38
      · have hk := hk.2 c2
        have hr := (if_neg c2).symm.trans hr
        refine lv_iload_n (pc := 17) hx hb d_Blocks_stepsDown_17 rfl (lv_at hl 2 rfl) ?_
        refine lv_iload_n (pc := 18) hx hb d_Blocks_stepsDown_18 rfl (lv_at hl 1 rfl) ?_
        refine lv_icmp_ne (pc := 19) (tgt := 25) hx hb d_Blocks_stepsDown_19 (by decide) (fun c3 => ?_) (fun c3 => ?_)
        · have hk := hk.2 c3
          have hr := (if_neg c3).symm.trans hr
          refine lv_aload_n (pc := 25) hx hb d_Blocks_stepsDown_25 rfl (lv_at hl 0 rfl) ?_
          refine lv_iload_n (pc := 26) hx hb d_Blocks_stepsDown_26 rfl (lv_at hl 2 rfl) ?_
          have o4 := hk.1
          have hk := hk.2
          obtain ⟨r5, er5⟩ : ∃ z : Int32, z = f_Blocks_parentOf l3 S := ⟨_, rfl⟩
          have hk := lt_p er5 hk
          have hr := lt_e er5 hr
          refine z_goI (pc := 27) hW hA (congrArg (fun q => (q, S)) er5) (z_runV hF hK hW (c_Blocks_parentOf l D X ad ca l3 S o4 _) cd_Blocks_parentOf gw_635 tq19 rfl rfl ⟨Nat.le_of_ble_eq_true rfl, Nat.le_of_ble_eq_true rfl⟩ ⟨Nat.zero_le _, Nat.zero_le _⟩ rfl rfl hl.1 (Nat.le_of_ble_eq_true rfl) d_Blocks_stepsDown_27) (fun H locs (hW : Wd D clQ A s.heap (zw X ad TQ (cfQ ad ca) S) H locs) => ?_)
          refine lv_istore_n (pc := 30) (lv' := [(3, .int r5), (0, .ref (ad (19, 0, 0))), (2, .int a2), (4, .int l4)]) hx hb d_Blocks_stepsDown_30 rfl hl (by decide) rfl (fun ls hl => ?_)
          refine lv_iinc (pc := 31) (v := l4 + (1 : Int32)) (lv' := [(4, .int (l4 + (1 : Int32))), (3, .int r5), (0, .ref (ad (19, 0, 0))), (2, .int a2)]) (k := 3) hx hb d_Blocks_stepsDown_31 hl rfl (z_inc (by decide)) (by decide) rfl (fun ls hl => ?_)
          refine lv_goto (pc := 34) (tgt := 5) hx hb d_Blocks_stepsDown_34 (by decide) ?_
          exact ih r5 (l4 + (1 : Int32)) hk hr _ _ _ hW (lv_sub hl [2, 3, 1, 0] rfl)
        · have hk := hk.1 c3
          have hr := (if_pos c3).symm.trans hr
          refine lv_iload (pc := 22) hx hb d_Blocks_stepsDown_22 (lv_at hl 3 rfl) ?_
          exact z_iret (v := l4) hy hW (congrArg (fun z => (z, S)) hr.symm) d_Blocks_stepsDown_24
def f_Blocks_stepsDown (a1 : Int32) (a2 : Int32) (S : St) : Int32 :=
  f_Blocks_stepsDown_5 a1 a2 200 S a1 (0 : Int32)
def ok_Blocks_stepsDown (a1 : Int32) (a2 : Int32) (S : St) : Prop :=
  ok_Blocks_stepsDown_5 a1 a2 200 S a1 (0 : Int32)
set_option maxHeartbeats 4000000 in
set_option maxRecDepth 100000 in
theorem c_Blocks_stepsDown (l : Launch) (D : va_G) (X : va_W) (ad : N3 → Nat) (ca : Nat → ClassId) (a1 : Int32) (a2 : Int32)  (S : St) (hk : ok_Blocks_stepsDown a1 a2 S) : cI l GG D clQ (tysQ ca) nwQ X ad TQ (cfQ ad ca) y_Blocks_stepsDown b_Blocks_stepsDown 5 .int 2 42 [.ref (ad (19, 0, 0)), .int a1, .int a2] S ((f_Blocks_stepsDown a1 a2 S), S) := by
  generalize hr : f_Blocks_stepsDown a1 a2 S = res
  refine zI_of pn_Blocks (Nat.le_of_ble_eq_true rfl) (fun p e s m below meth c A ls hy hW hA hl => ?_)
  have hF := hy.1
  have hx := hF.1
  have hb := hF.2.1
  have hK := hy.2.2.2
  have hl : lv_has ls 5 [(0, .ref (ad (19, 0, 0))), (1, .int a1), (2, .int a2)] := hl
  refine lv_iload_n (pc := 0) hx hb d_Blocks_stepsDown_0 rfl (lv_at hl 1 rfl) ?_
  refine lv_istore_n (pc := 1) (lv' := [(3, .int a1), (0, .ref (ad (19, 0, 0))), (1, .int a1), (2, .int a2)]) hx hb d_Blocks_stepsDown_1 rfl hl (by decide) rfl (fun ls hl => ?_)
  refine lv_iconst (pc := 2) (v := 0) hx hb d_Blocks_stepsDown_2 (by decide) ?_
  refine lv_istore (pc := 3) (lv' := [(4, .int (0 : Int32)), (3, .int a1), (0, .ref (ad (19, 0, 0))), (1, .int a1), (2, .int a2)]) hx hb d_Blocks_stepsDown_3 hl (by decide) rfl (fun ls hl => ?_)
  exact w_Blocks_stepsDown_5 a1 a2 S hy hA 200 a1 (0 : Int32) hk hr _ _ _ hW (lv_sub hl [2, 4, 1, 0] rfl)
theorem d_Transactions_exists_0 : decode b_Transactions_exists 0 = .ok (.iload_n 1, 1) := by decide +kernel
theorem d_Transactions_exists_1 : decode b_Transactions_exists 1 = .ok (.ifCond .lt 15, 3) := by decide +kernel
theorem d_Transactions_exists_4 : decode b_Transactions_exists 4 = .ok (.iload_n 1, 1) := by decide +kernel
theorem d_Transactions_exists_5 : decode b_Transactions_exists 5 = .ok (.aload_n 0, 1) := by decide +kernel
theorem d_Transactions_exists_6 : decode b_Transactions_exists 6 = .ok (.getfield 24, 3) := by decide +kernel
theorem d_Transactions_exists_9 : decode b_Transactions_exists 9 = .ok (.if_icmp .ge 7, 3) := by decide +kernel
theorem d_Transactions_exists_12 : decode b_Transactions_exists 12 = .ok (.iconst 1, 1) := by decide +kernel
theorem d_Transactions_exists_13 : decode b_Transactions_exists 13 = .ok (.goto 4, 3) := by decide +kernel
theorem d_Transactions_exists_16 : decode b_Transactions_exists 16 = .ok (.iconst 0, 1) := by decide +kernel
theorem d_Transactions_exists_17 : decode b_Transactions_exists 17 = .ok (.ireturn, 1) := by decide +kernel
def f_Transactions_exists (a1 : Int32) (S : St) : Int32 :=
  if a1 < 0 then
    (0 : Int32)
  else
    if (S.1 24 0 0 4) ≤ a1 then
      (0 : Int32)
    else
      (1 : Int32)
set_option maxHeartbeats 4000000 in
set_option maxRecDepth 100000 in
theorem c_Transactions_exists (l : Launch) (D : va_G) (X : va_W) (ad : N3 → Nat) (ca : Nat → ClassId) (a1 : Int32)  (S : St) : cI l GG D clQ (tysQ ca) nwQ X ad TQ (cfQ ad ca) y_Transactions_exists b_Transactions_exists 2 .boolean 0 0 [.ref (ad (24, 0, 0)), .int a1] S ((f_Transactions_exists a1 S), S) := by
  generalize hr : f_Transactions_exists a1 S = res
  refine zI_of pn_Transactions (Nat.le_of_ble_eq_true rfl) (fun p e s m below meth c A ls hy hW hA hl => ?_)
  have hF := hy.1
  have hx := hF.1
  have hb := hF.2.1
  have hK := hy.2.2.2
  have hl : lv_has ls 2 [(0, .ref (ad (24, 0, 0))), (1, .int a1)] := hl
  refine lv_iload_n (pc := 0) hx hb d_Transactions_exists_0 rfl (lv_at hl 1 rfl) ?_
  refine lv_if_lt (pc := 1) (tgt := 16) hx hb d_Transactions_exists_1 (by decide) (fun c1 => ?_) (fun c1 => ?_)
  · have hr := (if_pos c1).symm.trans hr
    refine lv_iconst (pc := 16) (v := 0) hx hb d_Transactions_exists_16 (by decide) ?_
    exact z_zret (v := (0 : Int32)) hy hW rfl (congrArg (fun z => (z, S)) hr.symm) d_Transactions_exists_17
  · have hr := (if_neg c1).symm.trans hr
    refine lv_iload_n (pc := 4) hx hb d_Transactions_exists_4 rfl (lv_at hl 1 rfl) ?_
    refine lv_aload_n (pc := 5) hx hb d_Transactions_exists_5 rfl (lv_at hl 0 rfl) ?_
    refine z_get (pc := 6) (v := .int (S.1 24 0 0 4)) hF hK.1 hW tq24 rfl rfl in_Transactions 4 (by decide) gw_117 rfl rfl d_Transactions_exists_6 ?_
    refine lv_icmp_ge (pc := 9) (tgt := 16) hx hb d_Transactions_exists_9 (by decide) (fun c2 => ?_) (fun c2 => ?_)
    · have hr := (if_pos c2).symm.trans hr
      refine lv_iconst (pc := 16) (v := 0) hx hb d_Transactions_exists_16 (by decide) ?_
      exact z_zret (v := (0 : Int32)) hy hW rfl (congrArg (fun z => (z, S)) hr.symm) d_Transactions_exists_17
    · have hr := (if_neg c2).symm.trans hr
      refine lv_iconst (pc := 12) (v := 1) hx hb d_Transactions_exists_12 (by decide) ?_
      refine lv_goto (pc := 13) (tgt := 17) hx hb d_Transactions_exists_13 (by decide) ?_
      exact z_zret (v := (1 : Int32)) hy hW rfl (congrArg (fun z => (z, S)) hr.symm) d_Transactions_exists_17
theorem d_Accounts_move_0 : decode b_Accounts_move 0 = .ok (.iload_n 1, 1) := by decide +kernel
theorem d_Accounts_move_1 : decode b_Accounts_move 1 = .ok (.invokestatic 18, 3) := by decide +kernel
theorem d_Accounts_move_4 : decode b_Accounts_move 4 = .ok (.ifCond .eq 10, 3) := by decide +kernel
theorem d_Accounts_move_7 : decode b_Accounts_move 7 = .ok (.iload_n 2, 1) := by decide +kernel
theorem d_Accounts_move_8 : decode b_Accounts_move 8 = .ok (.invokestatic 18, 3) := by decide +kernel
theorem d_Accounts_move_11 : decode b_Accounts_move 11 = .ok (.ifCond .ne 4, 3) := by decide +kernel
theorem d_Accounts_move_14 : decode b_Accounts_move 14 = .ok (.return_, 1) := by decide +kernel
theorem d_Accounts_move_15 : decode b_Accounts_move 15 = .ok (.aload_n 0, 1) := by decide +kernel
theorem d_Accounts_move_16 : decode b_Accounts_move 16 = .ok (.getfield 15, 3) := by decide +kernel
theorem d_Accounts_move_19 : decode b_Accounts_move 19 = .ok (.iload_n 1, 1) := by decide +kernel
theorem d_Accounts_move_20 : decode b_Accounts_move 20 = .ok (.iaload, 1) := by decide +kernel
theorem d_Accounts_move_21 : decode b_Accounts_move 21 = .ok (.iload 4, 2) := by decide +kernel
theorem d_Accounts_move_23 : decode b_Accounts_move 23 = .ok (.if_icmp .ne 43, 3) := by decide +kernel
theorem d_Accounts_move_26 : decode b_Accounts_move 26 = .ok (.aload_n 0, 1) := by decide +kernel
theorem d_Accounts_move_27 : decode b_Accounts_move 27 = .ok (.getfield 9, 3) := by decide +kernel
theorem d_Accounts_move_30 : decode b_Accounts_move 30 = .ok (.iload_n 1, 1) := by decide +kernel
theorem d_Accounts_move_31 : decode b_Accounts_move 31 = .ok (.iaload, 1) := by decide +kernel
theorem d_Accounts_move_32 : decode b_Accounts_move 32 = .ok (.iload_n 3, 1) := by decide +kernel
theorem d_Accounts_move_33 : decode b_Accounts_move 33 = .ok (.if_icmp .lt 33, 3) := by decide +kernel
theorem d_Accounts_move_36 : decode b_Accounts_move 36 = .ok (.aload_n 0, 1) := by decide +kernel
theorem d_Accounts_move_37 : decode b_Accounts_move 37 = .ok (.getfield 9, 3) := by decide +kernel
theorem d_Accounts_move_40 : decode b_Accounts_move 40 = .ok (.iload_n 1, 1) := by decide +kernel
theorem d_Accounts_move_41 : decode b_Accounts_move 41 = .ok (.dup2, 1) := by decide +kernel
theorem d_Accounts_move_42 : decode b_Accounts_move 42 = .ok (.iaload, 1) := by decide +kernel
theorem d_Accounts_move_43 : decode b_Accounts_move 43 = .ok (.iload_n 3, 1) := by decide +kernel
theorem d_Accounts_move_44 : decode b_Accounts_move 44 = .ok (.isub, 1) := by decide +kernel
theorem d_Accounts_move_45 : decode b_Accounts_move 45 = .ok (.iastore, 1) := by decide +kernel
theorem d_Accounts_move_46 : decode b_Accounts_move 46 = .ok (.aload_n 0, 1) := by decide +kernel
theorem d_Accounts_move_47 : decode b_Accounts_move 47 = .ok (.getfield 9, 3) := by decide +kernel
theorem d_Accounts_move_50 : decode b_Accounts_move 50 = .ok (.iload_n 2, 1) := by decide +kernel
theorem d_Accounts_move_51 : decode b_Accounts_move 51 = .ok (.dup2, 1) := by decide +kernel
theorem d_Accounts_move_52 : decode b_Accounts_move 52 = .ok (.iaload, 1) := by decide +kernel
theorem d_Accounts_move_53 : decode b_Accounts_move 53 = .ok (.iload_n 3, 1) := by decide +kernel
theorem d_Accounts_move_54 : decode b_Accounts_move 54 = .ok (.iadd, 1) := by decide +kernel
theorem d_Accounts_move_55 : decode b_Accounts_move 55 = .ok (.iastore, 1) := by decide +kernel
theorem d_Accounts_move_56 : decode b_Accounts_move 56 = .ok (.aload_n 0, 1) := by decide +kernel
theorem d_Accounts_move_57 : decode b_Accounts_move 57 = .ok (.getfield 15, 3) := by decide +kernel
theorem d_Accounts_move_60 : decode b_Accounts_move 60 = .ok (.iload_n 1, 1) := by decide +kernel
theorem d_Accounts_move_61 : decode b_Accounts_move 61 = .ok (.dup2, 1) := by decide +kernel
theorem d_Accounts_move_62 : decode b_Accounts_move 62 = .ok (.iaload, 1) := by decide +kernel
theorem d_Accounts_move_63 : decode b_Accounts_move 63 = .ok (.iconst 1, 1) := by decide +kernel
theorem d_Accounts_move_64 : decode b_Accounts_move 64 = .ok (.iadd, 1) := by decide +kernel
theorem d_Accounts_move_65 : decode b_Accounts_move 65 = .ok (.iastore, 1) := by decide +kernel
theorem d_Accounts_move_66 : decode b_Accounts_move 66 = .ok (.return_, 1) := by decide +kernel
def f_Accounts_move (i0 : Nat) (a1 : Int32) (a2 : Int32) (a3 : Int32) (a4 : Int32) (S : St) : St :=
  lt (f_QC_isAccount a1 S) fun (r1 : Int32) =>
  if r1 = 0 then
    S
  else
    lt (f_QC_isAccount a2 S) fun (r3 : Int32) =>
    if r3 = 0 then
      S
    else
      if (S.1 9 i0 0 a1.toNatClampNeg) = a4 then
        if (S.1 8 i0 0 a1.toNatClampNeg) < a3 then
          S
        else
          lt (si S 8 i0 0 (a1.toNatClampNeg) ((S.1 8 i0 0 a1.toNatClampNeg) - a3)) fun (S11 : St) =>
          lt (si S11 8 i0 0 (a2.toNatClampNeg) ((S11.1 8 i0 0 a2.toNatClampNeg) + a3)) fun (S14 : St) =>
          lt (si S14 9 i0 0 (a1.toNatClampNeg) ((S14.1 9 i0 0 a1.toNatClampNeg) + (1 : Int32))) fun (S17 : St) =>
          S17
      else
        S
def ok_Accounts_move (i0 : Nat) (a1 : Int32) (a2 : Int32) (a3 : Int32) (a4 : Int32) (S : St) : Prop :=
  lt (f_QC_isAccount a1 S) fun (r1 : Int32) =>
  (r1 = 0 → (
    True)) ∧ (¬ (r1 = 0) → (
    lt (f_QC_isAccount a2 S) fun (r3 : Int32) =>
    (r3 = 0 → (
      True)) ∧ (¬ (r3 = 0) → (
      (vp_in a1 4) ∧ (
        ((S.1 9 i0 0 a1.toNatClampNeg) = a4 → (
          (vp_in a1 4) ∧ (
            ((S.1 8 i0 0 a1.toNatClampNeg) < a3 → (
              True)) ∧ (¬ ((S.1 8 i0 0 a1.toNatClampNeg) < a3) → (
              (vp_in a1 4) ∧ (
                (vp_in a1 4) ∧ (
                  lt (si S 8 i0 0 (a1.toNatClampNeg) ((S.1 8 i0 0 a1.toNatClampNeg) - a3)) fun (S11 : St) =>
                  (vp_in a2 4) ∧ (
                    (vp_in a2 4) ∧ (
                      lt (si S11 8 i0 0 (a2.toNatClampNeg) ((S11.1 8 i0 0 a2.toNatClampNeg) + a3)) fun (S14 : St) =>
                      (vp_in a1 4) ∧ (
                        (vp_in a1 4) ∧ (
                          True))))))))))) ∧ (¬ ((S.1 9 i0 0 a1.toNatClampNeg) = a4) → (
          True)))))))
set_option maxHeartbeats 4000000 in
set_option maxRecDepth 100000 in
theorem c_Accounts_move (l : Launch) (D : va_G) (X : va_W) (ad : N3 → Nat) (ca : Nat → ClassId) (i0 : Nat) (a1 : Int32) (a2 : Int32) (a3 : Int32) (a4 : Int32) (h0 : i0 < 4) (S : St) (hk : ok_Accounts_move i0 a1 a2 a3 a4 S) : cV l GG D clQ (tysQ ca) nwQ X ad TQ (cfQ ad ca) y_Accounts_move b_Accounts_move 5 1 20 [.ref (ad (7, i0, 0)), .int a1, .int a2, .int a3, .int a4] S (f_Accounts_move i0 a1 a2 a3 a4 S) := by
  generalize hr : f_Accounts_move i0 a1 a2 a3 a4 S = res
  refine zV_of pn_Accounts (Nat.le_of_ble_eq_true rfl) (fun p e s m below meth c A ls hy hW hA hl => ?_)
  have hF := hy.1
  have hx := hF.1
  have hb := hF.2.1
  have hK := hy.2.2.2
  have hl : lv_has ls 5 [(0, .ref (ad (7, i0, 0))), (1, .int a1), (2, .int a2), (3, .int a3), (4, .int a4)] := hl
  refine lv_iload_n (pc := 0) hx hb d_Accounts_move_0 rfl (lv_at hl 1 rfl) ?_
  obtain ⟨r1, er1⟩ : ∃ z : Int32, z = f_QC_isAccount a1 S := ⟨_, rfl⟩
  have hk := lt_p er1 hk
  have hr := lt_e er1 hr
  refine z_goI (pc := 1) hW hA (congrArg (fun q => (q, S)) er1) (z_runSN hF hK hW (c_QC_isAccount l D X ad ca a1 S _) cd_QC_isAccount nw_Accounts_18 ⟨Nat.le_of_ble_eq_true rfl, Nat.le_of_ble_eq_true rfl⟩ ⟨Nat.zero_le _, Nat.zero_le _⟩ rfl rfl hl.1 (Nat.le_of_ble_eq_true rfl) d_Accounts_move_1) (fun H locs (hW : Wd D clQ A s.heap (zw X ad TQ (cfQ ad ca) S) H locs) => ?_)
  refine lv_if_eq (pc := 4) (tgt := 14) hx hb d_Accounts_move_4 (by decide) (fun c2 => ?_) (fun c2 => ?_)
  · have hk := hk.1 c2
    have hr := (if_pos c2).symm.trans hr
    exact z_vret hy hW hr.symm d_Accounts_move_14
  · have hk := hk.2 c2
    have hr := (if_neg c2).symm.trans hr
    refine lv_iload_n (pc := 7) hx hb d_Accounts_move_7 rfl (lv_at hl 2 rfl) ?_
    obtain ⟨r3, er3⟩ : ∃ z : Int32, z = f_QC_isAccount a2 S := ⟨_, rfl⟩
    have hk := lt_p er3 hk
    have hr := lt_e er3 hr
    refine z_goI (pc := 8) hW hA (congrArg (fun q => (q, S)) er3) (z_runSN hF hK hW (c_QC_isAccount l D X ad ca a2 S _) cd_QC_isAccount nw_Accounts_18 ⟨Nat.le_of_ble_eq_true rfl, Nat.le_of_ble_eq_true rfl⟩ ⟨Nat.zero_le _, Nat.zero_le _⟩ rfl rfl hl.1 (Nat.le_of_ble_eq_true rfl) d_Accounts_move_8) (fun H locs (hW : Wd D clQ A s.heap (zw X ad TQ (cfQ ad ca) S) H locs) => ?_)
    refine lv_if_ne (pc := 11) (tgt := 15) hx hb d_Accounts_move_11 (by decide) (fun c4 => ?_) (fun c4 => ?_)
    · have hk := hk.2 c4
      have hr := (if_neg c4).symm.trans hr
      refine lv_aload_n (pc := 15) hx hb d_Accounts_move_15 rfl (lv_at hl 0 rfl) ?_
      refine z_get (pc := 16) (v := .ref (ad (9, i0, 0))) hF hK.1 hW (tq7 h0) rfl rfl in_Accounts 1 (by decide) gw_212 rfl rfl d_Accounts_move_16 ?_
      refine lv_iload_n (pc := 19) hx hb d_Accounts_move_19 rfl (lv_at hl 1 rfl) ?_
      have b5 := hk.1
      have hk := hk.2
      refine z_iald (pc := 20) (v := S.1 9 i0 0 a1.toNatClampNeg) hF hK.1 hW (tq9 h0) 0 rfl rfl b5 rfl d_Accounts_move_20 ?_
      refine lv_iload (pc := 21) hx hb d_Accounts_move_21 (lv_at hl 4 rfl) ?_
      refine lv_icmp_ne (pc := 23) (tgt := 66) hx hb d_Accounts_move_23 (by decide) (fun c6 => ?_) (fun c6 => ?_)
      · have hk := hk.2 c6
        have hr := (if_neg c6).symm.trans hr
        exact z_vret hy hW hr.symm d_Accounts_move_66
      · have hk := hk.1 c6
        have hr := (if_pos c6).symm.trans hr
        refine lv_aload_n (pc := 26) hx hb d_Accounts_move_26 rfl (lv_at hl 0 rfl) ?_
        refine z_get (pc := 27) (v := .ref (ad (8, i0, 0))) hF hK.1 hW (tq7 h0) rfl rfl in_Accounts 0 (by decide) gw_210 rfl rfl d_Accounts_move_27 ?_
        refine lv_iload_n (pc := 30) hx hb d_Accounts_move_30 rfl (lv_at hl 1 rfl) ?_
        have b7 := hk.1
        have hk := hk.2
        refine z_iald (pc := 31) (v := S.1 8 i0 0 a1.toNatClampNeg) hF hK.1 hW (tq8 h0) 0 rfl rfl b7 rfl d_Accounts_move_31 ?_
        refine lv_iload_n (pc := 32) hx hb d_Accounts_move_32 rfl (lv_at hl 3 rfl) ?_
        refine lv_icmp_lt (pc := 33) (tgt := 66) hx hb d_Accounts_move_33 (by decide) (fun c8 => ?_) (fun c8 => ?_)
        · have hk := hk.1 c8
          have hr := (if_pos c8).symm.trans hr
          exact z_vret hy hW hr.symm d_Accounts_move_66
        · have hk := hk.2 c8
          have hr := (if_neg c8).symm.trans hr
          refine lv_aload_n (pc := 36) hx hb d_Accounts_move_36 rfl (lv_at hl 0 rfl) ?_
          refine z_get (pc := 37) (v := .ref (ad (8, i0, 0))) hF hK.1 hW (tq7 h0) rfl rfl in_Accounts 0 (by decide) gw_210 rfl rfl d_Accounts_move_37 ?_
          refine lv_iload_n (pc := 40) hx hb d_Accounts_move_40 rfl (lv_at hl 1 rfl) ?_
          refine lv_dup2_11 (pc := 41) hx hb d_Accounts_move_41 rfl rfl ?_
          have b9 := hk.1
          have hk := hk.2
          refine z_iald (pc := 42) (v := S.1 8 i0 0 a1.toNatClampNeg) hF hK.1 hW (tq8 h0) 0 rfl rfl b9 rfl d_Accounts_move_42 ?_
          refine lv_iload_n (pc := 43) hx hb d_Accounts_move_43 rfl (lv_at hl 3 rfl) ?_
          refine lv_isub (pc := 44) hx hb d_Accounts_move_44 ?_
          have b10 := hk.1
          have hk := hk.2
          obtain ⟨S11, eS11⟩ : ∃ z : St, z = si S 8 i0 0 (a1.toNatClampNeg) ((S.1 8 i0 0 a1.toNatClampNeg) - a3) := ⟨_, rfl⟩
          have hk := lt_p eS11 hk
          have hr := lt_e eS11 hr
          refine z_iast (pc := 45) (S' := S11) hF hK.1 hW (tq8 h0) 0 rfl rfl b10 (zs_si eS11 rfl) (zs_sio eS11) d_Accounts_move_45 (fun H locs (hW : Wd D clQ A s.heap (zw X ad TQ (cfQ ad ca) S11) H locs) => ?_)
          refine lv_aload_n (pc := 46) hx hb d_Accounts_move_46 rfl (lv_at hl 0 rfl) ?_
          refine z_get (pc := 47) (v := .ref (ad (8, i0, 0))) hF hK.1 hW (tq7 h0) rfl rfl in_Accounts 0 (by decide) gw_210 rfl rfl d_Accounts_move_47 ?_
          refine lv_iload_n (pc := 50) hx hb d_Accounts_move_50 rfl (lv_at hl 2 rfl) ?_
          refine lv_dup2_11 (pc := 51) hx hb d_Accounts_move_51 rfl rfl ?_
          have b12 := hk.1
          have hk := hk.2
          refine z_iald (pc := 52) (v := S11.1 8 i0 0 a2.toNatClampNeg) hF hK.1 hW (tq8 h0) 0 rfl rfl b12 rfl d_Accounts_move_52 ?_
          refine lv_iload_n (pc := 53) hx hb d_Accounts_move_53 rfl (lv_at hl 3 rfl) ?_
          refine lv_iadd (pc := 54) hx hb d_Accounts_move_54 ?_
          have b13 := hk.1
          have hk := hk.2
          obtain ⟨S14, eS14⟩ : ∃ z : St, z = si S11 8 i0 0 (a2.toNatClampNeg) ((S11.1 8 i0 0 a2.toNatClampNeg) + a3) := ⟨_, rfl⟩
          have hk := lt_p eS14 hk
          have hr := lt_e eS14 hr
          refine z_iast (pc := 55) (S' := S14) hF hK.1 hW (tq8 h0) 0 rfl rfl b13 (zs_si eS14 rfl) (zs_sio eS14) d_Accounts_move_55 (fun H locs (hW : Wd D clQ A s.heap (zw X ad TQ (cfQ ad ca) S14) H locs) => ?_)
          refine lv_aload_n (pc := 56) hx hb d_Accounts_move_56 rfl (lv_at hl 0 rfl) ?_
          refine z_get (pc := 57) (v := .ref (ad (9, i0, 0))) hF hK.1 hW (tq7 h0) rfl rfl in_Accounts 1 (by decide) gw_212 rfl rfl d_Accounts_move_57 ?_
          refine lv_iload_n (pc := 60) hx hb d_Accounts_move_60 rfl (lv_at hl 1 rfl) ?_
          refine lv_dup2_11 (pc := 61) hx hb d_Accounts_move_61 rfl rfl ?_
          have b15 := hk.1
          have hk := hk.2
          refine z_iald (pc := 62) (v := S14.1 9 i0 0 a1.toNatClampNeg) hF hK.1 hW (tq9 h0) 0 rfl rfl b15 rfl d_Accounts_move_62 ?_
          refine lv_iconst (pc := 63) (v := 1) hx hb d_Accounts_move_63 (by decide) ?_
          refine lv_iadd (pc := 64) hx hb d_Accounts_move_64 ?_
          have b16 := hk.1
          have hk := hk.2
          obtain ⟨S17, eS17⟩ : ∃ z : St, z = si S14 9 i0 0 (a1.toNatClampNeg) ((S14.1 9 i0 0 a1.toNatClampNeg) + (1 : Int32)) := ⟨_, rfl⟩
          have hr := lt_e eS17 hr
          refine z_iast (pc := 65) (S' := S17) hF hK.1 hW (tq9 h0) 0 rfl rfl b16 (zs_si eS17 rfl) (zs_sio eS17) d_Accounts_move_65 (fun H locs (hW : Wd D clQ A s.heap (zw X ad TQ (cfQ ad ca) S17) H locs) => ?_)
          exact z_vret hy hW hr.symm d_Accounts_move_66
    · have hk := hk.1 c4
      have hr := (if_pos c4).symm.trans hr
      exact z_vret hy hW hr.symm d_Accounts_move_14
theorem d_Transactions_carryOut_0 : decode b_Transactions_carryOut 0 = .ok (.aload_n 0, 1) := by decide +kernel
theorem d_Transactions_carryOut_1 : decode b_Transactions_carryOut 1 = .ok (.iload_n 1, 1) := by decide +kernel
theorem d_Transactions_carryOut_2 : decode b_Transactions_carryOut 2 = .ok (.invokevirtual 28, 3) := by decide +kernel
theorem d_Transactions_carryOut_5 : decode b_Transactions_carryOut 5 = .ok (.ifCond .eq 31, 3) := by decide +kernel
theorem d_Transactions_carryOut_8 : decode b_Transactions_carryOut 8 = .ok (.aload_n 2, 1) := by decide +kernel
theorem d_Transactions_carryOut_9 : decode b_Transactions_carryOut 9 = .ok (.aload_n 0, 1) := by decide +kernel
theorem d_Transactions_carryOut_10 : decode b_Transactions_carryOut 10 = .ok (.getfield 9, 3) := by decide +kernel
theorem d_Transactions_carryOut_13 : decode b_Transactions_carryOut 13 = .ok (.iload_n 1, 1) := by decide +kernel
theorem d_Transactions_carryOut_14 : decode b_Transactions_carryOut 14 = .ok (.iaload, 1) := by decide +kernel
theorem d_Transactions_carryOut_15 : decode b_Transactions_carryOut 15 = .ok (.aload_n 0, 1) := by decide +kernel
theorem d_Transactions_carryOut_16 : decode b_Transactions_carryOut 16 = .ok (.getfield 15, 3) := by decide +kernel
theorem d_Transactions_carryOut_19 : decode b_Transactions_carryOut 19 = .ok (.iload_n 1, 1) := by decide +kernel
theorem d_Transactions_carryOut_20 : decode b_Transactions_carryOut 20 = .ok (.iaload, 1) := by decide +kernel
theorem d_Transactions_carryOut_21 : decode b_Transactions_carryOut 21 = .ok (.aload_n 0, 1) := by decide +kernel
theorem d_Transactions_carryOut_22 : decode b_Transactions_carryOut 22 = .ok (.getfield 18, 3) := by decide +kernel
theorem d_Transactions_carryOut_25 : decode b_Transactions_carryOut 25 = .ok (.iload_n 1, 1) := by decide +kernel
theorem d_Transactions_carryOut_26 : decode b_Transactions_carryOut 26 = .ok (.iaload, 1) := by decide +kernel
theorem d_Transactions_carryOut_27 : decode b_Transactions_carryOut 27 = .ok (.aload_n 0, 1) := by decide +kernel
theorem d_Transactions_carryOut_28 : decode b_Transactions_carryOut 28 = .ok (.getfield 21, 3) := by decide +kernel
theorem d_Transactions_carryOut_31 : decode b_Transactions_carryOut 31 = .ok (.iload_n 1, 1) := by decide +kernel
theorem d_Transactions_carryOut_32 : decode b_Transactions_carryOut 32 = .ok (.iaload, 1) := by decide +kernel
theorem d_Transactions_carryOut_33 : decode b_Transactions_carryOut 33 = .ok (.invokevirtual 32, 3) := by decide +kernel
theorem d_Transactions_carryOut_36 : decode b_Transactions_carryOut 36 = .ok (.return_, 1) := by decide +kernel
def f_Transactions_carryOut (a1 : Int32) (i2 : Nat) (S : St) : St :=
  lt (f_Transactions_exists a1 S) fun (r1 : Int32) =>
  if r1 = 0 then
    S
  else
    lt (f_Accounts_move i2 (S.1 25 0 0 a1.toNatClampNeg) (S.1 26 0 0 a1.toNatClampNeg) (S.1 27 0 0 a1.toNatClampNeg) (S.1 28 0 0 a1.toNatClampNeg) S) fun (S9 : St) =>
    S9
def ok_Transactions_carryOut (a1 : Int32) (i2 : Nat) (S : St) : Prop :=
  lt (f_Transactions_exists a1 S) fun (r1 : Int32) =>
  (r1 = 0 → (
    True)) ∧ (¬ (r1 = 0) → (
    (vp_in a1 40) ∧ (
      (vp_in a1 40) ∧ (
        (vp_in a1 40) ∧ (
          (vp_in a1 40) ∧ (
            (ok_Accounts_move i2 (S.1 25 0 0 a1.toNatClampNeg) (S.1 26 0 0 a1.toNatClampNeg) (S.1 27 0 0 a1.toNatClampNeg) (S.1 28 0 0 a1.toNatClampNeg) S) ∧ (
              True)))))))
set_option maxHeartbeats 4000000 in
set_option maxRecDepth 100000 in
theorem c_Transactions_carryOut (l : Launch) (D : va_G) (X : va_W) (ad : N3 → Nat) (ca : Nat → ClassId) (a1 : Int32) (i2 : Nat) (h2 : i2 < 4) (S : St) (hk : ok_Transactions_carryOut a1 i2 S) : cV l GG D clQ (tysQ ca) nwQ X ad TQ (cfQ ad ca) y_Transactions_carryOut b_Transactions_carryOut 3 2 44 [.ref (ad (24, 0, 0)), .int a1, .ref (ad (7, i2, 0))] S (f_Transactions_carryOut a1 i2 S) := by
  generalize hr : f_Transactions_carryOut a1 i2 S = res
  refine zV_of pn_Transactions (Nat.le_of_ble_eq_true rfl) (fun p e s m below meth c A ls hy hW hA hl => ?_)
  have hF := hy.1
  have hx := hF.1
  have hb := hF.2.1
  have hK := hy.2.2.2
  have hl : lv_has ls 3 [(0, .ref (ad (24, 0, 0))), (1, .int a1), (2, .ref (ad (7, i2, 0)))] := hl
  refine lv_aload_n (pc := 0) hx hb d_Transactions_carryOut_0 rfl (lv_at hl 0 rfl) ?_
  refine lv_iload_n (pc := 1) hx hb d_Transactions_carryOut_1 rfl (lv_at hl 1 rfl) ?_
  obtain ⟨r1, er1⟩ : ∃ z : Int32, z = f_Transactions_exists a1 S := ⟨_, rfl⟩
  have hk := lt_p er1 hk
  have hr := lt_e er1 hr
  refine z_goI (pc := 2) hW hA (congrArg (fun q => (q, S)) er1) (z_runV hF hK hW (c_Transactions_exists l D X ad ca a1 S _) cd_Transactions_exists gw_720 tq24 rfl rfl ⟨Nat.le_of_ble_eq_true rfl, Nat.le_of_ble_eq_true rfl⟩ ⟨Nat.zero_le _, Nat.zero_le _⟩ rfl rfl hl.1 (Nat.le_of_ble_eq_true rfl) d_Transactions_carryOut_2) (fun H locs (hW : Wd D clQ A s.heap (zw X ad TQ (cfQ ad ca) S) H locs) => ?_)
  refine lv_if_eq (pc := 5) (tgt := 36) hx hb d_Transactions_carryOut_5 (by decide) (fun c2 => ?_) (fun c2 => ?_)
  · have hk := hk.1 c2
    have hr := (if_pos c2).symm.trans hr
    exact z_vret hy hW hr.symm d_Transactions_carryOut_36
  · have hk := hk.2 c2
    have hr := (if_neg c2).symm.trans hr
    refine lv_aload_n (pc := 8) hx hb d_Transactions_carryOut_8 rfl (lv_at hl 2 rfl) ?_
    refine lv_aload_n (pc := 9) hx hb d_Transactions_carryOut_9 rfl (lv_at hl 0 rfl) ?_
    refine z_get (pc := 10) (v := .ref (ad (25, 0, 0))) hF hK.1 hW tq24 rfl rfl in_Transactions 0 (by decide) gw_113 rfl rfl d_Transactions_carryOut_10 ?_
    refine lv_iload_n (pc := 13) hx hb d_Transactions_carryOut_13 rfl (lv_at hl 1 rfl) ?_
    have b3 := hk.1
    have hk := hk.2
    refine z_iald (pc := 14) (v := S.1 25 0 0 a1.toNatClampNeg) hF hK.1 hW tq25 0 rfl rfl b3 rfl d_Transactions_carryOut_14 ?_
    refine lv_aload_n (pc := 15) hx hb d_Transactions_carryOut_15 rfl (lv_at hl 0 rfl) ?_
    refine z_get (pc := 16) (v := .ref (ad (26, 0, 0))) hF hK.1 hW tq24 rfl rfl in_Transactions 1 (by decide) gw_114 rfl rfl d_Transactions_carryOut_16 ?_
    refine lv_iload_n (pc := 19) hx hb d_Transactions_carryOut_19 rfl (lv_at hl 1 rfl) ?_
    have b4 := hk.1
    have hk := hk.2
    refine z_iald (pc := 20) (v := S.1 26 0 0 a1.toNatClampNeg) hF hK.1 hW tq26 0 rfl rfl b4 rfl d_Transactions_carryOut_20 ?_
    refine lv_aload_n (pc := 21) hx hb d_Transactions_carryOut_21 rfl (lv_at hl 0 rfl) ?_
    refine z_get (pc := 22) (v := .ref (ad (27, 0, 0))) hF hK.1 hW tq24 rfl rfl in_Transactions 2 (by decide) gw_115 rfl rfl d_Transactions_carryOut_22 ?_
    refine lv_iload_n (pc := 25) hx hb d_Transactions_carryOut_25 rfl (lv_at hl 1 rfl) ?_
    have b5 := hk.1
    have hk := hk.2
    refine z_iald (pc := 26) (v := S.1 27 0 0 a1.toNatClampNeg) hF hK.1 hW tq27 0 rfl rfl b5 rfl d_Transactions_carryOut_26 ?_
    refine lv_aload_n (pc := 27) hx hb d_Transactions_carryOut_27 rfl (lv_at hl 0 rfl) ?_
    refine z_get (pc := 28) (v := .ref (ad (28, 0, 0))) hF hK.1 hW tq24 rfl rfl in_Transactions 3 (by decide) gw_116 rfl rfl d_Transactions_carryOut_28 ?_
    refine lv_iload_n (pc := 31) hx hb d_Transactions_carryOut_31 rfl (lv_at hl 1 rfl) ?_
    have b6 := hk.1
    have hk := hk.2
    refine z_iald (pc := 32) (v := S.1 28 0 0 a1.toNatClampNeg) hF hK.1 hW tq28 0 rfl rfl b6 rfl d_Transactions_carryOut_32 ?_
    have o7 := hk.1
    have hk := hk.2
    obtain ⟨S9, eS9⟩ : ∃ z : St, z = f_Accounts_move i2 (S.1 25 0 0 a1.toNatClampNeg) (S.1 26 0 0 a1.toNatClampNeg) (S.1 27 0 0 a1.toNatClampNeg) (S.1 28 0 0 a1.toNatClampNeg) S := ⟨_, rfl⟩
    have hr := lt_e eS9 hr
    refine z_goV (pc := 33) hW hA eS9 (z_runV hF hK hW (c_Accounts_move l D X ad ca i2 (S.1 25 0 0 a1.toNatClampNeg) (S.1 26 0 0 a1.toNatClampNeg) (S.1 27 0 0 a1.toNatClampNeg) (S.1 28 0 0 a1.toNatClampNeg) h2 S o7 _) cd_Accounts_move gw_721 (tq7 h2) rfl rfl ⟨Nat.le_of_ble_eq_true rfl, Nat.le_of_ble_eq_true rfl⟩ ⟨Nat.zero_le _, Nat.zero_le _⟩ rfl rfl hl.1 (Nat.le_of_ble_eq_true rfl) d_Transactions_carryOut_33) (fun H locs (hW : Wd D clQ A s.heap (zw X ad TQ (cfQ ad ca) S9) H locs) => ?_)
    exact z_vret hy hW hr.symm d_Transactions_carryOut_36
end
section
theorem d_QC_commitUpTo_0 : decode b_QC_commitUpTo 0 = .ok (.aload_n 0, 1) := by decide +kernel
theorem d_QC_commitUpTo_1 : decode b_QC_commitUpTo 1 = .ok (.getfield 18, 3) := by decide +kernel
theorem d_QC_commitUpTo_4 : decode b_QC_commitUpTo 4 = .ok (.iload_n 2, 1) := by decide +kernel
theorem d_QC_commitUpTo_5 : decode b_QC_commitUpTo 5 = .ok (.aload_n 1, 1) := by decide +kernel
theorem d_QC_commitUpTo_6 : decode b_QC_commitUpTo 6 = .ok (.invokevirtual 379, 3) := by decide +kernel
theorem d_QC_commitUpTo_9 : decode b_QC_commitUpTo 9 = .ok (.invokevirtual 383, 3) := by decide +kernel
theorem d_QC_commitUpTo_12 : decode b_QC_commitUpTo 12 = .ok (.istore_n 3, 1) := by decide +kernel
theorem d_QC_commitUpTo_13 : decode b_QC_commitUpTo 13 = .ok (.aload_n 1, 1) := by decide +kernel
theorem d_QC_commitUpTo_14 : decode b_QC_commitUpTo 14 = .ok (.getfield 260, 3) := by decide +kernel
theorem d_QC_commitUpTo_17 : decode b_QC_commitUpTo 17 = .ok (.istore 4, 2) := by decide +kernel
theorem d_QC_commitUpTo_19 : decode b_QC_commitUpTo 19 = .ok (.iload_n 3, 1) := by decide +kernel
theorem d_QC_commitUpTo_20 : decode b_QC_commitUpTo 20 = .ok (.iconst (-1), 1) := by decide +kernel
theorem d_QC_commitUpTo_21 : decode b_QC_commitUpTo 21 = .ok (.if_icmp .eq 12, 3) := by decide +kernel
theorem d_QC_commitUpTo_24 : decode b_QC_commitUpTo 24 = .ok (.iload 4, 2) := by decide +kernel
theorem d_QC_commitUpTo_26 : decode b_QC_commitUpTo 26 = .ok (.iload_n 3, 1) := by decide +kernel
theorem d_QC_commitUpTo_27 : decode b_QC_commitUpTo 27 = .ok (.iadd, 1) := by decide +kernel
theorem d_QC_commitUpTo_28 : decode b_QC_commitUpTo 28 = .ok (.bipush 100, 2) := by decide +kernel
theorem d_QC_commitUpTo_30 : decode b_QC_commitUpTo 30 = .ok (.if_icmp .le 4, 3) := by decide +kernel
theorem d_QC_commitUpTo_33 : decode b_QC_commitUpTo 33 = .ok (.return_, 1) := by decide +kernel
theorem d_QC_commitUpTo_34 : decode b_QC_commitUpTo 34 = .ok (.iload_n 2, 1) := by decide +kernel
theorem d_QC_commitUpTo_35 : decode b_QC_commitUpTo 35 = .ok (.istore 5, 2) := by decide +kernel
theorem d_QC_commitUpTo_37 : decode b_QC_commitUpTo 37 = .ok (.iload 4, 2) := by decide +kernel
theorem d_QC_commitUpTo_39 : decode b_QC_commitUpTo 39 = .ok (.iload_n 3, 1) := by decide +kernel
theorem d_QC_commitUpTo_40 : decode b_QC_commitUpTo 40 = .ok (.iadd, 1) := by decide +kernel
theorem d_QC_commitUpTo_41 : decode b_QC_commitUpTo 41 = .ok (.iconst 1, 1) := by decide +kernel
theorem d_QC_commitUpTo_42 : decode b_QC_commitUpTo 42 = .ok (.isub, 1) := by decide +kernel
theorem d_QC_commitUpTo_43 : decode b_QC_commitUpTo 43 = .ok (.istore 6, 2) := by decide +kernel
theorem d_QC_commitUpTo_45 : decode b_QC_commitUpTo 45 = .ok (.iload 6, 2) := by decide +kernel
theorem d_QC_commitUpTo_47 : decode b_QC_commitUpTo 47 = .ok (.iload 4, 2) := by decide +kernel
theorem d_QC_commitUpTo_49 : decode b_QC_commitUpTo 49 = .ok (.if_icmp .lt 29, 3) := by decide +kernel
theorem d_QC_commitUpTo_52 : decode b_QC_commitUpTo 52 = .ok (.aload_n 1, 1) := by decide +kernel
theorem d_QC_commitUpTo_53 : decode b_QC_commitUpTo 53 = .ok (.getfield 386, 3) := by decide +kernel
theorem d_QC_commitUpTo_56 : decode b_QC_commitUpTo 56 = .ok (.iload 6, 2) := by decide +kernel
theorem d_QC_commitUpTo_58 : decode b_QC_commitUpTo 58 = .ok (.iload 5, 2) := by decide +kernel
theorem d_QC_commitUpTo_60 : decode b_QC_commitUpTo 60 = .ok (.iastore, 1) := by decide +kernel
theorem d_QC_commitUpTo_61 : decode b_QC_commitUpTo 61 = .ok (.aload_n 0, 1) := by decide +kernel
theorem d_QC_commitUpTo_62 : decode b_QC_commitUpTo 62 = .ok (.getfield 18, 3) := by decide +kernel
theorem d_QC_commitUpTo_65 : decode b_QC_commitUpTo 65 = .ok (.iload 5, 2) := by decide +kernel
theorem d_QC_commitUpTo_67 : decode b_QC_commitUpTo 67 = .ok (.invokevirtual 285, 3) := by decide +kernel
theorem d_QC_commitUpTo_70 : decode b_QC_commitUpTo 70 = .ok (.istore 5, 2) := by decide +kernel
theorem d_QC_commitUpTo_72 : decode b_QC_commitUpTo 72 = .ok (.iinc 6 (-1), 3) := by decide +kernel
theorem d_QC_commitUpTo_75 : decode b_QC_commitUpTo 75 = .ok (.goto (-30), 3) := by decide +kernel
theorem d_QC_commitUpTo_78 : decode b_QC_commitUpTo 78 = .ok (.aload_n 1, 1) := by decide +kernel
theorem d_QC_commitUpTo_79 : decode b_QC_commitUpTo 79 = .ok (.iload 4, 2) := by decide +kernel
theorem d_QC_commitUpTo_81 : decode b_QC_commitUpTo 81 = .ok (.iload_n 3, 1) := by decide +kernel
theorem d_QC_commitUpTo_82 : decode b_QC_commitUpTo 82 = .ok (.iadd, 1) := by decide +kernel
theorem d_QC_commitUpTo_83 : decode b_QC_commitUpTo 83 = .ok (.putfield 260, 3) := by decide +kernel
theorem d_QC_commitUpTo_86 : decode b_QC_commitUpTo 86 = .ok (.iload 4, 2) := by decide +kernel
theorem d_QC_commitUpTo_88 : decode b_QC_commitUpTo 88 = .ok (.istore 6, 2) := by decide +kernel
theorem d_QC_commitUpTo_90 : decode b_QC_commitUpTo 90 = .ok (.iload 6, 2) := by decide +kernel
theorem d_QC_commitUpTo_92 : decode b_QC_commitUpTo 92 = .ok (.iload 4, 2) := by decide +kernel
theorem d_QC_commitUpTo_94 : decode b_QC_commitUpTo 94 = .ok (.iload_n 3, 1) := by decide +kernel
theorem d_QC_commitUpTo_95 : decode b_QC_commitUpTo 95 = .ok (.iadd, 1) := by decide +kernel
theorem d_QC_commitUpTo_96 : decode b_QC_commitUpTo 96 = .ok (.if_icmp .ge 34, 3) := by decide +kernel
theorem d_QC_commitUpTo_99 : decode b_QC_commitUpTo 99 = .ok (.aload_n 0, 1) := by decide +kernel
theorem d_QC_commitUpTo_100 : decode b_QC_commitUpTo 100 = .ok (.getfield 25, 3) := by decide +kernel
theorem d_QC_commitUpTo_103 : decode b_QC_commitUpTo 103 = .ok (.aload_n 0, 1) := by decide +kernel
theorem d_QC_commitUpTo_104 : decode b_QC_commitUpTo 104 = .ok (.getfield 18, 3) := by decide +kernel
theorem d_QC_commitUpTo_107 : decode b_QC_commitUpTo 107 = .ok (.aload_n 1, 1) := by decide +kernel
theorem d_QC_commitUpTo_108 : decode b_QC_commitUpTo 108 = .ok (.getfield 386, 3) := by decide +kernel
theorem d_QC_commitUpTo_111 : decode b_QC_commitUpTo 111 = .ok (.iload 6, 2) := by decide +kernel
theorem d_QC_commitUpTo_113 : decode b_QC_commitUpTo 113 = .ok (.iaload, 1) := by decide +kernel
theorem d_QC_commitUpTo_114 : decode b_QC_commitUpTo 114 = .ok (.invokevirtual 288, 3) := by decide +kernel
theorem d_QC_commitUpTo_117 : decode b_QC_commitUpTo 117 = .ok (.aload_n 1, 1) := by decide +kernel
theorem d_QC_commitUpTo_118 : decode b_QC_commitUpTo 118 = .ok (.getfield 272, 3) := by decide +kernel
theorem d_QC_commitUpTo_121 : decode b_QC_commitUpTo 121 = .ok (.invokevirtual 389, 3) := by decide +kernel
theorem d_QC_commitUpTo_124 : decode b_QC_commitUpTo 124 = .ok (.iinc 6 1, 3) := by decide +kernel
theorem d_QC_commitUpTo_127 : decode b_QC_commitUpTo 127 = .ok (.goto (-37), 3) := by decide +kernel
theorem d_QC_commitUpTo_130 : decode b_QC_commitUpTo 130 = .ok (.return_, 1) := by decide +kernel
def f_QC_commitUpTo_90 (i1 : Nat) (a2 : Int32) : Nat → St → Int32 → Int32 → Int32 → St
  | 0, S, _, _, _ => S
  | n + 1, S, l3, l4, l6 =>
    if (l4 + l3) ≤ l6 then
      S
    else
      lt (f_Blocks_transactionOf (S.1 6 i1 0 l6.toNatClampNeg) S) fun (r16 : Int32) =>
      lt (f_Transactions_carryOut r16 i1 S) fun (S19 : St) =>
      f_QC_commitUpTo_90 i1 a2 n S19 l3 l4 (l6 + (1 : Int32))
def ok_QC_commitUpTo_90 (i1 : Nat) (a2 : Int32) : Nat → St → Int32 → Int32 → Int32 → Prop
  | 0, _, _, _, _ => False
  | n + 1, S, l3, l4, l6 =>
    ((l4 + l3) ≤ l6 → (
      True)) ∧ (¬ ((l4 + l3) ≤ l6) → (
      (vp_in l6 100) ∧ (
        (ok_Blocks_transactionOf (S.1 6 i1 0 l6.toNatClampNeg) S) ∧ (
          lt (f_Blocks_transactionOf (S.1 6 i1 0 l6.toNatClampNeg) S) fun (r16 : Int32) =>
          (ok_Transactions_carryOut r16 i1 S) ∧ (
            lt (f_Transactions_carryOut r16 i1 S) fun (S19 : St) =>
            ok_QC_commitUpTo_90 i1 a2 n S19 l3 l4 (l6 + (1 : Int32)))))))
set_option maxHeartbeats 4000000 in
set_option maxRecDepth 100000 in
theorem w_QC_commitUpTo_90 {l : Launch} {D : va_G} {X : va_W} {ad : N3 → Nat} {ca : Nat → ClassId} (i1 : Nat) (a2 : Int32) (h1 : i1 < 4) {p : Program} {e : Env} {s : State} {m : MethodId} {below : List Frame} {meth : Method} {c : Code} {A : Nat → Prop} (hy : Hy p s m ([.ref (ad (1, 0, 0)), .ref (ad (4, i1, 0)), .int a2] : List Value).toArray meth c b_QC_commitUpTo 7 none R_QC GG D clQ (tysQ ca) nwQ) (hA : ∀ q, s.heap.size ≤ q → A q) {res : St} : ∀ (n : Nat) (S : St) (l3 : Int32) (l4 : Int32) (l6 : Int32) , ok_QC_commitUpTo_90 i1 a2 n S l3 l4 l6 → f_QC_commitUpTo_90 i1 a2 n S l3 l4 l6 = res → ∀ (H : Heap) (locs : List Loc) (ls : Array Slot), Wd D clQ A s.heap (zw X ad TQ (cfQ ad ca) S) H locs → lv_has ls 7 [(0, .ref (ad (1, 0, 0))), (1, .ref (ad (4, i1, 0))), (3, .int l3), (4, .int l4), (6, .int l6)] → W p l e { frames := 3, cells := 0, slots := 0, locals := 66 } s m ([.ref (ad (1, 0, 0)), .ref (ad (4, i1, 0)), .int a2] : List Value).toArray below meth c H locs 0 0 (MQ below (eV D clQ X ad TQ (cfQ ad ca) A res) ([.ref (ad (1, 0, 0)), .ref (ad (4, i1, 0)), .int a2] : List Value).toArray s 0 0 A) (F0 m 90 ls []) := by
  have hF := hy.1
  have hx := hF.1
  have hb := hF.2.1
  have hK := hy.2.2.2
  intro n
  induction n with
  | zero =>
    intro S l3 l4 l6 hk
    exact hk.elim
  | succ n ih =>
    intro S l3 l4 l6 hk hr H locs ls hW hl
    refine lv_iload (pc := 90) hx hb d_QC_commitUpTo_90 (lv_at hl 4 rfl) ?_
    refine lv_iload (pc := 92) hx hb d_QC_commitUpTo_92 (lv_at hl 3 rfl) ?_
    refine lv_iload_n (pc := 94) hx hb d_QC_commitUpTo_94 rfl (lv_at hl 2 rfl) ?_
    refine lv_iadd (pc := 95) hx hb d_QC_commitUpTo_95 ?_
    refine lv_icmp_ge (pc := 96) (tgt := 130) hx hb d_QC_commitUpTo_96 (by decide) (fun c13 => ?_) (fun c13 => ?_)
    · have hk := hk.1 c13
      have hr := (if_pos c13).symm.trans hr
      exact z_vret hy hW hr.symm d_QC_commitUpTo_130
    · have hk := hk.2 c13
      have hr := (if_neg c13).symm.trans hr
      refine lv_aload_n (pc := 99) hx hb d_QC_commitUpTo_99 rfl (lv_at hl 0 rfl) ?_
      refine z_get (pc := 100) (v := .ref (ad (24, 0, 0))) hF hK.1 hW tq1 rfl rfl in_QC 2 (by decide) gw_346 rfl rfl d_QC_commitUpTo_100 ?_
      refine lv_aload_n (pc := 103) hx hb d_QC_commitUpTo_103 rfl (lv_at hl 0 rfl) ?_
      refine z_get (pc := 104) (v := .ref (ad (19, 0, 0))) hF hK.1 hW tq1 rfl rfl in_QC 1 (by decide) gw_345 rfl rfl d_QC_commitUpTo_104 ?_
      refine lv_aload_n (pc := 107) hx hb d_QC_commitUpTo_107 rfl (lv_at hl 1 rfl) ?_
      refine z_get (pc := 108) (v := .ref (ad (6, i1, 0))) hF hK.1 hW (tq4 h1) rfl rfl in_Store 1 (by decide) gw_266 rfl rfl d_QC_commitUpTo_108 ?_
      refine lv_iload (pc := 111) hx hb d_QC_commitUpTo_111 (lv_at hl 4 rfl) ?_
      have b14 := hk.1
      have hk := hk.2
      refine z_iald (pc := 113) (v := S.1 6 i1 0 l6.toNatClampNeg) hF hK.1 hW (tq6 h1) 0 rfl rfl b14 rfl d_QC_commitUpTo_113 ?_
      have o15 := hk.1
      have hk := hk.2
      obtain ⟨r16, er16⟩ : ∃ z : Int32, z = f_Blocks_transactionOf (S.1 6 i1 0 l6.toNatClampNeg) S := ⟨_, rfl⟩
      have hk := lt_p er16 hk
      have hr := lt_e er16 hr
      refine z_goI (pc := 114) hW hA (congrArg (fun q => (q, S)) er16) (z_runV hF hK hW (c_Blocks_transactionOf l D X ad ca (S.1 6 i1 0 l6.toNatClampNeg) S o15 _) cd_Blocks_transactionOf gw_465 tq19 rfl rfl ⟨Nat.le_of_ble_eq_true rfl, Nat.le_of_ble_eq_true rfl⟩ ⟨Nat.zero_le _, Nat.zero_le _⟩ rfl rfl hl.1 (Nat.le_of_ble_eq_true rfl) d_QC_commitUpTo_114) (fun H locs (hW : Wd D clQ A s.heap (zw X ad TQ (cfQ ad ca) S) H locs) => ?_)
      refine lv_aload_n (pc := 117) hx hb d_QC_commitUpTo_117 rfl (lv_at hl 1 rfl) ?_
      refine z_get (pc := 118) (v := .ref (ad (7, i1, 0))) hF hK.1 hW (tq4 h1) rfl rfl in_Store 2 (by decide) gw_268 rfl rfl d_QC_commitUpTo_118 ?_
      have o17 := hk.1
      have hk := hk.2
      obtain ⟨S19, eS19⟩ : ∃ z : St, z = f_Transactions_carryOut r16 i1 S := ⟨_, rfl⟩
      have hk := lt_p eS19 hk
      have hr := lt_e eS19 hr
      refine z_goV (pc := 121) hW hA eS19 (z_runV hF hK hW (c_Transactions_carryOut l D X ad ca r16 i1 h1 S o17 _) cd_Transactions_carryOut gw_716 tq24 rfl rfl ⟨Nat.le_of_ble_eq_true rfl, Nat.le_of_ble_eq_true rfl⟩ ⟨Nat.zero_le _, Nat.zero_le _⟩ rfl rfl hl.1 (Nat.le_of_ble_eq_true rfl) d_QC_commitUpTo_121) (fun H locs (hW : Wd D clQ A s.heap (zw X ad TQ (cfQ ad ca) S19) H locs) => ?_)
      refine lv_iinc (pc := 124) (v := l6 + (1 : Int32)) (lv' := [(6, .int (l6 + (1 : Int32))), (0, .ref (ad (1, 0, 0))), (1, .ref (ad (4, i1, 0))), (3, .int l3), (4, .int l4)]) (k := 4) hx hb d_QC_commitUpTo_124 hl rfl (z_inc (by decide)) (by decide) rfl (fun ls hl => ?_)
      refine lv_goto (pc := 127) (tgt := 90) hx hb d_QC_commitUpTo_127 (by decide) ?_
      exact ih S19 l3 l4 (l6 + (1 : Int32)) hk hr _ _ _ hW (lv_sub hl [1, 2, 3, 4, 0] rfl)
def f_QC_commitUpTo_45 (i1 : Nat) (a2 : Int32) : Nat → St → Int32 → Int32 → Int32 → Int32 → St
  | 0, S, _, _, _, _ => S
  | n + 1, S, l3, l4, l5, l6 =>
    if l6 < l4 then
      lt (si S 4 i1 0 5 (l4 + l3)) fun (S8 : St) =>
      f_QC_commitUpTo_90 i1 a2 200 S8 l3 l4 l4
    else
      lt (si S 6 i1 0 (l6.toNatClampNeg) l5) fun (S10 : St) =>
      lt (f_Blocks_parentOf l5 S10) fun (r12 : Int32) =>
      f_QC_commitUpTo_45 i1 a2 n S10 l3 l4 r12 (l6 + (-1 : Int32))
def ok_QC_commitUpTo_45 (i1 : Nat) (a2 : Int32) : Nat → St → Int32 → Int32 → Int32 → Int32 → Prop
  | 0, _, _, _, _, _ => False
  | n + 1, S, l3, l4, l5, l6 =>
    (l6 < l4 → (
      lt (si S 4 i1 0 5 (l4 + l3)) fun (S8 : St) =>
      ok_QC_commitUpTo_90 i1 a2 200 S8 l3 l4 l4)) ∧ (¬ (l6 < l4) → (
      (vp_in l6 100) ∧ (
        lt (si S 6 i1 0 (l6.toNatClampNeg) l5) fun (S10 : St) =>
        (ok_Blocks_parentOf l5 S10) ∧ (
          lt (f_Blocks_parentOf l5 S10) fun (r12 : Int32) =>
          ok_QC_commitUpTo_45 i1 a2 n S10 l3 l4 r12 (l6 + (-1 : Int32))))))
set_option maxHeartbeats 4000000 in
set_option maxRecDepth 100000 in
theorem w_QC_commitUpTo_45 {l : Launch} {D : va_G} {X : va_W} {ad : N3 → Nat} {ca : Nat → ClassId} (i1 : Nat) (a2 : Int32) (h1 : i1 < 4) {p : Program} {e : Env} {s : State} {m : MethodId} {below : List Frame} {meth : Method} {c : Code} {A : Nat → Prop} (hy : Hy p s m ([.ref (ad (1, 0, 0)), .ref (ad (4, i1, 0)), .int a2] : List Value).toArray meth c b_QC_commitUpTo 7 none R_QC GG D clQ (tysQ ca) nwQ) (hA : ∀ q, s.heap.size ≤ q → A q) {res : St} : ∀ (n : Nat) (S : St) (l3 : Int32) (l4 : Int32) (l5 : Int32) (l6 : Int32) , ok_QC_commitUpTo_45 i1 a2 n S l3 l4 l5 l6 → f_QC_commitUpTo_45 i1 a2 n S l3 l4 l5 l6 = res → ∀ (H : Heap) (locs : List Loc) (ls : Array Slot), Wd D clQ A s.heap (zw X ad TQ (cfQ ad ca) S) H locs → lv_has ls 7 [(0, .ref (ad (1, 0, 0))), (1, .ref (ad (4, i1, 0))), (3, .int l3), (4, .int l4), (5, .int l5), (6, .int l6)] → W p l e { frames := 3, cells := 0, slots := 0, locals := 66 } s m ([.ref (ad (1, 0, 0)), .ref (ad (4, i1, 0)), .int a2] : List Value).toArray below meth c H locs 0 0 (MQ below (eV D clQ X ad TQ (cfQ ad ca) A res) ([.ref (ad (1, 0, 0)), .ref (ad (4, i1, 0)), .int a2] : List Value).toArray s 0 0 A) (F0 m 45 ls []) := by
  have hF := hy.1
  have hx := hF.1
  have hb := hF.2.1
  have hK := hy.2.2.2
  intro n
  induction n with
  | zero =>
    intro S l3 l4 l5 l6 hk
    exact hk.elim
  | succ n ih =>
    intro S l3 l4 l5 l6 hk hr H locs ls hW hl
    refine lv_iload (pc := 45) hx hb d_QC_commitUpTo_45 (lv_at hl 5 rfl) ?_
    refine lv_iload (pc := 47) hx hb d_QC_commitUpTo_47 (lv_at hl 3 rfl) ?_
    refine lv_icmp_lt (pc := 49) (tgt := 78) hx hb d_QC_commitUpTo_49 (by decide) (fun c7 => ?_) (fun c7 => ?_)
    · have hk := hk.1 c7
      have hr := (if_pos c7).symm.trans hr
      refine lv_aload_n (pc := 78) hx hb d_QC_commitUpTo_78 rfl (lv_at hl 1 rfl) ?_
      refine lv_iload (pc := 79) hx hb d_QC_commitUpTo_79 (lv_at hl 3 rfl) ?_
      refine lv_iload_n (pc := 81) hx hb d_QC_commitUpTo_81 rfl (lv_at hl 2 rfl) ?_
      refine lv_iadd (pc := 82) hx hb d_QC_commitUpTo_82 ?_
      obtain ⟨S8, eS8⟩ : ∃ z : St, z = si S 4 i1 0 5 (l4 + l3) := ⟨_, rfl⟩
      have hk := lt_p eS8 hk
      have hr := lt_e eS8 hr
      refine z_put (pc := 83) (S' := S8) hF hK.1 hW (tq4 h1) rfl rfl in_Store t_Store tyo_Store nmo_Store 5 (by decide) gw_274 rfl rfl rfl rfl rfl (Nat.le_of_ble_eq_true rfl) (zs_si eS8 rfl) (zs_sio eS8) d_QC_commitUpTo_83 (fun H locs (hW : Wd D clQ A s.heap (zw X ad TQ (cfQ ad ca) S8) H locs) => ?_)
      refine lv_iload (pc := 86) hx hb d_QC_commitUpTo_86 (lv_at hl 3 rfl) ?_
      refine lv_istore (pc := 88) (lv' := [(6, .int l4), (0, .ref (ad (1, 0, 0))), (1, .ref (ad (4, i1, 0))), (3, .int l3), (4, .int l4), (5, .int l5)]) hx hb d_QC_commitUpTo_88 hl (by decide) rfl (fun ls hl => ?_)
      exact w_QC_commitUpTo_90 i1 a2 h1 hy hA 200 S8 l3 l4 l4 hk hr _ _ _ hW (lv_sub hl [1, 2, 3, 4, 0] rfl)
    · have hk := hk.2 c7
      have hr := (if_neg c7).symm.trans hr
      refine lv_aload_n (pc := 52) hx hb d_QC_commitUpTo_52 rfl (lv_at hl 1 rfl) ?_
      refine z_get (pc := 53) (v := .ref (ad (6, i1, 0))) hF hK.1 hW (tq4 h1) rfl rfl in_Store 1 (by decide) gw_266 rfl rfl d_QC_commitUpTo_53 ?_
      refine lv_iload (pc := 56) hx hb d_QC_commitUpTo_56 (lv_at hl 5 rfl) ?_
      refine lv_iload (pc := 58) hx hb d_QC_commitUpTo_58 (lv_at hl 4 rfl) ?_
      have b9 := hk.1
      have hk := hk.2
      obtain ⟨S10, eS10⟩ : ∃ z : St, z = si S 6 i1 0 (l6.toNatClampNeg) l5 := ⟨_, rfl⟩
      have hk := lt_p eS10 hk
      have hr := lt_e eS10 hr
      refine z_iast (pc := 60) (S' := S10) hF hK.1 hW (tq6 h1) 0 rfl rfl b9 (zs_si eS10 rfl) (zs_sio eS10) d_QC_commitUpTo_60 (fun H locs (hW : Wd D clQ A s.heap (zw X ad TQ (cfQ ad ca) S10) H locs) => ?_)
      refine lv_aload_n (pc := 61) hx hb d_QC_commitUpTo_61 rfl (lv_at hl 0 rfl) ?_
      refine z_get (pc := 62) (v := .ref (ad (19, 0, 0))) hF hK.1 hW tq1 rfl rfl in_QC 1 (by decide) gw_345 rfl rfl d_QC_commitUpTo_62 ?_
      refine lv_iload (pc := 65) hx hb d_QC_commitUpTo_65 (lv_at hl 4 rfl) ?_
      have o11 := hk.1
      have hk := hk.2
      obtain ⟨r12, er12⟩ : ∃ z : Int32, z = f_Blocks_parentOf l5 S10 := ⟨_, rfl⟩
      have hk := lt_p er12 hk
      have hr := lt_e er12 hr
      refine z_goI (pc := 67) hW hA (congrArg (fun q => (q, S10)) er12) (z_runV hF hK hW (c_Blocks_parentOf l D X ad ca l5 S10 o11 _) cd_Blocks_parentOf gw_461 tq19 rfl rfl ⟨Nat.le_of_ble_eq_true rfl, Nat.le_of_ble_eq_true rfl⟩ ⟨Nat.zero_le _, Nat.zero_le _⟩ rfl rfl hl.1 (Nat.le_of_ble_eq_true rfl) d_QC_commitUpTo_67) (fun H locs (hW : Wd D clQ A s.heap (zw X ad TQ (cfQ ad ca) S10) H locs) => ?_)
      refine lv_istore (pc := 70) (lv' := [(5, .int r12), (0, .ref (ad (1, 0, 0))), (1, .ref (ad (4, i1, 0))), (3, .int l3), (4, .int l4), (6, .int l6)]) hx hb d_QC_commitUpTo_70 hl (by decide) rfl (fun ls hl => ?_)
      refine lv_iinc (pc := 72) (v := l6 + (-1 : Int32)) (lv' := [(6, .int (l6 + (-1 : Int32))), (5, .int r12), (0, .ref (ad (1, 0, 0))), (1, .ref (ad (4, i1, 0))), (3, .int l3), (4, .int l4)]) (k := 5) hx hb d_QC_commitUpTo_72 hl rfl (z_inc (by decide)) (by decide) rfl (fun ls hl => ?_)
      refine lv_goto (pc := 75) (tgt := 45) hx hb d_QC_commitUpTo_75 (by decide) ?_
      exact ih S10 l3 l4 r12 (l6 + (-1 : Int32)) hk hr _ _ _ hW (lv_sub hl [2, 3, 4, 5, 1, 0] rfl)
def f_QC_commitUpTo (i1 : Nat) (a2 : Int32) (S : St) : St :=
  lt (f_Store_lastLogged i1 S) fun (r2 : Int32) =>
  lt (f_Blocks_stepsDown a2 r2 S) fun (r4 : Int32) =>
  if r4 = (-1 : Int32) then
    S
  else
    if ((S.1 4 i1 0 5) + r4) ≤ (100 : Int32) then
      f_QC_commitUpTo_45 i1 a2 200 S r4 (S.1 4 i1 0 5) a2 (((S.1 4 i1 0 5) + r4) - (1 : Int32))
    else
      S
def ok_QC_commitUpTo (i1 : Nat) (a2 : Int32) (S : St) : Prop :=
  (ok_Store_lastLogged i1 S) ∧ (
    lt (f_Store_lastLogged i1 S) fun (r2 : Int32) =>
    (ok_Blocks_stepsDown a2 r2 S) ∧ (
      lt (f_Blocks_stepsDown a2 r2 S) fun (r4 : Int32) =>
      (r4 = (-1 : Int32) → (
        True)) ∧ (¬ (r4 = (-1 : Int32)) → (
        (((S.1 4 i1 0 5) + r4) ≤ (100 : Int32) → (
          ok_QC_commitUpTo_45 i1 a2 200 S r4 (S.1 4 i1 0 5) a2 (((S.1 4 i1 0 5) + r4) - (1 : Int32)))) ∧ (¬ (((S.1 4 i1 0 5) + r4) ≤ (100 : Int32)) → (
          True))))))
set_option maxHeartbeats 4000000 in
set_option maxRecDepth 100000 in
theorem c_QC_commitUpTo (l : Launch) (D : va_G) (X : va_W) (ad : N3 → Nat) (ca : Nat → ClassId) (i1 : Nat) (a2 : Int32) (h1 : i1 < 4) (S : St) (hk : ok_QC_commitUpTo i1 a2 S) : cV l GG D clQ (tysQ ca) nwQ X ad TQ (cfQ ad ca) y_QC_commitUpTo b_QC_commitUpTo 7 3 66 [.ref (ad (1, 0, 0)), .ref (ad (4, i1, 0)), .int a2] S (f_QC_commitUpTo i1 a2 S) := by
  generalize hr : f_QC_commitUpTo i1 a2 S = res
  refine zV_of pn_QC (Nat.le_of_ble_eq_true rfl) (fun p e s m below meth c A ls hy hW hA hl => ?_)
  have hF := hy.1
  have hx := hF.1
  have hb := hF.2.1
  have hK := hy.2.2.2
  have hl : lv_has ls 7 [(0, .ref (ad (1, 0, 0))), (1, .ref (ad (4, i1, 0))), (2, .int a2)] := hl
  refine lv_aload_n (pc := 0) hx hb d_QC_commitUpTo_0 rfl (lv_at hl 0 rfl) ?_
  refine z_get (pc := 1) (v := .ref (ad (19, 0, 0))) hF hK.1 hW tq1 rfl rfl in_QC 1 (by decide) gw_345 rfl rfl d_QC_commitUpTo_1 ?_
  refine lv_iload_n (pc := 4) hx hb d_QC_commitUpTo_4 rfl (lv_at hl 2 rfl) ?_
  refine lv_aload_n (pc := 5) hx hb d_QC_commitUpTo_5 rfl (lv_at hl 1 rfl) ?_
  have o1 := hk.1
  have hk := hk.2
  obtain ⟨r2, er2⟩ : ∃ z : Int32, z = f_Store_lastLogged i1 S := ⟨_, rfl⟩
  have hk := lt_p er2 hk
  have hr := lt_e er2 hr
  refine z_goI (pc := 6) hW hA (congrArg (fun q => (q, S)) er2) (z_runV hF hK hW (c_Store_lastLogged l D X ad ca i1 h1 S o1 _) cd_Store_lastLogged gw_707 (tq4 h1) rfl rfl ⟨Nat.le_of_ble_eq_true rfl, Nat.le_of_ble_eq_true rfl⟩ ⟨Nat.zero_le _, Nat.zero_le _⟩ rfl rfl hl.1 (Nat.le_of_ble_eq_true rfl) d_QC_commitUpTo_6) (fun H locs (hW : Wd D clQ A s.heap (zw X ad TQ (cfQ ad ca) S) H locs) => ?_)
  have o3 := hk.1
  have hk := hk.2
  obtain ⟨r4, er4⟩ : ∃ z : Int32, z = f_Blocks_stepsDown a2 r2 S := ⟨_, rfl⟩
  have hk := lt_p er4 hk
  have hr := lt_e er4 hr
  refine z_goI (pc := 9) hW hA (congrArg (fun q => (q, S)) er4) (z_runV hF hK hW (c_Blocks_stepsDown l D X ad ca a2 r2 S o3 _) cd_Blocks_stepsDown gw_712 tq19 rfl rfl ⟨Nat.le_of_ble_eq_true rfl, Nat.le_of_ble_eq_true rfl⟩ ⟨Nat.zero_le _, Nat.zero_le _⟩ rfl rfl hl.1 (Nat.le_of_ble_eq_true rfl) d_QC_commitUpTo_9) (fun H locs (hW : Wd D clQ A s.heap (zw X ad TQ (cfQ ad ca) S) H locs) => ?_)
  refine lv_istore_n (pc := 12) (lv' := [(3, .int r4), (0, .ref (ad (1, 0, 0))), (1, .ref (ad (4, i1, 0))), (2, .int a2)]) hx hb d_QC_commitUpTo_12 rfl hl (by decide) rfl (fun ls hl => ?_)
  refine lv_aload_n (pc := 13) hx hb d_QC_commitUpTo_13 rfl (lv_at hl 2 rfl) ?_
  refine z_get (pc := 14) (v := .int (S.1 4 i1 0 5)) hF hK.1 hW (tq4 h1) rfl rfl in_Store 5 (by decide) gw_274 rfl rfl d_QC_commitUpTo_14 ?_
  refine lv_istore (pc := 17) (lv' := [(4, .int (S.1 4 i1 0 5)), (3, .int r4), (0, .ref (ad (1, 0, 0))), (1, .ref (ad (4, i1, 0))), (2, .int a2)]) hx hb d_QC_commitUpTo_17 hl (by decide) rfl (fun ls hl => ?_)
  refine lv_iload_n (pc := 19) hx hb d_QC_commitUpTo_19 rfl (lv_at hl 1 rfl) ?_
  refine lv_iconst (pc := 20) (v := -1) hx hb d_QC_commitUpTo_20 (by decide) ?_
  refine lv_icmp_eq (pc := 21) (tgt := 33) hx hb d_QC_commitUpTo_21 (by decide) (fun c5 => ?_) (fun c5 => ?_)
  · have hk := hk.1 c5
    have hr := (if_pos c5).symm.trans hr
    exact z_vret hy hW hr.symm d_QC_commitUpTo_33
  · have hk := hk.2 c5
    have hr := (if_neg c5).symm.trans hr
    refine lv_iload (pc := 24) hx hb d_QC_commitUpTo_24 (lv_at hl 0 rfl) ?_
    refine lv_iload_n (pc := 26) hx hb d_QC_commitUpTo_26 rfl (lv_at hl 1 rfl) ?_
    refine lv_iadd (pc := 27) hx hb d_QC_commitUpTo_27 ?_
    refine lv_bipush (pc := 28) (v := 100) hx hb d_QC_commitUpTo_28 (by decide) ?_
    refine lv_icmp_le (pc := 30) (tgt := 34) hx hb d_QC_commitUpTo_30 (by decide) (fun c6 => ?_) (fun c6 => ?_)
    · have hk := hk.1 c6
      have hr := (if_pos c6).symm.trans hr
      refine lv_iload_n (pc := 34) hx hb d_QC_commitUpTo_34 rfl (lv_at hl 4 rfl) ?_
      refine lv_istore (pc := 35) (lv' := [(5, .int a2), (4, .int (S.1 4 i1 0 5)), (3, .int r4), (0, .ref (ad (1, 0, 0))), (1, .ref (ad (4, i1, 0))), (2, .int a2)]) hx hb d_QC_commitUpTo_35 hl (by decide) rfl (fun ls hl => ?_)
      refine lv_iload (pc := 37) hx hb d_QC_commitUpTo_37 (lv_at hl 1 rfl) ?_
      refine lv_iload_n (pc := 39) hx hb d_QC_commitUpTo_39 rfl (lv_at hl 2 rfl) ?_
      refine lv_iadd (pc := 40) hx hb d_QC_commitUpTo_40 ?_
      refine lv_iconst (pc := 41) (v := 1) hx hb d_QC_commitUpTo_41 (by decide) ?_
      refine lv_isub (pc := 42) hx hb d_QC_commitUpTo_42 ?_
      refine lv_istore (pc := 43) (lv' := [(6, .int (((S.1 4 i1 0 5) + r4) - (1 : Int32))), (5, .int a2), (4, .int (S.1 4 i1 0 5)), (3, .int r4), (0, .ref (ad (1, 0, 0))), (1, .ref (ad (4, i1, 0))), (2, .int a2)]) hx hb d_QC_commitUpTo_43 hl (by decide) rfl (fun ls hl => ?_)
      exact w_QC_commitUpTo_45 i1 a2 h1 hy hA 200 S r4 (S.1 4 i1 0 5) a2 (((S.1 4 i1 0 5) + r4) - (1 : Int32)) hk hr _ _ _ hW (lv_sub hl [4, 5, 3, 2, 1, 0] rfl)
    · have hk := hk.2 c6
      have hr := (if_neg c6).symm.trans hr
      exact z_vret hy hW hr.symm d_QC_commitUpTo_33
theorem d_QC_takeAsCertified_0 : decode b_QC_takeAsCertified 0 = .ok (.aload_n 0, 1) := by decide +kernel
theorem d_QC_takeAsCertified_1 : decode b_QC_takeAsCertified 1 = .ok (.aload_n 1, 1) := by decide +kernel
theorem d_QC_takeAsCertified_2 : decode b_QC_takeAsCertified 2 = .ok (.iload_n 2, 1) := by decide +kernel
theorem d_QC_takeAsCertified_3 : decode b_QC_takeAsCertified 3 = .ok (.invokevirtual 323, 3) := by decide +kernel
theorem d_QC_takeAsCertified_6 : decode b_QC_takeAsCertified 6 = .ok (.aload_n 0, 1) := by decide +kernel
theorem d_QC_takeAsCertified_7 : decode b_QC_takeAsCertified 7 = .ok (.getfield 18, 3) := by decide +kernel
theorem d_QC_takeAsCertified_10 : decode b_QC_takeAsCertified 10 = .ok (.iload_n 2, 1) := by decide +kernel
theorem d_QC_takeAsCertified_11 : decode b_QC_takeAsCertified 11 = .ok (.invokevirtual 285, 3) := by decide +kernel
theorem d_QC_takeAsCertified_14 : decode b_QC_takeAsCertified 14 = .ok (.istore_n 3, 1) := by decide +kernel
theorem d_QC_takeAsCertified_15 : decode b_QC_takeAsCertified 15 = .ok (.iload_n 3, 1) := by decide +kernel
theorem d_QC_takeAsCertified_16 : decode b_QC_takeAsCertified 16 = .ok (.iconst (-1), 1) := by decide +kernel
theorem d_QC_takeAsCertified_17 : decode b_QC_takeAsCertified 17 = .ok (.if_icmp .ne 4, 3) := by decide +kernel
theorem d_QC_takeAsCertified_20 : decode b_QC_takeAsCertified 20 = .ok (.return_, 1) := by decide +kernel
theorem d_QC_takeAsCertified_21 : decode b_QC_takeAsCertified 21 = .ok (.aload_n 0, 1) := by decide +kernel
theorem d_QC_takeAsCertified_22 : decode b_QC_takeAsCertified 22 = .ok (.getfield 18, 3) := by decide +kernel
theorem d_QC_takeAsCertified_25 : decode b_QC_takeAsCertified 25 = .ok (.iload_n 3, 1) := by decide +kernel
theorem d_QC_takeAsCertified_26 : decode b_QC_takeAsCertified 26 = .ok (.aload_n 1, 1) := by decide +kernel
theorem d_QC_takeAsCertified_27 : decode b_QC_takeAsCertified 27 = .ok (.getfield 179, 3) := by decide +kernel
theorem d_QC_takeAsCertified_30 : decode b_QC_takeAsCertified 30 = .ok (.getfield 254, 3) := by decide +kernel
theorem d_QC_takeAsCertified_33 : decode b_QC_takeAsCertified 33 = .ok (.invokevirtual 302, 3) := by decide +kernel
theorem d_QC_takeAsCertified_36 : decode b_QC_takeAsCertified 36 = .ok (.ifCond .eq 11, 3) := by decide +kernel
theorem d_QC_takeAsCertified_39 : decode b_QC_takeAsCertified 39 = .ok (.aload_n 1, 1) := by decide +kernel
theorem d_QC_takeAsCertified_40 : decode b_QC_takeAsCertified 40 = .ok (.getfield 179, 3) := by decide +kernel
theorem d_QC_takeAsCertified_43 : decode b_QC_takeAsCertified 43 = .ok (.iload_n 3, 1) := by decide +kernel
theorem d_QC_takeAsCertified_44 : decode b_QC_takeAsCertified 44 = .ok (.putfield 254, 3) := by decide +kernel
theorem d_QC_takeAsCertified_47 : decode b_QC_takeAsCertified 47 = .ok (.aload_n 0, 1) := by decide +kernel
theorem d_QC_takeAsCertified_48 : decode b_QC_takeAsCertified 48 = .ok (.getfield 18, 3) := by decide +kernel
theorem d_QC_takeAsCertified_51 : decode b_QC_takeAsCertified 51 = .ok (.iload_n 3, 1) := by decide +kernel
theorem d_QC_takeAsCertified_52 : decode b_QC_takeAsCertified 52 = .ok (.invokevirtual 285, 3) := by decide +kernel
theorem d_QC_takeAsCertified_55 : decode b_QC_takeAsCertified 55 = .ok (.istore 4, 2) := by decide +kernel
theorem d_QC_takeAsCertified_57 : decode b_QC_takeAsCertified 57 = .ok (.iload 4, 2) := by decide +kernel
theorem d_QC_takeAsCertified_59 : decode b_QC_takeAsCertified 59 = .ok (.iconst (-1), 1) := by decide +kernel
theorem d_QC_takeAsCertified_60 : decode b_QC_takeAsCertified 60 = .ok (.if_icmp .eq 38, 3) := by decide +kernel
theorem d_QC_takeAsCertified_63 : decode b_QC_takeAsCertified 63 = .ok (.aload_n 0, 1) := by decide +kernel
theorem d_QC_takeAsCertified_64 : decode b_QC_takeAsCertified 64 = .ok (.getfield 18, 3) := by decide +kernel
theorem d_QC_takeAsCertified_67 : decode b_QC_takeAsCertified 67 = .ok (.iload_n 2, 1) := by decide +kernel
theorem d_QC_takeAsCertified_68 : decode b_QC_takeAsCertified 68 = .ok (.iload_n 3, 1) := by decide +kernel
theorem d_QC_takeAsCertified_69 : decode b_QC_takeAsCertified 69 = .ok (.invokevirtual 326, 3) := by decide +kernel
theorem d_QC_takeAsCertified_72 : decode b_QC_takeAsCertified 72 = .ok (.ifCond .eq 26, 3) := by decide +kernel
theorem d_QC_takeAsCertified_75 : decode b_QC_takeAsCertified 75 = .ok (.aload_n 0, 1) := by decide +kernel
theorem d_QC_takeAsCertified_76 : decode b_QC_takeAsCertified 76 = .ok (.getfield 18, 3) := by decide +kernel
theorem d_QC_takeAsCertified_79 : decode b_QC_takeAsCertified 79 = .ok (.iload_n 3, 1) := by decide +kernel
theorem d_QC_takeAsCertified_80 : decode b_QC_takeAsCertified 80 = .ok (.iload 4, 2) := by decide +kernel
theorem d_QC_takeAsCertified_82 : decode b_QC_takeAsCertified 82 = .ok (.invokevirtual 326, 3) := by decide +kernel
theorem d_QC_takeAsCertified_85 : decode b_QC_takeAsCertified 85 = .ok (.ifCond .eq 13, 3) := by decide +kernel
theorem d_QC_takeAsCertified_88 : decode b_QC_takeAsCertified 88 = .ok (.aload_n 0, 1) := by decide +kernel
theorem d_QC_takeAsCertified_89 : decode b_QC_takeAsCertified 89 = .ok (.aload_n 1, 1) := by decide +kernel
theorem d_QC_takeAsCertified_90 : decode b_QC_takeAsCertified 90 = .ok (.getfield 179, 3) := by decide +kernel
theorem d_QC_takeAsCertified_93 : decode b_QC_takeAsCertified 93 = .ok (.iload 4, 2) := by decide +kernel
theorem d_QC_takeAsCertified_95 : decode b_QC_takeAsCertified 95 = .ok (.invokevirtual 329, 3) := by decide +kernel
theorem d_QC_takeAsCertified_98 : decode b_QC_takeAsCertified 98 = .ok (.return_, 1) := by decide +kernel
def f_QC_takeAsCertified_47 (i1 : Nat) (a2 : Int32) (S : St) (l3 : Int32) : St :=
  lt (f_Blocks_parentOf l3 S) fun (r12 : Int32) =>
  if r12 = (-1 : Int32) then
    S
  else
    lt (f_Blocks_isNextView a2 l3 S) fun (r15 : Int32) =>
    if r15 = 0 then
      S
    else
      lt (f_Blocks_isNextView l3 r12 S) fun (r18 : Int32) =>
      if r18 = 0 then
        S
      else
        lt (f_QC_commitUpTo i1 r12 S) fun (S22 : St) =>
        S22
def ok_QC_takeAsCertified_47 (i1 : Nat) (a2 : Int32) (S : St) (l3 : Int32) : Prop :=
  (ok_Blocks_parentOf l3 S) ∧ (
    lt (f_Blocks_parentOf l3 S) fun (r12 : Int32) =>
    (r12 = (-1 : Int32) → (
      True)) ∧ (¬ (r12 = (-1 : Int32)) → (
      (ok_Blocks_isNextView a2 l3 S) ∧ (
        lt (f_Blocks_isNextView a2 l3 S) fun (r15 : Int32) =>
        (r15 = 0 → (
          True)) ∧ (¬ (r15 = 0) → (
          (ok_Blocks_isNextView l3 r12 S) ∧ (
            lt (f_Blocks_isNextView l3 r12 S) fun (r18 : Int32) =>
            (r18 = 0 → (
              True)) ∧ (¬ (r18 = 0) → (
              (ok_QC_commitUpTo i1 r12 S) ∧ (
                True))))))))))
set_option maxHeartbeats 4000000 in
set_option maxRecDepth 100000 in
theorem w_QC_takeAsCertified_47 {l : Launch} {D : va_G} {X : va_W} {ad : N3 → Nat} {ca : Nat → ClassId} (i1 : Nat) (a2 : Int32) (h1 : i1 < 4) {p : Program} {e : Env} {s : State} {m : MethodId} {below : List Frame} {meth : Method} {c : Code} {A : Nat → Prop} (hy : Hy p s m ([.ref (ad (1, 0, 0)), .ref (ad (3, i1, 0)), .int a2] : List Value).toArray meth c b_QC_takeAsCertified 5 none R_QC GG D clQ (tysQ ca) nwQ) (hA : ∀ q, s.heap.size ≤ q → A q) {res : St} : ∀  (S : St) (l3 : Int32) , ok_QC_takeAsCertified_47 i1 a2 S l3 → f_QC_takeAsCertified_47 i1 a2 S l3 = res → ∀ (H : Heap) (locs : List Loc) (ls : Array Slot), Wd D clQ A s.heap (zw X ad TQ (cfQ ad ca) S) H locs → lv_has ls 5 [(0, .ref (ad (1, 0, 0))), (1, .ref (ad (3, i1, 0))), (2, .int a2), (3, .int l3)] → W p l e { frames := 4, cells := 0, slots := 0, locals := 92 } s m ([.ref (ad (1, 0, 0)), .ref (ad (3, i1, 0)), .int a2] : List Value).toArray below meth c H locs 0 0 (MQ below (eV D clQ X ad TQ (cfQ ad ca) A res) ([.ref (ad (1, 0, 0)), .ref (ad (3, i1, 0)), .int a2] : List Value).toArray s 0 0 A) (F0 m 47 ls []) := by
  have hF := hy.1
  have hx := hF.1
  have hb := hF.2.1
  have hK := hy.2.2.2
  intro S l3 hk hr H locs ls hW hl
  refine lv_aload_n (pc := 47) hx hb d_QC_takeAsCertified_47 rfl (lv_at hl 0 rfl) ?_
  refine z_get (pc := 48) (v := .ref (ad (19, 0, 0))) hF hK.1 hW tq1 rfl rfl in_QC 1 (by decide) gw_345 rfl rfl d_QC_takeAsCertified_48 ?_
  refine lv_iload_n (pc := 51) hx hb d_QC_takeAsCertified_51 rfl (lv_at hl 3 rfl) ?_
  have o11 := hk.1
  have hk := hk.2
  obtain ⟨r12, er12⟩ : ∃ z : Int32, z = f_Blocks_parentOf l3 S := ⟨_, rfl⟩
  have hk := lt_p er12 hk
  have hr := lt_e er12 hr
  refine z_goI (pc := 52) hW hA (congrArg (fun q => (q, S)) er12) (z_runV hF hK hW (c_Blocks_parentOf l D X ad ca l3 S o11 _) cd_Blocks_parentOf gw_461 tq19 rfl rfl ⟨Nat.le_of_ble_eq_true rfl, Nat.le_of_ble_eq_true rfl⟩ ⟨Nat.zero_le _, Nat.zero_le _⟩ rfl rfl hl.1 (Nat.le_of_ble_eq_true rfl) d_QC_takeAsCertified_52) (fun H locs (hW : Wd D clQ A s.heap (zw X ad TQ (cfQ ad ca) S) H locs) => ?_)
  refine lv_istore (pc := 55) (lv' := [(4, .int r12), (0, .ref (ad (1, 0, 0))), (1, .ref (ad (3, i1, 0))), (2, .int a2), (3, .int l3)]) hx hb d_QC_takeAsCertified_55 hl (by decide) rfl (fun ls hl => ?_)
  refine lv_iload (pc := 57) hx hb d_QC_takeAsCertified_57 (lv_at hl 0 rfl) ?_
  refine lv_iconst (pc := 59) (v := -1) hx hb d_QC_takeAsCertified_59 (by decide) ?_
  refine lv_icmp_eq (pc := 60) (tgt := 98) hx hb d_QC_takeAsCertified_60 (by decide) (fun c13 => ?_) (fun c13 => ?_)
  · have hk := hk.1 c13
    have hr := (if_pos c13).symm.trans hr
    exact z_vret hy hW hr.symm d_QC_takeAsCertified_98
  · have hk := hk.2 c13
    have hr := (if_neg c13).symm.trans hr
    refine lv_aload_n (pc := 63) hx hb d_QC_takeAsCertified_63 rfl (lv_at hl 1 rfl) ?_
    refine z_get (pc := 64) (v := .ref (ad (19, 0, 0))) hF hK.1 hW tq1 rfl rfl in_QC 1 (by decide) gw_345 rfl rfl d_QC_takeAsCertified_64 ?_
    refine lv_iload_n (pc := 67) hx hb d_QC_takeAsCertified_67 rfl (lv_at hl 3 rfl) ?_
    refine lv_iload_n (pc := 68) hx hb d_QC_takeAsCertified_68 rfl (lv_at hl 4 rfl) ?_
    have o14 := hk.1
    have hk := hk.2
    obtain ⟨r15, er15⟩ : ∃ z : Int32, z = f_Blocks_isNextView a2 l3 S := ⟨_, rfl⟩
    have hk := lt_p er15 hk
    have hr := lt_e er15 hr
    refine z_goI (pc := 69) hW hA (congrArg (fun q => (q, S)) er15) (z_runV hF hK hW (c_Blocks_isNextView l D X ad ca a2 l3 S o14 _) cd_Blocks_isNextView gw_699 tq19 rfl rfl ⟨Nat.le_of_ble_eq_true rfl, Nat.le_of_ble_eq_true rfl⟩ ⟨Nat.zero_le _, Nat.zero_le _⟩ rfl rfl hl.1 (Nat.le_of_ble_eq_true rfl) d_QC_takeAsCertified_69) (fun H locs (hW : Wd D clQ A s.heap (zw X ad TQ (cfQ ad ca) S) H locs) => ?_)
    refine lv_if_eq (pc := 72) (tgt := 98) hx hb d_QC_takeAsCertified_72 (by decide) (fun c16 => ?_) (fun c16 => ?_)
    · have hk := hk.1 c16
      have hr := (if_pos c16).symm.trans hr
      exact z_vret hy hW hr.symm d_QC_takeAsCertified_98
    · have hk := hk.2 c16
      have hr := (if_neg c16).symm.trans hr
      refine lv_aload_n (pc := 75) hx hb d_QC_takeAsCertified_75 rfl (lv_at hl 1 rfl) ?_
      refine z_get (pc := 76) (v := .ref (ad (19, 0, 0))) hF hK.1 hW tq1 rfl rfl in_QC 1 (by decide) gw_345 rfl rfl d_QC_takeAsCertified_76 ?_
      refine lv_iload_n (pc := 79) hx hb d_QC_takeAsCertified_79 rfl (lv_at hl 4 rfl) ?_
      refine lv_iload (pc := 80) hx hb d_QC_takeAsCertified_80 (lv_at hl 0 rfl) ?_
      have o17 := hk.1
      have hk := hk.2
      obtain ⟨r18, er18⟩ : ∃ z : Int32, z = f_Blocks_isNextView l3 r12 S := ⟨_, rfl⟩
      have hk := lt_p er18 hk
      have hr := lt_e er18 hr
      refine z_goI (pc := 82) hW hA (congrArg (fun q => (q, S)) er18) (z_runV hF hK hW (c_Blocks_isNextView l D X ad ca l3 r12 S o17 _) cd_Blocks_isNextView gw_699 tq19 rfl rfl ⟨Nat.le_of_ble_eq_true rfl, Nat.le_of_ble_eq_true rfl⟩ ⟨Nat.zero_le _, Nat.zero_le _⟩ rfl rfl hl.1 (Nat.le_of_ble_eq_true rfl) d_QC_takeAsCertified_82) (fun H locs (hW : Wd D clQ A s.heap (zw X ad TQ (cfQ ad ca) S) H locs) => ?_)
      refine lv_if_eq (pc := 85) (tgt := 98) hx hb d_QC_takeAsCertified_85 (by decide) (fun c19 => ?_) (fun c19 => ?_)
      · have hk := hk.1 c19
        have hr := (if_pos c19).symm.trans hr
        exact z_vret hy hW hr.symm d_QC_takeAsCertified_98
      · have hk := hk.2 c19
        have hr := (if_neg c19).symm.trans hr
        refine lv_aload_n (pc := 88) hx hb d_QC_takeAsCertified_88 rfl (lv_at hl 1 rfl) ?_
        refine lv_aload_n (pc := 89) hx hb d_QC_takeAsCertified_89 rfl (lv_at hl 2 rfl) ?_
        refine z_get (pc := 90) (v := .ref (ad (4, i1, 0))) hF hK.1 hW (tq3 h1) rfl rfl in_Node 1 (by decide) gw_298 rfl rfl d_QC_takeAsCertified_90 ?_
        refine lv_iload (pc := 93) hx hb d_QC_takeAsCertified_93 (lv_at hl 0 rfl) ?_
        have o20 := hk.1
        have hk := hk.2
        obtain ⟨S22, eS22⟩ : ∃ z : St, z = f_QC_commitUpTo i1 r12 S := ⟨_, rfl⟩
        have hr := lt_e eS22 hr
        refine z_goV (pc := 95) hW hA eS22 (z_runV hF hK hW (c_QC_commitUpTo l D X ad ca i1 r12 h1 S o20 _) cd_QC_commitUpTo gw_703 tq1 rfl rfl ⟨Nat.le_of_ble_eq_true rfl, Nat.le_of_ble_eq_true rfl⟩ ⟨Nat.zero_le _, Nat.zero_le _⟩ rfl rfl hl.1 (Nat.le_of_ble_eq_true rfl) d_QC_takeAsCertified_95) (fun H locs (hW : Wd D clQ A s.heap (zw X ad TQ (cfQ ad ca) S22) H locs) => ?_)
        exact z_vret hy hW hr.symm d_QC_takeAsCertified_98
def f_QC_takeAsCertified (i1 : Nat) (a2 : Int32) (S : St) : St :=
  lt (f_QC_raiseHigh i1 a2 S) fun (S3 : St) =>
  lt (f_Blocks_parentOf a2 S3) fun (r5 : Int32) =>
  if r5 = (-1 : Int32) then
    S3
  else
    lt (f_Blocks_isAbove r5 (S3.1 4 i1 0 7) S3) fun (r8 : Int32) =>
    if r8 = 0 then
      f_QC_takeAsCertified_47 i1 a2 S3 r5
    else
      lt (si S3 4 i1 0 7 r5) fun (S10 : St) =>
      f_QC_takeAsCertified_47 i1 a2 S10 r5
def ok_QC_takeAsCertified (i1 : Nat) (a2 : Int32) (S : St) : Prop :=
  (ok_QC_raiseHigh i1 a2 S) ∧ (
    lt (f_QC_raiseHigh i1 a2 S) fun (S3 : St) =>
    (ok_Blocks_parentOf a2 S3) ∧ (
      lt (f_Blocks_parentOf a2 S3) fun (r5 : Int32) =>
      (r5 = (-1 : Int32) → (
        True)) ∧ (¬ (r5 = (-1 : Int32)) → (
        (ok_Blocks_isAbove r5 (S3.1 4 i1 0 7) S3) ∧ (
          lt (f_Blocks_isAbove r5 (S3.1 4 i1 0 7) S3) fun (r8 : Int32) =>
          (r8 = 0 → (
            ok_QC_takeAsCertified_47 i1 a2 S3 r5)) ∧ (¬ (r8 = 0) → (
            lt (si S3 4 i1 0 7 r5) fun (S10 : St) =>
            ok_QC_takeAsCertified_47 i1 a2 S10 r5)))))))
set_option maxHeartbeats 4000000 in
set_option maxRecDepth 100000 in
theorem c_QC_takeAsCertified (l : Launch) (D : va_G) (X : va_W) (ad : N3 → Nat) (ca : Nat → ClassId) (i1 : Nat) (a2 : Int32) (h1 : i1 < 4) (S : St) (hk : ok_QC_takeAsCertified i1 a2 S) : cV l GG D clQ (tysQ ca) nwQ X ad TQ (cfQ ad ca) y_QC_takeAsCertified b_QC_takeAsCertified 5 4 92 [.ref (ad (1, 0, 0)), .ref (ad (3, i1, 0)), .int a2] S (f_QC_takeAsCertified i1 a2 S) := by
  generalize hr : f_QC_takeAsCertified i1 a2 S = res
  refine zV_of pn_QC (Nat.le_of_ble_eq_true rfl) (fun p e s m below meth c A ls hy hW hA hl => ?_)
  have hF := hy.1
  have hx := hF.1
  have hb := hF.2.1
  have hK := hy.2.2.2
  have hl : lv_has ls 5 [(0, .ref (ad (1, 0, 0))), (1, .ref (ad (3, i1, 0))), (2, .int a2)] := hl
  refine lv_aload_n (pc := 0) hx hb d_QC_takeAsCertified_0 rfl (lv_at hl 0 rfl) ?_
  refine lv_aload_n (pc := 1) hx hb d_QC_takeAsCertified_1 rfl (lv_at hl 1 rfl) ?_
  refine lv_iload_n (pc := 2) hx hb d_QC_takeAsCertified_2 rfl (lv_at hl 2 rfl) ?_
  have o1 := hk.1
  have hk := hk.2
  obtain ⟨S3, eS3⟩ : ∃ z : St, z = f_QC_raiseHigh i1 a2 S := ⟨_, rfl⟩
  have hk := lt_p eS3 hk
  have hr := lt_e eS3 hr
  refine z_goV (pc := 3) hW hA eS3 (z_runV hF hK hW (c_QC_raiseHigh l D X ad ca i1 a2 h1 S o1 _) cd_QC_raiseHigh gw_690 tq1 rfl rfl ⟨Nat.le_of_ble_eq_true rfl, Nat.le_of_ble_eq_true rfl⟩ ⟨Nat.zero_le _, Nat.zero_le _⟩ rfl rfl hl.1 (Nat.le_of_ble_eq_true rfl) d_QC_takeAsCertified_3) (fun H locs (hW : Wd D clQ A s.heap (zw X ad TQ (cfQ ad ca) S3) H locs) => ?_)
  refine lv_aload_n (pc := 6) hx hb d_QC_takeAsCertified_6 rfl (lv_at hl 0 rfl) ?_
  refine z_get (pc := 7) (v := .ref (ad (19, 0, 0))) hF hK.1 hW tq1 rfl rfl in_QC 1 (by decide) gw_345 rfl rfl d_QC_takeAsCertified_7 ?_
  refine lv_iload_n (pc := 10) hx hb d_QC_takeAsCertified_10 rfl (lv_at hl 2 rfl) ?_
  have o4 := hk.1
  have hk := hk.2
  obtain ⟨r5, er5⟩ : ∃ z : Int32, z = f_Blocks_parentOf a2 S3 := ⟨_, rfl⟩
  have hk := lt_p er5 hk
  have hr := lt_e er5 hr
  refine z_goI (pc := 11) hW hA (congrArg (fun q => (q, S3)) er5) (z_runV hF hK hW (c_Blocks_parentOf l D X ad ca a2 S3 o4 _) cd_Blocks_parentOf gw_461 tq19 rfl rfl ⟨Nat.le_of_ble_eq_true rfl, Nat.le_of_ble_eq_true rfl⟩ ⟨Nat.zero_le _, Nat.zero_le _⟩ rfl rfl hl.1 (Nat.le_of_ble_eq_true rfl) d_QC_takeAsCertified_11) (fun H locs (hW : Wd D clQ A s.heap (zw X ad TQ (cfQ ad ca) S3) H locs) => ?_)
  refine lv_istore_n (pc := 14) (lv' := [(3, .int r5), (0, .ref (ad (1, 0, 0))), (1, .ref (ad (3, i1, 0))), (2, .int a2)]) hx hb d_QC_takeAsCertified_14 rfl hl (by decide) rfl (fun ls hl => ?_)
  refine lv_iload_n (pc := 15) hx hb d_QC_takeAsCertified_15 rfl (lv_at hl 0 rfl) ?_
  refine lv_iconst (pc := 16) (v := -1) hx hb d_QC_takeAsCertified_16 (by decide) ?_
  refine lv_icmp_ne (pc := 17) (tgt := 21) hx hb d_QC_takeAsCertified_17 (by decide) (fun c6 => ?_) (fun c6 => ?_)
  · have hk := hk.2 c6
    have hr := (if_neg c6).symm.trans hr
    refine lv_aload_n (pc := 21) hx hb d_QC_takeAsCertified_21 rfl (lv_at hl 1 rfl) ?_
    refine z_get (pc := 22) (v := .ref (ad (19, 0, 0))) hF hK.1 hW tq1 rfl rfl in_QC 1 (by decide) gw_345 rfl rfl d_QC_takeAsCertified_22 ?_
    refine lv_iload_n (pc := 25) hx hb d_QC_takeAsCertified_25 rfl (lv_at hl 0 rfl) ?_
    refine lv_aload_n (pc := 26) hx hb d_QC_takeAsCertified_26 rfl (lv_at hl 2 rfl) ?_
    refine z_get (pc := 27) (v := .ref (ad (4, i1, 0))) hF hK.1 hW (tq3 h1) rfl rfl in_Node 1 (by decide) gw_298 rfl rfl d_QC_takeAsCertified_27 ?_
    refine z_get (pc := 30) (v := .int (S3.1 4 i1 0 7)) hF hK.1 hW (tq4 h1) rfl rfl in_Store 7 (by decide) gw_277 rfl rfl d_QC_takeAsCertified_30 ?_
    have o7 := hk.1
    have hk := hk.2
    obtain ⟨r8, er8⟩ : ∃ z : Int32, z = f_Blocks_isAbove r5 (S3.1 4 i1 0 7) S3 := ⟨_, rfl⟩
    have hk := lt_p er8 hk
    have hr := lt_e er8 hr
    refine z_goI (pc := 33) hW hA (congrArg (fun q => (q, S3)) er8) (z_runV hF hK hW (c_Blocks_isAbove l D X ad ca r5 (S3.1 4 i1 0 7) S3 o7 _) cd_Blocks_isAbove gw_694 tq19 rfl rfl ⟨Nat.le_of_ble_eq_true rfl, Nat.le_of_ble_eq_true rfl⟩ ⟨Nat.zero_le _, Nat.zero_le _⟩ rfl rfl hl.1 (Nat.le_of_ble_eq_true rfl) d_QC_takeAsCertified_33) (fun H locs (hW : Wd D clQ A s.heap (zw X ad TQ (cfQ ad ca) S3) H locs) => ?_)
    refine lv_if_eq (pc := 36) (tgt := 47) hx hb d_QC_takeAsCertified_36 (by decide) (fun c9 => ?_) (fun c9 => ?_)
    · have hk := hk.1 c9
      have hr := (if_pos c9).symm.trans hr
      exact w_QC_takeAsCertified_47 i1 a2 h1 hy hA S3 r5 hk hr _ _ _ hW (lv_sub hl [1, 2, 3, 0] rfl)
    · have hk := hk.2 c9
      have hr := (if_neg c9).symm.trans hr
      refine lv_aload_n (pc := 39) hx hb d_QC_takeAsCertified_39 rfl (lv_at hl 2 rfl) ?_
      refine z_get (pc := 40) (v := .ref (ad (4, i1, 0))) hF hK.1 hW (tq3 h1) rfl rfl in_Node 1 (by decide) gw_298 rfl rfl d_QC_takeAsCertified_40 ?_
      refine lv_iload_n (pc := 43) hx hb d_QC_takeAsCertified_43 rfl (lv_at hl 0 rfl) ?_
      obtain ⟨S10, eS10⟩ : ∃ z : St, z = si S3 4 i1 0 7 r5 := ⟨_, rfl⟩
      have hk := lt_p eS10 hk
      have hr := lt_e eS10 hr
      refine z_put (pc := 44) (S' := S10) hF hK.1 hW (tq4 h1) rfl rfl in_Store t_Store tyo_Store nmo_Store 7 (by decide) gw_277 rfl rfl rfl rfl rfl (Nat.le_of_ble_eq_true rfl) (zs_si eS10 rfl) (zs_sio eS10) d_QC_takeAsCertified_44 (fun H locs (hW : Wd D clQ A s.heap (zw X ad TQ (cfQ ad ca) S10) H locs) => ?_)
      exact w_QC_takeAsCertified_47 i1 a2 h1 hy hA S10 r5 hk hr _ _ _ hW (lv_sub hl [1, 2, 3, 0] rfl)
  · have hk := hk.1 c6
    have hr := (if_pos c6).symm.trans hr
    exact z_vret hy hW hr.symm d_QC_takeAsCertified_20
end
section
theorem d_Blocks_isBelow_0 : decode b_Blocks_isBelow 0 = .ok (.aload_n 0, 1) := by decide +kernel
theorem d_Blocks_isBelow_1 : decode b_Blocks_isBelow 1 = .ok (.iload_n 2, 1) := by decide +kernel
theorem d_Blocks_isBelow_2 : decode b_Blocks_isBelow 2 = .ok (.iload_n 1, 1) := by decide +kernel
theorem d_Blocks_isBelow_3 : decode b_Blocks_isBelow 3 = .ok (.invokevirtual 37, 3) := by decide +kernel
theorem d_Blocks_isBelow_6 : decode b_Blocks_isBelow 6 = .ok (.ifCond .le 7, 3) := by decide +kernel
theorem d_Blocks_isBelow_9 : decode b_Blocks_isBelow 9 = .ok (.iconst 1, 1) := by decide +kernel
theorem d_Blocks_isBelow_10 : decode b_Blocks_isBelow 10 = .ok (.goto 4, 3) := by decide +kernel
theorem d_Blocks_isBelow_13 : decode b_Blocks_isBelow 13 = .ok (.iconst 0, 1) := by decide +kernel
theorem d_Blocks_isBelow_14 : decode b_Blocks_isBelow 14 = .ok (.ireturn, 1) := by decide +kernel
def f_Blocks_isBelow (a1 : Int32) (a2 : Int32) (S : St) : Int32 :=
  lt (f_Blocks_stepsDown a2 a1 S) fun (r2 : Int32) =>
  if r2 ≤ 0 then
    (0 : Int32)
  else
    (1 : Int32)
def ok_Blocks_isBelow (a1 : Int32) (a2 : Int32) (S : St) : Prop :=
  (ok_Blocks_stepsDown a2 a1 S) ∧ (
    True)
set_option maxHeartbeats 4000000 in
set_option maxRecDepth 100000 in
theorem c_Blocks_isBelow (l : Launch) (D : va_G) (X : va_W) (ad : N3 → Nat) (ca : Nat → ClassId) (a1 : Int32) (a2 : Int32)  (S : St) (hk : ok_Blocks_isBelow a1 a2 S) : cI l GG D clQ (tysQ ca) nwQ X ad TQ (cfQ ad ca) y_Blocks_isBelow b_Blocks_isBelow 3 .boolean 3 66 [.ref (ad (19, 0, 0)), .int a1, .int a2] S ((f_Blocks_isBelow a1 a2 S), S) := by
  generalize hr : f_Blocks_isBelow a1 a2 S = res
  refine zI_of pn_Blocks (Nat.le_of_ble_eq_true rfl) (fun p e s m below meth c A ls hy hW hA hl => ?_)
  have hF := hy.1
  have hx := hF.1
  have hb := hF.2.1
  have hK := hy.2.2.2
  have hl : lv_has ls 3 [(0, .ref (ad (19, 0, 0))), (1, .int a1), (2, .int a2)] := hl
  refine lv_aload_n (pc := 0) hx hb d_Blocks_isBelow_0 rfl (lv_at hl 0 rfl) ?_
  refine lv_iload_n (pc := 1) hx hb d_Blocks_isBelow_1 rfl (lv_at hl 2 rfl) ?_
  refine lv_iload_n (pc := 2) hx hb d_Blocks_isBelow_2 rfl (lv_at hl 1 rfl) ?_
  have o1 := hk.1
  have hk := hk.2
  obtain ⟨r2, er2⟩ : ∃ z : Int32, z = f_Blocks_stepsDown a2 a1 S := ⟨_, rfl⟩
  have hr := lt_e er2 hr
  refine z_goI (pc := 3) hW hA (congrArg (fun q => (q, S)) er2) (z_runV hF hK hW (c_Blocks_stepsDown l D X ad ca a2 a1 S o1 _) cd_Blocks_stepsDown gw_734 tq19 rfl rfl ⟨Nat.le_of_ble_eq_true rfl, Nat.le_of_ble_eq_true rfl⟩ ⟨Nat.zero_le _, Nat.zero_le _⟩ rfl rfl hl.1 (Nat.le_of_ble_eq_true rfl) d_Blocks_isBelow_3) (fun H locs (hW : Wd D clQ A s.heap (zw X ad TQ (cfQ ad ca) S) H locs) => ?_)
  refine lv_if_le (pc := 6) (tgt := 13) hx hb d_Blocks_isBelow_6 (by decide) (fun c3 => ?_) (fun c3 => ?_)
  · have hr := (if_pos c3).symm.trans hr
    refine lv_iconst (pc := 13) (v := 0) hx hb d_Blocks_isBelow_13 (by decide) ?_
    exact z_zret (v := (0 : Int32)) hy hW rfl (congrArg (fun z => (z, S)) hr.symm) d_Blocks_isBelow_14
  · have hr := (if_neg c3).symm.trans hr
    refine lv_iconst (pc := 9) (v := 1) hx hb d_Blocks_isBelow_9 (by decide) ?_
    refine lv_goto (pc := 10) (tgt := 14) hx hb d_Blocks_isBelow_10 (by decide) ?_
    exact z_zret (v := (1 : Int32)) hy hW rfl (congrArg (fun z => (z, S)) hr.symm) d_Blocks_isBelow_14
theorem d_QC_mayVoteFor_0 : decode b_QC_mayVoteFor 0 = .ok (.aload_n 0, 1) := by decide +kernel
theorem d_QC_mayVoteFor_1 : decode b_QC_mayVoteFor 1 = .ok (.getfield 18, 3) := by decide +kernel
theorem d_QC_mayVoteFor_4 : decode b_QC_mayVoteFor 4 = .ok (.iload_n 2, 1) := by decide +kernel
theorem d_QC_mayVoteFor_5 : decode b_QC_mayVoteFor 5 = .ok (.invokevirtual 203, 3) := by decide +kernel
theorem d_QC_mayVoteFor_8 : decode b_QC_mayVoteFor 8 = .ok (.istore 4, 2) := by decide +kernel
theorem d_QC_mayVoteFor_10 : decode b_QC_mayVoteFor 10 = .ok (.iload 4, 2) := by decide +kernel
theorem d_QC_mayVoteFor_12 : decode b_QC_mayVoteFor 12 = .ok (.aload_n 1, 1) := by decide +kernel
theorem d_QC_mayVoteFor_13 : decode b_QC_mayVoteFor 13 = .ok (.getfield 179, 3) := by decide +kernel
theorem d_QC_mayVoteFor_16 : decode b_QC_mayVoteFor 16 = .ok (.getfield 251, 3) := by decide +kernel
theorem d_QC_mayVoteFor_19 : decode b_QC_mayVoteFor 19 = .ok (.if_icmp .le 12, 3) := by decide +kernel
theorem d_QC_mayVoteFor_22 : decode b_QC_mayVoteFor 22 = .ok (.iload 4, 2) := by decide +kernel
theorem d_QC_mayVoteFor_24 : decode b_QC_mayVoteFor 24 = .ok (.aload_n 1, 1) := by decide +kernel
theorem d_QC_mayVoteFor_25 : decode b_QC_mayVoteFor 25 = .ok (.getfield 88, 3) := by decide +kernel
theorem d_QC_mayVoteFor_28 : decode b_QC_mayVoteFor 28 = .ok (.if_icmp .ge 5, 3) := by decide +kernel
theorem d_QC_mayVoteFor_31 : decode b_QC_mayVoteFor 31 = .ok (.iconst 0, 1) := by decide +kernel
theorem d_QC_mayVoteFor_32 : decode b_QC_mayVoteFor 32 = .ok (.ireturn, 1) := by decide +kernel
theorem d_QC_mayVoteFor_33 : decode b_QC_mayVoteFor 33 = .ok (.aload_n 1, 1) := by decide +kernel
theorem d_QC_mayVoteFor_34 : decode b_QC_mayVoteFor 34 = .ok (.getfield 179, 3) := by decide +kernel
theorem d_QC_mayVoteFor_37 : decode b_QC_mayVoteFor 37 = .ok (.getfield 254, 3) := by decide +kernel
theorem d_QC_mayVoteFor_40 : decode b_QC_mayVoteFor 40 = .ok (.istore 5, 2) := by decide +kernel
theorem d_QC_mayVoteFor_42 : decode b_QC_mayVoteFor 42 = .ok (.aload_n 0, 1) := by decide +kernel
theorem d_QC_mayVoteFor_43 : decode b_QC_mayVoteFor 43 = .ok (.getfield 18, 3) := by decide +kernel
theorem d_QC_mayVoteFor_46 : decode b_QC_mayVoteFor 46 = .ok (.iload 5, 2) := by decide +kernel
theorem d_QC_mayVoteFor_48 : decode b_QC_mayVoteFor 48 = .ok (.iload_n 2, 1) := by decide +kernel
theorem d_QC_mayVoteFor_49 : decode b_QC_mayVoteFor 49 = .ok (.invokevirtual 333, 3) := by decide +kernel
theorem d_QC_mayVoteFor_52 : decode b_QC_mayVoteFor 52 = .ok (.ifCond .ne 16, 3) := by decide +kernel
theorem d_QC_mayVoteFor_55 : decode b_QC_mayVoteFor 55 = .ok (.aload_n 0, 1) := by decide +kernel
theorem d_QC_mayVoteFor_56 : decode b_QC_mayVoteFor 56 = .ok (.getfield 18, 3) := by decide +kernel
theorem d_QC_mayVoteFor_59 : decode b_QC_mayVoteFor 59 = .ok (.iload_n 3, 1) := by decide +kernel
theorem d_QC_mayVoteFor_60 : decode b_QC_mayVoteFor 60 = .ok (.iload 5, 2) := by decide +kernel
theorem d_QC_mayVoteFor_62 : decode b_QC_mayVoteFor 62 = .ok (.invokevirtual 302, 3) := by decide +kernel
theorem d_QC_mayVoteFor_65 : decode b_QC_mayVoteFor 65 = .ok (.ifCond .eq 7, 3) := by decide +kernel
theorem d_QC_mayVoteFor_68 : decode b_QC_mayVoteFor 68 = .ok (.iconst 1, 1) := by decide +kernel
theorem d_QC_mayVoteFor_69 : decode b_QC_mayVoteFor 69 = .ok (.goto 4, 3) := by decide +kernel
theorem d_QC_mayVoteFor_72 : decode b_QC_mayVoteFor 72 = .ok (.iconst 0, 1) := by decide +kernel
theorem d_QC_mayVoteFor_73 : decode b_QC_mayVoteFor 73 = .ok (.ireturn, 1) := by decide +kernel
def f_QC_mayVoteFor (i1 : Nat) (a2 : Int32) (a3 : Int32) (S : St) : Int32 :=
  lt (f_Blocks_viewOf a2 S) fun (r2 : Int32) =>
  if r2 ≤ (S.1 4 i1 0 6) then
    (0 : Int32)
  else
    if (S.1 3 i1 0 8) ≤ r2 then
      lt (f_Blocks_isBelow (S.1 4 i1 0 7) a2 S) fun (r6 : Int32) =>
      if r6 = 0 then
        lt (f_Blocks_isAbove a3 (S.1 4 i1 0 7) S) fun (r9 : Int32) =>
        if r9 = 0 then
          (0 : Int32)
        else
          (1 : Int32)
      else
        (1 : Int32)
    else
      (0 : Int32)
def ok_QC_mayVoteFor (i1 : Nat) (a2 : Int32) (a3 : Int32) (S : St) : Prop :=
  (ok_Blocks_viewOf a2 S) ∧ (
    lt (f_Blocks_viewOf a2 S) fun (r2 : Int32) =>
    (r2 ≤ (S.1 4 i1 0 6) → (
      True)) ∧ (¬ (r2 ≤ (S.1 4 i1 0 6)) → (
      ((S.1 3 i1 0 8) ≤ r2 → (
        (ok_Blocks_isBelow (S.1 4 i1 0 7) a2 S) ∧ (
          lt (f_Blocks_isBelow (S.1 4 i1 0 7) a2 S) fun (r6 : Int32) =>
          (r6 = 0 → (
            (ok_Blocks_isAbove a3 (S.1 4 i1 0 7) S) ∧ (
              True))) ∧ (¬ (r6 = 0) → (
            True))))) ∧ (¬ ((S.1 3 i1 0 8) ≤ r2) → (
        True)))))
set_option maxHeartbeats 4000000 in
set_option maxRecDepth 100000 in
theorem c_QC_mayVoteFor (l : Launch) (D : va_G) (X : va_W) (ad : N3 → Nat) (ca : Nat → ClassId) (i1 : Nat) (a2 : Int32) (a3 : Int32) (h1 : i1 < 4) (S : St) (hk : ok_QC_mayVoteFor i1 a2 a3 S) : cI l GG D clQ (tysQ ca) nwQ X ad TQ (cfQ ad ca) y_QC_mayVoteFor b_QC_mayVoteFor 6 .boolean 4 88 [.ref (ad (1, 0, 0)), .ref (ad (3, i1, 0)), .int a2, .int a3] S ((f_QC_mayVoteFor i1 a2 a3 S), S) := by
  generalize hr : f_QC_mayVoteFor i1 a2 a3 S = res
  refine zI_of pn_QC (Nat.le_of_ble_eq_true rfl) (fun p e s m below meth c A ls hy hW hA hl => ?_)
  have hF := hy.1
  have hx := hF.1
  have hb := hF.2.1
  have hK := hy.2.2.2
  have hl : lv_has ls 6 [(0, .ref (ad (1, 0, 0))), (1, .ref (ad (3, i1, 0))), (2, .int a2), (3, .int a3)] := hl
  refine lv_aload_n (pc := 0) hx hb d_QC_mayVoteFor_0 rfl (lv_at hl 0 rfl) ?_
  refine z_get (pc := 1) (v := .ref (ad (19, 0, 0))) hF hK.1 hW tq1 rfl rfl in_QC 1 (by decide) gw_345 rfl rfl d_QC_mayVoteFor_1 ?_
  refine lv_iload_n (pc := 4) hx hb d_QC_mayVoteFor_4 rfl (lv_at hl 2 rfl) ?_
  have o1 := hk.1
  have hk := hk.2
  obtain ⟨r2, er2⟩ : ∃ z : Int32, z = f_Blocks_viewOf a2 S := ⟨_, rfl⟩
  have hk := lt_p er2 hk
  have hr := lt_e er2 hr
  refine z_goI (pc := 5) hW hA (congrArg (fun q => (q, S)) er2) (z_runV hF hK hW (c_Blocks_viewOf l D X ad ca a2 S o1 _) cd_Blocks_viewOf gw_456 tq19 rfl rfl ⟨Nat.le_of_ble_eq_true rfl, Nat.le_of_ble_eq_true rfl⟩ ⟨Nat.zero_le _, Nat.zero_le _⟩ rfl rfl hl.1 (Nat.le_of_ble_eq_true rfl) d_QC_mayVoteFor_5) (fun H locs (hW : Wd D clQ A s.heap (zw X ad TQ (cfQ ad ca) S) H locs) => ?_)
  refine lv_istore (pc := 8) (lv' := [(4, .int r2), (0, .ref (ad (1, 0, 0))), (1, .ref (ad (3, i1, 0))), (2, .int a2), (3, .int a3)]) hx hb d_QC_mayVoteFor_8 hl (by decide) rfl (fun ls hl => ?_)
  refine lv_iload (pc := 10) hx hb d_QC_mayVoteFor_10 (lv_at hl 0 rfl) ?_
  refine lv_aload_n (pc := 12) hx hb d_QC_mayVoteFor_12 rfl (lv_at hl 2 rfl) ?_
  refine z_get (pc := 13) (v := .ref (ad (4, i1, 0))) hF hK.1 hW (tq3 h1) rfl rfl in_Node 1 (by decide) gw_298 rfl rfl d_QC_mayVoteFor_13 ?_
  refine z_get (pc := 16) (v := .int (S.1 4 i1 0 6)) hF hK.1 hW (tq4 h1) rfl rfl in_Store 6 (by decide) gw_276 rfl rfl d_QC_mayVoteFor_16 ?_
  refine lv_icmp_le (pc := 19) (tgt := 31) hx hb d_QC_mayVoteFor_19 (by decide) (fun c3 => ?_) (fun c3 => ?_)
  · have hk := hk.1 c3
    have hr := (if_pos c3).symm.trans hr
    refine lv_iconst (pc := 31) (v := 0) hx hb d_QC_mayVoteFor_31 (by decide) ?_
    exact z_zret (v := (0 : Int32)) hy hW rfl (congrArg (fun z => (z, S)) hr.symm) d_QC_mayVoteFor_32
  · have hk := hk.2 c3
    have hr := (if_neg c3).symm.trans hr
    refine lv_iload (pc := 22) hx hb d_QC_mayVoteFor_22 (lv_at hl 0 rfl) ?_
    refine lv_aload_n (pc := 24) hx hb d_QC_mayVoteFor_24 rfl (lv_at hl 2 rfl) ?_
    refine z_get (pc := 25) (v := .int (S.1 3 i1 0 8)) hF hK.1 hW (tq3 h1) rfl rfl in_Node 8 (by decide) gw_312 rfl rfl d_QC_mayVoteFor_25 ?_
    refine lv_icmp_ge (pc := 28) (tgt := 33) hx hb d_QC_mayVoteFor_28 (by decide) (fun c4 => ?_) (fun c4 => ?_)
    · have hk := hk.1 c4
      have hr := (if_pos c4).symm.trans hr
      refine lv_aload_n (pc := 33) hx hb d_QC_mayVoteFor_33 rfl (lv_at hl 2 rfl) ?_
      refine z_get (pc := 34) (v := .ref (ad (4, i1, 0))) hF hK.1 hW (tq3 h1) rfl rfl in_Node 1 (by decide) gw_298 rfl rfl d_QC_mayVoteFor_34 ?_
      refine z_get (pc := 37) (v := .int (S.1 4 i1 0 7)) hF hK.1 hW (tq4 h1) rfl rfl in_Store 7 (by decide) gw_277 rfl rfl d_QC_mayVoteFor_37 ?_
      refine lv_istore (pc := 40) (lv' := [(5, .int (S.1 4 i1 0 7)), (4, .int r2), (0, .ref (ad (1, 0, 0))), (1, .ref (ad (3, i1, 0))), (2, .int a2), (3, .int a3)]) hx hb d_QC_mayVoteFor_40 hl (by decide) rfl (fun ls hl => ?_)
      refine lv_aload_n (pc := 42) hx hb d_QC_mayVoteFor_42 rfl (lv_at hl 2 rfl) ?_
      refine z_get (pc := 43) (v := .ref (ad (19, 0, 0))) hF hK.1 hW tq1 rfl rfl in_QC 1 (by decide) gw_345 rfl rfl d_QC_mayVoteFor_43 ?_
      refine lv_iload (pc := 46) hx hb d_QC_mayVoteFor_46 (lv_at hl 0 rfl) ?_
      refine lv_iload_n (pc := 48) hx hb d_QC_mayVoteFor_48 rfl (lv_at hl 4 rfl) ?_
      have o5 := hk.1
      have hk := hk.2
      obtain ⟨r6, er6⟩ : ∃ z : Int32, z = f_Blocks_isBelow (S.1 4 i1 0 7) a2 S := ⟨_, rfl⟩
      have hk := lt_p er6 hk
      have hr := lt_e er6 hr
      refine z_goI (pc := 49) hW hA (congrArg (fun q => (q, S)) er6) (z_runV hF hK hW (c_Blocks_isBelow l D X ad ca (S.1 4 i1 0 7) a2 S o5 _) cd_Blocks_isBelow gw_730 tq19 rfl rfl ⟨Nat.le_of_ble_eq_true rfl, Nat.le_of_ble_eq_true rfl⟩ ⟨Nat.zero_le _, Nat.zero_le _⟩ rfl rfl hl.1 (Nat.le_of_ble_eq_true rfl) d_QC_mayVoteFor_49) (fun H locs (hW : Wd D clQ A s.heap (zw X ad TQ (cfQ ad ca) S) H locs) => ?_)
      refine lv_if_ne (pc := 52) (tgt := 68) hx hb d_QC_mayVoteFor_52 (by decide) (fun c7 => ?_) (fun c7 => ?_)
      · have hk := hk.2 c7
        have hr := (if_neg c7).symm.trans hr
        refine lv_iconst (pc := 68) (v := 1) hx hb d_QC_mayVoteFor_68 (by decide) ?_
        refine lv_goto (pc := 69) (tgt := 73) hx hb d_QC_mayVoteFor_69 (by decide) ?_
        exact z_zret (v := (1 : Int32)) hy hW rfl (congrArg (fun z => (z, S)) hr.symm) d_QC_mayVoteFor_73
      · have hk := hk.1 c7
        have hr := (if_pos c7).symm.trans hr
        refine lv_aload_n (pc := 55) hx hb d_QC_mayVoteFor_55 rfl (lv_at hl 2 rfl) ?_
        refine z_get (pc := 56) (v := .ref (ad (19, 0, 0))) hF hK.1 hW tq1 rfl rfl in_QC 1 (by decide) gw_345 rfl rfl d_QC_mayVoteFor_56 ?_
        refine lv_iload_n (pc := 59) hx hb d_QC_mayVoteFor_59 rfl (lv_at hl 5 rfl) ?_
        refine lv_iload (pc := 60) hx hb d_QC_mayVoteFor_60 (lv_at hl 0 rfl) ?_
        have o8 := hk.1
        have hk := hk.2
        obtain ⟨r9, er9⟩ : ∃ z : Int32, z = f_Blocks_isAbove a3 (S.1 4 i1 0 7) S := ⟨_, rfl⟩
        have hr := lt_e er9 hr
        refine z_goI (pc := 62) hW hA (congrArg (fun q => (q, S)) er9) (z_runV hF hK hW (c_Blocks_isAbove l D X ad ca a3 (S.1 4 i1 0 7) S o8 _) cd_Blocks_isAbove gw_694 tq19 rfl rfl ⟨Nat.le_of_ble_eq_true rfl, Nat.le_of_ble_eq_true rfl⟩ ⟨Nat.zero_le _, Nat.zero_le _⟩ rfl rfl hl.1 (Nat.le_of_ble_eq_true rfl) d_QC_mayVoteFor_62) (fun H locs (hW : Wd D clQ A s.heap (zw X ad TQ (cfQ ad ca) S) H locs) => ?_)
        refine lv_if_eq (pc := 65) (tgt := 72) hx hb d_QC_mayVoteFor_65 (by decide) (fun c10 => ?_) (fun c10 => ?_)
        · have hr := (if_pos c10).symm.trans hr
          refine lv_iconst (pc := 72) (v := 0) hx hb d_QC_mayVoteFor_72 (by decide) ?_
          exact z_zret (v := (0 : Int32)) hy hW rfl (congrArg (fun z => (z, S)) hr.symm) d_QC_mayVoteFor_73
        · have hr := (if_neg c10).symm.trans hr
          refine lv_iconst (pc := 68) (v := 1) hx hb d_QC_mayVoteFor_68 (by decide) ?_
          refine lv_goto (pc := 69) (tgt := 73) hx hb d_QC_mayVoteFor_69 (by decide) ?_
          exact z_zret (v := (1 : Int32)) hy hW rfl (congrArg (fun z => (z, S)) hr.symm) d_QC_mayVoteFor_73
    · have hk := hk.2 c4
      have hr := (if_neg c4).symm.trans hr
      refine lv_iconst (pc := 31) (v := 0) hx hb d_QC_mayVoteFor_31 (by decide) ?_
      exact z_zret (v := (0 : Int32)) hy hW rfl (congrArg (fun z => (z, S)) hr.symm) d_QC_mayVoteFor_32
theorem d_Node_enter_0 : decode b_Node_enter 0 = .ok (.aload_n 0, 1) := by decide +kernel
theorem d_Node_enter_1 : decode b_Node_enter 1 = .ok (.iload_n 1, 1) := by decide +kernel
theorem d_Node_enter_2 : decode b_Node_enter 2 = .ok (.putfield 38, 3) := by decide +kernel
theorem d_Node_enter_5 : decode b_Node_enter 5 = .ok (.aload_n 0, 1) := by decide +kernel
theorem d_Node_enter_6 : decode b_Node_enter 6 = .ok (.aload_n 0, 1) := by decide +kernel
theorem d_Node_enter_7 : decode b_Node_enter 7 = .ok (.getfield 45, 3) := by decide +kernel
theorem d_Node_enter_10 : decode b_Node_enter 10 = .ok (.putfield 42, 3) := by decide +kernel
theorem d_Node_enter_13 : decode b_Node_enter 13 = .ok (.return_, 1) := by decide +kernel
def f_Node_enter (i0 : Nat) (a1 : Int32) (S : St) : St :=
  lt (si S 3 i0 0 8 a1) fun (S1 : St) =>
  lt (si S1 3 i0 0 9 (S1.1 3 i0 0 10)) fun (S2 : St) =>
  S2
set_option maxHeartbeats 4000000 in
set_option maxRecDepth 100000 in
theorem c_Node_enter (l : Launch) (D : va_G) (X : va_W) (ad : N3 → Nat) (ca : Nat → ClassId) (i0 : Nat) (a1 : Int32) (h0 : i0 < 4) (S : St) : cV l GG D clQ (tysQ ca) nwQ X ad TQ (cfQ ad ca) y_Node_enter b_Node_enter 2 0 0 [.ref (ad (3, i0, 0)), .int a1] S (f_Node_enter i0 a1 S) := by
  generalize hr : f_Node_enter i0 a1 S = res
  refine zV_of pn_Node (Nat.le_of_ble_eq_true rfl) (fun p e s m below meth c A ls hy hW hA hl => ?_)
  have hF := hy.1
  have hx := hF.1
  have hb := hF.2.1
  have hK := hy.2.2.2
  have hl : lv_has ls 2 [(0, .ref (ad (3, i0, 0))), (1, .int a1)] := hl
  refine lv_aload_n (pc := 0) hx hb d_Node_enter_0 rfl (lv_at hl 0 rfl) ?_
  refine lv_iload_n (pc := 1) hx hb d_Node_enter_1 rfl (lv_at hl 1 rfl) ?_
  obtain ⟨S1, eS1⟩ : ∃ z : St, z = si S 3 i0 0 8 a1 := ⟨_, rfl⟩
  have hr := lt_e eS1 hr
  refine z_put (pc := 2) (S' := S1) hF hK.1 hW (tq3 h0) rfl rfl in_Node t_Node tyo_Node nmo_Node 8 (by decide) gw_311 rfl rfl rfl rfl rfl (Nat.le_of_ble_eq_true rfl) (zs_si eS1 rfl) (zs_sio eS1) d_Node_enter_2 (fun H locs (hW : Wd D clQ A s.heap (zw X ad TQ (cfQ ad ca) S1) H locs) => ?_)
  refine lv_aload_n (pc := 5) hx hb d_Node_enter_5 rfl (lv_at hl 0 rfl) ?_
  refine lv_aload_n (pc := 6) hx hb d_Node_enter_6 rfl (lv_at hl 0 rfl) ?_
  refine z_get (pc := 7) (v := .int (S1.1 3 i0 0 10)) hF hK.1 hW (tq3 h0) rfl rfl in_Node 10 (by decide) gw_315 rfl rfl d_Node_enter_7 ?_
  obtain ⟨S2, eS2⟩ : ∃ z : St, z = si S1 3 i0 0 9 (S1.1 3 i0 0 10) := ⟨_, rfl⟩
  have hr := lt_e eS2 hr
  refine z_put (pc := 10) (S' := S2) hF hK.1 hW (tq3 h0) rfl rfl in_Node t_Node tyo_Node nmo_Node 9 (by decide) gw_313 rfl rfl rfl rfl rfl (Nat.le_of_ble_eq_true rfl) (zs_si eS2 rfl) (zs_sio eS2) d_Node_enter_10 (fun H locs (hW : Wd D clQ A s.heap (zw X ad TQ (cfQ ad ca) S2) H locs) => ?_)
  exact z_vret hy hW hr.symm d_Node_enter_13
theorem d_QC_voteFor_0 : decode b_QC_voteFor 0 = .ok (.aload_n 0, 1) := by decide +kernel
theorem d_QC_voteFor_1 : decode b_QC_voteFor 1 = .ok (.getfield 18, 3) := by decide +kernel
theorem d_QC_voteFor_4 : decode b_QC_voteFor 4 = .ok (.iload_n 2, 1) := by decide +kernel
theorem d_QC_voteFor_5 : decode b_QC_voteFor 5 = .ok (.iload_n 3, 1) := by decide +kernel
theorem d_QC_voteFor_6 : decode b_QC_voteFor 6 = .ok (.invokevirtual 326, 3) := by decide +kernel
theorem d_QC_voteFor_9 : decode b_QC_voteFor 9 = .ok (.ifCond .eq 9, 3) := by decide +kernel
theorem d_QC_voteFor_12 : decode b_QC_voteFor 12 = .ok (.aload_n 1, 1) := by decide +kernel
theorem d_QC_voteFor_13 : decode b_QC_voteFor 13 = .ok (.bipush 6, 2) := by decide +kernel
theorem d_QC_voteFor_15 : decode b_QC_voteFor 15 = .ok (.putfield 245, 3) := by decide +kernel
theorem d_QC_voteFor_18 : decode b_QC_voteFor 18 = .ok (.aload_n 0, 1) := by decide +kernel
theorem d_QC_voteFor_19 : decode b_QC_voteFor 19 = .ok (.getfield 18, 3) := by decide +kernel
theorem d_QC_voteFor_22 : decode b_QC_voteFor 22 = .ok (.iload_n 2, 1) := by decide +kernel
theorem d_QC_voteFor_23 : decode b_QC_voteFor 23 = .ok (.invokevirtual 203, 3) := by decide +kernel
theorem d_QC_voteFor_26 : decode b_QC_voteFor 26 = .ok (.istore 4, 2) := by decide +kernel
theorem d_QC_voteFor_28 : decode b_QC_voteFor 28 = .ok (.aload_n 1, 1) := by decide +kernel
theorem d_QC_voteFor_29 : decode b_QC_voteFor 29 = .ok (.iload 4, 2) := by decide +kernel
theorem d_QC_voteFor_31 : decode b_QC_voteFor 31 = .ok (.invokevirtual 336, 3) := by decide +kernel
theorem d_QC_voteFor_34 : decode b_QC_voteFor 34 = .ok (.aload_n 1, 1) := by decide +kernel
theorem d_QC_voteFor_35 : decode b_QC_voteFor 35 = .ok (.getfield 179, 3) := by decide +kernel
theorem d_QC_voteFor_38 : decode b_QC_voteFor 38 = .ok (.iload 4, 2) := by decide +kernel
theorem d_QC_voteFor_40 : decode b_QC_voteFor 40 = .ok (.putfield 251, 3) := by decide +kernel
theorem d_QC_voteFor_43 : decode b_QC_voteFor 43 = .ok (.iload 4, 2) := by decide +kernel
theorem d_QC_voteFor_45 : decode b_QC_voteFor 45 = .ok (.iconst 1, 1) := by decide +kernel
theorem d_QC_voteFor_46 : decode b_QC_voteFor 46 = .ok (.iadd, 1) := by decide +kernel
theorem d_QC_voteFor_47 : decode b_QC_voteFor 47 = .ok (.invokestatic 173, 3) := by decide +kernel
theorem d_QC_voteFor_50 : decode b_QC_voteFor 50 = .ok (.istore 5, 2) := by decide +kernel
theorem d_QC_voteFor_52 : decode b_QC_voteFor 52 = .ok (.iload 5, 2) := by decide +kernel
theorem d_QC_voteFor_54 : decode b_QC_voteFor 54 = .ok (.invokestatic 68, 3) := by decide +kernel
theorem d_QC_voteFor_57 : decode b_QC_voteFor 57 = .ok (.ifCond .eq 31, 3) := by decide +kernel
theorem d_QC_voteFor_60 : decode b_QC_voteFor 60 = .ok (.aload_n 0, 1) := by decide +kernel
theorem d_QC_voteFor_61 : decode b_QC_voteFor 61 = .ok (.aload_n 1, 1) := by decide +kernel
theorem d_QC_voteFor_62 : decode b_QC_voteFor 62 = .ok (.iconst 2, 1) := by decide +kernel
theorem d_QC_voteFor_63 : decode b_QC_voteFor 63 = .ok (.iload_n 2, 1) := by decide +kernel
theorem d_QC_voteFor_64 : decode b_QC_voteFor 64 = .ok (.iconst 0, 1) := by decide +kernel
theorem d_QC_voteFor_65 : decode b_QC_voteFor 65 = .ok (.invokevirtual 216, 3) := by decide +kernel
theorem d_QC_voteFor_68 : decode b_QC_voteFor 68 = .ok (.ifCond .eq 20, 3) := by decide +kernel
theorem d_QC_voteFor_71 : decode b_QC_voteFor 71 = .ok (.aload_n 0, 1) := by decide +kernel
theorem d_QC_voteFor_72 : decode b_QC_voteFor 72 = .ok (.getfield 11, 3) := by decide +kernel
theorem d_QC_voteFor_75 : decode b_QC_voteFor 75 = .ok (.iload 5, 2) := by decide +kernel
theorem d_QC_voteFor_77 : decode b_QC_voteFor 77 = .ok (.aaload, 1) := by decide +kernel
theorem d_QC_voteFor_78 : decode b_QC_voteFor 78 = .ok (.getfield 99, 3) := by decide +kernel
theorem d_QC_voteFor_81 : decode b_QC_voteFor 81 = .ok (.aload_n 0, 1) := by decide +kernel
theorem d_QC_voteFor_82 : decode b_QC_voteFor 82 = .ok (.getfield 32, 3) := by decide +kernel
theorem d_QC_voteFor_85 : decode b_QC_voteFor 85 = .ok (.invokevirtual 157, 3) := by decide +kernel
theorem d_QC_voteFor_88 : decode b_QC_voteFor 88 = .ok (.return_, 1) := by decide +kernel
def f_QC_voteFor_18 (i1 : Nat) (a2 : Int32) (a3 : Int32) (S : St)  : St :=
  lt (f_Blocks_viewOf a2 S) fun (r6 : Int32) =>
  lt (f_Node_enter i1 r6 S) fun (S8 : St) =>
  lt (si S8 4 i1 0 6 r6) fun (S9 : St) =>
  lt (f_QC_leaderOf (r6 + (1 : Int32)) S9) fun (r10 : Int32) =>
  lt (f_QC_isNode r10 S9) fun (r11 : Int32) =>
  if r11 = 0 then
    S9
  else
    lt (f_QC_writeSigned i1 (2 : Int32) a2 (0 : Int32) S9) fun (r14 : Int32 × St) =>
    if r14.1 = 0 then
      r14.2
    else
      lt (f_Inbox_add (r10.toNatClampNeg) 4 0 r14.2) fun (S19 : St) =>
      S19
def ok_QC_voteFor_18 (i1 : Nat) (a2 : Int32) (a3 : Int32) (S : St)  : Prop :=
  (ok_Blocks_viewOf a2 S) ∧ (
    lt (f_Blocks_viewOf a2 S) fun (r6 : Int32) =>
    lt (f_Node_enter i1 r6 S) fun (S8 : St) =>
    lt (si S8 4 i1 0 6 r6) fun (S9 : St) =>
    lt (f_QC_leaderOf (r6 + (1 : Int32)) S9) fun (r10 : Int32) =>
    lt (f_QC_isNode r10 S9) fun (r11 : Int32) =>
    (r11 = 0 → (
      True)) ∧ (¬ (r11 = 0) → (
      (ok_QC_writeSigned i1 (2 : Int32) a2 (0 : Int32) S9) ∧ (
        lt (f_QC_writeSigned i1 (2 : Int32) a2 (0 : Int32) S9) fun (r14 : Int32 × St) =>
        (r14.1 = 0 → (
          True)) ∧ (¬ (r14.1 = 0) → (
          (vp_in r10 4) ∧ (
            (ok_Inbox_add (r10.toNatClampNeg) 4 0 r14.2) ∧ (
              True))))))))
set_option maxHeartbeats 4000000 in
set_option maxRecDepth 100000 in
theorem w_QC_voteFor_18 {l : Launch} {D : va_G} {X : va_W} {ad : N3 → Nat} {ca : Nat → ClassId} (i1 : Nat) (a2 : Int32) (a3 : Int32) (h1 : i1 < 4) {p : Program} {e : Env} {s : State} {m : MethodId} {below : List Frame} {meth : Method} {c : Code} {A : Nat → Prop} (hy : Hy p s m ([.ref (ad (1, 0, 0)), .ref (ad (3, i1, 0)), .int a2, .int a3] : List Value).toArray meth c b_QC_voteFor 6 none R_QC GG D clQ (tysQ ca) nwQ) (hA : ∀ q, s.heap.size ≤ q → A q) {res : St} : ∀  (S : St)  , ok_QC_voteFor_18 i1 a2 a3 S → f_QC_voteFor_18 i1 a2 a3 S = res → ∀ (H : Heap) (locs : List Loc) (ls : Array Slot), Wd D clQ A s.heap (zw X ad TQ (cfQ ad ca) S) H locs → lv_has ls 6 [(0, .ref (ad (1, 0, 0))), (1, .ref (ad (3, i1, 0))), (2, .int a2)] → W p l e { frames := 4, cells := 0, slots := 0, locals := 122 } s m ([.ref (ad (1, 0, 0)), .ref (ad (3, i1, 0)), .int a2, .int a3] : List Value).toArray below meth c H locs 0 0 (MQ below (eV D clQ X ad TQ (cfQ ad ca) A res) ([.ref (ad (1, 0, 0)), .ref (ad (3, i1, 0)), .int a2, .int a3] : List Value).toArray s 0 0 A) (F0 m 18 ls []) := by
  have hF := hy.1
  have hx := hF.1
  have hb := hF.2.1
  have hK := hy.2.2.2
  intro S hk hr H locs ls hW hl
  refine lv_aload_n (pc := 18) hx hb d_QC_voteFor_18 rfl (lv_at hl 0 rfl) ?_
  refine z_get (pc := 19) (v := .ref (ad (19, 0, 0))) hF hK.1 hW tq1 rfl rfl in_QC 1 (by decide) gw_345 rfl rfl d_QC_voteFor_19 ?_
  refine lv_iload_n (pc := 22) hx hb d_QC_voteFor_22 rfl (lv_at hl 2 rfl) ?_
  have o5 := hk.1
  have hk := hk.2
  obtain ⟨r6, er6⟩ : ∃ z : Int32, z = f_Blocks_viewOf a2 S := ⟨_, rfl⟩
  have hk := lt_p er6 hk
  have hr := lt_e er6 hr
  refine z_goI (pc := 23) hW hA (congrArg (fun q => (q, S)) er6) (z_runV hF hK hW (c_Blocks_viewOf l D X ad ca a2 S o5 _) cd_Blocks_viewOf gw_456 tq19 rfl rfl ⟨Nat.le_of_ble_eq_true rfl, Nat.le_of_ble_eq_true rfl⟩ ⟨Nat.zero_le _, Nat.zero_le _⟩ rfl rfl hl.1 (Nat.le_of_ble_eq_true rfl) d_QC_voteFor_23) (fun H locs (hW : Wd D clQ A s.heap (zw X ad TQ (cfQ ad ca) S) H locs) => ?_)
  refine lv_istore (pc := 26) (lv' := [(4, .int r6), (0, .ref (ad (1, 0, 0))), (1, .ref (ad (3, i1, 0))), (2, .int a2)]) hx hb d_QC_voteFor_26 hl (by decide) rfl (fun ls hl => ?_)
  refine lv_aload_n (pc := 28) hx hb d_QC_voteFor_28 rfl (lv_at hl 2 rfl) ?_
  refine lv_iload (pc := 29) hx hb d_QC_voteFor_29 (lv_at hl 0 rfl) ?_
  obtain ⟨S8, eS8⟩ : ∃ z : St, z = f_Node_enter i1 r6 S := ⟨_, rfl⟩
  have hk := lt_p eS8 hk
  have hr := lt_e eS8 hr
  refine z_goV (pc := 31) hW hA eS8 (z_runV hF hK hW (c_Node_enter l D X ad ca i1 r6 h1 S _) cd_Node_enter gw_739 (tq3 h1) rfl rfl ⟨Nat.le_of_ble_eq_true rfl, Nat.le_of_ble_eq_true rfl⟩ ⟨Nat.zero_le _, Nat.zero_le _⟩ rfl rfl hl.1 (Nat.le_of_ble_eq_true rfl) d_QC_voteFor_31) (fun H locs (hW : Wd D clQ A s.heap (zw X ad TQ (cfQ ad ca) S8) H locs) => ?_)
  refine lv_aload_n (pc := 34) hx hb d_QC_voteFor_34 rfl (lv_at hl 2 rfl) ?_
  refine z_get (pc := 35) (v := .ref (ad (4, i1, 0))) hF hK.1 hW (tq3 h1) rfl rfl in_Node 1 (by decide) gw_298 rfl rfl d_QC_voteFor_35 ?_
  refine lv_iload (pc := 38) hx hb d_QC_voteFor_38 (lv_at hl 0 rfl) ?_
  obtain ⟨S9, eS9⟩ : ∃ z : St, z = si S8 4 i1 0 6 r6 := ⟨_, rfl⟩
  have hk := lt_p eS9 hk
  have hr := lt_e eS9 hr
  refine z_put (pc := 40) (S' := S9) hF hK.1 hW (tq4 h1) rfl rfl in_Store t_Store tyo_Store nmo_Store 6 (by decide) gw_276 rfl rfl rfl rfl rfl (Nat.le_of_ble_eq_true rfl) (zs_si eS9 rfl) (zs_sio eS9) d_QC_voteFor_40 (fun H locs (hW : Wd D clQ A s.heap (zw X ad TQ (cfQ ad ca) S9) H locs) => ?_)
  refine lv_iload (pc := 43) hx hb d_QC_voteFor_43 (lv_at hl 0 rfl) ?_
  refine lv_iconst (pc := 45) (v := 1) hx hb d_QC_voteFor_45 (by decide) ?_
  refine lv_iadd (pc := 46) hx hb d_QC_voteFor_46 ?_
  obtain ⟨r10, er10⟩ : ∃ z : Int32, z = f_QC_leaderOf (r6 + (1 : Int32)) S9 := ⟨_, rfl⟩
  have hk := lt_p er10 hk
  have hr := lt_e er10 hr
  refine z_goI (pc := 47) hW hA (congrArg (fun q => (q, S9)) er10) (z_runS hF hK hW (c_QC_leaderOf l D X ad ca (r6 + (1 : Int32)) S9 _) cd_QC_leaderOf gw_670 ⟨Nat.le_of_ble_eq_true rfl, Nat.le_of_ble_eq_true rfl⟩ ⟨Nat.zero_le _, Nat.zero_le _⟩ rfl rfl hl.1 (Nat.le_of_ble_eq_true rfl) d_QC_voteFor_47) (fun H locs (hW : Wd D clQ A s.heap (zw X ad TQ (cfQ ad ca) S9) H locs) => ?_)
  refine lv_istore (pc := 50) (lv' := [(5, .int r10), (4, .int r6), (0, .ref (ad (1, 0, 0))), (1, .ref (ad (3, i1, 0))), (2, .int a2)]) hx hb d_QC_voteFor_50 hl (by decide) rfl (fun ls hl => ?_)
  refine lv_iload (pc := 52) hx hb d_QC_voteFor_52 (lv_at hl 0 rfl) ?_
  obtain ⟨r11, er11⟩ : ∃ z : Int32, z = f_QC_isNode r10 S9 := ⟨_, rfl⟩
  have hk := lt_p er11 hk
  have hr := lt_e er11 hr
  refine z_goI (pc := 54) hW hA (congrArg (fun q => (q, S9)) er11) (z_runS hF hK hW (c_QC_isNode l D X ad ca r10 S9 _) cd_QC_isNode gw_430 ⟨Nat.le_of_ble_eq_true rfl, Nat.le_of_ble_eq_true rfl⟩ ⟨Nat.zero_le _, Nat.zero_le _⟩ rfl rfl hl.1 (Nat.le_of_ble_eq_true rfl) d_QC_voteFor_54) (fun H locs (hW : Wd D clQ A s.heap (zw X ad TQ (cfQ ad ca) S9) H locs) => ?_)
  refine lv_if_eq (pc := 57) (tgt := 88) hx hb d_QC_voteFor_57 (by decide) (fun c12 => ?_) (fun c12 => ?_)
  · have hk := hk.1 c12
    have hr := (if_pos c12).symm.trans hr
    exact z_vret hy hW hr.symm d_QC_voteFor_88
  · have hk := hk.2 c12
    have hr := (if_neg c12).symm.trans hr
    refine lv_aload_n (pc := 60) hx hb d_QC_voteFor_60 rfl (lv_at hl 2 rfl) ?_
    refine lv_aload_n (pc := 61) hx hb d_QC_voteFor_61 rfl (lv_at hl 3 rfl) ?_
    refine lv_iconst (pc := 62) (v := 2) hx hb d_QC_voteFor_62 (by decide) ?_
    refine lv_iload_n (pc := 63) hx hb d_QC_voteFor_63 rfl (lv_at hl 4 rfl) ?_
    refine lv_iconst (pc := 64) (v := 0) hx hb d_QC_voteFor_64 (by decide) ?_
    have o13 := hk.1
    have hk := hk.2
    obtain ⟨r14, er14⟩ : ∃ z : Int32 × St, z = f_QC_writeSigned i1 (2 : Int32) a2 (0 : Int32) S9 := ⟨_, rfl⟩
    have hk := lt_p er14 hk
    have hr := lt_e er14 hr
    refine z_goI (pc := 65) hW hA (show (r14.1, r14.2) = _ from er14) (z_runV hF hK hW (c_QC_writeSigned l D X ad ca i1 (2 : Int32) a2 (0 : Int32) h1 S9 o13 _) cd_QC_writeSigned gw_377 tq1 rfl rfl ⟨Nat.le_of_ble_eq_true rfl, Nat.le_of_ble_eq_true rfl⟩ ⟨Nat.zero_le _, Nat.zero_le _⟩ rfl rfl hl.1 (Nat.le_of_ble_eq_true rfl) d_QC_voteFor_65) (fun H locs (hW : Wd D clQ A s.heap (zw X ad TQ (cfQ ad ca) r14.2) H locs) => ?_)
    refine lv_if_eq (pc := 68) (tgt := 88) hx hb d_QC_voteFor_68 (by decide) (fun c15 => ?_) (fun c15 => ?_)
    · have hk := hk.1 c15
      have hr := (if_pos c15).symm.trans hr
      exact z_vret hy hW hr.symm d_QC_voteFor_88
    · have hk := hk.2 c15
      have hr := (if_neg c15).symm.trans hr
      refine lv_aload_n (pc := 71) hx hb d_QC_voteFor_71 rfl (lv_at hl 2 rfl) ?_
      refine z_get (pc := 72) (v := .ref (ad (2, 0, 0))) hF hK.1 hW tq1 rfl rfl in_QC 0 (by decide) gw_344 rfl rfl d_QC_voteFor_72 ?_
      refine lv_iload (pc := 75) hx hb d_QC_voteFor_75 (lv_at hl 0 rfl) ?_
      have b16 := hk.1
      have hk := hk.2
      refine z_aald (pc := 77) (q := ad (3, (r10.toNatClampNeg), 0)) hF hK.1 hW tq2 3 rfl rfl b16 rfl d_QC_voteFor_77 ?_
      refine z_get (pc := 78) (v := .ref (ad (12, (r10.toNatClampNeg), 0))) hF hK.1 hW (tq3 (vin4 b16)) rfl rfl in_Node 2 (by decide) gw_300 rfl rfl d_QC_voteFor_78 ?_
      refine lv_aload_n (pc := 81) hx hb d_QC_voteFor_81 rfl (lv_at hl 2 rfl) ?_
      refine z_get (pc := 82) (v := .ref (ad (14, 4, 0))) hF hK.1 hW tq1 rfl rfl in_QC 3 (by decide) gw_347 rfl rfl d_QC_voteFor_82 ?_
      have o17 := hk.1
      have hk := hk.2
      obtain ⟨S19, eS19⟩ : ∃ z : St, z = f_Inbox_add (r10.toNatClampNeg) 4 0 r14.2 := ⟨_, rfl⟩
      have hr := lt_e eS19 hr
      refine z_goV (pc := 85) hW hA eS19 (z_runV hF hK hW (c_Inbox_add l D X ad ca (r10.toNatClampNeg) 4 0 (vin4 b16) inM_D r14.2 o17 _) cd_Inbox_add gw_411 (tq12 (vin4 b16)) rfl rfl ⟨Nat.le_of_ble_eq_true rfl, Nat.le_of_ble_eq_true rfl⟩ ⟨Nat.zero_le _, Nat.zero_le _⟩ rfl rfl hl.1 (Nat.le_of_ble_eq_true rfl) d_QC_voteFor_85) (fun H locs (hW : Wd D clQ A s.heap (zw X ad TQ (cfQ ad ca) S19) H locs) => ?_)
      exact z_vret hy hW hr.symm d_QC_voteFor_88
def f_QC_voteFor (i1 : Nat) (a2 : Int32) (a3 : Int32) (S : St) : St :=
  lt (f_Blocks_isNextView a2 a3 S) fun (r2 : Int32) =>
  if r2 = 0 then
    f_QC_voteFor_18 i1 a2 a3 S
  else
    lt (si S 3 i1 0 10 (6 : Int32)) fun (S4 : St) =>
    f_QC_voteFor_18 i1 a2 a3 S4
def ok_QC_voteFor (i1 : Nat) (a2 : Int32) (a3 : Int32) (S : St) : Prop :=
  (ok_Blocks_isNextView a2 a3 S) ∧ (
    lt (f_Blocks_isNextView a2 a3 S) fun (r2 : Int32) =>
    (r2 = 0 → (
      ok_QC_voteFor_18 i1 a2 a3 S)) ∧ (¬ (r2 = 0) → (
      lt (si S 3 i1 0 10 (6 : Int32)) fun (S4 : St) =>
      ok_QC_voteFor_18 i1 a2 a3 S4)))
set_option maxHeartbeats 4000000 in
set_option maxRecDepth 100000 in
theorem c_QC_voteFor (l : Launch) (D : va_G) (X : va_W) (ad : N3 → Nat) (ca : Nat → ClassId) (i1 : Nat) (a2 : Int32) (a3 : Int32) (h1 : i1 < 4) (S : St) (hk : ok_QC_voteFor i1 a2 a3 S) : cV l GG D clQ (tysQ ca) nwQ X ad TQ (cfQ ad ca) y_QC_voteFor b_QC_voteFor 6 4 122 [.ref (ad (1, 0, 0)), .ref (ad (3, i1, 0)), .int a2, .int a3] S (f_QC_voteFor i1 a2 a3 S) := by
  generalize hr : f_QC_voteFor i1 a2 a3 S = res
  refine zV_of pn_QC (Nat.le_of_ble_eq_true rfl) (fun p e s m below meth c A ls hy hW hA hl => ?_)
  have hF := hy.1
  have hx := hF.1
  have hb := hF.2.1
  have hK := hy.2.2.2
  have hl : lv_has ls 6 [(0, .ref (ad (1, 0, 0))), (1, .ref (ad (3, i1, 0))), (2, .int a2), (3, .int a3)] := hl
  refine lv_aload_n (pc := 0) hx hb d_QC_voteFor_0 rfl (lv_at hl 0 rfl) ?_
  refine z_get (pc := 1) (v := .ref (ad (19, 0, 0))) hF hK.1 hW tq1 rfl rfl in_QC 1 (by decide) gw_345 rfl rfl d_QC_voteFor_1 ?_
  refine lv_iload_n (pc := 4) hx hb d_QC_voteFor_4 rfl (lv_at hl 2 rfl) ?_
  refine lv_iload_n (pc := 5) hx hb d_QC_voteFor_5 rfl (lv_at hl 3 rfl) ?_
  have o1 := hk.1
  have hk := hk.2
  obtain ⟨r2, er2⟩ : ∃ z : Int32, z = f_Blocks_isNextView a2 a3 S := ⟨_, rfl⟩
  have hk := lt_p er2 hk
  have hr := lt_e er2 hr
  refine z_goI (pc := 6) hW hA (congrArg (fun q => (q, S)) er2) (z_runV hF hK hW (c_Blocks_isNextView l D X ad ca a2 a3 S o1 _) cd_Blocks_isNextView gw_699 tq19 rfl rfl ⟨Nat.le_of_ble_eq_true rfl, Nat.le_of_ble_eq_true rfl⟩ ⟨Nat.zero_le _, Nat.zero_le _⟩ rfl rfl hl.1 (Nat.le_of_ble_eq_true rfl) d_QC_voteFor_6) (fun H locs (hW : Wd D clQ A s.heap (zw X ad TQ (cfQ ad ca) S) H locs) => ?_)
  refine lv_if_eq (pc := 9) (tgt := 18) hx hb d_QC_voteFor_9 (by decide) (fun c3 => ?_) (fun c3 => ?_)
  · have hk := hk.1 c3
    have hr := (if_pos c3).symm.trans hr
    exact w_QC_voteFor_18 i1 a2 a3 h1 hy hA S hk hr _ _ _ hW (lv_sub hl [0, 1, 2] rfl)
  · have hk := hk.2 c3
    have hr := (if_neg c3).symm.trans hr
    refine lv_aload_n (pc := 12) hx hb d_QC_voteFor_12 rfl (lv_at hl 1 rfl) ?_
    refine lv_bipush (pc := 13) (v := 6) hx hb d_QC_voteFor_13 (by decide) ?_
    obtain ⟨S4, eS4⟩ : ∃ z : St, z = si S 3 i1 0 10 (6 : Int32) := ⟨_, rfl⟩
    have hk := lt_p eS4 hk
    have hr := lt_e eS4 hr
    refine z_put (pc := 15) (S' := S4) hF hK.1 hW (tq3 h1) rfl rfl in_Node t_Node tyo_Node nmo_Node 10 (by decide) gw_316 rfl rfl rfl rfl rfl (Nat.le_of_ble_eq_true rfl) (zs_si eS4 rfl) (zs_sio eS4) d_QC_voteFor_15 (fun H locs (hW : Wd D clQ A s.heap (zw X ad TQ (cfQ ad ca) S4) H locs) => ?_)
    exact w_QC_voteFor_18 i1 a2 a3 h1 hy hA S4 hk hr _ _ _ hW (lv_sub hl [0, 1, 2] rfl)
theorem d_QC_receiveProposal_0 : decode b_QC_receiveProposal 0 = .ok (.aload_n 0, 1) := by decide +kernel
theorem d_QC_receiveProposal_1 : decode b_QC_receiveProposal 1 = .ok (.getfield 18, 3) := by decide +kernel
theorem d_QC_receiveProposal_4 : decode b_QC_receiveProposal 4 = .ok (.iload_n 3, 1) := by decide +kernel
theorem d_QC_receiveProposal_5 : decode b_QC_receiveProposal 5 = .ok (.invokevirtual 285, 3) := by decide +kernel
theorem d_QC_receiveProposal_8 : decode b_QC_receiveProposal 8 = .ok (.istore 4, 2) := by decide +kernel
theorem d_QC_receiveProposal_10 : decode b_QC_receiveProposal 10 = .ok (.aload_n 1, 1) := by decide +kernel
theorem d_QC_receiveProposal_11 : decode b_QC_receiveProposal 11 = .ok (.getfield 179, 3) := by decide +kernel
theorem d_QC_receiveProposal_14 : decode b_QC_receiveProposal 14 = .ok (.iload 4, 2) := by decide +kernel
theorem d_QC_receiveProposal_16 : decode b_QC_receiveProposal 16 = .ok (.invokevirtual 195, 3) := by decide +kernel
theorem d_QC_receiveProposal_19 : decode b_QC_receiveProposal 19 = .ok (.ifCond .ne 13, 3) := by decide +kernel
theorem d_QC_receiveProposal_22 : decode b_QC_receiveProposal 22 = .ok (.aload_n 0, 1) := by decide +kernel
theorem d_QC_receiveProposal_23 : decode b_QC_receiveProposal 23 = .ok (.aload_n 1, 1) := by decide +kernel
theorem d_QC_receiveProposal_24 : decode b_QC_receiveProposal 24 = .ok (.iconst 4, 1) := by decide +kernel
theorem d_QC_receiveProposal_25 : decode b_QC_receiveProposal 25 = .ok (.iload 4, 2) := by decide +kernel
theorem d_QC_receiveProposal_27 : decode b_QC_receiveProposal 27 = .ok (.iload_n 2, 1) := by decide +kernel
theorem d_QC_receiveProposal_28 : decode b_QC_receiveProposal 28 = .ok (.invokevirtual 309, 3) := by decide +kernel
theorem d_QC_receiveProposal_31 : decode b_QC_receiveProposal 31 = .ok (.return_, 1) := by decide +kernel
theorem d_QC_receiveProposal_32 : decode b_QC_receiveProposal 32 = .ok (.aload_n 1, 1) := by decide +kernel
theorem d_QC_receiveProposal_33 : decode b_QC_receiveProposal 33 = .ok (.getfield 179, 3) := by decide +kernel
theorem d_QC_receiveProposal_36 : decode b_QC_receiveProposal 36 = .ok (.iload_n 3, 1) := by decide +kernel
theorem d_QC_receiveProposal_37 : decode b_QC_receiveProposal 37 = .ok (.invokevirtual 212, 3) := by decide +kernel
theorem d_QC_receiveProposal_40 : decode b_QC_receiveProposal 40 = .ok (.aload_n 0, 1) := by decide +kernel
theorem d_QC_receiveProposal_41 : decode b_QC_receiveProposal 41 = .ok (.aload_n 1, 1) := by decide +kernel
theorem d_QC_receiveProposal_42 : decode b_QC_receiveProposal 42 = .ok (.iload 4, 2) := by decide +kernel
theorem d_QC_receiveProposal_44 : decode b_QC_receiveProposal 44 = .ok (.invokevirtual 312, 3) := by decide +kernel
theorem d_QC_receiveProposal_47 : decode b_QC_receiveProposal 47 = .ok (.aload_n 0, 1) := by decide +kernel
theorem d_QC_receiveProposal_48 : decode b_QC_receiveProposal 48 = .ok (.aload_n 1, 1) := by decide +kernel
theorem d_QC_receiveProposal_49 : decode b_QC_receiveProposal 49 = .ok (.iload_n 3, 1) := by decide +kernel
theorem d_QC_receiveProposal_50 : decode b_QC_receiveProposal 50 = .ok (.iload 4, 2) := by decide +kernel
theorem d_QC_receiveProposal_52 : decode b_QC_receiveProposal 52 = .ok (.invokevirtual 316, 3) := by decide +kernel
theorem d_QC_receiveProposal_55 : decode b_QC_receiveProposal 55 = .ok (.ifCond .eq 11, 3) := by decide +kernel
theorem d_QC_receiveProposal_58 : decode b_QC_receiveProposal 58 = .ok (.aload_n 0, 1) := by decide +kernel
theorem d_QC_receiveProposal_59 : decode b_QC_receiveProposal 59 = .ok (.aload_n 1, 1) := by decide +kernel
theorem d_QC_receiveProposal_60 : decode b_QC_receiveProposal 60 = .ok (.iload_n 3, 1) := by decide +kernel
theorem d_QC_receiveProposal_61 : decode b_QC_receiveProposal 61 = .ok (.iload 4, 2) := by decide +kernel
theorem d_QC_receiveProposal_63 : decode b_QC_receiveProposal 63 = .ok (.invokevirtual 320, 3) := by decide +kernel
theorem d_QC_receiveProposal_66 : decode b_QC_receiveProposal 66 = .ok (.return_, 1) := by decide +kernel
def f_QC_receiveProposal (i1 : Nat) (a2 : Int32) (a3 : Int32) (S : St) : St :=
  lt (f_Blocks_parentOf a3 S) fun (r2 : Int32) =>
  lt (f_Store_hasBlock i1 r2 S) fun (r4 : Int32) =>
  if r4 = 0 then
    lt (f_QC_sendUnsigned i1 (4 : Int32) r2 a2 S) fun (S20 : St) =>
    S20
  else
    lt (f_Store_keepBlock i1 a3 S) fun (S8 : St) =>
    lt (f_QC_takeAsCertified i1 r2 S8) fun (S11 : St) =>
    lt (f_QC_mayVoteFor i1 a3 r2 S11) fun (r13 : Int32) =>
    if r13 = 0 then
      S11
    else
      lt (f_QC_voteFor i1 a3 r2 S11) fun (S17 : St) =>
      S17
def ok_QC_receiveProposal (i1 : Nat) (a2 : Int32) (a3 : Int32) (S : St) : Prop :=
  (ok_Blocks_parentOf a3 S) ∧ (
    lt (f_Blocks_parentOf a3 S) fun (r2 : Int32) =>
    (ok_Store_hasBlock i1 r2 S) ∧ (
      lt (f_Store_hasBlock i1 r2 S) fun (r4 : Int32) =>
      (r4 = 0 → (
        (ok_QC_sendUnsigned i1 (4 : Int32) r2 a2 S) ∧ (
          True))) ∧ (¬ (r4 = 0) → (
        (ok_Store_keepBlock i1 a3 S) ∧ (
          lt (f_Store_keepBlock i1 a3 S) fun (S8 : St) =>
          (ok_QC_takeAsCertified i1 r2 S8) ∧ (
            lt (f_QC_takeAsCertified i1 r2 S8) fun (S11 : St) =>
            (ok_QC_mayVoteFor i1 a3 r2 S11) ∧ (
              lt (f_QC_mayVoteFor i1 a3 r2 S11) fun (r13 : Int32) =>
              (r13 = 0 → (
                True)) ∧ (¬ (r13 = 0) → (
                (ok_QC_voteFor i1 a3 r2 S11) ∧ (
                  True))))))))))
set_option maxHeartbeats 4000000 in
set_option maxRecDepth 100000 in
theorem c_QC_receiveProposal (l : Launch) (D : va_G) (X : va_W) (ad : N3 → Nat) (ca : Nat → ClassId) (i1 : Nat) (a2 : Int32) (a3 : Int32) (h1 : i1 < 4) (S : St) (hk : ok_QC_receiveProposal i1 a2 a3 S) : cV l GG D clQ (tysQ ca) nwQ X ad TQ (cfQ ad ca) y_QC_receiveProposal b_QC_receiveProposal 5 5 147 [.ref (ad (1, 0, 0)), .ref (ad (3, i1, 0)), .int a2, .int a3] S (f_QC_receiveProposal i1 a2 a3 S) := by
  generalize hr : f_QC_receiveProposal i1 a2 a3 S = res
  refine zV_of pn_QC (Nat.le_of_ble_eq_true rfl) (fun p e s m below meth c A ls hy hW hA hl => ?_)
  have hF := hy.1
  have hx := hF.1
  have hb := hF.2.1
  have hK := hy.2.2.2
  have hl : lv_has ls 5 [(0, .ref (ad (1, 0, 0))), (1, .ref (ad (3, i1, 0))), (2, .int a2), (3, .int a3)] := hl
  refine lv_aload_n (pc := 0) hx hb d_QC_receiveProposal_0 rfl (lv_at hl 0 rfl) ?_
  refine z_get (pc := 1) (v := .ref (ad (19, 0, 0))) hF hK.1 hW tq1 rfl rfl in_QC 1 (by decide) gw_345 rfl rfl d_QC_receiveProposal_1 ?_
  refine lv_iload_n (pc := 4) hx hb d_QC_receiveProposal_4 rfl (lv_at hl 3 rfl) ?_
  have o1 := hk.1
  have hk := hk.2
  obtain ⟨r2, er2⟩ : ∃ z : Int32, z = f_Blocks_parentOf a3 S := ⟨_, rfl⟩
  have hk := lt_p er2 hk
  have hr := lt_e er2 hr
  refine z_goI (pc := 5) hW hA (congrArg (fun q => (q, S)) er2) (z_runV hF hK hW (c_Blocks_parentOf l D X ad ca a3 S o1 _) cd_Blocks_parentOf gw_461 tq19 rfl rfl ⟨Nat.le_of_ble_eq_true rfl, Nat.le_of_ble_eq_true rfl⟩ ⟨Nat.zero_le _, Nat.zero_le _⟩ rfl rfl hl.1 (Nat.le_of_ble_eq_true rfl) d_QC_receiveProposal_5) (fun H locs (hW : Wd D clQ A s.heap (zw X ad TQ (cfQ ad ca) S) H locs) => ?_)
  refine lv_istore (pc := 8) (lv' := [(4, .int r2), (0, .ref (ad (1, 0, 0))), (1, .ref (ad (3, i1, 0))), (2, .int a2), (3, .int a3)]) hx hb d_QC_receiveProposal_8 hl (by decide) rfl (fun ls hl => ?_)
  refine lv_aload_n (pc := 10) hx hb d_QC_receiveProposal_10 rfl (lv_at hl 2 rfl) ?_
  refine z_get (pc := 11) (v := .ref (ad (4, i1, 0))) hF hK.1 hW (tq3 h1) rfl rfl in_Node 1 (by decide) gw_298 rfl rfl d_QC_receiveProposal_11 ?_
  refine lv_iload (pc := 14) hx hb d_QC_receiveProposal_14 (lv_at hl 0 rfl) ?_
  have o3 := hk.1
  have hk := hk.2
  obtain ⟨r4, er4⟩ : ∃ z : Int32, z = f_Store_hasBlock i1 r2 S := ⟨_, rfl⟩
  have hk := lt_p er4 hk
  have hr := lt_e er4 hr
  refine z_goI (pc := 16) hW hA (congrArg (fun q => (q, S)) er4) (z_runV hF hK hW (c_Store_hasBlock l D X ad ca i1 r2 h1 S o3 _) cd_Store_hasBlock gw_477 (tq4 h1) rfl rfl ⟨Nat.le_of_ble_eq_true rfl, Nat.le_of_ble_eq_true rfl⟩ ⟨Nat.zero_le _, Nat.zero_le _⟩ rfl rfl hl.1 (Nat.le_of_ble_eq_true rfl) d_QC_receiveProposal_16) (fun H locs (hW : Wd D clQ A s.heap (zw X ad TQ (cfQ ad ca) S) H locs) => ?_)
  refine lv_if_ne (pc := 19) (tgt := 32) hx hb d_QC_receiveProposal_19 (by decide) (fun c5 => ?_) (fun c5 => ?_)
  · have hk := hk.2 c5
    have hr := (if_neg c5).symm.trans hr
    refine lv_aload_n (pc := 32) hx hb d_QC_receiveProposal_32 rfl (lv_at hl 2 rfl) ?_
    refine z_get (pc := 33) (v := .ref (ad (4, i1, 0))) hF hK.1 hW (tq3 h1) rfl rfl in_Node 1 (by decide) gw_298 rfl rfl d_QC_receiveProposal_33 ?_
    refine lv_iload_n (pc := 36) hx hb d_QC_receiveProposal_36 rfl (lv_at hl 4 rfl) ?_
    have o6 := hk.1
    have hk := hk.2
    obtain ⟨S8, eS8⟩ : ∃ z : St, z = f_Store_keepBlock i1 a3 S := ⟨_, rfl⟩
    have hk := lt_p eS8 hk
    have hr := lt_e eS8 hr
    refine z_goV (pc := 37) hW hA eS8 (z_runV hF hK hW (c_Store_keepBlock l D X ad ca i1 a3 h1 S o6 _) cd_Store_keepBlock gw_640 (tq4 h1) rfl rfl ⟨Nat.le_of_ble_eq_true rfl, Nat.le_of_ble_eq_true rfl⟩ ⟨Nat.zero_le _, Nat.zero_le _⟩ rfl rfl hl.1 (Nat.le_of_ble_eq_true rfl) d_QC_receiveProposal_37) (fun H locs (hW : Wd D clQ A s.heap (zw X ad TQ (cfQ ad ca) S8) H locs) => ?_)
    refine lv_aload_n (pc := 40) hx hb d_QC_receiveProposal_40 rfl (lv_at hl 1 rfl) ?_
    refine lv_aload_n (pc := 41) hx hb d_QC_receiveProposal_41 rfl (lv_at hl 2 rfl) ?_
    refine lv_iload (pc := 42) hx hb d_QC_receiveProposal_42 (lv_at hl 0 rfl) ?_
    have o9 := hk.1
    have hk := hk.2
    obtain ⟨S11, eS11⟩ : ∃ z : St, z = f_QC_takeAsCertified i1 r2 S8 := ⟨_, rfl⟩
    have hk := lt_p eS11 hk
    have hr := lt_e eS11 hr
    refine z_goV (pc := 44) hW hA eS11 (z_runV hF hK hW (c_QC_takeAsCertified l D X ad ca i1 r2 h1 S8 o9 _) cd_QC_takeAsCertified gw_686 tq1 rfl rfl ⟨Nat.le_of_ble_eq_true rfl, Nat.le_of_ble_eq_true rfl⟩ ⟨Nat.zero_le _, Nat.zero_le _⟩ rfl rfl hl.1 (Nat.le_of_ble_eq_true rfl) d_QC_receiveProposal_44) (fun H locs (hW : Wd D clQ A s.heap (zw X ad TQ (cfQ ad ca) S11) H locs) => ?_)
    refine lv_aload_n (pc := 47) hx hb d_QC_receiveProposal_47 rfl (lv_at hl 1 rfl) ?_
    refine lv_aload_n (pc := 48) hx hb d_QC_receiveProposal_48 rfl (lv_at hl 2 rfl) ?_
    refine lv_iload_n (pc := 49) hx hb d_QC_receiveProposal_49 rfl (lv_at hl 4 rfl) ?_
    refine lv_iload (pc := 50) hx hb d_QC_receiveProposal_50 (lv_at hl 0 rfl) ?_
    have o12 := hk.1
    have hk := hk.2
    obtain ⟨r13, er13⟩ : ∃ z : Int32, z = f_QC_mayVoteFor i1 a3 r2 S11 := ⟨_, rfl⟩
    have hk := lt_p er13 hk
    have hr := lt_e er13 hr
    refine z_goI (pc := 52) hW hA (congrArg (fun q => (q, S11)) er13) (z_runV hF hK hW (c_QC_mayVoteFor l D X ad ca i1 a3 r2 h1 S11 o12 _) cd_QC_mayVoteFor gw_726 tq1 rfl rfl ⟨Nat.le_of_ble_eq_true rfl, Nat.le_of_ble_eq_true rfl⟩ ⟨Nat.zero_le _, Nat.zero_le _⟩ rfl rfl hl.1 (Nat.le_of_ble_eq_true rfl) d_QC_receiveProposal_52) (fun H locs (hW : Wd D clQ A s.heap (zw X ad TQ (cfQ ad ca) S11) H locs) => ?_)
    refine lv_if_eq (pc := 55) (tgt := 66) hx hb d_QC_receiveProposal_55 (by decide) (fun c14 => ?_) (fun c14 => ?_)
    · have hk := hk.1 c14
      have hr := (if_pos c14).symm.trans hr
      exact z_vret hy hW hr.symm d_QC_receiveProposal_66
    · have hk := hk.2 c14
      have hr := (if_neg c14).symm.trans hr
      refine lv_aload_n (pc := 58) hx hb d_QC_receiveProposal_58 rfl (lv_at hl 1 rfl) ?_
      refine lv_aload_n (pc := 59) hx hb d_QC_receiveProposal_59 rfl (lv_at hl 2 rfl) ?_
      refine lv_iload_n (pc := 60) hx hb d_QC_receiveProposal_60 rfl (lv_at hl 4 rfl) ?_
      refine lv_iload (pc := 61) hx hb d_QC_receiveProposal_61 (lv_at hl 0 rfl) ?_
      have o15 := hk.1
      have hk := hk.2
      obtain ⟨S17, eS17⟩ : ∃ z : St, z = f_QC_voteFor i1 a3 r2 S11 := ⟨_, rfl⟩
      have hr := lt_e eS17 hr
      refine z_goV (pc := 63) hW hA eS17 (z_runV hF hK hW (c_QC_voteFor l D X ad ca i1 a3 r2 h1 S11 o15 _) cd_QC_voteFor gw_735 tq1 rfl rfl ⟨Nat.le_of_ble_eq_true rfl, Nat.le_of_ble_eq_true rfl⟩ ⟨Nat.zero_le _, Nat.zero_le _⟩ rfl rfl hl.1 (Nat.le_of_ble_eq_true rfl) d_QC_receiveProposal_63) (fun H locs (hW : Wd D clQ A s.heap (zw X ad TQ (cfQ ad ca) S17) H locs) => ?_)
      exact z_vret hy hW hr.symm d_QC_receiveProposal_66
  · have hk := hk.1 c5
    have hr := (if_pos c5).symm.trans hr
    refine lv_aload_n (pc := 22) hx hb d_QC_receiveProposal_22 rfl (lv_at hl 1 rfl) ?_
    refine lv_aload_n (pc := 23) hx hb d_QC_receiveProposal_23 rfl (lv_at hl 2 rfl) ?_
    refine lv_iconst (pc := 24) (v := 4) hx hb d_QC_receiveProposal_24 (by decide) ?_
    refine lv_iload (pc := 25) hx hb d_QC_receiveProposal_25 (lv_at hl 0 rfl) ?_
    refine lv_iload_n (pc := 27) hx hb d_QC_receiveProposal_27 rfl (lv_at hl 3 rfl) ?_
    have o18 := hk.1
    have hk := hk.2
    obtain ⟨S20, eS20⟩ : ∃ z : St, z = f_QC_sendUnsigned i1 (4 : Int32) r2 a2 S := ⟨_, rfl⟩
    have hr := lt_e eS20 hr
    refine z_goV (pc := 28) hW hA eS20 (z_runV hF hK hW (c_QC_sendUnsigned l D X ad ca i1 (4 : Int32) r2 a2 h1 S o18 _) cd_QC_sendUnsigned gw_682 tq1 rfl rfl ⟨Nat.le_of_ble_eq_true rfl, Nat.le_of_ble_eq_true rfl⟩ ⟨Nat.zero_le _, Nat.zero_le _⟩ rfl rfl hl.1 (Nat.le_of_ble_eq_true rfl) d_QC_receiveProposal_28) (fun H locs (hW : Wd D clQ A s.heap (zw X ad TQ (cfQ ad ca) S20) H locs) => ?_)
    exact z_vret hy hW hr.symm d_QC_receiveProposal_31
end
section
theorem d_Integer_bitCount_0 : decode b_Integer_bitCount 0 = .ok (.iload_n 0, 1) := by decide +kernel
theorem d_Integer_bitCount_1 : decode b_Integer_bitCount 1 = .ok (.iload_n 0, 1) := by decide +kernel
theorem d_Integer_bitCount_2 : decode b_Integer_bitCount 2 = .ok (.iconst 1, 1) := by decide +kernel
theorem d_Integer_bitCount_3 : decode b_Integer_bitCount 3 = .ok (.iushr, 1) := by decide +kernel
theorem d_Integer_bitCount_4 : decode b_Integer_bitCount 4 = .ok (.ldc_w 265, 3) := by decide +kernel
theorem d_Integer_bitCount_7 : decode b_Integer_bitCount 7 = .ok (.iand, 1) := by decide +kernel
theorem d_Integer_bitCount_8 : decode b_Integer_bitCount 8 = .ok (.isub, 1) := by decide +kernel
theorem d_Integer_bitCount_9 : decode b_Integer_bitCount 9 = .ok (.istore_n 0, 1) := by decide +kernel
theorem d_Integer_bitCount_10 : decode b_Integer_bitCount 10 = .ok (.iload_n 0, 1) := by decide +kernel
theorem d_Integer_bitCount_11 : decode b_Integer_bitCount 11 = .ok (.ldc_w 266, 3) := by decide +kernel
theorem d_Integer_bitCount_14 : decode b_Integer_bitCount 14 = .ok (.iand, 1) := by decide +kernel
theorem d_Integer_bitCount_15 : decode b_Integer_bitCount 15 = .ok (.iload_n 0, 1) := by decide +kernel
theorem d_Integer_bitCount_16 : decode b_Integer_bitCount 16 = .ok (.iconst 2, 1) := by decide +kernel
theorem d_Integer_bitCount_17 : decode b_Integer_bitCount 17 = .ok (.iushr, 1) := by decide +kernel
theorem d_Integer_bitCount_18 : decode b_Integer_bitCount 18 = .ok (.ldc_w 266, 3) := by decide +kernel
theorem d_Integer_bitCount_21 : decode b_Integer_bitCount 21 = .ok (.iand, 1) := by decide +kernel
theorem d_Integer_bitCount_22 : decode b_Integer_bitCount 22 = .ok (.iadd, 1) := by decide +kernel
theorem d_Integer_bitCount_23 : decode b_Integer_bitCount 23 = .ok (.istore_n 0, 1) := by decide +kernel
theorem d_Integer_bitCount_24 : decode b_Integer_bitCount 24 = .ok (.iload_n 0, 1) := by decide +kernel
theorem d_Integer_bitCount_25 : decode b_Integer_bitCount 25 = .ok (.iload_n 0, 1) := by decide +kernel
theorem d_Integer_bitCount_26 : decode b_Integer_bitCount 26 = .ok (.iconst 4, 1) := by decide +kernel
theorem d_Integer_bitCount_27 : decode b_Integer_bitCount 27 = .ok (.iushr, 1) := by decide +kernel
theorem d_Integer_bitCount_28 : decode b_Integer_bitCount 28 = .ok (.iadd, 1) := by decide +kernel
theorem d_Integer_bitCount_29 : decode b_Integer_bitCount 29 = .ok (.ldc_w 267, 3) := by decide +kernel
theorem d_Integer_bitCount_32 : decode b_Integer_bitCount 32 = .ok (.iand, 1) := by decide +kernel
theorem d_Integer_bitCount_33 : decode b_Integer_bitCount 33 = .ok (.istore_n 0, 1) := by decide +kernel
theorem d_Integer_bitCount_34 : decode b_Integer_bitCount 34 = .ok (.iload_n 0, 1) := by decide +kernel
theorem d_Integer_bitCount_35 : decode b_Integer_bitCount 35 = .ok (.iload_n 0, 1) := by decide +kernel
theorem d_Integer_bitCount_36 : decode b_Integer_bitCount 36 = .ok (.bipush 8, 2) := by decide +kernel
theorem d_Integer_bitCount_38 : decode b_Integer_bitCount 38 = .ok (.iushr, 1) := by decide +kernel
theorem d_Integer_bitCount_39 : decode b_Integer_bitCount 39 = .ok (.iadd, 1) := by decide +kernel
theorem d_Integer_bitCount_40 : decode b_Integer_bitCount 40 = .ok (.istore_n 0, 1) := by decide +kernel
theorem d_Integer_bitCount_41 : decode b_Integer_bitCount 41 = .ok (.iload_n 0, 1) := by decide +kernel
theorem d_Integer_bitCount_42 : decode b_Integer_bitCount 42 = .ok (.iload_n 0, 1) := by decide +kernel
theorem d_Integer_bitCount_43 : decode b_Integer_bitCount 43 = .ok (.bipush 16, 2) := by decide +kernel
theorem d_Integer_bitCount_45 : decode b_Integer_bitCount 45 = .ok (.iushr, 1) := by decide +kernel
theorem d_Integer_bitCount_46 : decode b_Integer_bitCount 46 = .ok (.iadd, 1) := by decide +kernel
theorem d_Integer_bitCount_47 : decode b_Integer_bitCount 47 = .ok (.istore_n 0, 1) := by decide +kernel
theorem d_Integer_bitCount_48 : decode b_Integer_bitCount 48 = .ok (.iload_n 0, 1) := by decide +kernel
theorem d_Integer_bitCount_49 : decode b_Integer_bitCount 49 = .ok (.bipush 63, 2) := by decide +kernel
theorem d_Integer_bitCount_51 : decode b_Integer_bitCount 51 = .ok (.iand, 1) := by decide +kernel
theorem d_Integer_bitCount_52 : decode b_Integer_bitCount 52 = .ok (.ireturn, 1) := by decide +kernel
def f_Integer_bitCount (a0 : Int32) (S : St) : Int32 :=
  (((((((a0 - (((a0.toUInt32 >>> ((1 : Int32).toUInt32 &&& Int32.toUInt32 31)).toInt32) &&& (1431655765 : Int32))) &&& (858993459 : Int32)) + ((((a0 - (((a0.toUInt32 >>> ((1 : Int32).toUInt32 &&& Int32.toUInt32 31)).toInt32) &&& (1431655765 : Int32))).toUInt32 >>> ((2 : Int32).toUInt32 &&& Int32.toUInt32 31)).toInt32) &&& (858993459 : Int32))) + (((((a0 - (((a0.toUInt32 >>> ((1 : Int32).toUInt32 &&& Int32.toUInt32 31)).toInt32) &&& (1431655765 : Int32))) &&& (858993459 : Int32)) + ((((a0 - (((a0.toUInt32 >>> ((1 : Int32).toUInt32 &&& Int32.toUInt32 31)).toInt32) &&& (1431655765 : Int32))).toUInt32 >>> ((2 : Int32).toUInt32 &&& Int32.toUInt32 31)).toInt32) &&& (858993459 : Int32))).toUInt32 >>> ((4 : Int32).toUInt32 &&& Int32.toUInt32 31)).toInt32)) &&& (252645135 : Int32)) + (((((((a0 - (((a0.toUInt32 >>> ((1 : Int32).toUInt32 &&& Int32.toUInt32 31)).toInt32) &&& (1431655765 : Int32))) &&& (858993459 : Int32)) + ((((a0 - (((a0.toUInt32 >>> ((1 : Int32).toUInt32 &&& Int32.toUInt32 31)).toInt32) &&& (1431655765 : Int32))).toUInt32 >>> ((2 : Int32).toUInt32 &&& Int32.toUInt32 31)).toInt32) &&& (858993459 : Int32))) + (((((a0 - (((a0.toUInt32 >>> ((1 : Int32).toUInt32 &&& Int32.toUInt32 31)).toInt32) &&& (1431655765 : Int32))) &&& (858993459 : Int32)) + ((((a0 - (((a0.toUInt32 >>> ((1 : Int32).toUInt32 &&& Int32.toUInt32 31)).toInt32) &&& (1431655765 : Int32))).toUInt32 >>> ((2 : Int32).toUInt32 &&& Int32.toUInt32 31)).toInt32) &&& (858993459 : Int32))).toUInt32 >>> ((4 : Int32).toUInt32 &&& Int32.toUInt32 31)).toInt32)) &&& (252645135 : Int32)).toUInt32 >>> ((8 : Int32).toUInt32 &&& Int32.toUInt32 31)).toInt32)) + ((((((((a0 - (((a0.toUInt32 >>> ((1 : Int32).toUInt32 &&& Int32.toUInt32 31)).toInt32) &&& (1431655765 : Int32))) &&& (858993459 : Int32)) + ((((a0 - (((a0.toUInt32 >>> ((1 : Int32).toUInt32 &&& Int32.toUInt32 31)).toInt32) &&& (1431655765 : Int32))).toUInt32 >>> ((2 : Int32).toUInt32 &&& Int32.toUInt32 31)).toInt32) &&& (858993459 : Int32))) + (((((a0 - (((a0.toUInt32 >>> ((1 : Int32).toUInt32 &&& Int32.toUInt32 31)).toInt32) &&& (1431655765 : Int32))) &&& (858993459 : Int32)) + ((((a0 - (((a0.toUInt32 >>> ((1 : Int32).toUInt32 &&& Int32.toUInt32 31)).toInt32) &&& (1431655765 : Int32))).toUInt32 >>> ((2 : Int32).toUInt32 &&& Int32.toUInt32 31)).toInt32) &&& (858993459 : Int32))).toUInt32 >>> ((4 : Int32).toUInt32 &&& Int32.toUInt32 31)).toInt32)) &&& (252645135 : Int32)) + (((((((a0 - (((a0.toUInt32 >>> ((1 : Int32).toUInt32 &&& Int32.toUInt32 31)).toInt32) &&& (1431655765 : Int32))) &&& (858993459 : Int32)) + ((((a0 - (((a0.toUInt32 >>> ((1 : Int32).toUInt32 &&& Int32.toUInt32 31)).toInt32) &&& (1431655765 : Int32))).toUInt32 >>> ((2 : Int32).toUInt32 &&& Int32.toUInt32 31)).toInt32) &&& (858993459 : Int32))) + (((((a0 - (((a0.toUInt32 >>> ((1 : Int32).toUInt32 &&& Int32.toUInt32 31)).toInt32) &&& (1431655765 : Int32))) &&& (858993459 : Int32)) + ((((a0 - (((a0.toUInt32 >>> ((1 : Int32).toUInt32 &&& Int32.toUInt32 31)).toInt32) &&& (1431655765 : Int32))).toUInt32 >>> ((2 : Int32).toUInt32 &&& Int32.toUInt32 31)).toInt32) &&& (858993459 : Int32))).toUInt32 >>> ((4 : Int32).toUInt32 &&& Int32.toUInt32 31)).toInt32)) &&& (252645135 : Int32)).toUInt32 >>> ((8 : Int32).toUInt32 &&& Int32.toUInt32 31)).toInt32)).toUInt32 >>> ((16 : Int32).toUInt32 &&& Int32.toUInt32 31)).toInt32)) &&& (63 : Int32)
set_option maxHeartbeats 4000000 in
set_option maxRecDepth 100000 in
theorem c_Integer_bitCount (l : Launch) (D : va_G) (X : va_W) (ad : N3 → Nat) (ca : Nat → ClassId) (a0 : Int32)  (S : St) : cI l GG D clQ (tysQ ca) nwQ X ad TQ (cfQ ad ca) y_Integer_bitCount b_Integer_bitCount 1 .int 0 0 [.int a0] S ((f_Integer_bitCount a0 S), S) := by
  generalize hr : f_Integer_bitCount a0 S = res
  refine zI_of pn_Integer (Nat.le_of_ble_eq_true rfl) (fun p e s m below meth c A ls hy hW hA hl => ?_)
  have hF := hy.1
  have hx := hF.1
  have hb := hF.2.1
  have hK := hy.2.2.2
  have hl : lv_has ls 1 [(0, .int a0)] := hl
  refine lv_iload_n (pc := 0) hx hb d_Integer_bitCount_0 rfl (lv_at hl 0 rfl) ?_
  refine lv_iload_n (pc := 1) hx hb d_Integer_bitCount_1 rfl (lv_at hl 0 rfl) ?_
  refine lv_iconst (pc := 2) (v := 1) hx hb d_Integer_bitCount_2 (by decide) ?_
  refine lv_iushr (pc := 3) hx hb d_Integer_bitCount_3 rfl ?_
  refine lv_ldcw (pc := 4) hx hb hF.2.2.2.1 (hF.2.2.2.2 _ gw_754) d_Integer_bitCount_4 ?_
  refine lv_iand (pc := 7) hx hb d_Integer_bitCount_7 ?_
  refine lv_isub (pc := 8) hx hb d_Integer_bitCount_8 ?_
  refine lv_istore_n (pc := 9) (lv' := [(0, .int (a0 - (((a0.toUInt32 >>> ((1 : Int32).toUInt32 &&& Int32.toUInt32 31)).toInt32) &&& (1431655765 : Int32))))]) hx hb d_Integer_bitCount_9 rfl hl (by decide) rfl (fun ls hl => ?_)
  refine lv_iload_n (pc := 10) hx hb d_Integer_bitCount_10 rfl (lv_at hl 0 rfl) ?_
  refine lv_ldcw (pc := 11) hx hb hF.2.2.2.1 (hF.2.2.2.2 _ gw_755) d_Integer_bitCount_11 ?_
  refine lv_iand (pc := 14) hx hb d_Integer_bitCount_14 ?_
  refine lv_iload_n (pc := 15) hx hb d_Integer_bitCount_15 rfl (lv_at hl 0 rfl) ?_
  refine lv_iconst (pc := 16) (v := 2) hx hb d_Integer_bitCount_16 (by decide) ?_
  refine lv_iushr (pc := 17) hx hb d_Integer_bitCount_17 rfl ?_
  refine lv_ldcw (pc := 18) hx hb hF.2.2.2.1 (hF.2.2.2.2 _ gw_755) d_Integer_bitCount_18 ?_
  refine lv_iand (pc := 21) hx hb d_Integer_bitCount_21 ?_
  refine lv_iadd (pc := 22) hx hb d_Integer_bitCount_22 ?_
  refine lv_istore_n (pc := 23) (lv' := [(0, .int (((a0 - (((a0.toUInt32 >>> ((1 : Int32).toUInt32 &&& Int32.toUInt32 31)).toInt32) &&& (1431655765 : Int32))) &&& (858993459 : Int32)) + ((((a0 - (((a0.toUInt32 >>> ((1 : Int32).toUInt32 &&& Int32.toUInt32 31)).toInt32) &&& (1431655765 : Int32))).toUInt32 >>> ((2 : Int32).toUInt32 &&& Int32.toUInt32 31)).toInt32) &&& (858993459 : Int32))))]) hx hb d_Integer_bitCount_23 rfl hl (by decide) rfl (fun ls hl => ?_)
  refine lv_iload_n (pc := 24) hx hb d_Integer_bitCount_24 rfl (lv_at hl 0 rfl) ?_
  refine lv_iload_n (pc := 25) hx hb d_Integer_bitCount_25 rfl (lv_at hl 0 rfl) ?_
  refine lv_iconst (pc := 26) (v := 4) hx hb d_Integer_bitCount_26 (by decide) ?_
  refine lv_iushr (pc := 27) hx hb d_Integer_bitCount_27 rfl ?_
  refine lv_iadd (pc := 28) hx hb d_Integer_bitCount_28 ?_
  refine lv_ldcw (pc := 29) hx hb hF.2.2.2.1 (hF.2.2.2.2 _ gw_756) d_Integer_bitCount_29 ?_
  refine lv_iand (pc := 32) hx hb d_Integer_bitCount_32 ?_
  refine lv_istore_n (pc := 33) (lv' := [(0, .int (((((a0 - (((a0.toUInt32 >>> ((1 : Int32).toUInt32 &&& Int32.toUInt32 31)).toInt32) &&& (1431655765 : Int32))) &&& (858993459 : Int32)) + ((((a0 - (((a0.toUInt32 >>> ((1 : Int32).toUInt32 &&& Int32.toUInt32 31)).toInt32) &&& (1431655765 : Int32))).toUInt32 >>> ((2 : Int32).toUInt32 &&& Int32.toUInt32 31)).toInt32) &&& (858993459 : Int32))) + (((((a0 - (((a0.toUInt32 >>> ((1 : Int32).toUInt32 &&& Int32.toUInt32 31)).toInt32) &&& (1431655765 : Int32))) &&& (858993459 : Int32)) + ((((a0 - (((a0.toUInt32 >>> ((1 : Int32).toUInt32 &&& Int32.toUInt32 31)).toInt32) &&& (1431655765 : Int32))).toUInt32 >>> ((2 : Int32).toUInt32 &&& Int32.toUInt32 31)).toInt32) &&& (858993459 : Int32))).toUInt32 >>> ((4 : Int32).toUInt32 &&& Int32.toUInt32 31)).toInt32)) &&& (252645135 : Int32)))]) hx hb d_Integer_bitCount_33 rfl hl (by decide) rfl (fun ls hl => ?_)
  refine lv_iload_n (pc := 34) hx hb d_Integer_bitCount_34 rfl (lv_at hl 0 rfl) ?_
  refine lv_iload_n (pc := 35) hx hb d_Integer_bitCount_35 rfl (lv_at hl 0 rfl) ?_
  refine lv_bipush (pc := 36) (v := 8) hx hb d_Integer_bitCount_36 (by decide) ?_
  refine lv_iushr (pc := 38) hx hb d_Integer_bitCount_38 rfl ?_
  refine lv_iadd (pc := 39) hx hb d_Integer_bitCount_39 ?_
  refine lv_istore_n (pc := 40) (lv' := [(0, .int ((((((a0 - (((a0.toUInt32 >>> ((1 : Int32).toUInt32 &&& Int32.toUInt32 31)).toInt32) &&& (1431655765 : Int32))) &&& (858993459 : Int32)) + ((((a0 - (((a0.toUInt32 >>> ((1 : Int32).toUInt32 &&& Int32.toUInt32 31)).toInt32) &&& (1431655765 : Int32))).toUInt32 >>> ((2 : Int32).toUInt32 &&& Int32.toUInt32 31)).toInt32) &&& (858993459 : Int32))) + (((((a0 - (((a0.toUInt32 >>> ((1 : Int32).toUInt32 &&& Int32.toUInt32 31)).toInt32) &&& (1431655765 : Int32))) &&& (858993459 : Int32)) + ((((a0 - (((a0.toUInt32 >>> ((1 : Int32).toUInt32 &&& Int32.toUInt32 31)).toInt32) &&& (1431655765 : Int32))).toUInt32 >>> ((2 : Int32).toUInt32 &&& Int32.toUInt32 31)).toInt32) &&& (858993459 : Int32))).toUInt32 >>> ((4 : Int32).toUInt32 &&& Int32.toUInt32 31)).toInt32)) &&& (252645135 : Int32)) + (((((((a0 - (((a0.toUInt32 >>> ((1 : Int32).toUInt32 &&& Int32.toUInt32 31)).toInt32) &&& (1431655765 : Int32))) &&& (858993459 : Int32)) + ((((a0 - (((a0.toUInt32 >>> ((1 : Int32).toUInt32 &&& Int32.toUInt32 31)).toInt32) &&& (1431655765 : Int32))).toUInt32 >>> ((2 : Int32).toUInt32 &&& Int32.toUInt32 31)).toInt32) &&& (858993459 : Int32))) + (((((a0 - (((a0.toUInt32 >>> ((1 : Int32).toUInt32 &&& Int32.toUInt32 31)).toInt32) &&& (1431655765 : Int32))) &&& (858993459 : Int32)) + ((((a0 - (((a0.toUInt32 >>> ((1 : Int32).toUInt32 &&& Int32.toUInt32 31)).toInt32) &&& (1431655765 : Int32))).toUInt32 >>> ((2 : Int32).toUInt32 &&& Int32.toUInt32 31)).toInt32) &&& (858993459 : Int32))).toUInt32 >>> ((4 : Int32).toUInt32 &&& Int32.toUInt32 31)).toInt32)) &&& (252645135 : Int32)).toUInt32 >>> ((8 : Int32).toUInt32 &&& Int32.toUInt32 31)).toInt32)))]) hx hb d_Integer_bitCount_40 rfl hl (by decide) rfl (fun ls hl => ?_)
  refine lv_iload_n (pc := 41) hx hb d_Integer_bitCount_41 rfl (lv_at hl 0 rfl) ?_
  refine lv_iload_n (pc := 42) hx hb d_Integer_bitCount_42 rfl (lv_at hl 0 rfl) ?_
  refine lv_bipush (pc := 43) (v := 16) hx hb d_Integer_bitCount_43 (by decide) ?_
  refine lv_iushr (pc := 45) hx hb d_Integer_bitCount_45 rfl ?_
  refine lv_iadd (pc := 46) hx hb d_Integer_bitCount_46 ?_
  refine lv_istore_n (pc := 47) (lv' := [(0, .int (((((((a0 - (((a0.toUInt32 >>> ((1 : Int32).toUInt32 &&& Int32.toUInt32 31)).toInt32) &&& (1431655765 : Int32))) &&& (858993459 : Int32)) + ((((a0 - (((a0.toUInt32 >>> ((1 : Int32).toUInt32 &&& Int32.toUInt32 31)).toInt32) &&& (1431655765 : Int32))).toUInt32 >>> ((2 : Int32).toUInt32 &&& Int32.toUInt32 31)).toInt32) &&& (858993459 : Int32))) + (((((a0 - (((a0.toUInt32 >>> ((1 : Int32).toUInt32 &&& Int32.toUInt32 31)).toInt32) &&& (1431655765 : Int32))) &&& (858993459 : Int32)) + ((((a0 - (((a0.toUInt32 >>> ((1 : Int32).toUInt32 &&& Int32.toUInt32 31)).toInt32) &&& (1431655765 : Int32))).toUInt32 >>> ((2 : Int32).toUInt32 &&& Int32.toUInt32 31)).toInt32) &&& (858993459 : Int32))).toUInt32 >>> ((4 : Int32).toUInt32 &&& Int32.toUInt32 31)).toInt32)) &&& (252645135 : Int32)) + (((((((a0 - (((a0.toUInt32 >>> ((1 : Int32).toUInt32 &&& Int32.toUInt32 31)).toInt32) &&& (1431655765 : Int32))) &&& (858993459 : Int32)) + ((((a0 - (((a0.toUInt32 >>> ((1 : Int32).toUInt32 &&& Int32.toUInt32 31)).toInt32) &&& (1431655765 : Int32))).toUInt32 >>> ((2 : Int32).toUInt32 &&& Int32.toUInt32 31)).toInt32) &&& (858993459 : Int32))) + (((((a0 - (((a0.toUInt32 >>> ((1 : Int32).toUInt32 &&& Int32.toUInt32 31)).toInt32) &&& (1431655765 : Int32))) &&& (858993459 : Int32)) + ((((a0 - (((a0.toUInt32 >>> ((1 : Int32).toUInt32 &&& Int32.toUInt32 31)).toInt32) &&& (1431655765 : Int32))).toUInt32 >>> ((2 : Int32).toUInt32 &&& Int32.toUInt32 31)).toInt32) &&& (858993459 : Int32))).toUInt32 >>> ((4 : Int32).toUInt32 &&& Int32.toUInt32 31)).toInt32)) &&& (252645135 : Int32)).toUInt32 >>> ((8 : Int32).toUInt32 &&& Int32.toUInt32 31)).toInt32)) + ((((((((a0 - (((a0.toUInt32 >>> ((1 : Int32).toUInt32 &&& Int32.toUInt32 31)).toInt32) &&& (1431655765 : Int32))) &&& (858993459 : Int32)) + ((((a0 - (((a0.toUInt32 >>> ((1 : Int32).toUInt32 &&& Int32.toUInt32 31)).toInt32) &&& (1431655765 : Int32))).toUInt32 >>> ((2 : Int32).toUInt32 &&& Int32.toUInt32 31)).toInt32) &&& (858993459 : Int32))) + (((((a0 - (((a0.toUInt32 >>> ((1 : Int32).toUInt32 &&& Int32.toUInt32 31)).toInt32) &&& (1431655765 : Int32))) &&& (858993459 : Int32)) + ((((a0 - (((a0.toUInt32 >>> ((1 : Int32).toUInt32 &&& Int32.toUInt32 31)).toInt32) &&& (1431655765 : Int32))).toUInt32 >>> ((2 : Int32).toUInt32 &&& Int32.toUInt32 31)).toInt32) &&& (858993459 : Int32))).toUInt32 >>> ((4 : Int32).toUInt32 &&& Int32.toUInt32 31)).toInt32)) &&& (252645135 : Int32)) + (((((((a0 - (((a0.toUInt32 >>> ((1 : Int32).toUInt32 &&& Int32.toUInt32 31)).toInt32) &&& (1431655765 : Int32))) &&& (858993459 : Int32)) + ((((a0 - (((a0.toUInt32 >>> ((1 : Int32).toUInt32 &&& Int32.toUInt32 31)).toInt32) &&& (1431655765 : Int32))).toUInt32 >>> ((2 : Int32).toUInt32 &&& Int32.toUInt32 31)).toInt32) &&& (858993459 : Int32))) + (((((a0 - (((a0.toUInt32 >>> ((1 : Int32).toUInt32 &&& Int32.toUInt32 31)).toInt32) &&& (1431655765 : Int32))) &&& (858993459 : Int32)) + ((((a0 - (((a0.toUInt32 >>> ((1 : Int32).toUInt32 &&& Int32.toUInt32 31)).toInt32) &&& (1431655765 : Int32))).toUInt32 >>> ((2 : Int32).toUInt32 &&& Int32.toUInt32 31)).toInt32) &&& (858993459 : Int32))).toUInt32 >>> ((4 : Int32).toUInt32 &&& Int32.toUInt32 31)).toInt32)) &&& (252645135 : Int32)).toUInt32 >>> ((8 : Int32).toUInt32 &&& Int32.toUInt32 31)).toInt32)).toUInt32 >>> ((16 : Int32).toUInt32 &&& Int32.toUInt32 31)).toInt32)))]) hx hb d_Integer_bitCount_47 rfl hl (by decide) rfl (fun ls hl => ?_)
  refine lv_iload_n (pc := 48) hx hb d_Integer_bitCount_48 rfl (lv_at hl 0 rfl) ?_
  refine lv_bipush (pc := 49) (v := 63) hx hb d_Integer_bitCount_49 (by decide) ?_
  refine lv_iand (pc := 51) hx hb d_Integer_bitCount_51 ?_
  exact z_iret (v := (((((((a0 - (((a0.toUInt32 >>> ((1 : Int32).toUInt32 &&& Int32.toUInt32 31)).toInt32) &&& (1431655765 : Int32))) &&& (858993459 : Int32)) + ((((a0 - (((a0.toUInt32 >>> ((1 : Int32).toUInt32 &&& Int32.toUInt32 31)).toInt32) &&& (1431655765 : Int32))).toUInt32 >>> ((2 : Int32).toUInt32 &&& Int32.toUInt32 31)).toInt32) &&& (858993459 : Int32))) + (((((a0 - (((a0.toUInt32 >>> ((1 : Int32).toUInt32 &&& Int32.toUInt32 31)).toInt32) &&& (1431655765 : Int32))) &&& (858993459 : Int32)) + ((((a0 - (((a0.toUInt32 >>> ((1 : Int32).toUInt32 &&& Int32.toUInt32 31)).toInt32) &&& (1431655765 : Int32))).toUInt32 >>> ((2 : Int32).toUInt32 &&& Int32.toUInt32 31)).toInt32) &&& (858993459 : Int32))).toUInt32 >>> ((4 : Int32).toUInt32 &&& Int32.toUInt32 31)).toInt32)) &&& (252645135 : Int32)) + (((((((a0 - (((a0.toUInt32 >>> ((1 : Int32).toUInt32 &&& Int32.toUInt32 31)).toInt32) &&& (1431655765 : Int32))) &&& (858993459 : Int32)) + ((((a0 - (((a0.toUInt32 >>> ((1 : Int32).toUInt32 &&& Int32.toUInt32 31)).toInt32) &&& (1431655765 : Int32))).toUInt32 >>> ((2 : Int32).toUInt32 &&& Int32.toUInt32 31)).toInt32) &&& (858993459 : Int32))) + (((((a0 - (((a0.toUInt32 >>> ((1 : Int32).toUInt32 &&& Int32.toUInt32 31)).toInt32) &&& (1431655765 : Int32))) &&& (858993459 : Int32)) + ((((a0 - (((a0.toUInt32 >>> ((1 : Int32).toUInt32 &&& Int32.toUInt32 31)).toInt32) &&& (1431655765 : Int32))).toUInt32 >>> ((2 : Int32).toUInt32 &&& Int32.toUInt32 31)).toInt32) &&& (858993459 : Int32))).toUInt32 >>> ((4 : Int32).toUInt32 &&& Int32.toUInt32 31)).toInt32)) &&& (252645135 : Int32)).toUInt32 >>> ((8 : Int32).toUInt32 &&& Int32.toUInt32 31)).toInt32)) + ((((((((a0 - (((a0.toUInt32 >>> ((1 : Int32).toUInt32 &&& Int32.toUInt32 31)).toInt32) &&& (1431655765 : Int32))) &&& (858993459 : Int32)) + ((((a0 - (((a0.toUInt32 >>> ((1 : Int32).toUInt32 &&& Int32.toUInt32 31)).toInt32) &&& (1431655765 : Int32))).toUInt32 >>> ((2 : Int32).toUInt32 &&& Int32.toUInt32 31)).toInt32) &&& (858993459 : Int32))) + (((((a0 - (((a0.toUInt32 >>> ((1 : Int32).toUInt32 &&& Int32.toUInt32 31)).toInt32) &&& (1431655765 : Int32))) &&& (858993459 : Int32)) + ((((a0 - (((a0.toUInt32 >>> ((1 : Int32).toUInt32 &&& Int32.toUInt32 31)).toInt32) &&& (1431655765 : Int32))).toUInt32 >>> ((2 : Int32).toUInt32 &&& Int32.toUInt32 31)).toInt32) &&& (858993459 : Int32))).toUInt32 >>> ((4 : Int32).toUInt32 &&& Int32.toUInt32 31)).toInt32)) &&& (252645135 : Int32)) + (((((((a0 - (((a0.toUInt32 >>> ((1 : Int32).toUInt32 &&& Int32.toUInt32 31)).toInt32) &&& (1431655765 : Int32))) &&& (858993459 : Int32)) + ((((a0 - (((a0.toUInt32 >>> ((1 : Int32).toUInt32 &&& Int32.toUInt32 31)).toInt32) &&& (1431655765 : Int32))).toUInt32 >>> ((2 : Int32).toUInt32 &&& Int32.toUInt32 31)).toInt32) &&& (858993459 : Int32))) + (((((a0 - (((a0.toUInt32 >>> ((1 : Int32).toUInt32 &&& Int32.toUInt32 31)).toInt32) &&& (1431655765 : Int32))) &&& (858993459 : Int32)) + ((((a0 - (((a0.toUInt32 >>> ((1 : Int32).toUInt32 &&& Int32.toUInt32 31)).toInt32) &&& (1431655765 : Int32))).toUInt32 >>> ((2 : Int32).toUInt32 &&& Int32.toUInt32 31)).toInt32) &&& (858993459 : Int32))).toUInt32 >>> ((4 : Int32).toUInt32 &&& Int32.toUInt32 31)).toInt32)) &&& (252645135 : Int32)).toUInt32 >>> ((8 : Int32).toUInt32 &&& Int32.toUInt32 31)).toInt32)).toUInt32 >>> ((16 : Int32).toUInt32 &&& Int32.toUInt32 31)).toInt32)) &&& (63 : Int32)) hy hW (congrArg (fun z => (z, S)) hr.symm) d_Integer_bitCount_52
theorem d_Tally_keep_0 : decode b_Tally_keep 0 = .ok (.iload_n 1, 1) := by decide +kernel
theorem d_Tally_keep_1 : decode b_Tally_keep 1 = .ok (.ifCond .lt 12, 3) := by decide +kernel
theorem d_Tally_keep_4 : decode b_Tally_keep 4 = .ok (.iload_n 1, 1) := by decide +kernel
theorem d_Tally_keep_5 : decode b_Tally_keep 5 = .ok (.aload_n 0, 1) := by decide +kernel
theorem d_Tally_keep_6 : decode b_Tally_keep 6 = .ok (.getfield 7, 3) := by decide +kernel
theorem d_Tally_keep_9 : decode b_Tally_keep 9 = .ok (.arraylength, 1) := by decide +kernel
theorem d_Tally_keep_10 : decode b_Tally_keep 10 = .ok (.if_icmp .lt 5, 3) := by decide +kernel
theorem d_Tally_keep_13 : decode b_Tally_keep 13 = .ok (.iconst 0, 1) := by decide +kernel
theorem d_Tally_keep_14 : decode b_Tally_keep 14 = .ok (.ireturn, 1) := by decide +kernel
theorem d_Tally_keep_15 : decode b_Tally_keep 15 = .ok (.aload_n 0, 1) := by decide +kernel
theorem d_Tally_keep_16 : decode b_Tally_keep 16 = .ok (.getfield 7, 3) := by decide +kernel
theorem d_Tally_keep_19 : decode b_Tally_keep 19 = .ok (.iload_n 1, 1) := by decide +kernel
theorem d_Tally_keep_20 : decode b_Tally_keep 20 = .ok (.iaload, 1) := by decide +kernel
theorem d_Tally_keep_21 : decode b_Tally_keep 21 = .ok (.istore_n 3, 1) := by decide +kernel
theorem d_Tally_keep_22 : decode b_Tally_keep 22 = .ok (.aload_n 0, 1) := by decide +kernel
theorem d_Tally_keep_23 : decode b_Tally_keep 23 = .ok (.getfield 7, 3) := by decide +kernel
theorem d_Tally_keep_26 : decode b_Tally_keep 26 = .ok (.iload_n 1, 1) := by decide +kernel
theorem d_Tally_keep_27 : decode b_Tally_keep 27 = .ok (.iload_n 3, 1) := by decide +kernel
theorem d_Tally_keep_28 : decode b_Tally_keep 28 = .ok (.iconst 1, 1) := by decide +kernel
theorem d_Tally_keep_29 : decode b_Tally_keep 29 = .ok (.iload_n 2, 1) := by decide +kernel
theorem d_Tally_keep_30 : decode b_Tally_keep 30 = .ok (.ishl, 1) := by decide +kernel
theorem d_Tally_keep_31 : decode b_Tally_keep 31 = .ok (.ior, 1) := by decide +kernel
theorem d_Tally_keep_32 : decode b_Tally_keep 32 = .ok (.iastore, 1) := by decide +kernel
theorem d_Tally_keep_33 : decode b_Tally_keep 33 = .ok (.aload_n 0, 1) := by decide +kernel
theorem d_Tally_keep_34 : decode b_Tally_keep 34 = .ok (.getfield 7, 3) := by decide +kernel
theorem d_Tally_keep_37 : decode b_Tally_keep 37 = .ok (.iload_n 1, 1) := by decide +kernel
theorem d_Tally_keep_38 : decode b_Tally_keep 38 = .ok (.iaload, 1) := by decide +kernel
theorem d_Tally_keep_39 : decode b_Tally_keep 39 = .ok (.iload_n 3, 1) := by decide +kernel
theorem d_Tally_keep_40 : decode b_Tally_keep 40 = .ok (.if_icmp .ne 7, 3) := by decide +kernel
theorem d_Tally_keep_43 : decode b_Tally_keep 43 = .ok (.iconst 0, 1) := by decide +kernel
theorem d_Tally_keep_44 : decode b_Tally_keep 44 = .ok (.goto 12, 3) := by decide +kernel
theorem d_Tally_keep_47 : decode b_Tally_keep 47 = .ok (.aload_n 0, 1) := by decide +kernel
theorem d_Tally_keep_48 : decode b_Tally_keep 48 = .ok (.getfield 7, 3) := by decide +kernel
theorem d_Tally_keep_51 : decode b_Tally_keep 51 = .ok (.iload_n 1, 1) := by decide +kernel
theorem d_Tally_keep_52 : decode b_Tally_keep 52 = .ok (.iaload, 1) := by decide +kernel
theorem d_Tally_keep_53 : decode b_Tally_keep 53 = .ok (.invokestatic 13, 3) := by decide +kernel
theorem d_Tally_keep_56 : decode b_Tally_keep 56 = .ok (.ireturn, 1) := by decide +kernel
def f_Tally_keep (i0 : Nat) (j0 : Nat) (a1 : Int32) (a2 : Int32) (S : St) : Int32 × St :=
  if a1 < 0 then
    ((0 : Int32), S)
  else
    if a1 < (Int32.ofNat (tlen j0)) then
      lt (si S 17 i0 j0 (a1.toNatClampNeg) ((S.1 17 i0 j0 a1.toNatClampNeg) ||| ((1 : Int32) <<< (a2 &&& 31)))) fun (S5 : St) =>
      if (S5.1 17 i0 j0 a1.toNatClampNeg) = (S.1 17 i0 j0 a1.toNatClampNeg) then
        ((0 : Int32), S5)
      else
        lt (f_Integer_bitCount (S5.1 17 i0 j0 a1.toNatClampNeg) S5) fun (r9 : Int32) =>
        (r9, S5)
    else
      ((0 : Int32), S)
def ok_Tally_keep (i0 : Nat) (j0 : Nat) (a1 : Int32) (a2 : Int32) (S : St) : Prop :=
  (a1 < 0 → (
    True)) ∧ (¬ (a1 < 0) → (
    (a1 < (Int32.ofNat (tlen j0)) → (
      (vp_in a1 (tlen j0)) ∧ (
        (vp_in a1 (tlen j0)) ∧ (
          lt (si S 17 i0 j0 (a1.toNatClampNeg) ((S.1 17 i0 j0 a1.toNatClampNeg) ||| ((1 : Int32) <<< (a2 &&& 31)))) fun (S5 : St) =>
          (vp_in a1 (tlen j0)) ∧ (
            ((S5.1 17 i0 j0 a1.toNatClampNeg) = (S.1 17 i0 j0 a1.toNatClampNeg) → (
              True)) ∧ (¬ ((S5.1 17 i0 j0 a1.toNatClampNeg) = (S.1 17 i0 j0 a1.toNatClampNeg)) → (
              (vp_in a1 (tlen j0)) ∧ (
                True)))))))) ∧ (¬ (a1 < (Int32.ofNat (tlen j0))) → (
      True))))
set_option maxHeartbeats 4000000 in
set_option maxRecDepth 100000 in
theorem c_Tally_keep (l : Launch) (D : va_G) (X : va_W) (ad : N3 → Nat) (ca : Nat → ClassId) (i0 : Nat) (j0 : Nat) (a1 : Int32) (a2 : Int32) (h0 : inT i0 j0) (S : St) (hk : ok_Tally_keep i0 j0 a1 a2 S) : cI l GG D clQ (tysQ ca) nwQ X ad TQ (cfQ ad ca) y_Tally_keep b_Tally_keep 4 .int 1 20 [.ref (ad (16, i0, j0)), .int a1, .int a2] S (f_Tally_keep i0 j0 a1 a2 S) := by
  generalize hr : f_Tally_keep i0 j0 a1 a2 S = res
  refine zI_of pn_Tally (Nat.le_of_ble_eq_true rfl) (fun p e s m below meth c A ls hy hW hA hl => ?_)
  have hF := hy.1
  have hx := hF.1
  have hb := hF.2.1
  have hK := hy.2.2.2
  have hl : lv_has ls 4 [(0, .ref (ad (16, i0, j0))), (1, .int a1), (2, .int a2)] := hl
  refine lv_iload_n (pc := 0) hx hb d_Tally_keep_0 rfl (lv_at hl 1 rfl) ?_
  refine lv_if_lt (pc := 1) (tgt := 13) hx hb d_Tally_keep_1 (by decide) (fun c1 => ?_) (fun c1 => ?_)
  · have hk := hk.1 c1
    have hr := (if_pos c1).symm.trans hr
    refine lv_iconst (pc := 13) (v := 0) hx hb d_Tally_keep_13 (by decide) ?_
    exact z_iret (v := (0 : Int32)) hy hW hr.symm d_Tally_keep_14
  · have hk := hk.2 c1
    have hr := (if_neg c1).symm.trans hr
    refine lv_iload_n (pc := 4) hx hb d_Tally_keep_4 rfl (lv_at hl 1 rfl) ?_
    refine lv_aload_n (pc := 5) hx hb d_Tally_keep_5 rfl (lv_at hl 0 rfl) ?_
    refine z_get (pc := 6) (v := .ref (ad (17, i0, j0))) hF hK.1 hW (tq16 h0) rfl rfl in_Tally 0 (by decide) gw_194 rfl rfl d_Tally_keep_6 ?_
    refine z_alen (pc := 9) (v := Int32.ofNat (tlen j0)) hF hK.1 hW (tq17 h0) 0 rfl rfl rfl d_Tally_keep_9 ?_
    refine lv_icmp_lt (pc := 10) (tgt := 15) hx hb d_Tally_keep_10 (by decide) (fun c2 => ?_) (fun c2 => ?_)
    · have hk := hk.1 c2
      have hr := (if_pos c2).symm.trans hr
      refine lv_aload_n (pc := 15) hx hb d_Tally_keep_15 rfl (lv_at hl 0 rfl) ?_
      refine z_get (pc := 16) (v := .ref (ad (17, i0, j0))) hF hK.1 hW (tq16 h0) rfl rfl in_Tally 0 (by decide) gw_194 rfl rfl d_Tally_keep_16 ?_
      refine lv_iload_n (pc := 19) hx hb d_Tally_keep_19 rfl (lv_at hl 1 rfl) ?_
      have b3 := hk.1
      have hk := hk.2
      refine z_iald (pc := 20) (v := S.1 17 i0 j0 a1.toNatClampNeg) hF hK.1 hW (tq17 h0) 0 rfl rfl b3 rfl d_Tally_keep_20 ?_
      refine lv_istore_n (pc := 21) (lv' := [(3, .int (S.1 17 i0 j0 a1.toNatClampNeg)), (0, .ref (ad (16, i0, j0))), (1, .int a1), (2, .int a2)]) hx hb d_Tally_keep_21 rfl hl (by decide) rfl (fun ls hl => ?_)
      refine lv_aload_n (pc := 22) hx hb d_Tally_keep_22 rfl (lv_at hl 1 rfl) ?_
      refine z_get (pc := 23) (v := .ref (ad (17, i0, j0))) hF hK.1 hW (tq16 h0) rfl rfl in_Tally 0 (by decide) gw_194 rfl rfl d_Tally_keep_23 ?_
      refine lv_iload_n (pc := 26) hx hb d_Tally_keep_26 rfl (lv_at hl 2 rfl) ?_
      refine lv_iload_n (pc := 27) hx hb d_Tally_keep_27 rfl (lv_at hl 0 rfl) ?_
      refine lv_iconst (pc := 28) (v := 1) hx hb d_Tally_keep_28 (by decide) ?_
      refine lv_iload_n (pc := 29) hx hb d_Tally_keep_29 rfl (lv_at hl 3 rfl) ?_
      refine lv_ishl (pc := 30) hx hb d_Tally_keep_30 ?_
      refine lv_ior (pc := 31) hx hb d_Tally_keep_31 ?_
      have b4 := hk.1
      have hk := hk.2
      obtain ⟨S5, eS5⟩ : ∃ z : St, z = si S 17 i0 j0 (a1.toNatClampNeg) ((S.1 17 i0 j0 a1.toNatClampNeg) ||| ((1 : Int32) <<< (a2 &&& 31))) := ⟨_, rfl⟩
      have hk := lt_p eS5 hk
      have hr := lt_e eS5 hr
      refine z_iast (pc := 32) (S' := S5) hF hK.1 hW (tq17 h0) 0 rfl rfl b4 (zs_si eS5 rfl) (zs_sio eS5) d_Tally_keep_32 (fun H locs (hW : Wd D clQ A s.heap (zw X ad TQ (cfQ ad ca) S5) H locs) => ?_)
      refine lv_aload_n (pc := 33) hx hb d_Tally_keep_33 rfl (lv_at hl 1 rfl) ?_
      refine z_get (pc := 34) (v := .ref (ad (17, i0, j0))) hF hK.1 hW (tq16 h0) rfl rfl in_Tally 0 (by decide) gw_194 rfl rfl d_Tally_keep_34 ?_
      refine lv_iload_n (pc := 37) hx hb d_Tally_keep_37 rfl (lv_at hl 2 rfl) ?_
      have b6 := hk.1
      have hk := hk.2
      refine z_iald (pc := 38) (v := S5.1 17 i0 j0 a1.toNatClampNeg) hF hK.1 hW (tq17 h0) 0 rfl rfl b6 rfl d_Tally_keep_38 ?_
      refine lv_iload_n (pc := 39) hx hb d_Tally_keep_39 rfl (lv_at hl 0 rfl) ?_
      refine lv_icmp_ne (pc := 40) (tgt := 47) hx hb d_Tally_keep_40 (by decide) (fun c7 => ?_) (fun c7 => ?_)
      · have hk := hk.2 c7
        have hr := (if_neg c7).symm.trans hr
        refine lv_aload_n (pc := 47) hx hb d_Tally_keep_47 rfl (lv_at hl 1 rfl) ?_
        refine z_get (pc := 48) (v := .ref (ad (17, i0, j0))) hF hK.1 hW (tq16 h0) rfl rfl in_Tally 0 (by decide) gw_194 rfl rfl d_Tally_keep_48 ?_
        refine lv_iload_n (pc := 51) hx hb d_Tally_keep_51 rfl (lv_at hl 2 rfl) ?_
        have b8 := hk.1
        have hk := hk.2
        refine z_iald (pc := 52) (v := S5.1 17 i0 j0 a1.toNatClampNeg) hF hK.1 hW (tq17 h0) 0 rfl rfl b8 rfl d_Tally_keep_52 ?_
        obtain ⟨r9, er9⟩ : ∃ z : Int32, z = f_Integer_bitCount (S5.1 17 i0 j0 a1.toNatClampNeg) S5 := ⟨_, rfl⟩
        have hr := lt_e er9 hr
        refine z_goI (pc := 53) hW hA (congrArg (fun q => (q, S5)) er9) (z_runS hF hK hW (c_Integer_bitCount l D X ad ca (S5.1 17 i0 j0 a1.toNatClampNeg) S5 _) cd_Integer_bitCount gw_751 ⟨Nat.le_of_ble_eq_true rfl, Nat.le_of_ble_eq_true rfl⟩ ⟨Nat.zero_le _, Nat.zero_le _⟩ rfl rfl hl.1 (Nat.le_of_ble_eq_true rfl) d_Tally_keep_53) (fun H locs (hW : Wd D clQ A s.heap (zw X ad TQ (cfQ ad ca) S5) H locs) => ?_)
        exact z_iret (v := r9) hy hW hr.symm d_Tally_keep_56
      · have hk := hk.1 c7
        have hr := (if_pos c7).symm.trans hr
        refine lv_iconst (pc := 43) (v := 0) hx hb d_Tally_keep_43 (by decide) ?_
        refine lv_goto (pc := 44) (tgt := 56) hx hb d_Tally_keep_44 (by decide) ?_
        exact z_iret (v := (0 : Int32)) hy hW hr.symm d_Tally_keep_56
    · have hk := hk.2 c2
      have hr := (if_neg c2).symm.trans hr
      refine lv_iconst (pc := 13) (v := 0) hx hb d_Tally_keep_13 (by decide) ?_
      exact z_iret (v := (0 : Int32)) hy hW hr.symm d_Tally_keep_14
theorem d_Blocks_certify_0 : decode b_Blocks_certify 0 = .ok (.aload_n 0, 1) := by decide +kernel
theorem d_Blocks_certify_1 : decode b_Blocks_certify 1 = .ok (.iload_n 1, 1) := by decide +kernel
theorem d_Blocks_certify_2 : decode b_Blocks_certify 2 = .ok (.invokevirtual 29, 3) := by decide +kernel
theorem d_Blocks_certify_5 : decode b_Blocks_certify 5 = .ok (.ifCond .eq 10, 3) := by decide +kernel
theorem d_Blocks_certify_8 : decode b_Blocks_certify 8 = .ok (.aload_n 0, 1) := by decide +kernel
theorem d_Blocks_certify_9 : decode b_Blocks_certify 9 = .ok (.getfield 21, 3) := by decide +kernel
theorem d_Blocks_certify_12 : decode b_Blocks_certify 12 = .ok (.iload_n 1, 1) := by decide +kernel
theorem d_Blocks_certify_13 : decode b_Blocks_certify 13 = .ok (.iconst 1, 1) := by decide +kernel
theorem d_Blocks_certify_14 : decode b_Blocks_certify 14 = .ok (.bastore, 1) := by decide +kernel
theorem d_Blocks_certify_15 : decode b_Blocks_certify 15 = .ok (.return_, 1) := by decide +kernel
def f_Blocks_certify (a1 : Int32) (S : St) : St :=
  lt (f_Blocks_exists a1 S) fun (r1 : Int32) =>
  if r1 = 0 then
    S
  else
    lt (si S 23 0 0 (a1.toNatClampNeg) (1 : Int32)) fun (S4 : St) =>
    S4
def ok_Blocks_certify (a1 : Int32) (S : St) : Prop :=
  lt (f_Blocks_exists a1 S) fun (r1 : Int32) =>
  (r1 = 0 → (
    True)) ∧ (¬ (r1 = 0) → (
    (vp_in a1 100) ∧ (
      True)))
set_option maxHeartbeats 4000000 in
set_option maxRecDepth 100000 in
theorem c_Blocks_certify (l : Launch) (D : va_G) (X : va_W) (ad : N3 → Nat) (ca : Nat → ClassId) (a1 : Int32)  (S : St) (hk : ok_Blocks_certify a1 S) : cV l GG D clQ (tysQ ca) nwQ X ad TQ (cfQ ad ca) y_Blocks_certify b_Blocks_certify 2 1 21 [.ref (ad (19, 0, 0)), .int a1] S (f_Blocks_certify a1 S) := by
  generalize hr : f_Blocks_certify a1 S = res
  refine zV_of pn_Blocks (Nat.le_of_ble_eq_true rfl) (fun p e s m below meth c A ls hy hW hA hl => ?_)
  have hF := hy.1
  have hx := hF.1
  have hb := hF.2.1
  have hK := hy.2.2.2
  have hl : lv_has ls 2 [(0, .ref (ad (19, 0, 0))), (1, .int a1)] := hl
  refine lv_aload_n (pc := 0) hx hb d_Blocks_certify_0 rfl (lv_at hl 0 rfl) ?_
  refine lv_iload_n (pc := 1) hx hb d_Blocks_certify_1 rfl (lv_at hl 1 rfl) ?_
  obtain ⟨r1, er1⟩ : ∃ z : Int32, z = f_Blocks_exists a1 S := ⟨_, rfl⟩
  have hk := lt_p er1 hk
  have hr := lt_e er1 hr
  refine z_goI (pc := 2) hW hA (congrArg (fun q => (q, S)) er1) (z_runV hF hK hW (c_Blocks_exists l D X ad ca a1 S _) cd_Blocks_exists gw_460 tq19 rfl rfl ⟨Nat.le_of_ble_eq_true rfl, Nat.le_of_ble_eq_true rfl⟩ ⟨Nat.zero_le _, Nat.zero_le _⟩ rfl rfl hl.1 (Nat.le_of_ble_eq_true rfl) d_Blocks_certify_2) (fun H locs (hW : Wd D clQ A s.heap (zw X ad TQ (cfQ ad ca) S) H locs) => ?_)
  refine lv_if_eq (pc := 5) (tgt := 15) hx hb d_Blocks_certify_5 (by decide) (fun c2 => ?_) (fun c2 => ?_)
  · have hk := hk.1 c2
    have hr := (if_pos c2).symm.trans hr
    exact z_vret hy hW hr.symm d_Blocks_certify_15
  · have hk := hk.2 c2
    have hr := (if_neg c2).symm.trans hr
    refine lv_aload_n (pc := 8) hx hb d_Blocks_certify_8 rfl (lv_at hl 0 rfl) ?_
    refine z_get (pc := 9) (v := .ref (ad (23, 0, 0))) hF hK.1 hW tq19 rfl rfl in_Blocks 3 (by decide) gw_91 rfl rfl d_Blocks_certify_9 ?_
    refine lv_iload_n (pc := 12) hx hb d_Blocks_certify_12 rfl (lv_at hl 1 rfl) ?_
    refine lv_iconst (pc := 13) (v := 1) hx hb d_Blocks_certify_13 (by decide) ?_
    have b3 := hk.1
    have hk := hk.2
    obtain ⟨S4, eS4⟩ : ∃ z : St, z = si S 23 0 0 (a1.toNatClampNeg) (1 : Int32) := ⟨_, rfl⟩
    have hr := lt_e eS4 hr
    refine z_zast (pc := 14) (S' := S4) hF hK.1 hW tq23 2 rfl rfl b3 (zs_si eS4 rfl) (zs_sio eS4) d_Blocks_certify_14 (fun H locs (hW : Wd D clQ A s.heap (zw X ad TQ (cfQ ad ca) S4) H locs) => ?_)
    exact z_vret hy hW hr.symm d_Blocks_certify_15
theorem d_Blocks_isInChain_0 : decode b_Blocks_isInChain 0 = .ok (.iload_n 2, 1) := by decide +kernel
theorem d_Blocks_isInChain_1 : decode b_Blocks_isInChain 1 = .ok (.istore_n 3, 1) := by decide +kernel
theorem d_Blocks_isInChain_2 : decode b_Blocks_isInChain 2 = .ok (.iconst 0, 1) := by decide +kernel
theorem d_Blocks_isInChain_3 : decode b_Blocks_isInChain 3 = .ok (.istore 4, 2) := by decide +kernel
theorem d_Blocks_isInChain_5 : decode b_Blocks_isInChain 5 = .ok (.iload 4, 2) := by decide +kernel
theorem d_Blocks_isInChain_7 : decode b_Blocks_isInChain 7 = .ok (.bipush 100, 2) := by decide +kernel
theorem d_Blocks_isInChain_9 : decode b_Blocks_isInChain 9 = .ok (.if_icmp .ge 31, 3) := by decide +kernel
theorem d_Blocks_isInChain_12 : decode b_Blocks_isInChain 12 = .ok (.iload_n 3, 1) := by decide +kernel
theorem d_Blocks_isInChain_13 : decode b_Blocks_isInChain 13 = .ok (.iconst (-1), 1) := by decide +kernel
theorem d_Blocks_isInChain_14 : decode b_Blocks_isInChain 14 = .ok (.if_icmp .eq 26, 3) := by decide +kernel
theorem d_Blocks_isInChain_17 : decode b_Blocks_isInChain 17 = .ok (.aload_n 0, 1) := by decide +kernel
theorem d_Blocks_isInChain_18 : decode b_Blocks_isInChain 18 = .ok (.iload_n 3, 1) := by decide +kernel
theorem d_Blocks_isInChain_19 : decode b_Blocks_isInChain 19 = .ok (.invokevirtual 44, 3) := by decide +kernel
theorem d_Blocks_isInChain_22 : decode b_Blocks_isInChain 22 = .ok (.iload_n 1, 1) := by decide +kernel
theorem d_Blocks_isInChain_23 : decode b_Blocks_isInChain 23 = .ok (.if_icmp .ne 5, 3) := by decide +kernel
theorem d_Blocks_isInChain_26 : decode b_Blocks_isInChain 26 = .ok (.iconst 1, 1) := by decide +kernel
theorem d_Blocks_isInChain_27 : decode b_Blocks_isInChain 27 = .ok (.ireturn, 1) := by decide +kernel
theorem d_Blocks_isInChain_28 : decode b_Blocks_isInChain 28 = .ok (.aload_n 0, 1) := by decide +kernel
theorem d_Blocks_isInChain_29 : decode b_Blocks_isInChain 29 = .ok (.iload_n 3, 1) := by decide +kernel
theorem d_Blocks_isInChain_30 : decode b_Blocks_isInChain 30 = .ok (.invokevirtual 41, 3) := by decide +kernel
theorem d_Blocks_isInChain_33 : decode b_Blocks_isInChain 33 = .ok (.istore_n 3, 1) := by decide +kernel
theorem d_Blocks_isInChain_34 : decode b_Blocks_isInChain 34 = .ok (.iinc 4 1, 3) := by decide +kernel
theorem d_Blocks_isInChain_37 : decode b_Blocks_isInChain 37 = .ok (.goto (-32), 3) := by decide +kernel
theorem d_Blocks_isInChain_40 : decode b_Blocks_isInChain 40 = .ok (.iconst 0, 1) := by decide +kernel
theorem d_Blocks_isInChain_41 : decode b_Blocks_isInChain 41 = .ok (.ireturn, 1) := by decide +kernel
def f_Blocks_isInChain_5 (a1 : Int32) (a2 : Int32) : Nat → St → Int32 → Int32 → Int32
  | 0, _, _, _ => 0
  | n + 1, S, l3, l4 =>
    if (100 : Int32) ≤ l4 then
      (0 : Int32)
    else
      if l3 = (-1 : Int32) then
        (0 : Int32)
      else
        lt (f_Blocks_transactionOf l3 S) fun (r4 : Int32) =>
        if r4 = a1 then
          (1 : Int32)
        else
          lt (f_Blocks_parentOf l3 S) fun (r7 : Int32) =>
          f_Blocks_isInChain_5 a1 a2 n S r7 (l4 + (1 : Int32))
def ok_Blocks_isInChain_5 (a1 : Int32) (a2 : Int32) : Nat → St → Int32 → Int32 → Prop
  | 0, _, _, _ => False
  | n + 1, S, l3, l4 =>
    ((100 : Int32) ≤ l4 → (
      True)) ∧ (¬ ((100 : Int32) ≤ l4) → (
      (l3 = (-1 : Int32) → (
        True)) ∧ (¬ (l3 = (-1 : Int32)) → (
        (ok_Blocks_transactionOf l3 S) ∧ (
          lt (f_Blocks_transactionOf l3 S) fun (r4 : Int32) =>
          (r4 = a1 → (
            True)) ∧ (¬ (r4 = a1) → (
            (ok_Blocks_parentOf l3 S) ∧ (
              lt (f_Blocks_parentOf l3 S) fun (r7 : Int32) =>
              ok_Blocks_isInChain_5 a1 a2 n S r7 (l4 + (1 : Int32))))))))))
set_option maxHeartbeats 4000000 in
set_option maxRecDepth 100000 in
theorem w_Blocks_isInChain_5 {l : Launch} {D : va_G} {X : va_W} {ad : N3 → Nat} {ca : Nat → ClassId} (a1 : Int32) (a2 : Int32)  (S : St) {p : Program} {e : Env} {s : State} {m : MethodId} {below : List Frame} {meth : Method} {c : Code} {A : Nat → Prop} (hy : Hy p s m ([.ref (ad (19, 0, 0)), .int a1, .int a2] : List Value).toArray meth c b_Blocks_isInChain 5 (some .boolean) R_Blocks GG D clQ (tysQ ca) nwQ) (hA : ∀ q, s.heap.size ≤ q → A q) {res : Int32} : ∀ (n : Nat) (l3 : Int32) (l4 : Int32) , ok_Blocks_isInChain_5 a1 a2 n S l3 l4 → f_Blocks_isInChain_5 a1 a2 n S l3 l4 = res → ∀ (H : Heap) (locs : List Loc) (ls : Array Slot), Wd D clQ A s.heap (zw X ad TQ (cfQ ad ca) S) H locs → lv_has ls 5 [(0, .ref (ad (19, 0, 0))), (1, .int a1), (3, .int l3), (4, .int l4)] → W p l e { frames := 2, cells := 0, slots := 0, locals := 42 } s m ([.ref (ad (19, 0, 0)), .int a1, .int a2] : List Value).toArray below meth c H locs 0 0 (MQ below (eI D clQ X ad TQ (cfQ ad ca) A (res, S)) ([.ref (ad (19, 0, 0)), .int a1, .int a2] : List Value).toArray s 0 0 A) (F0 m 5 ls []) := by
  have hF := hy.1
  have hx := hF.1
  have hb := hF.2.1
  have hK := hy.2.2.2
  intro n
  induction n with
  | zero =>
    intro l3 l4 hk
    exact hk.elim
  | succ n ih =>
    intro l3 l4 hk hr H locs ls hW hl
    refine lv_iload (pc := 5) hx hb d_Blocks_isInChain_5 (lv_at hl 3 rfl) ?_
    refine lv_bipush (pc := 7) (v := 100) hx hb d_Blocks_isInChain_7 (by decide) ?_
    refine lv_icmp_ge (pc := 9) (tgt := 40) hx hb d_Blocks_isInChain_9 (by decide) (fun c1 => ?_) (fun c1 => ?_)
    · have hk := hk.1 c1
      have hr := (if_pos c1).symm.trans hr
      refine lv_iconst (pc := 40) (v := 0) hx hb d_Blocks_isInChain_40 (by decide) ?_
      exact z_zret (v := (0 : Int32)) hy hW rfl (congrArg (fun z => (z, S)) hr.symm) d_Blocks_isInChain_41
    · have hk := hk.2 c1
      have hr := (if_neg c1).symm.trans hr
      refine lv_iload_n (pc := 12) hx hb d_Blocks_isInChain_12 rfl (lv_at hl 2 rfl) ?_
      refine lv_iconst (pc := 13) (v := -1) hx hb d_Blocks_isInChain_13 (by decide) ?_
      refine lv_icmp_eq (pc := 14) (tgt := 40) hx hb d_Blocks_isInChain_14 (by decide) (fun c2 => ?_) (fun c2 => ?_)
      · have hk := hk.1 c2
        have hr := (if_pos c2).symm.trans hr
        refine lv_iconst (pc := 40) (v := 0) hx hb d_Blocks_isInChain_40 (by decide) ?_
        exact z_zret (v := (0 : Int32)) hy hW rfl (congrArg (fun z => (z, S)) hr.symm) d_Blocks_isInChain_41
      · have hk := hk.2 c2
        have hr := (if_neg c2).symm.trans hr
        refine lv_aload_n (pc := 17) hx hb d_Blocks_isInChain_17 rfl (lv_at hl 0 rfl) ?_
        refine lv_iload_n (pc := 18) hx hb d_Blocks_isInChain_18 rfl (lv_at hl 2 rfl) ?_
        have o3 := hk.1
        have hk := hk.2
        obtain ⟨r4, er4⟩ : ∃ z : Int32, z = f_Blocks_transactionOf l3 S := ⟨_, rfl⟩
        have hk := lt_p er4 hk
        have hr := lt_e er4 hr
        refine z_goI (pc := 19) hW hA (congrArg (fun q => (q, S)) er4) (z_runV hF hK hW (c_Blocks_transactionOf l D X ad ca l3 S o3 _) cd_Blocks_transactionOf gw_634 tq19 rfl rfl ⟨Nat.le_of_ble_eq_true rfl, Nat.le_of_ble_eq_true rfl⟩ ⟨Nat.zero_le _, Nat.zero_le _⟩ rfl rfl hl.1 (Nat.le_of_ble_eq_true rfl) d_Blocks_isInChain_19) (fun H locs (hW : Wd D clQ A s.heap (zw X ad TQ (cfQ ad ca) S) H locs) => ?_)
        refine lv_iload_n (pc := 22) hx hb d_Blocks_isInChain_22 rfl (lv_at hl 1 rfl) ?_
        refine lv_icmp_ne (pc := 23) (tgt := 28) hx hb d_Blocks_isInChain_23 (by decide) (fun c5 => ?_) (fun c5 => ?_)
        · have hk := hk.2 c5
          have hr := (if_neg c5).symm.trans hr
          refine lv_aload_n (pc := 28) hx hb d_Blocks_isInChain_28 rfl (lv_at hl 0 rfl) ?_
          refine lv_iload_n (pc := 29) hx hb d_Blocks_isInChain_29 rfl (lv_at hl 2 rfl) ?_
          have o6 := hk.1
          have hk := hk.2
          obtain ⟨r7, er7⟩ : ∃ z : Int32, z = f_Blocks_parentOf l3 S := ⟨_, rfl⟩
          have hk := lt_p er7 hk
          have hr := lt_e er7 hr
          refine z_goI (pc := 30) hW hA (congrArg (fun q => (q, S)) er7) (z_runV hF hK hW (c_Blocks_parentOf l D X ad ca l3 S o6 _) cd_Blocks_parentOf gw_635 tq19 rfl rfl ⟨Nat.le_of_ble_eq_true rfl, Nat.le_of_ble_eq_true rfl⟩ ⟨Nat.zero_le _, Nat.zero_le _⟩ rfl rfl hl.1 (Nat.le_of_ble_eq_true rfl) d_Blocks_isInChain_30) (fun H locs (hW : Wd D clQ A s.heap (zw X ad TQ (cfQ ad ca) S) H locs) => ?_)
          refine lv_istore_n (pc := 33) (lv' := [(3, .int r7), (0, .ref (ad (19, 0, 0))), (1, .int a1), (4, .int l4)]) hx hb d_Blocks_isInChain_33 rfl hl (by decide) rfl (fun ls hl => ?_)
          refine lv_iinc (pc := 34) (v := l4 + (1 : Int32)) (lv' := [(4, .int (l4 + (1 : Int32))), (3, .int r7), (0, .ref (ad (19, 0, 0))), (1, .int a1)]) (k := 3) hx hb d_Blocks_isInChain_34 hl rfl (z_inc (by decide)) (by decide) rfl (fun ls hl => ?_)
          refine lv_goto (pc := 37) (tgt := 5) hx hb d_Blocks_isInChain_37 (by decide) ?_
          exact ih r7 (l4 + (1 : Int32)) hk hr _ _ _ hW (lv_sub hl [2, 3, 1, 0] rfl)
        · have hk := hk.1 c5
          have hr := (if_pos c5).symm.trans hr
          refine lv_iconst (pc := 26) (v := 1) hx hb d_Blocks_isInChain_26 (by decide) ?_
          exact z_zret (v := (1 : Int32)) hy hW rfl (congrArg (fun z => (z, S)) hr.symm) d_Blocks_isInChain_27
def f_Blocks_isInChain (a1 : Int32) (a2 : Int32) (S : St) : Int32 :=
  f_Blocks_isInChain_5 a1 a2 200 S a2 (0 : Int32)
def ok_Blocks_isInChain (a1 : Int32) (a2 : Int32) (S : St) : Prop :=
  ok_Blocks_isInChain_5 a1 a2 200 S a2 (0 : Int32)
set_option maxHeartbeats 4000000 in
set_option maxRecDepth 100000 in
theorem c_Blocks_isInChain (l : Launch) (D : va_G) (X : va_W) (ad : N3 → Nat) (ca : Nat → ClassId) (a1 : Int32) (a2 : Int32)  (S : St) (hk : ok_Blocks_isInChain a1 a2 S) : cI l GG D clQ (tysQ ca) nwQ X ad TQ (cfQ ad ca) y_Blocks_isInChain b_Blocks_isInChain 5 .boolean 2 42 [.ref (ad (19, 0, 0)), .int a1, .int a2] S ((f_Blocks_isInChain a1 a2 S), S) := by
  generalize hr : f_Blocks_isInChain a1 a2 S = res
  refine zI_of pn_Blocks (Nat.le_of_ble_eq_true rfl) (fun p e s m below meth c A ls hy hW hA hl => ?_)
  have hF := hy.1
  have hx := hF.1
  have hb := hF.2.1
  have hK := hy.2.2.2
  have hl : lv_has ls 5 [(0, .ref (ad (19, 0, 0))), (1, .int a1), (2, .int a2)] := hl
  refine lv_iload_n (pc := 0) hx hb d_Blocks_isInChain_0 rfl (lv_at hl 2 rfl) ?_
  refine lv_istore_n (pc := 1) (lv' := [(3, .int a2), (0, .ref (ad (19, 0, 0))), (1, .int a1), (2, .int a2)]) hx hb d_Blocks_isInChain_1 rfl hl (by decide) rfl (fun ls hl => ?_)
  refine lv_iconst (pc := 2) (v := 0) hx hb d_Blocks_isInChain_2 (by decide) ?_
  refine lv_istore (pc := 3) (lv' := [(4, .int (0 : Int32)), (3, .int a2), (0, .ref (ad (19, 0, 0))), (1, .int a1), (2, .int a2)]) hx hb d_Blocks_isInChain_3 hl (by decide) rfl (fun ls hl => ?_)
  exact w_Blocks_isInChain_5 a1 a2 S hy hA 200 a2 (0 : Int32) hk hr _ _ _ hW (lv_sub hl [2, 3, 1, 0] rfl)
end
section
theorem d_QC_firstNewTransaction_0 : decode b_QC_firstNewTransaction 0 = .ok (.iconst 0, 1) := by decide +kernel
theorem d_QC_firstNewTransaction_1 : decode b_QC_firstNewTransaction 1 = .ok (.istore_n 2, 1) := by decide +kernel
theorem d_QC_firstNewTransaction_2 : decode b_QC_firstNewTransaction 2 = .ok (.iload_n 2, 1) := by decide +kernel
theorem d_QC_firstNewTransaction_3 : decode b_QC_firstNewTransaction 3 = .ok (.aload_n 1, 1) := by decide +kernel
theorem d_QC_firstNewTransaction_4 : decode b_QC_firstNewTransaction 4 = .ok (.getfield 266, 3) := by decide +kernel
theorem d_QC_firstNewTransaction_7 : decode b_QC_firstNewTransaction 7 = .ok (.if_icmp .ge 36, 3) := by decide +kernel
theorem d_QC_firstNewTransaction_10 : decode b_QC_firstNewTransaction 10 = .ok (.aload_n 0, 1) := by decide +kernel
theorem d_QC_firstNewTransaction_11 : decode b_QC_firstNewTransaction 11 = .ok (.getfield 18, 3) := by decide +kernel
theorem d_QC_firstNewTransaction_14 : decode b_QC_firstNewTransaction 14 = .ok (.aload_n 1, 1) := by decide +kernel
theorem d_QC_firstNewTransaction_15 : decode b_QC_firstNewTransaction 15 = .ok (.getfield 365, 3) := by decide +kernel
theorem d_QC_firstNewTransaction_18 : decode b_QC_firstNewTransaction 18 = .ok (.iload_n 2, 1) := by decide +kernel
theorem d_QC_firstNewTransaction_19 : decode b_QC_firstNewTransaction 19 = .ok (.iaload, 1) := by decide +kernel
theorem d_QC_firstNewTransaction_20 : decode b_QC_firstNewTransaction 20 = .ok (.aload_n 1, 1) := by decide +kernel
theorem d_QC_firstNewTransaction_21 : decode b_QC_firstNewTransaction 21 = .ok (.getfield 248, 3) := by decide +kernel
theorem d_QC_firstNewTransaction_24 : decode b_QC_firstNewTransaction 24 = .ok (.invokevirtual 368, 3) := by decide +kernel
theorem d_QC_firstNewTransaction_27 : decode b_QC_firstNewTransaction 27 = .ok (.ifCond .ne 10, 3) := by decide +kernel
theorem d_QC_firstNewTransaction_30 : decode b_QC_firstNewTransaction 30 = .ok (.aload_n 1, 1) := by decide +kernel
theorem d_QC_firstNewTransaction_31 : decode b_QC_firstNewTransaction 31 = .ok (.getfield 365, 3) := by decide +kernel
theorem d_QC_firstNewTransaction_34 : decode b_QC_firstNewTransaction 34 = .ok (.iload_n 2, 1) := by decide +kernel
theorem d_QC_firstNewTransaction_35 : decode b_QC_firstNewTransaction 35 = .ok (.iaload, 1) := by decide +kernel
theorem d_QC_firstNewTransaction_36 : decode b_QC_firstNewTransaction 36 = .ok (.ireturn, 1) := by decide +kernel
theorem d_QC_firstNewTransaction_37 : decode b_QC_firstNewTransaction 37 = .ok (.iinc 2 1, 3) := by decide +kernel
theorem d_QC_firstNewTransaction_40 : decode b_QC_firstNewTransaction 40 = .ok (.goto (-38), 3) := by decide +kernel
theorem d_QC_firstNewTransaction_43 : decode b_QC_firstNewTransaction 43 = .ok (.iconst (-1), 1) := by decide +kernel
theorem d_QC_firstNewTransaction_44 : decode b_QC_firstNewTransaction 44 = .ok (.ireturn, 1) := by decide +kernel
def f_QC_firstNewTransaction_2 (i1 : Nat) : Nat → St → Int32 → Int32
  | 0, _, _ => 0
  | n + 1, S, l2 =>
    if (S.1 3 i1 0 6) ≤ l2 then
      (-1 : Int32)
    else
      lt (f_Blocks_isInChain (S.1 18 i1 0 l2.toNatClampNeg) (S.1 3 i1 0 11) S) fun (r4 : Int32) =>
      if r4 = 0 then
        S.1 18 i1 0 l2.toNatClampNeg
      else
        f_QC_firstNewTransaction_2 i1 n S (l2 + (1 : Int32))
def ok_QC_firstNewTransaction_2 (i1 : Nat) : Nat → St → Int32 → Prop
  | 0, _, _ => False
  | n + 1, S, l2 =>
    ((S.1 3 i1 0 6) ≤ l2 → (
      True)) ∧ (¬ ((S.1 3 i1 0 6) ≤ l2) → (
      (vp_in l2 40) ∧ (
        (ok_Blocks_isInChain (S.1 18 i1 0 l2.toNatClampNeg) (S.1 3 i1 0 11) S) ∧ (
          lt (f_Blocks_isInChain (S.1 18 i1 0 l2.toNatClampNeg) (S.1 3 i1 0 11) S) fun (r4 : Int32) =>
          (r4 = 0 → (
            (vp_in l2 40) ∧ (
              True))) ∧ (¬ (r4 = 0) → (
            ok_QC_firstNewTransaction_2 i1 n S (l2 + (1 : Int32))))))))
set_option maxHeartbeats 4000000 in
set_option maxRecDepth 100000 in
theorem w_QC_firstNewTransaction_2 {l : Launch} {D : va_G} {X : va_W} {ad : N3 → Nat} {ca : Nat → ClassId} (i1 : Nat) (h1 : i1 < 4) (S : St) {p : Program} {e : Env} {s : State} {m : MethodId} {below : List Frame} {meth : Method} {c : Code} {A : Nat → Prop} (hy : Hy p s m ([.ref (ad (1, 0, 0)), .ref (ad (3, i1, 0))] : List Value).toArray meth c b_QC_firstNewTransaction 3 (some .int) R_QC GG D clQ (tysQ ca) nwQ) (hA : ∀ q, s.heap.size ≤ q → A q) {res : Int32} : ∀ (n : Nat) (l2 : Int32) , ok_QC_firstNewTransaction_2 i1 n S l2 → f_QC_firstNewTransaction_2 i1 n S l2 = res → ∀ (H : Heap) (locs : List Loc) (ls : Array Slot), Wd D clQ A s.heap (zw X ad TQ (cfQ ad ca) S) H locs → lv_has ls 3 [(0, .ref (ad (1, 0, 0))), (1, .ref (ad (3, i1, 0))), (2, .int l2)] → W p l e { frames := 3, cells := 0, slots := 0, locals := 66 } s m ([.ref (ad (1, 0, 0)), .ref (ad (3, i1, 0))] : List Value).toArray below meth c H locs 0 0 (MQ below (eI D clQ X ad TQ (cfQ ad ca) A (res, S)) ([.ref (ad (1, 0, 0)), .ref (ad (3, i1, 0))] : List Value).toArray s 0 0 A) (F0 m 2 ls []) := by
  have hF := hy.1
  have hx := hF.1
  have hb := hF.2.1
  have hK := hy.2.2.2
  intro n
  induction n with
  | zero =>
    intro l2 hk
    exact hk.elim
  | succ n ih =>
    intro l2 hk hr H locs ls hW hl
    refine lv_iload_n (pc := 2) hx hb d_QC_firstNewTransaction_2 rfl (lv_at hl 2 rfl) ?_
    refine lv_aload_n (pc := 3) hx hb d_QC_firstNewTransaction_3 rfl (lv_at hl 1 rfl) ?_
    refine z_get (pc := 4) (v := .int (S.1 3 i1 0 6)) hF hK.1 hW (tq3 h1) rfl rfl in_Node 6 (by decide) gw_308 rfl rfl d_QC_firstNewTransaction_4 ?_
    refine lv_icmp_ge (pc := 7) (tgt := 43) hx hb d_QC_firstNewTransaction_7 (by decide) (fun c1 => ?_) (fun c1 => ?_)
    · have hk := hk.1 c1
      have hr := (if_pos c1).symm.trans hr
      refine lv_iconst (pc := 43) (v := -1) hx hb d_QC_firstNewTransaction_43 (by decide) ?_
      exact z_iret (v := (-1 : Int32)) hy hW (congrArg (fun z => (z, S)) hr.symm) d_QC_firstNewTransaction_44
    · have hk := hk.2 c1
      have hr := (if_neg c1).symm.trans hr
      refine lv_aload_n (pc := 10) hx hb d_QC_firstNewTransaction_10 rfl (lv_at hl 0 rfl) ?_
      refine z_get (pc := 11) (v := .ref (ad (19, 0, 0))) hF hK.1 hW tq1 rfl rfl in_QC 1 (by decide) gw_345 rfl rfl d_QC_firstNewTransaction_11 ?_
      refine lv_aload_n (pc := 14) hx hb d_QC_firstNewTransaction_14 rfl (lv_at hl 1 rfl) ?_
      refine z_get (pc := 15) (v := .ref (ad (18, i1, 0))) hF hK.1 hW (tq3 h1) rfl rfl in_Node 5 (by decide) gw_306 rfl rfl d_QC_firstNewTransaction_15 ?_
      refine lv_iload_n (pc := 18) hx hb d_QC_firstNewTransaction_18 rfl (lv_at hl 2 rfl) ?_
      have b2 := hk.1
      have hk := hk.2
      refine z_iald (pc := 19) (v := S.1 18 i1 0 l2.toNatClampNeg) hF hK.1 hW (tq18 h1) 0 rfl rfl b2 rfl d_QC_firstNewTransaction_19 ?_
      refine lv_aload_n (pc := 20) hx hb d_QC_firstNewTransaction_20 rfl (lv_at hl 1 rfl) ?_
      refine z_get (pc := 21) (v := .int (S.1 3 i1 0 11)) hF hK.1 hW (tq3 h1) rfl rfl in_Node 11 (by decide) gw_318 rfl rfl d_QC_firstNewTransaction_21 ?_
      have o3 := hk.1
      have hk := hk.2
      obtain ⟨r4, er4⟩ : ∃ z : Int32, z = f_Blocks_isInChain (S.1 18 i1 0 l2.toNatClampNeg) (S.1 3 i1 0 11) S := ⟨_, rfl⟩
      have hk := lt_p er4 hk
      have hr := lt_e er4 hr
      refine z_goI (pc := 24) hW hA (congrArg (fun q => (q, S)) er4) (z_runV hF hK hW (c_Blocks_isInChain l D X ad ca (S.1 18 i1 0 l2.toNatClampNeg) (S.1 3 i1 0 11) S o3 _) cd_Blocks_isInChain gw_630 tq19 rfl rfl ⟨Nat.le_of_ble_eq_true rfl, Nat.le_of_ble_eq_true rfl⟩ ⟨Nat.zero_le _, Nat.zero_le _⟩ rfl rfl hl.1 (Nat.le_of_ble_eq_true rfl) d_QC_firstNewTransaction_24) (fun H locs (hW : Wd D clQ A s.heap (zw X ad TQ (cfQ ad ca) S) H locs) => ?_)
      refine lv_if_ne (pc := 27) (tgt := 37) hx hb d_QC_firstNewTransaction_27 (by decide) (fun c5 => ?_) (fun c5 => ?_)
      · have hk := hk.2 c5
        have hr := (if_neg c5).symm.trans hr
        refine lv_iinc (pc := 37) (v := l2 + (1 : Int32)) (lv' := [(2, .int (l2 + (1 : Int32))), (0, .ref (ad (1, 0, 0))), (1, .ref (ad (3, i1, 0)))]) (k := 2) hx hb d_QC_firstNewTransaction_37 hl rfl (z_inc (by decide)) (by decide) rfl (fun ls hl => ?_)
        refine lv_goto (pc := 40) (tgt := 2) hx hb d_QC_firstNewTransaction_40 (by decide) ?_
        exact ih (l2 + (1 : Int32)) hk hr _ _ _ hW (lv_sub hl [1, 2, 0] rfl)
      · have hk := hk.1 c5
        have hr := (if_pos c5).symm.trans hr
        refine lv_aload_n (pc := 30) hx hb d_QC_firstNewTransaction_30 rfl (lv_at hl 1 rfl) ?_
        refine z_get (pc := 31) (v := .ref (ad (18, i1, 0))) hF hK.1 hW (tq3 h1) rfl rfl in_Node 5 (by decide) gw_306 rfl rfl d_QC_firstNewTransaction_31 ?_
        refine lv_iload_n (pc := 34) hx hb d_QC_firstNewTransaction_34 rfl (lv_at hl 2 rfl) ?_
        have b6 := hk.1
        have hk := hk.2
        refine z_iald (pc := 35) (v := S.1 18 i1 0 l2.toNatClampNeg) hF hK.1 hW (tq18 h1) 0 rfl rfl b6 rfl d_QC_firstNewTransaction_35 ?_
        exact z_iret (v := S.1 18 i1 0 l2.toNatClampNeg) hy hW (congrArg (fun z => (z, S)) hr.symm) d_QC_firstNewTransaction_36
def f_QC_firstNewTransaction (i1 : Nat) (S : St) : Int32 :=
  f_QC_firstNewTransaction_2 i1 200 S (0 : Int32)
def ok_QC_firstNewTransaction (i1 : Nat) (S : St) : Prop :=
  ok_QC_firstNewTransaction_2 i1 200 S (0 : Int32)
set_option maxHeartbeats 4000000 in
set_option maxRecDepth 100000 in
theorem c_QC_firstNewTransaction (l : Launch) (D : va_G) (X : va_W) (ad : N3 → Nat) (ca : Nat → ClassId) (i1 : Nat) (h1 : i1 < 4) (S : St) (hk : ok_QC_firstNewTransaction i1 S) : cI l GG D clQ (tysQ ca) nwQ X ad TQ (cfQ ad ca) y_QC_firstNewTransaction b_QC_firstNewTransaction 3 .int 3 66 [.ref (ad (1, 0, 0)), .ref (ad (3, i1, 0))] S ((f_QC_firstNewTransaction i1 S), S) := by
  generalize hr : f_QC_firstNewTransaction i1 S = res
  refine zI_of pn_QC (Nat.le_of_ble_eq_true rfl) (fun p e s m below meth c A ls hy hW hA hl => ?_)
  have hF := hy.1
  have hx := hF.1
  have hb := hF.2.1
  have hK := hy.2.2.2
  have hl : lv_has ls 3 [(0, .ref (ad (1, 0, 0))), (1, .ref (ad (3, i1, 0)))] := hl
  refine lv_iconst (pc := 0) (v := 0) hx hb d_QC_firstNewTransaction_0 (by decide) ?_
  refine lv_istore_n (pc := 1) (lv' := [(2, .int (0 : Int32)), (0, .ref (ad (1, 0, 0))), (1, .ref (ad (3, i1, 0)))]) hx hb d_QC_firstNewTransaction_1 rfl hl (by decide) rfl (fun ls hl => ?_)
  exact w_QC_firstNewTransaction_2 i1 h1 S hy hA 200 (0 : Int32) hk hr _ _ _ hW (lv_sub hl [1, 2, 0] rfl)
theorem d_Blocks_add_0 : decode b_Blocks_add 0 = .ok (.aload_n 0, 1) := by decide +kernel
theorem d_Blocks_add_1 : decode b_Blocks_add 1 = .ok (.getfield 25, 3) := by decide +kernel
theorem d_Blocks_add_4 : decode b_Blocks_add 4 = .ok (.bipush 100, 2) := by decide +kernel
theorem d_Blocks_add_6 : decode b_Blocks_add 6 = .ok (.if_icmp .lt 5, 3) := by decide +kernel
theorem d_Blocks_add_9 : decode b_Blocks_add 9 = .ok (.iconst (-1), 1) := by decide +kernel
theorem d_Blocks_add_10 : decode b_Blocks_add 10 = .ok (.ireturn, 1) := by decide +kernel
theorem d_Blocks_add_11 : decode b_Blocks_add 11 = .ok (.aload_n 0, 1) := by decide +kernel
theorem d_Blocks_add_12 : decode b_Blocks_add 12 = .ok (.getfield 9, 3) := by decide +kernel
theorem d_Blocks_add_15 : decode b_Blocks_add 15 = .ok (.aload_n 0, 1) := by decide +kernel
theorem d_Blocks_add_16 : decode b_Blocks_add 16 = .ok (.getfield 25, 3) := by decide +kernel
theorem d_Blocks_add_19 : decode b_Blocks_add 19 = .ok (.iload_n 1, 1) := by decide +kernel
theorem d_Blocks_add_20 : decode b_Blocks_add 20 = .ok (.iastore, 1) := by decide +kernel
theorem d_Blocks_add_21 : decode b_Blocks_add 21 = .ok (.aload_n 0, 1) := by decide +kernel
theorem d_Blocks_add_22 : decode b_Blocks_add 22 = .ok (.getfield 15, 3) := by decide +kernel
theorem d_Blocks_add_25 : decode b_Blocks_add 25 = .ok (.aload_n 0, 1) := by decide +kernel
theorem d_Blocks_add_26 : decode b_Blocks_add 26 = .ok (.getfield 25, 3) := by decide +kernel
theorem d_Blocks_add_29 : decode b_Blocks_add 29 = .ok (.iload_n 2, 1) := by decide +kernel
theorem d_Blocks_add_30 : decode b_Blocks_add 30 = .ok (.iastore, 1) := by decide +kernel
theorem d_Blocks_add_31 : decode b_Blocks_add 31 = .ok (.aload_n 0, 1) := by decide +kernel
theorem d_Blocks_add_32 : decode b_Blocks_add 32 = .ok (.getfield 18, 3) := by decide +kernel
theorem d_Blocks_add_35 : decode b_Blocks_add 35 = .ok (.aload_n 0, 1) := by decide +kernel
theorem d_Blocks_add_36 : decode b_Blocks_add 36 = .ok (.getfield 25, 3) := by decide +kernel
theorem d_Blocks_add_39 : decode b_Blocks_add 39 = .ok (.iload_n 3, 1) := by decide +kernel
theorem d_Blocks_add_40 : decode b_Blocks_add 40 = .ok (.iastore, 1) := by decide +kernel
theorem d_Blocks_add_41 : decode b_Blocks_add 41 = .ok (.aload_n 0, 1) := by decide +kernel
theorem d_Blocks_add_42 : decode b_Blocks_add 42 = .ok (.dup, 1) := by decide +kernel
theorem d_Blocks_add_43 : decode b_Blocks_add 43 = .ok (.getfield 25, 3) := by decide +kernel
theorem d_Blocks_add_46 : decode b_Blocks_add 46 = .ok (.iconst 1, 1) := by decide +kernel
theorem d_Blocks_add_47 : decode b_Blocks_add 47 = .ok (.iadd, 1) := by decide +kernel
theorem d_Blocks_add_48 : decode b_Blocks_add 48 = .ok (.putfield 25, 3) := by decide +kernel
theorem d_Blocks_add_51 : decode b_Blocks_add 51 = .ok (.aload_n 0, 1) := by decide +kernel
theorem d_Blocks_add_52 : decode b_Blocks_add 52 = .ok (.getfield 25, 3) := by decide +kernel
theorem d_Blocks_add_55 : decode b_Blocks_add 55 = .ok (.iconst 1, 1) := by decide +kernel
theorem d_Blocks_add_56 : decode b_Blocks_add 56 = .ok (.isub, 1) := by decide +kernel
theorem d_Blocks_add_57 : decode b_Blocks_add 57 = .ok (.ireturn, 1) := by decide +kernel
def f_Blocks_add (a1 : Int32) (a2 : Int32) (a3 : Int32) (S : St) : Int32 × St :=
  if (S.1 19 0 0 4) < (100 : Int32) then
    lt (si S 20 0 0 ((S.1 19 0 0 4).toNatClampNeg) a1) fun (S3 : St) =>
    lt (si S3 21 0 0 ((S3.1 19 0 0 4).toNatClampNeg) a2) fun (S5 : St) =>
    lt (si S5 22 0 0 ((S5.1 19 0 0 4).toNatClampNeg) a3) fun (S7 : St) =>
    lt (si S7 19 0 0 4 ((S7.1 19 0 0 4) + (1 : Int32))) fun (S8 : St) =>
    ((S8.1 19 0 0 4) - (1 : Int32), S8)
  else
    ((-1 : Int32), S)
def ok_Blocks_add (a1 : Int32) (a2 : Int32) (a3 : Int32) (S : St) : Prop :=
  ((S.1 19 0 0 4) < (100 : Int32) → (
    (vp_in (S.1 19 0 0 4) 100) ∧ (
      lt (si S 20 0 0 ((S.1 19 0 0 4).toNatClampNeg) a1) fun (S3 : St) =>
      (vp_in (S3.1 19 0 0 4) 100) ∧ (
        lt (si S3 21 0 0 ((S3.1 19 0 0 4).toNatClampNeg) a2) fun (S5 : St) =>
        (vp_in (S5.1 19 0 0 4) 100) ∧ (
          True))))) ∧ (¬ ((S.1 19 0 0 4) < (100 : Int32)) → (
    True))
set_option maxHeartbeats 4000000 in
set_option maxRecDepth 100000 in
theorem c_Blocks_add (l : Launch) (D : va_G) (X : va_W) (ad : N3 → Nat) (ca : Nat → ClassId) (a1 : Int32) (a2 : Int32) (a3 : Int32)  (S : St) (hk : ok_Blocks_add a1 a2 a3 S) : cI l GG D clQ (tysQ ca) nwQ X ad TQ (cfQ ad ca) y_Blocks_add b_Blocks_add 4 .int 0 0 [.ref (ad (19, 0, 0)), .int a1, .int a2, .int a3] S (f_Blocks_add a1 a2 a3 S) := by
  generalize hr : f_Blocks_add a1 a2 a3 S = res
  refine zI_of pn_Blocks (Nat.le_of_ble_eq_true rfl) (fun p e s m below meth c A ls hy hW hA hl => ?_)
  have hF := hy.1
  have hx := hF.1
  have hb := hF.2.1
  have hK := hy.2.2.2
  have hl : lv_has ls 4 [(0, .ref (ad (19, 0, 0))), (1, .int a1), (2, .int a2), (3, .int a3)] := hl
  refine lv_aload_n (pc := 0) hx hb d_Blocks_add_0 rfl (lv_at hl 0 rfl) ?_
  refine z_get (pc := 1) (v := .int (S.1 19 0 0 4)) hF hK.1 hW tq19 rfl rfl in_Blocks 4 (by decide) gw_92 rfl rfl d_Blocks_add_1 ?_
  refine lv_bipush (pc := 4) (v := 100) hx hb d_Blocks_add_4 (by decide) ?_
  refine lv_icmp_lt (pc := 6) (tgt := 11) hx hb d_Blocks_add_6 (by decide) (fun c1 => ?_) (fun c1 => ?_)
  · have hk := hk.1 c1
    have hr := (if_pos c1).symm.trans hr
    refine lv_aload_n (pc := 11) hx hb d_Blocks_add_11 rfl (lv_at hl 0 rfl) ?_
    refine z_get (pc := 12) (v := .ref (ad (20, 0, 0))) hF hK.1 hW tq19 rfl rfl in_Blocks 0 (by decide) gw_88 rfl rfl d_Blocks_add_12 ?_
    refine lv_aload_n (pc := 15) hx hb d_Blocks_add_15 rfl (lv_at hl 0 rfl) ?_
    refine z_get (pc := 16) (v := .int (S.1 19 0 0 4)) hF hK.1 hW tq19 rfl rfl in_Blocks 4 (by decide) gw_92 rfl rfl d_Blocks_add_16 ?_
    refine lv_iload_n (pc := 19) hx hb d_Blocks_add_19 rfl (lv_at hl 1 rfl) ?_
    have b2 := hk.1
    have hk := hk.2
    obtain ⟨S3, eS3⟩ : ∃ z : St, z = si S 20 0 0 ((S.1 19 0 0 4).toNatClampNeg) a1 := ⟨_, rfl⟩
    have hk := lt_p eS3 hk
    have hr := lt_e eS3 hr
    refine z_iast (pc := 20) (S' := S3) hF hK.1 hW tq20 0 rfl rfl b2 (zs_si eS3 rfl) (zs_sio eS3) d_Blocks_add_20 (fun H locs (hW : Wd D clQ A s.heap (zw X ad TQ (cfQ ad ca) S3) H locs) => ?_)
    refine lv_aload_n (pc := 21) hx hb d_Blocks_add_21 rfl (lv_at hl 0 rfl) ?_
    refine z_get (pc := 22) (v := .ref (ad (21, 0, 0))) hF hK.1 hW tq19 rfl rfl in_Blocks 1 (by decide) gw_89 rfl rfl d_Blocks_add_22 ?_
    refine lv_aload_n (pc := 25) hx hb d_Blocks_add_25 rfl (lv_at hl 0 rfl) ?_
    refine z_get (pc := 26) (v := .int (S3.1 19 0 0 4)) hF hK.1 hW tq19 rfl rfl in_Blocks 4 (by decide) gw_92 rfl rfl d_Blocks_add_26 ?_
    refine lv_iload_n (pc := 29) hx hb d_Blocks_add_29 rfl (lv_at hl 2 rfl) ?_
    have b4 := hk.1
    have hk := hk.2
    obtain ⟨S5, eS5⟩ : ∃ z : St, z = si S3 21 0 0 ((S3.1 19 0 0 4).toNatClampNeg) a2 := ⟨_, rfl⟩
    have hk := lt_p eS5 hk
    have hr := lt_e eS5 hr
    refine z_iast (pc := 30) (S' := S5) hF hK.1 hW tq21 0 rfl rfl b4 (zs_si eS5 rfl) (zs_sio eS5) d_Blocks_add_30 (fun H locs (hW : Wd D clQ A s.heap (zw X ad TQ (cfQ ad ca) S5) H locs) => ?_)
    refine lv_aload_n (pc := 31) hx hb d_Blocks_add_31 rfl (lv_at hl 0 rfl) ?_
    refine z_get (pc := 32) (v := .ref (ad (22, 0, 0))) hF hK.1 hW tq19 rfl rfl in_Blocks 2 (by decide) gw_90 rfl rfl d_Blocks_add_32 ?_
    refine lv_aload_n (pc := 35) hx hb d_Blocks_add_35 rfl (lv_at hl 0 rfl) ?_
    refine z_get (pc := 36) (v := .int (S5.1 19 0 0 4)) hF hK.1 hW tq19 rfl rfl in_Blocks 4 (by decide) gw_92 rfl rfl d_Blocks_add_36 ?_
    refine lv_iload_n (pc := 39) hx hb d_Blocks_add_39 rfl (lv_at hl 3 rfl) ?_
    have b6 := hk.1
    have hk := hk.2
    obtain ⟨S7, eS7⟩ : ∃ z : St, z = si S5 22 0 0 ((S5.1 19 0 0 4).toNatClampNeg) a3 := ⟨_, rfl⟩
    have hr := lt_e eS7 hr
    refine z_iast (pc := 40) (S' := S7) hF hK.1 hW tq22 0 rfl rfl b6 (zs_si eS7 rfl) (zs_sio eS7) d_Blocks_add_40 (fun H locs (hW : Wd D clQ A s.heap (zw X ad TQ (cfQ ad ca) S7) H locs) => ?_)
    refine lv_aload_n (pc := 41) hx hb d_Blocks_add_41 rfl (lv_at hl 0 rfl) ?_
    refine lv_dup (pc := 42) hx hb d_Blocks_add_42 rfl ?_
    refine z_get (pc := 43) (v := .int (S7.1 19 0 0 4)) hF hK.1 hW tq19 rfl rfl in_Blocks 4 (by decide) gw_92 rfl rfl d_Blocks_add_43 ?_
    refine lv_iconst (pc := 46) (v := 1) hx hb d_Blocks_add_46 (by decide) ?_
    refine lv_iadd (pc := 47) hx hb d_Blocks_add_47 ?_
    obtain ⟨S8, eS8⟩ : ∃ z : St, z = si S7 19 0 0 4 ((S7.1 19 0 0 4) + (1 : Int32)) := ⟨_, rfl⟩
    have hr := lt_e eS8 hr
    refine z_put (pc := 48) (S' := S8) hF hK.1 hW tq19 rfl rfl in_Blocks t_Blocks tyo_Blocks nmo_Blocks 4 (by decide) gw_92 rfl rfl rfl rfl rfl (Nat.le_of_ble_eq_true rfl) (zs_si eS8 rfl) (zs_sio eS8) d_Blocks_add_48 (fun H locs (hW : Wd D clQ A s.heap (zw X ad TQ (cfQ ad ca) S8) H locs) => ?_)
    refine lv_aload_n (pc := 51) hx hb d_Blocks_add_51 rfl (lv_at hl 0 rfl) ?_
    refine z_get (pc := 52) (v := .int (S8.1 19 0 0 4)) hF hK.1 hW tq19 rfl rfl in_Blocks 4 (by decide) gw_92 rfl rfl d_Blocks_add_52 ?_
    refine lv_iconst (pc := 55) (v := 1) hx hb d_Blocks_add_55 (by decide) ?_
    refine lv_isub (pc := 56) hx hb d_Blocks_add_56 ?_
    exact z_iret (v := (S8.1 19 0 0 4) - (1 : Int32)) hy hW hr.symm d_Blocks_add_57
  · have hk := hk.2 c1
    have hr := (if_neg c1).symm.trans hr
    refine lv_iconst (pc := 9) (v := -1) hx hb d_Blocks_add_9 (by decide) ?_
    exact z_iret (v := (-1 : Int32)) hy hW hr.symm d_Blocks_add_10
theorem d_QC_propose_0 : decode b_QC_propose 0 = .ok (.aload_n 0, 1) := by decide +kernel
theorem d_QC_propose_1 : decode b_QC_propose 1 = .ok (.getfield 18, 3) := by decide +kernel
theorem d_QC_propose_4 : decode b_QC_propose 4 = .ok (.getfield 206, 3) := by decide +kernel
theorem d_QC_propose_7 : decode b_QC_propose 7 = .ok (.bipush 100, 2) := by decide +kernel
theorem d_QC_propose_9 : decode b_QC_propose 9 = .ok (.if_icmp .lt 4, 3) := by decide +kernel
theorem d_QC_propose_12 : decode b_QC_propose 12 = .ok (.return_, 1) := by decide +kernel
theorem d_QC_propose_13 : decode b_QC_propose 13 = .ok (.aload_n 0, 1) := by decide +kernel
theorem d_QC_propose_14 : decode b_QC_propose 14 = .ok (.getfield 18, 3) := by decide +kernel
theorem d_QC_propose_17 : decode b_QC_propose 17 = .ok (.aload_n 1, 1) := by decide +kernel
theorem d_QC_propose_18 : decode b_QC_propose 18 = .ok (.getfield 88, 3) := by decide +kernel
theorem d_QC_propose_21 : decode b_QC_propose 21 = .ok (.aload_n 1, 1) := by decide +kernel
theorem d_QC_propose_22 : decode b_QC_propose 22 = .ok (.getfield 248, 3) := by decide +kernel
theorem d_QC_propose_25 : decode b_QC_propose 25 = .ok (.aload_n 0, 1) := by decide +kernel
theorem d_QC_propose_26 : decode b_QC_propose 26 = .ok (.aload_n 1, 1) := by decide +kernel
theorem d_QC_propose_27 : decode b_QC_propose 27 = .ok (.invokevirtual 358, 3) := by decide +kernel
theorem d_QC_propose_30 : decode b_QC_propose 30 = .ok (.invokevirtual 209, 3) := by decide +kernel
theorem d_QC_propose_33 : decode b_QC_propose 33 = .ok (.istore_n 2, 1) := by decide +kernel
theorem d_QC_propose_34 : decode b_QC_propose 34 = .ok (.aload_n 1, 1) := by decide +kernel
theorem d_QC_propose_35 : decode b_QC_propose 35 = .ok (.getfield 179, 3) := by decide +kernel
theorem d_QC_propose_38 : decode b_QC_propose 38 = .ok (.iload_n 2, 1) := by decide +kernel
theorem d_QC_propose_39 : decode b_QC_propose 39 = .ok (.invokevirtual 212, 3) := by decide +kernel
theorem d_QC_propose_42 : decode b_QC_propose 42 = .ok (.aload_n 0, 1) := by decide +kernel
theorem d_QC_propose_43 : decode b_QC_propose 43 = .ok (.aload_n 1, 1) := by decide +kernel
theorem d_QC_propose_44 : decode b_QC_propose 44 = .ok (.iconst 1, 1) := by decide +kernel
theorem d_QC_propose_45 : decode b_QC_propose 45 = .ok (.iload_n 2, 1) := by decide +kernel
theorem d_QC_propose_46 : decode b_QC_propose 46 = .ok (.iconst 0, 1) := by decide +kernel
theorem d_QC_propose_47 : decode b_QC_propose 47 = .ok (.invokevirtual 216, 3) := by decide +kernel
theorem d_QC_propose_50 : decode b_QC_propose 50 = .ok (.ifCond .eq 7, 3) := by decide +kernel
theorem d_QC_propose_53 : decode b_QC_propose 53 = .ok (.aload_n 0, 1) := by decide +kernel
theorem d_QC_propose_54 : decode b_QC_propose 54 = .ok (.invokevirtual 362, 3) := by decide +kernel
theorem d_QC_propose_57 : decode b_QC_propose 57 = .ok (.return_, 1) := by decide +kernel
def f_QC_propose (i1 : Nat) (S : St) : St :=
  if (S.1 19 0 0 4) < (100 : Int32) then
    lt (f_QC_firstNewTransaction i1 S) fun (r3 : Int32) =>
    lt (f_Blocks_add (S.1 3 i1 0 8) (S.1 3 i1 0 11) r3 S) fun (r5 : Int32 × St) =>
    lt (f_Store_keepBlock i1 r5.1 r5.2) fun (S8 : St) =>
    lt (f_QC_writeSigned i1 (1 : Int32) r5.1 (0 : Int32) S8) fun (r10 : Int32 × St) =>
    if r10.1 = 0 then
      r10.2
    else
      lt (f_QC_sendDraftToAll r10.2) fun (S14 : St) =>
      S14
  else
    S
def ok_QC_propose (i1 : Nat) (S : St) : Prop :=
  ((S.1 19 0 0 4) < (100 : Int32) → (
    (ok_QC_firstNewTransaction i1 S) ∧ (
      lt (f_QC_firstNewTransaction i1 S) fun (r3 : Int32) =>
      (ok_Blocks_add (S.1 3 i1 0 8) (S.1 3 i1 0 11) r3 S) ∧ (
        lt (f_Blocks_add (S.1 3 i1 0 8) (S.1 3 i1 0 11) r3 S) fun (r5 : Int32 × St) =>
        (ok_Store_keepBlock i1 r5.1 r5.2) ∧ (
          lt (f_Store_keepBlock i1 r5.1 r5.2) fun (S8 : St) =>
          (ok_QC_writeSigned i1 (1 : Int32) r5.1 (0 : Int32) S8) ∧ (
            lt (f_QC_writeSigned i1 (1 : Int32) r5.1 (0 : Int32) S8) fun (r10 : Int32 × St) =>
            (r10.1 = 0 → (
              True)) ∧ (¬ (r10.1 = 0) → (
              (ok_QC_sendDraftToAll r10.2) ∧ (
                True))))))))) ∧ (¬ ((S.1 19 0 0 4) < (100 : Int32)) → (
    True))
set_option maxHeartbeats 4000000 in
set_option maxRecDepth 100000 in
theorem c_QC_propose (l : Launch) (D : va_G) (X : va_W) (ad : N3 → Nat) (ca : Nat → ClassId) (i1 : Nat) (h1 : i1 < 4) (S : St) (hk : ok_QC_propose i1 S) : cV l GG D clQ (tysQ ca) nwQ X ad TQ (cfQ ad ca) y_QC_propose b_QC_propose 3 4 143 [.ref (ad (1, 0, 0)), .ref (ad (3, i1, 0))] S (f_QC_propose i1 S) := by
  generalize hr : f_QC_propose i1 S = res
  refine zV_of pn_QC (Nat.le_of_ble_eq_true rfl) (fun p e s m below meth c A ls hy hW hA hl => ?_)
  have hF := hy.1
  have hx := hF.1
  have hb := hF.2.1
  have hK := hy.2.2.2
  have hl : lv_has ls 3 [(0, .ref (ad (1, 0, 0))), (1, .ref (ad (3, i1, 0)))] := hl
  refine lv_aload_n (pc := 0) hx hb d_QC_propose_0 rfl (lv_at hl 0 rfl) ?_
  refine z_get (pc := 1) (v := .ref (ad (19, 0, 0))) hF hK.1 hW tq1 rfl rfl in_QC 1 (by decide) gw_345 rfl rfl d_QC_propose_1 ?_
  refine z_get (pc := 4) (v := .int (S.1 19 0 0 4)) hF hK.1 hW tq19 rfl rfl in_Blocks 4 (by decide) gw_93 rfl rfl d_QC_propose_4 ?_
  refine lv_bipush (pc := 7) (v := 100) hx hb d_QC_propose_7 (by decide) ?_
  refine lv_icmp_lt (pc := 9) (tgt := 13) hx hb d_QC_propose_9 (by decide) (fun c1 => ?_) (fun c1 => ?_)
  · have hk := hk.1 c1
    have hr := (if_pos c1).symm.trans hr
    refine lv_aload_n (pc := 13) hx hb d_QC_propose_13 rfl (lv_at hl 0 rfl) ?_
    refine z_get (pc := 14) (v := .ref (ad (19, 0, 0))) hF hK.1 hW tq1 rfl rfl in_QC 1 (by decide) gw_345 rfl rfl d_QC_propose_14 ?_
    refine lv_aload_n (pc := 17) hx hb d_QC_propose_17 rfl (lv_at hl 1 rfl) ?_
    refine z_get (pc := 18) (v := .int (S.1 3 i1 0 8)) hF hK.1 hW (tq3 h1) rfl rfl in_Node 8 (by decide) gw_312 rfl rfl d_QC_propose_18 ?_
    refine lv_aload_n (pc := 21) hx hb d_QC_propose_21 rfl (lv_at hl 1 rfl) ?_
    refine z_get (pc := 22) (v := .int (S.1 3 i1 0 11)) hF hK.1 hW (tq3 h1) rfl rfl in_Node 11 (by decide) gw_318 rfl rfl d_QC_propose_22 ?_
    refine lv_aload_n (pc := 25) hx hb d_QC_propose_25 rfl (lv_at hl 0 rfl) ?_
    refine lv_aload_n (pc := 26) hx hb d_QC_propose_26 rfl (lv_at hl 1 rfl) ?_
    have o2 := hk.1
    have hk := hk.2
    obtain ⟨r3, er3⟩ : ∃ z : Int32, z = f_QC_firstNewTransaction i1 S := ⟨_, rfl⟩
    have hk := lt_p er3 hk
    have hr := lt_e er3 hr
    refine z_goI (pc := 27) hW hA (congrArg (fun q => (q, S)) er3) (z_runV hF hK hW (c_QC_firstNewTransaction l D X ad ca i1 h1 S o2 _) cd_QC_firstNewTransaction gw_626 tq1 rfl rfl ⟨Nat.le_of_ble_eq_true rfl, Nat.le_of_ble_eq_true rfl⟩ ⟨Nat.zero_le _, Nat.zero_le _⟩ rfl rfl hl.1 (Nat.le_of_ble_eq_true rfl) d_QC_propose_27) (fun H locs (hW : Wd D clQ A s.heap (zw X ad TQ (cfQ ad ca) S) H locs) => ?_)
    have o4 := hk.1
    have hk := hk.2
    obtain ⟨r5, er5⟩ : ∃ z : Int32 × St, z = f_Blocks_add (S.1 3 i1 0 8) (S.1 3 i1 0 11) r3 S := ⟨_, rfl⟩
    have hk := lt_p er5 hk
    have hr := lt_e er5 hr
    refine z_goI (pc := 30) hW hA (show (r5.1, r5.2) = _ from er5) (z_runV hF hK hW (c_Blocks_add l D X ad ca (S.1 3 i1 0 8) (S.1 3 i1 0 11) r3 S o4 _) cd_Blocks_add gw_636 tq19 rfl rfl ⟨Nat.le_of_ble_eq_true rfl, Nat.le_of_ble_eq_true rfl⟩ ⟨Nat.zero_le _, Nat.zero_le _⟩ rfl rfl hl.1 (Nat.le_of_ble_eq_true rfl) d_QC_propose_30) (fun H locs (hW : Wd D clQ A s.heap (zw X ad TQ (cfQ ad ca) r5.2) H locs) => ?_)
    refine lv_istore_n (pc := 33) (lv' := [(2, .int r5.1), (0, .ref (ad (1, 0, 0))), (1, .ref (ad (3, i1, 0)))]) hx hb d_QC_propose_33 rfl hl (by decide) rfl (fun ls hl => ?_)
    refine lv_aload_n (pc := 34) hx hb d_QC_propose_34 rfl (lv_at hl 2 rfl) ?_
    refine z_get (pc := 35) (v := .ref (ad (4, i1, 0))) hF hK.1 hW (tq3 h1) rfl rfl in_Node 1 (by decide) gw_298 rfl rfl d_QC_propose_35 ?_
    refine lv_iload_n (pc := 38) hx hb d_QC_propose_38 rfl (lv_at hl 0 rfl) ?_
    have o6 := hk.1
    have hk := hk.2
    obtain ⟨S8, eS8⟩ : ∃ z : St, z = f_Store_keepBlock i1 r5.1 r5.2 := ⟨_, rfl⟩
    have hk := lt_p eS8 hk
    have hr := lt_e eS8 hr
    refine z_goV (pc := 39) hW hA eS8 (z_runV hF hK hW (c_Store_keepBlock l D X ad ca i1 r5.1 h1 r5.2 o6 _) cd_Store_keepBlock gw_640 (tq4 h1) rfl rfl ⟨Nat.le_of_ble_eq_true rfl, Nat.le_of_ble_eq_true rfl⟩ ⟨Nat.zero_le _, Nat.zero_le _⟩ rfl rfl hl.1 (Nat.le_of_ble_eq_true rfl) d_QC_propose_39) (fun H locs (hW : Wd D clQ A s.heap (zw X ad TQ (cfQ ad ca) S8) H locs) => ?_)
    refine lv_aload_n (pc := 42) hx hb d_QC_propose_42 rfl (lv_at hl 1 rfl) ?_
    refine lv_aload_n (pc := 43) hx hb d_QC_propose_43 rfl (lv_at hl 2 rfl) ?_
    refine lv_iconst (pc := 44) (v := 1) hx hb d_QC_propose_44 (by decide) ?_
    refine lv_iload_n (pc := 45) hx hb d_QC_propose_45 rfl (lv_at hl 0 rfl) ?_
    refine lv_iconst (pc := 46) (v := 0) hx hb d_QC_propose_46 (by decide) ?_
    have o9 := hk.1
    have hk := hk.2
    obtain ⟨r10, er10⟩ : ∃ z : Int32 × St, z = f_QC_writeSigned i1 (1 : Int32) r5.1 (0 : Int32) S8 := ⟨_, rfl⟩
    have hk := lt_p er10 hk
    have hr := lt_e er10 hr
    refine z_goI (pc := 47) hW hA (show (r10.1, r10.2) = _ from er10) (z_runV hF hK hW (c_QC_writeSigned l D X ad ca i1 (1 : Int32) r5.1 (0 : Int32) h1 S8 o9 _) cd_QC_writeSigned gw_377 tq1 rfl rfl ⟨Nat.le_of_ble_eq_true rfl, Nat.le_of_ble_eq_true rfl⟩ ⟨Nat.zero_le _, Nat.zero_le _⟩ rfl rfl hl.1 (Nat.le_of_ble_eq_true rfl) d_QC_propose_47) (fun H locs (hW : Wd D clQ A s.heap (zw X ad TQ (cfQ ad ca) r10.2) H locs) => ?_)
    refine lv_if_eq (pc := 50) (tgt := 57) hx hb d_QC_propose_50 (by decide) (fun c11 => ?_) (fun c11 => ?_)
    · have hk := hk.1 c11
      have hr := (if_pos c11).symm.trans hr
      exact z_vret hy hW hr.symm d_QC_propose_57
    · have hk := hk.2 c11
      have hr := (if_neg c11).symm.trans hr
      refine lv_aload_n (pc := 53) hx hb d_QC_propose_53 rfl (lv_at hl 1 rfl) ?_
      have o12 := hk.1
      have hk := hk.2
      obtain ⟨S14, eS14⟩ : ∃ z : St, z = f_QC_sendDraftToAll r10.2 := ⟨_, rfl⟩
      have hr := lt_e eS14 hr
      refine z_goV (pc := 54) hW hA eS14 (z_runV hF hK hW (c_QC_sendDraftToAll l D X ad ca r10.2 o12 _) cd_QC_sendDraftToAll gw_407 tq1 rfl rfl ⟨Nat.le_of_ble_eq_true rfl, Nat.le_of_ble_eq_true rfl⟩ ⟨Nat.zero_le _, Nat.zero_le _⟩ rfl rfl hl.1 (Nat.le_of_ble_eq_true rfl) d_QC_propose_54) (fun H locs (hW : Wd D clQ A s.heap (zw X ad TQ (cfQ ad ca) S14) H locs) => ?_)
      exact z_vret hy hW hr.symm d_QC_propose_57
  · have hk := hk.2 c1
    have hr := (if_neg c1).symm.trans hr
    exact z_vret hy hW hr.symm d_QC_propose_12
theorem d_QC_receiveVote_0 : decode b_QC_receiveVote 0 = .ok (.aload_n 0, 1) := by decide +kernel
theorem d_QC_receiveVote_1 : decode b_QC_receiveVote 1 = .ok (.getfield 18, 3) := by decide +kernel
theorem d_QC_receiveVote_4 : decode b_QC_receiveVote 4 = .ok (.iload_n 3, 1) := by decide +kernel
theorem d_QC_receiveVote_5 : decode b_QC_receiveVote 5 = .ok (.invokevirtual 203, 3) := by decide +kernel
theorem d_QC_receiveVote_8 : decode b_QC_receiveVote 8 = .ok (.iconst 1, 1) := by decide +kernel
theorem d_QC_receiveVote_9 : decode b_QC_receiveVote 9 = .ok (.iadd, 1) := by decide +kernel
theorem d_QC_receiveVote_10 : decode b_QC_receiveVote 10 = .ok (.istore 4, 2) := by decide +kernel
theorem d_QC_receiveVote_12 : decode b_QC_receiveVote 12 = .ok (.aload_n 1, 1) := by decide +kernel
theorem d_QC_receiveVote_13 : decode b_QC_receiveVote 13 = .ok (.getfield 179, 3) := by decide +kernel
theorem d_QC_receiveVote_16 : decode b_QC_receiveVote 16 = .ok (.iload_n 3, 1) := by decide +kernel
theorem d_QC_receiveVote_17 : decode b_QC_receiveVote 17 = .ok (.invokevirtual 195, 3) := by decide +kernel
theorem d_QC_receiveVote_20 : decode b_QC_receiveVote 20 = .ok (.ifCond .eq 15, 3) := by decide +kernel
theorem d_QC_receiveVote_23 : decode b_QC_receiveVote 23 = .ok (.iload 4, 2) := by decide +kernel
theorem d_QC_receiveVote_25 : decode b_QC_receiveVote 25 = .ok (.invokestatic 173, 3) := by decide +kernel
theorem d_QC_receiveVote_28 : decode b_QC_receiveVote 28 = .ok (.aload_n 1, 1) := by decide +kernel
theorem d_QC_receiveVote_29 : decode b_QC_receiveVote 29 = .ok (.getfield 339, 3) := by decide +kernel
theorem d_QC_receiveVote_32 : decode b_QC_receiveVote 32 = .ok (.if_icmp .eq 4, 3) := by decide +kernel
theorem d_QC_receiveVote_35 : decode b_QC_receiveVote 35 = .ok (.return_, 1) := by decide +kernel
theorem d_QC_receiveVote_36 : decode b_QC_receiveVote 36 = .ok (.aload_n 1, 1) := by decide +kernel
theorem d_QC_receiveVote_37 : decode b_QC_receiveVote 37 = .ok (.getfield 342, 3) := by decide +kernel
theorem d_QC_receiveVote_40 : decode b_QC_receiveVote 40 = .ok (.iload_n 3, 1) := by decide +kernel
theorem d_QC_receiveVote_41 : decode b_QC_receiveVote 41 = .ok (.iload_n 2, 1) := by decide +kernel
theorem d_QC_receiveVote_42 : decode b_QC_receiveVote 42 = .ok (.invokevirtual 346, 3) := by decide +kernel
theorem d_QC_receiveVote_45 : decode b_QC_receiveVote 45 = .ok (.iconst 3, 1) := by decide +kernel
theorem d_QC_receiveVote_46 : decode b_QC_receiveVote 46 = .ok (.if_icmp .eq 4, 3) := by decide +kernel
theorem d_QC_receiveVote_49 : decode b_QC_receiveVote 49 = .ok (.return_, 1) := by decide +kernel
theorem d_QC_receiveVote_50 : decode b_QC_receiveVote 50 = .ok (.aload_n 0, 1) := by decide +kernel
theorem d_QC_receiveVote_51 : decode b_QC_receiveVote 51 = .ok (.getfield 18, 3) := by decide +kernel
theorem d_QC_receiveVote_54 : decode b_QC_receiveVote 54 = .ok (.iload_n 3, 1) := by decide +kernel
theorem d_QC_receiveVote_55 : decode b_QC_receiveVote 55 = .ok (.invokevirtual 352, 3) := by decide +kernel
theorem d_QC_receiveVote_58 : decode b_QC_receiveVote 58 = .ok (.iload 4, 2) := by decide +kernel
theorem d_QC_receiveVote_60 : decode b_QC_receiveVote 60 = .ok (.aload_n 1, 1) := by decide +kernel
theorem d_QC_receiveVote_61 : decode b_QC_receiveVote 61 = .ok (.getfield 88, 3) := by decide +kernel
theorem d_QC_receiveVote_64 : decode b_QC_receiveVote 64 = .ok (.if_icmp .lt 34, 3) := by decide +kernel
theorem d_QC_receiveVote_67 : decode b_QC_receiveVote 67 = .ok (.aload_n 0, 1) := by decide +kernel
theorem d_QC_receiveVote_68 : decode b_QC_receiveVote 68 = .ok (.getfield 18, 3) := by decide +kernel
theorem d_QC_receiveVote_71 : decode b_QC_receiveVote 71 = .ok (.iload_n 3, 1) := by decide +kernel
theorem d_QC_receiveVote_72 : decode b_QC_receiveVote 72 = .ok (.aload_n 1, 1) := by decide +kernel
theorem d_QC_receiveVote_73 : decode b_QC_receiveVote 73 = .ok (.getfield 248, 3) := by decide +kernel
theorem d_QC_receiveVote_76 : decode b_QC_receiveVote 76 = .ok (.invokevirtual 302, 3) := by decide +kernel
theorem d_QC_receiveVote_79 : decode b_QC_receiveVote 79 = .ok (.ifCond .eq 19, 3) := by decide +kernel
theorem d_QC_receiveVote_82 : decode b_QC_receiveVote 82 = .ok (.aload_n 1, 1) := by decide +kernel
theorem d_QC_receiveVote_83 : decode b_QC_receiveVote 83 = .ok (.iload_n 3, 1) := by decide +kernel
theorem d_QC_receiveVote_84 : decode b_QC_receiveVote 84 = .ok (.putfield 248, 3) := by decide +kernel
theorem d_QC_receiveVote_87 : decode b_QC_receiveVote 87 = .ok (.aload_n 1, 1) := by decide +kernel
theorem d_QC_receiveVote_88 : decode b_QC_receiveVote 88 = .ok (.iload 4, 2) := by decide +kernel
theorem d_QC_receiveVote_90 : decode b_QC_receiveVote 90 = .ok (.invokevirtual 336, 3) := by decide +kernel
theorem d_QC_receiveVote_93 : decode b_QC_receiveVote 93 = .ok (.aload_n 0, 1) := by decide +kernel
theorem d_QC_receiveVote_94 : decode b_QC_receiveVote 94 = .ok (.aload_n 1, 1) := by decide +kernel
theorem d_QC_receiveVote_95 : decode b_QC_receiveVote 95 = .ok (.invokevirtual 93, 3) := by decide +kernel
theorem d_QC_receiveVote_98 : decode b_QC_receiveVote 98 = .ok (.return_, 1) := by decide +kernel
def f_QC_receiveVote (i1 : Nat) (a2 : Int32) (a3 : Int32) (S : St) : St :=
  lt (f_Blocks_viewOf a3 S) fun (r2 : Int32) =>
  lt (f_Store_hasBlock i1 a3 S) fun (r4 : Int32) =>
  if r4 = 0 then
    S
  else
    lt (f_QC_leaderOf (r2 + (1 : Int32)) S) fun (r6 : Int32) =>
    if r6 = (S.1 3 i1 0 0) then
      lt (f_Tally_keep i1 0 a3 a2 S) fun (r9 : Int32 × St) =>
      if r9.1 = (3 : Int32) then
        lt (f_Blocks_certify a3 r9.2) fun (S13 : St) =>
        if (r2 + (1 : Int32)) < (S13.1 3 i1 0 8) then
          S13
        else
          lt (f_Blocks_isAbove a3 (S13.1 3 i1 0 11) S13) fun (r16 : Int32) =>
          if r16 = 0 then
            S13
          else
            lt (si S13 3 i1 0 11 a3) fun (S18 : St) =>
            lt (f_Node_enter i1 (r2 + (1 : Int32)) S18) fun (S20 : St) =>
            lt (f_QC_propose i1 S20) fun (S23 : St) =>
            S23
      else
        r9.2
    else
      S
def ok_QC_receiveVote (i1 : Nat) (a2 : Int32) (a3 : Int32) (S : St) : Prop :=
  (ok_Blocks_viewOf a3 S) ∧ (
    lt (f_Blocks_viewOf a3 S) fun (r2 : Int32) =>
    (ok_Store_hasBlock i1 a3 S) ∧ (
      lt (f_Store_hasBlock i1 a3 S) fun (r4 : Int32) =>
      (r4 = 0 → (
        True)) ∧ (¬ (r4 = 0) → (
        lt (f_QC_leaderOf (r2 + (1 : Int32)) S) fun (r6 : Int32) =>
        (r6 = (S.1 3 i1 0 0) → (
          (ok_Tally_keep i1 0 a3 a2 S) ∧ (
            lt (f_Tally_keep i1 0 a3 a2 S) fun (r9 : Int32 × St) =>
            (r9.1 = (3 : Int32) → (
              (ok_Blocks_certify a3 r9.2) ∧ (
                lt (f_Blocks_certify a3 r9.2) fun (S13 : St) =>
                ((r2 + (1 : Int32)) < (S13.1 3 i1 0 8) → (
                  True)) ∧ (¬ ((r2 + (1 : Int32)) < (S13.1 3 i1 0 8)) → (
                  (ok_Blocks_isAbove a3 (S13.1 3 i1 0 11) S13) ∧ (
                    lt (f_Blocks_isAbove a3 (S13.1 3 i1 0 11) S13) fun (r16 : Int32) =>
                    (r16 = 0 → (
                      True)) ∧ (¬ (r16 = 0) → (
                      lt (si S13 3 i1 0 11 a3) fun (S18 : St) =>
                      lt (f_Node_enter i1 (r2 + (1 : Int32)) S18) fun (S20 : St) =>
                      (ok_QC_propose i1 S20) ∧ (
                        True))))))))) ∧ (¬ (r9.1 = (3 : Int32)) → (
              True))))) ∧ (¬ (r6 = (S.1 3 i1 0 0)) → (
          True))))))
set_option maxHeartbeats 4000000 in
set_option maxRecDepth 100000 in
theorem c_QC_receiveVote (l : Launch) (D : va_G) (X : va_W) (ad : N3 → Nat) (ca : Nat → ClassId) (i1 : Nat) (a2 : Int32) (a3 : Int32) (h1 : i1 < 4) (S : St) (hk : ok_QC_receiveVote i1 a2 a3 S) : cV l GG D clQ (tysQ ca) nwQ X ad TQ (cfQ ad ca) y_QC_receiveVote b_QC_receiveVote 5 5 165 [.ref (ad (1, 0, 0)), .ref (ad (3, i1, 0)), .int a2, .int a3] S (f_QC_receiveVote i1 a2 a3 S) := by
  generalize hr : f_QC_receiveVote i1 a2 a3 S = res
  refine zV_of pn_QC (Nat.le_of_ble_eq_true rfl) (fun p e s m below meth c A ls hy hW hA hl => ?_)
  have hF := hy.1
  have hx := hF.1
  have hb := hF.2.1
  have hK := hy.2.2.2
  have hl : lv_has ls 5 [(0, .ref (ad (1, 0, 0))), (1, .ref (ad (3, i1, 0))), (2, .int a2), (3, .int a3)] := hl
  refine lv_aload_n (pc := 0) hx hb d_QC_receiveVote_0 rfl (lv_at hl 0 rfl) ?_
  refine z_get (pc := 1) (v := .ref (ad (19, 0, 0))) hF hK.1 hW tq1 rfl rfl in_QC 1 (by decide) gw_345 rfl rfl d_QC_receiveVote_1 ?_
  refine lv_iload_n (pc := 4) hx hb d_QC_receiveVote_4 rfl (lv_at hl 3 rfl) ?_
  have o1 := hk.1
  have hk := hk.2
  obtain ⟨r2, er2⟩ : ∃ z : Int32, z = f_Blocks_viewOf a3 S := ⟨_, rfl⟩
  have hk := lt_p er2 hk
  have hr := lt_e er2 hr
  refine z_goI (pc := 5) hW hA (congrArg (fun q => (q, S)) er2) (z_runV hF hK hW (c_Blocks_viewOf l D X ad ca a3 S o1 _) cd_Blocks_viewOf gw_456 tq19 rfl rfl ⟨Nat.le_of_ble_eq_true rfl, Nat.le_of_ble_eq_true rfl⟩ ⟨Nat.zero_le _, Nat.zero_le _⟩ rfl rfl hl.1 (Nat.le_of_ble_eq_true rfl) d_QC_receiveVote_5) (fun H locs (hW : Wd D clQ A s.heap (zw X ad TQ (cfQ ad ca) S) H locs) => ?_)
  refine lv_iconst (pc := 8) (v := 1) hx hb d_QC_receiveVote_8 (by decide) ?_
  refine lv_iadd (pc := 9) hx hb d_QC_receiveVote_9 ?_
  refine lv_istore (pc := 10) (lv' := [(4, .int (r2 + (1 : Int32))), (0, .ref (ad (1, 0, 0))), (1, .ref (ad (3, i1, 0))), (2, .int a2), (3, .int a3)]) hx hb d_QC_receiveVote_10 hl (by decide) rfl (fun ls hl => ?_)
  refine lv_aload_n (pc := 12) hx hb d_QC_receiveVote_12 rfl (lv_at hl 2 rfl) ?_
  refine z_get (pc := 13) (v := .ref (ad (4, i1, 0))) hF hK.1 hW (tq3 h1) rfl rfl in_Node 1 (by decide) gw_298 rfl rfl d_QC_receiveVote_13 ?_
  refine lv_iload_n (pc := 16) hx hb d_QC_receiveVote_16 rfl (lv_at hl 4 rfl) ?_
  have o3 := hk.1
  have hk := hk.2
  obtain ⟨r4, er4⟩ : ∃ z : Int32, z = f_Store_hasBlock i1 a3 S := ⟨_, rfl⟩
  have hk := lt_p er4 hk
  have hr := lt_e er4 hr
  refine z_goI (pc := 17) hW hA (congrArg (fun q => (q, S)) er4) (z_runV hF hK hW (c_Store_hasBlock l D X ad ca i1 a3 h1 S o3 _) cd_Store_hasBlock gw_477 (tq4 h1) rfl rfl ⟨Nat.le_of_ble_eq_true rfl, Nat.le_of_ble_eq_true rfl⟩ ⟨Nat.zero_le _, Nat.zero_le _⟩ rfl rfl hl.1 (Nat.le_of_ble_eq_true rfl) d_QC_receiveVote_17) (fun H locs (hW : Wd D clQ A s.heap (zw X ad TQ (cfQ ad ca) S) H locs) => ?_)
  refine lv_if_eq (pc := 20) (tgt := 35) hx hb d_QC_receiveVote_20 (by decide) (fun c5 => ?_) (fun c5 => ?_)
  · have hk := hk.1 c5
    have hr := (if_pos c5).symm.trans hr
    exact z_vret hy hW hr.symm d_QC_receiveVote_35
  · have hk := hk.2 c5
    have hr := (if_neg c5).symm.trans hr
    refine lv_iload (pc := 23) hx hb d_QC_receiveVote_23 (lv_at hl 0 rfl) ?_
    obtain ⟨r6, er6⟩ : ∃ z : Int32, z = f_QC_leaderOf (r2 + (1 : Int32)) S := ⟨_, rfl⟩
    have hk := lt_p er6 hk
    have hr := lt_e er6 hr
    refine z_goI (pc := 25) hW hA (congrArg (fun q => (q, S)) er6) (z_runS hF hK hW (c_QC_leaderOf l D X ad ca (r2 + (1 : Int32)) S _) cd_QC_leaderOf gw_670 ⟨Nat.le_of_ble_eq_true rfl, Nat.le_of_ble_eq_true rfl⟩ ⟨Nat.zero_le _, Nat.zero_le _⟩ rfl rfl hl.1 (Nat.le_of_ble_eq_true rfl) d_QC_receiveVote_25) (fun H locs (hW : Wd D clQ A s.heap (zw X ad TQ (cfQ ad ca) S) H locs) => ?_)
    refine lv_aload_n (pc := 28) hx hb d_QC_receiveVote_28 rfl (lv_at hl 2 rfl) ?_
    refine z_get (pc := 29) (v := .int (S.1 3 i1 0 0)) hF hK.1 hW (tq3 h1) rfl rfl in_Node 0 (by decide) gw_296 rfl rfl d_QC_receiveVote_29 ?_
    refine lv_icmp_eq (pc := 32) (tgt := 36) hx hb d_QC_receiveVote_32 (by decide) (fun c7 => ?_) (fun c7 => ?_)
    · have hk := hk.1 c7
      have hr := (if_pos c7).symm.trans hr
      refine lv_aload_n (pc := 36) hx hb d_QC_receiveVote_36 rfl (lv_at hl 2 rfl) ?_
      refine z_get (pc := 37) (v := .ref (ad (16, i1, 0))) hF hK.1 hW (tq3 h1) rfl rfl in_Node 3 (by decide) gw_302 rfl rfl d_QC_receiveVote_37 ?_
      refine lv_iload_n (pc := 40) hx hb d_QC_receiveVote_40 rfl (lv_at hl 4 rfl) ?_
      refine lv_iload_n (pc := 41) hx hb d_QC_receiveVote_41 rfl (lv_at hl 3 rfl) ?_
      have o8 := hk.1
      have hk := hk.2
      obtain ⟨r9, er9⟩ : ∃ z : Int32 × St, z = f_Tally_keep i1 0 a3 a2 S := ⟨_, rfl⟩
      have hk := lt_p er9 hk
      have hr := lt_e er9 hr
      refine z_goI (pc := 42) hW hA (show (r9.1, r9.2) = _ from er9) (z_runV hF hK hW (c_Tally_keep l D X ad ca i1 0 a3 a2 (⟨h1, by decide⟩) S o8 _) cd_Tally_keep gw_747 (tq16 (⟨h1, by decide⟩)) rfl rfl ⟨Nat.le_of_ble_eq_true rfl, Nat.le_of_ble_eq_true rfl⟩ ⟨Nat.zero_le _, Nat.zero_le _⟩ rfl rfl hl.1 (Nat.le_of_ble_eq_true rfl) d_QC_receiveVote_42) (fun H locs (hW : Wd D clQ A s.heap (zw X ad TQ (cfQ ad ca) r9.2) H locs) => ?_)
      refine lv_iconst (pc := 45) (v := 3) hx hb d_QC_receiveVote_45 (by decide) ?_
      refine lv_icmp_eq (pc := 46) (tgt := 50) hx hb d_QC_receiveVote_46 (by decide) (fun c10 => ?_) (fun c10 => ?_)
      · have hk := hk.1 c10
        have hr := (if_pos c10).symm.trans hr
        refine lv_aload_n (pc := 50) hx hb d_QC_receiveVote_50 rfl (lv_at hl 1 rfl) ?_
        refine z_get (pc := 51) (v := .ref (ad (19, 0, 0))) hF hK.1 hW tq1 rfl rfl in_QC 1 (by decide) gw_345 rfl rfl d_QC_receiveVote_51 ?_
        refine lv_iload_n (pc := 54) hx hb d_QC_receiveVote_54 rfl (lv_at hl 4 rfl) ?_
        have o11 := hk.1
        have hk := hk.2
        obtain ⟨S13, eS13⟩ : ∃ z : St, z = f_Blocks_certify a3 r9.2 := ⟨_, rfl⟩
        have hk := lt_p eS13 hk
        have hr := lt_e eS13 hr
        refine z_goV (pc := 55) hW hA eS13 (z_runV hF hK hW (c_Blocks_certify l D X ad ca a3 r9.2 o11 _) cd_Blocks_certify gw_757 tq19 rfl rfl ⟨Nat.le_of_ble_eq_true rfl, Nat.le_of_ble_eq_true rfl⟩ ⟨Nat.zero_le _, Nat.zero_le _⟩ rfl rfl hl.1 (Nat.le_of_ble_eq_true rfl) d_QC_receiveVote_55) (fun H locs (hW : Wd D clQ A s.heap (zw X ad TQ (cfQ ad ca) S13) H locs) => ?_)
        refine lv_iload (pc := 58) hx hb d_QC_receiveVote_58 (lv_at hl 0 rfl) ?_
        refine lv_aload_n (pc := 60) hx hb d_QC_receiveVote_60 rfl (lv_at hl 2 rfl) ?_
        refine z_get (pc := 61) (v := .int (S13.1 3 i1 0 8)) hF hK.1 hW (tq3 h1) rfl rfl in_Node 8 (by decide) gw_312 rfl rfl d_QC_receiveVote_61 ?_
        refine lv_icmp_lt (pc := 64) (tgt := 98) hx hb d_QC_receiveVote_64 (by decide) (fun c14 => ?_) (fun c14 => ?_)
        · have hk := hk.1 c14
          have hr := (if_pos c14).symm.trans hr
          exact z_vret hy hW hr.symm d_QC_receiveVote_98
        · have hk := hk.2 c14
          have hr := (if_neg c14).symm.trans hr
          refine lv_aload_n (pc := 67) hx hb d_QC_receiveVote_67 rfl (lv_at hl 1 rfl) ?_
          refine z_get (pc := 68) (v := .ref (ad (19, 0, 0))) hF hK.1 hW tq1 rfl rfl in_QC 1 (by decide) gw_345 rfl rfl d_QC_receiveVote_68 ?_
          refine lv_iload_n (pc := 71) hx hb d_QC_receiveVote_71 rfl (lv_at hl 4 rfl) ?_
          refine lv_aload_n (pc := 72) hx hb d_QC_receiveVote_72 rfl (lv_at hl 2 rfl) ?_
          refine z_get (pc := 73) (v := .int (S13.1 3 i1 0 11)) hF hK.1 hW (tq3 h1) rfl rfl in_Node 11 (by decide) gw_318 rfl rfl d_QC_receiveVote_73 ?_
          have o15 := hk.1
          have hk := hk.2
          obtain ⟨r16, er16⟩ : ∃ z : Int32, z = f_Blocks_isAbove a3 (S13.1 3 i1 0 11) S13 := ⟨_, rfl⟩
          have hk := lt_p er16 hk
          have hr := lt_e er16 hr
          refine z_goI (pc := 76) hW hA (congrArg (fun q => (q, S13)) er16) (z_runV hF hK hW (c_Blocks_isAbove l D X ad ca a3 (S13.1 3 i1 0 11) S13 o15 _) cd_Blocks_isAbove gw_694 tq19 rfl rfl ⟨Nat.le_of_ble_eq_true rfl, Nat.le_of_ble_eq_true rfl⟩ ⟨Nat.zero_le _, Nat.zero_le _⟩ rfl rfl hl.1 (Nat.le_of_ble_eq_true rfl) d_QC_receiveVote_76) (fun H locs (hW : Wd D clQ A s.heap (zw X ad TQ (cfQ ad ca) S13) H locs) => ?_)
          refine lv_if_eq (pc := 79) (tgt := 98) hx hb d_QC_receiveVote_79 (by decide) (fun c17 => ?_) (fun c17 => ?_)
          · have hk := hk.1 c17
            have hr := (if_pos c17).symm.trans hr
            exact z_vret hy hW hr.symm d_QC_receiveVote_98
          · have hk := hk.2 c17
            have hr := (if_neg c17).symm.trans hr
            refine lv_aload_n (pc := 82) hx hb d_QC_receiveVote_82 rfl (lv_at hl 2 rfl) ?_
            refine lv_iload_n (pc := 83) hx hb d_QC_receiveVote_83 rfl (lv_at hl 4 rfl) ?_
            obtain ⟨S18, eS18⟩ : ∃ z : St, z = si S13 3 i1 0 11 a3 := ⟨_, rfl⟩
            have hk := lt_p eS18 hk
            have hr := lt_e eS18 hr
            refine z_put (pc := 84) (S' := S18) hF hK.1 hW (tq3 h1) rfl rfl in_Node t_Node tyo_Node nmo_Node 11 (by decide) gw_318 rfl rfl rfl rfl rfl (Nat.le_of_ble_eq_true rfl) (zs_si eS18 rfl) (zs_sio eS18) d_QC_receiveVote_84 (fun H locs (hW : Wd D clQ A s.heap (zw X ad TQ (cfQ ad ca) S18) H locs) => ?_)
            refine lv_aload_n (pc := 87) hx hb d_QC_receiveVote_87 rfl (lv_at hl 2 rfl) ?_
            refine lv_iload (pc := 88) hx hb d_QC_receiveVote_88 (lv_at hl 0 rfl) ?_
            obtain ⟨S20, eS20⟩ : ∃ z : St, z = f_Node_enter i1 (r2 + (1 : Int32)) S18 := ⟨_, rfl⟩
            have hk := lt_p eS20 hk
            have hr := lt_e eS20 hr
            refine z_goV (pc := 90) hW hA eS20 (z_runV hF hK hW (c_Node_enter l D X ad ca i1 (r2 + (1 : Int32)) h1 S18 _) cd_Node_enter gw_739 (tq3 h1) rfl rfl ⟨Nat.le_of_ble_eq_true rfl, Nat.le_of_ble_eq_true rfl⟩ ⟨Nat.zero_le _, Nat.zero_le _⟩ rfl rfl hl.1 (Nat.le_of_ble_eq_true rfl) d_QC_receiveVote_90) (fun H locs (hW : Wd D clQ A s.heap (zw X ad TQ (cfQ ad ca) S20) H locs) => ?_)
            refine lv_aload_n (pc := 93) hx hb d_QC_receiveVote_93 rfl (lv_at hl 1 rfl) ?_
            refine lv_aload_n (pc := 94) hx hb d_QC_receiveVote_94 rfl (lv_at hl 2 rfl) ?_
            have o21 := hk.1
            have hk := hk.2
            obtain ⟨S23, eS23⟩ : ∃ z : St, z = f_QC_propose i1 S20 := ⟨_, rfl⟩
            have hr := lt_e eS23 hr
            refine z_goV (pc := 95) hW hA eS23 (z_runV hF hK hW (c_QC_propose l D X ad ca i1 h1 S20 o21 _) cd_QC_propose gw_622 tq1 rfl rfl ⟨Nat.le_of_ble_eq_true rfl, Nat.le_of_ble_eq_true rfl⟩ ⟨Nat.zero_le _, Nat.zero_le _⟩ rfl rfl hl.1 (Nat.le_of_ble_eq_true rfl) d_QC_receiveVote_95) (fun H locs (hW : Wd D clQ A s.heap (zw X ad TQ (cfQ ad ca) S23) H locs) => ?_)
            exact z_vret hy hW hr.symm d_QC_receiveVote_98
      · have hk := hk.2 c10
        have hr := (if_neg c10).symm.trans hr
        exact z_vret hy hW hr.symm d_QC_receiveVote_49
    · have hk := hk.2 c7
      have hr := (if_neg c7).symm.trans hr
      exact z_vret hy hW hr.symm d_QC_receiveVote_35
theorem d_QC_receiveTimeout_0 : decode b_QC_receiveTimeout 0 = .ok (.aload_n 1, 1) := by decide +kernel
theorem d_QC_receiveTimeout_1 : decode b_QC_receiveTimeout 1 = .ok (.getfield 179, 3) := by decide +kernel
theorem d_QC_receiveTimeout_4 : decode b_QC_receiveTimeout 4 = .ok (.iload 4, 2) := by decide +kernel
theorem d_QC_receiveTimeout_6 : decode b_QC_receiveTimeout 6 = .ok (.invokevirtual 195, 3) := by decide +kernel
theorem d_QC_receiveTimeout_9 : decode b_QC_receiveTimeout 9 = .ok (.ifCond .eq 22, 3) := by decide +kernel
theorem d_QC_receiveTimeout_12 : decode b_QC_receiveTimeout 12 = .ok (.aload_n 0, 1) := by decide +kernel
theorem d_QC_receiveTimeout_13 : decode b_QC_receiveTimeout 13 = .ok (.getfield 18, 3) := by decide +kernel
theorem d_QC_receiveTimeout_16 : decode b_QC_receiveTimeout 16 = .ok (.iload 4, 2) := by decide +kernel
theorem d_QC_receiveTimeout_18 : decode b_QC_receiveTimeout 18 = .ok (.invokevirtual 200, 3) := by decide +kernel
theorem d_QC_receiveTimeout_21 : decode b_QC_receiveTimeout 21 = .ok (.ifCond .eq 10, 3) := by decide +kernel
theorem d_QC_receiveTimeout_24 : decode b_QC_receiveTimeout 24 = .ok (.aload_n 0, 1) := by decide +kernel
theorem d_QC_receiveTimeout_25 : decode b_QC_receiveTimeout 25 = .ok (.aload_n 1, 1) := by decide +kernel
theorem d_QC_receiveTimeout_26 : decode b_QC_receiveTimeout 26 = .ok (.iload 4, 2) := by decide +kernel
theorem d_QC_receiveTimeout_28 : decode b_QC_receiveTimeout 28 = .ok (.invokevirtual 323, 3) := by decide +kernel
theorem d_QC_receiveTimeout_31 : decode b_QC_receiveTimeout 31 = .ok (.aload_n 1, 1) := by decide +kernel
theorem d_QC_receiveTimeout_32 : decode b_QC_receiveTimeout 32 = .ok (.getfield 355, 3) := by decide +kernel
theorem d_QC_receiveTimeout_35 : decode b_QC_receiveTimeout 35 = .ok (.iload_n 3, 1) := by decide +kernel
theorem d_QC_receiveTimeout_36 : decode b_QC_receiveTimeout 36 = .ok (.iload_n 2, 1) := by decide +kernel
theorem d_QC_receiveTimeout_37 : decode b_QC_receiveTimeout 37 = .ok (.invokevirtual 346, 3) := by decide +kernel
theorem d_QC_receiveTimeout_40 : decode b_QC_receiveTimeout 40 = .ok (.iconst 3, 1) := by decide +kernel
theorem d_QC_receiveTimeout_41 : decode b_QC_receiveTimeout 41 = .ok (.if_icmp .ne 11, 3) := by decide +kernel
theorem d_QC_receiveTimeout_44 : decode b_QC_receiveTimeout 44 = .ok (.iload_n 3, 1) := by decide +kernel
theorem d_QC_receiveTimeout_45 : decode b_QC_receiveTimeout 45 = .ok (.aload_n 1, 1) := by decide +kernel
theorem d_QC_receiveTimeout_46 : decode b_QC_receiveTimeout 46 = .ok (.getfield 88, 3) := by decide +kernel
theorem d_QC_receiveTimeout_49 : decode b_QC_receiveTimeout 49 = .ok (.if_icmp .ge 4, 3) := by decide +kernel
theorem d_QC_receiveTimeout_52 : decode b_QC_receiveTimeout 52 = .ok (.return_, 1) := by decide +kernel
theorem d_QC_receiveTimeout_53 : decode b_QC_receiveTimeout 53 = .ok (.aload_n 1, 1) := by decide +kernel
theorem d_QC_receiveTimeout_54 : decode b_QC_receiveTimeout 54 = .ok (.iload_n 3, 1) := by decide +kernel
theorem d_QC_receiveTimeout_55 : decode b_QC_receiveTimeout 55 = .ok (.iconst 1, 1) := by decide +kernel
theorem d_QC_receiveTimeout_56 : decode b_QC_receiveTimeout 56 = .ok (.iadd, 1) := by decide +kernel
theorem d_QC_receiveTimeout_57 : decode b_QC_receiveTimeout 57 = .ok (.invokevirtual 336, 3) := by decide +kernel
theorem d_QC_receiveTimeout_60 : decode b_QC_receiveTimeout 60 = .ok (.aload_n 1, 1) := by decide +kernel
theorem d_QC_receiveTimeout_61 : decode b_QC_receiveTimeout 61 = .ok (.getfield 88, 3) := by decide +kernel
theorem d_QC_receiveTimeout_64 : decode b_QC_receiveTimeout 64 = .ok (.invokestatic 173, 3) := by decide +kernel
theorem d_QC_receiveTimeout_67 : decode b_QC_receiveTimeout 67 = .ok (.aload_n 1, 1) := by decide +kernel
theorem d_QC_receiveTimeout_68 : decode b_QC_receiveTimeout 68 = .ok (.getfield 339, 3) := by decide +kernel
theorem d_QC_receiveTimeout_71 : decode b_QC_receiveTimeout 71 = .ok (.if_icmp .ne 8, 3) := by decide +kernel
theorem d_QC_receiveTimeout_74 : decode b_QC_receiveTimeout 74 = .ok (.aload_n 0, 1) := by decide +kernel
theorem d_QC_receiveTimeout_75 : decode b_QC_receiveTimeout 75 = .ok (.aload_n 1, 1) := by decide +kernel
theorem d_QC_receiveTimeout_76 : decode b_QC_receiveTimeout 76 = .ok (.invokevirtual 93, 3) := by decide +kernel
theorem d_QC_receiveTimeout_79 : decode b_QC_receiveTimeout 79 = .ok (.return_, 1) := by decide +kernel
def f_QC_receiveTimeout_31 (i1 : Nat) (a2 : Int32) (a3 : Int32) (a4 : Int32) (S : St)  : St :=
  lt (f_Tally_keep i1 1 a3 a2 S) fun (r11 : Int32 × St) =>
  if r11.1 = (3 : Int32) then
    if (r11.2.1 3 i1 0 8) ≤ a3 then
      lt (f_Node_enter i1 (a3 + (1 : Int32)) r11.2) fun (S15 : St) =>
      lt (f_QC_leaderOf (S15.1 3 i1 0 8) S15) fun (r16 : Int32) =>
      if r16 = (S15.1 3 i1 0 0) then
        lt (f_QC_propose i1 S15) fun (S20 : St) =>
        S20
      else
        S15
    else
      r11.2
  else
    r11.2
def ok_QC_receiveTimeout_31 (i1 : Nat) (a2 : Int32) (a3 : Int32) (a4 : Int32) (S : St)  : Prop :=
  (ok_Tally_keep i1 1 a3 a2 S) ∧ (
    lt (f_Tally_keep i1 1 a3 a2 S) fun (r11 : Int32 × St) =>
    (r11.1 = (3 : Int32) → (
      ((r11.2.1 3 i1 0 8) ≤ a3 → (
        lt (f_Node_enter i1 (a3 + (1 : Int32)) r11.2) fun (S15 : St) =>
        lt (f_QC_leaderOf (S15.1 3 i1 0 8) S15) fun (r16 : Int32) =>
        (r16 = (S15.1 3 i1 0 0) → (
          (ok_QC_propose i1 S15) ∧ (
            True))) ∧ (¬ (r16 = (S15.1 3 i1 0 0)) → (
          True)))) ∧ (¬ ((r11.2.1 3 i1 0 8) ≤ a3) → (
        True)))) ∧ (¬ (r11.1 = (3 : Int32)) → (
      True)))
set_option maxHeartbeats 4000000 in
set_option maxRecDepth 100000 in
theorem w_QC_receiveTimeout_31 {l : Launch} {D : va_G} {X : va_W} {ad : N3 → Nat} {ca : Nat → ClassId} (i1 : Nat) (a2 : Int32) (a3 : Int32) (a4 : Int32) (h1 : i1 < 4) {p : Program} {e : Env} {s : State} {m : MethodId} {below : List Frame} {meth : Method} {c : Code} {A : Nat → Prop} (hy : Hy p s m ([.ref (ad (1, 0, 0)), .ref (ad (3, i1, 0)), .int a2, .int a3, .int a4] : List Value).toArray meth c b_QC_receiveTimeout 5 none R_QC GG D clQ (tysQ ca) nwQ) (hA : ∀ q, s.heap.size ≤ q → A q) {res : St} : ∀  (S : St)  , ok_QC_receiveTimeout_31 i1 a2 a3 a4 S → f_QC_receiveTimeout_31 i1 a2 a3 a4 S = res → ∀ (H : Heap) (locs : List Loc) (ls : Array Slot), Wd D clQ A s.heap (zw X ad TQ (cfQ ad ca) S) H locs → lv_has ls 5 [(0, .ref (ad (1, 0, 0))), (1, .ref (ad (3, i1, 0))), (2, .int a2), (3, .int a3)] → W p l e { frames := 5, cells := 0, slots := 0, locals := 165 } s m ([.ref (ad (1, 0, 0)), .ref (ad (3, i1, 0)), .int a2, .int a3, .int a4] : List Value).toArray below meth c H locs 0 0 (MQ below (eV D clQ X ad TQ (cfQ ad ca) A res) ([.ref (ad (1, 0, 0)), .ref (ad (3, i1, 0)), .int a2, .int a3, .int a4] : List Value).toArray s 0 0 A) (F0 m 31 ls []) := by
  have hF := hy.1
  have hx := hF.1
  have hb := hF.2.1
  have hK := hy.2.2.2
  intro S hk hr H locs ls hW hl
  refine lv_aload_n (pc := 31) hx hb d_QC_receiveTimeout_31 rfl (lv_at hl 1 rfl) ?_
  refine z_get (pc := 32) (v := .ref (ad (16, i1, 1))) hF hK.1 hW (tq3 h1) rfl rfl in_Node 4 (by decide) gw_304 rfl rfl d_QC_receiveTimeout_32 ?_
  refine lv_iload_n (pc := 35) hx hb d_QC_receiveTimeout_35 rfl (lv_at hl 3 rfl) ?_
  refine lv_iload_n (pc := 36) hx hb d_QC_receiveTimeout_36 rfl (lv_at hl 2 rfl) ?_
  have o10 := hk.1
  have hk := hk.2
  obtain ⟨r11, er11⟩ : ∃ z : Int32 × St, z = f_Tally_keep i1 1 a3 a2 S := ⟨_, rfl⟩
  have hk := lt_p er11 hk
  have hr := lt_e er11 hr
  refine z_goI (pc := 37) hW hA (show (r11.1, r11.2) = _ from er11) (z_runV hF hK hW (c_Tally_keep l D X ad ca i1 1 a3 a2 (⟨h1, by decide⟩) S o10 _) cd_Tally_keep gw_747 (tq16 (⟨h1, by decide⟩)) rfl rfl ⟨Nat.le_of_ble_eq_true rfl, Nat.le_of_ble_eq_true rfl⟩ ⟨Nat.zero_le _, Nat.zero_le _⟩ rfl rfl hl.1 (Nat.le_of_ble_eq_true rfl) d_QC_receiveTimeout_37) (fun H locs (hW : Wd D clQ A s.heap (zw X ad TQ (cfQ ad ca) r11.2) H locs) => ?_)
  refine lv_iconst (pc := 40) (v := 3) hx hb d_QC_receiveTimeout_40 (by decide) ?_
  refine lv_icmp_ne (pc := 41) (tgt := 52) hx hb d_QC_receiveTimeout_41 (by decide) (fun c12 => ?_) (fun c12 => ?_)
  · have hk := hk.2 c12
    have hr := (if_neg c12).symm.trans hr
    exact z_vret hy hW hr.symm d_QC_receiveTimeout_52
  · have hk := hk.1 c12
    have hr := (if_pos c12).symm.trans hr
    refine lv_iload_n (pc := 44) hx hb d_QC_receiveTimeout_44 rfl (lv_at hl 3 rfl) ?_
    refine lv_aload_n (pc := 45) hx hb d_QC_receiveTimeout_45 rfl (lv_at hl 1 rfl) ?_
    refine z_get (pc := 46) (v := .int (r11.2.1 3 i1 0 8)) hF hK.1 hW (tq3 h1) rfl rfl in_Node 8 (by decide) gw_312 rfl rfl d_QC_receiveTimeout_46 ?_
    refine lv_icmp_ge (pc := 49) (tgt := 53) hx hb d_QC_receiveTimeout_49 (by decide) (fun c13 => ?_) (fun c13 => ?_)
    · have hk := hk.1 c13
      have hr := (if_pos c13).symm.trans hr
      refine lv_aload_n (pc := 53) hx hb d_QC_receiveTimeout_53 rfl (lv_at hl 1 rfl) ?_
      refine lv_iload_n (pc := 54) hx hb d_QC_receiveTimeout_54 rfl (lv_at hl 3 rfl) ?_
      refine lv_iconst (pc := 55) (v := 1) hx hb d_QC_receiveTimeout_55 (by decide) ?_
      refine lv_iadd (pc := 56) hx hb d_QC_receiveTimeout_56 ?_
      obtain ⟨S15, eS15⟩ : ∃ z : St, z = f_Node_enter i1 (a3 + (1 : Int32)) r11.2 := ⟨_, rfl⟩
      have hk := lt_p eS15 hk
      have hr := lt_e eS15 hr
      refine z_goV (pc := 57) hW hA eS15 (z_runV hF hK hW (c_Node_enter l D X ad ca i1 (a3 + (1 : Int32)) h1 r11.2 _) cd_Node_enter gw_739 (tq3 h1) rfl rfl ⟨Nat.le_of_ble_eq_true rfl, Nat.le_of_ble_eq_true rfl⟩ ⟨Nat.zero_le _, Nat.zero_le _⟩ rfl rfl hl.1 (Nat.le_of_ble_eq_true rfl) d_QC_receiveTimeout_57) (fun H locs (hW : Wd D clQ A s.heap (zw X ad TQ (cfQ ad ca) S15) H locs) => ?_)
      refine lv_aload_n (pc := 60) hx hb d_QC_receiveTimeout_60 rfl (lv_at hl 1 rfl) ?_
      refine z_get (pc := 61) (v := .int (S15.1 3 i1 0 8)) hF hK.1 hW (tq3 h1) rfl rfl in_Node 8 (by decide) gw_312 rfl rfl d_QC_receiveTimeout_61 ?_
      obtain ⟨r16, er16⟩ : ∃ z : Int32, z = f_QC_leaderOf (S15.1 3 i1 0 8) S15 := ⟨_, rfl⟩
      have hk := lt_p er16 hk
      have hr := lt_e er16 hr
      refine z_goI (pc := 64) hW hA (congrArg (fun q => (q, S15)) er16) (z_runS hF hK hW (c_QC_leaderOf l D X ad ca (S15.1 3 i1 0 8) S15 _) cd_QC_leaderOf gw_670 ⟨Nat.le_of_ble_eq_true rfl, Nat.le_of_ble_eq_true rfl⟩ ⟨Nat.zero_le _, Nat.zero_le _⟩ rfl rfl hl.1 (Nat.le_of_ble_eq_true rfl) d_QC_receiveTimeout_64) (fun H locs (hW : Wd D clQ A s.heap (zw X ad TQ (cfQ ad ca) S15) H locs) => ?_)
      refine lv_aload_n (pc := 67) hx hb d_QC_receiveTimeout_67 rfl (lv_at hl 1 rfl) ?_
      refine z_get (pc := 68) (v := .int (S15.1 3 i1 0 0)) hF hK.1 hW (tq3 h1) rfl rfl in_Node 0 (by decide) gw_296 rfl rfl d_QC_receiveTimeout_68 ?_
      refine lv_icmp_ne (pc := 71) (tgt := 79) hx hb d_QC_receiveTimeout_71 (by decide) (fun c17 => ?_) (fun c17 => ?_)
      · have hk := hk.2 c17
        have hr := (if_neg c17).symm.trans hr
        exact z_vret hy hW hr.symm d_QC_receiveTimeout_79
      · have hk := hk.1 c17
        have hr := (if_pos c17).symm.trans hr
        refine lv_aload_n (pc := 74) hx hb d_QC_receiveTimeout_74 rfl (lv_at hl 0 rfl) ?_
        refine lv_aload_n (pc := 75) hx hb d_QC_receiveTimeout_75 rfl (lv_at hl 1 rfl) ?_
        have o18 := hk.1
        have hk := hk.2
        obtain ⟨S20, eS20⟩ : ∃ z : St, z = f_QC_propose i1 S15 := ⟨_, rfl⟩
        have hr := lt_e eS20 hr
        refine z_goV (pc := 76) hW hA eS20 (z_runV hF hK hW (c_QC_propose l D X ad ca i1 h1 S15 o18 _) cd_QC_propose gw_622 tq1 rfl rfl ⟨Nat.le_of_ble_eq_true rfl, Nat.le_of_ble_eq_true rfl⟩ ⟨Nat.zero_le _, Nat.zero_le _⟩ rfl rfl hl.1 (Nat.le_of_ble_eq_true rfl) d_QC_receiveTimeout_76) (fun H locs (hW : Wd D clQ A s.heap (zw X ad TQ (cfQ ad ca) S20) H locs) => ?_)
        exact z_vret hy hW hr.symm d_QC_receiveTimeout_79
    · have hk := hk.2 c13
      have hr := (if_neg c13).symm.trans hr
      exact z_vret hy hW hr.symm d_QC_receiveTimeout_52
def f_QC_receiveTimeout (i1 : Nat) (a2 : Int32) (a3 : Int32) (a4 : Int32) (S : St) : St :=
  lt (f_Store_hasBlock i1 a4 S) fun (r2 : Int32) =>
  if r2 = 0 then
    f_QC_receiveTimeout_31 i1 a2 a3 a4 S
  else
    lt (f_Blocks_isCertified a4 S) fun (r5 : Int32) =>
    if r5 = 0 then
      f_QC_receiveTimeout_31 i1 a2 a3 a4 S
    else
      lt (f_QC_raiseHigh i1 a4 S) fun (S9 : St) =>
      f_QC_receiveTimeout_31 i1 a2 a3 a4 S9
def ok_QC_receiveTimeout (i1 : Nat) (a2 : Int32) (a3 : Int32) (a4 : Int32) (S : St) : Prop :=
  (ok_Store_hasBlock i1 a4 S) ∧ (
    lt (f_Store_hasBlock i1 a4 S) fun (r2 : Int32) =>
    (r2 = 0 → (
      ok_QC_receiveTimeout_31 i1 a2 a3 a4 S)) ∧ (¬ (r2 = 0) → (
      (ok_Blocks_isCertified a4 S) ∧ (
        lt (f_Blocks_isCertified a4 S) fun (r5 : Int32) =>
        (r5 = 0 → (
          ok_QC_receiveTimeout_31 i1 a2 a3 a4 S)) ∧ (¬ (r5 = 0) → (
          (ok_QC_raiseHigh i1 a4 S) ∧ (
            lt (f_QC_raiseHigh i1 a4 S) fun (S9 : St) =>
            ok_QC_receiveTimeout_31 i1 a2 a3 a4 S9)))))))
set_option maxHeartbeats 4000000 in
set_option maxRecDepth 100000 in
theorem c_QC_receiveTimeout (l : Launch) (D : va_G) (X : va_W) (ad : N3 → Nat) (ca : Nat → ClassId) (i1 : Nat) (a2 : Int32) (a3 : Int32) (a4 : Int32) (h1 : i1 < 4) (S : St) (hk : ok_QC_receiveTimeout i1 a2 a3 a4 S) : cV l GG D clQ (tysQ ca) nwQ X ad TQ (cfQ ad ca) y_QC_receiveTimeout b_QC_receiveTimeout 5 5 165 [.ref (ad (1, 0, 0)), .ref (ad (3, i1, 0)), .int a2, .int a3, .int a4] S (f_QC_receiveTimeout i1 a2 a3 a4 S) := by
  generalize hr : f_QC_receiveTimeout i1 a2 a3 a4 S = res
  refine zV_of pn_QC (Nat.le_of_ble_eq_true rfl) (fun p e s m below meth c A ls hy hW hA hl => ?_)
  have hF := hy.1
  have hx := hF.1
  have hb := hF.2.1
  have hK := hy.2.2.2
  have hl : lv_has ls 5 [(0, .ref (ad (1, 0, 0))), (1, .ref (ad (3, i1, 0))), (2, .int a2), (3, .int a3), (4, .int a4)] := hl
  refine lv_aload_n (pc := 0) hx hb d_QC_receiveTimeout_0 rfl (lv_at hl 1 rfl) ?_
  refine z_get (pc := 1) (v := .ref (ad (4, i1, 0))) hF hK.1 hW (tq3 h1) rfl rfl in_Node 1 (by decide) gw_298 rfl rfl d_QC_receiveTimeout_1 ?_
  refine lv_iload (pc := 4) hx hb d_QC_receiveTimeout_4 (lv_at hl 4 rfl) ?_
  have o1 := hk.1
  have hk := hk.2
  obtain ⟨r2, er2⟩ : ∃ z : Int32, z = f_Store_hasBlock i1 a4 S := ⟨_, rfl⟩
  have hk := lt_p er2 hk
  have hr := lt_e er2 hr
  refine z_goI (pc := 6) hW hA (congrArg (fun q => (q, S)) er2) (z_runV hF hK hW (c_Store_hasBlock l D X ad ca i1 a4 h1 S o1 _) cd_Store_hasBlock gw_477 (tq4 h1) rfl rfl ⟨Nat.le_of_ble_eq_true rfl, Nat.le_of_ble_eq_true rfl⟩ ⟨Nat.zero_le _, Nat.zero_le _⟩ rfl rfl hl.1 (Nat.le_of_ble_eq_true rfl) d_QC_receiveTimeout_6) (fun H locs (hW : Wd D clQ A s.heap (zw X ad TQ (cfQ ad ca) S) H locs) => ?_)
  refine lv_if_eq (pc := 9) (tgt := 31) hx hb d_QC_receiveTimeout_9 (by decide) (fun c3 => ?_) (fun c3 => ?_)
  · have hk := hk.1 c3
    have hr := (if_pos c3).symm.trans hr
    exact w_QC_receiveTimeout_31 i1 a2 a3 a4 h1 hy hA S hk hr _ _ _ hW (lv_sub hl [0, 1, 2, 3] rfl)
  · have hk := hk.2 c3
    have hr := (if_neg c3).symm.trans hr
    refine lv_aload_n (pc := 12) hx hb d_QC_receiveTimeout_12 rfl (lv_at hl 0 rfl) ?_
    refine z_get (pc := 13) (v := .ref (ad (19, 0, 0))) hF hK.1 hW tq1 rfl rfl in_QC 1 (by decide) gw_345 rfl rfl d_QC_receiveTimeout_13 ?_
    refine lv_iload (pc := 16) hx hb d_QC_receiveTimeout_16 (lv_at hl 4 rfl) ?_
    have o4 := hk.1
    have hk := hk.2
    obtain ⟨r5, er5⟩ : ∃ z : Int32, z = f_Blocks_isCertified a4 S := ⟨_, rfl⟩
    have hk := lt_p er5 hk
    have hr := lt_e er5 hr
    refine z_goI (pc := 18) hW hA (congrArg (fun q => (q, S)) er5) (z_runV hF hK hW (c_Blocks_isCertified l D X ad ca a4 S o4 _) cd_Blocks_isCertified gw_469 tq19 rfl rfl ⟨Nat.le_of_ble_eq_true rfl, Nat.le_of_ble_eq_true rfl⟩ ⟨Nat.zero_le _, Nat.zero_le _⟩ rfl rfl hl.1 (Nat.le_of_ble_eq_true rfl) d_QC_receiveTimeout_18) (fun H locs (hW : Wd D clQ A s.heap (zw X ad TQ (cfQ ad ca) S) H locs) => ?_)
    refine lv_if_eq (pc := 21) (tgt := 31) hx hb d_QC_receiveTimeout_21 (by decide) (fun c6 => ?_) (fun c6 => ?_)
    · have hk := hk.1 c6
      have hr := (if_pos c6).symm.trans hr
      exact w_QC_receiveTimeout_31 i1 a2 a3 a4 h1 hy hA S hk hr _ _ _ hW (lv_sub hl [0, 1, 2, 3] rfl)
    · have hk := hk.2 c6
      have hr := (if_neg c6).symm.trans hr
      refine lv_aload_n (pc := 24) hx hb d_QC_receiveTimeout_24 rfl (lv_at hl 0 rfl) ?_
      refine lv_aload_n (pc := 25) hx hb d_QC_receiveTimeout_25 rfl (lv_at hl 1 rfl) ?_
      refine lv_iload (pc := 26) hx hb d_QC_receiveTimeout_26 (lv_at hl 4 rfl) ?_
      have o7 := hk.1
      have hk := hk.2
      obtain ⟨S9, eS9⟩ : ∃ z : St, z = f_QC_raiseHigh i1 a4 S := ⟨_, rfl⟩
      have hk := lt_p eS9 hk
      have hr := lt_e eS9 hr
      refine z_goV (pc := 28) hW hA eS9 (z_runV hF hK hW (c_QC_raiseHigh l D X ad ca i1 a4 h1 S o7 _) cd_QC_raiseHigh gw_690 tq1 rfl rfl ⟨Nat.le_of_ble_eq_true rfl, Nat.le_of_ble_eq_true rfl⟩ ⟨Nat.zero_le _, Nat.zero_le _⟩ rfl rfl hl.1 (Nat.le_of_ble_eq_true rfl) d_QC_receiveTimeout_28) (fun H locs (hW : Wd D clQ A s.heap (zw X ad TQ (cfQ ad ca) S9) H locs) => ?_)
      exact w_QC_receiveTimeout_31 i1 a2 a3 a4 h1 hy hA S9 hk hr _ _ _ hW (lv_sub hl [0, 1, 2, 3] rfl)
theorem d_QC_receiveAsk_0 : decode b_QC_receiveAsk 0 = .ok (.aload_n 1, 1) := by decide +kernel
theorem d_QC_receiveAsk_1 : decode b_QC_receiveAsk 1 = .ok (.getfield 179, 3) := by decide +kernel
theorem d_QC_receiveAsk_4 : decode b_QC_receiveAsk 4 = .ok (.iload_n 3, 1) := by decide +kernel
theorem d_QC_receiveAsk_5 : decode b_QC_receiveAsk 5 = .ok (.invokevirtual 195, 3) := by decide +kernel
theorem d_QC_receiveAsk_8 : decode b_QC_receiveAsk 8 = .ok (.ifCond .eq 11, 3) := by decide +kernel
theorem d_QC_receiveAsk_11 : decode b_QC_receiveAsk 11 = .ok (.aload_n 0, 1) := by decide +kernel
theorem d_QC_receiveAsk_12 : decode b_QC_receiveAsk 12 = .ok (.aload_n 1, 1) := by decide +kernel
theorem d_QC_receiveAsk_13 : decode b_QC_receiveAsk 13 = .ok (.iconst 5, 1) := by decide +kernel
theorem d_QC_receiveAsk_14 : decode b_QC_receiveAsk 14 = .ok (.iload_n 3, 1) := by decide +kernel
theorem d_QC_receiveAsk_15 : decode b_QC_receiveAsk 15 = .ok (.iload_n 2, 1) := by decide +kernel
theorem d_QC_receiveAsk_16 : decode b_QC_receiveAsk 16 = .ok (.invokevirtual 309, 3) := by decide +kernel
theorem d_QC_receiveAsk_19 : decode b_QC_receiveAsk 19 = .ok (.return_, 1) := by decide +kernel
def f_QC_receiveAsk (i1 : Nat) (a2 : Int32) (a3 : Int32) (S : St) : St :=
  lt (f_Store_hasBlock i1 a3 S) fun (r2 : Int32) =>
  if r2 = 0 then
    S
  else
    lt (f_QC_sendUnsigned i1 (5 : Int32) a3 a2 S) fun (S6 : St) =>
    S6
def ok_QC_receiveAsk (i1 : Nat) (a2 : Int32) (a3 : Int32) (S : St) : Prop :=
  (ok_Store_hasBlock i1 a3 S) ∧ (
    lt (f_Store_hasBlock i1 a3 S) fun (r2 : Int32) =>
    (r2 = 0 → (
      True)) ∧ (¬ (r2 = 0) → (
      (ok_QC_sendUnsigned i1 (5 : Int32) a3 a2 S) ∧ (
        True))))
set_option maxHeartbeats 4000000 in
set_option maxRecDepth 100000 in
theorem c_QC_receiveAsk (l : Launch) (D : va_G) (X : va_W) (ad : N3 → Nat) (ca : Nat → ClassId) (i1 : Nat) (a2 : Int32) (a3 : Int32) (h1 : i1 < 4) (S : St) (hk : ok_QC_receiveAsk i1 a2 a3 S) : cV l GG D clQ (tysQ ca) nwQ X ad TQ (cfQ ad ca) y_QC_receiveAsk b_QC_receiveAsk 4 4 146 [.ref (ad (1, 0, 0)), .ref (ad (3, i1, 0)), .int a2, .int a3] S (f_QC_receiveAsk i1 a2 a3 S) := by
  generalize hr : f_QC_receiveAsk i1 a2 a3 S = res
  refine zV_of pn_QC (Nat.le_of_ble_eq_true rfl) (fun p e s m below meth c A ls hy hW hA hl => ?_)
  have hF := hy.1
  have hx := hF.1
  have hb := hF.2.1
  have hK := hy.2.2.2
  have hl : lv_has ls 4 [(0, .ref (ad (1, 0, 0))), (1, .ref (ad (3, i1, 0))), (2, .int a2), (3, .int a3)] := hl
  refine lv_aload_n (pc := 0) hx hb d_QC_receiveAsk_0 rfl (lv_at hl 1 rfl) ?_
  refine z_get (pc := 1) (v := .ref (ad (4, i1, 0))) hF hK.1 hW (tq3 h1) rfl rfl in_Node 1 (by decide) gw_298 rfl rfl d_QC_receiveAsk_1 ?_
  refine lv_iload_n (pc := 4) hx hb d_QC_receiveAsk_4 rfl (lv_at hl 3 rfl) ?_
  have o1 := hk.1
  have hk := hk.2
  obtain ⟨r2, er2⟩ : ∃ z : Int32, z = f_Store_hasBlock i1 a3 S := ⟨_, rfl⟩
  have hk := lt_p er2 hk
  have hr := lt_e er2 hr
  refine z_goI (pc := 5) hW hA (congrArg (fun q => (q, S)) er2) (z_runV hF hK hW (c_Store_hasBlock l D X ad ca i1 a3 h1 S o1 _) cd_Store_hasBlock gw_477 (tq4 h1) rfl rfl ⟨Nat.le_of_ble_eq_true rfl, Nat.le_of_ble_eq_true rfl⟩ ⟨Nat.zero_le _, Nat.zero_le _⟩ rfl rfl hl.1 (Nat.le_of_ble_eq_true rfl) d_QC_receiveAsk_5) (fun H locs (hW : Wd D clQ A s.heap (zw X ad TQ (cfQ ad ca) S) H locs) => ?_)
  refine lv_if_eq (pc := 8) (tgt := 19) hx hb d_QC_receiveAsk_8 (by decide) (fun c3 => ?_) (fun c3 => ?_)
  · have hk := hk.1 c3
    have hr := (if_pos c3).symm.trans hr
    exact z_vret hy hW hr.symm d_QC_receiveAsk_19
  · have hk := hk.2 c3
    have hr := (if_neg c3).symm.trans hr
    refine lv_aload_n (pc := 11) hx hb d_QC_receiveAsk_11 rfl (lv_at hl 0 rfl) ?_
    refine lv_aload_n (pc := 12) hx hb d_QC_receiveAsk_12 rfl (lv_at hl 1 rfl) ?_
    refine lv_iconst (pc := 13) (v := 5) hx hb d_QC_receiveAsk_13 (by decide) ?_
    refine lv_iload_n (pc := 14) hx hb d_QC_receiveAsk_14 rfl (lv_at hl 3 rfl) ?_
    refine lv_iload_n (pc := 15) hx hb d_QC_receiveAsk_15 rfl (lv_at hl 2 rfl) ?_
    have o4 := hk.1
    have hk := hk.2
    obtain ⟨S6, eS6⟩ : ∃ z : St, z = f_QC_sendUnsigned i1 (5 : Int32) a3 a2 S := ⟨_, rfl⟩
    have hr := lt_e eS6 hr
    refine z_goV (pc := 16) hW hA eS6 (z_runV hF hK hW (c_QC_sendUnsigned l D X ad ca i1 (5 : Int32) a3 a2 h1 S o4 _) cd_QC_sendUnsigned gw_682 tq1 rfl rfl ⟨Nat.le_of_ble_eq_true rfl, Nat.le_of_ble_eq_true rfl⟩ ⟨Nat.zero_le _, Nat.zero_le _⟩ rfl rfl hl.1 (Nat.le_of_ble_eq_true rfl) d_QC_receiveAsk_16) (fun H locs (hW : Wd D clQ A s.heap (zw X ad TQ (cfQ ad ca) S6) H locs) => ?_)
    exact z_vret hy hW hr.symm d_QC_receiveAsk_19
theorem d_QC_receiveBlock_0 : decode b_QC_receiveBlock 0 = .ok (.aload_n 0, 1) := by decide +kernel
theorem d_QC_receiveBlock_1 : decode b_QC_receiveBlock 1 = .ok (.getfield 18, 3) := by decide +kernel
theorem d_QC_receiveBlock_4 : decode b_QC_receiveBlock 4 = .ok (.iload_n 3, 1) := by decide +kernel
theorem d_QC_receiveBlock_5 : decode b_QC_receiveBlock 5 = .ok (.invokevirtual 285, 3) := by decide +kernel
theorem d_QC_receiveBlock_8 : decode b_QC_receiveBlock 8 = .ok (.istore 4, 2) := by decide +kernel
theorem d_QC_receiveBlock_10 : decode b_QC_receiveBlock 10 = .ok (.aload_n 1, 1) := by decide +kernel
theorem d_QC_receiveBlock_11 : decode b_QC_receiveBlock 11 = .ok (.getfield 179, 3) := by decide +kernel
theorem d_QC_receiveBlock_14 : decode b_QC_receiveBlock 14 = .ok (.iload 4, 2) := by decide +kernel
theorem d_QC_receiveBlock_16 : decode b_QC_receiveBlock 16 = .ok (.invokevirtual 195, 3) := by decide +kernel
theorem d_QC_receiveBlock_19 : decode b_QC_receiveBlock 19 = .ok (.ifCond .eq 14, 3) := by decide +kernel
theorem d_QC_receiveBlock_22 : decode b_QC_receiveBlock 22 = .ok (.aload_n 1, 1) := by decide +kernel
theorem d_QC_receiveBlock_23 : decode b_QC_receiveBlock 23 = .ok (.getfield 179, 3) := by decide +kernel
theorem d_QC_receiveBlock_26 : decode b_QC_receiveBlock 26 = .ok (.iload_n 3, 1) := by decide +kernel
theorem d_QC_receiveBlock_27 : decode b_QC_receiveBlock 27 = .ok (.invokevirtual 212, 3) := by decide +kernel
theorem d_QC_receiveBlock_30 : decode b_QC_receiveBlock 30 = .ok (.goto 12, 3) := by decide +kernel
theorem d_QC_receiveBlock_33 : decode b_QC_receiveBlock 33 = .ok (.aload_n 0, 1) := by decide +kernel
theorem d_QC_receiveBlock_34 : decode b_QC_receiveBlock 34 = .ok (.aload_n 1, 1) := by decide +kernel
theorem d_QC_receiveBlock_35 : decode b_QC_receiveBlock 35 = .ok (.iconst 4, 1) := by decide +kernel
theorem d_QC_receiveBlock_36 : decode b_QC_receiveBlock 36 = .ok (.iload 4, 2) := by decide +kernel
theorem d_QC_receiveBlock_38 : decode b_QC_receiveBlock 38 = .ok (.iload_n 2, 1) := by decide +kernel
theorem d_QC_receiveBlock_39 : decode b_QC_receiveBlock 39 = .ok (.invokevirtual 309, 3) := by decide +kernel
theorem d_QC_receiveBlock_42 : decode b_QC_receiveBlock 42 = .ok (.return_, 1) := by decide +kernel
def f_QC_receiveBlock (i1 : Nat) (a2 : Int32) (a3 : Int32) (S : St) : St :=
  lt (f_Blocks_parentOf a3 S) fun (r2 : Int32) =>
  lt (f_Store_hasBlock i1 r2 S) fun (r4 : Int32) =>
  if r4 = 0 then
    lt (f_QC_sendUnsigned i1 (4 : Int32) r2 a2 S) fun (S8 : St) =>
    S8
  else
    lt (f_Store_keepBlock i1 a3 S) fun (S11 : St) =>
    S11
def ok_QC_receiveBlock (i1 : Nat) (a2 : Int32) (a3 : Int32) (S : St) : Prop :=
  (ok_Blocks_parentOf a3 S) ∧ (
    lt (f_Blocks_parentOf a3 S) fun (r2 : Int32) =>
    (ok_Store_hasBlock i1 r2 S) ∧ (
      lt (f_Store_hasBlock i1 r2 S) fun (r4 : Int32) =>
      (r4 = 0 → (
        (ok_QC_sendUnsigned i1 (4 : Int32) r2 a2 S) ∧ (
          True))) ∧ (¬ (r4 = 0) → (
        (ok_Store_keepBlock i1 a3 S) ∧ (
          True)))))
set_option maxHeartbeats 4000000 in
set_option maxRecDepth 100000 in
theorem c_QC_receiveBlock (l : Launch) (D : va_G) (X : va_W) (ad : N3 → Nat) (ca : Nat → ClassId) (i1 : Nat) (a2 : Int32) (a3 : Int32) (h1 : i1 < 4) (S : St) (hk : ok_QC_receiveBlock i1 a2 a3 S) : cV l GG D clQ (tysQ ca) nwQ X ad TQ (cfQ ad ca) y_QC_receiveBlock b_QC_receiveBlock 5 4 146 [.ref (ad (1, 0, 0)), .ref (ad (3, i1, 0)), .int a2, .int a3] S (f_QC_receiveBlock i1 a2 a3 S) := by
  generalize hr : f_QC_receiveBlock i1 a2 a3 S = res
  refine zV_of pn_QC (Nat.le_of_ble_eq_true rfl) (fun p e s m below meth c A ls hy hW hA hl => ?_)
  have hF := hy.1
  have hx := hF.1
  have hb := hF.2.1
  have hK := hy.2.2.2
  have hl : lv_has ls 5 [(0, .ref (ad (1, 0, 0))), (1, .ref (ad (3, i1, 0))), (2, .int a2), (3, .int a3)] := hl
  refine lv_aload_n (pc := 0) hx hb d_QC_receiveBlock_0 rfl (lv_at hl 0 rfl) ?_
  refine z_get (pc := 1) (v := .ref (ad (19, 0, 0))) hF hK.1 hW tq1 rfl rfl in_QC 1 (by decide) gw_345 rfl rfl d_QC_receiveBlock_1 ?_
  refine lv_iload_n (pc := 4) hx hb d_QC_receiveBlock_4 rfl (lv_at hl 3 rfl) ?_
  have o1 := hk.1
  have hk := hk.2
  obtain ⟨r2, er2⟩ : ∃ z : Int32, z = f_Blocks_parentOf a3 S := ⟨_, rfl⟩
  have hk := lt_p er2 hk
  have hr := lt_e er2 hr
  refine z_goI (pc := 5) hW hA (congrArg (fun q => (q, S)) er2) (z_runV hF hK hW (c_Blocks_parentOf l D X ad ca a3 S o1 _) cd_Blocks_parentOf gw_461 tq19 rfl rfl ⟨Nat.le_of_ble_eq_true rfl, Nat.le_of_ble_eq_true rfl⟩ ⟨Nat.zero_le _, Nat.zero_le _⟩ rfl rfl hl.1 (Nat.le_of_ble_eq_true rfl) d_QC_receiveBlock_5) (fun H locs (hW : Wd D clQ A s.heap (zw X ad TQ (cfQ ad ca) S) H locs) => ?_)
  refine lv_istore (pc := 8) (lv' := [(4, .int r2), (0, .ref (ad (1, 0, 0))), (1, .ref (ad (3, i1, 0))), (2, .int a2), (3, .int a3)]) hx hb d_QC_receiveBlock_8 hl (by decide) rfl (fun ls hl => ?_)
  refine lv_aload_n (pc := 10) hx hb d_QC_receiveBlock_10 rfl (lv_at hl 2 rfl) ?_
  refine z_get (pc := 11) (v := .ref (ad (4, i1, 0))) hF hK.1 hW (tq3 h1) rfl rfl in_Node 1 (by decide) gw_298 rfl rfl d_QC_receiveBlock_11 ?_
  refine lv_iload (pc := 14) hx hb d_QC_receiveBlock_14 (lv_at hl 0 rfl) ?_
  have o3 := hk.1
  have hk := hk.2
  obtain ⟨r4, er4⟩ : ∃ z : Int32, z = f_Store_hasBlock i1 r2 S := ⟨_, rfl⟩
  have hk := lt_p er4 hk
  have hr := lt_e er4 hr
  refine z_goI (pc := 16) hW hA (congrArg (fun q => (q, S)) er4) (z_runV hF hK hW (c_Store_hasBlock l D X ad ca i1 r2 h1 S o3 _) cd_Store_hasBlock gw_477 (tq4 h1) rfl rfl ⟨Nat.le_of_ble_eq_true rfl, Nat.le_of_ble_eq_true rfl⟩ ⟨Nat.zero_le _, Nat.zero_le _⟩ rfl rfl hl.1 (Nat.le_of_ble_eq_true rfl) d_QC_receiveBlock_16) (fun H locs (hW : Wd D clQ A s.heap (zw X ad TQ (cfQ ad ca) S) H locs) => ?_)
  refine lv_if_eq (pc := 19) (tgt := 33) hx hb d_QC_receiveBlock_19 (by decide) (fun c5 => ?_) (fun c5 => ?_)
  · have hk := hk.1 c5
    have hr := (if_pos c5).symm.trans hr
    refine lv_aload_n (pc := 33) hx hb d_QC_receiveBlock_33 rfl (lv_at hl 1 rfl) ?_
    refine lv_aload_n (pc := 34) hx hb d_QC_receiveBlock_34 rfl (lv_at hl 2 rfl) ?_
    refine lv_iconst (pc := 35) (v := 4) hx hb d_QC_receiveBlock_35 (by decide) ?_
    refine lv_iload (pc := 36) hx hb d_QC_receiveBlock_36 (lv_at hl 0 rfl) ?_
    refine lv_iload_n (pc := 38) hx hb d_QC_receiveBlock_38 rfl (lv_at hl 3 rfl) ?_
    have o6 := hk.1
    have hk := hk.2
    obtain ⟨S8, eS8⟩ : ∃ z : St, z = f_QC_sendUnsigned i1 (4 : Int32) r2 a2 S := ⟨_, rfl⟩
    have hr := lt_e eS8 hr
    refine z_goV (pc := 39) hW hA eS8 (z_runV hF hK hW (c_QC_sendUnsigned l D X ad ca i1 (4 : Int32) r2 a2 h1 S o6 _) cd_QC_sendUnsigned gw_682 tq1 rfl rfl ⟨Nat.le_of_ble_eq_true rfl, Nat.le_of_ble_eq_true rfl⟩ ⟨Nat.zero_le _, Nat.zero_le _⟩ rfl rfl hl.1 (Nat.le_of_ble_eq_true rfl) d_QC_receiveBlock_39) (fun H locs (hW : Wd D clQ A s.heap (zw X ad TQ (cfQ ad ca) S8) H locs) => ?_)
    exact z_vret hy hW hr.symm d_QC_receiveBlock_42
  · have hk := hk.2 c5
    have hr := (if_neg c5).symm.trans hr
    refine lv_aload_n (pc := 22) hx hb d_QC_receiveBlock_22 rfl (lv_at hl 2 rfl) ?_
    refine z_get (pc := 23) (v := .ref (ad (4, i1, 0))) hF hK.1 hW (tq3 h1) rfl rfl in_Node 1 (by decide) gw_298 rfl rfl d_QC_receiveBlock_23 ?_
    refine lv_iload_n (pc := 26) hx hb d_QC_receiveBlock_26 rfl (lv_at hl 4 rfl) ?_
    have o9 := hk.1
    have hk := hk.2
    obtain ⟨S11, eS11⟩ : ∃ z : St, z = f_Store_keepBlock i1 a3 S := ⟨_, rfl⟩
    have hr := lt_e eS11 hr
    refine z_goV (pc := 27) hW hA eS11 (z_runV hF hK hW (c_Store_keepBlock l D X ad ca i1 a3 h1 S o9 _) cd_Store_keepBlock gw_640 (tq4 h1) rfl rfl ⟨Nat.le_of_ble_eq_true rfl, Nat.le_of_ble_eq_true rfl⟩ ⟨Nat.zero_le _, Nat.zero_le _⟩ rfl rfl hl.1 (Nat.le_of_ble_eq_true rfl) d_QC_receiveBlock_27) (fun H locs (hW : Wd D clQ A s.heap (zw X ad TQ (cfQ ad ca) S11) H locs) => ?_)
    refine lv_goto (pc := 30) (tgt := 42) hx hb d_QC_receiveBlock_30 (by decide) ?_
    exact z_vret hy hW hr.symm d_QC_receiveBlock_42
end
section
theorem d_Inbox_first_0 : decode b_Inbox_first 0 = .ok (.aload_n 0, 1) := by decide +kernel
theorem d_Inbox_first_1 : decode b_Inbox_first 1 = .ok (.getfield 11, 3) := by decide +kernel
theorem d_Inbox_first_4 : decode b_Inbox_first 4 = .ok (.iconst 0, 1) := by decide +kernel
theorem d_Inbox_first_5 : decode b_Inbox_first 5 = .ok (.aaload, 1) := by decide +kernel
theorem d_Inbox_first_6 : decode b_Inbox_first 6 = .ok (.areturn, 1) := by decide +kernel
def f_Inbox_first (i0 : Nat) (S : St) : Nat :=
  (S.2.2 13 i0 0 0)
def ok_Inbox_first (i0 : Nat) (S : St) : Prop :=
  ((S.2.2 13 i0 0 0) < 16) ∧ (
    True)
set_option maxHeartbeats 4000000 in
set_option maxRecDepth 100000 in
theorem c_Inbox_first (l : Launch) (D : va_G) (X : va_W) (ad : N3 → Nat) (ca : Nat → ClassId) (i0 : Nat) (h0 : i0 < 4) (S : St) (hk : ok_Inbox_first i0 S) : cR l GG D clQ (tysQ ca) nwQ X ad TQ (cfQ ad ca) y_Inbox_first b_Inbox_first 1 (.object "QuorumChain$Message") 0 0 [.ref (ad (12, i0, 0))] S ((14, i0, (f_Inbox_first i0 S)), S) := by
  generalize hr : f_Inbox_first i0 S = res
  refine zR_of pn_Inbox (Nat.le_of_ble_eq_true rfl) (fun p e s m below meth c A ls hy hW hA hl => ?_)
  have hF := hy.1
  have hx := hF.1
  have hb := hF.2.1
  have hK := hy.2.2.2
  have hl : lv_has ls 1 [(0, .ref (ad (12, i0, 0)))] := hl
  refine lv_aload_n (pc := 0) hx hb d_Inbox_first_0 rfl (lv_at hl 0 rfl) ?_
  refine z_get (pc := 1) (v := .ref (ad (13, i0, 0))) hF hK.1 hW (tq12 h0) rfl rfl in_Inbox 0 (by decide) gw_178 rfl rfl d_Inbox_first_1 ?_
  refine lv_iconst (pc := 4) (v := 0) hx hb d_Inbox_first_4 (by decide) ?_
  have b1 : vp_in (0 : Int32) 16 := by unfold vp_in; decide
  have b2 := hk.1
  have hk := hk.2
  refine z_aald (pc := 5) (q := ad (14, i0, (S.2.2 13 i0 0 0))) hF hK.1 hW (tq13 h0) 4 rfl rfl b1 rfl d_Inbox_first_5 ?_
  exact z_aret (t := (14, i0, (S.2.2 13 i0 0 0))) hy hW (congrArg (fun z => ((14, i0, z), S)) hr.symm) d_Inbox_first_6
theorem d_Inbox_moveFirstBehind_0 : decode b_Inbox_moveFirstBehind 0 = .ok (.aload_n 0, 1) := by decide +kernel
theorem d_Inbox_moveFirstBehind_1 : decode b_Inbox_moveFirstBehind 1 = .ok (.getfield 11, 3) := by decide +kernel
theorem d_Inbox_moveFirstBehind_4 : decode b_Inbox_moveFirstBehind 4 = .ok (.iconst 0, 1) := by decide +kernel
theorem d_Inbox_moveFirstBehind_5 : decode b_Inbox_moveFirstBehind 5 = .ok (.aaload, 1) := by decide +kernel
theorem d_Inbox_moveFirstBehind_6 : decode b_Inbox_moveFirstBehind 6 = .ok (.astore_n 1, 1) := by decide +kernel
theorem d_Inbox_moveFirstBehind_7 : decode b_Inbox_moveFirstBehind 7 = .ok (.iconst 1, 1) := by decide +kernel
theorem d_Inbox_moveFirstBehind_8 : decode b_Inbox_moveFirstBehind 8 = .ok (.istore_n 2, 1) := by decide +kernel
theorem d_Inbox_moveFirstBehind_9 : decode b_Inbox_moveFirstBehind 9 = .ok (.iload_n 2, 1) := by decide +kernel
theorem d_Inbox_moveFirstBehind_10 : decode b_Inbox_moveFirstBehind 10 = .ok (.aload_n 0, 1) := by decide +kernel
theorem d_Inbox_moveFirstBehind_11 : decode b_Inbox_moveFirstBehind 11 = .ok (.getfield 18, 3) := by decide +kernel
theorem d_Inbox_moveFirstBehind_14 : decode b_Inbox_moveFirstBehind 14 = .ok (.if_icmp .ge 30, 3) := by decide +kernel
theorem d_Inbox_moveFirstBehind_17 : decode b_Inbox_moveFirstBehind 17 = .ok (.aload_n 0, 1) := by decide +kernel
theorem d_Inbox_moveFirstBehind_18 : decode b_Inbox_moveFirstBehind 18 = .ok (.getfield 11, 3) := by decide +kernel
theorem d_Inbox_moveFirstBehind_21 : decode b_Inbox_moveFirstBehind 21 = .ok (.iload_n 2, 1) := by decide +kernel
theorem d_Inbox_moveFirstBehind_22 : decode b_Inbox_moveFirstBehind 22 = .ok (.iconst 1, 1) := by decide +kernel
theorem d_Inbox_moveFirstBehind_23 : decode b_Inbox_moveFirstBehind 23 = .ok (.isub, 1) := by decide +kernel
theorem d_Inbox_moveFirstBehind_24 : decode b_Inbox_moveFirstBehind 24 = .ok (.aload_n 0, 1) := by decide +kernel
theorem d_Inbox_moveFirstBehind_25 : decode b_Inbox_moveFirstBehind 25 = .ok (.getfield 11, 3) := by decide +kernel
theorem d_Inbox_moveFirstBehind_28 : decode b_Inbox_moveFirstBehind 28 = .ok (.iload_n 2, 1) := by decide +kernel
theorem d_Inbox_moveFirstBehind_29 : decode b_Inbox_moveFirstBehind 29 = .ok (.aaload, 1) := by decide +kernel
theorem d_Inbox_moveFirstBehind_30 : decode b_Inbox_moveFirstBehind 30 = .ok (.aastore, 1) := by decide +kernel
theorem d_Inbox_moveFirstBehind_31 : decode b_Inbox_moveFirstBehind 31 = .ok (.aload_n 0, 1) := by decide +kernel
theorem d_Inbox_moveFirstBehind_32 : decode b_Inbox_moveFirstBehind 32 = .ok (.getfield 11, 3) := by decide +kernel
theorem d_Inbox_moveFirstBehind_35 : decode b_Inbox_moveFirstBehind 35 = .ok (.iload_n 2, 1) := by decide +kernel
theorem d_Inbox_moveFirstBehind_36 : decode b_Inbox_moveFirstBehind 36 = .ok (.aload_n 1, 1) := by decide +kernel
theorem d_Inbox_moveFirstBehind_37 : decode b_Inbox_moveFirstBehind 37 = .ok (.aastore, 1) := by decide +kernel
theorem d_Inbox_moveFirstBehind_38 : decode b_Inbox_moveFirstBehind 38 = .ok (.iinc 2 1, 3) := by decide +kernel
theorem d_Inbox_moveFirstBehind_41 : decode b_Inbox_moveFirstBehind 41 = .ok (.goto (-32), 3) := by decide +kernel
theorem d_Inbox_moveFirstBehind_44 : decode b_Inbox_moveFirstBehind 44 = .ok (.return_, 1) := by decide +kernel
def f_Inbox_moveFirstBehind_9 (i0 : Nat) : Nat → St → Nat → Int32 → St
  | 0, S, _, _ => S
  | n + 1, S, l1j, l2 =>
    if (S.1 12 i0 0 1) ≤ l2 then
      S
    else
      lt (sp S 13 i0 0 ((l2 - (1 : Int32)).toNatClampNeg) (S.2.2 13 i0 0 (l2.toNatClampNeg))) fun (S7 : St) =>
      lt (sp S7 13 i0 0 (l2.toNatClampNeg) l1j) fun (S9 : St) =>
      f_Inbox_moveFirstBehind_9 i0 n S9 l1j (l2 + (1 : Int32))
def ok_Inbox_moveFirstBehind_9 (i0 : Nat) : Nat → St → Nat → Int32 → Prop
  | 0, _, _, _ => False
  | n + 1, S, l1j, l2 =>
    ((S.1 12 i0 0 1) ≤ l2 → (
      True)) ∧ (¬ ((S.1 12 i0 0 1) ≤ l2) → (
      (vp_in l2 16) ∧ (
        ((S.2.2 13 i0 0 (l2.toNatClampNeg)) < 16) ∧ (
          (vp_in (l2 - (1 : Int32)) 16) ∧ (
            lt (sp S 13 i0 0 ((l2 - (1 : Int32)).toNatClampNeg) (S.2.2 13 i0 0 (l2.toNatClampNeg))) fun (S7 : St) =>
            (vp_in l2 16) ∧ (
              lt (sp S7 13 i0 0 (l2.toNatClampNeg) l1j) fun (S9 : St) =>
              ok_Inbox_moveFirstBehind_9 i0 n S9 l1j (l2 + (1 : Int32))))))))
set_option maxHeartbeats 4000000 in
set_option maxRecDepth 100000 in
theorem w_Inbox_moveFirstBehind_9 {l : Launch} {D : va_G} {X : va_W} {ad : N3 → Nat} {ca : Nat → ClassId} (i0 : Nat) (h0 : i0 < 4) {p : Program} {e : Env} {s : State} {m : MethodId} {below : List Frame} {meth : Method} {c : Code} {A : Nat → Prop} (hy : Hy p s m ([.ref (ad (12, i0, 0))] : List Value).toArray meth c b_Inbox_moveFirstBehind 3 none R_Inbox GG D clQ (tysQ ca) nwQ) (hA : ∀ q, s.heap.size ≤ q → A q) {res : St} : ∀ (n : Nat) (S : St) (l1j : Nat) (l2 : Int32) (gl1 : inM i0 l1j), ok_Inbox_moveFirstBehind_9 i0 n S l1j l2 → f_Inbox_moveFirstBehind_9 i0 n S l1j l2 = res → ∀ (H : Heap) (locs : List Loc) (ls : Array Slot), Wd D clQ A s.heap (zw X ad TQ (cfQ ad ca) S) H locs → lv_has ls 3 [(0, .ref (ad (12, i0, 0))), (1, .ref (ad (14, i0, l1j))), (2, .int l2)] → W p l e { frames := 0, cells := 0, slots := 0, locals := 0 } s m ([.ref (ad (12, i0, 0))] : List Value).toArray below meth c H locs 0 0 (MQ below (eV D clQ X ad TQ (cfQ ad ca) A res) ([.ref (ad (12, i0, 0))] : List Value).toArray s 0 0 A) (F0 m 9 ls []) := by
  have hF := hy.1
  have hx := hF.1
  have hb := hF.2.1
  have hK := hy.2.2.2
  intro n
  induction n with
  | zero =>
    intro S l1j l2 gl1 hk
    exact hk.elim
  | succ n ih =>
    intro S l1j l2 gl1 hk hr H locs ls hW hl
    refine lv_iload_n (pc := 9) hx hb d_Inbox_moveFirstBehind_9 rfl (lv_at hl 2 rfl) ?_
    refine lv_aload_n (pc := 10) hx hb d_Inbox_moveFirstBehind_10 rfl (lv_at hl 0 rfl) ?_
    refine z_get (pc := 11) (v := .int (S.1 12 i0 0 1)) hF hK.1 hW (tq12 h0) rfl rfl in_Inbox 1 (by decide) gw_180 rfl rfl d_Inbox_moveFirstBehind_11 ?_
    refine lv_icmp_ge (pc := 14) (tgt := 44) hx hb d_Inbox_moveFirstBehind_14 (by decide) (fun c3 => ?_) (fun c3 => ?_)
    · have hk := hk.1 c3
      have hr := (if_pos c3).symm.trans hr
      exact z_vret hy hW hr.symm d_Inbox_moveFirstBehind_44
    · have hk := hk.2 c3
      have hr := (if_neg c3).symm.trans hr
      refine lv_aload_n (pc := 17) hx hb d_Inbox_moveFirstBehind_17 rfl (lv_at hl 0 rfl) ?_
      refine z_get (pc := 18) (v := .ref (ad (13, i0, 0))) hF hK.1 hW (tq12 h0) rfl rfl in_Inbox 0 (by decide) gw_178 rfl rfl d_Inbox_moveFirstBehind_18 ?_
      refine lv_iload_n (pc := 21) hx hb d_Inbox_moveFirstBehind_21 rfl (lv_at hl 2 rfl) ?_
      refine lv_iconst (pc := 22) (v := 1) hx hb d_Inbox_moveFirstBehind_22 (by decide) ?_
      refine lv_isub (pc := 23) hx hb d_Inbox_moveFirstBehind_23 ?_
      refine lv_aload_n (pc := 24) hx hb d_Inbox_moveFirstBehind_24 rfl (lv_at hl 0 rfl) ?_
      refine z_get (pc := 25) (v := .ref (ad (13, i0, 0))) hF hK.1 hW (tq12 h0) rfl rfl in_Inbox 0 (by decide) gw_178 rfl rfl d_Inbox_moveFirstBehind_25 ?_
      refine lv_iload_n (pc := 28) hx hb d_Inbox_moveFirstBehind_28 rfl (lv_at hl 2 rfl) ?_
      have b4 := hk.1
      have hk := hk.2
      have b5 := hk.1
      have hk := hk.2
      refine z_aald (pc := 29) (q := ad (14, i0, (S.2.2 13 i0 0 (l2.toNatClampNeg)))) hF hK.1 hW (tq13 h0) 4 rfl rfl b4 rfl d_Inbox_moveFirstBehind_29 ?_
      have b6 := hk.1
      have hk := hk.2
      obtain ⟨S7, eS7⟩ : ∃ z : St, z = sp S 13 i0 0 ((l2 - (1 : Int32)).toNatClampNeg) (S.2.2 13 i0 0 (l2.toNatClampNeg)) := ⟨_, rfl⟩
      have hk := lt_p eS7 hk
      have hr := lt_e eS7 hr
      refine z_aast (pc := 30) (S' := S7) hF hK.1 hW (tq13 h0) (tq14 (Or.inl ⟨h0, b5⟩)) 4 6 rfl rfl rfl rfl b6 (zs_sp eS7 cfQ_row) (zs_spo eS7) d_Inbox_moveFirstBehind_30 (fun H locs (hW : Wd D clQ A s.heap (zw X ad TQ (cfQ ad ca) S7) H locs) => ?_)
      refine lv_aload_n (pc := 31) hx hb d_Inbox_moveFirstBehind_31 rfl (lv_at hl 0 rfl) ?_
      refine z_get (pc := 32) (v := .ref (ad (13, i0, 0))) hF hK.1 hW (tq12 h0) rfl rfl in_Inbox 0 (by decide) gw_178 rfl rfl d_Inbox_moveFirstBehind_32 ?_
      refine lv_iload_n (pc := 35) hx hb d_Inbox_moveFirstBehind_35 rfl (lv_at hl 2 rfl) ?_
      refine lv_aload_n (pc := 36) hx hb d_Inbox_moveFirstBehind_36 rfl (lv_at hl 1 rfl) ?_
      have b8 := hk.1
      have hk := hk.2
      obtain ⟨S9, eS9⟩ : ∃ z : St, z = sp S7 13 i0 0 (l2.toNatClampNeg) l1j := ⟨_, rfl⟩
      have hk := lt_p eS9 hk
      have hr := lt_e eS9 hr
      refine z_aast (pc := 37) (S' := S9) hF hK.1 hW (tq13 h0) (tq14 gl1) 4 6 rfl rfl rfl rfl b8 (zs_sp eS9 cfQ_row) (zs_spo eS9) d_Inbox_moveFirstBehind_37 (fun H locs (hW : Wd D clQ A s.heap (zw X ad TQ (cfQ ad ca) S9) H locs) => ?_)
      refine lv_iinc (pc := 38) (v := l2 + (1 : Int32)) (lv' := [(2, .int (l2 + (1 : Int32))), (0, .ref (ad (12, i0, 0))), (1, .ref (ad (14, i0, l1j)))]) (k := 2) hx hb d_Inbox_moveFirstBehind_38 hl rfl (z_inc (by decide)) (by decide) rfl (fun ls hl => ?_)
      refine lv_goto (pc := 41) (tgt := 9) hx hb d_Inbox_moveFirstBehind_41 (by decide) ?_
      exact ih S9 l1j (l2 + (1 : Int32)) gl1 hk hr _ _ _ hW (lv_sub hl [1, 2, 0] rfl)
def f_Inbox_moveFirstBehind (i0 : Nat) (S : St) : St :=
  f_Inbox_moveFirstBehind_9 i0 200 S (S.2.2 13 i0 0 0) (1 : Int32)
def ok_Inbox_moveFirstBehind (i0 : Nat) (S : St) : Prop :=
  ((S.2.2 13 i0 0 0) < 16) ∧ (
    ok_Inbox_moveFirstBehind_9 i0 200 S (S.2.2 13 i0 0 0) (1 : Int32))
set_option maxHeartbeats 4000000 in
set_option maxRecDepth 100000 in
theorem c_Inbox_moveFirstBehind (l : Launch) (D : va_G) (X : va_W) (ad : N3 → Nat) (ca : Nat → ClassId) (i0 : Nat) (h0 : i0 < 4) (S : St) (hk : ok_Inbox_moveFirstBehind i0 S) : cV l GG D clQ (tysQ ca) nwQ X ad TQ (cfQ ad ca) y_Inbox_moveFirstBehind b_Inbox_moveFirstBehind 3 0 0 [.ref (ad (12, i0, 0))] S (f_Inbox_moveFirstBehind i0 S) := by
  generalize hr : f_Inbox_moveFirstBehind i0 S = res
  refine zV_of pn_Inbox (Nat.le_of_ble_eq_true rfl) (fun p e s m below meth c A ls hy hW hA hl => ?_)
  have hF := hy.1
  have hx := hF.1
  have hb := hF.2.1
  have hK := hy.2.2.2
  have hl : lv_has ls 3 [(0, .ref (ad (12, i0, 0)))] := hl
  refine lv_aload_n (pc := 0) hx hb d_Inbox_moveFirstBehind_0 rfl (lv_at hl 0 rfl) ?_
  refine z_get (pc := 1) (v := .ref (ad (13, i0, 0))) hF hK.1 hW (tq12 h0) rfl rfl in_Inbox 0 (by decide) gw_178 rfl rfl d_Inbox_moveFirstBehind_1 ?_
  refine lv_iconst (pc := 4) (v := 0) hx hb d_Inbox_moveFirstBehind_4 (by decide) ?_
  have b1 : vp_in (0 : Int32) 16 := by unfold vp_in; decide
  have b2 := hk.1
  have hk := hk.2
  refine z_aald (pc := 5) (q := ad (14, i0, (S.2.2 13 i0 0 0))) hF hK.1 hW (tq13 h0) 4 rfl rfl b1 rfl d_Inbox_moveFirstBehind_5 ?_
  refine lv_astore_n (pc := 6) (lv' := [(1, .ref (ad (14, i0, (S.2.2 13 i0 0 0)))), (0, .ref (ad (12, i0, 0)))]) hx hb d_Inbox_moveFirstBehind_6 rfl hl (by decide) rfl (fun ls hl => ?_)
  refine lv_iconst (pc := 7) (v := 1) hx hb d_Inbox_moveFirstBehind_7 (by decide) ?_
  refine lv_istore_n (pc := 8) (lv' := [(2, .int (1 : Int32)), (1, .ref (ad (14, i0, (S.2.2 13 i0 0 0)))), (0, .ref (ad (12, i0, 0)))]) hx hb d_Inbox_moveFirstBehind_8 rfl hl (by decide) rfl (fun ls hl => ?_)
  exact w_Inbox_moveFirstBehind_9 i0 h0 hy hA 200 S (S.2.2 13 i0 0 0) (1 : Int32) (Or.inl ⟨h0, b2⟩) hk hr _ _ _ hW (lv_sub hl [2, 1, 0] rfl)
theorem d_Inbox_dropFirst_0 : decode b_Inbox_dropFirst 0 = .ok (.aload_n 0, 1) := by decide +kernel
theorem d_Inbox_dropFirst_1 : decode b_Inbox_dropFirst 1 = .ok (.getfield 18, 3) := by decide +kernel
theorem d_Inbox_dropFirst_4 : decode b_Inbox_dropFirst 4 = .ok (.ifCond .le 17, 3) := by decide +kernel
theorem d_Inbox_dropFirst_7 : decode b_Inbox_dropFirst 7 = .ok (.aload_n 0, 1) := by decide +kernel
theorem d_Inbox_dropFirst_8 : decode b_Inbox_dropFirst 8 = .ok (.invokevirtual 26, 3) := by decide +kernel
theorem d_Inbox_dropFirst_11 : decode b_Inbox_dropFirst 11 = .ok (.aload_n 0, 1) := by decide +kernel
theorem d_Inbox_dropFirst_12 : decode b_Inbox_dropFirst 12 = .ok (.dup, 1) := by decide +kernel
theorem d_Inbox_dropFirst_13 : decode b_Inbox_dropFirst 13 = .ok (.getfield 18, 3) := by decide +kernel
theorem d_Inbox_dropFirst_16 : decode b_Inbox_dropFirst 16 = .ok (.iconst 1, 1) := by decide +kernel
theorem d_Inbox_dropFirst_17 : decode b_Inbox_dropFirst 17 = .ok (.isub, 1) := by decide +kernel
theorem d_Inbox_dropFirst_18 : decode b_Inbox_dropFirst 18 = .ok (.putfield 18, 3) := by decide +kernel
theorem d_Inbox_dropFirst_21 : decode b_Inbox_dropFirst 21 = .ok (.return_, 1) := by decide +kernel
def f_Inbox_dropFirst (i0 : Nat) (S : St) : St :=
  if (S.1 12 i0 0 1) ≤ 0 then
    S
  else
    lt (f_Inbox_moveFirstBehind i0 S) fun (S4 : St) =>
    lt (si S4 12 i0 0 1 ((S4.1 12 i0 0 1) - (1 : Int32))) fun (S5 : St) =>
    S5
def ok_Inbox_dropFirst (i0 : Nat) (S : St) : Prop :=
  ((S.1 12 i0 0 1) ≤ 0 → (
    True)) ∧ (¬ ((S.1 12 i0 0 1) ≤ 0) → (
    (ok_Inbox_moveFirstBehind i0 S) ∧ (
      True)))
set_option maxHeartbeats 4000000 in
set_option maxRecDepth 100000 in
theorem c_Inbox_dropFirst (l : Launch) (D : va_G) (X : va_W) (ad : N3 → Nat) (ca : Nat → ClassId) (i0 : Nat) (h0 : i0 < 4) (S : St) (hk : ok_Inbox_dropFirst i0 S) : cV l GG D clQ (tysQ ca) nwQ X ad TQ (cfQ ad ca) y_Inbox_dropFirst b_Inbox_dropFirst 1 1 22 [.ref (ad (12, i0, 0))] S (f_Inbox_dropFirst i0 S) := by
  generalize hr : f_Inbox_dropFirst i0 S = res
  refine zV_of pn_Inbox (Nat.le_of_ble_eq_true rfl) (fun p e s m below meth c A ls hy hW hA hl => ?_)
  have hF := hy.1
  have hx := hF.1
  have hb := hF.2.1
  have hK := hy.2.2.2
  have hl : lv_has ls 1 [(0, .ref (ad (12, i0, 0)))] := hl
  refine lv_aload_n (pc := 0) hx hb d_Inbox_dropFirst_0 rfl (lv_at hl 0 rfl) ?_
  refine z_get (pc := 1) (v := .int (S.1 12 i0 0 1)) hF hK.1 hW (tq12 h0) rfl rfl in_Inbox 1 (by decide) gw_180 rfl rfl d_Inbox_dropFirst_1 ?_
  refine lv_if_le (pc := 4) (tgt := 21) hx hb d_Inbox_dropFirst_4 (by decide) (fun c1 => ?_) (fun c1 => ?_)
  · have hk := hk.1 c1
    have hr := (if_pos c1).symm.trans hr
    exact z_vret hy hW hr.symm d_Inbox_dropFirst_21
  · have hk := hk.2 c1
    have hr := (if_neg c1).symm.trans hr
    refine lv_aload_n (pc := 7) hx hb d_Inbox_dropFirst_7 rfl (lv_at hl 0 rfl) ?_
    have o2 := hk.1
    have hk := hk.2
    obtain ⟨S4, eS4⟩ : ∃ z : St, z = f_Inbox_moveFirstBehind i0 S := ⟨_, rfl⟩
    have hr := lt_e eS4 hr
    refine z_goV (pc := 8) hW hA eS4 (z_runV hF hK hW (c_Inbox_moveFirstBehind l D X ad ca i0 h0 S o2 _) cd_Inbox_moveFirstBehind gw_662 (tq12 h0) rfl rfl ⟨Nat.le_of_ble_eq_true rfl, Nat.le_of_ble_eq_true rfl⟩ ⟨Nat.zero_le _, Nat.zero_le _⟩ rfl rfl hl.1 (Nat.le_of_ble_eq_true rfl) d_Inbox_dropFirst_8) (fun H locs (hW : Wd D clQ A s.heap (zw X ad TQ (cfQ ad ca) S4) H locs) => ?_)
    refine lv_aload_n (pc := 11) hx hb d_Inbox_dropFirst_11 rfl (lv_at hl 0 rfl) ?_
    refine lv_dup (pc := 12) hx hb d_Inbox_dropFirst_12 rfl ?_
    refine z_get (pc := 13) (v := .int (S4.1 12 i0 0 1)) hF hK.1 hW (tq12 h0) rfl rfl in_Inbox 1 (by decide) gw_180 rfl rfl d_Inbox_dropFirst_13 ?_
    refine lv_iconst (pc := 16) (v := 1) hx hb d_Inbox_dropFirst_16 (by decide) ?_
    refine lv_isub (pc := 17) hx hb d_Inbox_dropFirst_17 ?_
    obtain ⟨S5, eS5⟩ : ∃ z : St, z = si S4 12 i0 0 1 ((S4.1 12 i0 0 1) - (1 : Int32)) := ⟨_, rfl⟩
    have hr := lt_e eS5 hr
    refine z_put (pc := 18) (S' := S5) hF hK.1 hW (tq12 h0) rfl rfl in_Inbox t_Inbox tyo_Inbox nmo_Inbox 1 (by decide) gw_180 rfl rfl rfl rfl rfl (Nat.le_of_ble_eq_true rfl) (zs_si eS5 rfl) (zs_sio eS5) d_Inbox_dropFirst_18 (fun H locs (hW : Wd D clQ A s.heap (zw X ad TQ (cfQ ad ca) S5) H locs) => ?_)
    exact z_vret hy hW hr.symm d_Inbox_dropFirst_21
theorem d_KeyTree_leafOf_0 : decode b_KeyTree_leafOf 0 = .ok (.ldc2_w 67, 3) := by decide +kernel
theorem d_KeyTree_leafOf_3 : decode b_KeyTree_leafOf 3 = .ok (.lstore_n 3, 1) := by decide +kernel
theorem d_KeyTree_leafOf_4 : decode b_KeyTree_leafOf 4 = .ok (.iconst 0, 1) := by decide +kernel
theorem d_KeyTree_leafOf_5 : decode b_KeyTree_leafOf 5 = .ok (.istore 5, 2) := by decide +kernel
theorem d_KeyTree_leafOf_7 : decode b_KeyTree_leafOf 7 = .ok (.iload 5, 2) := by decide +kernel
theorem d_KeyTree_leafOf_9 : decode b_KeyTree_leafOf 9 = .ok (.bipush 6, 2) := by decide +kernel
theorem d_KeyTree_leafOf_11 : decode b_KeyTree_leafOf 11 = .ok (.if_icmp .ge 27, 3) := by decide +kernel
theorem d_KeyTree_leafOf_14 : decode b_KeyTree_leafOf 14 = .ok (.lload_n 3, 1) := by decide +kernel
theorem d_KeyTree_leafOf_15 : decode b_KeyTree_leafOf 15 = .ok (.iload_n 0, 1) := by decide +kernel
theorem d_KeyTree_leafOf_16 : decode b_KeyTree_leafOf 16 = .ok (.iload_n 1, 1) := by decide +kernel
theorem d_KeyTree_leafOf_17 : decode b_KeyTree_leafOf 17 = .ok (.iload_n 2, 1) := by decide +kernel
theorem d_KeyTree_leafOf_18 : decode b_KeyTree_leafOf 18 = .ok (.iload 5, 2) := by decide +kernel
theorem d_KeyTree_leafOf_20 : decode b_KeyTree_leafOf 20 = .ok (.invokestatic 55, 3) := by decide +kernel
theorem d_KeyTree_leafOf_23 : decode b_KeyTree_leafOf 23 = .ok (.bipush 15, 2) := by decide +kernel
theorem d_KeyTree_leafOf_25 : decode b_KeyTree_leafOf 25 = .ok (.invokestatic 63, 3) := by decide +kernel
theorem d_KeyTree_leafOf_28 : decode b_KeyTree_leafOf 28 = .ok (.invokestatic 69, 3) := by decide +kernel
theorem d_KeyTree_leafOf_31 : decode b_KeyTree_leafOf 31 = .ok (.lstore_n 3, 1) := by decide +kernel
theorem d_KeyTree_leafOf_32 : decode b_KeyTree_leafOf 32 = .ok (.iinc 5 1, 3) := by decide +kernel
theorem d_KeyTree_leafOf_35 : decode b_KeyTree_leafOf 35 = .ok (.goto (-28), 3) := by decide +kernel
theorem d_KeyTree_leafOf_38 : decode b_KeyTree_leafOf 38 = .ok (.lload_n 3, 1) := by decide +kernel
theorem d_KeyTree_leafOf_39 : decode b_KeyTree_leafOf 39 = .ok (.invokestatic 72, 3) := by decide +kernel
theorem d_KeyTree_leafOf_42 : decode b_KeyTree_leafOf 42 = .ok (.lreturn, 1) := by decide +kernel
def f_KeyTree_leafOf_7 (a0 : Int32) (a1 : Int32) (a2 : Int32) : Nat → St → Int64 → Int32 → Int64
  | 0, _, _, _ => 0
  | n + 1, S, l3, l5 =>
    if (6 : Int32) ≤ l5 then
      lt (f_Fold_finish l3 S) fun (r2 : Int64) =>
      r2
    else
      lt (f_KeyTree_secretOf a0 a1 a2 l5 S) fun (r3 : Int64) =>
      lt (f_Fold_afterSteps r3 (15 : Int32) S) fun (r5 : Int64) =>
      lt (f_Fold_absorb l3 r5 S) fun (r6 : Int64) =>
      f_KeyTree_leafOf_7 a0 a1 a2 n S r6 (l5 + (1 : Int32))
def ok_KeyTree_leafOf_7 (a0 : Int32) (a1 : Int32) (a2 : Int32) : Nat → St → Int64 → Int32 → Prop
  | 0, _, _, _ => False
  | n + 1, S, l3, l5 =>
    ((6 : Int32) ≤ l5 → (
      True)) ∧ (¬ ((6 : Int32) ≤ l5) → (
      lt (f_KeyTree_secretOf a0 a1 a2 l5 S) fun (r3 : Int64) =>
      (ok_Fold_afterSteps r3 (15 : Int32) S) ∧ (
        lt (f_Fold_afterSteps r3 (15 : Int32) S) fun (r5 : Int64) =>
        lt (f_Fold_absorb l3 r5 S) fun (r6 : Int64) =>
        ok_KeyTree_leafOf_7 a0 a1 a2 n S r6 (l5 + (1 : Int32)))))
set_option maxHeartbeats 4000000 in
set_option maxRecDepth 100000 in
theorem w_KeyTree_leafOf_7 {l : Launch} {D : va_G} {X : va_W} {ad : N3 → Nat} {ca : Nat → ClassId} (a0 : Int32) (a1 : Int32) (a2 : Int32)  (S : St) {p : Program} {e : Env} {s : State} {m : MethodId} {below : List Frame} {meth : Method} {c : Code} {A : Nat → Prop} (hy : Hy p s m ([.int a0, .int a1, .int a2] : List Value).toArray meth c b_KeyTree_leafOf 6 (some .long) R_KeyTree GG D clQ (tysQ ca) nwQ) (hA : ∀ q, s.heap.size ≤ q → A q) {res : Int64} : ∀ (n : Nat) (l3 : Int64) (l5 : Int32) , ok_KeyTree_leafOf_7 a0 a1 a2 n S l3 l5 → f_KeyTree_leafOf_7 a0 a1 a2 n S l3 l5 = res → ∀ (H : Heap) (locs : List Loc) (ls : Array Slot), Wd D clQ A s.heap (zw X ad TQ (cfQ ad ca) S) H locs → lv_has ls 6 [(0, .int a0), (1, .int a1), (2, .int a2), (3, .long l3), (5, .int l5)] → W p l e { frames := 2, cells := 0, slots := 0, locals := 50 } s m ([.int a0, .int a1, .int a2] : List Value).toArray below meth c H locs 0 0 (MQ below (eL D clQ X ad TQ (cfQ ad ca) A (res, S)) ([.int a0, .int a1, .int a2] : List Value).toArray s 0 0 A) (F0 m 7 ls []) := by
  have hF := hy.1
  have hx := hF.1
  have hb := hF.2.1
  have hK := hy.2.2.2
  intro n
  induction n with
  | zero =>
    intro l3 l5 hk
    exact hk.elim
  | succ n ih =>
    intro l3 l5 hk hr H locs ls hW hl
    refine lv_iload (pc := 7) hx hb d_KeyTree_leafOf_7 (lv_at hl 4 rfl) ?_
    refine lv_bipush (pc := 9) (v := 6) hx hb d_KeyTree_leafOf_9 (by decide) ?_
    refine lv_icmp_ge (pc := 11) (tgt := 38) hx hb d_KeyTree_leafOf_11 (by decide) (fun c1 => ?_) (fun c1 => ?_)
    · have hk := hk.1 c1
      have hr := (if_pos c1).symm.trans hr
      refine lv_lload_n (pc := 38) hx hb d_KeyTree_leafOf_38 rfl (lv_at hl 3 rfl) ?_
      obtain ⟨r2, er2⟩ : ∃ z : Int64, z = f_Fold_finish l3 S := ⟨_, rfl⟩
      have hr := lt_e er2 hr
      refine z_goL (pc := 39) hW hA (congrArg (fun q => (q, S)) er2) (z_runS hF hK hW (c_Fold_finish l D X ad ca l3 S _) cd_Fold_finish gw_236 ⟨Nat.le_of_ble_eq_true rfl, Nat.le_of_ble_eq_true rfl⟩ ⟨Nat.zero_le _, Nat.zero_le _⟩ rfl rfl hl.1 (Nat.le_of_ble_eq_true rfl) d_KeyTree_leafOf_39) (fun H locs (hW : Wd D clQ A s.heap (zw X ad TQ (cfQ ad ca) S) H locs) => ?_)
      exact z_lret (v := r2) hy hW (congrArg (fun z => (z, S)) hr.symm) d_KeyTree_leafOf_42
    · have hk := hk.2 c1
      have hr := (if_neg c1).symm.trans hr
      refine lv_lload_n (pc := 14) hx hb d_KeyTree_leafOf_14 rfl (lv_at hl 3 rfl) ?_
      refine lv_iload_n (pc := 15) hx hb d_KeyTree_leafOf_15 rfl (lv_at hl 0 rfl) ?_
      refine lv_iload_n (pc := 16) hx hb d_KeyTree_leafOf_16 rfl (lv_at hl 1 rfl) ?_
      refine lv_iload_n (pc := 17) hx hb d_KeyTree_leafOf_17 rfl (lv_at hl 2 rfl) ?_
      refine lv_iload (pc := 18) hx hb d_KeyTree_leafOf_18 (lv_at hl 4 rfl) ?_
      obtain ⟨r3, er3⟩ : ∃ z : Int64, z = f_KeyTree_secretOf a0 a1 a2 l5 S := ⟨_, rfl⟩
      have hk := lt_p er3 hk
      have hr := lt_e er3 hr
      refine z_goL (pc := 20) hW hA (congrArg (fun q => (q, S)) er3) (z_runS hF hK hW (c_KeyTree_secretOf l D X ad ca a0 a1 a2 l5 S _) cd_KeyTree_secretOf gw_229 ⟨Nat.le_of_ble_eq_true rfl, Nat.le_of_ble_eq_true rfl⟩ ⟨Nat.zero_le _, Nat.zero_le _⟩ rfl rfl hl.1 (Nat.le_of_ble_eq_true rfl) d_KeyTree_leafOf_20) (fun H locs (hW : Wd D clQ A s.heap (zw X ad TQ (cfQ ad ca) S) H locs) => ?_)
      refine lv_bipush (pc := 23) (v := 15) hx hb d_KeyTree_leafOf_23 (by decide) ?_
      have o4 := hk.1
      have hk := hk.2
      obtain ⟨r5, er5⟩ : ∃ z : Int64, z = f_Fold_afterSteps r3 (15 : Int32) S := ⟨_, rfl⟩
      have hk := lt_p er5 hk
      have hr := lt_e er5 hr
      refine z_goL (pc := 25) hW hA (congrArg (fun q => (q, S)) er5) (z_runS hF hK hW (c_Fold_afterSteps l D X ad ca r3 (15 : Int32) S o4 _) cd_Fold_afterSteps gw_240 ⟨Nat.le_of_ble_eq_true rfl, Nat.le_of_ble_eq_true rfl⟩ ⟨Nat.zero_le _, Nat.zero_le _⟩ rfl rfl hl.1 (Nat.le_of_ble_eq_true rfl) d_KeyTree_leafOf_25) (fun H locs (hW : Wd D clQ A s.heap (zw X ad TQ (cfQ ad ca) S) H locs) => ?_)
      obtain ⟨r6, er6⟩ : ∃ z : Int64, z = f_Fold_absorb l3 r5 S := ⟨_, rfl⟩
      have hk := lt_p er6 hk
      have hr := lt_e er6 hr
      refine z_goL (pc := 28) hW hA (congrArg (fun q => (q, S)) er6) (z_runS hF hK hW (c_Fold_absorb l D X ad ca l3 r5 S _) cd_Fold_absorb gw_232 ⟨Nat.le_of_ble_eq_true rfl, Nat.le_of_ble_eq_true rfl⟩ ⟨Nat.zero_le _, Nat.zero_le _⟩ rfl rfl hl.1 (Nat.le_of_ble_eq_true rfl) d_KeyTree_leafOf_28) (fun H locs (hW : Wd D clQ A s.heap (zw X ad TQ (cfQ ad ca) S) H locs) => ?_)
      refine lv_lstore_n (pc := 31) (lv' := [(3, .long r6), (0, .int a0), (1, .int a1), (2, .int a2), (5, .int l5)]) hx hb d_KeyTree_leafOf_31 rfl hl (by decide) rfl (fun ls hl => ?_)
      refine lv_iinc (pc := 32) (v := l5 + (1 : Int32)) (lv' := [(5, .int (l5 + (1 : Int32))), (3, .long r6), (0, .int a0), (1, .int a1), (2, .int a2)]) (k := 4) hx hb d_KeyTree_leafOf_32 hl rfl (z_inc (by decide)) (by decide) rfl (fun ls hl => ?_)
      refine lv_goto (pc := 35) (tgt := 7) hx hb d_KeyTree_leafOf_35 (by decide) ?_
      exact ih r6 (l5 + (1 : Int32)) hk hr _ _ _ hW (lv_sub hl [2, 3, 4, 1, 0] rfl)
def f_KeyTree_leafOf (a0 : Int32) (a1 : Int32) (a2 : Int32) (S : St) : Int64 :=
  f_KeyTree_leafOf_7 a0 a1 a2 200 S (-7046029254386353131 : Int64) (0 : Int32)
def ok_KeyTree_leafOf (a0 : Int32) (a1 : Int32) (a2 : Int32) (S : St) : Prop :=
  ok_KeyTree_leafOf_7 a0 a1 a2 200 S (-7046029254386353131 : Int64) (0 : Int32)
set_option maxHeartbeats 4000000 in
set_option maxRecDepth 100000 in
theorem c_KeyTree_leafOf (l : Launch) (D : va_G) (X : va_W) (ad : N3 → Nat) (ca : Nat → ClassId) (a0 : Int32) (a1 : Int32) (a2 : Int32)  (S : St) (hk : ok_KeyTree_leafOf a0 a1 a2 S) : cL l GG D clQ (tysQ ca) nwQ X ad TQ (cfQ ad ca) y_KeyTree_leafOf b_KeyTree_leafOf 6 .long 2 50 [.int a0, .int a1, .int a2] S ((f_KeyTree_leafOf a0 a1 a2 S), S) := by
  generalize hr : f_KeyTree_leafOf a0 a1 a2 S = res
  refine zL_of pn_KeyTree (Nat.le_of_ble_eq_true rfl) (fun p e s m below meth c A ls hy hW hA hl => ?_)
  have hF := hy.1
  have hx := hF.1
  have hb := hF.2.1
  have hK := hy.2.2.2
  have hl : lv_has ls 6 [(0, .int a0), (1, .int a1), (2, .int a2)] := hl
  refine lv_ldc2 (pc := 0) hx hb hF.2.2.2.1 (hF.2.2.2.2 _ gw_228) d_KeyTree_leafOf_0 ?_
  refine lv_lstore_n (pc := 3) (lv' := [(3, .long (-7046029254386353131 : Int64)), (0, .int a0), (1, .int a1), (2, .int a2)]) hx hb d_KeyTree_leafOf_3 rfl hl (by decide) rfl (fun ls hl => ?_)
  refine lv_iconst (pc := 4) (v := 0) hx hb d_KeyTree_leafOf_4 (by decide) ?_
  refine lv_istore (pc := 5) (lv' := [(5, .int (0 : Int32)), (3, .long (-7046029254386353131 : Int64)), (0, .int a0), (1, .int a1), (2, .int a2)]) hx hb d_KeyTree_leafOf_5 hl (by decide) rfl (fun ls hl => ?_)
  exact w_KeyTree_leafOf_7 a0 a1 a2 S hy hA 200 (-7046029254386353131 : Int64) (0 : Int32) hk hr _ _ _ hW (lv_sub hl [2, 3, 4, 1, 0] rfl)
theorem d_Node_addToPool_0 : decode b_Node_addToPool 0 = .ok (.iconst 0, 1) := by decide +kernel
theorem d_Node_addToPool_1 : decode b_Node_addToPool 1 = .ok (.istore_n 2, 1) := by decide +kernel
theorem d_Node_addToPool_2 : decode b_Node_addToPool 2 = .ok (.iload_n 2, 1) := by decide +kernel
theorem d_Node_addToPool_3 : decode b_Node_addToPool 3 = .ok (.aload_n 0, 1) := by decide +kernel
theorem d_Node_addToPool_4 : decode b_Node_addToPool 4 = .ok (.getfield 60, 3) := by decide +kernel
theorem d_Node_addToPool_7 : decode b_Node_addToPool 7 = .ok (.if_icmp .ge 21, 3) := by decide +kernel
theorem d_Node_addToPool_10 : decode b_Node_addToPool 10 = .ok (.aload_n 0, 1) := by decide +kernel
theorem d_Node_addToPool_11 : decode b_Node_addToPool 11 = .ok (.getfield 30, 3) := by decide +kernel
theorem d_Node_addToPool_14 : decode b_Node_addToPool 14 = .ok (.iload_n 2, 1) := by decide +kernel
theorem d_Node_addToPool_15 : decode b_Node_addToPool 15 = .ok (.iaload, 1) := by decide +kernel
theorem d_Node_addToPool_16 : decode b_Node_addToPool 16 = .ok (.iload_n 1, 1) := by decide +kernel
theorem d_Node_addToPool_17 : decode b_Node_addToPool 17 = .ok (.if_icmp .ne 5, 3) := by decide +kernel
theorem d_Node_addToPool_20 : decode b_Node_addToPool 20 = .ok (.iconst 0, 1) := by decide +kernel
theorem d_Node_addToPool_21 : decode b_Node_addToPool 21 = .ok (.ireturn, 1) := by decide +kernel
theorem d_Node_addToPool_22 : decode b_Node_addToPool 22 = .ok (.iinc 2 1, 3) := by decide +kernel
theorem d_Node_addToPool_25 : decode b_Node_addToPool 25 = .ok (.goto (-23), 3) := by decide +kernel
theorem d_Node_addToPool_28 : decode b_Node_addToPool 28 = .ok (.aload_n 0, 1) := by decide +kernel
theorem d_Node_addToPool_29 : decode b_Node_addToPool 29 = .ok (.getfield 60, 3) := by decide +kernel
theorem d_Node_addToPool_32 : decode b_Node_addToPool 32 = .ok (.bipush 40, 2) := by decide +kernel
theorem d_Node_addToPool_34 : decode b_Node_addToPool 34 = .ok (.if_icmp .lt 5, 3) := by decide +kernel
theorem d_Node_addToPool_37 : decode b_Node_addToPool 37 = .ok (.iconst 0, 1) := by decide +kernel
theorem d_Node_addToPool_38 : decode b_Node_addToPool 38 = .ok (.ireturn, 1) := by decide +kernel
theorem d_Node_addToPool_39 : decode b_Node_addToPool 39 = .ok (.aload_n 0, 1) := by decide +kernel
theorem d_Node_addToPool_40 : decode b_Node_addToPool 40 = .ok (.getfield 30, 3) := by decide +kernel
theorem d_Node_addToPool_43 : decode b_Node_addToPool 43 = .ok (.aload_n 0, 1) := by decide +kernel
theorem d_Node_addToPool_44 : decode b_Node_addToPool 44 = .ok (.getfield 60, 3) := by decide +kernel
theorem d_Node_addToPool_47 : decode b_Node_addToPool 47 = .ok (.iload_n 1, 1) := by decide +kernel
theorem d_Node_addToPool_48 : decode b_Node_addToPool 48 = .ok (.iastore, 1) := by decide +kernel
theorem d_Node_addToPool_49 : decode b_Node_addToPool 49 = .ok (.aload_n 0, 1) := by decide +kernel
theorem d_Node_addToPool_50 : decode b_Node_addToPool 50 = .ok (.dup, 1) := by decide +kernel
theorem d_Node_addToPool_51 : decode b_Node_addToPool 51 = .ok (.getfield 60, 3) := by decide +kernel
theorem d_Node_addToPool_54 : decode b_Node_addToPool 54 = .ok (.iconst 1, 1) := by decide +kernel
theorem d_Node_addToPool_55 : decode b_Node_addToPool 55 = .ok (.iadd, 1) := by decide +kernel
theorem d_Node_addToPool_56 : decode b_Node_addToPool 56 = .ok (.putfield 60, 3) := by decide +kernel
theorem d_Node_addToPool_59 : decode b_Node_addToPool 59 = .ok (.iconst 1, 1) := by decide +kernel
theorem d_Node_addToPool_60 : decode b_Node_addToPool 60 = .ok (.ireturn, 1) := by decide +kernel
def f_Node_addToPool_2 (i0 : Nat) (a1 : Int32) : Nat → St → Int32 → Int32 × St
  | 0, S, _ => (0, S)
  | n + 1, S, l2 =>
    if (S.1 3 i0 0 6) ≤ l2 then
      if (S.1 3 i0 0 6) < (40 : Int32) then
        lt (si S 18 i0 0 ((S.1 3 i0 0 6).toNatClampNeg) a1) fun (S4 : St) =>
        lt (si S4 3 i0 0 6 ((S4.1 3 i0 0 6) + (1 : Int32))) fun (S5 : St) =>
        ((1 : Int32), S5)
      else
        ((0 : Int32), S)
    else
      if (S.1 18 i0 0 l2.toNatClampNeg) = a1 then
        ((0 : Int32), S)
      else
        f_Node_addToPool_2 i0 a1 n S (l2 + (1 : Int32))
def ok_Node_addToPool_2 (i0 : Nat) (a1 : Int32) : Nat → St → Int32 → Prop
  | 0, _, _ => False
  | n + 1, S, l2 =>
    ((S.1 3 i0 0 6) ≤ l2 → (
      ((S.1 3 i0 0 6) < (40 : Int32) → (
        (vp_in (S.1 3 i0 0 6) 40) ∧ (
          True))) ∧ (¬ ((S.1 3 i0 0 6) < (40 : Int32)) → (
        True)))) ∧ (¬ ((S.1 3 i0 0 6) ≤ l2) → (
      (vp_in l2 40) ∧ (
        ((S.1 18 i0 0 l2.toNatClampNeg) = a1 → (
          True)) ∧ (¬ ((S.1 18 i0 0 l2.toNatClampNeg) = a1) → (
          ok_Node_addToPool_2 i0 a1 n S (l2 + (1 : Int32)))))))
set_option maxHeartbeats 4000000 in
set_option maxRecDepth 100000 in
theorem w_Node_addToPool_2 {l : Launch} {D : va_G} {X : va_W} {ad : N3 → Nat} {ca : Nat → ClassId} (i0 : Nat) (a1 : Int32) (h0 : i0 < 4) {p : Program} {e : Env} {s : State} {m : MethodId} {below : List Frame} {meth : Method} {c : Code} {A : Nat → Prop} (hy : Hy p s m ([.ref (ad (3, i0, 0)), .int a1] : List Value).toArray meth c b_Node_addToPool 3 (some .boolean) R_Node GG D clQ (tysQ ca) nwQ) (hA : ∀ q, s.heap.size ≤ q → A q) {res : Int32 × St} : ∀ (n : Nat) (S : St) (l2 : Int32) , ok_Node_addToPool_2 i0 a1 n S l2 → f_Node_addToPool_2 i0 a1 n S l2 = res → ∀ (H : Heap) (locs : List Loc) (ls : Array Slot), Wd D clQ A s.heap (zw X ad TQ (cfQ ad ca) S) H locs → lv_has ls 3 [(0, .ref (ad (3, i0, 0))), (1, .int a1), (2, .int l2)] → W p l e { frames := 0, cells := 0, slots := 0, locals := 0 } s m ([.ref (ad (3, i0, 0)), .int a1] : List Value).toArray below meth c H locs 0 0 (MQ below (eI D clQ X ad TQ (cfQ ad ca) A res) ([.ref (ad (3, i0, 0)), .int a1] : List Value).toArray s 0 0 A) (F0 m 2 ls []) := by
  have hF := hy.1
  have hx := hF.1
  have hb := hF.2.1
  have hK := hy.2.2.2
  intro n
  induction n with
  | zero =>
    intro S l2 hk
    exact hk.elim
  | succ n ih =>
    intro S l2 hk hr H locs ls hW hl
    refine lv_iload_n (pc := 2) hx hb d_Node_addToPool_2 rfl (lv_at hl 2 rfl) ?_
    refine lv_aload_n (pc := 3) hx hb d_Node_addToPool_3 rfl (lv_at hl 0 rfl) ?_
    refine z_get (pc := 4) (v := .int (S.1 3 i0 0 6)) hF hK.1 hW (tq3 h0) rfl rfl in_Node 6 (by decide) gw_307 rfl rfl d_Node_addToPool_4 ?_
    refine lv_icmp_ge (pc := 7) (tgt := 28) hx hb d_Node_addToPool_7 (by decide) (fun c1 => ?_) (fun c1 => ?_)
    · have hk := hk.1 c1
      have hr := (if_pos c1).symm.trans hr
      refine lv_aload_n (pc := 28) hx hb d_Node_addToPool_28 rfl (lv_at hl 0 rfl) ?_
      refine z_get (pc := 29) (v := .int (S.1 3 i0 0 6)) hF hK.1 hW (tq3 h0) rfl rfl in_Node 6 (by decide) gw_307 rfl rfl d_Node_addToPool_29 ?_
      refine lv_bipush (pc := 32) (v := 40) hx hb d_Node_addToPool_32 (by decide) ?_
      refine lv_icmp_lt (pc := 34) (tgt := 39) hx hb d_Node_addToPool_34 (by decide) (fun c2 => ?_) (fun c2 => ?_)
      · have hk := hk.1 c2
        have hr := (if_pos c2).symm.trans hr
        refine lv_aload_n (pc := 39) hx hb d_Node_addToPool_39 rfl (lv_at hl 0 rfl) ?_
        refine z_get (pc := 40) (v := .ref (ad (18, i0, 0))) hF hK.1 hW (tq3 h0) rfl rfl in_Node 5 (by decide) gw_305 rfl rfl d_Node_addToPool_40 ?_
        refine lv_aload_n (pc := 43) hx hb d_Node_addToPool_43 rfl (lv_at hl 0 rfl) ?_
        refine z_get (pc := 44) (v := .int (S.1 3 i0 0 6)) hF hK.1 hW (tq3 h0) rfl rfl in_Node 6 (by decide) gw_307 rfl rfl d_Node_addToPool_44 ?_
        refine lv_iload_n (pc := 47) hx hb d_Node_addToPool_47 rfl (lv_at hl 1 rfl) ?_
        have b3 := hk.1
        have hk := hk.2
        obtain ⟨S4, eS4⟩ : ∃ z : St, z = si S 18 i0 0 ((S.1 3 i0 0 6).toNatClampNeg) a1 := ⟨_, rfl⟩
        have hr := lt_e eS4 hr
        refine z_iast (pc := 48) (S' := S4) hF hK.1 hW (tq18 h0) 0 rfl rfl b3 (zs_si eS4 rfl) (zs_sio eS4) d_Node_addToPool_48 (fun H locs (hW : Wd D clQ A s.heap (zw X ad TQ (cfQ ad ca) S4) H locs) => ?_)
        refine lv_aload_n (pc := 49) hx hb d_Node_addToPool_49 rfl (lv_at hl 0 rfl) ?_
        refine lv_dup (pc := 50) hx hb d_Node_addToPool_50 rfl ?_
        refine z_get (pc := 51) (v := .int (S4.1 3 i0 0 6)) hF hK.1 hW (tq3 h0) rfl rfl in_Node 6 (by decide) gw_307 rfl rfl d_Node_addToPool_51 ?_
        refine lv_iconst (pc := 54) (v := 1) hx hb d_Node_addToPool_54 (by decide) ?_
        refine lv_iadd (pc := 55) hx hb d_Node_addToPool_55 ?_
        obtain ⟨S5, eS5⟩ : ∃ z : St, z = si S4 3 i0 0 6 ((S4.1 3 i0 0 6) + (1 : Int32)) := ⟨_, rfl⟩
        have hr := lt_e eS5 hr
        refine z_put (pc := 56) (S' := S5) hF hK.1 hW (tq3 h0) rfl rfl in_Node t_Node tyo_Node nmo_Node 6 (by decide) gw_307 rfl rfl rfl rfl rfl (Nat.le_of_ble_eq_true rfl) (zs_si eS5 rfl) (zs_sio eS5) d_Node_addToPool_56 (fun H locs (hW : Wd D clQ A s.heap (zw X ad TQ (cfQ ad ca) S5) H locs) => ?_)
        refine lv_iconst (pc := 59) (v := 1) hx hb d_Node_addToPool_59 (by decide) ?_
        exact z_zret (v := (1 : Int32)) hy hW rfl hr.symm d_Node_addToPool_60
      · have hk := hk.2 c2
        have hr := (if_neg c2).symm.trans hr
        refine lv_iconst (pc := 37) (v := 0) hx hb d_Node_addToPool_37 (by decide) ?_
        exact z_zret (v := (0 : Int32)) hy hW rfl hr.symm d_Node_addToPool_38
    · have hk := hk.2 c1
      have hr := (if_neg c1).symm.trans hr
      refine lv_aload_n (pc := 10) hx hb d_Node_addToPool_10 rfl (lv_at hl 0 rfl) ?_
      refine z_get (pc := 11) (v := .ref (ad (18, i0, 0))) hF hK.1 hW (tq3 h0) rfl rfl in_Node 5 (by decide) gw_305 rfl rfl d_Node_addToPool_11 ?_
      refine lv_iload_n (pc := 14) hx hb d_Node_addToPool_14 rfl (lv_at hl 2 rfl) ?_
      have b6 := hk.1
      have hk := hk.2
      refine z_iald (pc := 15) (v := S.1 18 i0 0 l2.toNatClampNeg) hF hK.1 hW (tq18 h0) 0 rfl rfl b6 rfl d_Node_addToPool_15 ?_
      refine lv_iload_n (pc := 16) hx hb d_Node_addToPool_16 rfl (lv_at hl 1 rfl) ?_
      refine lv_icmp_ne (pc := 17) (tgt := 22) hx hb d_Node_addToPool_17 (by decide) (fun c7 => ?_) (fun c7 => ?_)
      · have hk := hk.2 c7
        have hr := (if_neg c7).symm.trans hr
        refine lv_iinc (pc := 22) (v := l2 + (1 : Int32)) (lv' := [(2, .int (l2 + (1 : Int32))), (0, .ref (ad (3, i0, 0))), (1, .int a1)]) (k := 2) hx hb d_Node_addToPool_22 hl rfl (z_inc (by decide)) (by decide) rfl (fun ls hl => ?_)
        refine lv_goto (pc := 25) (tgt := 2) hx hb d_Node_addToPool_25 (by decide) ?_
        exact ih S (l2 + (1 : Int32)) hk hr _ _ _ hW (lv_sub hl [1, 2, 0] rfl)
      · have hk := hk.1 c7
        have hr := (if_pos c7).symm.trans hr
        refine lv_iconst (pc := 20) (v := 0) hx hb d_Node_addToPool_20 (by decide) ?_
        exact z_zret (v := (0 : Int32)) hy hW rfl hr.symm d_Node_addToPool_21
def f_Node_addToPool (i0 : Nat) (a1 : Int32) (S : St) : Int32 × St :=
  f_Node_addToPool_2 i0 a1 200 S (0 : Int32)
def ok_Node_addToPool (i0 : Nat) (a1 : Int32) (S : St) : Prop :=
  ok_Node_addToPool_2 i0 a1 200 S (0 : Int32)
set_option maxHeartbeats 4000000 in
set_option maxRecDepth 100000 in
theorem c_Node_addToPool (l : Launch) (D : va_G) (X : va_W) (ad : N3 → Nat) (ca : Nat → ClassId) (i0 : Nat) (a1 : Int32) (h0 : i0 < 4) (S : St) (hk : ok_Node_addToPool i0 a1 S) : cI l GG D clQ (tysQ ca) nwQ X ad TQ (cfQ ad ca) y_Node_addToPool b_Node_addToPool 3 .boolean 0 0 [.ref (ad (3, i0, 0)), .int a1] S (f_Node_addToPool i0 a1 S) := by
  generalize hr : f_Node_addToPool i0 a1 S = res
  refine zI_of pn_Node (Nat.le_of_ble_eq_true rfl) (fun p e s m below meth c A ls hy hW hA hl => ?_)
  have hF := hy.1
  have hx := hF.1
  have hb := hF.2.1
  have hK := hy.2.2.2
  have hl : lv_has ls 3 [(0, .ref (ad (3, i0, 0))), (1, .int a1)] := hl
  refine lv_iconst (pc := 0) (v := 0) hx hb d_Node_addToPool_0 (by decide) ?_
  refine lv_istore_n (pc := 1) (lv' := [(2, .int (0 : Int32)), (0, .ref (ad (3, i0, 0))), (1, .int a1)]) hx hb d_Node_addToPool_1 rfl hl (by decide) rfl (fun ls hl => ?_)
  exact w_Node_addToPool_2 i0 a1 h0 hy hA 200 S (0 : Int32) hk hr _ _ _ hW (lv_sub hl [1, 2, 0] rfl)
end
section
theorem d_Tally_empty_0 : decode b_Tally_empty 0 = .ok (.iconst 0, 1) := by decide +kernel
theorem d_Tally_empty_1 : decode b_Tally_empty 1 = .ok (.istore_n 1, 1) := by decide +kernel
theorem d_Tally_empty_2 : decode b_Tally_empty 2 = .ok (.iload_n 1, 1) := by decide +kernel
theorem d_Tally_empty_3 : decode b_Tally_empty 3 = .ok (.aload_n 0, 1) := by decide +kernel
theorem d_Tally_empty_4 : decode b_Tally_empty 4 = .ok (.getfield 7, 3) := by decide +kernel
theorem d_Tally_empty_7 : decode b_Tally_empty 7 = .ok (.arraylength, 1) := by decide +kernel
theorem d_Tally_empty_8 : decode b_Tally_empty 8 = .ok (.if_icmp .ge 16, 3) := by decide +kernel
theorem d_Tally_empty_11 : decode b_Tally_empty 11 = .ok (.aload_n 0, 1) := by decide +kernel
theorem d_Tally_empty_12 : decode b_Tally_empty 12 = .ok (.getfield 7, 3) := by decide +kernel
theorem d_Tally_empty_15 : decode b_Tally_empty 15 = .ok (.iload_n 1, 1) := by decide +kernel
theorem d_Tally_empty_16 : decode b_Tally_empty 16 = .ok (.iconst 0, 1) := by decide +kernel
theorem d_Tally_empty_17 : decode b_Tally_empty 17 = .ok (.iastore, 1) := by decide +kernel
theorem d_Tally_empty_18 : decode b_Tally_empty 18 = .ok (.iinc 1 1, 3) := by decide +kernel
theorem d_Tally_empty_21 : decode b_Tally_empty 21 = .ok (.goto (-19), 3) := by decide +kernel
theorem d_Tally_empty_24 : decode b_Tally_empty 24 = .ok (.return_, 1) := by decide +kernel
def f_Tally_empty_2 (i0 : Nat) (j0 : Nat) : Nat → St → Int32 → St
  | 0, S, _ => S
  | n + 1, S, l1 =>
    if (Int32.ofNat (tlen j0)) ≤ l1 then
      S
    else
      lt (si S 17 i0 j0 (l1.toNatClampNeg) (0 : Int32)) fun (S3 : St) =>
      f_Tally_empty_2 i0 j0 n S3 (l1 + (1 : Int32))
def ok_Tally_empty_2 (i0 : Nat) (j0 : Nat) : Nat → St → Int32 → Prop
  | 0, _, _ => False
  | n + 1, S, l1 =>
    ((Int32.ofNat (tlen j0)) ≤ l1 → (
      True)) ∧ (¬ ((Int32.ofNat (tlen j0)) ≤ l1) → (
      (vp_in l1 (tlen j0)) ∧ (
        lt (si S 17 i0 j0 (l1.toNatClampNeg) (0 : Int32)) fun (S3 : St) =>
        ok_Tally_empty_2 i0 j0 n S3 (l1 + (1 : Int32)))))
set_option maxHeartbeats 4000000 in
set_option maxRecDepth 100000 in
theorem w_Tally_empty_2 {l : Launch} {D : va_G} {X : va_W} {ad : N3 → Nat} {ca : Nat → ClassId} (i0 : Nat) (j0 : Nat) (h0 : inT i0 j0) {p : Program} {e : Env} {s : State} {m : MethodId} {below : List Frame} {meth : Method} {c : Code} {A : Nat → Prop} (hy : Hy p s m ([.ref (ad (16, i0, j0))] : List Value).toArray meth c b_Tally_empty 2 none R_Tally GG D clQ (tysQ ca) nwQ) (hA : ∀ q, s.heap.size ≤ q → A q) {res : St} : ∀ (n : Nat) (S : St) (l1 : Int32) , ok_Tally_empty_2 i0 j0 n S l1 → f_Tally_empty_2 i0 j0 n S l1 = res → ∀ (H : Heap) (locs : List Loc) (ls : Array Slot), Wd D clQ A s.heap (zw X ad TQ (cfQ ad ca) S) H locs → lv_has ls 2 [(0, .ref (ad (16, i0, j0))), (1, .int l1)] → W p l e { frames := 0, cells := 0, slots := 0, locals := 0 } s m ([.ref (ad (16, i0, j0))] : List Value).toArray below meth c H locs 0 0 (MQ below (eV D clQ X ad TQ (cfQ ad ca) A res) ([.ref (ad (16, i0, j0))] : List Value).toArray s 0 0 A) (F0 m 2 ls []) := by
  have hF := hy.1
  have hx := hF.1
  have hb := hF.2.1
  have hK := hy.2.2.2
  intro n
  induction n with
  | zero =>
    intro S l1 hk
    exact hk.elim
  | succ n ih =>
    intro S l1 hk hr H locs ls hW hl
    refine lv_iload_n (pc := 2) hx hb d_Tally_empty_2 rfl (lv_at hl 1 rfl) ?_
    refine lv_aload_n (pc := 3) hx hb d_Tally_empty_3 rfl (lv_at hl 0 rfl) ?_
    refine z_get (pc := 4) (v := .ref (ad (17, i0, j0))) hF hK.1 hW (tq16 h0) rfl rfl in_Tally 0 (by decide) gw_194 rfl rfl d_Tally_empty_4 ?_
    refine z_alen (pc := 7) (v := Int32.ofNat (tlen j0)) hF hK.1 hW (tq17 h0) 0 rfl rfl rfl d_Tally_empty_7 ?_
    refine lv_icmp_ge (pc := 8) (tgt := 24) hx hb d_Tally_empty_8 (by decide) (fun c1 => ?_) (fun c1 => ?_)
    · have hk := hk.1 c1
      have hr := (if_pos c1).symm.trans hr
      exact z_vret hy hW hr.symm d_Tally_empty_24
    · have hk := hk.2 c1
      have hr := (if_neg c1).symm.trans hr
      refine lv_aload_n (pc := 11) hx hb d_Tally_empty_11 rfl (lv_at hl 0 rfl) ?_
      refine z_get (pc := 12) (v := .ref (ad (17, i0, j0))) hF hK.1 hW (tq16 h0) rfl rfl in_Tally 0 (by decide) gw_194 rfl rfl d_Tally_empty_12 ?_
      refine lv_iload_n (pc := 15) hx hb d_Tally_empty_15 rfl (lv_at hl 1 rfl) ?_
      refine lv_iconst (pc := 16) (v := 0) hx hb d_Tally_empty_16 (by decide) ?_
      have b2 := hk.1
      have hk := hk.2
      obtain ⟨S3, eS3⟩ : ∃ z : St, z = si S 17 i0 j0 (l1.toNatClampNeg) (0 : Int32) := ⟨_, rfl⟩
      have hk := lt_p eS3 hk
      have hr := lt_e eS3 hr
      refine z_iast (pc := 17) (S' := S3) hF hK.1 hW (tq17 h0) 0 rfl rfl b2 (zs_si eS3 rfl) (zs_sio eS3) d_Tally_empty_17 (fun H locs (hW : Wd D clQ A s.heap (zw X ad TQ (cfQ ad ca) S3) H locs) => ?_)
      refine lv_iinc (pc := 18) (v := l1 + (1 : Int32)) (lv' := [(1, .int (l1 + (1 : Int32))), (0, .ref (ad (16, i0, j0)))]) (k := 1) hx hb d_Tally_empty_18 hl rfl (z_inc (by decide)) (by decide) rfl (fun ls hl => ?_)
      refine lv_goto (pc := 21) (tgt := 2) hx hb d_Tally_empty_21 (by decide) ?_
      exact ih S3 (l1 + (1 : Int32)) hk hr _ _ _ hW (lv_sub hl [1, 0] rfl)
def f_Tally_empty (i0 : Nat) (j0 : Nat) (S : St) : St :=
  f_Tally_empty_2 i0 j0 200 S (0 : Int32)
def ok_Tally_empty (i0 : Nat) (j0 : Nat) (S : St) : Prop :=
  ok_Tally_empty_2 i0 j0 200 S (0 : Int32)
set_option maxHeartbeats 4000000 in
set_option maxRecDepth 100000 in
theorem c_Tally_empty (l : Launch) (D : va_G) (X : va_W) (ad : N3 → Nat) (ca : Nat → ClassId) (i0 : Nat) (j0 : Nat) (h0 : inT i0 j0) (S : St) (hk : ok_Tally_empty i0 j0 S) : cV l GG D clQ (tysQ ca) nwQ X ad TQ (cfQ ad ca) y_Tally_empty b_Tally_empty 2 0 0 [.ref (ad (16, i0, j0))] S (f_Tally_empty i0 j0 S) := by
  generalize hr : f_Tally_empty i0 j0 S = res
  refine zV_of pn_Tally (Nat.le_of_ble_eq_true rfl) (fun p e s m below meth c A ls hy hW hA hl => ?_)
  have hF := hy.1
  have hx := hF.1
  have hb := hF.2.1
  have hK := hy.2.2.2
  have hl : lv_has ls 2 [(0, .ref (ad (16, i0, j0)))] := hl
  refine lv_iconst (pc := 0) (v := 0) hx hb d_Tally_empty_0 (by decide) ?_
  refine lv_istore_n (pc := 1) (lv' := [(1, .int (0 : Int32)), (0, .ref (ad (16, i0, j0)))]) hx hb d_Tally_empty_1 rfl hl (by decide) rfl (fun ls hl => ?_)
  exact w_Tally_empty_2 i0 j0 h0 hy hA 200 S (0 : Int32) hk hr _ _ _ hW (lv_sub hl [1, 0] rfl)
theorem d_Node_fall_0 : decode b_Node_fall 0 = .ok (.aload_n 0, 1) := by decide +kernel
theorem d_Node_fall_1 : decode b_Node_fall 1 = .ok (.iconst 0, 1) := by decide +kernel
theorem d_Node_fall_2 : decode b_Node_fall 2 = .ok (.putfield 34, 3) := by decide +kernel
theorem d_Node_fall_5 : decode b_Node_fall 5 = .ok (.aload_n 0, 1) := by decide +kernel
theorem d_Node_fall_6 : decode b_Node_fall 6 = .ok (.getfield 12, 3) := by decide +kernel
theorem d_Node_fall_9 : decode b_Node_fall 9 = .ok (.iconst 0, 1) := by decide +kernel
theorem d_Node_fall_10 : decode b_Node_fall 10 = .ok (.putfield 63, 3) := by decide +kernel
theorem d_Node_fall_13 : decode b_Node_fall 13 = .ok (.aload_n 0, 1) := by decide +kernel
theorem d_Node_fall_14 : decode b_Node_fall 14 = .ok (.getfield 23, 3) := by decide +kernel
theorem d_Node_fall_17 : decode b_Node_fall 17 = .ok (.invokevirtual 66, 3) := by decide +kernel
theorem d_Node_fall_20 : decode b_Node_fall 20 = .ok (.aload_n 0, 1) := by decide +kernel
theorem d_Node_fall_21 : decode b_Node_fall 21 = .ok (.getfield 27, 3) := by decide +kernel
theorem d_Node_fall_24 : decode b_Node_fall 24 = .ok (.invokevirtual 66, 3) := by decide +kernel
theorem d_Node_fall_27 : decode b_Node_fall 27 = .ok (.aload_n 0, 1) := by decide +kernel
theorem d_Node_fall_28 : decode b_Node_fall 28 = .ok (.iconst 0, 1) := by decide +kernel
theorem d_Node_fall_29 : decode b_Node_fall 29 = .ok (.putfield 60, 3) := by decide +kernel
theorem d_Node_fall_32 : decode b_Node_fall 32 = .ok (.return_, 1) := by decide +kernel
def f_Node_fall (i0 : Nat) (S : St) : St :=
  lt (si S 3 i0 0 7 (0 : Int32)) fun (S1 : St) =>
  lt (si S1 12 i0 0 1 (0 : Int32)) fun (S2 : St) =>
  lt (f_Tally_empty i0 0 S2) fun (S5 : St) =>
  lt (f_Tally_empty i0 1 S5) fun (S8 : St) =>
  lt (si S8 3 i0 0 6 (0 : Int32)) fun (S9 : St) =>
  S9
def ok_Node_fall (i0 : Nat) (S : St) : Prop :=
  lt (si S 3 i0 0 7 (0 : Int32)) fun (S1 : St) =>
  lt (si S1 12 i0 0 1 (0 : Int32)) fun (S2 : St) =>
  (ok_Tally_empty i0 0 S2) ∧ (
    lt (f_Tally_empty i0 0 S2) fun (S5 : St) =>
    (ok_Tally_empty i0 1 S5) ∧ (
      True))
set_option maxHeartbeats 4000000 in
set_option maxRecDepth 100000 in
theorem c_Node_fall (l : Launch) (D : va_G) (X : va_W) (ad : N3 → Nat) (ca : Nat → ClassId) (i0 : Nat) (h0 : i0 < 4) (S : St) (hk : ok_Node_fall i0 S) : cV l GG D clQ (tysQ ca) nwQ X ad TQ (cfQ ad ca) y_Node_fall b_Node_fall 1 1 21 [.ref (ad (3, i0, 0))] S (f_Node_fall i0 S) := by
  generalize hr : f_Node_fall i0 S = res
  refine zV_of pn_Node (Nat.le_of_ble_eq_true rfl) (fun p e s m below meth c A ls hy hW hA hl => ?_)
  have hF := hy.1
  have hx := hF.1
  have hb := hF.2.1
  have hK := hy.2.2.2
  have hl : lv_has ls 1 [(0, .ref (ad (3, i0, 0)))] := hl
  refine lv_aload_n (pc := 0) hx hb d_Node_fall_0 rfl (lv_at hl 0 rfl) ?_
  refine lv_iconst (pc := 1) (v := 0) hx hb d_Node_fall_1 (by decide) ?_
  obtain ⟨S1, eS1⟩ : ∃ z : St, z = si S 3 i0 0 7 (0 : Int32) := ⟨_, rfl⟩
  have hk := lt_p eS1 hk
  have hr := lt_e eS1 hr
  refine z_put (pc := 2) (S' := S1) hF hK.1 hW (tq3 h0) rfl rfl in_Node t_Node tyo_Node nmo_Node 7 (by decide) gw_309 rfl rfl rfl rfl rfl (Nat.le_of_ble_eq_true rfl) (zs_si eS1 rfl) (zs_sio eS1) d_Node_fall_2 (fun H locs (hW : Wd D clQ A s.heap (zw X ad TQ (cfQ ad ca) S1) H locs) => ?_)
  refine lv_aload_n (pc := 5) hx hb d_Node_fall_5 rfl (lv_at hl 0 rfl) ?_
  refine z_get (pc := 6) (v := .ref (ad (12, i0, 0))) hF hK.1 hW (tq3 h0) rfl rfl in_Node 2 (by decide) gw_299 rfl rfl d_Node_fall_6 ?_
  refine lv_iconst (pc := 9) (v := 0) hx hb d_Node_fall_9 (by decide) ?_
  obtain ⟨S2, eS2⟩ : ∃ z : St, z = si S1 12 i0 0 1 (0 : Int32) := ⟨_, rfl⟩
  have hk := lt_p eS2 hk
  have hr := lt_e eS2 hr
  refine z_put (pc := 10) (S' := S2) hF hK.1 hW (tq12 h0) rfl rfl in_Inbox t_Inbox tyo_Inbox nmo_Inbox 1 (by decide) gw_181 rfl rfl rfl rfl rfl (Nat.le_of_ble_eq_true rfl) (zs_si eS2 rfl) (zs_sio eS2) d_Node_fall_10 (fun H locs (hW : Wd D clQ A s.heap (zw X ad TQ (cfQ ad ca) S2) H locs) => ?_)
  refine lv_aload_n (pc := 13) hx hb d_Node_fall_13 rfl (lv_at hl 0 rfl) ?_
  refine z_get (pc := 14) (v := .ref (ad (16, i0, 0))) hF hK.1 hW (tq3 h0) rfl rfl in_Node 3 (by decide) gw_301 rfl rfl d_Node_fall_14 ?_
  have o3 := hk.1
  have hk := hk.2
  obtain ⟨S5, eS5⟩ : ∃ z : St, z = f_Tally_empty i0 0 S2 := ⟨_, rfl⟩
  have hk := lt_p eS5 hk
  have hr := lt_e eS5 hr
  refine z_goV (pc := 17) hW hA eS5 (z_runV hF hK hW (c_Tally_empty l D X ad ca i0 0 (⟨h0, by decide⟩) S2 o3 _) cd_Tally_empty gw_824 (tq16 (⟨h0, by decide⟩)) rfl rfl ⟨Nat.le_of_ble_eq_true rfl, Nat.le_of_ble_eq_true rfl⟩ ⟨Nat.zero_le _, Nat.zero_le _⟩ rfl rfl hl.1 (Nat.le_of_ble_eq_true rfl) d_Node_fall_17) (fun H locs (hW : Wd D clQ A s.heap (zw X ad TQ (cfQ ad ca) S5) H locs) => ?_)
  refine lv_aload_n (pc := 20) hx hb d_Node_fall_20 rfl (lv_at hl 0 rfl) ?_
  refine z_get (pc := 21) (v := .ref (ad (16, i0, 1))) hF hK.1 hW (tq3 h0) rfl rfl in_Node 4 (by decide) gw_303 rfl rfl d_Node_fall_21 ?_
  have o6 := hk.1
  have hk := hk.2
  obtain ⟨S8, eS8⟩ : ∃ z : St, z = f_Tally_empty i0 1 S5 := ⟨_, rfl⟩
  have hr := lt_e eS8 hr
  refine z_goV (pc := 24) hW hA eS8 (z_runV hF hK hW (c_Tally_empty l D X ad ca i0 1 (⟨h0, by decide⟩) S5 o6 _) cd_Tally_empty gw_824 (tq16 (⟨h0, by decide⟩)) rfl rfl ⟨Nat.le_of_ble_eq_true rfl, Nat.le_of_ble_eq_true rfl⟩ ⟨Nat.zero_le _, Nat.zero_le _⟩ rfl rfl hl.1 (Nat.le_of_ble_eq_true rfl) d_Node_fall_24) (fun H locs (hW : Wd D clQ A s.heap (zw X ad TQ (cfQ ad ca) S8) H locs) => ?_)
  refine lv_aload_n (pc := 27) hx hb d_Node_fall_27 rfl (lv_at hl 0 rfl) ?_
  refine lv_iconst (pc := 28) (v := 0) hx hb d_Node_fall_28 (by decide) ?_
  obtain ⟨S9, eS9⟩ : ∃ z : St, z = si S8 3 i0 0 6 (0 : Int32) := ⟨_, rfl⟩
  have hr := lt_e eS9 hr
  refine z_put (pc := 29) (S' := S9) hF hK.1 hW (tq3 h0) rfl rfl in_Node t_Node tyo_Node nmo_Node 6 (by decide) gw_307 rfl rfl rfl rfl rfl (Nat.le_of_ble_eq_true rfl) (zs_si eS9 rfl) (zs_sio eS9) d_Node_fall_29 (fun H locs (hW : Wd D clQ A s.heap (zw X ad TQ (cfQ ad ca) S9) H locs) => ?_)
  exact z_vret hy hW hr.symm d_Node_fall_32
theorem d_Node_rise_0 : decode b_Node_rise 0 = .ok (.aload_n 0, 1) := by decide +kernel
theorem d_Node_rise_1 : decode b_Node_rise 1 = .ok (.iconst 1, 1) := by decide +kernel
theorem d_Node_rise_2 : decode b_Node_rise 2 = .ok (.putfield 34, 3) := by decide +kernel
theorem d_Node_rise_5 : decode b_Node_rise 5 = .ok (.aload_n 0, 1) := by decide +kernel
theorem d_Node_rise_6 : decode b_Node_rise 6 = .ok (.iload_n 1, 1) := by decide +kernel
theorem d_Node_rise_7 : decode b_Node_rise 7 = .ok (.putfield 69, 3) := by decide +kernel
theorem d_Node_rise_10 : decode b_Node_rise 10 = .ok (.aload_n 0, 1) := by decide +kernel
theorem d_Node_rise_11 : decode b_Node_rise 11 = .ok (.bipush 6, 2) := by decide +kernel
theorem d_Node_rise_13 : decode b_Node_rise 13 = .ok (.putfield 45, 3) := by decide +kernel
theorem d_Node_rise_16 : decode b_Node_rise 16 = .ok (.aload_n 0, 1) := by decide +kernel
theorem d_Node_rise_17 : decode b_Node_rise 17 = .ok (.aload_n 0, 1) := by decide +kernel
theorem d_Node_rise_18 : decode b_Node_rise 18 = .ok (.getfield 56, 3) := by decide +kernel
theorem d_Node_rise_21 : decode b_Node_rise 21 = .ok (.getfield 72, 3) := by decide +kernel
theorem d_Node_rise_24 : decode b_Node_rise 24 = .ok (.iconst 1, 1) := by decide +kernel
theorem d_Node_rise_25 : decode b_Node_rise 25 = .ok (.invokestatic 75, 3) := by decide +kernel
theorem d_Node_rise_28 : decode b_Node_rise 28 = .ok (.invokevirtual 81, 3) := by decide +kernel
theorem d_Node_rise_31 : decode b_Node_rise 31 = .ok (.return_, 1) := by decide +kernel
def f_Node_rise (i0 : Nat) (a1 : Int32) (S : St) : St :=
  lt (si S 3 i0 0 7 (1 : Int32)) fun (S1 : St) =>
  lt (si S1 3 i0 0 11 a1) fun (S2 : St) =>
  lt (si S2 3 i0 0 10 (6 : Int32)) fun (S3 : St) =>
  lt (f_Node_enter i0 (if S3.1 4 i0 0 6 < (1 : Int32) then (1 : Int32) else S3.1 4 i0 0 6) S3) fun (S5 : St) =>
  S5
set_option maxHeartbeats 4000000 in
set_option maxRecDepth 100000 in
theorem c_Node_rise (l : Launch) (D : va_G) (X : va_W) (ad : N3 → Nat) (ca : Nat → ClassId) (i0 : Nat) (a1 : Int32) (h0 : i0 < 4) (S : St) : cV l GG D clQ (tysQ ca) nwQ X ad TQ (cfQ ad ca) y_Node_rise b_Node_rise 2 1 40 [.ref (ad (3, i0, 0)), .int a1] S (f_Node_rise i0 a1 S) := by
  generalize hr : f_Node_rise i0 a1 S = res
  refine zV_of pn_Node (Nat.le_of_ble_eq_true rfl) (fun p e s m below meth c A ls hy hW hA hl => ?_)
  have hF := hy.1
  have hx := hF.1
  have hb := hF.2.1
  have hK := hy.2.2.2
  have hl : lv_has ls 2 [(0, .ref (ad (3, i0, 0))), (1, .int a1)] := hl
  refine lv_aload_n (pc := 0) hx hb d_Node_rise_0 rfl (lv_at hl 0 rfl) ?_
  refine lv_iconst (pc := 1) (v := 1) hx hb d_Node_rise_1 (by decide) ?_
  obtain ⟨S1, eS1⟩ : ∃ z : St, z = si S 3 i0 0 7 (1 : Int32) := ⟨_, rfl⟩
  have hr := lt_e eS1 hr
  refine z_put (pc := 2) (S' := S1) hF hK.1 hW (tq3 h0) rfl rfl in_Node t_Node tyo_Node nmo_Node 7 (by decide) gw_309 rfl rfl rfl rfl rfl (Nat.le_of_ble_eq_true rfl) (zs_si eS1 rfl) (zs_sio eS1) d_Node_rise_2 (fun H locs (hW : Wd D clQ A s.heap (zw X ad TQ (cfQ ad ca) S1) H locs) => ?_)
  refine lv_aload_n (pc := 5) hx hb d_Node_rise_5 rfl (lv_at hl 0 rfl) ?_
  refine lv_iload_n (pc := 6) hx hb d_Node_rise_6 rfl (lv_at hl 1 rfl) ?_
  obtain ⟨S2, eS2⟩ : ∃ z : St, z = si S1 3 i0 0 11 a1 := ⟨_, rfl⟩
  have hr := lt_e eS2 hr
  refine z_put (pc := 7) (S' := S2) hF hK.1 hW (tq3 h0) rfl rfl in_Node t_Node tyo_Node nmo_Node 11 (by decide) gw_317 rfl rfl rfl rfl rfl (Nat.le_of_ble_eq_true rfl) (zs_si eS2 rfl) (zs_sio eS2) d_Node_rise_7 (fun H locs (hW : Wd D clQ A s.heap (zw X ad TQ (cfQ ad ca) S2) H locs) => ?_)
  refine lv_aload_n (pc := 10) hx hb d_Node_rise_10 rfl (lv_at hl 0 rfl) ?_
  refine lv_bipush (pc := 11) (v := 6) hx hb d_Node_rise_11 (by decide) ?_
  obtain ⟨S3, eS3⟩ : ∃ z : St, z = si S2 3 i0 0 10 (6 : Int32) := ⟨_, rfl⟩
  have hr := lt_e eS3 hr
  refine z_put (pc := 13) (S' := S3) hF hK.1 hW (tq3 h0) rfl rfl in_Node t_Node tyo_Node nmo_Node 10 (by decide) gw_315 rfl rfl rfl rfl rfl (Nat.le_of_ble_eq_true rfl) (zs_si eS3 rfl) (zs_sio eS3) d_Node_rise_13 (fun H locs (hW : Wd D clQ A s.heap (zw X ad TQ (cfQ ad ca) S3) H locs) => ?_)
  refine lv_aload_n (pc := 16) hx hb d_Node_rise_16 rfl (lv_at hl 0 rfl) ?_
  refine lv_aload_n (pc := 17) hx hb d_Node_rise_17 rfl (lv_at hl 0 rfl) ?_
  refine z_get (pc := 18) (v := .ref (ad (4, i0, 0))) hF hK.1 hW (tq3 h0) rfl rfl in_Node 1 (by decide) gw_297 rfl rfl d_Node_rise_18 ?_
  refine z_get (pc := 21) (v := .int (S3.1 4 i0 0 6)) hF hK.1 hW (tq4 h0) rfl rfl in_Store 6 (by decide) gw_275 rfl rfl d_Node_rise_21 ?_
  refine lv_iconst (pc := 24) (v := 1) hx hb d_Node_rise_24 (by decide) ?_
  refine va_mmax (pc := 25) hx hb (by rw [hF.2.2.1, hl.1]) hF.2.2.2.1 (hF.2.2.2.2 _ gw_844) (hF.2.2.2.2 _ gw_375) (hF.2.2.2.2 _ gw_71) (hF.2.2.2.2 _ gw_376) (Nat.le_of_ble_eq_true rfl) (Nat.le_of_ble_eq_true rfl) (Nat.zero_le _) (Nat.zero_le _) d_Node_rise_25 ?_
  obtain ⟨S5, eS5⟩ : ∃ z : St, z = f_Node_enter i0 (if S3.1 4 i0 0 6 < (1 : Int32) then (1 : Int32) else S3.1 4 i0 0 6) S3 := ⟨_, rfl⟩
  have hr := lt_e eS5 hr
  refine z_goV (pc := 28) hW hA eS5 (z_runV hF hK hW (c_Node_enter l D X ad ca i0 (if S3.1 4 i0 0 6 < (1 : Int32) then (1 : Int32) else S3.1 4 i0 0 6) h0 S3 _) cd_Node_enter gw_845 (tq3 h0) rfl rfl ⟨Nat.le_of_ble_eq_true rfl, Nat.le_of_ble_eq_true rfl⟩ ⟨Nat.zero_le _, Nat.zero_le _⟩ rfl rfl hl.1 (Nat.le_of_ble_eq_true rfl) d_Node_rise_28) (fun H locs (hW : Wd D clQ A s.heap (zw X ad TQ (cfQ ad ca) S5) H locs) => ?_)
  exact z_vret hy hW hr.symm d_Node_rise_31
theorem d_Transactions_add_0 : decode b_Transactions_add 0 = .ok (.aload_n 0, 1) := by decide +kernel
theorem d_Transactions_add_1 : decode b_Transactions_add 1 = .ok (.getfield 24, 3) := by decide +kernel
theorem d_Transactions_add_4 : decode b_Transactions_add 4 = .ok (.bipush 40, 2) := by decide +kernel
theorem d_Transactions_add_6 : decode b_Transactions_add 6 = .ok (.if_icmp .lt 5, 3) := by decide +kernel
theorem d_Transactions_add_9 : decode b_Transactions_add 9 = .ok (.iconst (-1), 1) := by decide +kernel
theorem d_Transactions_add_10 : decode b_Transactions_add 10 = .ok (.ireturn, 1) := by decide +kernel
theorem d_Transactions_add_11 : decode b_Transactions_add 11 = .ok (.aload_n 0, 1) := by decide +kernel
theorem d_Transactions_add_12 : decode b_Transactions_add 12 = .ok (.getfield 9, 3) := by decide +kernel
theorem d_Transactions_add_15 : decode b_Transactions_add 15 = .ok (.aload_n 0, 1) := by decide +kernel
theorem d_Transactions_add_16 : decode b_Transactions_add 16 = .ok (.getfield 24, 3) := by decide +kernel
theorem d_Transactions_add_19 : decode b_Transactions_add 19 = .ok (.iload_n 1, 1) := by decide +kernel
theorem d_Transactions_add_20 : decode b_Transactions_add 20 = .ok (.iastore, 1) := by decide +kernel
theorem d_Transactions_add_21 : decode b_Transactions_add 21 = .ok (.aload_n 0, 1) := by decide +kernel
theorem d_Transactions_add_22 : decode b_Transactions_add 22 = .ok (.getfield 15, 3) := by decide +kernel
theorem d_Transactions_add_25 : decode b_Transactions_add 25 = .ok (.aload_n 0, 1) := by decide +kernel
theorem d_Transactions_add_26 : decode b_Transactions_add 26 = .ok (.getfield 24, 3) := by decide +kernel
theorem d_Transactions_add_29 : decode b_Transactions_add 29 = .ok (.iload_n 2, 1) := by decide +kernel
theorem d_Transactions_add_30 : decode b_Transactions_add 30 = .ok (.iastore, 1) := by decide +kernel
theorem d_Transactions_add_31 : decode b_Transactions_add 31 = .ok (.aload_n 0, 1) := by decide +kernel
theorem d_Transactions_add_32 : decode b_Transactions_add 32 = .ok (.getfield 18, 3) := by decide +kernel
theorem d_Transactions_add_35 : decode b_Transactions_add 35 = .ok (.aload_n 0, 1) := by decide +kernel
theorem d_Transactions_add_36 : decode b_Transactions_add 36 = .ok (.getfield 24, 3) := by decide +kernel
theorem d_Transactions_add_39 : decode b_Transactions_add 39 = .ok (.iload_n 3, 1) := by decide +kernel
theorem d_Transactions_add_40 : decode b_Transactions_add 40 = .ok (.iastore, 1) := by decide +kernel
theorem d_Transactions_add_41 : decode b_Transactions_add 41 = .ok (.aload_n 0, 1) := by decide +kernel
theorem d_Transactions_add_42 : decode b_Transactions_add 42 = .ok (.getfield 21, 3) := by decide +kernel
theorem d_Transactions_add_45 : decode b_Transactions_add 45 = .ok (.aload_n 0, 1) := by decide +kernel
theorem d_Transactions_add_46 : decode b_Transactions_add 46 = .ok (.getfield 24, 3) := by decide +kernel
theorem d_Transactions_add_49 : decode b_Transactions_add 49 = .ok (.iload 4, 2) := by decide +kernel
theorem d_Transactions_add_51 : decode b_Transactions_add 51 = .ok (.iastore, 1) := by decide +kernel
theorem d_Transactions_add_52 : decode b_Transactions_add 52 = .ok (.aload_n 0, 1) := by decide +kernel
theorem d_Transactions_add_53 : decode b_Transactions_add 53 = .ok (.dup, 1) := by decide +kernel
theorem d_Transactions_add_54 : decode b_Transactions_add 54 = .ok (.getfield 24, 3) := by decide +kernel
theorem d_Transactions_add_57 : decode b_Transactions_add 57 = .ok (.iconst 1, 1) := by decide +kernel
theorem d_Transactions_add_58 : decode b_Transactions_add 58 = .ok (.iadd, 1) := by decide +kernel
theorem d_Transactions_add_59 : decode b_Transactions_add 59 = .ok (.putfield 24, 3) := by decide +kernel
theorem d_Transactions_add_62 : decode b_Transactions_add 62 = .ok (.aload_n 0, 1) := by decide +kernel
theorem d_Transactions_add_63 : decode b_Transactions_add 63 = .ok (.getfield 24, 3) := by decide +kernel
theorem d_Transactions_add_66 : decode b_Transactions_add 66 = .ok (.iconst 1, 1) := by decide +kernel
theorem d_Transactions_add_67 : decode b_Transactions_add 67 = .ok (.isub, 1) := by decide +kernel
theorem d_Transactions_add_68 : decode b_Transactions_add 68 = .ok (.ireturn, 1) := by decide +kernel
def f_Transactions_add (a1 : Int32) (a2 : Int32) (a3 : Int32) (a4 : Int32) (S : St) : Int32 × St :=
  if (S.1 24 0 0 4) < (40 : Int32) then
    lt (si S 25 0 0 ((S.1 24 0 0 4).toNatClampNeg) a1) fun (S3 : St) =>
    lt (si S3 26 0 0 ((S3.1 24 0 0 4).toNatClampNeg) a2) fun (S5 : St) =>
    lt (si S5 27 0 0 ((S5.1 24 0 0 4).toNatClampNeg) a3) fun (S7 : St) =>
    lt (si S7 28 0 0 ((S7.1 24 0 0 4).toNatClampNeg) a4) fun (S9 : St) =>
    lt (si S9 24 0 0 4 ((S9.1 24 0 0 4) + (1 : Int32))) fun (S10 : St) =>
    ((S10.1 24 0 0 4) - (1 : Int32), S10)
  else
    ((-1 : Int32), S)
def ok_Transactions_add (a1 : Int32) (a2 : Int32) (a3 : Int32) (a4 : Int32) (S : St) : Prop :=
  ((S.1 24 0 0 4) < (40 : Int32) → (
    (vp_in (S.1 24 0 0 4) 40) ∧ (
      lt (si S 25 0 0 ((S.1 24 0 0 4).toNatClampNeg) a1) fun (S3 : St) =>
      (vp_in (S3.1 24 0 0 4) 40) ∧ (
        lt (si S3 26 0 0 ((S3.1 24 0 0 4).toNatClampNeg) a2) fun (S5 : St) =>
        (vp_in (S5.1 24 0 0 4) 40) ∧ (
          lt (si S5 27 0 0 ((S5.1 24 0 0 4).toNatClampNeg) a3) fun (S7 : St) =>
          (vp_in (S7.1 24 0 0 4) 40) ∧ (
            True)))))) ∧ (¬ ((S.1 24 0 0 4) < (40 : Int32)) → (
    True))
set_option maxHeartbeats 4000000 in
set_option maxRecDepth 100000 in
theorem c_Transactions_add (l : Launch) (D : va_G) (X : va_W) (ad : N3 → Nat) (ca : Nat → ClassId) (a1 : Int32) (a2 : Int32) (a3 : Int32) (a4 : Int32)  (S : St) (hk : ok_Transactions_add a1 a2 a3 a4 S) : cI l GG D clQ (tysQ ca) nwQ X ad TQ (cfQ ad ca) y_Transactions_add b_Transactions_add 5 .int 0 0 [.ref (ad (24, 0, 0)), .int a1, .int a2, .int a3, .int a4] S (f_Transactions_add a1 a2 a3 a4 S) := by
  generalize hr : f_Transactions_add a1 a2 a3 a4 S = res
  refine zI_of pn_Transactions (Nat.le_of_ble_eq_true rfl) (fun p e s m below meth c A ls hy hW hA hl => ?_)
  have hF := hy.1
  have hx := hF.1
  have hb := hF.2.1
  have hK := hy.2.2.2
  have hl : lv_has ls 5 [(0, .ref (ad (24, 0, 0))), (1, .int a1), (2, .int a2), (3, .int a3), (4, .int a4)] := hl
  refine lv_aload_n (pc := 0) hx hb d_Transactions_add_0 rfl (lv_at hl 0 rfl) ?_
  refine z_get (pc := 1) (v := .int (S.1 24 0 0 4)) hF hK.1 hW tq24 rfl rfl in_Transactions 4 (by decide) gw_117 rfl rfl d_Transactions_add_1 ?_
  refine lv_bipush (pc := 4) (v := 40) hx hb d_Transactions_add_4 (by decide) ?_
  refine lv_icmp_lt (pc := 6) (tgt := 11) hx hb d_Transactions_add_6 (by decide) (fun c1 => ?_) (fun c1 => ?_)
  · have hk := hk.1 c1
    have hr := (if_pos c1).symm.trans hr
    refine lv_aload_n (pc := 11) hx hb d_Transactions_add_11 rfl (lv_at hl 0 rfl) ?_
    refine z_get (pc := 12) (v := .ref (ad (25, 0, 0))) hF hK.1 hW tq24 rfl rfl in_Transactions 0 (by decide) gw_113 rfl rfl d_Transactions_add_12 ?_
    refine lv_aload_n (pc := 15) hx hb d_Transactions_add_15 rfl (lv_at hl 0 rfl) ?_
    refine z_get (pc := 16) (v := .int (S.1 24 0 0 4)) hF hK.1 hW tq24 rfl rfl in_Transactions 4 (by decide) gw_117 rfl rfl d_Transactions_add_16 ?_
    refine lv_iload_n (pc := 19) hx hb d_Transactions_add_19 rfl (lv_at hl 1 rfl) ?_
    have b2 := hk.1
    have hk := hk.2
    obtain ⟨S3, eS3⟩ : ∃ z : St, z = si S 25 0 0 ((S.1 24 0 0 4).toNatClampNeg) a1 := ⟨_, rfl⟩
    have hk := lt_p eS3 hk
    have hr := lt_e eS3 hr
    refine z_iast (pc := 20) (S' := S3) hF hK.1 hW tq25 0 rfl rfl b2 (zs_si eS3 rfl) (zs_sio eS3) d_Transactions_add_20 (fun H locs (hW : Wd D clQ A s.heap (zw X ad TQ (cfQ ad ca) S3) H locs) => ?_)
    refine lv_aload_n (pc := 21) hx hb d_Transactions_add_21 rfl (lv_at hl 0 rfl) ?_
    refine z_get (pc := 22) (v := .ref (ad (26, 0, 0))) hF hK.1 hW tq24 rfl rfl in_Transactions 1 (by decide) gw_114 rfl rfl d_Transactions_add_22 ?_
    refine lv_aload_n (pc := 25) hx hb d_Transactions_add_25 rfl (lv_at hl 0 rfl) ?_
    refine z_get (pc := 26) (v := .int (S3.1 24 0 0 4)) hF hK.1 hW tq24 rfl rfl in_Transactions 4 (by decide) gw_117 rfl rfl d_Transactions_add_26 ?_
    refine lv_iload_n (pc := 29) hx hb d_Transactions_add_29 rfl (lv_at hl 2 rfl) ?_
    have b4 := hk.1
    have hk := hk.2
    obtain ⟨S5, eS5⟩ : ∃ z : St, z = si S3 26 0 0 ((S3.1 24 0 0 4).toNatClampNeg) a2 := ⟨_, rfl⟩
    have hk := lt_p eS5 hk
    have hr := lt_e eS5 hr
    refine z_iast (pc := 30) (S' := S5) hF hK.1 hW tq26 0 rfl rfl b4 (zs_si eS5 rfl) (zs_sio eS5) d_Transactions_add_30 (fun H locs (hW : Wd D clQ A s.heap (zw X ad TQ (cfQ ad ca) S5) H locs) => ?_)
    refine lv_aload_n (pc := 31) hx hb d_Transactions_add_31 rfl (lv_at hl 0 rfl) ?_
    refine z_get (pc := 32) (v := .ref (ad (27, 0, 0))) hF hK.1 hW tq24 rfl rfl in_Transactions 2 (by decide) gw_115 rfl rfl d_Transactions_add_32 ?_
    refine lv_aload_n (pc := 35) hx hb d_Transactions_add_35 rfl (lv_at hl 0 rfl) ?_
    refine z_get (pc := 36) (v := .int (S5.1 24 0 0 4)) hF hK.1 hW tq24 rfl rfl in_Transactions 4 (by decide) gw_117 rfl rfl d_Transactions_add_36 ?_
    refine lv_iload_n (pc := 39) hx hb d_Transactions_add_39 rfl (lv_at hl 3 rfl) ?_
    have b6 := hk.1
    have hk := hk.2
    obtain ⟨S7, eS7⟩ : ∃ z : St, z = si S5 27 0 0 ((S5.1 24 0 0 4).toNatClampNeg) a3 := ⟨_, rfl⟩
    have hk := lt_p eS7 hk
    have hr := lt_e eS7 hr
    refine z_iast (pc := 40) (S' := S7) hF hK.1 hW tq27 0 rfl rfl b6 (zs_si eS7 rfl) (zs_sio eS7) d_Transactions_add_40 (fun H locs (hW : Wd D clQ A s.heap (zw X ad TQ (cfQ ad ca) S7) H locs) => ?_)
    refine lv_aload_n (pc := 41) hx hb d_Transactions_add_41 rfl (lv_at hl 0 rfl) ?_
    refine z_get (pc := 42) (v := .ref (ad (28, 0, 0))) hF hK.1 hW tq24 rfl rfl in_Transactions 3 (by decide) gw_116 rfl rfl d_Transactions_add_42 ?_
    refine lv_aload_n (pc := 45) hx hb d_Transactions_add_45 rfl (lv_at hl 0 rfl) ?_
    refine z_get (pc := 46) (v := .int (S7.1 24 0 0 4)) hF hK.1 hW tq24 rfl rfl in_Transactions 4 (by decide) gw_117 rfl rfl d_Transactions_add_46 ?_
    refine lv_iload (pc := 49) hx hb d_Transactions_add_49 (lv_at hl 4 rfl) ?_
    have b8 := hk.1
    have hk := hk.2
    obtain ⟨S9, eS9⟩ : ∃ z : St, z = si S7 28 0 0 ((S7.1 24 0 0 4).toNatClampNeg) a4 := ⟨_, rfl⟩
    have hr := lt_e eS9 hr
    refine z_iast (pc := 51) (S' := S9) hF hK.1 hW tq28 0 rfl rfl b8 (zs_si eS9 rfl) (zs_sio eS9) d_Transactions_add_51 (fun H locs (hW : Wd D clQ A s.heap (zw X ad TQ (cfQ ad ca) S9) H locs) => ?_)
    refine lv_aload_n (pc := 52) hx hb d_Transactions_add_52 rfl (lv_at hl 0 rfl) ?_
    refine lv_dup (pc := 53) hx hb d_Transactions_add_53 rfl ?_
    refine z_get (pc := 54) (v := .int (S9.1 24 0 0 4)) hF hK.1 hW tq24 rfl rfl in_Transactions 4 (by decide) gw_117 rfl rfl d_Transactions_add_54 ?_
    refine lv_iconst (pc := 57) (v := 1) hx hb d_Transactions_add_57 (by decide) ?_
    refine lv_iadd (pc := 58) hx hb d_Transactions_add_58 ?_
    obtain ⟨S10, eS10⟩ : ∃ z : St, z = si S9 24 0 0 4 ((S9.1 24 0 0 4) + (1 : Int32)) := ⟨_, rfl⟩
    have hr := lt_e eS10 hr
    refine z_put (pc := 59) (S' := S10) hF hK.1 hW tq24 rfl rfl in_Transactions t_Transactions tyo_Transactions nmo_Transactions 4 (by decide) gw_117 rfl rfl rfl rfl rfl (Nat.le_of_ble_eq_true rfl) (zs_si eS10 rfl) (zs_sio eS10) d_Transactions_add_59 (fun H locs (hW : Wd D clQ A s.heap (zw X ad TQ (cfQ ad ca) S10) H locs) => ?_)
    refine lv_aload_n (pc := 62) hx hb d_Transactions_add_62 rfl (lv_at hl 0 rfl) ?_
    refine z_get (pc := 63) (v := .int (S10.1 24 0 0 4)) hF hK.1 hW tq24 rfl rfl in_Transactions 4 (by decide) gw_117 rfl rfl d_Transactions_add_63 ?_
    refine lv_iconst (pc := 66) (v := 1) hx hb d_Transactions_add_66 (by decide) ?_
    refine lv_isub (pc := 67) hx hb d_Transactions_add_67 ?_
    exact z_iret (v := (S10.1 24 0 0 4) - (1 : Int32)) hy hW hr.symm d_Transactions_add_68
  · have hk := hk.2 c1
    have hr := (if_neg c1).symm.trans hr
    refine lv_iconst (pc := 9) (v := -1) hx hb d_Transactions_add_9 (by decide) ?_
    exact z_iret (v := (-1 : Int32)) hy hW hr.symm d_Transactions_add_10
end
