/-! The law: words, decode rows. Written by wip/whole/law.py. -/
theorem gw_51 : (Jvm.Cond.initialized "QuorumChainLaw") ∈ GG := GG_in (i := 51) (by decide +kernel) (by decide +kernel)
theorem gw_72 : (Jvm.Cond.classLink "QuorumChainLaw" (8 : Nat) "QuorumChain") ∈ GG := GG_in (i := 72) (by decide +kernel) (by decide +kernel)
theorem gw_73 : (Jvm.Cond.instantiable "QuorumChain" (7 : Nat)) ∈ GG := GG_in (i := 73) (by decide +kernel) (by decide +kernel)
theorem gw_74 : (Jvm.Cond.methodLink "QuorumChainLaw" (55 : Nat) ({ cls := "QuorumChain", name := "<init>", desc := "(I)V" } : Jvm.MethodName)) ∈ GG := GG_in (i := 74) (by decide +kernel) (by decide +kernel)
theorem gw_366 : (Jvm.Cond.methodLink "QuorumChainLaw" (96 : Nat) ({ cls := "QuorumChain", name := "tick", desc := "()I" } : Jvm.MethodName)) ∈ GG := GG_in (i := 366) (by decide +kernel) (by decide +kernel)
theorem gw_426 : (Jvm.Cond.methodLink "QuorumChainLaw" (106 : Nat) ({ cls := "QuorumChain", name := "node", desc := "(II)I" } : Jvm.MethodName)) ∈ GG := GG_in (i := 426) (by decide +kernel) (by decide +kernel)
theorem gw_433 : (Jvm.Cond.methodLink "QuorumChainLaw" (111 : Nat) ({ cls := "QuorumChain", name := "log", desc := "(II)I" } : Jvm.MethodName)) ∈ GG := GG_in (i := 433) (by decide +kernel) (by decide +kernel)
theorem gw_441 : (Jvm.Cond.methodLink "QuorumChainLaw" (115 : Nat) ({ cls := "QuorumChain", name := "account", desc := "(III)I" } : Jvm.MethodName)) ∈ GG := GG_in (i := 441) (by decide +kernel) (by decide +kernel)
theorem gw_448 : (Jvm.Cond.methodLink "QuorumChainLaw" (120 : Nat) ({ cls := "QuorumChain", name := "block", desc := "(II)I" } : Jvm.MethodName)) ∈ GG := GG_in (i := 448) (by decide +kernel) (by decide +kernel)
theorem gw_481 : (Jvm.Cond.methodLink "QuorumChainLaw" (124 : Nat) ({ cls := "QuorumChain", name := "message", desc := "(III)I" } : Jvm.MethodName)) ∈ GG := GG_in (i := 481) (by decide +kernel) (by decide +kernel)
theorem gw_485 : (Jvm.Cond.methodLink "QuorumChainLaw" (128 : Nat) ({ cls := "QuorumChain", name := "root", desc := "(I)J" } : Jvm.MethodName)) ∈ GG := GG_in (i := 485) (by decide +kernel) (by decide +kernel)
theorem gw_493 : (Jvm.Cond.methodLink "QuorumChainLaw" (133 : Nat) ({ cls := "QuorumChain", name := "about", desc := "(I)I" } : Jvm.MethodName)) ∈ GG := GG_in (i := 493) (by decide +kernel) (by decide +kernel)
theorem gw_497 : (Jvm.Cond.methodLink "QuorumChainLaw" (49 : Nat) ({ cls := "QuorumChainLaw", name := "cell", desc := "([II)I" } : Jvm.MethodName)) ∈ GG := GG_in (i := 497) (by decide +kernel) (by decide +kernel)
theorem gw_498 : (Jvm.Cond.static ({ cls := "QuorumChainLaw", name := "cell", desc := "([II)I" } : Jvm.MethodName)) ∈ GG := GG_in (i := 498) (by decide +kernel) (by decide +kernel)
theorem gw_499 : (Jvm.Cond.code ({ cls := "QuorumChainLaw", name := "cell", desc := "([II)I" } : Jvm.MethodName) method_2_code (2 : Nat) (Option.some Jvm.ClassFile.FieldType.int)) ∈ GG := GG_in (i := 499) (by decide +kernel) (by decide +kernel)
theorem gw_500 : (Jvm.Cond.methodLink "QuorumChainLaw" (61 : Nat) ({ cls := "QuorumChainLaw", name := "transaction", desc := "(LQuorumChain;IIII[J)I" } : Jvm.MethodName)) ∈ GG := GG_in (i := 500) (by decide +kernel) (by decide +kernel)
theorem gw_501 : (Jvm.Cond.static ({ cls := "QuorumChainLaw", name := "transaction", desc := "(LQuorumChain;IIII[J)I" } : Jvm.MethodName)) ∈ GG := GG_in (i := 501) (by decide +kernel) (by decide +kernel)
theorem gw_502 : (Jvm.Cond.codeWith ({ cls := "QuorumChainLaw", name := "transaction", desc := "(LQuorumChain;IIII[J)I" } : Jvm.MethodName) method_3_code (7 : Nat) (Option.some Jvm.ClassFile.FieldType.int) [((0 : Nat), (14 : Nat), (17 : Nat), (13 : Nat)), ((0 : Nat), (14 : Nat), (21 : Nat), (15 : Nat))]) ∈ GG := GG_in (i := 502) (by decide +kernel) (by decide +kernel)
theorem gw_597 : (Jvm.Cond.methodLink "QuorumChainLaw" (69 : Nat) ({ cls := "QuorumChainLaw", name := "submit", desc := "(LQuorumChain;II[J)I" } : Jvm.MethodName)) ∈ GG := GG_in (i := 597) (by decide +kernel) (by decide +kernel)
theorem gw_598 : (Jvm.Cond.static ({ cls := "QuorumChainLaw", name := "submit", desc := "(LQuorumChain;II[J)I" } : Jvm.MethodName)) ∈ GG := GG_in (i := 598) (by decide +kernel) (by decide +kernel)
theorem gw_599 : (Jvm.Cond.codeWith ({ cls := "QuorumChainLaw", name := "submit", desc := "(LQuorumChain;II[J)I" } : Jvm.MethodName) method_4_code (5 : Nat) (Option.some Jvm.ClassFile.FieldType.int) [((0 : Nat), (17 : Nat), (20 : Nat), (13 : Nat)), ((0 : Nat), (17 : Nat), (24 : Nat), (15 : Nat))]) ∈ GG := GG_in (i := 599) (by decide +kernel) (by decide +kernel)
theorem gw_614 : (Jvm.Cond.methodLink "QuorumChainLaw" (73 : Nat) ({ cls := "QuorumChainLaw", name := "begin", desc := "(LQuorumChain;[J)I" } : Jvm.MethodName)) ∈ GG := GG_in (i := 614) (by decide +kernel) (by decide +kernel)
theorem gw_615 : (Jvm.Cond.static ({ cls := "QuorumChainLaw", name := "begin", desc := "(LQuorumChain;[J)I" } : Jvm.MethodName)) ∈ GG := GG_in (i := 615) (by decide +kernel) (by decide +kernel)
theorem gw_616 : (Jvm.Cond.codeWith ({ cls := "QuorumChainLaw", name := "begin", desc := "(LQuorumChain;[J)I" } : Jvm.MethodName) method_5_code (3 : Nat) (Option.some Jvm.ClassFile.FieldType.int) [((0 : Nat), (15 : Nat), (18 : Nat), (15 : Nat))]) ∈ GG := GG_in (i := 616) (by decide +kernel) (by decide +kernel)
theorem gw_644 : (Jvm.Cond.methodLink "QuorumChainLaw" (77 : Nat) ({ cls := "QuorumChainLaw", name := "deliver", desc := "(LQuorumChain;I[J)I" } : Jvm.MethodName)) ∈ GG := GG_in (i := 644) (by decide +kernel) (by decide +kernel)
theorem gw_645 : (Jvm.Cond.static ({ cls := "QuorumChainLaw", name := "deliver", desc := "(LQuorumChain;I[J)I" } : Jvm.MethodName)) ∈ GG := GG_in (i := 645) (by decide +kernel) (by decide +kernel)
theorem gw_646 : (Jvm.Cond.codeWith ({ cls := "QuorumChainLaw", name := "deliver", desc := "(LQuorumChain;I[J)I" } : Jvm.MethodName) method_6_code (4 : Nat) (Option.some Jvm.ClassFile.FieldType.int) [((0 : Nat), (9 : Nat), (12 : Nat), (13 : Nat)), ((0 : Nat), (9 : Nat), (15 : Nat), (15 : Nat))]) ∈ GG := GG_in (i := 646) (by decide +kernel) (by decide +kernel)
theorem gw_773 : (Jvm.Cond.methodLink "QuorumChainLaw" (81 : Nat) ({ cls := "QuorumChainLaw", name := "disturb", desc := "(LQuorumChain;II[J)I" } : Jvm.MethodName)) ∈ GG := GG_in (i := 773) (by decide +kernel) (by decide +kernel)
theorem gw_774 : (Jvm.Cond.static ({ cls := "QuorumChainLaw", name := "disturb", desc := "(LQuorumChain;II[J)I" } : Jvm.MethodName)) ∈ GG := GG_in (i := 774) (by decide +kernel) (by decide +kernel)
theorem gw_775 : (Jvm.Cond.codeWith ({ cls := "QuorumChainLaw", name := "disturb", desc := "(LQuorumChain;II[J)I" } : Jvm.MethodName) method_7_code (5 : Nat) (Option.some Jvm.ClassFile.FieldType.int) [((0 : Nat), (17 : Nat), (20 : Nat), (13 : Nat)), ((0 : Nat), (17 : Nat), (24 : Nat), (15 : Nat))]) ∈ GG := GG_in (i := 775) (by decide +kernel) (by decide +kernel)
theorem gw_783 : (Jvm.Cond.methodLink "QuorumChainLaw" (86 : Nat) ({ cls := "QuorumChainLaw", name := "alter", desc := "(LQuorumChain;IIJ[J)I" } : Jvm.MethodName)) ∈ GG := GG_in (i := 783) (by decide +kernel) (by decide +kernel)
theorem gw_784 : (Jvm.Cond.static ({ cls := "QuorumChainLaw", name := "alter", desc := "(LQuorumChain;IIJ[J)I" } : Jvm.MethodName)) ∈ GG := GG_in (i := 784) (by decide +kernel) (by decide +kernel)
theorem gw_785 : (Jvm.Cond.codeWith ({ cls := "QuorumChainLaw", name := "alter", desc := "(LQuorumChain;IIJ[J)I" } : Jvm.MethodName) method_8_code (7 : Nat) (Option.some Jvm.ClassFile.FieldType.int) [((0 : Nat), (19 : Nat), (22 : Nat), (13 : Nat)), ((0 : Nat), (19 : Nat), (26 : Nat), (15 : Nat))]) ∈ GG := GG_in (i := 785) (by decide +kernel) (by decide +kernel)
theorem gw_792 : (Jvm.Cond.methodLink "QuorumChainLaw" (90 : Nat) ({ cls := "QuorumChainLaw", name := "lie", desc := "(LQuorumChain;IIII[J)I" } : Jvm.MethodName)) ∈ GG := GG_in (i := 792) (by decide +kernel) (by decide +kernel)
theorem gw_793 : (Jvm.Cond.static ({ cls := "QuorumChainLaw", name := "lie", desc := "(LQuorumChain;IIII[J)I" } : Jvm.MethodName)) ∈ GG := GG_in (i := 793) (by decide +kernel) (by decide +kernel)
theorem gw_794 : (Jvm.Cond.codeWith ({ cls := "QuorumChainLaw", name := "lie", desc := "(LQuorumChain;IIII[J)I" } : Jvm.MethodName) method_9_code (7 : Nat) (Option.some Jvm.ClassFile.FieldType.int) [((0 : Nat), (14 : Nat), (17 : Nat), (13 : Nat)), ((0 : Nat), (14 : Nat), (21 : Nat), (15 : Nat))]) ∈ GG := GG_in (i := 794) (by decide +kernel) (by decide +kernel)
theorem gw_804 : (Jvm.Cond.methodLink "QuorumChainLaw" (93 : Nat) ({ cls := "QuorumChainLaw", name := "lieVote", desc := "(LQuorumChain;II[J)I" } : Jvm.MethodName)) ∈ GG := GG_in (i := 804) (by decide +kernel) (by decide +kernel)
theorem gw_805 : (Jvm.Cond.static ({ cls := "QuorumChainLaw", name := "lieVote", desc := "(LQuorumChain;II[J)I" } : Jvm.MethodName)) ∈ GG := GG_in (i := 805) (by decide +kernel) (by decide +kernel)
theorem gw_806 : (Jvm.Cond.codeWith ({ cls := "QuorumChainLaw", name := "lieVote", desc := "(LQuorumChain;II[J)I" } : Jvm.MethodName) method_10_code (5 : Nat) (Option.some Jvm.ClassFile.FieldType.int) [((0 : Nat), (17 : Nat), (20 : Nat), (13 : Nat)), ((0 : Nat), (17 : Nat), (24 : Nat), (15 : Nat))]) ∈ GG := GG_in (i := 806) (by decide +kernel) (by decide +kernel)
theorem gw_813 : (Jvm.Cond.methodLink "QuorumChainLaw" (100 : Nat) ({ cls := "QuorumChainLaw", name := "crash", desc := "(LQuorumChain;I[J)I" } : Jvm.MethodName)) ∈ GG := GG_in (i := 813) (by decide +kernel) (by decide +kernel)
theorem gw_814 : (Jvm.Cond.static ({ cls := "QuorumChainLaw", name := "crash", desc := "(LQuorumChain;I[J)I" } : Jvm.MethodName)) ∈ GG := GG_in (i := 814) (by decide +kernel) (by decide +kernel)
theorem gw_815 : (Jvm.Cond.codeWith ({ cls := "QuorumChainLaw", name := "crash", desc := "(LQuorumChain;I[J)I" } : Jvm.MethodName) method_11_code (4 : Nat) (Option.some Jvm.ClassFile.FieldType.int) [((0 : Nat), (16 : Nat), (19 : Nat), (13 : Nat)), ((0 : Nat), (16 : Nat), (22 : Nat), (15 : Nat))]) ∈ GG := GG_in (i := 815) (by decide +kernel) (by decide +kernel)
theorem gw_828 : (Jvm.Cond.methodLink "QuorumChainLaw" (103 : Nat) ({ cls := "QuorumChainLaw", name := "restart", desc := "(LQuorumChain;I[J)I" } : Jvm.MethodName)) ∈ GG := GG_in (i := 828) (by decide +kernel) (by decide +kernel)
theorem gw_829 : (Jvm.Cond.static ({ cls := "QuorumChainLaw", name := "restart", desc := "(LQuorumChain;I[J)I" } : Jvm.MethodName)) ∈ GG := GG_in (i := 829) (by decide +kernel) (by decide +kernel)
theorem gw_830 : (Jvm.Cond.codeWith ({ cls := "QuorumChainLaw", name := "restart", desc := "(LQuorumChain;I[J)I" } : Jvm.MethodName) method_12_code (4 : Nat) (Option.some Jvm.ClassFile.FieldType.int) [((0 : Nat), (16 : Nat), (19 : Nat), (13 : Nat)), ((0 : Nat), (16 : Nat), (22 : Nat), (15 : Nat))]) ∈ GG := GG_in (i := 830) (by decide +kernel) (by decide +kernel)
theorem gw_846 : (Jvm.Cond.classLink "QuorumChainLaw" (58 : Nat) "QuorumChainModel") ∈ GG := GG_in (i := 846) (by decide +kernel) (by decide +kernel)
theorem gw_847 : (Jvm.Cond.instantiable "QuorumChainModel" (43 : Nat)) ∈ GG := GG_in (i := 847) (by decide +kernel) (by decide +kernel)
theorem gw_848 : (Jvm.Cond.methodLink "QuorumChainLaw" (60 : Nat) ({ cls := "QuorumChainModel", name := "<init>", desc := "(I)V" } : Jvm.MethodName)) ∈ GG := GG_in (i := 848) (by decide +kernel) (by decide +kernel)
theorem gw_1014 : (Jvm.Cond.methodLink "QuorumChainLaw" (65 : Nat) ({ cls := "QuorumChainModel", name := "thrown", desc := "()I" } : Jvm.MethodName)) ∈ GG := GG_in (i := 1014) (by decide +kernel) (by decide +kernel)
theorem gw_1018 : (Jvm.Cond.methodLink "QuorumChainLaw" (80 : Nat) ({ cls := "QuorumChainModel", name := "deliver", desc := "(I)I" } : Jvm.MethodName)) ∈ GG := GG_in (i := 1018) (by decide +kernel) (by decide +kernel)
theorem gw_1113 : (Jvm.Cond.methodLink "QuorumChainLaw" (64 : Nat) ({ cls := "QuorumChainModel", name := "transaction", desc := "(IIII)I" } : Jvm.MethodName)) ∈ GG := GG_in (i := 1113) (by decide +kernel) (by decide +kernel)
theorem gw_1117 : (Jvm.Cond.methodLink "QuorumChainLaw" (72 : Nat) ({ cls := "QuorumChainModel", name := "submit", desc := "(II)Z" } : Jvm.MethodName)) ∈ GG := GG_in (i := 1117) (by decide +kernel) (by decide +kernel)
theorem gw_1125 : (Jvm.Cond.methodLink "QuorumChainLaw" (76 : Nat) ({ cls := "QuorumChainModel", name := "begin", desc := "()Z" } : Jvm.MethodName)) ∈ GG := GG_in (i := 1125) (by decide +kernel) (by decide +kernel)
theorem gw_1129 : (Jvm.Cond.methodLink "QuorumChainLaw" (83 : Nat) ({ cls := "QuorumChainModel", name := "disturb", desc := "(II)Z" } : Jvm.MethodName)) ∈ GG := GG_in (i := 1129) (by decide +kernel) (by decide +kernel)
theorem gw_1133 : (Jvm.Cond.methodLink "QuorumChainLaw" (89 : Nat) ({ cls := "QuorumChainModel", name := "alter", desc := "(IIJ)Z" } : Jvm.MethodName)) ∈ GG := GG_in (i := 1133) (by decide +kernel) (by decide +kernel)
theorem gw_1137 : (Jvm.Cond.methodLink "QuorumChainLaw" (92 : Nat) ({ cls := "QuorumChainModel", name := "lie", desc := "(IIII)I" } : Jvm.MethodName)) ∈ GG := GG_in (i := 1137) (by decide +kernel) (by decide +kernel)
theorem gw_1145 : (Jvm.Cond.methodLink "QuorumChainLaw" (95 : Nat) ({ cls := "QuorumChainModel", name := "lieVote", desc := "(II)Z" } : Jvm.MethodName)) ∈ GG := GG_in (i := 1145) (by decide +kernel) (by decide +kernel)
theorem gw_1149 : (Jvm.Cond.methodLink "QuorumChainLaw" (99 : Nat) ({ cls := "QuorumChainModel", name := "tick", desc := "()I" } : Jvm.MethodName)) ∈ GG := GG_in (i := 1149) (by decide +kernel) (by decide +kernel)
theorem gw_1157 : (Jvm.Cond.methodLink "QuorumChainLaw" (102 : Nat) ({ cls := "QuorumChainModel", name := "crash", desc := "(I)Z" } : Jvm.MethodName)) ∈ GG := GG_in (i := 1157) (by decide +kernel) (by decide +kernel)
theorem gw_1161 : (Jvm.Cond.methodLink "QuorumChainLaw" (105 : Nat) ({ cls := "QuorumChainModel", name := "restart", desc := "(I)Z" } : Jvm.MethodName)) ∈ GG := GG_in (i := 1161) (by decide +kernel) (by decide +kernel)
theorem gw_1165 : (Jvm.Cond.methodLink "QuorumChainLaw" (110 : Nat) ({ cls := "QuorumChainModel", name := "node", desc := "(II)I" } : Jvm.MethodName)) ∈ GG := GG_in (i := 1165) (by decide +kernel) (by decide +kernel)
theorem gw_1173 : (Jvm.Cond.methodLink "QuorumChainLaw" (114 : Nat) ({ cls := "QuorumChainModel", name := "log", desc := "(II)I" } : Jvm.MethodName)) ∈ GG := GG_in (i := 1173) (by decide +kernel) (by decide +kernel)
theorem gw_1177 : (Jvm.Cond.methodLink "QuorumChainLaw" (119 : Nat) ({ cls := "QuorumChainModel", name := "account", desc := "(III)I" } : Jvm.MethodName)) ∈ GG := GG_in (i := 1177) (by decide +kernel) (by decide +kernel)
theorem gw_1181 : (Jvm.Cond.methodLink "QuorumChainLaw" (123 : Nat) ({ cls := "QuorumChainModel", name := "block", desc := "(II)I" } : Jvm.MethodName)) ∈ GG := GG_in (i := 1181) (by decide +kernel) (by decide +kernel)
theorem gw_1185 : (Jvm.Cond.methodLink "QuorumChainLaw" (127 : Nat) ({ cls := "QuorumChainModel", name := "message", desc := "(III)I" } : Jvm.MethodName)) ∈ GG := GG_in (i := 1185) (by decide +kernel) (by decide +kernel)
theorem gw_1189 : (Jvm.Cond.methodLink "QuorumChainLaw" (132 : Nat) ({ cls := "QuorumChainModel", name := "root", desc := "(I)J" } : Jvm.MethodName)) ∈ GG := GG_in (i := 1189) (by decide +kernel) (by decide +kernel)
theorem gw_1193 : (Jvm.Cond.methodLink "QuorumChainLaw" (136 : Nat) ({ cls := "QuorumChainModel", name := "about", desc := "(I)I" } : Jvm.MethodName)) ∈ GG := GG_in (i := 1193) (by decide +kernel) (by decide +kernel)
theorem gw_1197 : (Jvm.Cond.constantLong "QuorumChainLaw" (84 : Nat) (4294967295 : Int64)) ∈ GG := GG_in (i := 1197) (by decide +kernel) (by decide +kernel)
theorem cd_L_transaction : cdW GG y_L_transaction b_L_transaction 7 [(0, 14, 17, 13), (0, 14, 21, 15)] 6 := ⟨gw_502, gw_501, gw_51, by decide +kernel, GG_good⟩
theorem cd_L_submit : cdW GG y_L_submit b_L_submit 5 [(0, 17, 20, 13), (0, 17, 24, 15)] 4 := ⟨gw_599, gw_598, gw_51, by decide +kernel, GG_good⟩
theorem cd_L_begin : cdW GG y_L_begin b_L_begin 3 [(0, 15, 18, 15)] 2 := ⟨gw_616, gw_615, gw_51, by decide +kernel, GG_good⟩
theorem cd_L_deliver : cdW GG y_L_deliver b_L_deliver 4 [(0, 9, 12, 13), (0, 9, 15, 15)] 3 := ⟨gw_646, gw_645, gw_51, by decide +kernel, GG_good⟩
theorem cd_L_disturb : cdW GG y_L_disturb b_L_disturb 5 [(0, 17, 20, 13), (0, 17, 24, 15)] 4 := ⟨gw_775, gw_774, gw_51, by decide +kernel, GG_good⟩
theorem cd_L_alter : cdW GG y_L_alter b_L_alter 7 [(0, 19, 22, 13), (0, 19, 26, 15)] 5 := ⟨gw_785, gw_784, gw_51, by decide +kernel, GG_good⟩
theorem cd_L_lie : cdW GG y_L_lie b_L_lie 7 [(0, 14, 17, 13), (0, 14, 21, 15)] 6 := ⟨gw_794, gw_793, gw_51, by decide +kernel, GG_good⟩
theorem cd_L_lieVote : cdW GG y_L_lieVote b_L_lieVote 5 [(0, 17, 20, 13), (0, 17, 24, 15)] 4 := ⟨gw_806, gw_805, gw_51, by decide +kernel, GG_good⟩
theorem cd_L_crash : cdW GG y_L_crash b_L_crash 4 [(0, 16, 19, 13), (0, 16, 22, 15)] 3 := ⟨gw_815, gw_814, gw_51, by decide +kernel, GG_good⟩
theorem cd_L_restart : cdW GG y_L_restart b_L_restart 4 [(0, 16, 19, 13), (0, 16, 22, 15)] 3 := ⟨gw_830, gw_829, gw_51, by decide +kernel, GG_good⟩
abbrev b_L_cell : ByteArray := method_2_code
def y_L_cell : MethodName := ⟨R_L, "cell", "([II)I"⟩
theorem cd_L_cell : cdS GG y_L_cell b_L_cell 2 (some .int) 2 := ⟨gw_499, gw_498, gw_51, by decide +kernel, GG_good⟩
theorem d_L_cell_0 : decode b_L_cell 0 = .ok (.iload_n 1, 1) := by decide +kernel
theorem d_L_cell_1 : decode b_L_cell 1 = .ok (.aload_n 0, 1) := by decide +kernel
theorem d_L_cell_2 : decode b_L_cell 2 = .ok (.arraylength, 1) := by decide +kernel
theorem d_L_cell_3 : decode b_L_cell 3 = .ok (.if_icmp .ge 9, 3) := by decide +kernel
theorem d_L_cell_6 : decode b_L_cell 6 = .ok (.aload_n 0, 1) := by decide +kernel
theorem d_L_cell_7 : decode b_L_cell 7 = .ok (.iload_n 1, 1) := by decide +kernel
theorem d_L_cell_8 : decode b_L_cell 8 = .ok (.iaload, 1) := by decide +kernel
theorem d_L_cell_9 : decode b_L_cell 9 = .ok (.goto 4, 3) := by decide +kernel
theorem d_L_cell_12 : decode b_L_cell 12 = .ok (.iconst 0, 1) := by decide +kernel
theorem d_L_cell_13 : decode b_L_cell 13 = .ok (.ireturn, 1) := by decide +kernel
