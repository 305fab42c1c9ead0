section
-- ===== PART A: goes FIRST, ahead of the names: the tables' words, and 'selects' of the private methods out of them =====
/-- a private method of a class that the tables say can be made, by its rows of tables_1 -/
def lw_okq (q : MethodName × Nat) : Prop := (q.1.cls ≠ "java/lang/invoke/MethodHandle" ∧ q.1.cls ≠ "java/lang/invoke/VarHandle") ∧ Cond.instantiable q.1.cls q.2 ∈ tables_1 ∧ Cond.privateMethod q.1 ∈ tables_1 ∧ Cond.instanceMethod q.1 ∈ tables_1
theorem lw_p0 : lw_okq (⟨"ClauseKernel$Cells", "addNames", "(Ljava/lang/String;)V"⟩, 5) := ⟨⟨by decide +kernel, by decide +kernel⟩, List.mem_of_getElem? (i := 53) (by decide +kernel), List.mem_of_getElem? (i := 63) (by decide +kernel), List.mem_of_getElem? (i := 64) (by decide +kernel)⟩
theorem lw_p1 : lw_okq (⟨"ClauseKernel$Cells", "numberOf", "(JI)I"⟩, 5) := ⟨⟨by decide +kernel, by decide +kernel⟩, List.mem_of_getElem? (i := 53) (by decide +kernel), List.mem_of_getElem? (i := 120) (by decide +kernel), List.mem_of_getElem? (i := 121) (by decide +kernel)⟩
theorem lw_p2 : lw_okq (⟨"ClauseKernel$Reader", "begin", "()V"⟩, 9) := ⟨⟨by decide +kernel, by decide +kernel⟩, List.mem_of_getElem? (i := 232) (by decide +kernel), List.mem_of_getElem? (i := 487) (by decide +kernel), List.mem_of_getElem? (i := 488) (by decide +kernel)⟩
theorem lw_p3 : lw_okq (⟨"ClauseKernel$Reader", "skipBlanks", "(LClauseKernel$Row;)V"⟩, 9) := ⟨⟨by decide +kernel, by decide +kernel⟩, List.mem_of_getElem? (i := 232) (by decide +kernel), List.mem_of_getElem? (i := 493) (by decide +kernel), List.mem_of_getElem? (i := 494) (by decide +kernel)⟩
theorem lw_p4 : lw_okq (⟨"ClauseKernel$Reader", "takeWord", "(LClauseKernel$Row;)I"⟩, 9) := ⟨⟨by decide +kernel, by decide +kernel⟩, List.mem_of_getElem? (i := 232) (by decide +kernel), List.mem_of_getElem? (i := 502) (by decide +kernel), List.mem_of_getElem? (i := 503) (by decide +kernel)⟩
theorem lw_p5 : lw_okq (⟨"ClauseKernel$Reader", "takeAtom", "(LClauseKernel$Row;)I"⟩, 9) := ⟨⟨by decide +kernel, by decide +kernel⟩, List.mem_of_getElem? (i := 232) (by decide +kernel), List.mem_of_getElem? (i := 508) (by decide +kernel), List.mem_of_getElem? (i := 509) (by decide +kernel)⟩
theorem lw_p6 : lw_okq (⟨"ClauseKernel$Reader", "faultOf", "(I)I"⟩, 9) := ⟨⟨by decide +kernel, by decide +kernel⟩, List.mem_of_getElem? (i := 232) (by decide +kernel), List.mem_of_getElem? (i := 520) (by decide +kernel), List.mem_of_getElem? (i := 521) (by decide +kernel)⟩
theorem lw_p7 : lw_okq (⟨"ClauseKernel$Reader", "mayStand", "(I)Z"⟩, 9) := ⟨⟨by decide +kernel, by decide +kernel⟩, List.mem_of_getElem? (i := 232) (by decide +kernel), List.mem_of_getElem? (i := 524) (by decide +kernel), List.mem_of_getElem? (i := 525) (by decide +kernel)⟩
theorem lw_p8 : lw_okq (⟨"ClauseKernel$Reader", "accept", "(I)V"⟩, 9) := ⟨⟨by decide +kernel, by decide +kernel⟩, List.mem_of_getElem? (i := 232) (by decide +kernel), List.mem_of_getElem? (i := 532) (by decide +kernel), List.mem_of_getElem? (i := 533) (by decide +kernel)⟩
theorem lw_p9 : lw_okq (⟨"ClauseKernel$Reader", "open", "(I)V"⟩, 9) := ⟨⟨by decide +kernel, by decide +kernel⟩, List.mem_of_getElem? (i := 232) (by decide +kernel), List.mem_of_getElem? (i := 536) (by decide +kernel), List.mem_of_getElem? (i := 537) (by decide +kernel)⟩
theorem lw_p10 : lw_okq (⟨"ClauseKernel$Reader", "become", "(I)V"⟩, 9) := ⟨⟨by decide +kernel, by decide +kernel⟩, List.mem_of_getElem? (i := 232) (by decide +kernel), List.mem_of_getElem? (i := 540) (by decide +kernel), List.mem_of_getElem? (i := 541) (by decide +kernel)⟩
theorem lw_p11 : lw_okq (⟨"ClauseKernel$Reader", "close", "()V"⟩, 9) := ⟨⟨by decide +kernel, by decide +kernel⟩, List.mem_of_getElem? (i := 232) (by decide +kernel), List.mem_of_getElem? (i := 548) (by decide +kernel), List.mem_of_getElem? (i := 549) (by decide +kernel)⟩
theorem lw_p12 : lw_okq (⟨"ClauseKernel$Reader", "addObject", "(I)V"⟩, 9) := ⟨⟨by decide +kernel, by decide +kernel⟩, List.mem_of_getElem? (i := 232) (by decide +kernel), List.mem_of_getElem? (i := 562) (by decide +kernel), List.mem_of_getElem? (i := 563) (by decide +kernel)⟩
theorem lw_p13 : lw_okq (⟨"ClauseKernel", "kindOf", "(I)I"⟩, 14) := ⟨⟨by decide +kernel, by decide +kernel⟩, List.mem_of_getElem? (i := 28) (by decide +kernel), List.mem_of_getElem? (i := 567) (by decide +kernel), List.mem_of_getElem? (i := 568) (by decide +kernel)⟩
theorem lw_p14 : lw_okq (⟨"ClauseKernel", "define", "(I)I"⟩, 14) := ⟨⟨by decide +kernel, by decide +kernel⟩, List.mem_of_getElem? (i := 28) (by decide +kernel), List.mem_of_getElem? (i := 588) (by decide +kernel), List.mem_of_getElem? (i := 589) (by decide +kernel)⟩
theorem lw_p15 : lw_okq (⟨"ClauseKernel", "mayName", "(I)Z"⟩, 14) := ⟨⟨by decide +kernel, by decide +kernel⟩, List.mem_of_getElem? (i := 28) (by decide +kernel), List.mem_of_getElem? (i := 618) (by decide +kernel), List.mem_of_getElem? (i := 619) (by decide +kernel)⟩
def lw_privs_1 : List (MethodName × Nat) := [(⟨"ClauseKernel$Cells", "addNames", "(Ljava/lang/String;)V"⟩, 5), (⟨"ClauseKernel$Cells", "numberOf", "(JI)I"⟩, 5), (⟨"ClauseKernel$Reader", "begin", "()V"⟩, 9), (⟨"ClauseKernel$Reader", "skipBlanks", "(LClauseKernel$Row;)V"⟩, 9), (⟨"ClauseKernel$Reader", "takeWord", "(LClauseKernel$Row;)I"⟩, 9), (⟨"ClauseKernel$Reader", "takeAtom", "(LClauseKernel$Row;)I"⟩, 9), (⟨"ClauseKernel$Reader", "faultOf", "(I)I"⟩, 9), (⟨"ClauseKernel$Reader", "mayStand", "(I)Z"⟩, 9), (⟨"ClauseKernel$Reader", "accept", "(I)V"⟩, 9), (⟨"ClauseKernel$Reader", "open", "(I)V"⟩, 9), (⟨"ClauseKernel$Reader", "become", "(I)V"⟩, 9), (⟨"ClauseKernel$Reader", "close", "()V"⟩, 9), (⟨"ClauseKernel$Reader", "addObject", "(I)V"⟩, 9), (⟨"ClauseKernel", "kindOf", "(I)I"⟩, 14), (⟨"ClauseKernel", "define", "(I)I"⟩, 14), (⟨"ClauseKernel", "mayName", "(I)Z"⟩, 14)]
theorem lw_r1 : ∀ q ∈ lw_privs_1, lw_okq q := List.forall_mem_cons.mpr ⟨lw_p0, List.forall_mem_cons.mpr ⟨lw_p1, List.forall_mem_cons.mpr ⟨lw_p2, List.forall_mem_cons.mpr ⟨lw_p3, List.forall_mem_cons.mpr ⟨lw_p4, List.forall_mem_cons.mpr ⟨lw_p5, List.forall_mem_cons.mpr ⟨lw_p6, List.forall_mem_cons.mpr ⟨lw_p7, List.forall_mem_cons.mpr ⟨lw_p8, List.forall_mem_cons.mpr ⟨lw_p9, List.forall_mem_cons.mpr ⟨lw_p10, List.forall_mem_cons.mpr ⟨lw_p11, List.forall_mem_cons.mpr ⟨lw_p12, List.forall_mem_cons.mpr ⟨lw_p13, List.forall_mem_cons.mpr ⟨lw_p14, List.forall_mem_cons.mpr ⟨lw_p15, fun _ h => absurd h List.not_mem_nil⟩⟩⟩⟩⟩⟩⟩⟩⟩⟩⟩⟩⟩⟩⟩⟩
theorem lw_p16 : lw_okq (⟨"ClauseKernel$Terms", "tokenOf", "(I)I"⟩, 6) := ⟨⟨by decide +kernel, by decide +kernel⟩, List.mem_of_getElem? (i := 330) (by decide +kernel), List.mem_of_getElem? (i := 646) (by decide +kernel), List.mem_of_getElem? (i := 647) (by decide +kernel)⟩
theorem lw_p17 : lw_okq (⟨"ClauseKernel$Terms", "callOf", "(I)I"⟩, 6) := ⟨⟨by decide +kernel, by decide +kernel⟩, List.mem_of_getElem? (i := 330) (by decide +kernel), List.mem_of_getElem? (i := 659) (by decide +kernel), List.mem_of_getElem? (i := 660) (by decide +kernel)⟩
theorem lw_p18 : lw_okq (⟨"ClauseKernel$Terms", "putOff", "(II)Z"⟩, 6) := ⟨⟨by decide +kernel, by decide +kernel⟩, List.mem_of_getElem? (i := 330) (by decide +kernel), List.mem_of_getElem? (i := 689) (by decide +kernel), List.mem_of_getElem? (i := 690) (by decide +kernel)⟩
theorem lw_p19 : lw_okq (⟨"ClauseKernel$Terms", "made", "()LClauseKernel$Term;"⟩, 6) := ⟨⟨by decide +kernel, by decide +kernel⟩, List.mem_of_getElem? (i := 330) (by decide +kernel), List.mem_of_getElem? (i := 693) (by decide +kernel), List.mem_of_getElem? (i := 694) (by decide +kernel)⟩
theorem lw_p20 : lw_okq (⟨"ClauseKernel", "take", "(LClauseKernel$Thing;)V"⟩, 14) := ⟨⟨by decide +kernel, by decide +kernel⟩, List.mem_of_getElem? (i := 28) (by decide +kernel), List.mem_of_getElem? (i := 776) (by decide +kernel), List.mem_of_getElem? (i := 777) (by decide +kernel)⟩
theorem lw_p21 : lw_okq (⟨"java/util/ArrayList", "add", "(Ljava/lang/Object;[Ljava/lang/Object;I)V"⟩, 3) := ⟨⟨by decide +kernel, by decide +kernel⟩, List.mem_of_getElem? (i := 294) (by decide +kernel), List.mem_of_getElem? (i := 788) (by decide +kernel), List.mem_of_getElem? (i := 789) (by decide +kernel)⟩
theorem lw_p22 : lw_okq (⟨"java/util/ArrayList", "grow", "()[Ljava/lang/Object;"⟩, 3) := ⟨⟨by decide +kernel, by decide +kernel⟩, List.mem_of_getElem? (i := 294) (by decide +kernel), List.mem_of_getElem? (i := 792) (by decide +kernel), List.mem_of_getElem? (i := 793) (by decide +kernel)⟩
theorem lw_p23 : lw_okq (⟨"java/util/ArrayList", "grow", "(I)[Ljava/lang/Object;"⟩, 3) := ⟨⟨by decide +kernel, by decide +kernel⟩, List.mem_of_getElem? (i := 294) (by decide +kernel), List.mem_of_getElem? (i := 796) (by decide +kernel), List.mem_of_getElem? (i := 797) (by decide +kernel)⟩
theorem lw_p24 : lw_okq (⟨"ClauseKernel", "check", "(I)I"⟩, 14) := ⟨⟨by decide +kernel, by decide +kernel⟩, List.mem_of_getElem? (i := 28) (by decide +kernel), List.mem_of_getElem? (i := 841) (by decide +kernel), List.mem_of_getElem? (i := 842) (by decide +kernel)⟩
theorem lw_p25 : lw_okq (⟨"ClauseKernel$Prover", "failBy", "(I)LClauseKernel$Clause;"⟩, 8) := ⟨⟨by decide +kernel, by decide +kernel⟩, List.mem_of_getElem? (i := 357) (by decide +kernel), List.mem_of_getElem? (i := 862) (by decide +kernel), List.mem_of_getElem? (i := 863) (by decide +kernel)⟩
theorem lw_p26 : lw_okq (⟨"ClauseKernel$Prover", "failAt", "(I)LClauseKernel$Clause;"⟩, 8) := ⟨⟨by decide +kernel, by decide +kernel⟩, List.mem_of_getElem? (i := 357) (by decide +kernel), List.mem_of_getElem? (i := 871) (by decide +kernel), List.mem_of_getElem? (i := 872) (by decide +kernel)⟩
theorem lw_p27 : lw_okq (⟨"ClauseKernel$Prover", "value", "(I)LClauseKernel$Clause;"⟩, 8) := ⟨⟨by decide +kernel, by decide +kernel⟩, List.mem_of_getElem? (i := 357) (by decide +kernel), List.mem_of_getElem? (i := 875) (by decide +kernel), List.mem_of_getElem? (i := 876) (by decide +kernel)⟩
theorem lw_p28 : lw_okq (⟨"ClauseKernel$Prover", "valueOf", "(LClauseKernel$Term;)I"⟩, 8) := ⟨⟨by decide +kernel, by decide +kernel⟩, List.mem_of_getElem? (i := 357) (by decide +kernel), List.mem_of_getElem? (i := 893) (by decide +kernel), List.mem_of_getElem? (i := 894) (by decide +kernel)⟩
theorem lw_p29 : lw_okq (⟨"ClauseKernel$Prover", "finished", "(LClauseKernel$Clause;)LClauseKernel$Clause;"⟩, 8) := ⟨⟨by decide +kernel, by decide +kernel⟩, List.mem_of_getElem? (i := 357) (by decide +kernel), List.mem_of_getElem? (i := 971) (by decide +kernel), List.mem_of_getElem? (i := 972) (by decide +kernel)⟩
theorem lw_p30 : lw_okq (⟨"ClauseKernel$Prover", "definition", "(I)LClauseKernel$Clause;"⟩, 8) := ⟨⟨by decide +kernel, by decide +kernel⟩, List.mem_of_getElem? (i := 357) (by decide +kernel), List.mem_of_getElem? (i := 979) (by decide +kernel), List.mem_of_getElem? (i := 980) (by decide +kernel)⟩
theorem lw_p31 : lw_okq (⟨"ClauseKernel$Prover", "theorem", "(I)LClauseKernel$Clause;"⟩, 8) := ⟨⟨by decide +kernel, by decide +kernel⟩, List.mem_of_getElem? (i := 357) (by decide +kernel), List.mem_of_getElem? (i := 988) (by decide +kernel), List.mem_of_getElem? (i := 989) (by decide +kernel)⟩
def lw_privs_2 : List (MethodName × Nat) := [(⟨"ClauseKernel$Terms", "tokenOf", "(I)I"⟩, 6), (⟨"ClauseKernel$Terms", "callOf", "(I)I"⟩, 6), (⟨"ClauseKernel$Terms", "putOff", "(II)Z"⟩, 6), (⟨"ClauseKernel$Terms", "made", "()LClauseKernel$Term;"⟩, 6), (⟨"ClauseKernel", "take", "(LClauseKernel$Thing;)V"⟩, 14), (⟨"java/util/ArrayList", "add", "(Ljava/lang/Object;[Ljava/lang/Object;I)V"⟩, 3), (⟨"java/util/ArrayList", "grow", "()[Ljava/lang/Object;"⟩, 3), (⟨"java/util/ArrayList", "grow", "(I)[Ljava/lang/Object;"⟩, 3), (⟨"ClauseKernel", "check", "(I)I"⟩, 14), (⟨"ClauseKernel$Prover", "failBy", "(I)LClauseKernel$Clause;"⟩, 8), (⟨"ClauseKernel$Prover", "failAt", "(I)LClauseKernel$Clause;"⟩, 8), (⟨"ClauseKernel$Prover", "value", "(I)LClauseKernel$Clause;"⟩, 8), (⟨"ClauseKernel$Prover", "valueOf", "(LClauseKernel$Term;)I"⟩, 8), (⟨"ClauseKernel$Prover", "finished", "(LClauseKernel$Clause;)LClauseKernel$Clause;"⟩, 8), (⟨"ClauseKernel$Prover", "definition", "(I)LClauseKernel$Clause;"⟩, 8), (⟨"ClauseKernel$Prover", "theorem", "(I)LClauseKernel$Clause;"⟩, 8)]
theorem lw_r2 : ∀ q ∈ lw_privs_2, lw_okq q := List.forall_mem_cons.mpr ⟨lw_p16, List.forall_mem_cons.mpr ⟨lw_p17, List.forall_mem_cons.mpr ⟨lw_p18, List.forall_mem_cons.mpr ⟨lw_p19, List.forall_mem_cons.mpr ⟨lw_p20, List.forall_mem_cons.mpr ⟨lw_p21, List.forall_mem_cons.mpr ⟨lw_p22, List.forall_mem_cons.mpr ⟨lw_p23, List.forall_mem_cons.mpr ⟨lw_p24, List.forall_mem_cons.mpr ⟨lw_p25, List.forall_mem_cons.mpr ⟨lw_p26, List.forall_mem_cons.mpr ⟨lw_p27, List.forall_mem_cons.mpr ⟨lw_p28, List.forall_mem_cons.mpr ⟨lw_p29, List.forall_mem_cons.mpr ⟨lw_p30, List.forall_mem_cons.mpr ⟨lw_p31, fun _ h => absurd h List.not_mem_nil⟩⟩⟩⟩⟩⟩⟩⟩⟩⟩⟩⟩⟩⟩⟩⟩
theorem lw_p32 : lw_okq (⟨"ClauseKernel$Prover", "weak", "(II)LClauseKernel$Clause;"⟩, 8) := ⟨⟨by decide +kernel, by decide +kernel⟩, List.mem_of_getElem? (i := 357) (by decide +kernel), List.mem_of_getElem? (i := 993) (by decide +kernel), List.mem_of_getElem? (i := 994) (by decide +kernel)⟩
theorem lw_p33 : lw_okq (⟨"ClauseKernel$Prover", "cut", "(II)LClauseKernel$Clause;"⟩, 8) := ⟨⟨by decide +kernel, by decide +kernel⟩, List.mem_of_getElem? (i := 357) (by decide +kernel), List.mem_of_getElem? (i := 1004) (by decide +kernel), List.mem_of_getElem? (i := 1005) (by decide +kernel)⟩
theorem lw_p34 : lw_okq (⟨"ClauseKernel$Prover", "inst", "(III)LClauseKernel$Clause;"⟩, 8) := ⟨⟨by decide +kernel, by decide +kernel⟩, List.mem_of_getElem? (i := 357) (by decide +kernel), List.mem_of_getElem? (i := 1036) (by decide +kernel), List.mem_of_getElem? (i := 1037) (by decide +kernel)⟩
theorem lw_p35 : lw_okq (⟨"ClauseKernel$Prover", "swap", "(II)LClauseKernel$Clause;"⟩, 8) := ⟨⟨by decide +kernel, by decide +kernel⟩, List.mem_of_getElem? (i := 357) (by decide +kernel), List.mem_of_getElem? (i := 1055) (by decide +kernel), List.mem_of_getElem? (i := 1056) (by decide +kernel)⟩
theorem lw_p36 : lw_okq (⟨"ClauseKernel$Prover", "put", "(II)LClauseKernel$Clause;"⟩, 8) := ⟨⟨by decide +kernel, by decide +kernel⟩, List.mem_of_getElem? (i := 357) (by decide +kernel), List.mem_of_getElem? (i := 1061) (by decide +kernel), List.mem_of_getElem? (i := 1062) (by decide +kernel)⟩
theorem lw_p37 : lw_okq (⟨"ClauseKernel$Prover", "induct", "(III)LClauseKernel$Clause;"⟩, 8) := ⟨⟨by decide +kernel, by decide +kernel⟩, List.mem_of_getElem? (i := 357) (by decide +kernel), List.mem_of_getElem? (i := 1073) (by decide +kernel), List.mem_of_getElem? (i := 1074) (by decide +kernel)⟩
theorem lw_p38 : lw_okq (⟨"ClauseKernel$Prover", "axiom", "(III)LClauseKernel$Clause;"⟩, 8) := ⟨⟨by decide +kernel, by decide +kernel⟩, List.mem_of_getElem? (i := 357) (by decide +kernel), List.mem_of_getElem? (i := 1112) (by decide +kernel), List.mem_of_getElem? (i := 1113) (by decide +kernel)⟩
theorem lw_p39 : lw_okq (⟨"ClauseKernel", "answerOfFailure", "()I"⟩, 14) := ⟨⟨by decide +kernel, by decide +kernel⟩, List.mem_of_getElem? (i := 28) (by decide +kernel), List.mem_of_getElem? (i := 1124) (by decide +kernel), List.mem_of_getElem? (i := 1125) (by decide +kernel)⟩
theorem lw_p40 : lw_okq (⟨"ClauseKernel$Terms", "callObject", "(I)I"⟩, 6) := ⟨⟨by decide +kernel, by decide +kernel⟩, List.mem_of_getElem? (i := 330) (by decide +kernel), List.mem_of_getElem? (i := 1142) (by decide +kernel), List.mem_of_getElem? (i := 1143) (by decide +kernel)⟩
theorem lw_p41 : lw_okq (⟨"ClauseKernel$Terms", "leafObject", "(I)I"⟩, 6) := ⟨⟨by decide +kernel, by decide +kernel⟩, List.mem_of_getElem? (i := 330) (by decide +kernel), List.mem_of_getElem? (i := 1152) (by decide +kernel), List.mem_of_getElem? (i := 1153) (by decide +kernel)⟩
theorem lw_p42 : lw_okq (⟨"ClauseKernel", "findClause", "(I)I"⟩, 14) := ⟨⟨by decide +kernel, by decide +kernel⟩, List.mem_of_getElem? (i := 28) (by decide +kernel), List.mem_of_getElem? (i := 1158) (by decide +kernel), List.mem_of_getElem? (i := 1159) (by decide +kernel)⟩
theorem lw_p43 : lw_okq (⟨"ClauseKernel", "undo", "()I"⟩, 14) := ⟨⟨by decide +kernel, by decide +kernel⟩, List.mem_of_getElem? (i := 28) (by decide +kernel), List.mem_of_getElem? (i := 1163) (by decide +kernel), List.mem_of_getElem? (i := 1164) (by decide +kernel)⟩
theorem lw_p44 : lw_okq (⟨"java/util/ArrayList", "fastRemove", "([Ljava/lang/Object;I)V"⟩, 3) := ⟨⟨by decide +kernel, by decide +kernel⟩, List.mem_of_getElem? (i := 294) (by decide +kernel), List.mem_of_getElem? (i := 1179) (by decide +kernel), List.mem_of_getElem? (i := 1180) (by decide +kernel)⟩
theorem lw_p45 : lw_okq (⟨"ClauseKernel$Teller", "tellFront", "(I)I"⟩, 3) := ⟨⟨by decide +kernel, by decide +kernel⟩, List.mem_of_getElem? (i := 270) (by decide +kernel), List.mem_of_getElem? (i := 1188) (by decide +kernel), List.mem_of_getElem? (i := 1189) (by decide +kernel)⟩
theorem lw_p46 : lw_okq (⟨"ClauseKernel$Teller", "tellAtom", "(I)V"⟩, 3) := ⟨⟨by decide +kernel, by decide +kernel⟩, List.mem_of_getElem? (i := 270) (by decide +kernel), List.mem_of_getElem? (i := 1193) (by decide +kernel), List.mem_of_getElem? (i := 1194) (by decide +kernel)⟩
theorem lw_p47 : lw_okq (⟨"ClauseKernel$Teller", "tellDigits", "(JI)V"⟩, 3) := ⟨⟨by decide +kernel, by decide +kernel⟩, List.mem_of_getElem? (i := 270) (by decide +kernel), List.mem_of_getElem? (i := 1199) (by decide +kernel), List.mem_of_getElem? (i := 1200) (by decide +kernel)⟩
def lw_privs_3 : List (MethodName × Nat) := [(⟨"ClauseKernel$Prover", "weak", "(II)LClauseKernel$Clause;"⟩, 8), (⟨"ClauseKernel$Prover", "cut", "(II)LClauseKernel$Clause;"⟩, 8), (⟨"ClauseKernel$Prover", "inst", "(III)LClauseKernel$Clause;"⟩, 8), (⟨"ClauseKernel$Prover", "swap", "(II)LClauseKernel$Clause;"⟩, 8), (⟨"ClauseKernel$Prover", "put", "(II)LClauseKernel$Clause;"⟩, 8), (⟨"ClauseKernel$Prover", "induct", "(III)LClauseKernel$Clause;"⟩, 8), (⟨"ClauseKernel$Prover", "axiom", "(III)LClauseKernel$Clause;"⟩, 8), (⟨"ClauseKernel", "answerOfFailure", "()I"⟩, 14), (⟨"ClauseKernel$Terms", "callObject", "(I)I"⟩, 6), (⟨"ClauseKernel$Terms", "leafObject", "(I)I"⟩, 6), (⟨"ClauseKernel", "findClause", "(I)I"⟩, 14), (⟨"ClauseKernel", "undo", "()I"⟩, 14), (⟨"java/util/ArrayList", "fastRemove", "([Ljava/lang/Object;I)V"⟩, 3), (⟨"ClauseKernel$Teller", "tellFront", "(I)I"⟩, 3), (⟨"ClauseKernel$Teller", "tellAtom", "(I)V"⟩, 3), (⟨"ClauseKernel$Teller", "tellDigits", "(JI)V"⟩, 3)]
theorem lw_r3 : ∀ q ∈ lw_privs_3, lw_okq q := List.forall_mem_cons.mpr ⟨lw_p32, List.forall_mem_cons.mpr ⟨lw_p33, List.forall_mem_cons.mpr ⟨lw_p34, List.forall_mem_cons.mpr ⟨lw_p35, List.forall_mem_cons.mpr ⟨lw_p36, List.forall_mem_cons.mpr ⟨lw_p37, List.forall_mem_cons.mpr ⟨lw_p38, List.forall_mem_cons.mpr ⟨lw_p39, List.forall_mem_cons.mpr ⟨lw_p40, List.forall_mem_cons.mpr ⟨lw_p41, List.forall_mem_cons.mpr ⟨lw_p42, List.forall_mem_cons.mpr ⟨lw_p43, List.forall_mem_cons.mpr ⟨lw_p44, List.forall_mem_cons.mpr ⟨lw_p45, List.forall_mem_cons.mpr ⟨lw_p46, List.forall_mem_cons.mpr ⟨lw_p47, fun _ h => absurd h List.not_mem_nil⟩⟩⟩⟩⟩⟩⟩⟩⟩⟩⟩⟩⟩⟩⟩⟩
theorem lw_p48 : lw_okq (⟨"ClauseKernel$Teller", "put", "(I)V"⟩, 3) := ⟨⟨by decide +kernel, by decide +kernel⟩, List.mem_of_getElem? (i := 270) (by decide +kernel), List.mem_of_getElem? (i := 1209) (by decide +kernel), List.mem_of_getElem? (i := 1210) (by decide +kernel)⟩
theorem lw_p49 : lw_okq (⟨"ClauseKernel$Teller", "tellBehind", "()I"⟩, 3) := ⟨⟨by decide +kernel, by decide +kernel⟩, List.mem_of_getElem? (i := 270) (by decide +kernel), List.mem_of_getElem? (i := 1224) (by decide +kernel), List.mem_of_getElem? (i := 1225) (by decide +kernel)⟩
theorem lw_p50 : lw_okq (⟨"ClauseKernelModel", "said", "(IIIIIIII)V"⟩, 86) := ⟨⟨by decide +kernel, by decide +kernel⟩, List.mem_of_getElem? (i := 1277) (by decide +kernel), List.mem_of_getElem? (i := 1285) (by decide +kernel), List.mem_of_getElem? (i := 1286) (by decide +kernel)⟩
theorem lw_p51 : lw_okq (⟨"ClauseKernelModel", "spell", "(I)V"⟩, 86) := ⟨⟨by decide +kernel, by decide +kernel⟩, List.mem_of_getElem? (i := 1277) (by decide +kernel), List.mem_of_getElem? (i := 1289) (by decide +kernel), List.mem_of_getElem? (i := 1290) (by decide +kernel)⟩
theorem lw_p52 : lw_okq (⟨"ClauseKernelModel", "symbol", "()I"⟩, 86) := ⟨⟨by decide +kernel, by decide +kernel⟩, List.mem_of_getElem? (i := 1277) (by decide +kernel), List.mem_of_getElem? (i := 1293) (by decide +kernel), List.mem_of_getElem? (i := 1294) (by decide +kernel)⟩
theorem lw_p53 : lw_okq (⟨"ClauseKernelModel", "spelled", "(IIZ)I"⟩, 86) := ⟨⟨by decide +kernel, by decide +kernel⟩, List.mem_of_getElem? (i := 1277) (by decide +kernel), List.mem_of_getElem? (i := 1297) (by decide +kernel), List.mem_of_getElem? (i := 1298) (by decide +kernel)⟩
theorem lw_p54 : lw_okq (⟨"ClauseKernelModel", "isWord", "(I)Z"⟩, 86) := ⟨⟨by decide +kernel, by decide +kernel⟩, List.mem_of_getElem? (i := 1277) (by decide +kernel), List.mem_of_getElem? (i := 1301) (by decide +kernel), List.mem_of_getElem? (i := 1302) (by decide +kernel)⟩
theorem lw_p55 : lw_okq (⟨"ClauseKernelModel", "added", "(III)I"⟩, 86) := ⟨⟨by decide +kernel, by decide +kernel⟩, List.mem_of_getElem? (i := 1277) (by decide +kernel), List.mem_of_getElem? (i := 1305) (by decide +kernel), List.mem_of_getElem? (i := 1306) (by decide +kernel)⟩
theorem lw_p56 : lw_okq (⟨"ClauseKernelModel", "reads", "()Z"⟩, 86) := ⟨⟨by decide +kernel, by decide +kernel⟩, List.mem_of_getElem? (i := 1277) (by decide +kernel), List.mem_of_getElem? (i := 1585) (by decide +kernel), List.mem_of_getElem? (i := 1586) (by decide +kernel)⟩
theorem lw_p57 : lw_okq (⟨"ClauseKernelModel", "skip", "()V"⟩, 86) := ⟨⟨by decide +kernel, by decide +kernel⟩, List.mem_of_getElem? (i := 1277) (by decide +kernel), List.mem_of_getElem? (i := 1589) (by decide +kernel), List.mem_of_getElem? (i := 1590) (by decide +kernel)⟩
theorem lw_p58 : lw_okq (⟨"ClauseKernelModel", "readWord", "(I)V"⟩, 86) := ⟨⟨by decide +kernel, by decide +kernel⟩, List.mem_of_getElem? (i := 1277) (by decide +kernel), List.mem_of_getElem? (i := 1593) (by decide +kernel), List.mem_of_getElem? (i := 1594) (by decide +kernel)⟩
theorem lw_p59 : lw_okq (⟨"ClauseKernelModel", "mayBegin", "()Z"⟩, 86) := ⟨⟨by decide +kernel, by decide +kernel⟩, List.mem_of_getElem? (i := 1277) (by decide +kernel), List.mem_of_getElem? (i := 1597) (by decide +kernel), List.mem_of_getElem? (i := 1598) (by decide +kernel)⟩
theorem lw_p60 : lw_okq (⟨"ClauseKernelModel", "bad", "(II)V"⟩, 86) := ⟨⟨by decide +kernel, by decide +kernel⟩, List.mem_of_getElem? (i := 1277) (by decide +kernel), List.mem_of_getElem? (i := 1601) (by decide +kernel), List.mem_of_getElem? (i := 1602) (by decide +kernel)⟩
theorem lw_p61 : lw_okq (⟨"ClauseKernelModel", "begin", "(I)V"⟩, 86) := ⟨⟨by decide +kernel, by decide +kernel⟩, List.mem_of_getElem? (i := 1277) (by decide +kernel), List.mem_of_getElem? (i := 1605) (by decide +kernel), List.mem_of_getElem? (i := 1606) (by decide +kernel)⟩
theorem lw_p62 : lw_okq (⟨"ClauseKernelModel", "isInList", "()Z"⟩, 86) := ⟨⟨by decide +kernel, by decide +kernel⟩, List.mem_of_getElem? (i := 1277) (by decide +kernel), List.mem_of_getElem? (i := 1609) (by decide +kernel), List.mem_of_getElem? (i := 1610) (by decide +kernel)⟩
theorem lw_p63 : lw_okq (⟨"ClauseKernelModel", "close", "()V"⟩, 86) := ⟨⟨by decide +kernel, by decide +kernel⟩, List.mem_of_getElem? (i := 1277) (by decide +kernel), List.mem_of_getElem? (i := 1613) (by decide +kernel), List.mem_of_getElem? (i := 1614) (by decide +kernel)⟩
def lw_privs_4 : List (MethodName × Nat) := [(⟨"ClauseKernel$Teller", "put", "(I)V"⟩, 3), (⟨"ClauseKernel$Teller", "tellBehind", "()I"⟩, 3), (⟨"ClauseKernelModel", "said", "(IIIIIIII)V"⟩, 86), (⟨"ClauseKernelModel", "spell", "(I)V"⟩, 86), (⟨"ClauseKernelModel", "symbol", "()I"⟩, 86), (⟨"ClauseKernelModel", "spelled", "(IIZ)I"⟩, 86), (⟨"ClauseKernelModel", "isWord", "(I)Z"⟩, 86), (⟨"ClauseKernelModel", "added", "(III)I"⟩, 86), (⟨"ClauseKernelModel", "reads", "()Z"⟩, 86), (⟨"ClauseKernelModel", "skip", "()V"⟩, 86), (⟨"ClauseKernelModel", "readWord", "(I)V"⟩, 86), (⟨"ClauseKernelModel", "mayBegin", "()Z"⟩, 86), (⟨"ClauseKernelModel", "bad", "(II)V"⟩, 86), (⟨"ClauseKernelModel", "begin", "(I)V"⟩, 86), (⟨"ClauseKernelModel", "isInList", "()Z"⟩, 86), (⟨"ClauseKernelModel", "close", "()V"⟩, 86)]
theorem lw_r4 : ∀ q ∈ lw_privs_4, lw_okq q := List.forall_mem_cons.mpr ⟨lw_p48, List.forall_mem_cons.mpr ⟨lw_p49, List.forall_mem_cons.mpr ⟨lw_p50, List.forall_mem_cons.mpr ⟨lw_p51, List.forall_mem_cons.mpr ⟨lw_p52, List.forall_mem_cons.mpr ⟨lw_p53, List.forall_mem_cons.mpr ⟨lw_p54, List.forall_mem_cons.mpr ⟨lw_p55, List.forall_mem_cons.mpr ⟨lw_p56, List.forall_mem_cons.mpr ⟨lw_p57, List.forall_mem_cons.mpr ⟨lw_p58, List.forall_mem_cons.mpr ⟨lw_p59, List.forall_mem_cons.mpr ⟨lw_p60, List.forall_mem_cons.mpr ⟨lw_p61, List.forall_mem_cons.mpr ⟨lw_p62, List.forall_mem_cons.mpr ⟨lw_p63, fun _ h => absurd h List.not_mem_nil⟩⟩⟩⟩⟩⟩⟩⟩⟩⟩⟩⟩⟩⟩⟩⟩
theorem lw_p64 : lw_okq (⟨"ClauseKernelModel", "pair", "(II)I"⟩, 86) := ⟨⟨by decide +kernel, by decide +kernel⟩, List.mem_of_getElem? (i := 1277) (by decide +kernel), List.mem_of_getElem? (i := 1617) (by decide +kernel), List.mem_of_getElem? (i := 1618) (by decide +kernel)⟩
theorem lw_p65 : lw_okq (⟨"ClauseKernelModel", "deliver", "(I)V"⟩, 86) := ⟨⟨by decide +kernel, by decide +kernel⟩, List.mem_of_getElem? (i := 1277) (by decide +kernel), List.mem_of_getElem? (i := 1625) (by decide +kernel), List.mem_of_getElem? (i := 1626) (by decide +kernel)⟩
theorem lw_p66 : lw_okq (⟨"ClauseKernelModel", "list2", "(II)I"⟩, 86) := ⟨⟨by decide +kernel, by decide +kernel⟩, List.mem_of_getElem? (i := 1277) (by decide +kernel), List.mem_of_getElem? (i := 1629) (by decide +kernel), List.mem_of_getElem? (i := 1630) (by decide +kernel)⟩
theorem lw_p67 : lw_okq (⟨"ClauseKernelModel", "list1", "(I)I"⟩, 86) := ⟨⟨by decide +kernel, by decide +kernel⟩, List.mem_of_getElem? (i := 1277) (by decide +kernel), List.mem_of_getElem? (i := 1633) (by decide +kernel), List.mem_of_getElem? (i := 1634) (by decide +kernel)⟩
theorem lw_p68 : lw_okq (⟨"ClauseKernelModel", "atom", "(II)I"⟩, 86) := ⟨⟨by decide +kernel, by decide +kernel⟩, List.mem_of_getElem? (i := 1277) (by decide +kernel), List.mem_of_getElem? (i := 1643) (by decide +kernel), List.mem_of_getElem? (i := 1644) (by decide +kernel)⟩
theorem lw_p69 : lw_okq (⟨"ClauseKernelModel", "natural", "(J)I"⟩, 86) := ⟨⟨by decide +kernel, by decide +kernel⟩, List.mem_of_getElem? (i := 1277) (by decide +kernel), List.mem_of_getElem? (i := 1650) (by decide +kernel), List.mem_of_getElem? (i := 1651) (by decide +kernel)⟩
theorem lw_p70 : lw_okq (⟨"ClauseKernelModel", "forget", "(I)V"⟩, 86) := ⟨⟨by decide +kernel, by decide +kernel⟩, List.mem_of_getElem? (i := 1277) (by decide +kernel), List.mem_of_getElem? (i := 1654) (by decide +kernel), List.mem_of_getElem? (i := 1655) (by decide +kernel)⟩
theorem lw_p71 : lw_okq (⟨"ClauseKernelModel", "slotOf", "(I)I"⟩, 86) := ⟨⟨by decide +kernel, by decide +kernel⟩, List.mem_of_getElem? (i := 1277) (by decide +kernel), List.mem_of_getElem? (i := 1658) (by decide +kernel), List.mem_of_getElem? (i := 1659) (by decide +kernel)⟩
theorem lw_p72 : lw_okq (⟨"ClauseKernelModel", "command", "(I)I"⟩, 86) := ⟨⟨by decide +kernel, by decide +kernel⟩, List.mem_of_getElem? (i := 1277) (by decide +kernel), List.mem_of_getElem? (i := 1662) (by decide +kernel), List.mem_of_getElem? (i := 1663) (by decide +kernel)⟩
theorem lw_p73 : lw_okq (⟨"ClauseKernelModel", "isPair", "(I)Z"⟩, 86) := ⟨⟨by decide +kernel, by decide +kernel⟩, List.mem_of_getElem? (i := 1277) (by decide +kernel), List.mem_of_getElem? (i := 1666) (by decide +kernel), List.mem_of_getElem? (i := 1667) (by decide +kernel)⟩
theorem lw_p74 : lw_okq (⟨"ClauseKernelModel", "defun", "(I)I"⟩, 86) := ⟨⟨by decide +kernel, by decide +kernel⟩, List.mem_of_getElem? (i := 1277) (by decide +kernel), List.mem_of_getElem? (i := 1670) (by decide +kernel), List.mem_of_getElem? (i := 1671) (by decide +kernel)⟩
theorem lw_p75 : lw_okq (⟨"ClauseKernelModel", "lengthOf", "(I)I"⟩, 86) := ⟨⟨by decide +kernel, by decide +kernel⟩, List.mem_of_getElem? (i := 1277) (by decide +kernel), List.mem_of_getElem? (i := 1674) (by decide +kernel), List.mem_of_getElem? (i := 1675) (by decide +kernel)⟩
theorem lw_p76 : lw_okq (⟨"ClauseKernelModel", "nth", "(II)I"⟩, 86) := ⟨⟨by decide +kernel, by decide +kernel⟩, List.mem_of_getElem? (i := 1277) (by decide +kernel), List.mem_of_getElem? (i := 1678) (by decide +kernel), List.mem_of_getElem? (i := 1679) (by decide +kernel)⟩
theorem lw_p77 : lw_okq (⟨"ClauseKernelModel", "isNewName", "(I)Z"⟩, 86) := ⟨⟨by decide +kernel, by decide +kernel⟩, List.mem_of_getElem? (i := 1277) (by decide +kernel), List.mem_of_getElem? (i := 1682) (by decide +kernel), List.mem_of_getElem? (i := 1683) (by decide +kernel)⟩
theorem lw_p78 : lw_okq (⟨"ClauseKernelModel", "isSymbol", "(I)Z"⟩, 86) := ⟨⟨by decide +kernel, by decide +kernel⟩, List.mem_of_getElem? (i := 1277) (by decide +kernel), List.mem_of_getElem? (i := 1686) (by decide +kernel), List.mem_of_getElem? (i := 1687) (by decide +kernel)⟩
theorem lw_p79 : lw_okq (⟨"ClauseKernelModel", "areVariables", "(II)Z"⟩, 86) := ⟨⟨by decide +kernel, by decide +kernel⟩, List.mem_of_getElem? (i := 1277) (by decide +kernel), List.mem_of_getElem? (i := 1693) (by decide +kernel), List.mem_of_getElem? (i := 1694) (by decide +kernel)⟩
def lw_privs_5 : List (MethodName × Nat) := [(⟨"ClauseKernelModel", "pair", "(II)I"⟩, 86), (⟨"ClauseKernelModel", "deliver", "(I)V"⟩, 86), (⟨"ClauseKernelModel", "list2", "(II)I"⟩, 86), (⟨"ClauseKernelModel", "list1", "(I)I"⟩, 86), (⟨"ClauseKernelModel", "atom", "(II)I"⟩, 86), (⟨"ClauseKernelModel", "natural", "(J)I"⟩, 86), (⟨"ClauseKernelModel", "forget", "(I)V"⟩, 86), (⟨"ClauseKernelModel", "slotOf", "(I)I"⟩, 86), (⟨"ClauseKernelModel", "command", "(I)I"⟩, 86), (⟨"ClauseKernelModel", "isPair", "(I)Z"⟩, 86), (⟨"ClauseKernelModel", "defun", "(I)I"⟩, 86), (⟨"ClauseKernelModel", "lengthOf", "(I)I"⟩, 86), (⟨"ClauseKernelModel", "nth", "(II)I"⟩, 86), (⟨"ClauseKernelModel", "isNewName", "(I)Z"⟩, 86), (⟨"ClauseKernelModel", "isSymbol", "(I)Z"⟩, 86), (⟨"ClauseKernelModel", "areVariables", "(II)Z"⟩, 86)]
theorem lw_r5 : ∀ q ∈ lw_privs_5, lw_okq q := List.forall_mem_cons.mpr ⟨lw_p64, List.forall_mem_cons.mpr ⟨lw_p65, List.forall_mem_cons.mpr ⟨lw_p66, List.forall_mem_cons.mpr ⟨lw_p67, List.forall_mem_cons.mpr ⟨lw_p68, List.forall_mem_cons.mpr ⟨lw_p69, List.forall_mem_cons.mpr ⟨lw_p70, List.forall_mem_cons.mpr ⟨lw_p71, List.forall_mem_cons.mpr ⟨lw_p72, List.forall_mem_cons.mpr ⟨lw_p73, List.forall_mem_cons.mpr ⟨lw_p74, List.forall_mem_cons.mpr ⟨lw_p75, List.forall_mem_cons.mpr ⟨lw_p76, List.forall_mem_cons.mpr ⟨lw_p77, List.forall_mem_cons.mpr ⟨lw_p78, List.forall_mem_cons.mpr ⟨lw_p79, fun _ h => absurd h List.not_mem_nil⟩⟩⟩⟩⟩⟩⟩⟩⟩⟩⟩⟩⟩⟩⟩⟩
theorem lw_p80 : lw_okq (⟨"ClauseKernelModel", "isVariable", "(I)Z"⟩, 86) := ⟨⟨by decide +kernel, by decide +kernel⟩, List.mem_of_getElem? (i := 1277) (by decide +kernel), List.mem_of_getElem? (i := 1697) (by decide +kernel), List.mem_of_getElem? (i := 1698) (by decide +kernel)⟩
theorem lw_p81 : lw_okq (⟨"ClauseKernelModel", "termOf", "(I)I"⟩, 86) := ⟨⟨by decide +kernel, by decide +kernel⟩, List.mem_of_getElem? (i := 1277) (by decide +kernel), List.mem_of_getElem? (i := 1701) (by decide +kernel), List.mem_of_getElem? (i := 1702) (by decide +kernel)⟩
theorem lw_p82 : lw_okq (⟨"ClauseKernelModel", "beginTerm", "(I)Z"⟩, 86) := ⟨⟨by decide +kernel, by decide +kernel⟩, List.mem_of_getElem? (i := 1277) (by decide +kernel), List.mem_of_getElem? (i := 1705) (by decide +kernel), List.mem_of_getElem? (i := 1706) (by decide +kernel)⟩
theorem lw_p83 : lw_okq (⟨"ClauseKernelModel", "build", "(I)V"⟩, 86) := ⟨⟨by decide +kernel, by decide +kernel⟩, List.mem_of_getElem? (i := 1277) (by decide +kernel), List.mem_of_getElem? (i := 1709) (by decide +kernel), List.mem_of_getElem? (i := 1710) (by decide +kernel)⟩
theorem lw_p84 : lw_okq (⟨"ClauseKernelModel", "isQuoted", "(I)Z"⟩, 86) := ⟨⟨by decide +kernel, by decide +kernel⟩, List.mem_of_getElem? (i := 1277) (by decide +kernel), List.mem_of_getElem? (i := 1713) (by decide +kernel), List.mem_of_getElem? (i := 1714) (by decide +kernel)⟩
theorem lw_p85 : lw_okq (⟨"ClauseKernelModel", "constantOf", "(I)I"⟩, 86) := ⟨⟨by decide +kernel, by decide +kernel⟩, List.mem_of_getElem? (i := 1277) (by decide +kernel), List.mem_of_getElem? (i := 1717) (by decide +kernel), List.mem_of_getElem? (i := 1718) (by decide +kernel)⟩
theorem lw_p86 : lw_okq (⟨"ClauseKernelModel", "isNatural", "(I)Z"⟩, 86) := ⟨⟨by decide +kernel, by decide +kernel⟩, List.mem_of_getElem? (i := 1277) (by decide +kernel), List.mem_of_getElem? (i := 1721) (by decide +kernel), List.mem_of_getElem? (i := 1722) (by decide +kernel)⟩
theorem lw_p87 : lw_okq (⟨"ClauseKernelModel", "functionOf", "(I)I"⟩, 86) := ⟨⟨by decide +kernel, by decide +kernel⟩, List.mem_of_getElem? (i := 1277) (by decide +kernel), List.mem_of_getElem? (i := 1725) (by decide +kernel), List.mem_of_getElem? (i := 1726) (by decide +kernel)⟩
theorem lw_p88 : lw_okq (⟨"ClauseKernelModel", "manyOf", "(I)I"⟩, 86) := ⟨⟨by decide +kernel, by decide +kernel⟩, List.mem_of_getElem? (i := 1277) (by decide +kernel), List.mem_of_getElem? (i := 1729) (by decide +kernel), List.mem_of_getElem? (i := 1730) (by decide +kernel)⟩
theorem lw_p89 : lw_okq (⟨"ClauseKernelModel", "openCall", "(I)V"⟩, 86) := ⟨⟨by decide +kernel, by decide +kernel⟩, List.mem_of_getElem? (i := 1277) (by decide +kernel), List.mem_of_getElem? (i := 1733) (by decide +kernel), List.mem_of_getElem? (i := 1734) (by decide +kernel)⟩
theorem lw_p90 : lw_okq (⟨"ClauseKernelModel", "callFrom", "(II)I"⟩, 86) := ⟨⟨by decide +kernel, by decide +kernel⟩, List.mem_of_getElem? (i := 1277) (by decide +kernel), List.mem_of_getElem? (i := 1737) (by decide +kernel), List.mem_of_getElem? (i := 1738) (by decide +kernel)⟩
theorem lw_p91 : lw_okq (⟨"ClauseKernelModel", "sizeOf", "(I)I"⟩, 86) := ⟨⟨by decide +kernel, by decide +kernel⟩, List.mem_of_getElem? (i := 1277) (by decide +kernel), List.mem_of_getElem? (i := 1741) (by decide +kernel), List.mem_of_getElem? (i := 1742) (by decide +kernel)⟩
theorem lw_p92 : lw_okq (⟨"ClauseKernelModel", "isCall", "(I)Z"⟩, 86) := ⟨⟨by decide +kernel, by decide +kernel⟩, List.mem_of_getElem? (i := 1277) (by decide +kernel), List.mem_of_getElem? (i := 1745) (by decide +kernel), List.mem_of_getElem? (i := 1746) (by decide +kernel)⟩
theorem lw_p93 : lw_okq (⟨"ClauseKernelModel", "hasOnly", "(II)Z"⟩, 86) := ⟨⟨by decide +kernel, by decide +kernel⟩, List.mem_of_getElem? (i := 1277) (by decide +kernel), List.mem_of_getElem? (i := 1749) (by decide +kernel), List.mem_of_getElem? (i := 1750) (by decide +kernel)⟩
theorem lw_p94 : lw_okq (⟨"ClauseKernelModel", "variablesOf", "(I)V"⟩, 86) := ⟨⟨by decide +kernel, by decide +kernel⟩, List.mem_of_getElem? (i := 1277) (by decide +kernel), List.mem_of_getElem? (i := 1753) (by decide +kernel), List.mem_of_getElem? (i := 1754) (by decide +kernel)⟩
theorem lw_p95 : lw_okq (⟨"ClauseKernelModel", "walkTo", "(I)V"⟩, 86) := ⟨⟨by decide +kernel, by decide +kernel⟩, List.mem_of_getElem? (i := 1277) (by decide +kernel), List.mem_of_getElem? (i := 1757) (by decide +kernel), List.mem_of_getElem? (i := 1758) (by decide +kernel)⟩
def lw_privs_6 : List (MethodName × Nat) := [(⟨"ClauseKernelModel", "isVariable", "(I)Z"⟩, 86), (⟨"ClauseKernelModel", "termOf", "(I)I"⟩, 86), (⟨"ClauseKernelModel", "beginTerm", "(I)Z"⟩, 86), (⟨"ClauseKernelModel", "build", "(I)V"⟩, 86), (⟨"ClauseKernelModel", "isQuoted", "(I)Z"⟩, 86), (⟨"ClauseKernelModel", "constantOf", "(I)I"⟩, 86), (⟨"ClauseKernelModel", "isNatural", "(I)Z"⟩, 86), (⟨"ClauseKernelModel", "functionOf", "(I)I"⟩, 86), (⟨"ClauseKernelModel", "manyOf", "(I)I"⟩, 86), (⟨"ClauseKernelModel", "openCall", "(I)V"⟩, 86), (⟨"ClauseKernelModel", "callFrom", "(II)I"⟩, 86), (⟨"ClauseKernelModel", "sizeOf", "(I)I"⟩, 86), (⟨"ClauseKernelModel", "isCall", "(I)Z"⟩, 86), (⟨"ClauseKernelModel", "hasOnly", "(II)Z"⟩, 86), (⟨"ClauseKernelModel", "variablesOf", "(I)V"⟩, 86), (⟨"ClauseKernelModel", "walkTo", "(I)V"⟩, 86)]
theorem lw_r6 : ∀ q ∈ lw_privs_6, lw_okq q := List.forall_mem_cons.mpr ⟨lw_p80, List.forall_mem_cons.mpr ⟨lw_p81, List.forall_mem_cons.mpr ⟨lw_p82, List.forall_mem_cons.mpr ⟨lw_p83, List.forall_mem_cons.mpr ⟨lw_p84, List.forall_mem_cons.mpr ⟨lw_p85, List.forall_mem_cons.mpr ⟨lw_p86, List.forall_mem_cons.mpr ⟨lw_p87, List.forall_mem_cons.mpr ⟨lw_p88, List.forall_mem_cons.mpr ⟨lw_p89, List.forall_mem_cons.mpr ⟨lw_p90, List.forall_mem_cons.mpr ⟨lw_p91, List.forall_mem_cons.mpr ⟨lw_p92, List.forall_mem_cons.mpr ⟨lw_p93, List.forall_mem_cons.mpr ⟨lw_p94, List.forall_mem_cons.mpr ⟨lw_p95, fun _ h => absurd h List.not_mem_nil⟩⟩⟩⟩⟩⟩⟩⟩⟩⟩⟩⟩⟩⟩⟩⟩
theorem lw_p96 : lw_okq (⟨"ClauseKernelModel", "walkOn", "()I"⟩, 86) := ⟨⟨by decide +kernel, by decide +kernel⟩, List.mem_of_getElem? (i := 1277) (by decide +kernel), List.mem_of_getElem? (i := 1761) (by decide +kernel), List.mem_of_getElem? (i := 1762) (by decide +kernel)⟩
theorem lw_p97 : lw_okq (⟨"ClauseKernelModel", "isIn", "(II)Z"⟩, 86) := ⟨⟨by decide +kernel, by decide +kernel⟩, List.mem_of_getElem? (i := 1277) (by decide +kernel), List.mem_of_getElem? (i := 1765) (by decide +kernel), List.mem_of_getElem? (i := 1766) (by decide +kernel)⟩
theorem lw_p98 : lw_okq (⟨"ClauseKernelModel", "pathsOf", "(I)V"⟩, 86) := ⟨⟨by decide +kernel, by decide +kernel⟩, List.mem_of_getElem? (i := 1277) (by decide +kernel), List.mem_of_getElem? (i := 1769) (by decide +kernel), List.mem_of_getElem? (i := 1770) (by decide +kernel)⟩
theorem lw_p99 : lw_okq (⟨"ClauseKernelModel", "isCallOf", "(II)Z"⟩, 86) := ⟨⟨by decide +kernel, by decide +kernel⟩, List.mem_of_getElem? (i := 1277) (by decide +kernel), List.mem_of_getElem? (i := 1773) (by decide +kernel), List.mem_of_getElem? (i := 1774) (by decide +kernel)⟩
theorem lw_p100 : lw_okq (⟨"ClauseKernelModel", "term", "(II)I"⟩, 86) := ⟨⟨by decide +kernel, by decide +kernel⟩, List.mem_of_getElem? (i := 1277) (by decide +kernel), List.mem_of_getElem? (i := 1777) (by decide +kernel), List.mem_of_getElem? (i := 1778) (by decide +kernel)⟩
theorem lw_p101 : lw_okq (⟨"ClauseKernelModel", "notOf", "(I)I"⟩, 86) := ⟨⟨by decide +kernel, by decide +kernel⟩, List.mem_of_getElem? (i := 1277) (by decide +kernel), List.mem_of_getElem? (i := 1781) (by decide +kernel), List.mem_of_getElem? (i := 1782) (by decide +kernel)⟩
theorem lw_p102 : lw_okq (⟨"ClauseKernelModel", "isConstant", "(I)Z"⟩, 86) := ⟨⟨by decide +kernel, by decide +kernel⟩, List.mem_of_getElem? (i := 1277) (by decide +kernel), List.mem_of_getElem? (i := 1785) (by decide +kernel), List.mem_of_getElem? (i := 1786) (by decide +kernel)⟩
theorem lw_p103 : lw_okq (⟨"ClauseKernelModel", "made", "(IIII)I"⟩, 86) := ⟨⟨by decide +kernel, by decide +kernel⟩, List.mem_of_getElem? (i := 1277) (by decide +kernel), List.mem_of_getElem? (i := 1789) (by decide +kernel), List.mem_of_getElem? (i := 1790) (by decide +kernel)⟩
theorem lw_p104 : lw_okq (⟨"ClauseKernelModel", "fail", "(I)V"⟩, 86) := ⟨⟨by decide +kernel, by decide +kernel⟩, List.mem_of_getElem? (i := 1277) (by decide +kernel), List.mem_of_getElem? (i := 1793) (by decide +kernel), List.mem_of_getElem? (i := 1794) (by decide +kernel)⟩
theorem lw_p105 : lw_okq (⟨"ClauseKernelModel", "areApart", "(I)Z"⟩, 86) := ⟨⟨by decide +kernel, by decide +kernel⟩, List.mem_of_getElem? (i := 1277) (by decide +kernel), List.mem_of_getElem? (i := 1797) (by decide +kernel), List.mem_of_getElem? (i := 1798) (by decide +kernel)⟩
theorem lw_p106 : lw_okq (⟨"ClauseKernelModel", "hasCall", "(II)Z"⟩, 86) := ⟨⟨by decide +kernel, by decide +kernel⟩, List.mem_of_getElem? (i := 1277) (by decide +kernel), List.mem_of_getElem? (i := 1801) (by decide +kernel), List.mem_of_getElem? (i := 1802) (by decide +kernel)⟩
theorem lw_p107 : lw_okq (⟨"ClauseKernelModel", "find", "(II)V"⟩, 86) := ⟨⟨by decide +kernel, by decide +kernel⟩, List.mem_of_getElem? (i := 1277) (by decide +kernel), List.mem_of_getElem? (i := 1805) (by decide +kernel), List.mem_of_getElem? (i := 1806) (by decide +kernel)⟩
theorem lw_p108 : lw_okq (⟨"ClauseKernelModel", "definition", "(I)I"⟩, 86) := ⟨⟨by decide +kernel, by decide +kernel⟩, List.mem_of_getElem? (i := 1277) (by decide +kernel), List.mem_of_getElem? (i := 1809) (by decide +kernel), List.mem_of_getElem? (i := 1810) (by decide +kernel)⟩
theorem lw_p109 : lw_okq (⟨"ClauseKernelModel", "take", "(Z)V"⟩, 86) := ⟨⟨by decide +kernel, by decide +kernel⟩, List.mem_of_getElem? (i := 1277) (by decide +kernel), List.mem_of_getElem? (i := 1813) (by decide +kernel), List.mem_of_getElem? (i := 1814) (by decide +kernel)⟩
theorem lw_p110 : lw_okq (⟨"ClauseKernelModel", "check", "(I)I"⟩, 86) := ⟨⟨by decide +kernel, by decide +kernel⟩, List.mem_of_getElem? (i := 1277) (by decide +kernel), List.mem_of_getElem? (i := 1817) (by decide +kernel), List.mem_of_getElem? (i := 1818) (by decide +kernel)⟩
theorem lw_p111 : lw_okq (⟨"ClauseKernelModel", "theoremOf", "(I)I"⟩, 86) := ⟨⟨by decide +kernel, by decide +kernel⟩, List.mem_of_getElem? (i := 1277) (by decide +kernel), List.mem_of_getElem? (i := 1821) (by decide +kernel), List.mem_of_getElem? (i := 1822) (by decide +kernel)⟩
def lw_privs_7 : List (MethodName × Nat) := [(⟨"ClauseKernelModel", "walkOn", "()I"⟩, 86), (⟨"ClauseKernelModel", "isIn", "(II)Z"⟩, 86), (⟨"ClauseKernelModel", "pathsOf", "(I)V"⟩, 86), (⟨"ClauseKernelModel", "isCallOf", "(II)Z"⟩, 86), (⟨"ClauseKernelModel", "term", "(II)I"⟩, 86), (⟨"ClauseKernelModel", "notOf", "(I)I"⟩, 86), (⟨"ClauseKernelModel", "isConstant", "(I)Z"⟩, 86), (⟨"ClauseKernelModel", "made", "(IIII)I"⟩, 86), (⟨"ClauseKernelModel", "fail", "(I)V"⟩, 86), (⟨"ClauseKernelModel", "areApart", "(I)Z"⟩, 86), (⟨"ClauseKernelModel", "hasCall", "(II)Z"⟩, 86), (⟨"ClauseKernelModel", "find", "(II)V"⟩, 86), (⟨"ClauseKernelModel", "definition", "(I)I"⟩, 86), (⟨"ClauseKernelModel", "take", "(Z)V"⟩, 86), (⟨"ClauseKernelModel", "check", "(I)I"⟩, 86), (⟨"ClauseKernelModel", "theoremOf", "(I)I"⟩, 86)]
theorem lw_r7 : ∀ q ∈ lw_privs_7, lw_okq q := List.forall_mem_cons.mpr ⟨lw_p96, List.forall_mem_cons.mpr ⟨lw_p97, List.forall_mem_cons.mpr ⟨lw_p98, List.forall_mem_cons.mpr ⟨lw_p99, List.forall_mem_cons.mpr ⟨lw_p100, List.forall_mem_cons.mpr ⟨lw_p101, List.forall_mem_cons.mpr ⟨lw_p102, List.forall_mem_cons.mpr ⟨lw_p103, List.forall_mem_cons.mpr ⟨lw_p104, List.forall_mem_cons.mpr ⟨lw_p105, List.forall_mem_cons.mpr ⟨lw_p106, List.forall_mem_cons.mpr ⟨lw_p107, List.forall_mem_cons.mpr ⟨lw_p108, List.forall_mem_cons.mpr ⟨lw_p109, List.forall_mem_cons.mpr ⟨lw_p110, List.forall_mem_cons.mpr ⟨lw_p111, fun _ h => absurd h List.not_mem_nil⟩⟩⟩⟩⟩⟩⟩⟩⟩⟩⟩⟩⟩⟩⟩⟩
theorem lw_p112 : lw_okq (⟨"ClauseKernelModel", "proves", "(I)I"⟩, 86) := ⟨⟨by decide +kernel, by decide +kernel⟩, List.mem_of_getElem? (i := 1277) (by decide +kernel), List.mem_of_getElem? (i := 1825) (by decide +kernel), List.mem_of_getElem? (i := 1826) (by decide +kernel)⟩
theorem lw_p113 : lw_okq (⟨"ClauseKernelModel", "beginProof", "(I)V"⟩, 86) := ⟨⟨by decide +kernel, by decide +kernel⟩, List.mem_of_getElem? (i := 1277) (by decide +kernel), List.mem_of_getElem? (i := 1829) (by decide +kernel), List.mem_of_getElem? (i := 1830) (by decide +kernel)⟩
theorem lw_p114 : lw_okq (⟨"ClauseKernelModel", "isStep", "()Z"⟩, 86) := ⟨⟨by decide +kernel, by decide +kernel⟩, List.mem_of_getElem? (i := 1277) (by decide +kernel), List.mem_of_getElem? (i := 1833) (by decide +kernel), List.mem_of_getElem? (i := 1834) (by decide +kernel)⟩
theorem lw_p115 : lw_okq (⟨"ClauseKernelModel", "isForm", "(I)Z"⟩, 86) := ⟨⟨by decide +kernel, by decide +kernel⟩, List.mem_of_getElem? (i := 1277) (by decide +kernel), List.mem_of_getElem? (i := 1837) (by decide +kernel), List.mem_of_getElem? (i := 1838) (by decide +kernel)⟩
theorem lw_p116 : lw_okq (⟨"ClauseKernelModel", "areTerms", "(III)Z"⟩, 86) := ⟨⟨by decide +kernel, by decide +kernel⟩, List.mem_of_getElem? (i := 1277) (by decide +kernel), List.mem_of_getElem? (i := 1841) (by decide +kernel), List.mem_of_getElem? (i := 1842) (by decide +kernel)⟩
theorem lw_p117 : lw_okq (⟨"ClauseKernelModel", "told", "(I)I"⟩, 86) := ⟨⟨by decide +kernel, by decide +kernel⟩, List.mem_of_getElem? (i := 1277) (by decide +kernel), List.mem_of_getElem? (i := 1845) (by decide +kernel), List.mem_of_getElem? (i := 1846) (by decide +kernel)⟩
theorem lw_p118 : lw_okq (⟨"ClauseKernelModel", "areConstants", "(I)Z"⟩, 86) := ⟨⟨by decide +kernel, by decide +kernel⟩, List.mem_of_getElem? (i := 1277) (by decide +kernel), List.mem_of_getElem? (i := 1849) (by decide +kernel), List.mem_of_getElem? (i := 1850) (by decide +kernel)⟩
theorem lw_p119 : lw_okq (⟨"ClauseKernelModel", "valueOf", "(I)I"⟩, 86) := ⟨⟨by decide +kernel, by decide +kernel⟩, List.mem_of_getElem? (i := 1277) (by decide +kernel), List.mem_of_getElem? (i := 1853) (by decide +kernel), List.mem_of_getElem? (i := 1854) (by decide +kernel)⟩
theorem lw_p120 : lw_okq (⟨"ClauseKernelModel", "constantValue", "(II)I"⟩, 86) := ⟨⟨by decide +kernel, by decide +kernel⟩, List.mem_of_getElem? (i := 1277) (by decide +kernel), List.mem_of_getElem? (i := 1857) (by decide +kernel), List.mem_of_getElem? (i := 1858) (by decide +kernel)⟩
theorem lw_p121 : lw_okq (⟨"ClauseKernelModel", "basic", "(II)I"⟩, 86) := ⟨⟨by decide +kernel, by decide +kernel⟩, List.mem_of_getElem? (i := 1277) (by decide +kernel), List.mem_of_getElem? (i := 1861) (by decide +kernel), List.mem_of_getElem? (i := 1862) (by decide +kernel)⟩
theorem lw_p122 : lw_okq (⟨"ClauseKernelModel", "numberOf", "(I)J"⟩, 86) := ⟨⟨by decide +kernel, by decide +kernel⟩, List.mem_of_getElem? (i := 1277) (by decide +kernel), List.mem_of_getElem? (i := 1868) (by decide +kernel), List.mem_of_getElem? (i := 1869) (by decide +kernel)⟩
theorem lw_p123 : lw_okq (⟨"ClauseKernelModel", "isTermList", "(I)Z"⟩, 86) := ⟨⟨by decide +kernel, by decide +kernel⟩, List.mem_of_getElem? (i := 1277) (by decide +kernel), List.mem_of_getElem? (i := 1872) (by decide +kernel), List.mem_of_getElem? (i := 1873) (by decide +kernel)⟩
theorem lw_p124 : lw_okq (⟨"ClauseKernelModel", "arePairs", "(I)Z"⟩, 86) := ⟨⟨by decide +kernel, by decide +kernel⟩, List.mem_of_getElem? (i := 1277) (by decide +kernel), List.mem_of_getElem? (i := 1876) (by decide +kernel), List.mem_of_getElem? (i := 1877) (by decide +kernel)⟩
theorem lw_p125 : lw_okq (⟨"ClauseKernelModel", "isInduction", "(I)Z"⟩, 86) := ⟨⟨by decide +kernel, by decide +kernel⟩, List.mem_of_getElem? (i := 1277) (by decide +kernel), List.mem_of_getElem? (i := 1880) (by decide +kernel), List.mem_of_getElem? (i := 1881) (by decide +kernel)⟩
theorem lw_p126 : lw_okq (⟨"ClauseKernelModel", "goProof", "()V"⟩, 86) := ⟨⟨by decide +kernel, by decide +kernel⟩, List.mem_of_getElem? (i := 1277) (by decide +kernel), List.mem_of_getElem? (i := 1887) (by decide +kernel), List.mem_of_getElem? (i := 1888) (by decide +kernel)⟩
theorem lw_p127 : lw_okq (⟨"ClauseKernelModel", "partsTo", "(I)I"⟩, 86) := ⟨⟨by decide +kernel, by decide +kernel⟩, List.mem_of_getElem? (i := 1277) (by decide +kernel), List.mem_of_getElem? (i := 1891) (by decide +kernel), List.mem_of_getElem? (i := 1892) (by decide +kernel)⟩
def lw_privs_8 : List (MethodName × Nat) := [(⟨"ClauseKernelModel", "proves", "(I)I"⟩, 86), (⟨"ClauseKernelModel", "beginProof", "(I)V"⟩, 86), (⟨"ClauseKernelModel", "isStep", "()Z"⟩, 86), (⟨"ClauseKernelModel", "isForm", "(I)Z"⟩, 86), (⟨"ClauseKernelModel", "areTerms", "(III)Z"⟩, 86), (⟨"ClauseKernelModel", "told", "(I)I"⟩, 86), (⟨"ClauseKernelModel", "areConstants", "(I)Z"⟩, 86), (⟨"ClauseKernelModel", "valueOf", "(I)I"⟩, 86), (⟨"ClauseKernelModel", "constantValue", "(II)I"⟩, 86), (⟨"ClauseKernelModel", "basic", "(II)I"⟩, 86), (⟨"ClauseKernelModel", "numberOf", "(I)J"⟩, 86), (⟨"ClauseKernelModel", "isTermList", "(I)Z"⟩, 86), (⟨"ClauseKernelModel", "arePairs", "(I)Z"⟩, 86), (⟨"ClauseKernelModel", "isInduction", "(I)Z"⟩, 86), (⟨"ClauseKernelModel", "goProof", "()V"⟩, 86), (⟨"ClauseKernelModel", "partsTo", "(I)I"⟩, 86)]
theorem lw_r8 : ∀ q ∈ lw_privs_8, lw_okq q := List.forall_mem_cons.mpr ⟨lw_p112, List.forall_mem_cons.mpr ⟨lw_p113, List.forall_mem_cons.mpr ⟨lw_p114, List.forall_mem_cons.mpr ⟨lw_p115, List.forall_mem_cons.mpr ⟨lw_p116, List.forall_mem_cons.mpr ⟨lw_p117, List.forall_mem_cons.mpr ⟨lw_p118, List.forall_mem_cons.mpr ⟨lw_p119, List.forall_mem_cons.mpr ⟨lw_p120, List.forall_mem_cons.mpr ⟨lw_p121, List.forall_mem_cons.mpr ⟨lw_p122, List.forall_mem_cons.mpr ⟨lw_p123, List.forall_mem_cons.mpr ⟨lw_p124, List.forall_mem_cons.mpr ⟨lw_p125, List.forall_mem_cons.mpr ⟨lw_p126, List.forall_mem_cons.mpr ⟨lw_p127, fun _ h => absurd h List.not_mem_nil⟩⟩⟩⟩⟩⟩⟩⟩⟩⟩⟩⟩⟩⟩⟩⟩
theorem lw_p128 : lw_okq (⟨"ClauseKernelModel", "concludes", "(I)Z"⟩, 86) := ⟨⟨by decide +kernel, by decide +kernel⟩, List.mem_of_getElem? (i := 1277) (by decide +kernel), List.mem_of_getElem? (i := 1895) (by decide +kernel), List.mem_of_getElem? (i := 1896) (by decide +kernel)⟩
theorem lw_p129 : lw_okq (⟨"ClauseKernelModel", "put", "(I)V"⟩, 86) := ⟨⟨by decide +kernel, by decide +kernel⟩, List.mem_of_getElem? (i := 1277) (by decide +kernel), List.mem_of_getElem? (i := 1899) (by decide +kernel), List.mem_of_getElem? (i := 1900) (by decide +kernel)⟩
theorem lw_p130 : lw_okq (⟨"ClauseKernelModel", "made2", "(III)I"⟩, 86) := ⟨⟨by decide +kernel, by decide +kernel⟩, List.mem_of_getElem? (i := 1277) (by decide +kernel), List.mem_of_getElem? (i := 1903) (by decide +kernel), List.mem_of_getElem? (i := 1904) (by decide +kernel)⟩
theorem lw_p131 : lw_okq (⟨"ClauseKernelModel", "defined", "(I)V"⟩, 86) := ⟨⟨by decide +kernel, by decide +kernel⟩, List.mem_of_getElem? (i := 1277) (by decide +kernel), List.mem_of_getElem? (i := 1907) (by decide +kernel), List.mem_of_getElem? (i := 1908) (by decide +kernel)⟩
theorem lw_p132 : lw_okq (⟨"ClauseKernelModel", "pour", "(II)V"⟩, 86) := ⟨⟨by decide +kernel, by decide +kernel⟩, List.mem_of_getElem? (i := 1277) (by decide +kernel), List.mem_of_getElem? (i := 1911) (by decide +kernel), List.mem_of_getElem? (i := 1912) (by decide +kernel)⟩
theorem lw_p133 : lw_okq (⟨"ClauseKernelModel", "has", "(II)Z"⟩, 86) := ⟨⟨by decide +kernel, by decide +kernel⟩, List.mem_of_getElem? (i := 1277) (by decide +kernel), List.mem_of_getElem? (i := 1915) (by decide +kernel), List.mem_of_getElem? (i := 1916) (by decide +kernel)⟩
theorem lw_p134 : lw_okq (⟨"ClauseKernelModel", "instanced", "(II)Z"⟩, 86) := ⟨⟨by decide +kernel, by decide +kernel⟩, List.mem_of_getElem? (i := 1277) (by decide +kernel), List.mem_of_getElem? (i := 1919) (by decide +kernel), List.mem_of_getElem? (i := 1920) (by decide +kernel)⟩
theorem lw_p135 : lw_okq (⟨"ClauseKernelModel", "instance", "(I)I"⟩, 86) := ⟨⟨by decide +kernel, by decide +kernel⟩, List.mem_of_getElem? (i := 1277) (by decide +kernel), List.mem_of_getElem? (i := 1923) (by decide +kernel), List.mem_of_getElem? (i := 1924) (by decide +kernel)⟩
theorem lw_p136 : lw_okq (⟨"ClauseKernelModel", "anew", "(III)I"⟩, 86) := ⟨⟨by decide +kernel, by decide +kernel⟩, List.mem_of_getElem? (i := 1277) (by decide +kernel), List.mem_of_getElem? (i := 1927) (by decide +kernel), List.mem_of_getElem? (i := 1928) (by decide +kernel)⟩
theorem lw_p137 : lw_okq (⟨"ClauseKernelModel", "beginInstance", "(III)V"⟩, 86) := ⟨⟨by decide +kernel, by decide +kernel⟩, List.mem_of_getElem? (i := 1277) (by decide +kernel), List.mem_of_getElem? (i := 1931) (by decide +kernel), List.mem_of_getElem? (i := 1932) (by decide +kernel)⟩
theorem lw_p138 : lw_okq (⟨"ClauseKernelModel", "substituted", "(I)I"⟩, 86) := ⟨⟨by decide +kernel, by decide +kernel⟩, List.mem_of_getElem? (i := 1277) (by decide +kernel), List.mem_of_getElem? (i := 1935) (by decide +kernel), List.mem_of_getElem? (i := 1936) (by decide +kernel)⟩
theorem lw_p139 : lw_okq (⟨"ClauseKernelModel", "beginsEqual", "(I)Z"⟩, 86) := ⟨⟨by decide +kernel, by decide +kernel⟩, List.mem_of_getElem? (i := 1277) (by decide +kernel), List.mem_of_getElem? (i := 1939) (by decide +kernel), List.mem_of_getElem? (i := 1940) (by decide +kernel)⟩
theorem lw_p140 : lw_okq (⟨"ClauseKernelModel", "replaced", "(I)Z"⟩, 86) := ⟨⟨by decide +kernel, by decide +kernel⟩, List.mem_of_getElem? (i := 1277) (by decide +kernel), List.mem_of_getElem? (i := 1943) (by decide +kernel), List.mem_of_getElem? (i := 1944) (by decide +kernel)⟩
theorem lw_p141 : lw_okq (⟨"ClauseKernelModel", "inducts", "(III)Z"⟩, 86) := ⟨⟨by decide +kernel, by decide +kernel⟩, List.mem_of_getElem? (i := 1277) (by decide +kernel), List.mem_of_getElem? (i := 1947) (by decide +kernel), List.mem_of_getElem? (i := 1948) (by decide +kernel)⟩
theorem lw_p142 : lw_okq (⟨"ClauseKernelModel", "inductionRow", "(IIII)V"⟩, 86) := ⟨⟨by decide +kernel, by decide +kernel⟩, List.mem_of_getElem? (i := 1277) (by decide +kernel), List.mem_of_getElem? (i := 1951) (by decide +kernel), List.mem_of_getElem? (i := 1952) (by decide +kernel)⟩
theorem lw_p143 : lw_okq (⟨"ClauseKernelModel", "takeParameters", "(II)V"⟩, 86) := ⟨⟨by decide +kernel, by decide +kernel⟩, List.mem_of_getElem? (i := 1277) (by decide +kernel), List.mem_of_getElem? (i := 1955) (by decide +kernel), List.mem_of_getElem? (i := 1956) (by decide +kernel)⟩
def lw_privs_9 : List (MethodName × Nat) := [(⟨"ClauseKernelModel", "concludes", "(I)Z"⟩, 86), (⟨"ClauseKernelModel", "put", "(I)V"⟩, 86), (⟨"ClauseKernelModel", "made2", "(III)I"⟩, 86), (⟨"ClauseKernelModel", "defined", "(I)V"⟩, 86), (⟨"ClauseKernelModel", "pour", "(II)V"⟩, 86), (⟨"ClauseKernelModel", "has", "(II)Z"⟩, 86), (⟨"ClauseKernelModel", "instanced", "(II)Z"⟩, 86), (⟨"ClauseKernelModel", "instance", "(I)I"⟩, 86), (⟨"ClauseKernelModel", "anew", "(III)I"⟩, 86), (⟨"ClauseKernelModel", "beginInstance", "(III)V"⟩, 86), (⟨"ClauseKernelModel", "substituted", "(I)I"⟩, 86), (⟨"ClauseKernelModel", "beginsEqual", "(I)Z"⟩, 86), (⟨"ClauseKernelModel", "replaced", "(I)Z"⟩, 86), (⟨"ClauseKernelModel", "inducts", "(III)Z"⟩, 86), (⟨"ClauseKernelModel", "inductionRow", "(IIII)V"⟩, 86), (⟨"ClauseKernelModel", "takeParameters", "(II)V"⟩, 86)]
theorem lw_r9 : ∀ q ∈ lw_privs_9, lw_okq q := List.forall_mem_cons.mpr ⟨lw_p128, List.forall_mem_cons.mpr ⟨lw_p129, List.forall_mem_cons.mpr ⟨lw_p130, List.forall_mem_cons.mpr ⟨lw_p131, List.forall_mem_cons.mpr ⟨lw_p132, List.forall_mem_cons.mpr ⟨lw_p133, List.forall_mem_cons.mpr ⟨lw_p134, List.forall_mem_cons.mpr ⟨lw_p135, List.forall_mem_cons.mpr ⟨lw_p136, List.forall_mem_cons.mpr ⟨lw_p137, List.forall_mem_cons.mpr ⟨lw_p138, List.forall_mem_cons.mpr ⟨lw_p139, List.forall_mem_cons.mpr ⟨lw_p140, List.forall_mem_cons.mpr ⟨lw_p141, List.forall_mem_cons.mpr ⟨lw_p142, List.forall_mem_cons.mpr ⟨lw_p143, fun _ h => absurd h List.not_mem_nil⟩⟩⟩⟩⟩⟩⟩⟩⟩⟩⟩⟩⟩⟩⟩⟩
theorem lw_p144 : lw_okq (⟨"ClauseKernelModel", "bounded", "()V"⟩, 86) := ⟨⟨by decide +kernel, by decide +kernel⟩, List.mem_of_getElem? (i := 1277) (by decide +kernel), List.mem_of_getElem? (i := 1959) (by decide +kernel), List.mem_of_getElem? (i := 1960) (by decide +kernel)⟩
theorem lw_p145 : lw_okq (⟨"ClauseKernelModel", "tellOut", "(I)V"⟩, 86) := ⟨⟨by decide +kernel, by decide +kernel⟩, List.mem_of_getElem? (i := 1277) (by decide +kernel), List.mem_of_getElem? (i := 1963) (by decide +kernel), List.mem_of_getElem? (i := 1964) (by decide +kernel)⟩
theorem lw_p146 : lw_okq (⟨"ClauseKernelModel", "tellObject", "(I)V"⟩, 86) := ⟨⟨by decide +kernel, by decide +kernel⟩, List.mem_of_getElem? (i := 1277) (by decide +kernel), List.mem_of_getElem? (i := 1967) (by decide +kernel), List.mem_of_getElem? (i := 1968) (by decide +kernel)⟩
theorem lw_p147 : lw_okq (⟨"ClauseKernelModel", "later", "(I)V"⟩, 86) := ⟨⟨by decide +kernel, by decide +kernel⟩, List.mem_of_getElem? (i := 1277) (by decide +kernel), List.mem_of_getElem? (i := 1971) (by decide +kernel), List.mem_of_getElem? (i := 1972) (by decide +kernel)⟩
theorem lw_p148 : lw_okq (⟨"ClauseKernelModel", "isFull", "()Z"⟩, 86) := ⟨⟨by decide +kernel, by decide +kernel⟩, List.mem_of_getElem? (i := 1277) (by decide +kernel), List.mem_of_getElem? (i := 1975) (by decide +kernel), List.mem_of_getElem? (i := 1976) (by decide +kernel)⟩
theorem lw_p149 : lw_okq (⟨"ClauseKernelModel", "tellAtom", "(I)V"⟩, 86) := ⟨⟨by decide +kernel, by decide +kernel⟩, List.mem_of_getElem? (i := 1277) (by decide +kernel), List.mem_of_getElem? (i := 1979) (by decide +kernel), List.mem_of_getElem? (i := 1980) (by decide +kernel)⟩
theorem lw_p150 : lw_okq (⟨"ClauseKernelModel", "tellLetter", "(I)V"⟩, 86) := ⟨⟨by decide +kernel, by decide +kernel⟩, List.mem_of_getElem? (i := 1277) (by decide +kernel), List.mem_of_getElem? (i := 1983) (by decide +kernel), List.mem_of_getElem? (i := 1984) (by decide +kernel)⟩
theorem lw_p151 : lw_okq (⟨"ClauseKernelModel", "tellClause", "()V"⟩, 86) := ⟨⟨by decide +kernel, by decide +kernel⟩, List.mem_of_getElem? (i := 1277) (by decide +kernel), List.mem_of_getElem? (i := 1987) (by decide +kernel), List.mem_of_getElem? (i := 1988) (by decide +kernel)⟩
theorem lw_p152 : lw_okq (⟨"ClauseKernelModel", "clauseOf", "(I)I"⟩, 86) := ⟨⟨by decide +kernel, by decide +kernel⟩, List.mem_of_getElem? (i := 1277) (by decide +kernel), List.mem_of_getElem? (i := 1991) (by decide +kernel), List.mem_of_getElem? (i := 1992) (by decide +kernel)⟩
theorem lw_p153 : lw_okq (⟨"ClauseKernelModel", "undo", "(I)I"⟩, 86) := ⟨⟨by decide +kernel, by decide +kernel⟩, List.mem_of_getElem? (i := 1277) (by decide +kernel), List.mem_of_getElem? (i := 1995) (by decide +kernel), List.mem_of_getElem? (i := 1996) (by decide +kernel)⟩
theorem lw_p154 : lw_okq (⟨"ClauseKernelModel", "list4", "(IIII)I"⟩, 86) := ⟨⟨by decide +kernel, by decide +kernel⟩, List.mem_of_getElem? (i := 1277) (by decide +kernel), List.mem_of_getElem? (i := 2023) (by decide +kernel), List.mem_of_getElem? (i := 2024) (by decide +kernel)⟩
theorem lw_p155 : lw_okq (⟨"ClauseKernelModel", "list3", "(III)I"⟩, 86) := ⟨⟨by decide +kernel, by decide +kernel⟩, List.mem_of_getElem? (i := 1277) (by decide +kernel), List.mem_of_getElem? (i := 2027) (by decide +kernel), List.mem_of_getElem? (i := 2028) (by decide +kernel)⟩
def lw_privs_10 : List (MethodName × Nat) := [(⟨"ClauseKernelModel", "bounded", "()V"⟩, 86), (⟨"ClauseKernelModel", "tellOut", "(I)V"⟩, 86), (⟨"ClauseKernelModel", "tellObject", "(I)V"⟩, 86), (⟨"ClauseKernelModel", "later", "(I)V"⟩, 86), (⟨"ClauseKernelModel", "isFull", "()Z"⟩, 86), (⟨"ClauseKernelModel", "tellAtom", "(I)V"⟩, 86), (⟨"ClauseKernelModel", "tellLetter", "(I)V"⟩, 86), (⟨"ClauseKernelModel", "tellClause", "()V"⟩, 86), (⟨"ClauseKernelModel", "clauseOf", "(I)I"⟩, 86), (⟨"ClauseKernelModel", "undo", "(I)I"⟩, 86), (⟨"ClauseKernelModel", "list4", "(IIII)I"⟩, 86), (⟨"ClauseKernelModel", "list3", "(III)I"⟩, 86)]
theorem lw_r10 : ∀ q ∈ lw_privs_10, lw_okq q := List.forall_mem_cons.mpr ⟨lw_p144, List.forall_mem_cons.mpr ⟨lw_p145, List.forall_mem_cons.mpr ⟨lw_p146, List.forall_mem_cons.mpr ⟨lw_p147, List.forall_mem_cons.mpr ⟨lw_p148, List.forall_mem_cons.mpr ⟨lw_p149, List.forall_mem_cons.mpr ⟨lw_p150, List.forall_mem_cons.mpr ⟨lw_p151, List.forall_mem_cons.mpr ⟨lw_p152, List.forall_mem_cons.mpr ⟨lw_p153, List.forall_mem_cons.mpr ⟨lw_p154, List.forall_mem_cons.mpr ⟨lw_p155, fun _ h => absurd h List.not_mem_nil⟩⟩⟩⟩⟩⟩⟩⟩⟩⟩⟩⟩
def lw_privs : List (MethodName × Nat) := lw_privs_1 ++ (lw_privs_2 ++ (lw_privs_3 ++ (lw_privs_4 ++ (lw_privs_5 ++ (lw_privs_6 ++ (lw_privs_7 ++ (lw_privs_8 ++ (lw_privs_9 ++ (lw_privs_10)))))))))
def lw_tbl : List Cond := k2_sels lw_privs ++ tables_1
theorem lw_privs_ok : ∀ q ∈ lw_privs, lw_okq q := by
  show ∀ q ∈ lw_privs_1 ++ (lw_privs_2 ++ (lw_privs_3 ++ (lw_privs_4 ++ (lw_privs_5 ++ (lw_privs_6 ++ (lw_privs_7 ++ (lw_privs_8 ++ (lw_privs_9 ++ (lw_privs_10))))))))), lw_okq q
  exact List.forall_mem_append.mpr ⟨lw_r1, List.forall_mem_append.mpr ⟨lw_r2, List.forall_mem_append.mpr ⟨lw_r3, List.forall_mem_append.mpr ⟨lw_r4, List.forall_mem_append.mpr ⟨lw_r5, List.forall_mem_append.mpr ⟨lw_r6, List.forall_mem_append.mpr ⟨lw_r7, List.forall_mem_append.mpr ⟨lw_r8, List.forall_mem_append.mpr ⟨lw_r9, lw_r10⟩⟩⟩⟩⟩⟩⟩⟩⟩
end
section
/-! THE EXECUTOR, group A: instructions that touch locals and the operand stack alone. A value .ref i is the i-th cell of the picture; 'ad' tells its address. -/
abbrev xx_L : Type := List (Option Value)
def xx_v (ad : Nat → Nat) (v : Value) : Value := match v with
  | .ref a => .ref (ad a)
  | w => w
def xx_kill (x : Option Value) : Option Value := match x with
  | some (.long _) => none
  | some (.double _) => none
  | y => y
def xx_set1 : xx_L → Nat → Value → xx_L
  | [], _, _ => []
  | _ :: l, 0, v => some v :: l
  | x :: l, 1, v => xx_kill x :: xx_set1 l 0 v
  | x :: l, i + 2, v => x :: xx_set1 l (i + 1) v
def xx_set2 (ls : xx_L) (i : Nat) (v : Value) : xx_L := (xx_set1 ls i v).set (i + 1) none
def xx_len (i : Instr) : Nat := match i with
  | .aload _ => 2
  | .astore _ => 2
  | .bipush _ => 2
  | .iload _ => 2
  | .istore _ => 2
  | .lload _ => 2
  | .lstore _ => 2
  | .ldc _ => 2
  | .newarray _ => 2
  | .anewarray _ => 3
  | .checkcast _ => 3
  | .getfield _ => 3
  | .getstatic _ => 3
  | .goto _ => 3
  | .if_acmp _ _ => 3
  | .if_icmp _ _ => 3
  | .ifCond _ _ => 3
  | .ifnonnull _ => 3
  | .ifnull _ => 3
  | .iinc _ _ => 3
  | .instanceof _ => 3
  | .invokespecial _ => 3
  | .invokestatic _ => 3
  | .invokevirtual _ => 3
  | .ldc_w _ => 3
  | .ldc2_w _ => 3
  | .new _ => 3
  | .putfield _ => 3
  | .sipush _ => 3
  | _ => 1
def xx_sw (i : Instr) : Bool := match i with
  | .tableswitch _ _ _ _ => true
  | .lookupswitch _ _ => true
  | _ => false
def xx_dec (cc : ByteArray) (pc : Nat) (i : Instr) : Prop := ∃ len, decode cc pc = .ok (i, len) ∧ (xx_sw i = true ∨ len = xx_len i)
theorem xx_dec1 {cc : ByteArray} {pc : Nat} {i : Instr} (h : xx_dec cc pc i) (hs : xx_sw i = false) : decode cc pc = .ok (i, xx_len i) := by
  obtain ⟨len, h1, h2 | h2⟩ := h
  · rw [hs] at h2
    cases h2
  · rw [h2] at h1
    exact h1
def xa_br (pc : Nat) (off : Int) : Option Nat := match (pc : Int) + off with
  | .ofNat t => some t
  | .negSucc _ => none
abbrev xa_O : Type := Option (Nat × xx_L × List Value)
def xa_jmp (pc : Nat) (off : Int) (ls : xx_L) (st : List Value) : xa_O := match xa_br pc off with
  | some t => some (t, ls, st)
  | none => none
def xa_if (b : Bool) (pc : Nat) (off : Int) (ls : xx_L) (st : List Value) : xa_O := match xa_br pc off with
  | none => none
  | some t => match b with
    | true => some (t, ls, st)
    | false => some (pc + 3, ls, st)
def xa_ci (c : Jvm.ClassFile.Cond) (x y : Int32) : Bool := match c with
  | .eq => decide (x = y)
  | .ne => decide (¬ x = y)
  | .lt => decide (x < y)
  | .ge => decide (y ≤ x)
  | .gt => decide (y < x)
  | .le => decide (x ≤ y)
def xa_ild (j n pc : Nat) (ls : xx_L) (st : List Value) : xa_O := match ls[j]? with
  | some (some (.int x)) => some (pc + n, ls, .int x :: st)
  | _ => none
def xa_lld (j n pc : Nat) (ls : xx_L) (st : List Value) : xa_O := match ls[j]? with
  | some (some (.long x)) => some (pc + n, ls, .long x :: st)
  | _ => none
def xa_ald (j n pc : Nat) (ls : xx_L) (st : List Value) : xa_O := match ls[j]? with
  | some (some (.ref x)) => some (pc + n, ls, .ref x :: st)
  | some (some .null) => some (pc + n, ls, .null :: st)
  | _ => none
def xa_g {α : Type} (b : Bool) (x : Option α) : Option α := match b with
  | true => x
  | false => none
def xa_ist (j n pc : Nat) (ls : xx_L) (st : List Value) : xa_O := match st with
  | .int x :: r => xa_g (Nat.blt j ls.length) (some (pc + n, xx_set1 ls j (.int x), r))
  | _ => none
def xa_lst (j n pc : Nat) (ls : xx_L) (st : List Value) : xa_O := match st with
  | .long x :: r => xa_g (Nat.blt (j + 1) ls.length) (some (pc + n, xx_set2 ls j (.long x), r))
  | _ => none
def xa_ast (j n pc : Nat) (ls : xx_L) (st : List Value) : xa_O := match st with
  | .ref x :: r => xa_g (Nat.blt j ls.length) (some (pc + n, xx_set1 ls j (.ref x), r))
  | .null :: r => xa_g (Nat.blt j ls.length) (some (pc + n, xx_set1 ls j .null, r))
  | _ => none
def xa_inc (j : Nat) (n : Int) (pc : Nat) (ls : xx_L) (st : List Value) : xa_O := match ls[j]? with
  | some (some (.int x)) => some (pc + 3, xx_set1 ls j (.int (x + Int32.ofInt n)), st)
  | _ => none
def xa_ii (pc : Nat) (ls : xx_L) (st : List Value) (f : Int32 → Int32 → Int32) : xa_O := match st with
  | .int y :: .int x :: r => some (pc + 1, ls, .int (f x y) :: r)
  | _ => none
def xa_iid (pc : Nat) (ls : xx_L) (st : List Value) (f : Int32 → Int32 → Int32) : xa_O := match st with
  | .int y :: .int x :: r => xa_g (decide (¬ y = 0)) (some (pc + 1, ls, .int (f x y) :: r))
  | _ => none
def xa_ll (pc : Nat) (ls : xx_L) (st : List Value) (f : Int64 → Int64 → Int64) : xa_O := match st with
  | .long y :: .long x :: r => some (pc + 1, ls, .long (f x y) :: r)
  | _ => none
def xa_lld0 (pc : Nat) (ls : xx_L) (st : List Value) (f : Int64 → Int64 → Int64) : xa_O := match st with
  | .long y :: .long x :: r => xa_g (decide (¬ y = 0)) (some (pc + 1, ls, .long (f x y) :: r))
  | _ => none
def xa_li (pc : Nat) (ls : xx_L) (st : List Value) (f : Int64 → Int32 → Int64) : xa_O := match st with
  | .int y :: .long x :: r => some (pc + 1, ls, .long (f x y) :: r)
  | _ => none
def xa_i (pc : Nat) (ls : xx_L) (st : List Value) (f : Int32 → Int32) : xa_O := match st with
  | .int x :: r => some (pc + 1, ls, .int (f x) :: r)
  | _ => none
def xa_icmp (c : Jvm.ClassFile.Cond) (off : Int) (pc : Nat) (ls : xx_L) (st : List Value) : xa_O := match st with
  | .int y :: .int x :: r => xa_if (xa_ci c x y) pc off ls r
  | _ => none
def xa_ifc (c : Jvm.ClassFile.Cond) (off : Int) (pc : Nat) (ls : xx_L) (st : List Value) : xa_O := match st with
  | .int x :: r => xa_if (xa_ci c x 0) pc off ls r
  | _ => none
def xa_table (d lo hi : Int) (offs : Array Int) (pc : Nat) (ls : xx_L) (st : List Value) : xa_O := match st with
  | .int x :: r => if x.toInt < lo ∨ hi < x.toInt then xa_jmp pc d ls r else match offs[(x.toInt - lo).toNat]? with
    | some off => xa_jmp pc off ls r
    | none => none
  | _ => none
def xa_look (d : Int) (ps : Array (Int × Int)) (pc : Nat) (ls : xx_L) (st : List Value) : xa_O := match st with
  | .int x :: r => xa_g ((ps.toList.zip (ps.toList.drop 1)).all (fun (a, next) => a.1 < next.1)) (xa_jmp pc (Op.lookupswitch.offset ps.toList d x.toInt) ls r)
  | _ => none
def xa_step (i : Instr) (pc : Nat) (ls : xx_L) (st : List Value) : xa_O := match i with
  | .aconst_null => some (pc + 1, ls, .null :: st)
  | .iconst n => some (pc + 1, ls, .int (Int32.ofInt n) :: st)
  | .lconst n => some (pc + 1, ls, .long (Int64.ofNat (n : Nat)) :: st)
  | .bipush n => some (pc + 2, ls, .int (Int8.ofInt n).toInt32 :: st)
  | .sipush n => some (pc + 3, ls, .int (Int16.ofInt n).toInt32 :: st)
  | .iload j => xa_ild j 2 pc ls st
  | .iload_n j => xa_ild j 1 pc ls st
  | .lload j => xa_lld j 2 pc ls st
  | .lload_n j => xa_lld j 1 pc ls st
  | .aload j => xa_ald j 2 pc ls st
  | .aload_n j => xa_ald j 1 pc ls st
  | .istore j => xa_ist j 2 pc ls st
  | .istore_n j => xa_ist j 1 pc ls st
  | .lstore j => xa_lst j 2 pc ls st
  | .lstore_n j => xa_lst j 1 pc ls st
  | .astore j => xa_ast j 2 pc ls st
  | .astore_n j => xa_ast j 1 pc ls st
  | .iinc j n => xa_inc j n pc ls st
  | .iadd => xa_ii pc ls st (fun x y => x + y)
  | .isub => xa_ii pc ls st (fun x y => x - y)
  | .imul => xa_ii pc ls st (fun x y => x * y)
  | .iand => xa_ii pc ls st (fun x y => x &&& y)
  | .ior => xa_ii pc ls st (fun x y => x ||| y)
  | .ixor => xa_ii pc ls st (fun x y => x ^^^ y)
  | .ishl => xa_ii pc ls st (fun x y => x <<< (y &&& 31))
  | .ishr => xa_ii pc ls st (fun x y => x >>> (y &&& 31))
  | .iushr => xa_ii pc ls st (fun x y => (x.toUInt32 >>> (y.toUInt32 &&& Int32.toUInt32 31)).toInt32)
  | .idiv => xa_iid pc ls st (fun x y => x / y)
  | .irem => xa_iid pc ls st (fun x y => x - x / y * y)
  | .ladd => xa_ll pc ls st (fun x y => x + y)
  | .lsub => xa_ll pc ls st (fun x y => x - y)
  | .lmul => xa_ll pc ls st (fun x y => x * y)
  | .land => xa_ll pc ls st (fun x y => x &&& y)
  | .lor => xa_ll pc ls st (fun x y => x ||| y)
  | .lxor => xa_ll pc ls st (fun x y => x ^^^ y)
  | .ldiv => xa_lld0 pc ls st (fun x y => x / y)
  | .lrem => xa_lld0 pc ls st (fun x y => x - x / y * y)
  | .lshl => xa_li pc ls st (fun x y => x <<< (y.toInt64 &&& 63))
  | .lshr => xa_li pc ls st (fun x y => x >>> (y.toInt64 &&& 63))
  | .lushr => xa_li pc ls st (fun x y => (x.toUInt64 >>> (y.toInt64.toUInt64 &&& Int64.toUInt64 63)).toInt64)
  | .ineg => xa_i pc ls st (fun x => -x)
  | .i2b => xa_i pc ls st (fun x => x.toInt8.toInt32)
  | .i2c => xa_i pc ls st (fun x => (x.toUInt32 % 65536).toInt32)
  | .i2s => xa_i pc ls st (fun x => x.toInt16.toInt32)
  | .i2l => match st with
    | .int x :: r => some (pc + 1, ls, .long x.toInt64 :: r)
    | _ => none
  | .l2i => match st with
    | .long x :: r => some (pc + 1, ls, .int x.toInt32 :: r)
    | _ => none
  | .lcmp => match st with
    | .long y :: .long x :: r => some (pc + 1, ls, .int (lg_cmp x y) :: r)
    | _ => none
  | .dup => match st with
    | a :: r => xa_g (Nat.beq a.category 1) (some (pc + 1, ls, a :: a :: r))
    | _ => none
  | .pop => match st with
    | a :: r => xa_g (Nat.beq a.category 1) (some (pc + 1, ls, r))
    | _ => none
  | .dup_x1 => match st with
    | a :: b :: r => xa_g (Nat.beq a.category 1 && Nat.beq b.category 1) (some (pc + 1, ls, a :: b :: a :: r))
    | _ => none
  | .dup_x2 => match st with
    | a :: b :: d :: r => xa_g (Nat.beq a.category 1 && (Nat.beq b.category 1 && Nat.beq d.category 1)) (some (pc + 1, ls, a :: b :: d :: a :: r))
    | _ => none
  | .dup2 => match st with
    | .long x :: r => some (pc + 1, ls, .long x :: .long x :: r)
    | a :: b :: r => xa_g (Nat.beq a.category 1 && Nat.beq b.category 1) (some (pc + 1, ls, a :: b :: a :: b :: r))
    | _ => none
  | .dup2_x1 => match st with
    | .long x :: b :: r => xa_g (Nat.beq b.category 1) (some (pc + 1, ls, .long x :: b :: .long x :: r))
    | _ => none
  | .ifCond c off => xa_ifc c off pc ls st
  | .if_icmp c off => xa_icmp c off pc ls st
  | .ifnull off => match st with
    | .null :: r => xa_jmp pc off ls r
    | .ref _ :: r => some (pc + 3, ls, r)
    | _ => none
  | .ifnonnull off => match st with
    | .null :: r => some (pc + 3, ls, r)
    | .ref _ :: r => xa_jmp pc off ls r
    | _ => none
  | .goto off => xa_jmp pc off ls st
  | .tableswitch d lo hi offs => xa_table d lo hi offs pc ls st
  | .lookupswitch d ps => xa_look d ps pc ls st
  | _ => none
end
section
/-! group A is sound: a step of the executor is a step of the machine -/
theorem xx_v_cat (ad : Nat → Nat) (v : Value) : (xx_v ad v).category = v.category := by cases v <;> rfl
def xx_has (ad : Nat → Nat) (ls : xx_L) (L : Array Slot) : Prop := L.size = ls.length ∧ lv_wf L ∧ ∀ (i : Nat) (v : Value), ls[i]? = some (some v) → L[i]? = some (.val (xx_v ad v))
def xx_prs (ad : Nat → Nat) (ls : xx_L) : List (Nat × Value) := (List.range ls.length).filterMap (fun i => match ls[i]? with
  | some (some v) => some (i, xx_v ad v)
  | _ => none)
theorem xx_prs_mem {ad : Nat → Nat} {ls : xx_L} {q : Nat × Value} : q ∈ xx_prs ad ls ↔ ∃ v, ls[q.1]? = some (some v) ∧ q.2 = xx_v ad v := by
  obtain ⟨i, w⟩ := q
  unfold xx_prs
  rw [List.mem_filterMap]
  constructor
  · rintro ⟨j, hj, h⟩
    split at h
    · rename_i v hv
      cases h
      exact ⟨v, hv, rfl⟩
    · cases h
  · rintro ⟨v, h1, h2⟩
    refine ⟨i, List.mem_range.mpr (List.getElem?_eq_some_iff.mp h1).1, ?_⟩
    dsimp only at h1 h2
    rw [h1, h2]
theorem xx_has_lv {ad : Nat → Nat} {ls : xx_L} {L : Array Slot} (h : xx_has ad ls L) : lv_has L ls.length (xx_prs ad ls) := ⟨h.1, h.2.1, fun q hq => by
  obtain ⟨v, h1, h2⟩ := xx_prs_mem.mp hq
  rw [h2]
  exact h.2.2 q.1 v h1⟩
theorem xx_set1_len (ls : xx_L) (i : Nat) (v : Value) : (xx_set1 ls i v).length = ls.length := by
  induction ls generalizing i with
  | nil => rfl
  | cons x l ih =>
    match i with
    | 0 => rfl
    | 1 => simp [xx_set1, ih]
    | i + 2 => simp [xx_set1, ih]
theorem xx_set1_get {ls : xx_L} {i : Nat} (v : Value) (hi : i < ls.length) (j : Nat) : (xx_set1 ls i v)[j]? = if j = i then some (some v) else if j + 1 = i then ls[j]?.map xx_kill else ls[j]? := by
  induction ls generalizing i j with
  | nil => simp at hi
  | cons x l ih =>
    match i, hi with
    | 0, _ => cases j with
      | zero => simp [xx_set1]
      | succ j => simp [xx_set1]
    | 1, hi => cases j with
      | zero => simp [xx_set1]
      | succ j =>
        have h := ih (i := 0) (by simpa using hi) j
        simp [xx_set1, h]
    | i + 2, hi => cases j with
      | zero => simp [xx_set1]
      | succ j =>
        have h := ih (i := i + 1) (by simp at hi; omega) j
        simp [xx_set1, h]
theorem xx_kill_some {x : Option Value} {w : Value} (h : xx_kill x = some w) : x = some w ∧ w.category = 1 := by
  cases x with
  | none => cases h
  | some v => cases v <;> first | (cases h; exact ⟨rfl, rfl⟩) | cases h
theorem xx_has_set1 {ad : Nat → Nat} {ls : xx_L} {L' : Array Slot} {j : Nat} {v : Value} (hj : j < ls.length)
    (h : lv_has L' ls.length ((j, xx_v ad v) :: (xx_prs ad ls).filter (fun q => !(q.1 == j) && !(q.1 + 1 == j && q.2.category == 2)))) : xx_has ad (xx_set1 ls j v) L' := by
  refine ⟨h.1.trans (xx_set1_len ls j v).symm, h.2.1, fun i w hw => ?_⟩
  rw [xx_set1_get v hj] at hw
  split at hw
  · rename_i e
    subst e
    cases hw
    exact h.2.2 (i, xx_v ad v) List.mem_cons_self
  · rename_i e
    refine h.2.2 (i, xx_v ad w) (List.mem_cons_of_mem _ (List.mem_filter.mpr ?_))
    split at hw
    · rename_i e2
      obtain ⟨x, hx, hk⟩ := Option.map_eq_some_iff.mp hw
      obtain ⟨rfl, hc⟩ := xx_kill_some hk
      exact ⟨xx_prs_mem.mpr ⟨w, hx, rfl⟩, by simp [e, xx_v_cat, hc]⟩
    · rename_i e2
      exact ⟨xx_prs_mem.mpr ⟨w, hw, rfl⟩, by simp [e, e2]⟩
theorem xx_has_set2 {ad : Nat → Nat} {ls : xx_L} {L' : Array Slot} {j : Nat} {v : Value} (hj : j + 1 < ls.length)
    (h : lv_has L' ls.length ((j, xx_v ad v) :: (xx_prs ad ls).filter (fun q => !(q.1 == j) && (!(q.1 == j + 1) && !(q.1 + 1 == j && q.2.category == 2))))) : xx_has ad (xx_set2 ls j v) L' := by
  refine ⟨h.1.trans (by simp [xx_set2, xx_set1_len]), h.2.1, fun i w hw => ?_⟩
  unfold xx_set2 at hw
  rw [List.getElem?_set] at hw
  split at hw
  · rename_i e
    split at hw
    · cases hw
    · cases hw
  · rename_i e0
    rw [xx_set1_get v (Nat.lt_of_succ_lt hj)] at hw
    split at hw
    · rename_i e
      subst e
      cases hw
      exact h.2.2 (i, xx_v ad v) List.mem_cons_self
    · rename_i e
      refine h.2.2 (i, xx_v ad w) (List.mem_cons_of_mem _ (List.mem_filter.mpr ?_))
      have e0' : ¬ i = j + 1 := fun z => e0 z.symm
      split at hw
      · rename_i e2
        obtain ⟨x, hx, hk⟩ := Option.map_eq_some_iff.mp hw
        obtain ⟨rfl, hc⟩ := xx_kill_some hk
        exact ⟨xx_prs_mem.mpr ⟨w, hx, rfl⟩, by simp [e, e0', xx_v_cat, hc]⟩
      · rename_i e2
        exact ⟨xx_prs_mem.mpr ⟨w, hw, rfl⟩, by simp [e, e0', e2]⟩
theorem xa_g_some {α : Type} {b : Bool} {x : Option α} {y : α} (h : xa_g b x = some y) : b = true ∧ x = some y := by
  cases b with
  | true => exact ⟨rfl, h⟩
  | false => cases h
theorem xa_br_some {pc t : Nat} {off : Int} (h : xa_br pc off = some t) : (pc : Int) + off = (t : Int) := by
  unfold xa_br at h
  split at h
  · rename_i a ha
    cases h
    exact ha
  · cases h
theorem xa_jmp_some {pc pc' : Nat} {off : Int} {ls ls' : xx_L} {st st' : List Value} (h : xa_jmp pc off ls st = some (pc', ls', st')) : (pc : Int) + off = (pc' : Int) ∧ ls' = ls ∧ st' = st := by
  unfold xa_jmp at h
  split at h
  · rename_i t ht
    cases h
    exact ⟨xa_br_some ht, rfl, rfl⟩
  · cases h
theorem xa_if_some {b : Bool} {pc pc' : Nat} {off : Int} {ls ls' : xx_L} {st st' : List Value} (h : xa_if b pc off ls st = some (pc', ls', st')) :
    ∃ t : Nat, (pc : Int) + off = (t : Int) ∧ ((b = true ∧ pc' = t) ∨ (b = false ∧ pc' = pc + 3)) ∧ ls' = ls ∧ st' = st := by
  unfold xa_if at h
  split at h
  · cases h
  · rename_i t ht
    refine ⟨t, xa_br_some ht, ?_⟩
    cases b with
    | true => cases h; exact ⟨Or.inl ⟨rfl, rfl⟩, rfl, rfl⟩
    | false => cases h; exact ⟨Or.inr ⟨rfl, rfl⟩, rfl, rfl⟩
section XXA
variable {p : Program} {l : Launch} {e : Env} {R : Room} {s : State} {m : MethodId} {args : Array Value} {below : List Frame} {meth : Method} {c : Code} {H : Heap} {locs : List Loc} {cells slots : Nat} {Q : State → Prop}
variable {cc : ByteArray} {pc pc' : Nat} {ls ls' : xx_L} {st st' : List Value} {L : Array Slot} {ad : Nat → Nat}
theorem xa_ild_ok {j n : Nat} (hs : xa_ild j n pc ls st = some (pc', ls', st')) (row : ∀ x : Int32, L[j]? = some (.val (.int x)) → W p l e R s m args below meth c H locs cells slots Q (F0 m (pc + n) L (.int x :: st.map (xx_v ad))) → W p l e R s m args below meth c H locs cells slots Q (F0 m pc L (st.map (xx_v ad)))) (hL : xx_has ad ls L) (kk : ∀ L1 : Array Slot, xx_has ad ls' L1 → W p l e R s m args below meth c H locs cells slots Q (F0 m pc' L1 (st'.map (xx_v ad)))) : W p l e R s m args below meth c H locs cells slots Q (F0 m pc L (st.map (xx_v ad))) := by
  unfold xa_ild at hs
  split at hs
  · rename_i x hx
    cases hs
    exact row x (hL.2.2 _ _ hx) (kk L hL)
  · cases hs
theorem xa_lld_ok {j n : Nat} (hs : xa_lld j n pc ls st = some (pc', ls', st')) (row : ∀ x : Int64, L[j]? = some (.val (.long x)) → W p l e R s m args below meth c H locs cells slots Q (F0 m (pc + n) L (.long x :: st.map (xx_v ad))) → W p l e R s m args below meth c H locs cells slots Q (F0 m pc L (st.map (xx_v ad)))) (hL : xx_has ad ls L) (kk : ∀ L1 : Array Slot, xx_has ad ls' L1 → W p l e R s m args below meth c H locs cells slots Q (F0 m pc' L1 (st'.map (xx_v ad)))) : W p l e R s m args below meth c H locs cells slots Q (F0 m pc L (st.map (xx_v ad))) := by
  unfold xa_lld at hs
  split at hs
  · rename_i x hx
    cases hs
    exact row x (hL.2.2 _ _ hx) (kk L hL)
  · cases hs
theorem xa_ald_ok {j n : Nat} (hs : xa_ald j n pc ls st = some (pc', ls', st')) (row : ∀ x : Nat, L[j]? = some (.val (.ref x)) → W p l e R s m args below meth c H locs cells slots Q (F0 m (pc + n) L (.ref x :: st.map (xx_v ad))) → W p l e R s m args below meth c H locs cells slots Q (F0 m pc L (st.map (xx_v ad)))) (rowN : L[j]? = some (.val .null) → W p l e R s m args below meth c H locs cells slots Q (F0 m (pc + n) L (.null :: st.map (xx_v ad))) → W p l e R s m args below meth c H locs cells slots Q (F0 m pc L (st.map (xx_v ad)))) (hL : xx_has ad ls L) (kk : ∀ L1 : Array Slot, xx_has ad ls' L1 → W p l e R s m args below meth c H locs cells slots Q (F0 m pc' L1 (st'.map (xx_v ad)))) : W p l e R s m args below meth c H locs cells slots Q (F0 m pc L (st.map (xx_v ad))) := by
  unfold xa_ald at hs
  split at hs
  · rename_i x hx
    cases hs
    exact row (ad x) (hL.2.2 _ _ hx) (kk L hL)
  · rename_i hx
    cases hs
    exact rowN (hL.2.2 _ _ hx) (kk L hL)
  · cases hs
theorem xa_ist_ok {j n : Nat} (hs : xa_ist j n pc ls st = some (pc', ls', st')) (row : ∀ (x : Int32) (rest : List Value), j < ls.length → (∀ L1 : Array Slot, lv_has L1 ls.length ((j, .int x) :: (xx_prs ad ls).filter (fun q => !(q.1 == j) && !(q.1 + 1 == j && q.2.category == 2))) → W p l e R s m args below meth c H locs cells slots Q (F0 m (pc + n) L1 rest)) → W p l e R s m args below meth c H locs cells slots Q (F0 m pc L (.int x :: rest))) (hL : xx_has ad ls L) (kk : ∀ L1 : Array Slot, xx_has ad ls' L1 → W p l e R s m args below meth c H locs cells slots Q (F0 m pc' L1 (st'.map (xx_v ad)))) : W p l e R s m args below meth c H locs cells slots Q (F0 m pc L (st.map (xx_v ad))) := by
  unfold xa_ist at hs
  split at hs
  · rename_i x r
    obtain ⟨hj, hs⟩ := xa_g_some hs
    have hj : j < ls.length := by simpa [Nat.blt_eq] using hj
    cases hs
    exact row x _ hj (fun L1 h => kk L1 (xx_has_set1 (v := .int x) hj h))
  · cases hs
theorem xa_lst_ok {j n : Nat} (hs : xa_lst j n pc ls st = some (pc', ls', st')) (row : ∀ (x : Int64) (rest : List Value), j + 1 < ls.length → (∀ L1 : Array Slot, lv_has L1 ls.length ((j, .long x) :: (xx_prs ad ls).filter (fun q => !(q.1 == j) && (!(q.1 == j + 1) && !(q.1 + 1 == j && q.2.category == 2)))) → W p l e R s m args below meth c H locs cells slots Q (F0 m (pc + n) L1 rest)) → W p l e R s m args below meth c H locs cells slots Q (F0 m pc L (.long x :: rest))) (hL : xx_has ad ls L) (kk : ∀ L1 : Array Slot, xx_has ad ls' L1 → W p l e R s m args below meth c H locs cells slots Q (F0 m pc' L1 (st'.map (xx_v ad)))) : W p l e R s m args below meth c H locs cells slots Q (F0 m pc L (st.map (xx_v ad))) := by
  unfold xa_lst at hs
  split at hs
  · rename_i x r
    obtain ⟨hj, hs⟩ := xa_g_some hs
    have hj : j + 1 < ls.length := by simpa [Nat.blt_eq] using hj
    cases hs
    exact row x _ hj (fun L1 h => kk L1 (xx_has_set2 (v := .long x) hj h))
  · cases hs
theorem xa_ast_ok {j n : Nat} (hs : xa_ast j n pc ls st = some (pc', ls', st')) (row : ∀ (x : Nat) (rest : List Value), j < ls.length → (∀ L1 : Array Slot, lv_has L1 ls.length ((j, .ref x) :: (xx_prs ad ls).filter (fun q => !(q.1 == j) && !(q.1 + 1 == j && q.2.category == 2))) → W p l e R s m args below meth c H locs cells slots Q (F0 m (pc + n) L1 rest)) → W p l e R s m args below meth c H locs cells slots Q (F0 m pc L (.ref x :: rest))) (rowN : ∀ (rest : List Value), j < ls.length → (∀ L1 : Array Slot, lv_has L1 ls.length ((j, .null) :: (xx_prs ad ls).filter (fun q => !(q.1 == j) && !(q.1 + 1 == j && q.2.category == 2))) → W p l e R s m args below meth c H locs cells slots Q (F0 m (pc + n) L1 rest)) → W p l e R s m args below meth c H locs cells slots Q (F0 m pc L (.null :: rest))) (hL : xx_has ad ls L) (kk : ∀ L1 : Array Slot, xx_has ad ls' L1 → W p l e R s m args below meth c H locs cells slots Q (F0 m pc' L1 (st'.map (xx_v ad)))) : W p l e R s m args below meth c H locs cells slots Q (F0 m pc L (st.map (xx_v ad))) := by
  unfold xa_ast at hs
  split at hs
  · rename_i x r
    obtain ⟨hj, hs⟩ := xa_g_some hs
    have hj : j < ls.length := by simpa [Nat.blt_eq] using hj
    cases hs
    exact row (ad x) _ hj (fun L1 h => kk L1 (xx_has_set1 (v := .ref x) hj h))
  · rename_i r
    obtain ⟨hj, hs⟩ := xa_g_some hs
    have hj : j < ls.length := by simpa [Nat.blt_eq] using hj
    cases hs
    exact rowN _ hj (fun L1 h => kk L1 (xx_has_set1 (v := .null) hj h))
  · cases hs
theorem xa_inc_ok {j : Nat} {n : Int} (hexec : p.tables.exec = Jvm.exec) (hb : c.code = cc) (hdg : decode cc pc = .ok (.iinc j n, 3)) (hs : xa_inc j n pc ls st = some (pc', ls', st')) (hL : xx_has ad ls L) (kk : ∀ L1 : Array Slot, xx_has ad ls' L1 → W p l e R s m args below meth c H locs cells slots Q (F0 m pc' L1 (st'.map (xx_v ad)))) : W p l e R s m args below meth c H locs cells slots Q (F0 m pc L (st.map (xx_v ad))) := by
  unfold xa_inc at hs
  split at hs
  · rename_i x hx
    cases hs
    have hj : j < ls.length := (List.getElem?_eq_some_iff.mp hx).1
    obtain ⟨k, hk⟩ := List.getElem?_of_mem (xx_prs_mem (q := (j, .int x)).mpr ⟨.int x, hx, rfl⟩)
    exact lv_iinc hexec hb hdg (xx_has_lv hL) hk rfl hj rfl (fun L1 h => kk L1 (xx_has_set1 (v := .int (x + Int32.ofInt n)) hj h))
  · cases hs
theorem xa_ii_ok {f : Int32 → Int32 → Int32} (hs : xa_ii pc ls st f = some (pc', ls', st')) (row : ∀ (x y : Int32) (rest : List Value), W p l e R s m args below meth c H locs cells slots Q (F0 m (pc + 1) L (.int (f x y) :: rest)) → W p l e R s m args below meth c H locs cells slots Q (F0 m pc L (.int y :: .int x :: rest))) (hL : xx_has ad ls L) (kk : ∀ L1 : Array Slot, xx_has ad ls' L1 → W p l e R s m args below meth c H locs cells slots Q (F0 m pc' L1 (st'.map (xx_v ad)))) : W p l e R s m args below meth c H locs cells slots Q (F0 m pc L (st.map (xx_v ad))) := by
  unfold xa_ii at hs
  split at hs
  · rename_i y x r
    cases hs
    exact row x y (r.map (xx_v ad)) (kk L hL)
  · cases hs
theorem xa_iid_ok {f : Int32 → Int32 → Int32} (hs : xa_iid pc ls st f = some (pc', ls', st')) (row : ∀ (x y : Int32) (rest : List Value), ¬ y = 0 → W p l e R s m args below meth c H locs cells slots Q (F0 m (pc + 1) L (.int (f x y) :: rest)) → W p l e R s m args below meth c H locs cells slots Q (F0 m pc L (.int y :: .int x :: rest))) (hL : xx_has ad ls L) (kk : ∀ L1 : Array Slot, xx_has ad ls' L1 → W p l e R s m args below meth c H locs cells slots Q (F0 m pc' L1 (st'.map (xx_v ad)))) : W p l e R s m args below meth c H locs cells slots Q (F0 m pc L (st.map (xx_v ad))) := by
  unfold xa_iid at hs
  split at hs
  · rename_i y x r
    obtain ⟨h0, hs⟩ := xa_g_some hs
    have h0 : ¬ y = 0 := of_decide_eq_true h0
    cases hs
    exact row x y (r.map (xx_v ad)) h0 (kk L hL)
  · cases hs
theorem xa_ll_ok {f : Int64 → Int64 → Int64} (hs : xa_ll pc ls st f = some (pc', ls', st')) (row : ∀ (x y : Int64) (rest : List Value), W p l e R s m args below meth c H locs cells slots Q (F0 m (pc + 1) L (.long (f x y) :: rest)) → W p l e R s m args below meth c H locs cells slots Q (F0 m pc L (.long y :: .long x :: rest))) (hL : xx_has ad ls L) (kk : ∀ L1 : Array Slot, xx_has ad ls' L1 → W p l e R s m args below meth c H locs cells slots Q (F0 m pc' L1 (st'.map (xx_v ad)))) : W p l e R s m args below meth c H locs cells slots Q (F0 m pc L (st.map (xx_v ad))) := by
  unfold xa_ll at hs
  split at hs
  · rename_i y x r
    cases hs
    exact row x y (r.map (xx_v ad)) (kk L hL)
  · cases hs
theorem xa_lld0_ok {f : Int64 → Int64 → Int64} (hs : xa_lld0 pc ls st f = some (pc', ls', st')) (row : ∀ (x y : Int64) (rest : List Value), ¬ y = 0 → W p l e R s m args below meth c H locs cells slots Q (F0 m (pc + 1) L (.long (f x y) :: rest)) → W p l e R s m args below meth c H locs cells slots Q (F0 m pc L (.long y :: .long x :: rest))) (hL : xx_has ad ls L) (kk : ∀ L1 : Array Slot, xx_has ad ls' L1 → W p l e R s m args below meth c H locs cells slots Q (F0 m pc' L1 (st'.map (xx_v ad)))) : W p l e R s m args below meth c H locs cells slots Q (F0 m pc L (st.map (xx_v ad))) := by
  unfold xa_lld0 at hs
  split at hs
  · rename_i y x r
    obtain ⟨h0, hs⟩ := xa_g_some hs
    have h0 : ¬ y = 0 := of_decide_eq_true h0
    cases hs
    exact row x y (r.map (xx_v ad)) h0 (kk L hL)
  · cases hs
theorem xa_li_ok {f : Int64 → Int32 → Int64} (hs : xa_li pc ls st f = some (pc', ls', st')) (row : ∀ (x : Int64) (y : Int32) (rest : List Value), W p l e R s m args below meth c H locs cells slots Q (F0 m (pc + 1) L (.long (f x y) :: rest)) → W p l e R s m args below meth c H locs cells slots Q (F0 m pc L (.int y :: .long x :: rest))) (hL : xx_has ad ls L) (kk : ∀ L1 : Array Slot, xx_has ad ls' L1 → W p l e R s m args below meth c H locs cells slots Q (F0 m pc' L1 (st'.map (xx_v ad)))) : W p l e R s m args below meth c H locs cells slots Q (F0 m pc L (st.map (xx_v ad))) := by
  unfold xa_li at hs
  split at hs
  · rename_i y x r
    cases hs
    exact row x y (r.map (xx_v ad)) (kk L hL)
  · cases hs
theorem xa_i_ok {f : Int32 → Int32} (hs : xa_i pc ls st f = some (pc', ls', st')) (row : ∀ (x : Int32) (rest : List Value), W p l e R s m args below meth c H locs cells slots Q (F0 m (pc + 1) L (.int (f x) :: rest)) → W p l e R s m args below meth c H locs cells slots Q (F0 m pc L (.int x :: rest))) (hL : xx_has ad ls L) (kk : ∀ L1 : Array Slot, xx_has ad ls' L1 → W p l e R s m args below meth c H locs cells slots Q (F0 m pc' L1 (st'.map (xx_v ad)))) : W p l e R s m args below meth c H locs cells slots Q (F0 m pc L (st.map (xx_v ad))) := by
  unfold xa_i at hs
  split at hs
  · rename_i x r
    cases hs
    exact row x (r.map (xx_v ad)) (kk L hL)
  · cases hs
theorem xa_two {P : Prop} [Decidable P] {t : Nat} {rest : List Value} (h : (decide P = true ∧ pc' = t) ∨ (decide P = false ∧ pc' = pc + 3)) (k : W p l e R s m args below meth c H locs cells slots Q (F0 m pc' L rest)) : (P → W p l e R s m args below meth c H locs cells slots Q (F0 m t L rest)) ∧ (¬ P → W p l e R s m args below meth c H locs cells slots Q (F0 m (pc + 3) L rest)) := by
  rcases h with ⟨h1, h2⟩ | ⟨h1, h2⟩
  · subst h2
    exact ⟨fun _ => k, fun h => absurd (of_decide_eq_true h1) h⟩
  · subst h2
    exact ⟨fun h => absurd h (of_decide_eq_false h1), fun _ => k⟩
theorem xa_icmp_ok {c0 : Jvm.ClassFile.Cond} {off : Int} (hexec : p.tables.exec = Jvm.exec) (hb : c.code = cc) (hdg : decode cc pc = .ok (.if_icmp c0 off, 3)) (hs : xa_icmp c0 off pc ls st = some (pc', ls', st')) (hL : xx_has ad ls L) (kk : ∀ L1 : Array Slot, xx_has ad ls' L1 → W p l e R s m args below meth c H locs cells slots Q (F0 m pc' L1 (st'.map (xx_v ad)))) : W p l e R s m args below meth c H locs cells slots Q (F0 m pc L (st.map (xx_v ad))) := by
  unfold xa_icmp at hs
  split at hs
  · rename_i y x r
    obtain ⟨t, ht, hc, rfl, rfl⟩ := xa_if_some hs
    have k := kk L hL
    cases c0 with
    | eq => exact lv_icmp_eq hexec hb hdg ht (xa_two hc k).1 (xa_two hc k).2
    | ne => exact lv_icmp_ne hexec hb hdg ht (xa_two hc k).1 (fun h => (xa_two hc k).2 (fun z => z h))
    | lt => exact lv_icmp_lt hexec hb hdg ht (xa_two hc k).1 (xa_two hc k).2
    | ge => exact lv_icmp_ge hexec hb hdg ht (xa_two hc k).1 (xa_two hc k).2
    | gt => exact lv_icmp_gt hexec hb hdg ht (xa_two hc k).1 (xa_two hc k).2
    | le => exact lv_icmp_le hexec hb hdg ht (xa_two hc k).1 (xa_two hc k).2
  · cases hs
theorem xa_ifc_ok {c0 : Jvm.ClassFile.Cond} {off : Int} (hexec : p.tables.exec = Jvm.exec) (hb : c.code = cc) (hdg : decode cc pc = .ok (.ifCond c0 off, 3)) (hs : xa_ifc c0 off pc ls st = some (pc', ls', st')) (hL : xx_has ad ls L) (kk : ∀ L1 : Array Slot, xx_has ad ls' L1 → W p l e R s m args below meth c H locs cells slots Q (F0 m pc' L1 (st'.map (xx_v ad)))) : W p l e R s m args below meth c H locs cells slots Q (F0 m pc L (st.map (xx_v ad))) := by
  unfold xa_ifc at hs
  split at hs
  · rename_i x r
    obtain ⟨t, ht, hc, rfl, rfl⟩ := xa_if_some hs
    have k := kk L hL
    cases c0 with
    | eq => exact lv_if_eq hexec hb hdg ht (xa_two hc k).1 (xa_two hc k).2
    | ne => exact lv_if_ne hexec hb hdg ht (xa_two hc k).1 (fun h => (xa_two hc k).2 (fun z => z h))
    | lt => exact lv_if_lt hexec hb hdg ht (xa_two hc k).1 (xa_two hc k).2
    | ge => exact lv_if_ge hexec hb hdg ht (xa_two hc k).1 (xa_two hc k).2
    | gt => exact lv_if_gt hexec hb hdg ht (xa_two hc k).1 (xa_two hc k).2
    | le => exact lv_if_le hexec hb hdg ht (xa_two hc k).1 (xa_two hc k).2
  · cases hs
theorem xa_table_ok {d lo hi : Int} {offs : Array Int} (hexec : p.tables.exec = Jvm.exec) (hb : c.code = cc) {len : Nat} (hdg : decode cc pc = .ok (.tableswitch d lo hi offs, len)) (hs : xa_table d lo hi offs pc ls st = some (pc', ls', st')) (hL : xx_has ad ls L) (kk : ∀ L1 : Array Slot, xx_has ad ls' L1 → W p l e R s m args below meth c H locs cells slots Q (F0 m pc' L1 (st'.map (xx_v ad)))) : W p l e R s m args below meth c H locs cells slots Q (F0 m pc L (st.map (xx_v ad))) := by
  unfold xa_table at hs
  split at hs
  · rename_i x r
    split at hs
    · rename_i h
      obtain ⟨ht, rfl, rfl⟩ := xa_jmp_some hs
      exact lv_tableOut hexec hb hdg h ht (kk L hL)
    · rename_i h
      split at hs
      · rename_i off ho
        obtain ⟨ht, rfl, rfl⟩ := xa_jmp_some hs
        exact lv_tableIn hexec hb hdg (fun z => h (Or.inl z)) (fun z => h (Or.inr z)) ho ht (kk L hL)
      · cases hs
  · cases hs
theorem xa_look_ok {d : Int} {ps : Array (Int × Int)} (hexec : p.tables.exec = Jvm.exec) (hb : c.code = cc) {len : Nat} (hdg : decode cc pc = .ok (.lookupswitch d ps, len)) (hs : xa_look d ps pc ls st = some (pc', ls', st')) (hL : xx_has ad ls L) (kk : ∀ L1 : Array Slot, xx_has ad ls' L1 → W p l e R s m args below meth c H locs cells slots Q (F0 m pc' L1 (st'.map (xx_v ad)))) : W p l e R s m args below meth c H locs cells slots Q (F0 m pc L (st.map (xx_v ad))) := by
  unfold xa_look at hs
  split at hs
  · rename_i x r
    obtain ⟨hp, hs⟩ := xa_g_some hs
    obtain ⟨ht, rfl, rfl⟩ := xa_jmp_some hs
    exact lv_lookup hexec hb hdg hp rfl ht (kk L hL)
  · cases hs
set_option maxHeartbeats 4000000 in
theorem xa_sound {i : Instr} (hexec : p.tables.exec = Jvm.exec) (hb : c.code = cc) (hdg : xx_dec cc pc i) (hs : xa_step i pc ls st = some (pc', ls', st')) (hL : xx_has ad ls L) (kk : ∀ L1 : Array Slot, xx_has ad ls' L1 → W p l e R s m args below meth c H locs cells slots Q (F0 m pc' L1 (st'.map (xx_v ad)))) : W p l e R s m args below meth c H locs cells slots Q (F0 m pc L (st.map (xx_v ad))) := by
  cases i with
  | aconst_null => cases hs; exact lv_null hexec hb (xx_dec1 hdg rfl) (kk L hL)
  | iconst n => cases hs; exact lv_iconst hexec hb (xx_dec1 hdg rfl) rfl (kk L hL)
  | lconst n => cases hs; exact lv_lconst hexec hb (xx_dec1 hdg rfl) rfl (kk L hL)
  | bipush n => cases hs; exact lv_bipush hexec hb (xx_dec1 hdg rfl) rfl (kk L hL)
  | sipush n => cases hs; exact lv_sipush hexec hb (xx_dec1 hdg rfl) rfl (kk L hL)
  | iload j => exact xa_ild_ok hs (fun x h k => lv_iload hexec hb (xx_dec1 hdg rfl) h k) hL kk
  | iload_n j => exact xa_ild_ok hs (fun x h k => lv_iload_n hexec hb (xx_dec1 hdg rfl) rfl h k) hL kk
  | lload j => exact xa_lld_ok hs (fun x h k => lv_lload hexec hb (xx_dec1 hdg rfl) h k) hL kk
  | lload_n j => exact xa_lld_ok hs (fun x h k => lv_lload_n hexec hb (xx_dec1 hdg rfl) rfl h k) hL kk
  | aload j => exact xa_ald_ok hs (fun x h k => lv_aload hexec hb (xx_dec1 hdg rfl) h k) (fun h k => lv_aloadN hexec hb (xx_dec1 hdg rfl) h k) hL kk
  | aload_n j => exact xa_ald_ok hs (fun x h k => lv_aload_n hexec hb (xx_dec1 hdg rfl) rfl h k) (fun h k => lv_aload_nN hexec hb (xx_dec1 hdg rfl) rfl h k) hL kk
  | istore j => exact xa_ist_ok hs (fun x rest hj k => lv_istore hexec hb (xx_dec1 hdg rfl) (xx_has_lv hL) hj rfl k) hL kk
  | istore_n j => exact xa_ist_ok hs (fun x rest hj k => lv_istore_n hexec hb (xx_dec1 hdg rfl) rfl (xx_has_lv hL) hj rfl k) hL kk
  | lstore j => exact xa_lst_ok hs (fun x rest hj k => lv_lstore hexec hb (xx_dec1 hdg rfl) (xx_has_lv hL) hj rfl k) hL kk
  | lstore_n j => exact xa_lst_ok hs (fun x rest hj k => lv_lstore_n hexec hb (xx_dec1 hdg rfl) rfl (xx_has_lv hL) hj rfl k) hL kk
  | astore j => exact xa_ast_ok hs (fun x rest hj k => lv_astore hexec hb (xx_dec1 hdg rfl) (xx_has_lv hL) hj rfl k) (fun rest hj k => lv_astoreN hexec hb (xx_dec1 hdg rfl) (xx_has_lv hL) hj rfl k) hL kk
  | astore_n j => exact xa_ast_ok hs (fun x rest hj k => lv_astore_n hexec hb (xx_dec1 hdg rfl) rfl (xx_has_lv hL) hj rfl k) (fun rest hj k => lv_astore_nN hexec hb (xx_dec1 hdg rfl) rfl (xx_has_lv hL) hj rfl k) hL kk
  | iinc j n => exact xa_inc_ok hexec hb (xx_dec1 hdg rfl) hs hL kk
  | iadd => exact xa_ii_ok hs (fun x y rest k => lv_iadd hexec hb (xx_dec1 hdg rfl) k) hL kk
  | isub => exact xa_ii_ok hs (fun x y rest k => lv_isub hexec hb (xx_dec1 hdg rfl) k) hL kk
  | imul => exact xa_ii_ok hs (fun x y rest k => lv_imul hexec hb (xx_dec1 hdg rfl) k) hL kk
  | iand => exact xa_ii_ok hs (fun x y rest k => lv_iand hexec hb (xx_dec1 hdg rfl) k) hL kk
  | ior => exact xa_ii_ok hs (fun x y rest k => lv_ior hexec hb (xx_dec1 hdg rfl) k) hL kk
  | ixor => exact xa_ii_ok hs (fun x y rest k => lv_ixor hexec hb (xx_dec1 hdg rfl) k) hL kk
  | ishl => exact xa_ii_ok hs (fun x y rest k => lv_ishl hexec hb (xx_dec1 hdg rfl) k) hL kk
  | ishr => exact xa_ii_ok hs (fun x y rest k => lv_ishr hexec hb (xx_dec1 hdg rfl) k) hL kk
  | iushr => exact xa_ii_ok hs (fun x y rest k => lv_iushr hexec hb (xx_dec1 hdg rfl) rfl k) hL kk
  | idiv => exact xa_iid_ok hs (fun x y rest h0 k => lv_idiv hexec hb (xx_dec1 hdg rfl) h0 k) hL kk
  | irem => exact xa_iid_ok hs (fun x y rest h0 k => lv_irem hexec hb (xx_dec1 hdg rfl) h0 k) hL kk
  | ladd => exact xa_ll_ok hs (fun x y rest k => lv_ladd hexec hb (xx_dec1 hdg rfl) k) hL kk
  | lsub => exact xa_ll_ok hs (fun x y rest k => lv_lsub hexec hb (xx_dec1 hdg rfl) k) hL kk
  | lmul => exact xa_ll_ok hs (fun x y rest k => lv_lmul hexec hb (xx_dec1 hdg rfl) k) hL kk
  | land => exact xa_ll_ok hs (fun x y rest k => lv_land hexec hb (xx_dec1 hdg rfl) k) hL kk
  | lor => exact xa_ll_ok hs (fun x y rest k => lv_lor hexec hb (xx_dec1 hdg rfl) k) hL kk
  | lxor => exact xa_ll_ok hs (fun x y rest k => lv_lxor hexec hb (xx_dec1 hdg rfl) k) hL kk
  | ldiv => exact xa_lld0_ok hs (fun x y rest h0 k => lv_ldiv hexec hb (xx_dec1 hdg rfl) h0 k) hL kk
  | lrem => exact xa_lld0_ok hs (fun x y rest h0 k => lv_lrem hexec hb (xx_dec1 hdg rfl) h0 k) hL kk
  | lshl => exact xa_li_ok hs (fun x y rest k => lv_lshl hexec hb (xx_dec1 hdg rfl) rfl k) hL kk
  | lshr => exact xa_li_ok hs (fun x y rest k => lv_lshr hexec hb (xx_dec1 hdg rfl) rfl k) hL kk
  | lushr => exact xa_li_ok hs (fun x y rest k => lv_lushr hexec hb (xx_dec1 hdg rfl) rfl k) hL kk
  | ineg => exact xa_i_ok hs (fun x rest k => lv_ineg hexec hb (xx_dec1 hdg rfl) k) hL kk
  | i2b => exact xa_i_ok hs (fun x rest k => lv_i2b hexec hb (xx_dec1 hdg rfl) rfl k) hL kk
  | i2c => exact xa_i_ok hs (fun x rest k => lv_i2c hexec hb (xx_dec1 hdg rfl) rfl k) hL kk
  | i2s => exact xa_i_ok hs (fun x rest k => lv_i2s hexec hb (xx_dec1 hdg rfl) rfl k) hL kk
  | i2l => 
    simp only [xa_step] at hs
    split at hs
    · cases hs; exact lv_i2l hexec hb (xx_dec1 hdg rfl) rfl (kk L hL)
    · cases hs
  | l2i => 
    simp only [xa_step] at hs
    split at hs
    · cases hs; exact lv_l2i hexec hb (xx_dec1 hdg rfl) rfl (kk L hL)
    · cases hs
  | lcmp => 
    simp only [xa_step] at hs
    split at hs
    · cases hs; exact W.lcmp hexec hb (xx_dec1 hdg rfl) (kk L hL)
    · cases hs
  | dup => 
    simp only [xa_step] at hs
    split at hs
    · obtain ⟨h1, hs⟩ := xa_g_some hs
      cases hs
      exact lv_dup hexec hb (xx_dec1 hdg rfl) (by rw [xx_v_cat]; exact Nat.eq_of_beq_eq_true h1) (kk L hL)
    · cases hs
  | pop => 
    simp only [xa_step] at hs
    split at hs
    · obtain ⟨h1, hs⟩ := xa_g_some hs
      cases hs
      exact lv_pop hexec hb (xx_dec1 hdg rfl) (by rw [xx_v_cat]; exact Nat.eq_of_beq_eq_true h1) (kk L hL)
    · cases hs
  | dup_x1 => 
    simp only [xa_step] at hs
    split at hs
    · obtain ⟨h1, hs⟩ := xa_g_some hs
      rw [Bool.and_eq_true] at h1
      cases hs
      exact lv_dup_x1 hexec hb (xx_dec1 hdg rfl) (by rw [xx_v_cat]; exact Nat.eq_of_beq_eq_true h1.1) (by rw [xx_v_cat]; exact Nat.eq_of_beq_eq_true h1.2) (kk L hL)
    · cases hs
  | dup_x2 => 
    simp only [xa_step] at hs
    split at hs
    · obtain ⟨h1, hs⟩ := xa_g_some hs
      rw [Bool.and_eq_true, Bool.and_eq_true] at h1
      cases hs
      exact lv_dup_x2 hexec hb (xx_dec1 hdg rfl) (by rw [xx_v_cat]; exact Nat.eq_of_beq_eq_true h1.1) (by rw [xx_v_cat]; exact Nat.eq_of_beq_eq_true h1.2.1) (by rw [xx_v_cat]; exact Nat.eq_of_beq_eq_true h1.2.2) (kk L hL)
    · cases hs
  | dup2 => 
    simp only [xa_step] at hs
    split at hs
    · cases hs; exact lv_dup2_2 hexec hb (xx_dec1 hdg rfl) rfl (kk L hL)
    · obtain ⟨h1, hs⟩ := xa_g_some hs
      rw [Bool.and_eq_true] at h1
      cases hs
      exact lv_dup2_11 hexec hb (xx_dec1 hdg rfl) (by rw [xx_v_cat]; exact Nat.eq_of_beq_eq_true h1.1) (by rw [xx_v_cat]; exact Nat.eq_of_beq_eq_true h1.2) (kk L hL)
    · cases hs
  | dup2_x1 => 
    simp only [xa_step] at hs
    split at hs
    · obtain ⟨h1, hs⟩ := xa_g_some hs
      cases hs
      exact lv_dup2_x1_2 hexec hb (xx_dec1 hdg rfl) rfl (by rw [xx_v_cat]; exact Nat.eq_of_beq_eq_true h1) (kk L hL)
    · cases hs
  | ifCond c0 off => exact xa_ifc_ok hexec hb (xx_dec1 hdg rfl) hs hL kk
  | if_icmp c0 off => exact xa_icmp_ok hexec hb (xx_dec1 hdg rfl) hs hL kk
  | ifnull off => 
    simp only [xa_step] at hs
    split at hs
    · obtain ⟨ht, rfl, rfl⟩ := xa_jmp_some hs
      exact lv_ifnullN hexec hb (xx_dec1 hdg rfl) ht (kk L hL)
    · cases hs; exact lv_ifnull hexec hb (xx_dec1 hdg rfl) (kk L hL)
    · cases hs
  | ifnonnull off => 
    simp only [xa_step] at hs
    split at hs
    · cases hs; exact lv_ifnonnullN hexec hb (xx_dec1 hdg rfl) (kk L hL)
    · obtain ⟨ht, rfl, rfl⟩ := xa_jmp_some hs
      exact lv_ifnonnull hexec hb (xx_dec1 hdg rfl) ht (kk L hL)
    · cases hs
  | goto off => obtain ⟨ht, rfl, rfl⟩ := xa_jmp_some hs; exact lv_goto hexec hb (xx_dec1 hdg rfl) ht (kk L hL)
  | tableswitch d lo hi offs => obtain ⟨len, hd, -⟩ := hdg; exact xa_table_ok hexec hb hd hs hL kk
  | lookupswitch d ps => obtain ⟨len, hd, -⟩ := hdg; exact xa_look_ok hexec hb hd hs hL kk
  | _ => cases hs
end XXA
end
section
/-! THE EXECUTOR, groups B and C: the heap, calls, returns. A picture of the heap is a list of cells: an array (component type, contents) or an object (number of its class, fields). -/
abbrev xx_E : Type := (FieldType × List Value) ⊕ (Nat × List Value)
abbrev xx_H : Type := List xx_E
/-- the tables of a program that the heap steps read: constants, fields' places, fields' types and finality, statics, classes made, their new fields, components of arrays made, casts, stores into arrays of references, the number of old cells -/
abbrev xx_T : Type := (Nat → Nat → Option Value) × (Nat → Nat → Nat → Option Nat) × (Nat → Nat → Option (FieldType × Bool)) × (Nat → Nat → Option Value) × (Nat → Nat → Option Nat) × (Nat → List Value) × (Nat → Nat → Option FieldType) × (Nat → Nat → Nat → Bool) × (String → Nat → Bool) × Nat
/-- the calls: static, special: the method, how many arguments (the receiver counted); virtual: how many arguments, and the method for each class of the receiver; Object.<init>, which does nothing -/
abbrev xx_C : Type := (Nat → Nat → Option (Nat × Nat)) × (Nat → Nat → Option (Nat × Nat)) × (Nat → Nat → Option (Nat × List (Nat × Nat))) × (Nat → Nat → Bool)
/-- a program: code, the class of a method, its locals, is it a constructor, what it returns; the tables; the calls -/
abbrev xx_P : Type := (Nat → Nat → Option Instr) × (Nat → Nat) × (Nat → Nat) × (Nat → Bool) × (Nat → Option FieldType) × xx_T × xx_C
def xp_code (P : xx_P) : Nat → Nat → Option Instr := P.1
def xp_own (P : xx_P) : Nat → Nat := P.2.1
def xp_nl (P : xx_P) : Nat → Nat := P.2.2.1
def xp_ini (P : xx_P) : Nat → Bool := P.2.2.2.1
def xp_ret (P : xx_P) : Nat → Option FieldType := P.2.2.2.2.1
def xp_con (P : xx_P) : Nat → Nat → Option Value := P.2.2.2.2.2.1.1
def xp_fld (P : xx_P) : Nat → Nat → Nat → Option Nat := P.2.2.2.2.2.1.2.1
def xp_fty (P : xx_P) : Nat → Nat → Option (FieldType × Bool) := P.2.2.2.2.2.1.2.2.1
def xp_sta (P : xx_P) : Nat → Nat → Option Value := P.2.2.2.2.2.1.2.2.2.1
def xp_cls (P : xx_P) : Nat → Nat → Option Nat := P.2.2.2.2.2.1.2.2.2.2.1
def xp_dfl (P : xx_P) : Nat → List Value := P.2.2.2.2.2.1.2.2.2.2.2.1
def xp_acl (P : xx_P) : Nat → Nat → Option FieldType := P.2.2.2.2.2.1.2.2.2.2.2.2.1
def xp_cst (P : xx_P) : Nat → Nat → Nat → Bool := P.2.2.2.2.2.1.2.2.2.2.2.2.2.1
def xp_asg (P : xx_P) : String → Nat → Bool := P.2.2.2.2.2.1.2.2.2.2.2.2.2.2.1
def xp_n0 (P : xx_P) : Nat := P.2.2.2.2.2.1.2.2.2.2.2.2.2.2.2
def xp_smt (P : xx_P) : Nat → Nat → Option (Nat × Nat) := P.2.2.2.2.2.2.1
def xp_pmt (P : xx_P) : Nat → Nat → Option (Nat × Nat) := P.2.2.2.2.2.2.2.1
def xp_vmt (P : xx_P) : Nat → Nat → Option (Nat × List (Nat × Nat)) := P.2.2.2.2.2.2.2.2.1
def xp_obi (P : xx_P) : Nat → Nat → Bool := P.2.2.2.2.2.2.2.2.2
/-- may a variable of this type hold this value as it is -/
def xx_fit (ty : FieldType) (v : Value) : Bool := match ty, v with
  | .int, .int _ => true
  | .long, .long _ => true
  | .boolean, .int x => x == 0 || x == 1
  | .byte, .int x => decide (x.toInt8.toInt32 = x) && fits .byte (.int x)
  | .char, .int x => decide (x.toUInt32.toUInt16.toUInt32.toInt32 = x) && fits .char (.int x)
  | .object _, .null => true
  | .object _, .ref _ => true
  | .array _, .null => true
  | .array _, .ref _ => true
  | _, _ => false
abbrev xb_O : Type := Option (Nat × List Value × xx_H)
def xb_push (n pc : Nat) (v : Option Value) (st : List Value) (h : xx_H) : xb_O := match v with
  | some v => some (pc + n, v :: st, h)
  | none => none
def xb_get (P : xx_P) (o idx pc : Nat) (st : List Value) (h : xx_H) : xb_O := match st with
  | .ref a :: r => match h[a]? with
    | some (.inr (ci, fs)) => match xp_fld P o idx ci with
      | some j => match fs[j]? with
        | some v => some (pc + 3, v :: r, h)
        | none => none
      | none => none
    | _ => none
  | _ => none
def xb_put (P : xx_P) (k o idx pc : Nat) (st : List Value) (h : xx_H) : xb_O := match st with
  | v :: .ref a :: r => match h[a]? with
    | some (.inr (ci, fs)) => match xp_fld P o idx ci with
      | some j => match xp_fty P ci j with
        | some (ty, fin) => xa_g (Nat.ble (xp_n0 P) a && (Nat.blt j fs.length && (xx_fit ty v && (!fin || xp_ini P k)))) (some (pc + 3, r, h.set a (.inr (ci, fs.set j v))))
        | none => none
      | none => none
    | _ => none
  | _ => none
/-- an index of an array -/
def xb_ix (j : Int32) (n : Nat) : Option Nat := if j < 0 then none else if j.toNatClampNeg < n then some j.toNatClampNeg else none
def xb_ald (ty : FieldType) (pc : Nat) (st : List Value) (h : xx_H) : xb_O := match st with
  | .int j :: .ref a :: r => match h[a]? with
    | some (.inl (ty', vs)) => match decide (ty' = ty) with
      | true => match xb_ix j vs.length with
        | some n => xb_push 1 pc vs[n]? r h
        | none => none
      | false => none
    | _ => none
  | _ => none
def xb_ast (P : xx_P) (ty : FieldType) (pc : Nat) (st : List Value) (h : xx_H) : xb_O := match st with
  | v :: .int j :: .ref a :: r => match h[a]? with
    | some (.inl (ty', vs)) => match decide (ty' = ty) && (Nat.ble (xp_n0 P) a && xx_fit ty v) with
      | true => match xb_ix j vs.length with
        | some n => some (pc + 1, r, h.set a (.inl (ty', vs.set n v)))
        | none => none
      | false => none
    | _ => none
  | _ => none
def xb_len (pc : Nat) (st : List Value) (h : xx_H) : xb_O := match st with
  | .ref a :: r => match h[a]? with
    | some (.inl (_, vs)) => some (pc + 1, .int (Int32.ofNat vs.length) :: r, h)
    | _ => none
  | _ => none
def xb_new (P : xx_P) (o idx pc : Nat) (st : List Value) (h : xx_H) : xb_O := match xp_cls P o idx with
  | some ci => some (pc + 3, .ref h.length :: st, h ++ [.inr (ci, xp_dfl P ci)])
  | none => none
def xb_newa (ty : FieldType) (pc : Nat) (st : List Value) (h : xx_H) : xb_O := match st with
  | .int j :: r => match decide (¬ j < 0) && Nat.ble (j.toNatClampNeg * 8) 536870912 with
    | true => some (pc + 2, .ref h.length :: r, h ++ [.inl (ty, List.replicate j.toNatClampNeg (defaultValue ty))])
    | false => none
  | _ => none
def xb_ty (t : ArrayType) : Option FieldType := match t with
  | .int => some .int
  | .long => some .long
  | .boolean => some .boolean
  | _ => none
/-- a step on the heap: the next place, stack and heap -/
def xb_step (P : xx_P) (k : Nat) (i : Instr) (pc : Nat) (st : List Value) (h : xx_H) : xb_O := match i with
  | .ldc n => match xp_con P (xp_own P k) n with
    | some (.int x) => some (pc + 2, .int x :: st, h)
    | some (.ref x) => some (pc + 2, .ref x :: st, h)
    | _ => none
  | .ldc_w n => match xp_con P (xp_own P k) n with
    | some (.int x) => some (pc + 3, .int x :: st, h)
    | _ => none
  | .ldc2_w n => match xp_con P (xp_own P k) n with
    | some (.long x) => some (pc + 3, .long x :: st, h)
    | _ => none
  | .getstatic n => xb_push 3 pc (xp_sta P (xp_own P k) n) st h
  | .getfield n => xb_get P (xp_own P k) n pc st h
  | .putfield n => xb_put P k (xp_own P k) n pc st h
  | .iaload => xb_ald .int pc st h
  | .laload => xb_ald .long pc st h
  | .baload => xb_ald .byte pc st h
  | .iastore => xb_ast P .int pc st h
  | .lastore => xb_ast P .long pc st h
  | .arraylength => xb_len pc st h
  | .new n => xb_new P (xp_own P k) n pc st h
  | .newarray t => match xb_ty t with
    | some ty => xb_newa ty pc st h
    | none => none
  | _ => none
/-- a call: the method, its arguments, what is left of the stack -/
abbrev xc_O : Type := Option (Nat × List Value × List Value)
def xc_cut (m n : Nat) (st : List Value) : xc_O := match Nat.ble n st.length && Nat.ble (((st.drop n).map Value.category).sum) 8 with
  | true => some (m, (st.take n).reverse, st.drop n)
  | false => none
def xc_recv (n : Nat) (st : List Value) (h : xx_H) : Option Nat := match st[n - 1]? with
  | some (.ref a) => match h[a]? with
    | some (.inr (ci, _)) => some ci
    | _ => none
  | _ => none
def xc_step (P : xx_P) (k : Nat) (i : Instr) (st : List Value) (h : xx_H) : xc_O := match i with
  | .invokestatic n => match xp_smt P (xp_own P k) n with
    | some (m, q) => xc_cut m q st
    | none => none
  | .invokespecial n => match xp_pmt P (xp_own P k) n with
    | some (m, q) => match st[q - 1]? with
      | some (.ref _) => xc_cut m q st
      | _ => none
    | none => none
  | .invokevirtual n => match xp_vmt P (xp_own P k) n with
    | some (q, l) => match xc_recv q st h with
      | some ci => match l.lookup ci with
        | some m => xc_cut m q st
        | none => none
      | none => none
    | none => none
  | _ => none
/-- Object.<init> -/
def xo_step (P : xx_P) (k : Nat) (i : Instr) (st : List Value) : Option (List Value) := match i with
  | .invokespecial n => match xp_obi P (xp_own P k) n with
    | true => match st with
      | .ref _ :: r => match Nat.ble ((r.map Value.category).sum) 8 with
        | true => some r
        | false => none
      | _ => none
    | false => none
  | _ => none
def xx_isref (t : FieldType) : Bool := match t with
  | .object _ => true
  | .array _ => true
  | _ => false
def xr_step (ret : Option FieldType) (i : Instr) (st : List Value) : Option (Option Value) := match i with
  | .return_ => match ret, st with
    | none, [] => some none
    | _, _ => none
  | .ireturn => match ret, st with
    | some ty, [.int x] => xa_g (xx_fit ty (.int x)) (some (some (.int x)))
    | _, _ => none
  | .lreturn => match ret, st with
    | some .long, [.long x] => some (some (.long x))
    | _, _ => none
  | .areturn => match ret, st with
    | some ty, [.ref x] => xa_g (xx_isref ty) (some (some (.ref x)))
    | some ty, [.null] => xa_g (xx_isref ty) (some (some .null))
    | _, _ => none
  | _ => none
abbrev xx_R : Type := Option (Option Value × xx_H)
/-- a method's run from a place on, its calls by Rc; f: so many instructions at most -/
def xx_run (P : xx_P) (Rc : Nat → List Value → xx_H → xx_R) : Nat → Nat → Nat → xx_L → List Value → xx_H → xx_R
  | 0, _, _, _, _, _ => none
  | f + 1, k, pc, ls, st, h => match xp_code P k pc with
    | none => none
    | some i => match xa_step i pc ls st with
      | some (pc', ls', st') => xx_run P Rc f k pc' ls' st' h
      | none => match xb_step P k i pc st h with
        | some (pc', st', h') => xx_run P Rc f k pc' ls st' h'
        | none => match xo_step P k i st with
          | some st' => xx_run P Rc f k (pc + 3) ls st' h
          | none => match xc_step P k i st h with
            | some (m, as, r) => match Rc m as h with
              | some (v, h') => xx_run P Rc f k (pc + 3) ls (v.toList ++ r) h'
              | none => none
            | none => match xr_step (xp_ret P k) i st with
              | some v => some (v, h)
              | none => none
/-- the locals at a method's entry -/
def xx_args : List Value → xx_L
  | [] => []
  | .long x :: l => some (.long x) :: none :: xx_args l
  | .double x :: l => some (.double x) :: none :: xx_args l
  | v :: l => some v :: xx_args l
def xx_ent (n : Nat) (as : List Value) : xx_L := xx_args as ++ List.replicate (n - (xx_args as).length) none
/-- a call: d frames deep at most, F instructions a method at most -/
def xx_call (P : xx_P) (F : Nat) : Nat → Nat → List Value → xx_H → xx_R
  | 0, _, _, _ => none
  | d + 1, k, as, h => match Nat.ble (xx_args as).length (xp_nl P k) with
    | true => xx_run P (xx_call P F d) F k 0 (xx_ent (xp_nl P k) as) [] h
    | false => none
end
section
/-! group B is sound. The heap shows a picture: old cells (places below n0) lie below 'base' and are only read; new cells lie at base + place. -/
def xx_at (D : va_G) (cl ol : List vw_C) (ad : Nat → Nat) (base : Nat) (U : State) (a : Nat) (e : xx_E) (H : Heap) : Prop := match e with
  | .inl q => ∃ cell : Cell, H[a]? = some cell ∧ U.isArrayOf cell q.1 ∧ cell.vm ≠ .unknown ∧ q.2.length ≤ cell.slots.size ∧ cell.slots.size.toInt32 = Int32.ofNat q.2.length ∧ ∀ (j : Nat) (v : Value), q.2[j]? = some v → cell.slots[j]? = some (xx_v ad v)
  | .inr o => (cl.length + ol.length ≤ o.1 ∧ a < base) ∨ (cl.length ≤ o.1 ∧ a < base ∧ ∃ r : vw_C, ol[o.1 - cl.length]? = some r ∧ (∃ cell : Cell, H[a]? = some cell ∧ cell.vm.isStatics = false ∧ U.vm.findClass r.1 = some cell.cls) ∧ ∀ (j : Nat) (v : Value), o.2[j]? = some v → va_OF (r.2.1 j).1 (r.2.1 j).2.1 (r.2.1 j).2.2.1 (xx_v ad v) a (fun q => base ≤ q) U H) ∨ ∃ r : vw_C, cl[o.1]? = some r ∧ o.2.length = r.2.2 ∧ ∃ cell : Cell, H[a]? = some cell ∧ cell.cls = D.1 o.1 ∧ cell.vm ≠ .unknown ∧ cell.vm.isStatics = false ∧ (base ≤ a → cell.vm = .none) ∧ ∀ k, k < r.2.2 → cell.slots[D.2 o.1 k]? = some (vp_V (o.2.map (xx_v ad)) k)
def xx_ad (n0 base : Nat) (ad : Nat → Nat) : Prop := (∀ i, n0 ≤ i → ad i = base + (i - n0)) ∧ ∀ i, i < n0 → ad i < base
def xx_rep (D : va_G) (cl ol : List vw_C) (ad : Nat → Nat) (n0 base : Nat) (U : State) (h : xx_H) (H : Heap) : Prop := n0 ≤ h.length ∧ H.size = base + (h.length - n0) ∧ ∀ (i : Nat) (e : xx_E), h[i]? = some e → xx_at D cl ol ad base U (ad i) e H
theorem xx_at_kept {D : va_G} {cl ol : List vw_C} {ad : Nat → Nat} {base : Nat} {U : State} {a : Nat} {e : xx_E} {H H1 : Heap} (h : xx_at D cl ol ad base U a e H) (hq : H1[a]? = H[a]?) : xx_at D cl ol ad base U a e H1 := by
  cases e with
  | inl q =>
    obtain ⟨cell, h1, h2⟩ := h
    exact ⟨cell, hq.trans h1, h2⟩
  | inr o =>
    rcases h with h | ⟨h1, h2, r, h3, ⟨cell, h4, h5⟩, h6⟩ | ⟨r, h1, h2, cell, h3, h4⟩
    · exact Or.inl h
    · refine Or.inr (Or.inl ⟨h1, h2, r, h3, ⟨cell, hq.trans h4, h5⟩, fun j v hv => ?_⟩)
      obtain ⟨cf, k, i, f, c1, g1, g2, g3, g4⟩ := h6 j v hv
      exact ⟨cf, k, i, f, c1, g1, g2, hq.trans g3, g4⟩
    · exact Or.inr (Or.inr ⟨r, h1, h2, cell, hq.trans h3, h4⟩)
theorem xx_at_moved {D : va_G} {cl ol : List vw_C} {ad : Nat → Nat} {base : Nat} {u U : State} {a : Nat} {e : xx_E} {H : Heap} (hvm : u.vm.Alike U.vm) (h : xx_at D cl ol ad base u a e H) : xx_at D cl ol ad base U a e H := by
  cases e with
  | inl q =>
    obtain ⟨cell, h1, h2, h3⟩ := h
    exact ⟨cell, h1, State.isArrayOf_alike hvm h2, h3⟩
  | inr o =>
    rcases h with h | ⟨h1, h2, r, h3, ⟨cell, h4, h5, h7⟩, h6⟩ | h
    · exact Or.inl h
    · exact Or.inr (Or.inl ⟨h1, h2, r, h3, ⟨cell, h4, h5, by rw [hvm.findClass]; exact h7⟩, fun j v hv => va_OF.moved hvm (h6 j v hv)⟩)
    · exact Or.inr (Or.inr h)
theorem xx_rep_moved {D : va_G} {cl ol : List vw_C} {ad : Nat → Nat} {n0 base : Nat} {u U : State} {h : xx_H} {H : Heap} (hvm : u.vm.Alike U.vm) (r : xx_rep D cl ol ad n0 base u h H) : xx_rep D cl ol ad n0 base U h H := ⟨r.1, r.2.1, fun i e q => xx_at_moved hvm (r.2.2 i e q)⟩
theorem xx_ad_ne {n0 base : Nat} {ad : Nat → Nat} (ha : xx_ad n0 base ad) {i j : Nat} (hi : n0 ≤ i) (hij : j ≠ i) : ad j ≠ ad i := by
  intro e
  by_cases hj : n0 ≤ j
  · rw [ha.1 i hi, ha.1 j hj] at e
    omega
  · have h1 := ha.2 j (Nat.lt_of_not_le hj)
    rw [e, ha.1 i hi] at h1
    omega
/-- a cell of our own is written -/
theorem xx_rep_set {D : va_G} {cl ol : List vw_C} {ad : Nat → Nat} {n0 base : Nat} {U : State} {h : xx_H} {H H1 : Heap} {i : Nat} {e : xx_E} (ha : xx_ad n0 base ad) (r : xx_rep D cl ol ad n0 base U h H) (hi : n0 ≤ i) (hz : H1.size = H.size) (ho : ∀ q : Nat, q ≠ ad i → H1[q]? = H[q]?) (he : xx_at D cl ol ad base U (ad i) e H1) : xx_rep D cl ol ad n0 base U (h.set i e) H1 := by
  refine ⟨by rw [List.length_set]; exact r.1, by rw [List.length_set, hz]; exact r.2.1, fun j x hj => ?_⟩
  rw [List.getElem?_set] at hj
  split at hj
  · rename_i e1
    subst e1
    split at hj
    · cases hj
      exact he
    · cases hj
  · rename_i e1
    exact xx_at_kept (r.2.2 j x hj) (ho _ (xx_ad_ne ha hi (fun z => e1 z.symm)))
/-- a new cell -/
theorem xx_rep_new {D : va_G} {cl ol : List vw_C} {ad : Nat → Nat} {n0 base : Nat} {U : State} {h : xx_H} {H H1 : Heap} {e : xx_E} (ha : xx_ad n0 base ad) (r : xx_rep D cl ol ad n0 base U h H) (hz : H1.size = H.size + 1) (ho : ∀ q : Nat, q < H.size → H1[q]? = H[q]?) (he : xx_at D cl ol ad base U H.size e H1) : xx_rep D cl ol ad n0 base U (h ++ [e]) H1 := by
  have h1 := r.1
  have h2 := r.2.1
  have hn : ad h.length = H.size := by rw [ha.1 _ h1, h2]
  refine ⟨by simp; omega, by rw [hz, h2]; simp; omega, fun j x hj => ?_⟩
  by_cases hjl : j < h.length
  · rw [List.getElem?_append_left hjl] at hj
    refine xx_at_kept (r.2.2 j x hj) (ho _ ?_)
    by_cases hj0 : n0 ≤ j
    · rw [ha.1 j hj0, h2]; omega
    · have := ha.2 j (Nat.lt_of_not_le hj0); omega
  · have hje : j = h.length := by
      have := (List.getElem?_eq_some_iff.mp hj).1
      simp at this
      omega
    subst hje
    simp at hj
    subst hj
    rw [hn]
    exact he
/-- how many slots a picture's cells have -/
def xx_sz1 (e : xx_E) : Nat := match e with
  | .inl q => q.2.length
  | .inr o => o.2.length
def xx_sz (h : xx_H) : Nat := (h.map xx_sz1).sum
theorem xx_sz_app (h : xx_H) (e : xx_E) : xx_sz (h ++ [e]) = xx_sz h + xx_sz1 e := by simp [xx_sz]
theorem xx_sz_set {h : xx_H} {i : Nat} {e e1 : xx_E} (hi : h[i]? = some e1) (hs : xx_sz1 e = xx_sz1 e1) : xx_sz (h.set i e) = xx_sz h := by
  induction h generalizing i with
  | nil => rfl
  | cons x l ih =>
    cases i with
    | zero =>
      simp at hi
      subst hi
      simp [xx_sz, hs]
    | succ i =>
      simp at hi
      have := ih hi
      simp [xx_sz] at this ⊢
      exact this
/-- what a method's walk keeps: the picture, the old cells, nothing old among the places written -/
def xx_S (D : va_G) (cl ol : List vw_C) (ad : Nat → Nat) (n0 base : Nat) (s : State) (h : xx_H) (H : Heap) (locs : List Loc) : Prop := xx_rep D cl ol ad n0 base s h H ∧ (∀ q : Nat, q < base → H[q]? = s.heap[q]?) ∧ (∀ l ∈ locs, base ≤ l.base) ∧ s.heap.size ≤ H.size
theorem xx_fit_ok {ad : Nat → Nat} {ty : FieldType} {v : Value} (h : xx_fit ty v = true) : narrow ty (xx_v ad v) = xx_v ad v ∧ fits ty (xx_v ad v) = true := by
  cases ty <;> cases v <;> first
    | (simp [xx_fit] at h; done)
    | exact ⟨rfl, rfl⟩
    | skip
  · rename_i x
    have h : (decide (x.toInt8.toInt32 = x) && fits .byte (.int x)) = true := h
    rw [Bool.and_eq_true] at h
    exact ⟨congrArg Value.int (of_decide_eq_true h.1), h.2⟩
  · rename_i x
    have h : (decide (x.toUInt32.toUInt16.toUInt32.toInt32 = x) && fits .char (.int x)) = true := h
    rw [Bool.and_eq_true] at h
    exact ⟨congrArg Value.int (of_decide_eq_true h.1), h.2⟩
  · rename_i x
    have h : (x == 0 || x == 1) = true := h
    rw [Bool.or_eq_true, beq_iff_eq, beq_iff_eq] at h
    rcases h with rfl | rfl
    · exact ⟨rfl, rfl⟩
    · exact ⟨rfl, rfl⟩
/-- what the tables must say of a field: its link, plain or of a nest mate -/
def xx_lnk (Ts nst : List Cond) (on : String) (idx : Nat) (ref : String) (t : String × String × String × Bool) : Prop := Cond.fieldLink on idx ref t.2.1 t.2.2.1 ∈ Ts ∨ ∃ host, Cond.fieldLinkNest on idx ref t.2.1 t.2.2.1 host ∈ nst
def xx_okf (P : xx_P) (Ts nst : List Cond) (cl ol : List vw_C) (on : Nat → String) : Prop := ∀ o idx ci j, xp_fld P o idx ci = some j → (cl.length ≤ ci → ∃ (r : vw_C) (ref : String), ol[ci - cl.length]? = some r ∧ (ref = (r.2.1 j).1 ∨ Cond.sameField ref (r.2.1 j).1 (r.2.1 j).2.1 (r.2.1 j).2.2.1 ∈ Ts) ∧ Cond.fieldLink (on o) idx ref (r.2.1 j).2.1 (r.2.1 j).2.2.1 ∈ Ts) ∧ (ci < cl.length → ∃ (C : String) (T : u_T) (N : Nat) (ref : String), cl[ci]? = some (C, T, N) ∧ j < N ∧ (∀ w ∈ u_ws C T N, w ∈ Ts) ∧ (ref = (T j).1 ∨ Cond.sameField ref (T j).1 (T j).2.1 (T j).2.2.1 ∈ Ts) ∧ xx_lnk Ts nst (on o) idx ref (T j))
/-- what the tables must say of a class's fields: types, names apart, which are final; a final one is put by its own class's constructor, by a plain link -/
def xx_okt (P : xx_P) (cl : List vw_C) : Prop := ∀ ci j ty fin, xp_fty P ci j = some (ty, fin) → ∃ (C : String) (T : u_T) (N : Nat) (ts : Nat → FieldType), cl[ci]? = some (C, T, N) ∧ (∀ k, k < N → parseFieldDescriptor (T k).2.2.1 = some (ts k)) ∧ (∀ a, a < N → ∀ b, b < N → a ≠ b → (T a).2.1 ≠ (T b).2.1) ∧ parseFieldDescriptor (T j).2.2.1 = some ty ∧ (T j).2.2.2 = fin
def xx_okp (P : xx_P) (cl : List vw_C) (Ts : List Cond) (on : Nat → String) : Prop := ∀ o idx ci j ty, xp_fld P o idx ci = some j → xp_fty P ci j = some (ty, true) → ∃ (C : String) (T : u_T) (N : Nat), cl[ci]? = some (C, T, N) ∧ (T j).1 = on o ∧ Cond.fieldLink (on o) idx (on o) (T j).2.1 (T j).2.2.1 ∈ Ts
section XXB
variable {p : Program} {l : Launch} {e : Env} {R : Room} {s : State} {m : MethodId} {args : Array Value} {below : List Frame} {meth : Method} {c : Code} {H : Heap} {locs : List Loc} {cells slots : Nat} {Q : State → Prop}
variable {cc : ByteArray} {pc pc' : Nat} {st st' : List Value} {h h' : xx_H} {L : Array Slot} {ad : Nat → Nat} {n0 base : Nat} {D : va_G} {cl ol : List vw_C} {P : xx_P} {Ts nst : List Cond} {on : Nat → String} {o idx : Nat}
theorem xx_same {ref : String} {t : String × String × String × Bool} (hts : ∀ w ∈ Ts, w.before args s = true) (hr : ref = t.1 ∨ Cond.sameField ref t.1 t.2.1 t.2.2.1 ∈ Ts) : ∀ x, s.fieldFound? t.1 t.2.1 t.2.2.1 = some x → s.fieldFound? ref t.2.1 t.2.2.1 = some x := by
  intro x hx
  rcases hr with rfl | hr
  · exact hx
  · exact u_same (hts _ hr) x hx
theorem xx_V_at {fs : List Value} {j : Nat} {v : Value} (hv : fs[j]? = some v) : vp_V (fs.map (xx_v ad)) j = xx_v ad v := by simp [vp_V, hv]
theorem xb_get_ok (hexec : p.tables.exec = Jvm.exec) (hb : c.code = cc) (hts : ∀ w ∈ Ts, w.before args s = true) (hn : ∀ w ∈ nst, va_Nw w s) (hK : va_K D cl [] s) (hown : s.vm.findClass (on o) = some m.cls) (hok : xx_okf P Ts nst cl ol on) (hdg : decode cc pc = .ok (.getfield idx, 3)) (hs : xb_get P o idx pc st h = some (pc', st', h')) (hr : xx_rep D cl ol ad n0 base s h H)
    (kk : h' = h → W p l e R s m args below meth c H locs cells slots Q (F0 m pc' L (st'.map (xx_v ad)))) : W p l e R s m args below meth c H locs cells slots Q (F0 m pc L (st.map (xx_v ad))) := by
  unfold xb_get at hs
  split at hs
  · rename_i a r
    split at hs
    · rename_i ci fs ha
      split at hs
      · rename_i j hj
        split at hs
        · rename_i v hv
          cases hs
          rcases hr.2.2 a _ ha with ⟨h1, -⟩ | ⟨h1, h2, r0, h3, -, h6⟩ | hat
          · obtain ⟨r1, ref, g1, -⟩ := (hok o idx ci j hj).1 (by omega)
            have := (List.getElem?_eq_some_iff.mp g1).1
            omega
          · obtain ⟨r1, ref, g1, g2, g3⟩ := (hok o idx ci j hj).1 h1
            cases g1.symm.trans h3
            obtain ⟨cf, kf, fi, f, cell, q1, q2, q3, q4, q5, -⟩ := h6 j v hv
            exact W.getf hexec hb hown (hts _ g3) (xx_same hts g2 _ q1) q2 q3 q4 q5 rfl rfl hdg (kk rfl)
          obtain ⟨r0, h1, h2, cell, h3, h4, h5, h6, h7, h8⟩ := hat
          obtain ⟨C, T, N, ref, hc, hjN, hin, hsame, hlink⟩ := (hok o idx ci j hj).2 (List.getElem?_eq_some_iff.mp h1).1
          have hr0 : r0 = (C, T, N) := Option.some.inj (h1.symm.trans hc)
          subst hr0
          obtain ⟨hS, hfc, kC, hkC, hkind⟩ := hK.1 ci _ hc
          obtain ⟨cf, kf, fi, f, hi, hsl⟩ := hS j hjN
          have hst := (u_facts hfc hkC (u_lays hts hin hjN) hi).1
          have hslot : cell.slots[f.slot]? = some (xx_v ad v) := by rw [hsl, h8 j hjN, xx_V_at hv]
          rcases hlink with hlink | ⟨host, hlink⟩
          · exact W.getf hexec hb hown (hts _ hlink) (xx_same hts hsame _ hi) hst h3 h5 hslot rfl rfl hdg (kk rfl)
          · exact va_Wgetf hexec hb hown (va_Nw.use rfl (hn _ hlink)) (xx_same hts hsame _ hi) hst h3 h5 hslot rfl rfl hdg (kk rfl)
        · cases hs
      · cases hs
    · cases hs
  · cases hs
end XXB
end
section
/-! group B is sound, on: fields that are put, arrays, what is made -/
section XXB2
variable {p : Program} {l : Launch} {e : Env} {R : Room} {s : State} {m : MethodId} {args : Array Value} {below : List Frame} {meth : Method} {c : Code} {H : Heap} {locs : List Loc} {cells slots : Nat} {Q : State → Prop}
variable {cc : ByteArray} {pc pc' : Nat} {st st' : List Value} {h h' : xx_H} {L : Array Slot} {ad : Nat → Nat} {n0 base : Nat} {D : va_G} {cl ol : List vw_C} {P : xx_P} {Ts nst : List Cond} {on : Nat → String} {o idx : Nat}
theorem xx_ad_ge (ha : xx_ad n0 base ad) {i : Nat} (hi : n0 ≤ i) : base ≤ ad i := by rw [ha.1 i hi]; omega
theorem xx_S_put {H' : Heap} {a ci j : Nat} {fs : List Value} {cell : Cell} {v : Value} {r : vw_C} (ha : xx_ad n0 base ad) (hS : xx_S D cl ol ad n0 base s h H locs) (hn : n0 ≤ a) (hc : cl[ci]? = some r) (h2 : fs.length = r.2.2) (h4 : cell.cls = D.1 ci) (hvm : cell.vm = .none) (h8 : ∀ k, k < r.2.2 → cell.slots[D.2 ci k]? = some (vp_V (fs.map (xx_v ad)) k)) (hap : ∀ x y, x < r.2.2 → y < r.2.2 → x ≠ y → (D.2 ci) x ≠ (D.2 ci) y) (hj : j < r.2.2)
    (e1 : H'[ad a]? = some (cell.setSlot (D.2 ci j) (xx_v ad v))) (e2 : H'.size = H.size) (e3 : ∀ q, q ≠ ad a → H'[q]? = H[q]?) : xx_S D cl ol ad n0 base s (h.set a (.inr (ci, fs.set j v))) H' (locs ++ [⟨ad a, D.2 ci j⟩]) := by
  have hge := xx_ad_ge ha hn
  refine ⟨xx_rep_set ha hS.1 hn e2 e3 (Or.inr (Or.inr ⟨r, hc, by rw [List.length_set]; exact h2, _, e1, h4, ?_, ?_, fun _ => hvm, fun k hk => ?_⟩)), fun q hq => ?_, fun x hx => ?_, by rw [e2]; exact hS.2.2.2⟩
  · rw [show (cell.setSlot (D.2 ci j) (xx_v ad v)).vm = cell.vm from rfl, hvm]
    exact fun z => by cases z
  · rw [show (cell.setSlot (D.2 ci j) (xx_v ad v)).vm = cell.vm from rfl, hvm]
    rfl
  · have hset := t_set h8 hap hj (xx_v ad v) k hk
    rw [vp_updV_set (by rw [List.length_map, h2]; exact hj)] at hset
    rw [hset, ← List.map_set]
  · rw [e3 q (by omega)]
    exact hS.2.1 q hq
  · rcases List.mem_append.mp hx with h1 | h1
    · exact hS.2.2.1 x h1
    · rw [List.mem_singleton.mp h1]
      exact hge
set_option maxHeartbeats 1000000 in
theorem xb_put_ok {k : Nat} (hexec : p.tables.exec = Jvm.exec) (hb : c.code = cc) (hts : ∀ w ∈ Ts, w.before args s = true) (hn : ∀ w ∈ nst, va_Nw w s) (hK : va_K D cl [] s) (hown : s.vm.findClass (on o) = some m.cls) (hini : xp_ini P k = true → meth.name = "<init>") (hok : xx_okf P Ts nst cl ol on) (hokt : xx_okt P cl) (hokp : xx_okp P cl Ts on) (ha : xx_ad (xp_n0 P) base ad) (hdg : decode cc pc = .ok (.putfield idx, 3)) (hs : xb_put P k o idx pc st h = some (pc', st', h')) (hS : xx_S D cl ol ad (xp_n0 P) base s h H locs)
    (kk : ∀ (H' : Heap) (locs' : List Loc), h'.length = h.length → xx_sz h' = xx_sz h → xx_S D cl ol ad (xp_n0 P) base s h' H' locs' → W p l e R s m args below meth c H' locs' cells slots Q (F0 m pc' L (st'.map (xx_v ad)))) : W p l e R s m args below meth c H locs cells slots Q (F0 m pc L (st.map (xx_v ad))) := by
  unfold xb_put at hs
  split at hs
  · rename_i v a r
    split at hs
    · rename_i ci fs hat
      split at hs
      · rename_i j hj
        split at hs
        · rename_i ty fin hty
          obtain ⟨g, hs⟩ := xa_g_some hs
          rw [Bool.and_eq_true, Bool.and_eq_true, Bool.and_eq_true] at g
          obtain ⟨g1, g2, g3, g4⟩ := g
          have g1 : xp_n0 P ≤ a := Nat.le_of_ble_eq_true g1
          cases hs
          have hgeb := xx_ad_ge ha g1
          rcases hS.1.2.2 a _ hat with ⟨-, hlt0⟩ | ⟨-, hlt0, -⟩ | hatt
          · omega
          · omega
          obtain ⟨r0, h1, h2, cell, h3, h4, h5, h6, h7, h8⟩ := hatt
          obtain ⟨C, T, N, ref, hc, hjN, hin, hsame, hlink⟩ := (hok o idx ci j hj).2 (List.getElem?_eq_some_iff.mp h1).1
          obtain ⟨C', T', N', ts, hc', hts1, hnm, hd, hfin⟩ := hokt ci j ty fin hty
          have e0 := hc.symm.trans hc'
          cases e0
          have hr0 : r0 = (C, T, N) := Option.some.inj (h1.symm.trans hc)
          subst hr0
          have hvm := h7 (xx_ad_ge ha g1)
          obtain ⟨hSl, hfc, kC, hkC, hkind⟩ := hK.1 ci _ hc
          obtain ⟨cf, kf, fi, f, hi, hsl⟩ := hSl j hjN
          have hst := (u_facts hfc hkC (u_lays hts hin hjN) hi).1
          have hap := va_apart (own := on o) hts hin ts hts1 hnm hK hc
          have hlay := hts _ (hin _ (u_in_lay hjN))
          have hlt : f.slot < cell.slots.size := by rw [hsl]; exact k2_hasslot (h8 j hjN)
          obtain ⟨hn1, hf1⟩ := xx_fit_ok (ad := ad) g3
          have fin' : ∀ H' : Heap, H'[ad a]? = some (cell.setSlot f.slot (xx_v ad v)) → H'.size = H.size → (∀ q, q ≠ ad a → H'[q]? = H[q]?) → W p l e R s m args below meth c H' (locs ++ [⟨ad a, f.slot⟩]) cells slots Q (F0 m (pc + 3) L (st'.map (xx_v ad))) := by
            intro H' e1 e2 e3
            rw [hsl] at e1 ⊢
            exact kk H' _ (List.length_set ..) (xx_sz_set hat (by simp [xx_sz1])) (xx_S_put ha hS g1 hc h2 h4 hvm h8 hap hjN e1 e2 e3)
          unfold u_lay at hlay
          cases fin with
          | false =>
            rw [if_neg (by rw [hfin]; decide)] at hlay
            have h9 := u_store hfc hkC hkind hlay hi hd hn1 hf1
            rcases hlink with hlink | ⟨host, hlink⟩
            · exact W.putK hexec hb (f := f) ⟨hown, hts _ hlink, ⟨_, _, _, xx_same hts hsame _ hi⟩, hst⟩ (by rw [h4]; exact h9) h3 hvm hlt rfl rfl hdg fin'
            · exact va_WputK hexec hb (f := f) hown (va_Nw.use rfl (hn _ hlink)) (xx_same hts hsame _ hi) hst (by rw [h4]; exact h9) h3 hvm hlt rfl rfl hdg fin'
          | true =>
            rw [if_pos hfin] at hlay
            obtain ⟨C2, T2, N2, hc2, hdecl, hlk⟩ := hokp o idx ci j ty hj hty
            cases hc.symm.trans hc2
            have hcf : m.cls = cf := by
              obtain ⟨_, _, c', _, _, _, -, -, hf', -, -, -, hown2, -⟩ := Cond.laysFinal_spec hlay
              have e1 : c' = cf := by have := hi.symm.trans hf'; simp at this; exact this.1.symm
              rw [hdecl] at hown2
              rw [← e1]; exact Option.some.inj (hown.symm.trans hown2)
            have h9 := u_fits hfc hkC hkind (Or.inr hlay) hi hd hn1 hf1
            have hi2 : s.fieldFound? (on o) (T j).2.1 (T j).2.2.1 = some (cf, kf, fi, f) := by rw [← hdecl]; exact hi
            exact W.putFinK hexec hb hown (hts _ hlk) hi2 hst hcf (hini (by simpa using g4)) (by rw [h4]; exact h9) h3 hvm hlt rfl rfl hdg fin'
        · cases hs
      · cases hs
    · cases hs
  · cases hs
theorem xb_ix_some {j : Int32} {n k : Nat} (h : xb_ix j n = some k) : ¬ j < 0 ∧ k = j.toNatClampNeg ∧ k < n := by
  unfold xb_ix at h
  split at h
  · cases h
  · rename_i h1
    split at h
    · rename_i h2
      cases h
      exact ⟨h1, rfl, h2⟩
    · cases h
theorem xb_ald_ok {ty : FieldType} (hs : xb_ald ty pc st h = some (pc', st', h')) (hr : xx_rep D cl ol ad n0 base s h H)
    (row : ∀ (a : Nat) (cell : Cell) (j : Int32) (v : Value) (rest : List Value), H[a]? = some cell → s.isArrayOf cell ty → cell.vm ≠ .unknown → ¬ (j < 0 ∨ cell.slots.size ≤ j.toNatClampNeg) → cell.slots[j.toNatClampNeg]? = some v → W p l e R s m args below meth c H locs cells slots Q (F0 m (pc + 1) L (v :: rest)) → W p l e R s m args below meth c H locs cells slots Q (F0 m pc L (.int j :: .ref a :: rest)))
    (kk : h' = h → W p l e R s m args below meth c H locs cells slots Q (F0 m pc' L (st'.map (xx_v ad)))) : W p l e R s m args below meth c H locs cells slots Q (F0 m pc L (st.map (xx_v ad))) := by
  unfold xb_ald at hs
  split at hs
  · rename_i j a r
    split at hs
    · rename_i ty' vs hat
      split at hs
      · rename_i hd
        have hd : ty' = ty := of_decide_eq_true hd
        subst hd
        split at hs
        · rename_i n hn
          obtain ⟨h1, h2, h3⟩ := xb_ix_some hn
          unfold xb_push at hs
          split at hs
          · rename_i v hv
            cases hs
            obtain ⟨cell, q1, q2, q3, q4, q5, q6⟩ := hr.2.2 a _ hat
            dsimp only at q4 q5 q6
            subst h2
            exact row (ad a) cell j (xx_v ad v) _ q1 q2 q3 (fun z => by
              rcases z with z | z
              · exact h1 z
              · omega) (q6 _ _ hv) (kk rfl)
          · cases hs
        · cases hs
      · cases hs
    · cases hs
  · cases hs
theorem xb_ast_ok {ty : FieldType} (ha : xx_ad (xp_n0 P) base ad) (hs : xb_ast P ty pc st h = some (pc', st', h')) (hS : xx_S D cl ol ad (xp_n0 P) base s h H locs)
    (row : ∀ (a : Nat) (cell : Cell) (j : Int32) (v : Value) (rest : List Value), xx_fit ty v = true → H[a]? = some cell → s.isArrayOf cell ty → cell.vm ≠ .unknown → ¬ (j < 0 ∨ cell.slots.size ≤ j.toNatClampNeg) → (∀ H' : Heap, H'[a]? = some (cell.setSlot j.toNatClampNeg (xx_v ad v)) → H'.size = H.size → (∀ q, q ≠ a → H'[q]? = H[q]?) → W p l e R s m args below meth c H' (locs ++ [⟨a, j.toNatClampNeg⟩]) cells slots Q (F0 m (pc + 1) L rest)) → W p l e R s m args below meth c H locs cells slots Q (F0 m pc L (xx_v ad v :: .int j :: .ref a :: rest)))
    (kk : ∀ (H' : Heap) (locs' : List Loc), h'.length = h.length → xx_sz h' = xx_sz h → xx_S D cl ol ad (xp_n0 P) base s h' H' locs' → W p l e R s m args below meth c H' locs' cells slots Q (F0 m pc' L (st'.map (xx_v ad)))) : W p l e R s m args below meth c H locs cells slots Q (F0 m pc L (st.map (xx_v ad))) := by
  unfold xb_ast at hs
  split at hs
  · rename_i v j a r
    split at hs
    · rename_i ty' vs hat
      split at hs
      · rename_i hd
        rw [Bool.and_eq_true, Bool.and_eq_true] at hd
        obtain ⟨g1, g2, g3⟩ := hd
        have g1 : ty' = ty := of_decide_eq_true g1
        have g2 : xp_n0 P ≤ a := Nat.le_of_ble_eq_true g2
        subst g1
        split at hs
        · rename_i n hn
          obtain ⟨h1, h2, h3⟩ := xb_ix_some hn
          cases hs
          obtain ⟨cell, q1, q2, q3, q4, q5, q6⟩ := hS.1.2.2 a _ hat
          dsimp only at q4 q5 q6
          subst h2
          have hge := xx_ad_ge ha g2
          refine row (ad a) cell j v _ g3 q1 q2 q3 (fun z => by
            rcases z with z | z
            · exact h1 z
            · omega) (fun H' e1 e2 e3 => kk H' _ (List.length_set ..) (xx_sz_set hat (by simp [xx_sz1])) ⟨xx_rep_set ha hS.1 g2 e2 e3 ⟨_, e1, q2, q3, ?_, ?_, fun i w hw => ?_⟩, fun q hq => ?_, fun x hx => ?_, by rw [e2]; exact hS.2.2.2⟩)
          · show (vs.set j.toNatClampNeg v).length ≤ (cell.slots.setIfInBounds _ _).size
            simp
            exact q4
          · show (cell.slots.setIfInBounds _ _).size.toInt32 = Int32.ofNat (vs.set j.toNatClampNeg v).length
            simp
            exact q5
          · show (cell.slots.setIfInBounds _ _)[i]? = some (xx_v ad w)
            have hw : (vs.set j.toNatClampNeg v)[i]? = some w := hw
            rw [List.getElem?_set] at hw
            rw [Array.getElem?_setIfInBounds]
            split at hw
            · rename_i ei
              cases hw
              rw [if_pos ei, if_pos (by omega)]
            · rename_i ei
              rw [if_neg ei]
              exact q6 _ _ hw
          · rw [e3 q (by omega)]
            exact hS.2.1 q hq
          · rcases List.mem_append.mp hx with z | z
            · exact hS.2.2.1 x z
            · rw [List.mem_singleton.mp z]
              exact hge
        · cases hs
      · cases hs
    · cases hs
  · cases hs
theorem xb_len_ok (hexec : p.tables.exec = Jvm.exec) (hb : c.code = cc) (hdg : decode cc pc = .ok (.arraylength, 1)) (hs : xb_len pc st h = some (pc', st', h')) (hr : xx_rep D cl ol ad n0 base s h H)
    (kk : h' = h → W p l e R s m args below meth c H locs cells slots Q (F0 m pc' L (st'.map (xx_v ad)))) : W p l e R s m args below meth c H locs cells slots Q (F0 m pc L (st.map (xx_v ad))) := by
  unfold xb_len at hs
  split at hs
  · rename_i a r
    split at hs
    · rename_i ty vs hat
      cases hs
      obtain ⟨cell, q1, q2, q3, q4, q5, q6⟩ := hr.2.2 a _ hat
      exact W.alen hexec hb q1 q2 (n := Int32.ofNat vs.length) q5 rfl rfl hdg (kk rfl)
    · cases hs
  · cases hs
/-- what the tables must say of a class that is made -/
def xx_okn (P : xx_P) (Ts : List Cond) (cl : List vw_C) (on : Nat → String) : Prop := ∀ o idx ci, xp_cls P o idx = some ci → ∃ (C : String) (T : u_T) (N : Nat) (ts : Nat → FieldType), cl[ci]? = some (C, T, N) ∧ Cond.classLink (on o) idx C ∈ Ts ∧ Cond.instantiable C N ∈ Ts ∧ Cond.initialized C ∈ Ts ∧ (∀ w ∈ u_ws C T N, w ∈ Ts) ∧ (∀ k, k < N → parseFieldDescriptor (T k).2.2.1 = some (ts k)) ∧ xp_dfl P ci = (List.range N).map (fun k => defaultValue (ts k))
theorem xx_v_dfl (ty : FieldType) : xx_v ad (defaultValue ty) = defaultValue ty := by cases ty <;> rfl
theorem xb_new_ok (hexec : p.tables.exec = Jvm.exec) (hb : c.code = cc) (hts : ∀ w ∈ Ts, w.before args s = true) (hK : va_K D cl [] s) (hown : s.vm.findClass (on o) = some m.cls) (hok : xx_okn P Ts cl on) (ha : xx_ad n0 base ad) (hdg : decode cc pc = .ok (.new idx, 3)) (hs : xb_new P o idx pc st h = some (pc', st', h')) (hS : xx_S D cl ol ad n0 base s h H locs)
    (hcells : cells + (h'.length - h.length) ≤ R.cells) (hslots : slots + (xx_sz h' - xx_sz h) ≤ R.slots)
    (kk : ∀ (H' : Heap), xx_S D cl ol ad n0 base s h' H' locs → W p l e R s m args below meth c H' locs (cells + (h'.length - h.length)) (slots + (xx_sz h' - xx_sz h)) Q (F0 m pc' L (st'.map (xx_v ad)))) : W p l e R s m args below meth c H locs cells slots Q (F0 m pc L (st.map (xx_v ad))) := by
  unfold xb_new at hs
  split at hs
  · rename_i ci hci
    cases hs
    obtain ⟨C, T, N, ts, hc, hl, hi, hn, hin, hty, hdf⟩ := hok o idx ci hci
    have hlen : (h ++ [.inr (ci, xp_dfl P ci)] : xx_H).length - h.length = 1 := by simp
    have hsz : xx_sz (h ++ [.inr (ci, xp_dfl P ci)]) - xx_sz h = N := by rw [xx_sz_app]; simp [xx_sz1, hdf]
    rw [hlen] at hcells kk
    rw [hsz] at hslots kk
    have hKc := hK.1 ci _ hc
    have hhs : ad h.length = H.size := by rw [ha.1 _ hS.1.1, hS.1.2.1]
    refine W.newcK hexec hb hown (hts _ hl) (hts _ hi) (hts _ hn) rfl hdg hcells hslots hKc.2.1 (h := ad h.length) hhs.symm (fun H' kC hkC e1 e2 e3 => ?_)
    rw [hhs] at e1 e2 e3
    refine kk H' ⟨xx_rep_new ha hS.1 e2 e3 ?_, fun q hq => ?_, hS.2.2.1, by rw [e2]; exact Nat.le_succ_of_le hS.2.2.2⟩
    · have hb1 := u_born ts hts hin hKc hkC e1 hty
      obtain ⟨cell, q1, q2, q3, q4⟩ := hb1
      refine Or.inr (Or.inr ⟨(C, T, N), hc, by simp [hdf], cell, q1, q2, (by rw [q3]; exact fun z => (by cases z)), (by rw [q3]; rfl), fun _ => q3, fun k hk => ?_⟩)
      rw [q4 k hk]
      have hk : k < N := hk
      have : vp_V ((xp_dfl P ci).map (xx_v ad)) k = defaultValue (ts k) := by
        rw [hdf]
        simp [vp_V, hk, xx_v_dfl]
      rw [this]
    · rw [e3 q (by have := hS.1.2.1; omega)]
      exact hS.2.1 q hq
  · cases hs
theorem xb_newa_ok {t : ArrayType} {ty : FieldType} (hty : newarray.typeOf t = ty) (hcb : componentBytes ty ≤ 8) (hexec : p.tables.exec = Jvm.exec) (hb : c.code = cc) (hts : ∀ w ∈ Ts, w.before args s = true) (hok : Cond.arrayClass ty ∈ Ts) (ha : xx_ad n0 base ad) (hdg : decode cc pc = .ok (.newarray t, 2)) (hs : xb_newa ty pc st h = some (pc', st', h')) (hS : xx_S D cl ol ad n0 base s h H locs)
    (hcells : cells + (h'.length - h.length) ≤ R.cells) (hslots : slots + (xx_sz h' - xx_sz h) ≤ R.slots)
    (kk : ∀ (H' : Heap), xx_S D cl ol ad n0 base s h' H' locs → W p l e R s m args below meth c H' locs (cells + (h'.length - h.length)) (slots + (xx_sz h' - xx_sz h)) Q (F0 m pc' L (st'.map (xx_v ad)))) : W p l e R s m args below meth c H locs cells slots Q (F0 m pc L (st.map (xx_v ad))) := by
  subst hty
  unfold xb_newa at hs
  split at hs
  · rename_i j r
    split at hs
    · rename_i hg
      rw [Bool.and_eq_true] at hg
      have g1 : ¬ j < 0 := of_decide_eq_true hg.1
      have g2 : j.toNatClampNeg * 8 ≤ 536870912 := Nat.le_of_ble_eq_true hg.2
      cases hs
      have hlen : (h ++ [.inl (newarray.typeOf t, List.replicate j.toNatClampNeg (defaultValue (newarray.typeOf t)))] : xx_H).length - h.length = 1 := by simp
      have hsz : xx_sz (h ++ [.inl (newarray.typeOf t, List.replicate j.toNatClampNeg (defaultValue (newarray.typeOf t)))]) - xx_sz h = j.toNatClampNeg := by rw [xx_sz_app]; simp [xx_sz1]
      rw [hlen] at hcells kk
      rw [hsz] at hslots kk
      have hhs : ad h.length = H.size := by rw [ha.1 _ hS.1.1, hS.1.2.1]
      refine W.newaK hexec hb (hts _ hok) rfl hdg rfl g1 rfl (Nat.le_trans (Nat.mul_le_mul_left _ hcb) g2) hcells hslots (h := ad h.length) hhs.symm (fun H' cA e1 e2 e3 e4 => ?_)
      rw [hhs] at e1 e2 e3
      refine kk H' ⟨xx_rep_new ha hS.1 e2 e3 ?_, fun q hq => ?_, hS.2.2.1, by rw [e2]; exact Nat.le_succ_of_le hS.2.2.2⟩
      · refine ⟨_, e1, e4 _ _, fun z => (by cases z), ?_, ?_, fun i w hw => ?_⟩
        · rw [← arrV_new]
          simp
        · rw [← arrV_new]
          simp
        · rw [← arrV_new]
          have hw : (List.replicate j.toNatClampNeg (defaultValue (newarray.typeOf t)))[i]? = some w := hw
          rw [List.getElem?_replicate] at hw
          split at hw
          · rename_i hi
            cases hw
            simp [hi, xx_v_dfl]
          · cases hw
      · rw [e3 q (by have := hS.1.2.1; omega)]
        exact hS.2.1 q hq
    · cases hs
  · cases hs
end XXB2
end
section
/-! what holds at every state of the run beside the picture: classes, nest words, String constants, statics -/
def xx_K (D : va_G) (cl : List vw_C) (nst : List Cond) (strs : List (String × Nat × String × Nat)) (stv : List (String × String × String × Value)) (ad : Nat → Nat) (base : Nat) (U : State) (H : Heap) : Prop := va_K D cl [] U ∧ (∀ w ∈ nst, va_Nw w U) ∧ (∀ q ∈ strs, vk_R q.1 q.2.1 q.2.2.1 (ad q.2.2.2) U) ∧ ∀ q ∈ stv, va_Z q.1 q.2.1 q.2.2.1 (xx_v ad q.2.2.2) (fun a => base ≤ a) U H
def xx_nest (w : Cond) : Bool := match w with
  | .fieldLinkNest _ _ _ _ _ _ => true
  | .methodLinkNest _ _ _ _ => true
  | _ => false
theorem xx_nw_warm {w : Cond} (hw : xx_nest w = true) {s U : State} (hW : s.WarmedH U.vm) (h : va_Nw w s) : va_Nw w U := by
  unfold xx_nest at hw
  split at hw
  · exact va_Nw.warmF hW h
  · exact va_Nw.warmM hW h
  · cases hw
theorem xx_nw_same {w : Cond} (hw : xx_nest w = true) {u U : State} (hv : u.vm = U.vm) (h : va_Nw w u) : va_Nw w U := by
  unfold xx_nest at hw
  split at hw
  · exact va_Nw.same rfl hv h
  · exact va_Nw.same rfl hv h
  · cases hw
theorem xx_K_warm {D : va_G} {cl : List vw_C} {nst : List Cond} {strs : List (String × Nat × String × Nat)} {stv : List (String × String × String × Value)} {ad : Nat → Nat} {base : Nat} {s U : State} {H : Heap} (hnst : ∀ w ∈ nst, xx_nest w = true) (hW : s.WarmedH U.vm) (hk : ∀ q : Nat, q < base → H[q]? = s.heap[q]?) (h : xx_K D cl nst strs stv ad base s s.heap) : xx_K D cl nst strs stv ad base U H :=
  ⟨va_K.moved hW.alike h.1, fun w hw => xx_nw_warm (hnst w hw) hW (h.2.1 w hw), fun q hq => vk_R.warm hW (h.2.2.1 q hq), fun q hq => va_Z.moved hW.alike (va_Z.kept (h.2.2.2 q hq) (fun a _ h2 => hk a (Nat.lt_of_not_le h2)))⟩
theorem xx_K_same {D : va_G} {cl : List vw_C} {nst : List Cond} {strs : List (String × Nat × String × Nat)} {stv : List (String × String × String × Value)} {ad : Nat → Nat} {base : Nat} {u U : State} {H : Heap} (hnst : ∀ w ∈ nst, xx_nest w = true) (hv : u.vm = U.vm) (h : xx_K D cl nst strs stv ad base u H) : xx_K D cl nst strs stv ad base U H :=
  ⟨va_K.moved (by rw [hv]; exact Vm.Alike.refl U.vm) h.1, fun w hw => xx_nw_same (hnst w hw) hv (h.2.1 w hw), fun q hq => vk_R.same hv.symm (h.2.2.1 q hq), fun q hq => va_Z.moved (by rw [hv]; exact Vm.Alike.refl U.vm) (h.2.2.2 q hq)⟩
def xx_okc (P : xx_P) (Ts : List Cond) (on : Nat → String) (strs : List (String × Nat × String × Nat)) : Prop := ∀ o idx v, xp_con P o idx = some v → (∃ x, v = .int x ∧ Cond.constant (on o) idx x ∈ Ts) ∨ (∃ x, v = .long x ∧ Cond.constantLong (on o) idx x ∈ Ts) ∨ ∃ i tx, v = .ref i ∧ (on o, idx, tx, i) ∈ strs
def xx_oks (P : xx_P) (Ts nst : List Cond) (on : Nat → String) (stv : List (String × String × String × Value)) : Prop := ∀ o idx v, xp_sta P o idx = some v → ∃ (C n d ref : String), (C, n, d, v) ∈ stv ∧ (ref = C ∨ Cond.sameField ref C n d ∈ Ts) ∧ (Cond.fieldLink (on o) idx ref n d ∈ Ts ∨ ∃ host, Cond.fieldLinkNest (on o) idx ref n d host ∈ nst)
def xx_oka (Ts : List Cond) : Prop := Cond.arrayClass .int ∈ Ts ∧ Cond.arrayClass .long ∈ Ts ∧ Cond.arrayClass .boolean ∈ Ts
/-- all that the tables must say for the heap's steps -/
def xx_OKb (P : xx_P) (Ts nst : List Cond) (cl ol : List vw_C) (on : Nat → String) (strs : List (String × Nat × String × Nat)) (stv : List (String × String × String × Value)) : Prop := xx_okf P Ts nst cl ol on ∧ xx_okt P cl ∧ xx_okp P cl Ts on ∧ xx_okn P Ts cl on ∧ xx_okc P Ts on strs ∧ xx_oks P Ts nst on stv ∧ xx_oka Ts ∧ ∀ w ∈ nst, xx_nest w = true
section XXC
variable {p : Program} {l : Launch} {e : Env} {R : Room} {s : State} {m : MethodId} {args : Array Value} {below : List Frame} {meth : Method} {c : Code} {H : Heap} {locs : List Loc} {cells slots : Nat} {Q : State → Prop}
variable {cc : ByteArray} {pc pc' : Nat} {st st' : List Value} {h h' : xx_H} {L : Array Slot} {ad : Nat → Nat} {base : Nat} {D : va_G} {cl ol : List vw_C} {P : xx_P} {Ts nst : List Cond} {on : Nat → String} {strs : List (String × Nat × String × Nat)} {stv : List (String × String × String × Value)} {k : Nat}
theorem xx_cs {g : JFrame} (h1 : h'.length = h.length) (h2 : xx_sz h' = xx_sz h) (w : W p l e R s m args below meth c H locs (cells + (h'.length - h.length)) (slots + (xx_sz h' - xx_sz h)) Q g) : W p l e R s m args below meth c H locs cells slots Q g := by
  refine W.cs ?_ ?_ w
  · omega
  · omega
set_option maxHeartbeats 1000000 in
theorem xb_sound {i : Instr} (hexec : p.tables.exec = Jvm.exec) (hb : c.code = cc) (hts : ∀ w ∈ Ts, w.before args s = true) (hK : xx_K D cl nst strs stv ad base s s.heap) (hown : s.vm.findClass (on (xp_own P k)) = some m.cls) (hini : xp_ini P k = true → meth.name = "<init>") (hok : xx_OKb P Ts nst cl ol on strs stv) (ha : xx_ad (xp_n0 P) base ad) (hdg : xx_dec cc pc i) (hs : xb_step P k i pc st h = some (pc', st', h')) (hS : xx_S D cl ol ad (xp_n0 P) base s h H locs)
    (hcells : cells + (h'.length - h.length) ≤ R.cells) (hslots : slots + (xx_sz h' - xx_sz h) ≤ R.slots)
    (kk : ∀ (H' : Heap) (locs' : List Loc), xx_S D cl ol ad (xp_n0 P) base s h' H' locs' → W p l e R s m args below meth c H' locs' (cells + (h'.length - h.length)) (slots + (xx_sz h' - xx_sz h)) Q (F0 m pc' L (st'.map (xx_v ad)))) : W p l e R s m args below meth c H locs cells slots Q (F0 m pc L (st.map (xx_v ad))) := by
  obtain ⟨okf, okt, okp, okn, okc, oks, oka, -⟩ := hok
  have k0 : h' = h → W p l e R s m args below meth c H locs cells slots Q (F0 m pc' L (st'.map (xx_v ad))) := fun e1 => xx_cs (by rw [e1]) (by rw [e1]) (kk H locs (by rw [e1]; exact hS))
  have k1 : ∀ (H' : Heap) (locs' : List Loc), h'.length = h.length → xx_sz h' = xx_sz h → xx_S D cl ol ad (xp_n0 P) base s h' H' locs' → W p l e R s m args below meth c H' locs' cells slots Q (F0 m pc' L (st'.map (xx_v ad))) := fun H' locs' e1 e2 h3 => xx_cs e1 e2 (kk H' locs' h3)
  have k2 : ∀ (H' : Heap), xx_S D cl ol ad (xp_n0 P) base s h' H' locs → W p l e R s m args below meth c H' locs (cells + (h'.length - h.length)) (slots + (xx_sz h' - xx_sz h)) Q (F0 m pc' L (st'.map (xx_v ad))) := fun H' h3 => kk H' locs h3
  have vS : va_S (fun a => base ≤ a) s.heap H locs := ⟨hS.2.2.2, fun q _ h2 => hS.2.1 q (Nat.lt_of_not_le h2), hS.2.2.1⟩
  cases i with
  | ldc n =>
    simp only [xb_step] at hs
    split at hs
    · rename_i x hx
      cases hs
      rcases okc _ _ _ hx with ⟨y, hy, hw⟩ | ⟨y, hy, hw⟩ | ⟨y, tx, hy, hw⟩
      · cases hy
        exact lv_ldc hexec hb hown (hts _ hw) (xx_dec1 hdg rfl) (k0 rfl)
      · cases hy
      · cases hy
    · rename_i x hx
      cases hs
      rcases okc _ _ _ hx with ⟨y, hy, hw⟩ | ⟨y, hy, hw⟩ | ⟨y, tx, hy, hw⟩
      · cases hy
      · cases hy
      · cases hy
        exact va_ldcS hexec hb hown (hK.2.2.1 _ hw) (xx_dec1 hdg rfl) (k0 rfl)
    · cases hs
  | ldc_w n =>
    simp only [xb_step] at hs
    split at hs
    · rename_i x hx
      cases hs
      rcases okc _ _ _ hx with ⟨y, hy, hw⟩ | ⟨y, hy, hw⟩ | ⟨y, tx, hy, hw⟩
      · cases hy
        exact lv_ldcw hexec hb hown (hts _ hw) (xx_dec1 hdg rfl) (k0 rfl)
      · cases hy
      · cases hy
    · cases hs
  | ldc2_w n =>
    simp only [xb_step] at hs
    split at hs
    · rename_i x hx
      cases hs
      rcases okc _ _ _ hx with ⟨y, hy, hw⟩ | ⟨y, hy, hw⟩ | ⟨y, tx, hy, hw⟩
      · cases hy
      · cases hy
        exact lv_ldc2 hexec hb hown (hts _ hw) (xx_dec1 hdg rfl) (k0 rfl)
      · cases hy
    · cases hs
  | getstatic n =>
    simp only [xb_step, xb_push] at hs
    split at hs
    · rename_i v hv
      cases hs
      obtain ⟨C, nm, d, ref, hm, hsame, hlink⟩ := oks _ _ _ hv
      have hsm : ∀ x, s.fieldFound? C nm d = some x → s.fieldFound? ref nm d = some x := by
        intro x hx
        rcases hsame with rfl | hr
        · exact hx
        · exact u_same (hts _ hr) x hx
      rcases hlink with hlink | ⟨host, hlink⟩
      · exact va_gets hexec hb (hK.2.2.2 _ hm) vS hown (hts _ hlink) hsm (xx_dec1 hdg rfl) (k0 rfl)
      · exact va_getsN hexec hb (hK.2.2.2 _ hm) vS hown (va_Nw.use rfl (hK.2.1 _ hlink)) hsm (xx_dec1 hdg rfl) (k0 rfl)
    · cases hs
  | getfield n => exact xb_get_ok hexec hb hts hK.2.1 hK.1 hown okf (xx_dec1 hdg rfl) hs hS.1 k0
  | putfield n => exact xb_put_ok hexec hb hts hK.2.1 hK.1 hown hini okf okt okp ha (xx_dec1 hdg rfl) hs hS k1
  | iaload => exact xb_ald_ok hs hS.1 (fun a cell j v rest q1 q2 q3 q4 q5 q6 => W.iald hexec hb q1 q2 q3 q4 q5 rfl rfl (xx_dec1 hdg rfl) q6) k0
  | laload => exact xb_ald_ok hs hS.1 (fun a cell j v rest q1 q2 q3 q4 q5 q6 => W.lald hexec hb q1 q2 q3 q4 q5 rfl rfl (xx_dec1 hdg rfl) q6) k0
  | baload => exact xb_ald_ok hs hS.1 (fun a cell j v rest q1 q2 q3 q4 q5 q6 => W.bald hexec hb q1 q2 q3 q4 q5 rfl rfl (xx_dec1 hdg rfl) q6) k0
  | iastore => exact xb_ast_ok ha hs hS (fun a cell j v rest q0 q1 q2 q3 q4 q5 => by
      cases v <;> first | (cases q0; done) | skip
      exact W.iast hexec hb q1 q2 q3 q4 rfl rfl (xx_dec1 hdg rfl) q5) k1
  | lastore => exact xb_ast_ok ha hs hS (fun a cell j v rest q0 q1 q2 q3 q4 q5 => by
      cases v <;> first | (cases q0; done) | skip
      exact W.last hexec hb q1 q2 q3 q4 rfl rfl (xx_dec1 hdg rfl) q5) k1
  | arraylength => exact xb_len_ok hexec hb (xx_dec1 hdg rfl) hs hS.1 k0
  | new n => exact xb_new_ok hexec hb hts hK.1 hown okn ha (xx_dec1 hdg rfl) hs hS hcells hslots k2
  | newarray t =>
    cases t with
    | int => exact xb_newa_ok (t := .int) (ty := .int) rfl (by decide) hexec hb hts oka.1 ha (xx_dec1 hdg rfl) hs hS hcells hslots k2
    | long => exact xb_newa_ok (t := .long) (ty := .long) rfl (by decide) hexec hb hts oka.2.1 ha (xx_dec1 hdg rfl) hs hS hcells hslots k2
    | boolean => exact xb_newa_ok (t := .boolean) (ty := .boolean) rfl (by decide) hexec hb hts oka.2.2 ha (xx_dec1 hdg rfl) hs hS hcells hslots k2
    | _ => cases hs
  | _ => cases hs
/-- a step makes cells, it takes none away -/
theorem xb_mono {i : Instr} (hs : xb_step P k i pc st h = some (pc', st', h')) : h.length ≤ h'.length ∧ xx_sz h ≤ xx_sz h' := by
  have e0 : h' = h → h.length ≤ h'.length ∧ xx_sz h ≤ xx_sz h' := fun z => by rw [z]; exact ⟨Nat.le_refl _, Nat.le_refl _⟩
  have e1 : ∀ (x : xx_E), h' = h ++ [x] → h.length ≤ h'.length ∧ xx_sz h ≤ xx_sz h' := fun x z => by rw [z, xx_sz_app]; simp
  have e2 : ∀ (a : Nat) (x y : xx_E), h[a]? = some y → xx_sz1 x = xx_sz1 y → h' = h.set a x → h.length ≤ h'.length ∧ xx_sz h ≤ xx_sz h' := fun a x y q1 q2 z => by rw [z, xx_sz_set q1 q2]; simp
  cases i with
  | ldc n =>
    simp only [xb_step] at hs
    split at hs
    · cases hs; exact e0 rfl
    · cases hs; exact e0 rfl
    · cases hs
  | ldc_w n =>
    simp only [xb_step] at hs
    split at hs
    · cases hs; exact e0 rfl
    · cases hs
  | ldc2_w n =>
    simp only [xb_step] at hs
    split at hs
    · cases hs; exact e0 rfl
    · cases hs
  | getstatic n =>
    simp only [xb_step, xb_push] at hs
    split at hs
    · cases hs; exact e0 rfl
    · cases hs
  | getfield n =>
    simp only [xb_step, xb_get] at hs
    repeat' split at hs
    all_goals first | (cases hs; exact e0 rfl) | cases hs
  | putfield n =>
    simp only [xb_step, xb_put] at hs
    split at hs
    · split at hs
      · rename_i hat
        split at hs
        · split at hs
          · obtain ⟨-, hs⟩ := xa_g_some hs
            cases hs
            exact e2 _ _ _ hat (by simp [xx_sz1]) rfl
          · cases hs
        · cases hs
      · cases hs
    · cases hs
  | iaload =>
    simp only [xb_step, xb_ald, xb_push] at hs
    repeat' split at hs
    all_goals first | (cases hs; exact e0 rfl) | cases hs
  | laload =>
    simp only [xb_step, xb_ald, xb_push] at hs
    repeat' split at hs
    all_goals first | (cases hs; exact e0 rfl) | cases hs
  | baload =>
    simp only [xb_step, xb_ald, xb_push] at hs
    repeat' split at hs
    all_goals first | (cases hs; exact e0 rfl) | cases hs
  | iastore =>
    simp only [xb_step, xb_ast] at hs
    split at hs
    · split at hs
      · rename_i hat
        split at hs
        · split at hs
          · cases hs
            exact e2 _ _ _ hat (by simp [xx_sz1]) rfl
          · cases hs
        · cases hs
      · cases hs
    · cases hs
  | lastore =>
    simp only [xb_step, xb_ast] at hs
    split at hs
    · split at hs
      · rename_i hat
        split at hs
        · split at hs
          · cases hs
            exact e2 _ _ _ hat (by simp [xx_sz1]) rfl
          · cases hs
        · cases hs
      · cases hs
    · cases hs
  | arraylength =>
    simp only [xb_step, xb_len] at hs
    repeat' split at hs
    all_goals first | (cases hs; exact e0 rfl) | cases hs
  | new n =>
    simp only [xb_step, xb_new] at hs
    split at hs
    · cases hs; exact e1 _ rfl
    · cases hs
  | newarray t =>
    simp only [xb_step, xb_newa] at hs
    repeat' split at hs
    all_goals first | (cases hs; exact e1 _ rfl) | cases hs
  | _ => cases hs
end XXC
end
section
/-! calls and returns; the executor is sound -/
/-- what the tables must say of a method that is called -/
def xx_okm (P : xx_P) (Ts : List Cond) (on : Nat → String) (nm : Nat → MethodName) (bt : Nat → ByteArray) (k : Nat) : Prop := Cond.code (nm k) (bt k) (xp_nl P k) (xp_ret P k) ∈ Ts ∧ Cond.initialized (nm k).cls ∈ Ts ∧ ((nm k).cls ≠ "java/lang/invoke/MethodHandle" ∧ (nm k).cls ≠ "java/lang/invoke/VarHandle") ∧ plainName (nm k).cls = true ∧ on (xp_own P k) = (nm k).cls ∧ (xp_ini P k = true → (nm k).name = "<init>") ∧ xp_nl P k ≤ 30
def xx_okl (Ts nst : List Cond) (on : String) (idx : Nat) (y : MethodName) : Prop := Cond.methodLink on idx y ∈ Ts ∨ ∃ host, Cond.methodLinkNest on idx y host ∈ nst
def xx_OKc (P : xx_P) (Ts nst : List Cond) (cl ol : List vw_C) (on : Nat → String) (nm : Nat → MethodName) (bt : Nat → ByteArray) : Prop :=
  (∀ k pc i, xp_code P k pc = some i → xx_dec (bt k) pc i) ∧ GoodIn Ts Ts ∧
  (∀ o idx q n, xp_smt P o idx = some (q, n) → xx_okm P Ts on nm bt q ∧ xx_okl Ts nst (on o) idx (nm q) ∧ Cond.static (nm q) ∈ Ts ∧ (parseMethodDescriptor (nm q).desc).map (fun d => d.parameters.length) = some n) ∧
  (∀ o idx q n, xp_pmt P o idx = some (q, n + 1) → xx_okm P Ts on nm bt q ∧ xx_okl Ts nst (on o) idx (nm q) ∧ (nm q).name = "<init>" ∧ xp_ret P q = none ∧ Cond.instanceMethod (nm q) ∈ Ts ∧ (parseMethodDescriptor (nm q).desc).map (fun d => d.parameters.length) = some n) ∧
  (∀ o idx q n, xp_pmt P o idx = some (q, n) → 0 < n) ∧
  (∀ o idx n lst ci q, xp_vmt P o idx = some (n, lst) → lst.lookup ci = some q → 0 < n ∧ xx_okm P Ts on nm bt q ∧ xx_okl Ts nst (on o) idx (nm q) ∧ (∃ r, (if cl.length ≤ ci then ol[ci - cl.length]? else cl[ci]?) = some r ∧ Cond.selects r.1 (nm q) (nm q) ∈ Ts) ∧ Cond.instanceMethod (nm q) ∈ Ts ∧ (parseMethodDescriptor (nm q).desc).map (fun d => d.parameters.length) = some (n - 1)) ∧
  (∀ o idx, xp_obi P o idx = true → Cond.methodLink (on o) idx objectInit ∈ Ts ∧ Cond.instanceMethod objectInit ∈ Ts ∧ Cond.code objectInit ⟨#[0xb1]⟩ 1 none ∈ Ts)
def xx_Pc (D : va_G) (cl ol : List vw_C) (nst : List Cond) (strs : List (String × Nat × String × Nat)) (stv : List (String × String × String × Value)) (ad : Nat → Nat) (n0 base : Nat) (as : List Value) (h : xx_H) : Array Value → State → Prop := fun a U => a = (as.map (xx_v ad)).toArray ∧ xx_rep D cl ol ad n0 base U h U.heap ∧ xx_K D cl nst strs stv ad base U U.heap
def xx_Qc (D : va_G) (cl ol : List vw_C) (ad : Nat → Nat) (n0 base : Nat) (v : Option Value) (h : xx_H) : Array Value → State → Outcome → State → Prop := fun _ st o t => o = .returned (v.map (xx_v ad)) ∧ xx_rep D cl ol ad n0 base t h t.heap ∧ ∀ q : Nat, q < base → t.heap[q]? = st.heap[q]?
theorem xx_Pc_blind {D : va_G} {cl ol : List vw_C} {nst : List Cond} {strs : List (String × Nat × String × Nat)} {stv : List (String × String × String × Value)} {ad : Nat → Nat} {n0 base : Nat} {as : List Value} {h : xx_H} (hnst : ∀ w ∈ nst, xx_nest w = true) : FrameBlind (xx_Pc D cl ol nst strs stv ad n0 base as h) := by
  intro a U g mk hq
  exact ⟨hq.1, xx_rep_moved (u := U) (U := U.calling g mk a) (Vm.Alike.refl U.vm) hq.2.1, xx_K_same (u := U) (U := U.calling g mk a) hnst rfl hq.2.2⟩
/-- the contract of a call that the executor has run -/
def xx_Met (l : Launch) (P : xx_P) (Ts nst : List Cond) (cl ol : List vw_C) (D : va_G) (strs : List (String × Nat × String × Nat)) (stv : List (String × String × String × Value)) (ad : Nat → Nat) (base : Nat) (nm : Nat → MethodName) (bt : Nat → ByteArray) (d k : Nat) (as : List Value) (h : xx_H) (v : Option Value) (h1 : xx_H) : Prop :=
  Met l (nm k) (Cond.code (nm k) (bt k) (xp_nl P k) (xp_ret P k) :: Ts) { frames := d, cells := h1.length - h.length, slots := xx_sz h1 - xx_sz h, locals := d * 60 } (xx_Pc D cl ol nst strs stv ad (xp_n0 P) base as h) (xx_Qc D cl ol ad (xp_n0 P) base v h1) (h1.length - h.length) (xx_sz h1 - xx_sz h) (fun q => base ≤ q)
theorem xc_cut_some {q n q' : Nat} {st as r : List Value} (h : xc_cut q n st = some (q', as, r)) : q' = q ∧ st = as.reverse ++ r ∧ as.length = n ∧ (r.map Value.category).sum ≤ 8 := by
  unfold xc_cut at h
  split at h
  · rename_i hg
    rw [Bool.and_eq_true] at hg
    cases h
    have h1 := Nat.le_of_ble_eq_true hg.1
    exact ⟨rfl, by rw [List.reverse_reverse, List.take_append_drop], by simp; omega, Nat.le_of_ble_eq_true hg.2⟩
  · cases h
theorem xx_cats {ad : Nat → Nat} (r : List Value) : (((r.map (xx_v ad)).map fun v => v.category).sum) = (r.map Value.category).sum := by
  rw [List.map_map]
  congr 1
  apply List.map_congr_left
  intro v _
  exact xx_v_cat ad v
section XXD
variable {p : Program} {l : Launch} {e : Env} {R : Room} {s : State} {m : MethodId} {args : Array Value} {below : List Frame} {meth : Method} {c : Code} {H : Heap} {locs : List Loc} {cells slots : Nat} {Q : State → Prop}
variable {cc : ByteArray} {pc pc' : Nat} {st st' : List Value} {h h' : xx_H} {L : Array Slot} {ad : Nat → Nat} {base : Nat} {D : va_G} {cl ol : List vw_C} {P : xx_P} {Ts nst : List Cond} {on : Nat → String} {strs : List (String × Nat × String × Nat)} {stv : List (String × String × String × Value)} {k : Nat} {nm : Nat → MethodName} {bt : Nat → ByteArray}
/-- behind a call: what came back is the picture that the executor has -/
theorem xx_after {v : Option Value} {h1 : xx_H} {rest : List Value} {a : Array Value} (hS : xx_S D cl ol ad (xp_n0 P) base s h H locs)
    (hr : va_Run p l e R s m args below meth c H locs cells slots (h1.length - h.length) (xx_sz h1 - xx_sz h) (F0 m pc L (st.map (xx_v ad))) (rest.map (xx_v ad)) (xx_Qc D cl ol ad (xp_n0 P) base v h1 a) (fun q => base ≤ q)) (hge : h.length ≤ h1.length)
    (kk : ∀ (H' : Heap) (locs' : List Loc), xx_S D cl ol ad (xp_n0 P) base s h1 H' locs' → W p l e R s m args below meth c H' locs' (cells + (h1.length - h.length)) (slots + (xx_sz h1 - xx_sz h)) Q (F0 m (pc + 3) L ((v.toList ++ rest).map (xx_v ad)))) : W p l e R s m args below meth c H locs cells slots Q (F0 m pc L (st.map (xx_v ad))) := by
  intro T hT X
  obtain ⟨v', st₀, t, T', L', h0, X', hL, e1, e2, ⟨q1, q2, q3⟩, stp⟩ := hr T hT X
  cases q1
  have hal : t.vm.Alike s.vm := by rw [← e2]; exact X'.warmed.alike.symm
  have hrep : xx_rep D cl ol ad (xp_n0 P) base s h1 T'.heap := by rw [e1]; exact xx_rep_moved hal q2
  have hS' : xx_S D cl ol ad (xp_n0 P) base s h1 T'.heap (locs ++ L') := by
    refine ⟨hrep, fun q hq => ?_, fun x hx => ?_, ?_⟩
    · rw [e1, q3 q hq, h0]
      exact hS.2.1 q hq
    · rcases List.mem_append.mp hx with z | z
      · exact hS.2.2.1 x z
      · exact hL x z
    · have z1 := hS.1.2.1
      have z2 := hrep.2.1
      have z3 := hS.2.2.2
      omega
  have hK1 := kk T'.heap (locs ++ L') hS'
  obtain ⟨t2, a1, b1⟩ := hK1 T' rfl X'
  refine ⟨t2, stp t2 ?_, b1⟩
  have : (v.map (xx_v ad)).toList ++ rest.map (xx_v ad) = (v.toList ++ rest).map (xx_v ad) := by cases v <;> simp
  show Steps p.tables e below (T'.setTop (F0 m (pc + 3) L ((v.map (xx_v ad)).toList ++ rest.map (xx_v ad)))) t2
  rw [this]
  exact a1
set_option maxHeartbeats 2000000 in
theorem xc_sound {i : Instr} {d q : Nat} {as r : List Value} {v : Option Value} {h1 : xx_H} (hexec : p.tables.exec = Jvm.exec) (hb : c.code = cc) (hml : c.maxLocals = L.size) (hts : ∀ w ∈ Ts, w.before args s = true) (hK : xx_K D cl nst strs stv ad base s s.heap) (hown : s.vm.findClass (on (xp_own P k)) = some m.cls) (hnst : ∀ w ∈ nst, xx_nest w = true) (hok : xx_OKc P Ts nst cl ol on nm bt) (hdg : xx_dec cc pc i) (hs : xc_step P k i st h = some (q, as, r)) (hM : xx_Met l P Ts nst cl ol D strs stv ad base nm bt d q as h v h1) (hge : h.length ≤ h1.length) (hS : xx_S D cl ol ad (xp_n0 P) base s h H locs)
    (hfr : d + 1 ≤ R.frames) (hlo : (d + 1) * 60 ≤ R.locals) (hcells : cells + (h1.length - h.length) ≤ R.cells) (hslots : slots + (xx_sz h1 - xx_sz h) ≤ R.slots)
    (kk : ∀ (H' : Heap) (locs' : List Loc), xx_S D cl ol ad (xp_n0 P) base s h1 H' locs' → W p l e R s m args below meth c H' locs' (cells + (h1.length - h.length)) (slots + (xx_sz h1 - xx_sz h)) Q (F0 m (pc + 3) L ((v.toList ++ r).map (xx_v ad)))) : W p l e R s m args below meth c H locs cells slots Q (F0 m pc L (st.map (xx_v ad))) := by
  obtain ⟨-, hgood, oksm, okpm, okp0, okvm, -⟩ := hok
  have hPc : ∀ U : State, U.heap = H → s.WarmedH U.vm → xx_Pc D cl ol nst strs stv ad (xp_n0 P) base as h (as.map (xx_v ad)).toArray U := fun U hU hW => ⟨rfl, by rw [hU]; exact xx_rep_moved hW.alike hS.1, by rw [hU]; exact xx_K_warm hnst hW hS.2.1 hK⟩
  have hbl : FrameBlind (xx_Pc D cl ol nst strs stv ad (xp_n0 P) base as h) := xx_Pc_blind hnst
  have hws : xx_okm P Ts on nm bt q → GoodIn Ts (Cond.code (nm q) (bt q) (xp_nl P q) (xp_ret P q) :: Ts) := fun ok w hw => by
    rcases List.mem_cons.mp hw with z | z
    · rw [z]; exact hgood _ ok.1
    · exact hgood _ z
  have hroom : xx_okm P Ts on nm bt q → d + 1 ≤ R.frames ∧ 8 + (xp_nl P q + 11) + d * 60 ≤ R.locals := fun ok => ⟨hfr, by have := ok.2.2.2.2.2.2; omega⟩
  cases i with
  | invokestatic n =>
    simp only [xc_step] at hs
    split at hs
    · rename_i q' n' hq
      obtain ⟨rfl, hst, hlen, hcat⟩ := xc_cut_some hs
      obtain ⟨ok, hlk, hstat, hd⟩ := oksm _ _ _ _ hq
      have hstk : (F0 m pc L (st.map (xx_v ad))).stack = (as.map (xx_v ad)).reverse ++ r.map (xx_v ad) := by
        show st.map (xx_v ad) = _
        rw [hst, List.map_append, List.map_reverse]
      rcases hlk with hlk | ⟨host, hlk⟩
      · exact xx_after hS (va_runS (As := as.map (xx_v ad)) ⟨hexec, hb, hml, hown, hts⟩ hM ⟨callB_of n' hts (hws ok) rfl rfl rfl (hts _ ok.2.1) (hts _ hlk) ⟨ok.2.2.1.1, ok.2.2.1.2, hd⟩ (hroom ok), hts _ hstat⟩ ⟨hbl, hPc⟩ rfl (by simp [hlen]) rfl hstk (by rw [xx_cats]; simpa using hcat) (xx_dec1 hdg rfl) ⟨hcells, hslots⟩) hge kk
      · exact xx_after hS (va_runSN (As := as.map (xx_v ad)) ⟨hexec, hb, hml, hown, hts⟩ hM ⟨va_cnB n' hts (hws ok) rfl rfl rfl (hK.2.1 _ hlk) (hts _ ok.2.1) ⟨ok.2.2.1.1, ok.2.2.1.2, hd⟩ (hroom ok), hts _ hstat, trivial⟩ ⟨hbl, hPc⟩ rfl (by simp [hlen]) rfl hstk (by rw [xx_cats]; simpa using hcat) (xx_dec1 hdg rfl) ⟨hcells, hslots⟩) hge kk
    · cases hs
  | invokespecial n =>
    simp only [xc_step] at hs
    split at hs
    · rename_i q' n' hq
      split at hs
      · rename_i b hb0
        obtain ⟨rfl, hst, hlen, hcat⟩ := xc_cut_some hs
        have hpos := okp0 _ _ _ _ hq
        obtain ⟨n2, rfl⟩ : ∃ n2, n' = n2 + 1 := ⟨n' - 1, by omega⟩
        obtain ⟨ok, hlk, hin, hret, hinst, hd⟩ := okpm _ _ _ _ hq
        cases as with
        | nil => simp at hlen
        | cons a0 as1 =>
          have hl1 : as1.length = n2 := by simpa using hlen
          have ha0 : a0 = .ref b := by
            rw [hst] at hb0
            simp [List.getElem?_append, hl1] at hb0
            exact hb0
          subst ha0
          have hstk : (F0 m pc L (st.map (xx_v ad))).stack = (as1.map (xx_v ad)).reverse ++ .ref (ad b) :: r.map (xx_v ad) := by
            show st.map (xx_v ad) = _
            rw [hst]
            simp [xx_v]
          unfold xx_Met at hM
          rw [hret] at hM hws
          rcases hlk with hlk | ⟨host, hlk⟩
          · exact xx_after hS (va_runI (As := as1.map (xx_v ad)) (b := ad b) ⟨hexec, hb, hml, hown, hts⟩ hM ⟨callB_of n2 hts (hws ok) rfl rfl rfl (hts _ ok.2.1) (hts _ hlk) ⟨ok.2.2.1.1, ok.2.2.1.2, hd⟩ (hroom ok), hin, hts _ hinst⟩ ⟨hbl, hPc⟩ rfl (by simp [hl1]) rfl hstk (by rw [xx_cats]; simpa using hcat) (xx_dec1 hdg rfl) ⟨hcells, hslots⟩) hge kk
          · exact xx_after hS (va_runIN (As := as1.map (xx_v ad)) (b := ad b) ⟨hexec, hb, hml, hown, hts⟩ hM ⟨va_cnB n2 hts (hws ok) rfl rfl rfl (hK.2.1 _ hlk) (hts _ ok.2.1) ⟨ok.2.2.1.1, ok.2.2.1.2, hd⟩ (hroom ok), hin, hts _ hinst⟩ ⟨hbl, hPc⟩ rfl (by simp [hl1]) rfl hstk (by rw [xx_cats]; simpa using hcat) (xx_dec1 hdg rfl) ⟨hcells, hslots⟩) hge kk
      · cases hs
    · cases hs
  | invokevirtual n =>
    simp only [xc_step] at hs
    split at hs
    · rename_i n' lst hq
      split at hs
      · rename_i ci hci
        split at hs
        · rename_i q' hlook
          obtain ⟨rfl, hst, hlen, hcat⟩ := xc_cut_some hs
          obtain ⟨hpos, ok, hlk, ⟨r0, hcl, hsel⟩, hinst, hd⟩ := okvm _ _ _ _ _ _ hq hlook
          obtain ⟨n2, rfl⟩ : ∃ n2, n' = n2 + 1 := ⟨n' - 1, by omega⟩
          have hd : (parseMethodDescriptor (nm q).desc).map (fun d => d.parameters.length) = some n2 := hd
          cases as with
          | nil => simp at hlen
          | cons a0 as1 =>
            have hl1 : as1.length = n2 := by simpa using hlen
            have hget : st[n2 + 1 - 1]? = some a0 := by
              rw [hst]
              simp [List.getElem?_append, hl1]
            unfold xc_recv at hci
            rw [hget] at hci
            split at hci
            · rename_i b hb0
              cases hb0
              split at hci
              · rename_i ci' fs hat
                cases hci
                have hrecv : ∃ cell : Cell, H[ad b]? = some cell ∧ cell.vm.isStatics = false ∧ s.vm.findClass r0.1 = some cell.cls := by
                  rcases hS.1.2.2 b _ hat with ⟨g1, -⟩ | ⟨g1, -, r1, g2, g3, -⟩ | ⟨r1, g1, g2, cell, g3, g4, g5, g6, g7, g8⟩
                  · rw [if_pos (by omega)] at hcl
                    have := (List.getElem?_eq_some_iff.mp hcl).1
                    omega
                  · rw [if_pos g1] at hcl
                    cases g2.symm.trans hcl
                    exact g3
                  · rw [if_neg (Nat.not_le.mpr (List.getElem?_eq_some_iff.mp g1).1)] at hcl
                    cases g1.symm.trans hcl
                    exact ⟨cell, g3, g6, by rw [g4]; exact (hK.1.1 _ _ hcl).2.1⟩
                have hstk : (F0 m pc L (st.map (xx_v ad))).stack = (as1.map (xx_v ad)).reverse ++ .ref (ad b) :: r.map (xx_v ad) := by
                  show st.map (xx_v ad) = _
                  rw [hst]
                  simp [xx_v]
                rcases hlk with hlk | ⟨host, hlk⟩
                · exact xx_after hS (va_runV (As := as1.map (xx_v ad)) (b := ad b) (C := r0.1) ⟨hexec, hb, hml, hown, hts⟩ hM ⟨callB_of n2 hts (hws ok) rfl rfl rfl (hts _ ok.2.1) (hts _ hlk) ⟨ok.2.2.1.1, ok.2.2.1.2, hd⟩ (hroom ok), hts _ hinst, hts _ hsel⟩ ⟨hbl, hrecv, hPc⟩ rfl (by simp [hl1]) rfl hstk (by rw [xx_cats]; simpa using hcat) (xx_dec1 hdg rfl) ⟨hcells, hslots⟩) hge kk
                · exact xx_after hS (va_runVN (As := as1.map (xx_v ad)) (b := ad b) (C := r0.1) ⟨hexec, hb, hml, hown, hts⟩ hM ⟨va_cnB n2 hts (hws ok) rfl rfl rfl (hK.2.1 _ hlk) (hts _ ok.2.1) ⟨ok.2.2.1.1, ok.2.2.1.2, hd⟩ (hroom ok), hts _ hinst, hts _ hsel⟩ ⟨hbl, hrecv, hPc⟩ rfl (by simp [hl1]) rfl hstk (by rw [xx_cats]; simpa using hcat) (xx_dec1 hdg rfl) ⟨hcells, hslots⟩) hge kk
              · cases hci
            · cases hci
        · cases hs
      · cases hs
    · cases hs
  | _ => cases hs
/-- the end of a method -/
theorem xr_sound {i : Instr} {v : Option Value} {Qc : Array Value → State → Outcome → State → Prop} {free : Addr → Prop} {ret : Option FieldType} (hexec : p.tables.exec = Jvm.exec) (hb : c.code = cc) (hr : meth.sig.returnType = ret) (hlocks : meth.locks = false) (hdg : xx_dec cc pc i) (hs : xr_step ret i st = some v) (hq : ∀ t : State, t.heap = H → s.WarmedH t.vm → Qc args s (.returned (v.map (xx_v ad))) t) (hf : ∀ q ∈ locs, free q.base) :
    W p l e R s m args below meth c H locs cells slots (MQ below Qc args s cells slots free) (F0 m pc L (st.map (xx_v ad))) := by
  cases i with
  | return_ =>
    simp only [xr_step] at hs
    split at hs
    · cases hs
      exact W.vret hexec hb hr hq hf (xx_dec1 hdg rfl) hlocks
    · cases hs
  | ireturn =>
    simp only [xr_step] at hs
    split at hs
    · obtain ⟨g, hs⟩ := xa_g_some hs
      cases hs
      exact W.zret hexec hb hr (xx_fit_ok (ad := ad) g).1 hq hf (xx_dec1 hdg rfl) hlocks
    · cases hs
  | lreturn =>
    simp only [xr_step] at hs
    split at hs
    · cases hs
      exact W.lret hexec hb hr hq hf (xx_dec1 hdg rfl) hlocks
    · cases hs
  | areturn =>
    simp only [xr_step] at hs
    split at hs
    · rename_i ty x
      obtain ⟨g, hs⟩ := xa_g_some hs
      cases hs
      refine W.aret hexec hb hr ?_ (Or.inr ⟨_, rfl⟩) hq hf (xx_dec1 hdg rfl) hlocks
      cases ty <;> first | exact Or.inl ⟨_, rfl⟩ | exact Or.inr ⟨_, rfl⟩ | cases g
    · rename_i ty
      obtain ⟨g, hs⟩ := xa_g_some hs
      cases hs
      refine W.aret hexec hb hr ?_ (Or.inl rfl) hq hf (xx_dec1 hdg rfl) hlocks
      cases ty <;> first | exact Or.inl ⟨_, rfl⟩ | exact Or.inr ⟨_, rfl⟩ | cases g
    · cases hs
  | _ => cases hs
end XXD
end
section
/-! THE EXECUTOR IS SOUND -/
/-- a step keeps the number of locals -/
theorem xa_len {i : Instr} {pc pc' : Nat} {ls ls' : xx_L} {st st' : List Value} (hs : xa_step i pc ls st = some (pc', ls', st')) : ls'.length = ls.length := by
  have s1 : ∀ (j : Nat) (v : Value), (xx_set1 ls j v).length = ls.length := fun j v => xx_set1_len ls j v
  have s2 : ∀ (j : Nat) (v : Value), (xx_set2 ls j v).length = ls.length := fun j v => by simp [xx_set2, xx_set1_len]
  have j1 : ∀ {off : Int} {r : List Value}, xa_jmp pc off ls r = some (pc', ls', st') → ls'.length = ls.length := fun z => by rw [(xa_jmp_some z).2.1]
  have j2 : ∀ {b : Bool} {off : Int} {r : List Value}, xa_if b pc off ls r = some (pc', ls', st') → ls'.length = ls.length := fun z => by
    obtain ⟨t, -, -, e1, -⟩ := xa_if_some z
    rw [e1]
  cases i <;> simp only [xa_step, xa_ild, xa_lld, xa_ald, xa_ist, xa_lst, xa_ast, xa_inc, xa_ii, xa_iid, xa_ll, xa_lld0, xa_li, xa_i, xa_icmp, xa_ifc, xa_table, xa_look] at hs <;>
    (repeat' split at hs) <;>
    first
      | (cases hs; done)
      | (cases hs; rfl)
      | exact j1 hs
      | exact j2 hs
      | (obtain ⟨-, hs⟩ := xa_g_some hs; cases hs; rfl)
      | (obtain ⟨-, hs⟩ := xa_g_some hs; exact j1 hs)
      | (obtain ⟨-, hs⟩ := xa_g_some hs; cases hs; exact s1 _ _)
      | (obtain ⟨-, hs⟩ := xa_g_some hs; cases hs; exact s2 _ _)
      | (cases hs; exact s1 _ _)
theorem xx_run_mono {P : xx_P} {Rc : Nat → List Value → xx_H → xx_R} (hR : ∀ q as h v h1, Rc q as h = some (v, h1) → h.length ≤ h1.length ∧ xx_sz h ≤ xx_sz h1) : ∀ (f k pc : Nat) (ls : xx_L) (st : List Value) (h : xx_H) (v : Option Value) (h1 : xx_H), xx_run P Rc f k pc ls st h = some (v, h1) → h.length ≤ h1.length ∧ xx_sz h ≤ xx_sz h1 := by
  intro f
  induction f with
  | zero => intro k pc ls st h v h1 hs; cases hs
  | succ f ih =>
    intro k pc ls st h v h1 hs
    unfold xx_run at hs
    split at hs
    · cases hs
    · split at hs
      · exact ih _ _ _ _ _ _ _ hs
      · split at hs
        · rename_i hb
          have e1 := xb_mono hb
          have e2 := ih _ _ _ _ _ _ _ hs
          exact ⟨Nat.le_trans e1.1 e2.1, Nat.le_trans e1.2 e2.2⟩
        · split at hs
          · exact ih _ _ _ _ _ _ _ hs
          · split at hs
            · split at hs
              · rename_i hc
                have e1 := hR _ _ _ _ _ hc
                have e2 := ih _ _ _ _ _ _ _ hs
                exact ⟨Nat.le_trans e1.1 e2.1, Nat.le_trans e1.2 e2.2⟩
              · cases hs
            · split at hs
              · cases hs
                exact ⟨Nat.le_refl _, Nat.le_refl _⟩
              · cases hs
theorem xx_call_mono {P : xx_P} {F : Nat} : ∀ (d q : Nat) (as : List Value) (h : xx_H) (v : Option Value) (h1 : xx_H), xx_call P F d q as h = some (v, h1) → h.length ≤ h1.length ∧ xx_sz h ≤ xx_sz h1 := by
  intro d
  induction d with
  | zero => intro q as h v h1 hs; cases hs
  | succ d ih =>
    intro q as h v h1 hs
    unfold xx_call at hs
    split at hs
    · exact xx_run_mono ih _ _ _ _ _ _ _ _ hs
    · cases hs
theorem xc_okm {P : xx_P} {Ts nst : List Cond} {cl ol : List vw_C} {on : Nat → String} {nm : Nat → MethodName} {bt : Nat → ByteArray} {k q : Nat} {i : Instr} {st as r : List Value} {h : xx_H} (hok : xx_OKc P Ts nst cl ol on nm bt) (hs : xc_step P k i st h = some (q, as, r)) : xx_okm P Ts on nm bt q := by
  obtain ⟨-, -, oksm, okpm, okp0, okvm, -⟩ := hok
  cases i with
  | invokestatic n =>
    simp only [xc_step] at hs
    split at hs
    · rename_i q' n' hq
      obtain ⟨rfl, -⟩ := xc_cut_some hs
      exact (oksm _ _ _ _ hq).1
    · cases hs
  | invokespecial n =>
    simp only [xc_step] at hs
    split at hs
    · rename_i q' n' hq
      split at hs
      · obtain ⟨rfl, -⟩ := xc_cut_some hs
        have hpos := okp0 _ _ _ _ hq
        obtain ⟨n2, rfl⟩ : ∃ n2, n' = n2 + 1 := ⟨n' - 1, by omega⟩
        exact (okpm _ _ _ _ hq).1
      · cases hs
    · cases hs
  | invokevirtual n =>
    simp only [xc_step] at hs
    split at hs
    · rename_i n' lst hq
      split at hs
      · rename_i ci hci
        split at hs
        · rename_i q' hlook
          obtain ⟨rfl, -⟩ := xc_cut_some hs
          exact (okvm _ _ _ _ _ _ hq hlook).2.1
        · cases hs
      · cases hs
    · cases hs
  | _ => cases hs
/-- the locals at the entry -/
theorem xx_args_len {ad : Nat → Nat} (as : List Value) : (lg_sl (as.map (xx_v ad))).length = (xx_args as).length := by
  induction as with
  | nil => rfl
  | cons v l ih => cases v <;> simp_all [lg_sl, xx_args, xx_v, Value.category]
theorem xx_args_at {ad : Nat → Nat} (as : List Value) : ∀ (n i : Nat) (v : Value), (xx_args as)[i]? = some (some v) → (n + i, xx_v ad v) ∈ lv_args n (as.map (xx_v ad)) := by
  induction as with
  | nil => intro n i v h; simp [xx_args] at h
  | cons a l ih =>
    intro n i v h
    by_cases hc : a.category = 2
    · have e1 : xx_args (a :: l) = some a :: none :: xx_args l := by cases a <;> first | rfl | cases hc
      rw [e1] at h
      have e2 : lv_args n ((a :: l).map (xx_v ad)) = (n, xx_v ad a) :: lv_args (n + 2) (l.map (xx_v ad)) := by
        show (n, xx_v ad a) :: lv_args (if (xx_v ad a).category = 2 then n + 2 else n + 1) (l.map (xx_v ad)) = _
        rw [xx_v_cat, if_pos hc]
      rw [e2]
      match i, h with
      | 0, h => simp at h; subst h; exact List.mem_cons_self
      | 1, h => simp at h
      | i + 2, h =>
        have h2 := ih (n + 2) i v (by simpa using h)
        rw [show n + (i + 2) = n + 2 + i by omega]
        exact List.mem_cons_of_mem _ h2
    · have e1 : xx_args (a :: l) = some a :: xx_args l := by cases a <;> first | rfl | exact absurd rfl hc
      rw [e1] at h
      have e2 : lv_args n ((a :: l).map (xx_v ad)) = (n, xx_v ad a) :: lv_args (n + 1) (l.map (xx_v ad)) := by
        show (n, xx_v ad a) :: lv_args (if (xx_v ad a).category = 2 then n + 2 else n + 1) (l.map (xx_v ad)) = _
        rw [xx_v_cat, if_neg hc]
      rw [e2]
      match i, h with
      | 0, h => simp at h; subst h; exact List.mem_cons_self
      | i + 1, h =>
        have h2 := ih (n + 1) i v (by simpa using h)
        rw [show n + (i + 1) = n + 1 + i by omega]
        exact List.mem_cons_of_mem _ h2
theorem xx_ent_len {n : Nat} {as : List Value} (h : (xx_args as).length ≤ n) : (xx_ent n as).length = n := by simp [xx_ent]; omega
theorem xx_ent_has {ad : Nat → Nat} {n : Nat} {as : List Value} {L : Array Slot} (hn : (xx_args as).length ≤ n) (h : lv_has L n (lv_args 0 (as.map (xx_v ad)))) : xx_has ad (xx_ent n as) L := by
  refine ⟨by rw [xx_ent_len hn]; exact h.1, h.2.1, fun i v hv => ?_⟩
  unfold xx_ent at hv
  by_cases hi : i < (xx_args as).length
  · rw [List.getElem?_append_left hi] at hv
    have := xx_args_at (ad := ad) as 0 i v hv
    rw [Nat.zero_add] at this
    exact h.2.2 _ this
  · rw [List.getElem?_append_right (Nat.le_of_not_lt hi)] at hv
    have := List.mem_of_getElem? hv
    rw [List.mem_replicate] at this
    cases this.2
section XXM
variable {p : Program} {l : Launch} {e : Env} {R : Room} {s : State} {m : MethodId} {args : Array Value} {below : List Frame} {meth : Method} {c : Code} {Q : State → Prop}
variable {cc : ByteArray} {ad : Nat → Nat} {base : Nat} {D : va_G} {cl ol : List vw_C} {P : xx_P} {Ts nst : List Cond} {on : Nat → String} {strs : List (String × Nat × String × Nat)} {stv : List (String × String × String × Value)} {k : Nat} {nm : Nat → MethodName} {bt : Nat → ByteArray}
set_option maxHeartbeats 1000000 in
theorem xx_run_sound {F d c0 s0 : Nat} {v : Option Value} {h1 : xx_H} (hexec : p.tables.exec = Jvm.exec) (hb : c.code = bt k) (hml : c.maxLocals = xp_nl P k) (hts : ∀ w ∈ Ts, w.before args s = true) (hK : xx_K D cl nst strs stv ad base s s.heap) (hown : s.vm.findClass (on (xp_own P k)) = some m.cls) (hini : xp_ini P k = true → meth.name = "<init>") (hokb : xx_OKb P Ts nst cl ol on strs stv) (hokc : xx_OKc P Ts nst cl ol on nm bt) (ha : xx_ad (xp_n0 P) base ad)
    (hfr : d + 1 ≤ R.frames) (hlo : (d + 1) * 60 ≤ R.locals)
    (IH : ∀ q as h v h1, xx_okm P Ts on nm bt q → xx_call P F d q as h = some (v, h1) → xx_Met l P Ts nst cl ol D strs stv ad base nm bt d q as h v h1)
    (hcells : h1.length - c0 ≤ R.cells) (hslots : xx_sz h1 - s0 ≤ R.slots)
    (hret : ∀ (pc : Nat) (i : Instr) (L : Array Slot) (H : Heap) (locs : List Loc) (st : List Value), xx_dec (bt k) pc i → xr_step (xp_ret P k) i st = some v → xx_S D cl ol ad (xp_n0 P) base s h1 H locs → W p l e R s m args below meth c H locs (h1.length - c0) (xx_sz h1 - s0) Q (F0 m pc L (st.map (xx_v ad)))) :
    ∀ (f pc : Nat) (ls : xx_L) (st : List Value) (h : xx_H) (H : Heap) (locs : List Loc) (L : Array Slot), xx_run P (xx_call P F d) f k pc ls st h = some (v, h1) → ls.length = xp_nl P k → xx_has ad ls L → xx_S D cl ol ad (xp_n0 P) base s h H locs → c0 ≤ h.length → s0 ≤ xx_sz h → W p l e R s m args below meth c H locs (h.length - c0) (xx_sz h - s0) Q (F0 m pc L (st.map (xx_v ad))) := by
  intro f
  induction f with
  | zero => intro pc ls st h H locs L hs; cases hs
  | succ f ih =>
    intro pc ls st h H locs L hs hll hL hS hc0 hs0
    have hmo := xx_run_mono (fun q as h v h1 z => xx_call_mono d q as h v h1 z) _ _ _ _ _ _ _ _ hs
    unfold xx_run at hs
    split at hs
    · cases hs
    · rename_i i hi
      have hdg := hokc.1 k pc i hi
      split at hs
      · rename_i pc' ls' st' hstep
        refine xa_sound hexec hb hdg hstep hL (fun L1 hL1 => ih _ _ _ _ _ _ _ hs ?_ hL1 hS hc0 hs0)
        rw [xa_len hstep]; exact hll
      · split at hs
        · rename_i pc' st' h' hstep
          have e1 := xb_mono hstep
          have e2 := xx_run_mono (fun q as h v h1 z => xx_call_mono d q as h v h1 z) _ _ _ _ _ _ _ _ hs
          refine xb_sound hexec hb hts hK hown hini hokb ha hdg hstep hS (by omega) (by omega) (fun H' locs' hS' => ?_)
          exact W.cs (by omega) (by omega) (ih _ _ _ _ _ _ _ hs hll hL hS' (by omega) (by omega))
        · split at hs
          · rename_i st' hstep
            unfold xo_step at hstep
            split at hstep
            · rename_i n
              split at hstep
              · rename_i hobi
                obtain ⟨o1, o2, o3⟩ := hokc.2.2.2.2.2.2 _ _ hobi
                split at hstep
                · rename_i a r
                  split at hstep
                  · rename_i hcat
                    cases hstep
                    refine W.objInit hexec hb hown (hts _ o1) (hts _ o2) (hts _ o3) rfl (by rw [hml, ← hll]; exact hL.1) rfl (xx_dec1 hdg rfl) (by omega) ?_ (ih _ _ _ _ _ _ _ hs hll hL hS hc0 hs0)
                    have hcat := Nat.le_of_ble_eq_true hcat
                    show 2 * 0 + _ + 12 ≤ _
                    rw [xx_cats]
                    omega
                  · cases hstep
                · cases hstep
              · cases hstep
            · cases hstep
          · split at hs
            · rename_i q as r hstep
              split at hs
              · rename_i v' h' hcall
                have e1 := xx_call_mono d q as h v' h' hcall
                have e2 := xx_run_mono (fun q as h v h1 z => xx_call_mono d q as h v h1 z) _ _ _ _ _ _ _ _ hs
                refine xc_sound hexec hb (by rw [hml, ← hll]; exact hL.1.symm) hts hK hown hokb.2.2.2.2.2.2.2 hokc hdg hstep (IH q as h v' h' (xc_okm hokc hstep) hcall) e1.1 hS hfr hlo (by omega) (by omega) (fun H' locs' hS' => ?_)
                exact W.cs (by omega) (by omega) (ih _ _ _ _ _ _ _ hs hll hL hS' (by omega) (by omega))
              · cases hs
            · split at hs
              · rename_i v' hstep
                cases hs
                exact hret pc i L H locs st hdg hstep hS
              · cases hs
set_option maxHeartbeats 1000000 in
/-- every call that the executor runs is a contract of the machine -/
theorem xx_sound {l : Launch} (F : Nat) (hokb : xx_OKb P Ts nst cl ol on strs stv) (hokc : xx_OKc P Ts nst cl ol on nm bt) (ha : xx_ad (xp_n0 P) base ad) : ∀ (d q : Nat) (as : List Value) (h : xx_H) (v : Option Value) (h1 : xx_H), xx_okm P Ts on nm bt q → xx_call P F d q as h = some (v, h1) → xx_Met l P Ts nst cl ol D strs stv ad base nm bt d q as h v h1 := by
  intro d
  induction d with
  | zero => intro q as h v h1 _ hs; cases hs
  | succ d ih =>
    intro q as h v h1 hok hs
    unfold xx_call at hs
    split at hs
    · rename_i hle
      have hle := Nat.le_of_ble_eq_true hle
      unfold xx_Met
      refine Met.ofW (cc := bt q) (maxL := xp_nl P q) (ret := xp_ret P q) hok.2.2.2.1 rfl ?_
      intro p e s m args below meth c s₁ B hml hv
      obtain ⟨rfl, hrep, hK⟩ := hv
      have hts0 := atoms_spec (ws := Cond.code (nm q) (bt q) (xp_nl P q) (xp_ret P q) :: Ts) B.pre
      have hts : ∀ w ∈ Ts, w.before (as.map (xx_v ad)).toArray s = true := fun w hw => hts0 w (List.mem_cons_of_mem _ hw)
      have hown : s.vm.findClass (on (xp_own P q)) = some m.cls := by rw [hok.2.2.2.2.1]; exact findClass_of_methodNamed B.named
      have hin : meth.name = (nm q).name := (name_of_methodNamed B.named B.method).1
      have hl := lv_entry (as.map (xx_v ad)) (n := xp_nl P q) (by rw [xx_args_len]; exact hle)
      rw [lg_entry_eq]
      generalize (lg_sl (as.map (xx_v ad)) ++ List.replicate (xp_nl P q - (lg_sl (as.map (xx_v ad))).length) Slot.unset).toArray = L at hl ⊢
      have hS0 : xx_S D cl ol ad (xp_n0 P) base s h s.heap [] := ⟨hrep, fun _ _ => rfl, fun x hx => (by cases hx), Nat.le_refl _⟩
      have hrun := xx_run_sound (e := e) (below := below) (Q := MQ below (xx_Qc D cl ol ad (xp_n0 P) base v h1) (as.map (xx_v ad)).toArray s (h1.length - h.length) (xx_sz h1 - xx_sz h) (fun q => base ≤ q)) (c0 := h.length) (s0 := xx_sz h) (R := (headSpec (Cond.code (nm q) (bt q) (xp_nl P q) (xp_ret P q) :: Ts) { frames := d + 1, cells := h1.length - h.length, slots := xx_sz h1 - xx_sz h, locals := (d + 1) * 60 }).room) B.exec B.bytes hml hts hK hown (fun z => by rw [hin]; exact hok.2.2.2.2.2.1 z) hokb hokc ha (Nat.le_refl _) (Nat.le_refl _) ih (Nat.le_refl _) (Nat.le_refl _)
        (fun pc i L H locs st hdg hr hS => xr_sound B.exec B.bytes B.returns B.notSynchronized hdg hr (fun t ht hW => ⟨rfl, by rw [ht]; exact xx_rep_moved hW.alike hS.1, fun q hq => by rw [ht]; exact hS.2.1 q hq⟩) hS.2.2.1)
        F 0 (xx_ent (xp_nl P q) as) [] h s.heap [] L hs (xx_ent_len hle) (xx_ent_has hle hl) hS0 (Nat.le_refl _) (Nat.le_refl _)
      exact W.cs (by omega) (by omega) hrun
    · cases hs
end XXM
end
section
/-! runs of the executor, goal first: 'xx_go': from here the method comes to its end, with Q of its answer and of the heap; 'xx_cl': a call does -/
def xx_go (P : xx_P) (d k pc : Nat) (ls : xx_L) (st : List Value) (h : xx_H) (Q : Option Value → xx_H → Prop) : Prop := ∃ (F : Nat) (v : Option Value) (h1 : xx_H), (∀ f g : Nat, F ≤ f → F ≤ g → xx_run P (xx_call P g d) f k pc ls st h = some (v, h1)) ∧ Q v h1
def xx_cl (P : xx_P) (d q : Nat) (as : List Value) (h : xx_H) (Q : Option Value → xx_H → Prop) : Prop := ∃ (F : Nat) (v : Option Value) (h1 : xx_H), (∀ g : Nat, F ≤ g → xx_call P g d q as h = some (v, h1)) ∧ Q v h1
theorem go_w {P : xx_P} {d k pc : Nat} {ls : xx_L} {st : List Value} {h : xx_H} {Q Q' : Option Value → xx_H → Prop} (hw : ∀ v h1, Q v h1 → Q' v h1) (hg : xx_go P d k pc ls st h Q) : xx_go P d k pc ls st h Q' := by
  obtain ⟨F, v, h1, a, b⟩ := hg
  exact ⟨F, v, h1, a, hw v h1 b⟩
theorem cl_w {P : xx_P} {d q : Nat} {as : List Value} {h : xx_H} {Q Q' : Option Value → xx_H → Prop} (hw : ∀ v h1, Q v h1 → Q' v h1) (hg : xx_cl P d q as h Q) : xx_cl P d q as h Q' := by
  obtain ⟨F, v, h1, a, b⟩ := hg
  exact ⟨F, v, h1, a, hw v h1 b⟩
/-- a method from its entry -/
theorem cl_go {P : xx_P} {d q : Nat} {as : List Value} {h : xx_H} {Q : Option Value → xx_H → Prop} (hn : Nat.ble (xx_args as).length (xp_nl P q) = true) (hg : xx_go P d q 0 (xx_ent (xp_nl P q) as) [] h Q) : xx_cl P (d + 1) q as h Q := by
  obtain ⟨F, v, h1, a, b⟩ := hg
  refine ⟨F, v, h1, fun g hF => ?_, b⟩
  unfold xx_call
  rw [hn]
  exact a g g hF hF
/-- a step on locals and stack -/
theorem go_a {P : xx_P} {d k pc pc' : Nat} {ls ls' : xx_L} {st st' : List Value} {h : xx_H} {Q : Option Value → xx_H → Prop} {i : Instr} (hc : xp_code P k pc = some i) (hs : xa_step i pc ls st = some (pc', ls', st')) (hg : xx_go P d k pc' ls' st' h Q) : xx_go P d k pc ls st h Q := by
  obtain ⟨F, v, h1, a, b⟩ := hg
  refine ⟨F + 1, v, h1, fun f g hF hG => ?_, b⟩
  obtain ⟨f', rfl⟩ : ∃ f', f = f' + 1 := ⟨f - 1, by omega⟩
  unfold xx_run
  rw [hc]
  dsimp only
  rw [hs]
  exact a f' g (by omega) (by omega)
/-- a step on the heap -/
theorem go_b {P : xx_P} {d k pc pc' : Nat} {ls : xx_L} {st st' : List Value} {h h' : xx_H} {Q : Option Value → xx_H → Prop} {i : Instr} (hc : xp_code P k pc = some i) (ha : xa_step i pc ls st = none) (hs : xb_step P k i pc st h = some (pc', st', h')) (hg : xx_go P d k pc' ls st' h' Q) : xx_go P d k pc ls st h Q := by
  obtain ⟨F, v, h1, a, b⟩ := hg
  refine ⟨F + 1, v, h1, fun f g hF hG => ?_, b⟩
  obtain ⟨f', rfl⟩ : ∃ f', f = f' + 1 := ⟨f - 1, by omega⟩
  unfold xx_run
  rw [hc]
  dsimp only
  rw [ha, hs]
  exact a f' g (by omega) (by omega)
/-- Object.<init> -/
theorem go_o {P : xx_P} {d k pc : Nat} {ls : xx_L} {st st' : List Value} {h : xx_H} {Q : Option Value → xx_H → Prop} {n : Nat} (hc : xp_code P k pc = some (.invokespecial n)) (hs : xo_step P k (.invokespecial n) st = some st') (hg : xx_go P d k (pc + 3) ls st' h Q) : xx_go P d k pc ls st h Q := by
  obtain ⟨F, v, h1, a, b⟩ := hg
  refine ⟨F + 1, v, h1, fun f g hF hG => ?_, b⟩
  obtain ⟨f', rfl⟩ : ∃ f', f = f' + 1 := ⟨f - 1, by omega⟩
  unfold xx_run
  rw [hc]
  dsimp only
  rw [show xa_step (.invokespecial n) pc ls st = none from rfl, show xb_step P k (.invokespecial n) pc st h = none from rfl, hs]
  exact a f' g (by omega) (by omega)
/-- a call -/
theorem go_c {P : xx_P} {d k pc q : Nat} {ls : xx_L} {st as r : List Value} {h : xx_H} {Q Q1 : Option Value → xx_H → Prop} {i : Instr} (hc : xp_code P k pc = some i) (ha : xa_step i pc ls st = none) (hb : xb_step P k i pc st h = none) (ho : xo_step P k i st = none) (hs : xc_step P k i st h = some (q, as, r)) (hcl : xx_cl P d q as h Q1) (hg : ∀ v h1, Q1 v h1 → xx_go P d k (pc + 3) ls (v.toList ++ r) h1 Q) : xx_go P d k pc ls st h Q := by
  obtain ⟨F1, v1, h1, a1, b1⟩ := hcl
  obtain ⟨F, v, h2, a, b⟩ := hg v1 h1 b1
  refine ⟨F + F1 + 1, v, h2, fun f g hF hG => ?_, b⟩
  obtain ⟨f', rfl⟩ : ∃ f', f = f' + 1 := ⟨f - 1, by omega⟩
  unfold xx_run
  rw [hc]
  dsimp only
  rw [ha, hb, ho, hs]
  dsimp only
  rw [a1 g (by omega)]
  exact a f' g (by omega) (by omega)
/-- the end -/
theorem go_r {P : xx_P} {d k pc : Nat} {ls : xx_L} {st : List Value} {h : xx_H} {Q : Option Value → xx_H → Prop} {i : Instr} {v : Option Value} (hc : xp_code P k pc = some i) (ha : xa_step i pc ls st = none) (hb : xb_step P k i pc st h = none) (ho : xo_step P k i st = none) (hs0 : xc_step P k i st h = none) (hs : xr_step (xp_ret P k) i st = some v) (hq : Q v h) : xx_go P d k pc ls st h Q := by
  refine ⟨1, v, h, fun f g hF hG => ?_, hq⟩
  obtain ⟨f', rfl⟩ : ∃ f', f = f' + 1 := ⟨f - 1, by omega⟩
  unfold xx_run
  rw [hc]
  dsimp only
  rw [ha, hb, ho, hs0, hs]
/-- a branch on a condition: two ways -/
theorem go_if {P : xx_P} {d k pc t : Nat} {ls : xx_L} {st r : List Value} {h : xx_H} {Q : Option Value → xx_H → Prop} {i : Instr} {b : Bool} {off : Int} (hc : xp_code P k pc = some i) (hs : xa_step i pc ls st = xa_if b pc off ls r) (ht : xa_br pc off = some t) (h1 : b = true → xx_go P d k t ls r h Q) (h2 : b = false → xx_go P d k (pc + 3) ls r h Q) : xx_go P d k pc ls st h Q := by
  cases b with
  | true => exact go_a hc (hs.trans (by unfold xa_if; rw [ht])) (h1 rfl)
  | false => exact go_a hc (hs.trans (by unfold xa_if; rw [ht])) (h2 rfl)
end
