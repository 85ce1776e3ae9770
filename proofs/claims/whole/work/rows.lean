section
/-- a private method of a class that the tables say can be made, by its rows of tables_1 -/
def lw_okq (q : MethodName × Nat) : Prop := (q.1.cls ≠ "java/lang/invoke/MethodHandle" ∧ q.1.cls ≠ "java/lang/invoke/VarHandle") ∧ Cond.instantiable q.1.cls q.2 ∈ tables_1 ∧ Cond.privateMethod q.1 ∈ tables_1 ∧ Cond.instanceMethod q.1 ∈ tables_1
theorem lw_p0 : lw_okq (⟨"ClauseCourt", "writeStep", "(I)V"⟩, 10) := ⟨⟨by decide +kernel, by decide +kernel⟩, List.mem_of_getElem? (i := 25) (by decide +kernel), List.mem_of_getElem? (i := 398) (by decide +kernel), List.mem_of_getElem? (i := 399) (by decide +kernel)⟩
theorem lw_p1 : lw_okq (⟨"ClauseCourt$Reader", "begin", "(LClauseCourt$Bytes;ILClauseCourt$Sheet;)V"⟩, 9) := ⟨⟨by decide +kernel, by decide +kernel⟩, List.mem_of_getElem? (i := 87) (by decide +kernel), List.mem_of_getElem? (i := 439) (by decide +kernel), List.mem_of_getElem? (i := 440) (by decide +kernel)⟩
theorem lw_p2 : lw_okq (⟨"ClauseCourt$Tokens", "endOfToken", "(I)I"⟩, 4) := ⟨⟨by decide +kernel, by decide +kernel⟩, List.mem_of_getElem? (i := 93) (by decide +kernel), List.mem_of_getElem? (i := 462) (by decide +kernel), List.mem_of_getElem? (i := 463) (by decide +kernel)⟩
theorem lw_p3 : lw_okq (⟨"ClauseCourt$Reader", "blameStepTooMany", "(Z)V"⟩, 9) := ⟨⟨by decide +kernel, by decide +kernel⟩, List.mem_of_getElem? (i := 87) (by decide +kernel), List.mem_of_getElem? (i := 523) (by decide +kernel), List.mem_of_getElem? (i := 524) (by decide +kernel)⟩
theorem lw_p4 : lw_okq (⟨"ClauseCourt$Reader", "faultOfToken", "(I)I"⟩, 9) := ⟨⟨by decide +kernel, by decide +kernel⟩, List.mem_of_getElem? (i := 87) (by decide +kernel), List.mem_of_getElem? (i := 527) (by decide +kernel), List.mem_of_getElem? (i := 528) (by decide +kernel)⟩
theorem lw_p5 : lw_okq (⟨"ClauseCourt$Tokens", "firstDigit", "()I"⟩, 4) := ⟨⟨by decide +kernel, by decide +kernel⟩, List.mem_of_getElem? (i := 93) (by decide +kernel), List.mem_of_getElem? (i := 535) (by decide +kernel), List.mem_of_getElem? (i := 536) (by decide +kernel)⟩
theorem lw_p6 : lw_okq (⟨"ClauseCourt$Reader", "blame", "(II)V"⟩, 9) := ⟨⟨by decide +kernel, by decide +kernel⟩, List.mem_of_getElem? (i := 87) (by decide +kernel), List.mem_of_getElem? (i := 548) (by decide +kernel), List.mem_of_getElem? (i := 549) (by decide +kernel)⟩
theorem lw_p7 : lw_okq (⟨"ClauseCourt$Reader", "readRow", "(I)V"⟩, 9) := ⟨⟨by decide +kernel, by decide +kernel⟩, List.mem_of_getElem? (i := 87) (by decide +kernel), List.mem_of_getElem? (i := 552) (by decide +kernel), List.mem_of_getElem? (i := 553) (by decide +kernel)⟩
theorem lw_p8 : lw_okq (⟨"ClauseCourt$Reader", "takeLiteral", "(II)V"⟩, 9) := ⟨⟨by decide +kernel, by decide +kernel⟩, List.mem_of_getElem? (i := 87) (by decide +kernel), List.mem_of_getElem? (i := 556) (by decide +kernel), List.mem_of_getElem? (i := 557) (by decide +kernel)⟩
theorem lw_p9 : lw_okq (⟨"ClauseCourt", "takeSpareAsProof", "()V"⟩, 10) := ⟨⟨by decide +kernel, by decide +kernel⟩, List.mem_of_getElem? (i := 25) (by decide +kernel), List.mem_of_getElem? (i := 572) (by decide +kernel), List.mem_of_getElem? (i := 573) (by decide +kernel)⟩
theorem lw_p10 : lw_okq (⟨"ClauseCourt", "startAnew", "()V"⟩, 10) := ⟨⟨by decide +kernel, by decide +kernel⟩, List.mem_of_getElem? (i := 25) (by decide +kernel), List.mem_of_getElem? (i := 576) (by decide +kernel), List.mem_of_getElem? (i := 577) (by decide +kernel)⟩
theorem lw_p11 : lw_okq (⟨"ClauseCourt$Clauses", "append", "(LClauseCourt$Sheet;I)V"⟩, 10) := ⟨⟨by decide +kernel, by decide +kernel⟩, List.mem_of_getElem? (i := 140) (by decide +kernel), List.mem_of_getElem? (i := 584) (by decide +kernel), List.mem_of_getElem? (i := 585) (by decide +kernel)⟩
theorem lw_p12 : lw_okq (⟨"ClauseCourt$Clauses", "listUsers", "()V"⟩, 10) := ⟨⟨by decide +kernel, by decide +kernel⟩, List.mem_of_getElem? (i := 140) (by decide +kernel), List.mem_of_getElem? (i := 592) (by decide +kernel), List.mem_of_getElem? (i := 593) (by decide +kernel)⟩
theorem lw_p13 : lw_okq (⟨"ClauseCourt$Clauses", "reserveUses", "()V"⟩, 10) := ⟨⟨by decide +kernel, by decide +kernel⟩, List.mem_of_getElem? (i := 140) (by decide +kernel), List.mem_of_getElem? (i := 596) (by decide +kernel), List.mem_of_getElem? (i := 597) (by decide +kernel)⟩
theorem lw_p14 : lw_okq (⟨"ClauseCourt", "tapeHas", "(I)Z"⟩, 10) := ⟨⟨by decide +kernel, by decide +kernel⟩, List.mem_of_getElem? (i := 25) (by decide +kernel), List.mem_of_getElem? (i := 642) (by decide +kernel), List.mem_of_getElem? (i := 643) (by decide +kernel)⟩
theorem lw_p15 : lw_okq (⟨"java/lang/Throwable", "fillInStackTrace", "(I)Ljava/lang/Throwable;"⟩, 6) := ⟨⟨by decide +kernel, by decide +kernel⟩, List.mem_of_getElem? (i := 683) (by decide +kernel), List.mem_of_getElem? (i := 681) (by decide +kernel), List.mem_of_getElem? (i := 682) (by decide +kernel)⟩
def lw_privs_1 : List (MethodName × Nat) := [(⟨"ClauseCourt", "writeStep", "(I)V"⟩, 10), (⟨"ClauseCourt$Reader", "begin", "(LClauseCourt$Bytes;ILClauseCourt$Sheet;)V"⟩, 9), (⟨"ClauseCourt$Tokens", "endOfToken", "(I)I"⟩, 4), (⟨"ClauseCourt$Reader", "blameStepTooMany", "(Z)V"⟩, 9), (⟨"ClauseCourt$Reader", "faultOfToken", "(I)I"⟩, 9), (⟨"ClauseCourt$Tokens", "firstDigit", "()I"⟩, 4), (⟨"ClauseCourt$Reader", "blame", "(II)V"⟩, 9), (⟨"ClauseCourt$Reader", "readRow", "(I)V"⟩, 9), (⟨"ClauseCourt$Reader", "takeLiteral", "(II)V"⟩, 9), (⟨"ClauseCourt", "takeSpareAsProof", "()V"⟩, 10), (⟨"ClauseCourt", "startAnew", "()V"⟩, 10), (⟨"ClauseCourt$Clauses", "append", "(LClauseCourt$Sheet;I)V"⟩, 10), (⟨"ClauseCourt$Clauses", "listUsers", "()V"⟩, 10), (⟨"ClauseCourt$Clauses", "reserveUses", "()V"⟩, 10), (⟨"ClauseCourt", "tapeHas", "(I)Z"⟩, 10), (⟨"java/lang/Throwable", "fillInStackTrace", "(I)Ljava/lang/Throwable;"⟩, 6)]
theorem lw_r1 : ∀ q ∈ lw_privs_1, lw_okq q := List.forall_mem_cons.mpr ⟨lw_p0, List.forall_mem_cons.mpr ⟨lw_p1, List.forall_mem_cons.mpr ⟨lw_p2, List.forall_mem_cons.mpr ⟨lw_p3, List.forall_mem_cons.mpr ⟨lw_p4, List.forall_mem_cons.mpr ⟨lw_p5, List.forall_mem_cons.mpr ⟨lw_p6, List.forall_mem_cons.mpr ⟨lw_p7, List.forall_mem_cons.mpr ⟨lw_p8, List.forall_mem_cons.mpr ⟨lw_p9, List.forall_mem_cons.mpr ⟨lw_p10, List.forall_mem_cons.mpr ⟨lw_p11, List.forall_mem_cons.mpr ⟨lw_p12, List.forall_mem_cons.mpr ⟨lw_p13, List.forall_mem_cons.mpr ⟨lw_p14, List.forall_mem_cons.mpr ⟨lw_p15, fun _ h => absurd h List.not_mem_nil⟩⟩⟩⟩⟩⟩⟩⟩⟩⟩⟩⟩⟩⟩⟩⟩
theorem lw_p16 : lw_okq (⟨"ClauseCourt$Reader", "expectWord", "(Ljava/lang/String;)V"⟩, 9) := ⟨⟨by decide +kernel, by decide +kernel⟩, List.mem_of_getElem? (i := 87) (by decide +kernel), List.mem_of_getElem? (i := 717) (by decide +kernel), List.mem_of_getElem? (i := 718) (by decide +kernel)⟩
theorem lw_p17 : lw_okq (⟨"ClauseCourt$Reader", "expectNumber", "(I)I"⟩, 9) := ⟨⟨by decide +kernel, by decide +kernel⟩, List.mem_of_getElem? (i := 87) (by decide +kernel), List.mem_of_getElem? (i := 722) (by decide +kernel), List.mem_of_getElem? (i := 723) (by decide +kernel)⟩
theorem lw_p18 : lw_okq (⟨"ClauseCourt", "noteReading", "()V"⟩, 10) := ⟨⟨by decide +kernel, by decide +kernel⟩, List.mem_of_getElem? (i := 25) (by decide +kernel), List.mem_of_getElem? (i := 730) (by decide +kernel), List.mem_of_getElem? (i := 731) (by decide +kernel)⟩
theorem lw_p19 : lw_okq (⟨"ClauseCourt$Reader", "readByteRow", "()V"⟩, 9) := ⟨⟨by decide +kernel, by decide +kernel⟩, List.mem_of_getElem? (i := 87) (by decide +kernel), List.mem_of_getElem? (i := 755) (by decide +kernel), List.mem_of_getElem? (i := 756) (by decide +kernel)⟩
theorem lw_p20 : lw_okq (⟨"ClauseCourt$Reader", "readByteLiteral", "()V"⟩, 9) := ⟨⟨by decide +kernel, by decide +kernel⟩, List.mem_of_getElem? (i := 87) (by decide +kernel), List.mem_of_getElem? (i := 759) (by decide +kernel), List.mem_of_getElem? (i := 760) (by decide +kernel)⟩
theorem lw_p21 : lw_okq (⟨"ClauseCourt$Judge", "lookFromNothing", "(I)V"⟩, 11) := ⟨⟨by decide +kernel, by decide +kernel⟩, List.mem_of_getElem? (i := 179) (by decide +kernel), List.mem_of_getElem? (i := 816) (by decide +kernel), List.mem_of_getElem? (i := 817) (by decide +kernel)⟩
theorem lw_p22 : lw_okq (⟨"ClauseCourt$Propagation", "takeBack", "(I)V"⟩, 18) := ⟨⟨by decide +kernel, by decide +kernel⟩, List.mem_of_getElem? (i := 208) (by decide +kernel), List.mem_of_getElem? (i := 824) (by decide +kernel), List.mem_of_getElem? (i := 825) (by decide +kernel)⟩
theorem lw_p23 : lw_okq (⟨"ClauseCourt$Propagation", "makeReady", "(I)V"⟩, 18) := ⟨⟨by decide +kernel, by decide +kernel⟩, List.mem_of_getElem? (i := 208) (by decide +kernel), List.mem_of_getElem? (i := 841) (by decide +kernel), List.mem_of_getElem? (i := 842) (by decide +kernel)⟩
theorem lw_p24 : lw_okq (⟨"ClauseCourt$Propagation", "truthOf", "(I)I"⟩, 18) := ⟨⟨by decide +kernel, by decide +kernel⟩, List.mem_of_getElem? (i := 208) (by decide +kernel), List.mem_of_getElem? (i := 849) (by decide +kernel), List.mem_of_getElem? (i := 850) (by decide +kernel)⟩
theorem lw_p25 : lw_okq (⟨"ClauseCourt$Propagation", "makeTrue", "(II)Z"⟩, 18) := ⟨⟨by decide +kernel, by decide +kernel⟩, List.mem_of_getElem? (i := 208) (by decide +kernel), List.mem_of_getElem? (i := 853) (by decide +kernel), List.mem_of_getElem? (i := 854) (by decide +kernel)⟩
theorem lw_p26 : lw_okq (⟨"ClauseCourt$Propagation", "takeFirstReady", "()I"⟩, 18) := ⟨⟨by decide +kernel, by decide +kernel⟩, List.mem_of_getElem? (i := 208) (by decide +kernel), List.mem_of_getElem? (i := 857) (by decide +kernel), List.mem_of_getElem? (i := 858) (by decide +kernel)⟩
theorem lw_p27 : lw_okq (⟨"ClauseCourt$Propagation", "isSatisfied", "(I)Z"⟩, 18) := ⟨⟨by decide +kernel, by decide +kernel⟩, List.mem_of_getElem? (i := 208) (by decide +kernel), List.mem_of_getElem? (i := 867) (by decide +kernel), List.mem_of_getElem? (i := 868) (by decide +kernel)⟩
theorem lw_p28 : lw_okq (⟨"ClauseCourt$Propagation", "openLiteral", "(I)I"⟩, 18) := ⟨⟨by decide +kernel, by decide +kernel⟩, List.mem_of_getElem? (i := 208) (by decide +kernel), List.mem_of_getElem? (i := 872) (by decide +kernel), List.mem_of_getElem? (i := 873) (by decide +kernel)⟩
theorem lw_p29 : lw_okq (⟨"ClauseCourt$Propagation", "wantOpposites", "(I)V"⟩, 18) := ⟨⟨by decide +kernel, by decide +kernel⟩, List.mem_of_getElem? (i := 208) (by decide +kernel), List.mem_of_getElem? (i := 885) (by decide +kernel), List.mem_of_getElem? (i := 886) (by decide +kernel)⟩
theorem lw_p30 : lw_okq (⟨"ClauseCourt$Judge", "keepUsed", "(I)V"⟩, 11) := ⟨⟨by decide +kernel, by decide +kernel⟩, List.mem_of_getElem? (i := 179) (by decide +kernel), List.mem_of_getElem? (i := 890) (by decide +kernel), List.mem_of_getElem? (i := 891) (by decide +kernel)⟩
theorem lw_p31 : lw_okq (⟨"ClauseCourt$Judge", "remove", "(I)V"⟩, 11) := ⟨⟨by decide +kernel, by decide +kernel⟩, List.mem_of_getElem? (i := 179) (by decide +kernel), List.mem_of_getElem? (i := 910) (by decide +kernel), List.mem_of_getElem? (i := 911) (by decide +kernel)⟩
def lw_privs_2 : List (MethodName × Nat) := [(⟨"ClauseCourt$Reader", "expectWord", "(Ljava/lang/String;)V"⟩, 9), (⟨"ClauseCourt$Reader", "expectNumber", "(I)I"⟩, 9), (⟨"ClauseCourt", "noteReading", "()V"⟩, 10), (⟨"ClauseCourt$Reader", "readByteRow", "()V"⟩, 9), (⟨"ClauseCourt$Reader", "readByteLiteral", "()V"⟩, 9), (⟨"ClauseCourt$Judge", "lookFromNothing", "(I)V"⟩, 11), (⟨"ClauseCourt$Propagation", "takeBack", "(I)V"⟩, 18), (⟨"ClauseCourt$Propagation", "makeReady", "(I)V"⟩, 18), (⟨"ClauseCourt$Propagation", "truthOf", "(I)I"⟩, 18), (⟨"ClauseCourt$Propagation", "makeTrue", "(II)Z"⟩, 18), (⟨"ClauseCourt$Propagation", "takeFirstReady", "()I"⟩, 18), (⟨"ClauseCourt$Propagation", "isSatisfied", "(I)Z"⟩, 18), (⟨"ClauseCourt$Propagation", "openLiteral", "(I)I"⟩, 18), (⟨"ClauseCourt$Propagation", "wantOpposites", "(I)V"⟩, 18), (⟨"ClauseCourt$Judge", "keepUsed", "(I)V"⟩, 11), (⟨"ClauseCourt$Judge", "remove", "(I)V"⟩, 11)]
theorem lw_r2 : ∀ q ∈ lw_privs_2, lw_okq q := List.forall_mem_cons.mpr ⟨lw_p16, List.forall_mem_cons.mpr ⟨lw_p17, List.forall_mem_cons.mpr ⟨lw_p18, List.forall_mem_cons.mpr ⟨lw_p19, List.forall_mem_cons.mpr ⟨lw_p20, List.forall_mem_cons.mpr ⟨lw_p21, List.forall_mem_cons.mpr ⟨lw_p22, List.forall_mem_cons.mpr ⟨lw_p23, List.forall_mem_cons.mpr ⟨lw_p24, List.forall_mem_cons.mpr ⟨lw_p25, List.forall_mem_cons.mpr ⟨lw_p26, List.forall_mem_cons.mpr ⟨lw_p27, List.forall_mem_cons.mpr ⟨lw_p28, List.forall_mem_cons.mpr ⟨lw_p29, List.forall_mem_cons.mpr ⟨lw_p30, List.forall_mem_cons.mpr ⟨lw_p31, fun _ h => absurd h List.not_mem_nil⟩⟩⟩⟩⟩⟩⟩⟩⟩⟩⟩⟩⟩⟩⟩⟩
theorem lw_p32 : lw_okq (⟨"ClauseCourt$Clauses", "contains", "(II)Z"⟩, 10) := ⟨⟨by decide +kernel, by decide +kernel⟩, List.mem_of_getElem? (i := 140) (by decide +kernel), List.mem_of_getElem? (i := 923) (by decide +kernel), List.mem_of_getElem? (i := 924) (by decide +kernel)⟩
theorem lw_p33 : lw_okq (⟨"ClauseCourt$Judge", "holds", "(II)Z"⟩, 11) := ⟨⟨by decide +kernel, by decide +kernel⟩, List.mem_of_getElem? (i := 179) (by decide +kernel), List.mem_of_getElem? (i := 936) (by decide +kernel), List.mem_of_getElem? (i := 937) (by decide +kernel)⟩
theorem lw_p34 : lw_okq (⟨"ClauseCourt$Judge", "weighPartners", "(I)I"⟩, 11) := ⟨⟨by decide +kernel, by decide +kernel⟩, List.mem_of_getElem? (i := 179) (by decide +kernel), List.mem_of_getElem? (i := 945) (by decide +kernel), List.mem_of_getElem? (i := 946) (by decide +kernel)⟩
theorem lw_p35 : lw_okq (⟨"ClauseCourt$Judge", "putBack", "(I)V"⟩, 11) := ⟨⟨by decide +kernel, by decide +kernel⟩, List.mem_of_getElem? (i := 179) (by decide +kernel), List.mem_of_getElem? (i := 962) (by decide +kernel), List.mem_of_getElem? (i := 963) (by decide +kernel)⟩
theorem lw_p36 : lw_okq (⟨"ClauseCourtModel", "fail", "()I"⟩, 59) := ⟨⟨by decide +kernel, by decide +kernel⟩, List.mem_of_getElem? (i := 1056) (by decide +kernel), List.mem_of_getElem? (i := 1253) (by decide +kernel), List.mem_of_getElem? (i := 1254) (by decide +kernel)⟩
theorem lw_p37 : lw_okq (⟨"ClauseCourtModel", "take", "(I)V"⟩, 59) := ⟨⟨by decide +kernel, by decide +kernel⟩, List.mem_of_getElem? (i := 1056) (by decide +kernel), List.mem_of_getElem? (i := 1257) (by decide +kernel), List.mem_of_getElem? (i := 1258) (by decide +kernel)⟩
theorem lw_p38 : lw_okq (⟨"ClauseCourtModel", "beginRead", "(I)V"⟩, 59) := ⟨⟨by decide +kernel, by decide +kernel⟩, List.mem_of_getElem? (i := 1056) (by decide +kernel), List.mem_of_getElem? (i := 1261) (by decide +kernel), List.mem_of_getElem? (i := 1262) (by decide +kernel)⟩
theorem lw_p39 : lw_okq (⟨"ClauseCourtModel", "need", "()V"⟩, 59) := ⟨⟨by decide +kernel, by decide +kernel⟩, List.mem_of_getElem? (i := 1056) (by decide +kernel), List.mem_of_getElem? (i := 1265) (by decide +kernel), List.mem_of_getElem? (i := 1266) (by decide +kernel)⟩
theorem lw_p40 : lw_okq (⟨"ClauseCourtModel", "next", "()Z"⟩, 59) := ⟨⟨by decide +kernel, by decide +kernel⟩, List.mem_of_getElem? (i := 1056) (by decide +kernel), List.mem_of_getElem? (i := 1269) (by decide +kernel), List.mem_of_getElem? (i := 1270) (by decide +kernel)⟩
theorem lw_p41 : lw_okq (⟨"ClauseCourtModel", "wrong", "(II)V"⟩, 59) := ⟨⟨by decide +kernel, by decide +kernel⟩, List.mem_of_getElem? (i := 1056) (by decide +kernel), List.mem_of_getElem? (i := 1276) (by decide +kernel), List.mem_of_getElem? (i := 1277) (by decide +kernel)⟩
theorem lw_p42 : lw_okq (⟨"ClauseCourtModel", "isWord", "(IIII)Z"⟩, 59) := ⟨⟨by decide +kernel, by decide +kernel⟩, List.mem_of_getElem? (i := 1056) (by decide +kernel), List.mem_of_getElem? (i := 1280) (by decide +kernel), List.mem_of_getElem? (i := 1281) (by decide +kernel)⟩
theorem lw_p43 : lw_okq (⟨"ClauseCourtModel", "within", "(I)I"⟩, 59) := ⟨⟨by decide +kernel, by decide +kernel⟩, List.mem_of_getElem? (i := 1056) (by decide +kernel), List.mem_of_getElem? (i := 1284) (by decide +kernel), List.mem_of_getElem? (i := 1285) (by decide +kernel)⟩
theorem lw_p44 : lw_okq (⟨"ClauseCourtModel", "number", "()I"⟩, 59) := ⟨⟨by decide +kernel, by decide +kernel⟩, List.mem_of_getElem? (i := 1056) (by decide +kernel), List.mem_of_getElem? (i := 1288) (by decide +kernel), List.mem_of_getElem? (i := 1289) (by decide +kernel)⟩
theorem lw_p45 : lw_okq (⟨"ClauseCourtModel", "beginRow", "()V"⟩, 59) := ⟨⟨by decide +kernel, by decide +kernel⟩, List.mem_of_getElem? (i := 1056) (by decide +kernel), List.mem_of_getElem? (i := 1292) (by decide +kernel), List.mem_of_getElem? (i := 1293) (by decide +kernel)⟩
theorem lw_p46 : lw_okq (⟨"ClauseCourtModel", "readRowOf", "(Z)V"⟩, 59) := ⟨⟨by decide +kernel, by decide +kernel⟩, List.mem_of_getElem? (i := 1056) (by decide +kernel), List.mem_of_getElem? (i := 1296) (by decide +kernel), List.mem_of_getElem? (i := 1297) (by decide +kernel)⟩
theorem lw_p47 : lw_okq (⟨"ClauseCourtModel", "literal", "(II)V"⟩, 59) := ⟨⟨by decide +kernel, by decide +kernel⟩, List.mem_of_getElem? (i := 1056) (by decide +kernel), List.mem_of_getElem? (i := 1300) (by decide +kernel), List.mem_of_getElem? (i := 1301) (by decide +kernel)⟩
def lw_privs_3 : List (MethodName × Nat) := [(⟨"ClauseCourt$Clauses", "contains", "(II)Z"⟩, 10), (⟨"ClauseCourt$Judge", "holds", "(II)Z"⟩, 11), (⟨"ClauseCourt$Judge", "weighPartners", "(I)I"⟩, 11), (⟨"ClauseCourt$Judge", "putBack", "(I)V"⟩, 11), (⟨"ClauseCourtModel", "fail", "()I"⟩, 59), (⟨"ClauseCourtModel", "take", "(I)V"⟩, 59), (⟨"ClauseCourtModel", "beginRead", "(I)V"⟩, 59), (⟨"ClauseCourtModel", "need", "()V"⟩, 59), (⟨"ClauseCourtModel", "next", "()Z"⟩, 59), (⟨"ClauseCourtModel", "wrong", "(II)V"⟩, 59), (⟨"ClauseCourtModel", "isWord", "(IIII)Z"⟩, 59), (⟨"ClauseCourtModel", "within", "(I)I"⟩, 59), (⟨"ClauseCourtModel", "number", "()I"⟩, 59), (⟨"ClauseCourtModel", "beginRow", "()V"⟩, 59), (⟨"ClauseCourtModel", "readRowOf", "(Z)V"⟩, 59), (⟨"ClauseCourtModel", "literal", "(II)V"⟩, 59)]
theorem lw_r3 : ∀ q ∈ lw_privs_3, lw_okq q := List.forall_mem_cons.mpr ⟨lw_p32, List.forall_mem_cons.mpr ⟨lw_p33, List.forall_mem_cons.mpr ⟨lw_p34, List.forall_mem_cons.mpr ⟨lw_p35, List.forall_mem_cons.mpr ⟨lw_p36, List.forall_mem_cons.mpr ⟨lw_p37, List.forall_mem_cons.mpr ⟨lw_p38, List.forall_mem_cons.mpr ⟨lw_p39, List.forall_mem_cons.mpr ⟨lw_p40, List.forall_mem_cons.mpr ⟨lw_p41, List.forall_mem_cons.mpr ⟨lw_p42, List.forall_mem_cons.mpr ⟨lw_p43, List.forall_mem_cons.mpr ⟨lw_p44, List.forall_mem_cons.mpr ⟨lw_p45, List.forall_mem_cons.mpr ⟨lw_p46, List.forall_mem_cons.mpr ⟨lw_p47, fun _ h => absurd h List.not_mem_nil⟩⟩⟩⟩⟩⟩⟩⟩⟩⟩⟩⟩⟩⟩⟩⟩
theorem lw_p48 : lw_okq (⟨"ClauseCourtModel", "settled", "()Z"⟩, 59) := ⟨⟨by decide +kernel, by decide +kernel⟩, List.mem_of_getElem? (i := 1056) (by decide +kernel), List.mem_of_getElem? (i := 1304) (by decide +kernel), List.mem_of_getElem? (i := 1305) (by decide +kernel)⟩
theorem lw_p49 : lw_okq (⟨"ClauseCourtModel", "number0", "()V"⟩, 59) := ⟨⟨by decide +kernel, by decide +kernel⟩, List.mem_of_getElem? (i := 1056) (by decide +kernel), List.mem_of_getElem? (i := 1308) (by decide +kernel), List.mem_of_getElem? (i := 1309) (by decide +kernel)⟩
theorem lw_p50 : lw_okq (⟨"ClauseCourtModel", "readBytes", "()V"⟩, 59) := ⟨⟨by decide +kernel, by decide +kernel⟩, List.mem_of_getElem? (i := 1056) (by decide +kernel), List.mem_of_getElem? (i := 1316) (by decide +kernel), List.mem_of_getElem? (i := 1317) (by decide +kernel)⟩
theorem lw_p51 : lw_okq (⟨"ClauseCourtModel", "readNumber", "()Z"⟩, 59) := ⟨⟨by decide +kernel, by decide +kernel⟩, List.mem_of_getElem? (i := 1056) (by decide +kernel), List.mem_of_getElem? (i := 1320) (by decide +kernel), List.mem_of_getElem? (i := 1321) (by decide +kernel)⟩
theorem lw_p52 : lw_okq (⟨"ClauseCourtModel", "readText", "()V"⟩, 59) := ⟨⟨by decide +kernel, by decide +kernel⟩, List.mem_of_getElem? (i := 1056) (by decide +kernel), List.mem_of_getElem? (i := 1324) (by decide +kernel), List.mem_of_getElem? (i := 1325) (by decide +kernel)⟩
theorem lw_p53 : lw_okq (⟨"ClauseCourtModel", "becomesProof", "()V"⟩, 59) := ⟨⟨by decide +kernel, by decide +kernel⟩, List.mem_of_getElem? (i := 1056) (by decide +kernel), List.mem_of_getElem? (i := 1328) (by decide +kernel), List.mem_of_getElem? (i := 1329) (by decide +kernel)⟩
theorem lw_p54 : lw_okq (⟨"ClauseCourtModel", "fromNothing", "()V"⟩, 59) := ⟨⟨by decide +kernel, by decide +kernel⟩, List.mem_of_getElem? (i := 1056) (by decide +kernel), List.mem_of_getElem? (i := 1340) (by decide +kernel), List.mem_of_getElem? (i := 1341) (by decide +kernel)⟩
theorem lw_p55 : lw_okq (⟨"ClauseCourtModel", "begin", "()V"⟩, 59) := ⟨⟨by decide +kernel, by decide +kernel⟩, List.mem_of_getElem? (i := 1056) (by decide +kernel), List.mem_of_getElem? (i := 1344) (by decide +kernel), List.mem_of_getElem? (i := 1345) (by decide +kernel)⟩
theorem lw_p56 : lw_okq (⟨"ClauseCourtModel", "propagate", "()V"⟩, 59) := ⟨⟨by decide +kernel, by decide +kernel⟩, List.mem_of_getElem? (i := 1056) (by decide +kernel), List.mem_of_getElem? (i := 1348) (by decide +kernel), List.mem_of_getElem? (i := 1349) (by decide +kernel)⟩
theorem lw_p57 : lw_okq (⟨"ClauseCourtModel", "first", "()I"⟩, 59) := ⟨⟨by decide +kernel, by decide +kernel⟩, List.mem_of_getElem? (i := 1056) (by decide +kernel), List.mem_of_getElem? (i := 1352) (by decide +kernel), List.mem_of_getElem? (i := 1353) (by decide +kernel)⟩
theorem lw_p58 : lw_okq (⟨"ClauseCourtModel", "unit", "(I)I"⟩, 59) := ⟨⟨by decide +kernel, by decide +kernel⟩, List.mem_of_getElem? (i := 1056) (by decide +kernel), List.mem_of_getElem? (i := 1356) (by decide +kernel), List.mem_of_getElem? (i := 1357) (by decide +kernel)⟩
theorem lw_p59 : lw_okq (⟨"ClauseCourtModel", "longOf", "(I)I"⟩, 59) := ⟨⟨by decide +kernel, by decide +kernel⟩, List.mem_of_getElem? (i := 1056) (by decide +kernel), List.mem_of_getElem? (i := 1360) (by decide +kernel), List.mem_of_getElem? (i := 1361) (by decide +kernel)⟩
theorem lw_p60 : lw_okq (⟨"ClauseCourtModel", "literalOf", "(II)I"⟩, 59) := ⟨⟨by decide +kernel, by decide +kernel⟩, List.mem_of_getElem? (i := 1056) (by decide +kernel), List.mem_of_getElem? (i := 1364) (by decide +kernel), List.mem_of_getElem? (i := 1365) (by decide +kernel)⟩
theorem lw_p61 : lw_okq (⟨"ClauseCourtModel", "valueOf", "(I)I"⟩, 59) := ⟨⟨by decide +kernel, by decide +kernel⟩, List.mem_of_getElem? (i := 1056) (by decide +kernel), List.mem_of_getElem? (i := 1368) (by decide +kernel), List.mem_of_getElem? (i := 1369) (by decide +kernel)⟩
theorem lw_p62 : lw_okq (⟨"ClauseCourtModel", "becomes", "(II)V"⟩, 59) := ⟨⟨by decide +kernel, by decide +kernel⟩, List.mem_of_getElem? (i := 1056) (by decide +kernel), List.mem_of_getElem? (i := 1372) (by decide +kernel), List.mem_of_getElem? (i := 1373) (by decide +kernel)⟩
theorem lw_p63 : lw_okq (⟨"ClauseCourtModel", "delete", "(IZ)V"⟩, 59) := ⟨⟨by decide +kernel, by decide +kernel⟩, List.mem_of_getElem? (i := 1056) (by decide +kernel), List.mem_of_getElem? (i := 1376) (by decide +kernel), List.mem_of_getElem? (i := 1377) (by decide +kernel)⟩
def lw_privs_4 : List (MethodName × Nat) := [(⟨"ClauseCourtModel", "settled", "()Z"⟩, 59), (⟨"ClauseCourtModel", "number0", "()V"⟩, 59), (⟨"ClauseCourtModel", "readBytes", "()V"⟩, 59), (⟨"ClauseCourtModel", "readNumber", "()Z"⟩, 59), (⟨"ClauseCourtModel", "readText", "()V"⟩, 59), (⟨"ClauseCourtModel", "becomesProof", "()V"⟩, 59), (⟨"ClauseCourtModel", "fromNothing", "()V"⟩, 59), (⟨"ClauseCourtModel", "begin", "()V"⟩, 59), (⟨"ClauseCourtModel", "propagate", "()V"⟩, 59), (⟨"ClauseCourtModel", "first", "()I"⟩, 59), (⟨"ClauseCourtModel", "unit", "(I)I"⟩, 59), (⟨"ClauseCourtModel", "longOf", "(I)I"⟩, 59), (⟨"ClauseCourtModel", "literalOf", "(II)I"⟩, 59), (⟨"ClauseCourtModel", "valueOf", "(I)I"⟩, 59), (⟨"ClauseCourtModel", "becomes", "(II)V"⟩, 59), (⟨"ClauseCourtModel", "delete", "(IZ)V"⟩, 59)]
theorem lw_r4 : ∀ q ∈ lw_privs_4, lw_okq q := List.forall_mem_cons.mpr ⟨lw_p48, List.forall_mem_cons.mpr ⟨lw_p49, List.forall_mem_cons.mpr ⟨lw_p50, List.forall_mem_cons.mpr ⟨lw_p51, List.forall_mem_cons.mpr ⟨lw_p52, List.forall_mem_cons.mpr ⟨lw_p53, List.forall_mem_cons.mpr ⟨lw_p54, List.forall_mem_cons.mpr ⟨lw_p55, List.forall_mem_cons.mpr ⟨lw_p56, List.forall_mem_cons.mpr ⟨lw_p57, List.forall_mem_cons.mpr ⟨lw_p58, List.forall_mem_cons.mpr ⟨lw_p59, List.forall_mem_cons.mpr ⟨lw_p60, List.forall_mem_cons.mpr ⟨lw_p61, List.forall_mem_cons.mpr ⟨lw_p62, List.forall_mem_cons.mpr ⟨lw_p63, fun _ h => absurd h List.not_mem_nil⟩⟩⟩⟩⟩⟩⟩⟩⟩⟩⟩⟩⟩⟩⟩⟩
theorem lw_p64 : lw_okq (⟨"ClauseCourtModel", "isOf", "(II)Z"⟩, 59) := ⟨⟨by decide +kernel, by decide +kernel⟩, List.mem_of_getElem? (i := 1056) (by decide +kernel), List.mem_of_getElem? (i := 1380) (by decide +kernel), List.mem_of_getElem? (i := 1381) (by decide +kernel)⟩
theorem lw_p65 : lw_okq (⟨"ClauseCourtModel", "has", "(II)Z"⟩, 59) := ⟨⟨by decide +kernel, by decide +kernel⟩, List.mem_of_getElem? (i := 1056) (by decide +kernel), List.mem_of_getElem? (i := 1384) (by decide +kernel), List.mem_of_getElem? (i := 1385) (by decide +kernel)⟩
theorem lw_p66 : lw_okq (⟨"ClauseCourtModel", "weighed", "(IZ)I"⟩, 59) := ⟨⟨by decide +kernel, by decide +kernel⟩, List.mem_of_getElem? (i := 1056) (by decide +kernel), List.mem_of_getElem? (i := 1388) (by decide +kernel), List.mem_of_getElem? (i := 1389) (by decide +kernel)⟩
theorem lw_p67 : lw_okq (⟨"ClauseCourtModel", "assume", "(I)V"⟩, 59) := ⟨⟨by decide +kernel, by decide +kernel⟩, List.mem_of_getElem? (i := 1056) (by decide +kernel), List.mem_of_getElem? (i := 1392) (by decide +kernel), List.mem_of_getElem? (i := 1393) (by decide +kernel)⟩
theorem lw_p68 : lw_okq (⟨"ClauseCourtModel", "uses", "(I)V"⟩, 59) := ⟨⟨by decide +kernel, by decide +kernel⟩, List.mem_of_getElem? (i := 1056) (by decide +kernel), List.mem_of_getElem? (i := 1396) (by decide +kernel), List.mem_of_getElem? (i := 1397) (by decide +kernel)⟩
theorem lw_p69 : lw_okq (⟨"ClauseCourtModel", "standsInUsed", "(I)Z"⟩, 59) := ⟨⟨by decide +kernel, by decide +kernel⟩, List.mem_of_getElem? (i := 1056) (by decide +kernel), List.mem_of_getElem? (i := 1400) (by decide +kernel), List.mem_of_getElem? (i := 1401) (by decide +kernel)⟩
theorem lw_p70 : lw_okq (⟨"ClauseCourtModel", "keepHint", "(II)V"⟩, 59) := ⟨⟨by decide +kernel, by decide +kernel⟩, List.mem_of_getElem? (i := 1056) (by decide +kernel), List.mem_of_getElem? (i := 1404) (by decide +kernel), List.mem_of_getElem? (i := 1405) (by decide +kernel)⟩
theorem lw_p71 : lw_okq (⟨"ClauseCourtModel", "ends", "(II)I"⟩, 59) := ⟨⟨by decide +kernel, by decide +kernel⟩, List.mem_of_getElem? (i := 1056) (by decide +kernel), List.mem_of_getElem? (i := 1408) (by decide +kernel), List.mem_of_getElem? (i := 1409) (by decide +kernel)⟩
theorem lw_p72 : lw_okq (⟨"ClauseCourtModel", "back", "(IZ)I"⟩, 59) := ⟨⟨by decide +kernel, by decide +kernel⟩, List.mem_of_getElem? (i := 1056) (by decide +kernel), List.mem_of_getElem? (i := 1412) (by decide +kernel), List.mem_of_getElem? (i := 1413) (by decide +kernel)⟩
theorem lw_p73 : lw_okq (⟨"ClauseCourtModel", "put", "(I)V"⟩, 59) := ⟨⟨by decide +kernel, by decide +kernel⟩, List.mem_of_getElem? (i := 1056) (by decide +kernel), List.mem_of_getElem? (i := 1436) (by decide +kernel), List.mem_of_getElem? (i := 1437) (by decide +kernel)⟩
theorem lw_p74 : lw_okq (⟨"ClauseCourtModel", "putNumber", "(I)V"⟩, 59) := ⟨⟨by decide +kernel, by decide +kernel⟩, List.mem_of_getElem? (i := 1056) (by decide +kernel), List.mem_of_getElem? (i := 1440) (by decide +kernel), List.mem_of_getElem? (i := 1441) (by decide +kernel)⟩
def lw_privs_5 : List (MethodName × Nat) := [(⟨"ClauseCourtModel", "isOf", "(II)Z"⟩, 59), (⟨"ClauseCourtModel", "has", "(II)Z"⟩, 59), (⟨"ClauseCourtModel", "weighed", "(IZ)I"⟩, 59), (⟨"ClauseCourtModel", "assume", "(I)V"⟩, 59), (⟨"ClauseCourtModel", "uses", "(I)V"⟩, 59), (⟨"ClauseCourtModel", "standsInUsed", "(I)Z"⟩, 59), (⟨"ClauseCourtModel", "keepHint", "(II)V"⟩, 59), (⟨"ClauseCourtModel", "ends", "(II)I"⟩, 59), (⟨"ClauseCourtModel", "back", "(IZ)I"⟩, 59), (⟨"ClauseCourtModel", "put", "(I)V"⟩, 59), (⟨"ClauseCourtModel", "putNumber", "(I)V"⟩, 59)]
theorem lw_r5 : ∀ q ∈ lw_privs_5, lw_okq q := List.forall_mem_cons.mpr ⟨lw_p64, List.forall_mem_cons.mpr ⟨lw_p65, List.forall_mem_cons.mpr ⟨lw_p66, List.forall_mem_cons.mpr ⟨lw_p67, List.forall_mem_cons.mpr ⟨lw_p68, List.forall_mem_cons.mpr ⟨lw_p69, List.forall_mem_cons.mpr ⟨lw_p70, List.forall_mem_cons.mpr ⟨lw_p71, List.forall_mem_cons.mpr ⟨lw_p72, List.forall_mem_cons.mpr ⟨lw_p73, List.forall_mem_cons.mpr ⟨lw_p74, fun _ h => absurd h List.not_mem_nil⟩⟩⟩⟩⟩⟩⟩⟩⟩⟩⟩
def lw_privs : List (MethodName × Nat) := lw_privs_1 ++ (lw_privs_2 ++ (lw_privs_3 ++ (lw_privs_4 ++ (lw_privs_5))))
def lw_tbl : List Cond := k2_sels lw_privs ++ tables_1
theorem lw_privs_ok : ∀ q ∈ lw_privs, lw_okq q := by
  show ∀ q ∈ lw_privs_1 ++ (lw_privs_2 ++ (lw_privs_3 ++ (lw_privs_4 ++ (lw_privs_5)))), lw_okq q
  exact List.forall_mem_append.mpr ⟨lw_r1, List.forall_mem_append.mpr ⟨lw_r2, List.forall_mem_append.mpr ⟨lw_r3, List.forall_mem_append.mpr ⟨lw_r4, lw_r5⟩⟩⟩⟩
end
section
def RX0 : String := "ClauseCourt$Bytes"
def TX0 : u_T := fun k => match k with
  | 0 => ("ClauseCourt$Bytes", "cells", "[B", true)
  | _ => ("ClauseCourt$Bytes", "written", "I", false)
def tyX0 : Nat → FieldType := fun k => match k with
  | 0 => .array .byte
  | _ => .int
theorem nmX0 : ∀ a, a < 2 → ∀ b, b < 2 → a ≠ b → (TX0 a).2.1 ≠ (TX0 b).2.1 := by decide +kernel
theorem tyX0_ok : ∀ k, k < 2 → parseFieldDescriptor (TX0 k).2.2.1 = some (tyX0 k) := by decide +kernel
abbrev cX0_init : ByteArray := prog_2_method_1_code
def yX0_init : MethodName := ⟨RX0, "<init>", "(I)V"⟩
abbrev cX0_clear : ByteArray := prog_2_method_2_code
def yX0_clear : MethodName := ⟨RX0, "clear", "()V"⟩
abbrev cX0_written : ByteArray := prog_2_method_3_code
def yX0_written : MethodName := ⟨RX0, "written", "()I"⟩
abbrev cX0_kept : ByteArray := prog_2_method_4_code
def yX0_kept : MethodName := ⟨RX0, "kept", "()I"⟩
abbrev cX0_at : ByteArray := prog_2_method_5_code
def yX0_at : MethodName := ⟨RX0, "at", "(I)I"⟩
abbrev cX0_add : ByteArray := prog_2_method_6_code
def yX0_add : MethodName := ⟨RX0, "add", "(I)V"⟩
abbrev cX0_addWord : ByteArray := prog_2_method_7_code
def yX0_addWord : MethodName := ⟨RX0, "addWord", "(I)V"⟩
abbrev cX0_addDigits : ByteArray := prog_2_method_8_code
def yX0_addDigits : MethodName := ⟨RX0, "addDigits", "(I)V"⟩
def RX1 : String := "ClauseCourt$Clauses"
def TX1 : u_T := fun k => match k with
  | 0 => ("ClauseCourt$Clauses", "literals", "LClauseCourt$Row;", true)
  | 1 => ("ClauseCourt$Clauses", "ends", "LClauseCourt$Row;", true)
  | 2 => ("ClauseCourt$Clauses", "numbersOfSteps", "LClauseCourt$Row;", true)
  | 3 => ("ClauseCourt$Clauses", "users", "LClauseCourt$Row;", true)
  | 4 => ("ClauseCourt$Clauses", "useStarts", "LClauseCourt$Row;", true)
  | 5 => ("ClauseCourt$Clauses", "useEnds", "LClauseCourt$Row;", true)
  | 6 => ("ClauseCourt$Clauses", "proof", "LClauseCourt$Sheet;", false)
  | 7 => ("ClauseCourt$Clauses", "filled", "I", false)
  | 8 => ("ClauseCourt$Clauses", "ofFormula", "I", false)
  | _ => ("ClauseCourt$Clauses", "inAll", "I", false)
def tyX1 : Nat → FieldType := fun k => match k with
  | 0 => .object "ClauseCourt$Row"
  | 1 => .object "ClauseCourt$Row"
  | 2 => .object "ClauseCourt$Row"
  | 3 => .object "ClauseCourt$Row"
  | 4 => .object "ClauseCourt$Row"
  | 5 => .object "ClauseCourt$Row"
  | 6 => .object "ClauseCourt$Sheet"
  | 7 => .int
  | 8 => .int
  | _ => .int
theorem nmX1 : ∀ a, a < 10 → ∀ b, b < 10 → a ≠ b → (TX1 a).2.1 ≠ (TX1 b).2.1 := by decide +kernel
theorem tyX1_ok : ∀ k, k < 10 → parseFieldDescriptor (TX1 k).2.2.1 = some (tyX1 k) := by decide +kernel
abbrev cX1_init : ByteArray := prog_3_method_1_code
def yX1_init : MethodName := ⟨RX1, "<init>", "(LClauseCourt$Sheet;)V"⟩
abbrev cX1_numberAll : ByteArray := prog_3_method_2_code
def yX1_numberAll : MethodName := ⟨RX1, "numberAll", "(LClauseCourt$Sheet;LClauseCourt$Sheet;)V"⟩
abbrev cX1_ofFormula : ByteArray := prog_3_method_3_code
def yX1_ofFormula : MethodName := ⟨RX1, "ofFormula", "()I"⟩
abbrev cX1_inAll : ByteArray := prog_3_method_4_code
def yX1_inAll : MethodName := ⟨RX1, "inAll", "()I"⟩
abbrev cX1_steps : ByteArray := prog_3_method_5_code
def yX1_steps : MethodName := ⟨RX1, "steps", "()I"⟩
abbrev cX1_numberOfStep : ByteArray := prog_3_method_6_code
def yX1_numberOfStep : MethodName := ⟨RX1, "numberOfStep", "(I)I"⟩
abbrev cX1_size : ByteArray := prog_3_method_7_code
def yX1_size : MethodName := ⟨RX1, "size", "(I)I"⟩
abbrev cX1_literal : ByteArray := prog_3_method_8_code
def yX1_literal : MethodName := ⟨RX1, "literal", "(II)I"⟩
abbrev cX1_isAsStep : ByteArray := prog_3_method_9_code
def yX1_isAsStep : MethodName := ⟨RX1, "isAsStep", "(II)Z"⟩
abbrev cX1_firstUse : ByteArray := prog_3_method_10_code
def yX1_firstUse : MethodName := ⟨RX1, "firstUse", "(I)I"⟩
abbrev cX1_endOfUses : ByteArray := prog_3_method_11_code
def yX1_endOfUses : MethodName := ⟨RX1, "endOfUses", "(I)I"⟩
abbrev cX1_user : ByteArray := prog_3_method_12_code
def yX1_user : MethodName := ⟨RX1, "user", "(I)I"⟩
abbrev cX1_contains : ByteArray := prog_3_method_13_code
def yX1_contains : MethodName := ⟨RX1, "contains", "(II)Z"⟩
abbrev cX1_append : ByteArray := prog_3_method_14_code
def yX1_append : MethodName := ⟨RX1, "append", "(LClauseCourt$Sheet;I)V"⟩
abbrev cX1_listUsers : ByteArray := prog_3_method_15_code
def yX1_listUsers : MethodName := ⟨RX1, "listUsers", "()V"⟩
abbrev cX1_reserveUses : ByteArray := prog_3_method_16_code
def yX1_reserveUses : MethodName := ⟨RX1, "reserveUses", "()V"⟩
def RX2 : String := "ClauseCourt$Hints"
def TX2 : u_T := fun k => match k with
  | 0 => ("ClauseCourt$Hints", "cells", "LClauseCourt$Row;", true)
  | 1 => ("ClauseCourt$Hints", "starts", "LClauseCourt$Row;", true)
  | 2 => ("ClauseCourt$Hints", "ends", "LClauseCourt$Row;", true)
  | _ => ("ClauseCourt$Hints", "filled", "I", false)
def tyX2 : Nat → FieldType := fun k => match k with
  | 0 => .object "ClauseCourt$Row"
  | 1 => .object "ClauseCourt$Row"
  | 2 => .object "ClauseCourt$Row"
  | _ => .int
theorem nmX2 : ∀ a, a < 4 → ∀ b, b < 4 → a ≠ b → (TX2 a).2.1 ≠ (TX2 b).2.1 := by decide +kernel
theorem tyX2_ok : ∀ k, k < 4 → parseFieldDescriptor (TX2 k).2.2.1 = some (tyX2 k) := by decide +kernel
abbrev cX2_init : ByteArray := prog_4_method_1_code
def yX2_init : MethodName := ⟨RX2, "<init>", "()V"⟩
abbrev cX2_clear : ByteArray := prog_4_method_2_code
def yX2_clear : MethodName := ⟨RX2, "clear", "()V"⟩
abbrev cX2_open : ByteArray := prog_4_method_3_code
def yX2_open : MethodName := ⟨RX2, "open", "(I)V"⟩
abbrev cX2_add : ByteArray := prog_4_method_4_code
def yX2_add : MethodName := ⟨RX2, "add", "(II)V"⟩
abbrev cX2_drop : ByteArray := prog_4_method_5_code
def yX2_drop : MethodName := ⟨RX2, "drop", "(I)V"⟩
abbrev cX2_at : ByteArray := prog_4_method_6_code
def yX2_at : MethodName := ⟨RX2, "at", "(II)I"⟩
def RX3 : String := "ClauseCourt$Judge"
def TX3 : u_T := fun k => match k with
  | 0 => ("ClauseCourt$Judge", "clauses", "LClauseCourt$Clauses;", true)
  | 1 => ("ClauseCourt$Judge", "propagation", "LClauseCourt$Propagation;", true)
  | 2 => ("ClauseCourt$Judge", "hints", "LClauseCourt$Hints;", true)
  | 3 => ("ClauseCourt$Judge", "removed", "LClauseCourt$Row;", true)
  | 4 => ("ClauseCourt$Judge", "ratAllowed", "Z", false)
  | 5 => ("ClauseCourt$Judge", "unitsKept", "Z", false)
  | 6 => ("ClauseCourt$Judge", "verdict", "I", false)
  | 7 => ("ClauseCourt$Judge", "failedStep", "I", false)
  | 8 => ("ClauseCourt$Judge", "conflictStep", "I", false)
  | 9 => ("ClauseCourt$Judge", "byRup", "I", false)
  | _ => ("ClauseCourt$Judge", "byRat", "I", false)
def tyX3 : Nat → FieldType := fun k => match k with
  | 0 => .object "ClauseCourt$Clauses"
  | 1 => .object "ClauseCourt$Propagation"
  | 2 => .object "ClauseCourt$Hints"
  | 3 => .object "ClauseCourt$Row"
  | 4 => .boolean
  | 5 => .boolean
  | 6 => .int
  | 7 => .int
  | 8 => .int
  | 9 => .int
  | _ => .int
theorem nmX3 : ∀ a, a < 11 → ∀ b, b < 11 → a ≠ b → (TX3 a).2.1 ≠ (TX3 b).2.1 := by decide +kernel
theorem tyX3_ok : ∀ k, k < 11 → parseFieldDescriptor (TX3 k).2.2.1 = some (tyX3 k) := by decide +kernel
abbrev cX3_init : ByteArray := prog_5_method_1_code
def yX3_init : MethodName := ⟨RX3, "<init>", "(LClauseCourt$Clauses;)V"⟩
abbrev cX3_forget : ByteArray := prog_5_method_2_code
def yX3_forget : MethodName := ⟨RX3, "forget", "()V"⟩
abbrev cX3_begin : ByteArray := prog_5_method_3_code
def yX3_begin : MethodName := ⟨RX3, "begin", "(ZZI)V"⟩
abbrev cX3_goForwards : ByteArray := prog_5_method_4_code
def yX3_goForwards : MethodName := ⟨RX3, "goForwards", "(Z)V"⟩
abbrev cX3_goBack : ByteArray := prog_5_method_5_code
def yX3_goBack : MethodName := ⟨RX3, "goBack", "()V"⟩
abbrev cX3_verdict : ByteArray := prog_5_method_6_code
def yX3_verdict : MethodName := ⟨RX3, "verdict", "()I"⟩
abbrev cX3_failedStep : ByteArray := prog_5_method_7_code
def yX3_failedStep : MethodName := ⟨RX3, "failedStep", "()I"⟩
abbrev cX3_conflictStep : ByteArray := prog_5_method_8_code
def yX3_conflictStep : MethodName := ⟨RX3, "conflictStep", "()I"⟩
abbrev cX3_fuelLeft : ByteArray := prog_5_method_9_code
def yX3_fuelLeft : MethodName := ⟨RX3, "fuelLeft", "()I"⟩
abbrev cX3_heldByRup : ByteArray := prog_5_method_10_code
def yX3_heldByRup : MethodName := ⟨RX3, "heldByRup", "()I"⟩
abbrev cX3_heldByRat : ByteArray := prog_5_method_11_code
def yX3_heldByRat : MethodName := ⟨RX3, "heldByRat", "()I"⟩
abbrev cX3_isMarked : ByteArray := prog_5_method_12_code
def yX3_isMarked : MethodName := ⟨RX3, "isMarked", "(I)Z"⟩
abbrev cX3_markedBetween : ByteArray := prog_5_method_13_code
def yX3_markedBetween : MethodName := ⟨RX3, "markedBetween", "(II)I"⟩
abbrev cX3_hintOf : ByteArray := prog_5_method_14_code
def yX3_hintOf : MethodName := ⟨RX3, "hintOf", "(II)I"⟩
abbrev cX3_lastStepWeighed : ByteArray := prog_5_method_15_code
def yX3_lastStepWeighed : MethodName := ⟨RX3, "lastStepWeighed", "()I"⟩
abbrev cX3_staysInProof : ByteArray := prog_5_method_16_code
def yX3_staysInProof : MethodName := ⟨RX3, "staysInProof", "(I)Z"⟩
abbrev cX3_lookFromNothing : ByteArray := prog_5_method_17_code
def yX3_lookFromNothing : MethodName := ⟨RX3, "lookFromNothing", "(I)V"⟩
abbrev cX3_holds : ByteArray := prog_5_method_18_code
def yX3_holds : MethodName := ⟨RX3, "holds", "(II)Z"⟩
abbrev cX3_weighPartners : ByteArray := prog_5_method_19_code
def yX3_weighPartners : MethodName := ⟨RX3, "weighPartners", "(I)I"⟩
abbrev cX3_keepUsed : ByteArray := prog_5_method_20_code
def yX3_keepUsed : MethodName := ⟨RX3, "keepUsed", "(I)V"⟩
abbrev cX3_remove : ByteArray := prog_5_method_21_code
def yX3_remove : MethodName := ⟨RX3, "remove", "(I)V"⟩
abbrev cX3_putBack : ByteArray := prog_5_method_22_code
def yX3_putBack : MethodName := ⟨RX3, "putBack", "(I)V"⟩
def RX4 : String := "ClauseCourt$Propagation"
def TX4 : u_T := fun k => match k with
  | 0 => ("ClauseCourt$Propagation", "clauses", "LClauseCourt$Clauses;", true)
  | 1 => ("ClauseCourt$Propagation", "active", "LClauseCourt$Row;", true)
  | 2 => ("ClauseCourt$Propagation", "marked", "LClauseCourt$Row;", true)
  | 3 => ("ClauseCourt$Propagation", "left", "LClauseCourt$Row;", true)
  | 4 => ("ClauseCourt$Propagation", "shortOnes", "LClauseCourt$Row;", true)
  | 5 => ("ClauseCourt$Propagation", "ready", "LClauseCourt$Row;", true)
  | 6 => ("ClauseCourt$Propagation", "values", "LClauseCourt$Row;", true)
  | 7 => ("ClauseCourt$Propagation", "assumptions", "LClauseCourt$Row;", true)
  | 8 => ("ClauseCourt$Propagation", "trail", "LClauseCourt$Row;", true)
  | 9 => ("ClauseCourt$Propagation", "reasons", "LClauseCourt$Row;", true)
  | 10 => ("ClauseCourt$Propagation", "wanted", "LClauseCourt$Row;", true)
  | 11 => ("ClauseCourt$Propagation", "used", "LClauseCourt$Row;", true)
  | 12 => ("ClauseCourt$Propagation", "shortCount", "I", false)
  | 13 => ("ClauseCourt$Propagation", "assumed", "I", false)
  | 14 => ("ClauseCourt$Propagation", "trailLength", "I", false)
  | 15 => ("ClauseCourt$Propagation", "usedCount", "I", false)
  | 16 => ("ClauseCourt$Propagation", "conflict", "I", false)
  | _ => ("ClauseCourt$Propagation", "fuel", "I", false)
def tyX4 : Nat → FieldType := fun k => match k with
  | 0 => .object "ClauseCourt$Clauses"
  | 1 => .object "ClauseCourt$Row"
  | 2 => .object "ClauseCourt$Row"
  | 3 => .object "ClauseCourt$Row"
  | 4 => .object "ClauseCourt$Row"
  | 5 => .object "ClauseCourt$Row"
  | 6 => .object "ClauseCourt$Row"
  | 7 => .object "ClauseCourt$Row"
  | 8 => .object "ClauseCourt$Row"
  | 9 => .object "ClauseCourt$Row"
  | 10 => .object "ClauseCourt$Row"
  | 11 => .object "ClauseCourt$Row"
  | 12 => .int
  | 13 => .int
  | 14 => .int
  | 15 => .int
  | 16 => .int
  | _ => .int
theorem nmX4 : ∀ a, a < 18 → ∀ b, b < 18 → a ≠ b → (TX4 a).2.1 ≠ (TX4 b).2.1 := by decide +kernel
theorem tyX4_ok : ∀ k, k < 18 → parseFieldDescriptor (TX4 k).2.2.1 = some (tyX4 k) := by decide +kernel
abbrev cX4_init : ByteArray := prog_6_method_1_code
def yX4_init : MethodName := ⟨RX4, "<init>", "(LClauseCourt$Clauses;)V"⟩
abbrev cX4_begin : ByteArray := prog_6_method_2_code
def yX4_begin : MethodName := ⟨RX4, "begin", "(I)V"⟩
abbrev cX4_forget : ByteArray := prog_6_method_3_code
def yX4_forget : MethodName := ⟨RX4, "forget", "()V"⟩
abbrev cX4_fuelLeft : ByteArray := prog_6_method_4_code
def yX4_fuelLeft : MethodName := ⟨RX4, "fuelLeft", "()I"⟩
abbrev cX4_isActive : ByteArray := prog_6_method_5_code
def yX4_isActive : MethodName := ⟨RX4, "isActive", "(I)Z"⟩
abbrev cX4_setActive : ByteArray := prog_6_method_6_code
def yX4_setActive : MethodName := ⟨RX4, "setActive", "(IZ)V"⟩
abbrev cX4_isMarked : ByteArray := prog_6_method_7_code
def yX4_isMarked : MethodName := ⟨RX4, "isMarked", "(I)Z"⟩
abbrev cX4_mark : ByteArray := prog_6_method_8_code
def yX4_mark : MethodName := ⟨RX4, "mark", "(I)V"⟩
abbrev cX4_restart : ByteArray := prog_6_method_9_code
def yX4_restart : MethodName := ⟨RX4, "restart", "()V"⟩
abbrev cX4_assumeOpposites : ByteArray := prog_6_method_10_code
def yX4_assumeOpposites : MethodName := ⟨RX4, "assumeOpposites", "(II)V"⟩
abbrev cX4_run : ByteArray := prog_6_method_11_code
def yX4_run : MethodName := ⟨RX4, "run", "()I"⟩
abbrev cX4_isReason : ByteArray := prog_6_method_12_code
def yX4_isReason : MethodName := ⟨RX4, "isReason", "(I)Z"⟩
abbrev cX4_gatherUsed : ByteArray := prog_6_method_13_code
def yX4_gatherUsed : MethodName := ⟨RX4, "gatherUsed", "()V"⟩
abbrev cX4_usedCount : ByteArray := prog_6_method_14_code
def yX4_usedCount : MethodName := ⟨RX4, "usedCount", "()I"⟩
abbrev cX4_usedAt : ByteArray := prog_6_method_15_code
def yX4_usedAt : MethodName := ⟨RX4, "usedAt", "(I)I"⟩
abbrev cX4_wantOpposites : ByteArray := prog_6_method_16_code
def yX4_wantOpposites : MethodName := ⟨RX4, "wantOpposites", "(I)V"⟩
abbrev cX4_truthOf : ByteArray := prog_6_method_17_code
def yX4_truthOf : MethodName := ⟨RX4, "truthOf", "(I)I"⟩
abbrev cX4_isSatisfied : ByteArray := prog_6_method_18_code
def yX4_isSatisfied : MethodName := ⟨RX4, "isSatisfied", "(I)Z"⟩
abbrev cX4_openLiteral : ByteArray := prog_6_method_19_code
def yX4_openLiteral : MethodName := ⟨RX4, "openLiteral", "(I)I"⟩
abbrev cX4_makeTrue : ByteArray := prog_6_method_20_code
def yX4_makeTrue : MethodName := ⟨RX4, "makeTrue", "(II)Z"⟩
abbrev cX4_takeBack : ByteArray := prog_6_method_21_code
def yX4_takeBack : MethodName := ⟨RX4, "takeBack", "(I)V"⟩
abbrev cX4_makeReady : ByteArray := prog_6_method_22_code
def yX4_makeReady : MethodName := ⟨RX4, "makeReady", "(I)V"⟩
abbrev cX4_takeFirstReady : ByteArray := prog_6_method_23_code
def yX4_takeFirstReady : MethodName := ⟨RX4, "takeFirstReady", "()I"⟩
def RX5 : String := "ClauseCourt$Reader"
def TX5 : u_T := fun k => match k with
  | 0 => ("ClauseCourt$Reader", "tokens", "LClauseCourt$Tokens;", true)
  | 1 => ("ClauseCourt$Reader", "source", "LClauseCourt$Bytes;", false)
  | 2 => ("ClauseCourt$Reader", "sheet", "LClauseCourt$Sheet;", false)
  | 3 => ("ClauseCourt$Reader", "end", "I", false)
  | 4 => ("ClauseCourt$Reader", "position", "I", false)
  | 5 => ("ClauseCourt$Reader", "inRow", "I", false)
  | 6 => ("ClauseCourt$Reader", "inText", "I", false)
  | 7 => ("ClauseCourt$Reader", "kind", "I", false)
  | _ => ("ClauseCourt$Reader", "place", "I", false)
def tyX5 : Nat → FieldType := fun k => match k with
  | 0 => .object "ClauseCourt$Tokens"
  | 1 => .object "ClauseCourt$Bytes"
  | 2 => .object "ClauseCourt$Sheet"
  | 3 => .int
  | 4 => .int
  | 5 => .int
  | 6 => .int
  | 7 => .int
  | _ => .int
theorem nmX5 : ∀ a, a < 9 → ∀ b, b < 9 → a ≠ b → (TX5 a).2.1 ≠ (TX5 b).2.1 := by decide +kernel
theorem tyX5_ok : ∀ k, k < 9 → parseFieldDescriptor (TX5 k).2.2.1 = some (tyX5 k) := by decide +kernel
abbrev cX5_init : ByteArray := prog_7_method_1_code
def yX5_init : MethodName := ⟨RX5, "<init>", "(LClauseCourt$Bytes;LClauseCourt$Sheet;)V"⟩
abbrev cX5_kind : ByteArray := prog_7_method_2_code
def yX5_kind : MethodName := ⟨RX5, "kind", "()I"⟩
abbrev cX5_place : ByteArray := prog_7_method_3_code
def yX5_place : MethodName := ⟨RX5, "place", "()I"⟩
abbrev cX5_readFormula : ByteArray := prog_7_method_4_code
def yX5_readFormula : MethodName := ⟨RX5, "readFormula", "(LClauseCourt$Bytes;ILClauseCourt$Sheet;)V"⟩
abbrev cX5_readTextProof : ByteArray := prog_7_method_5_code
def yX5_readTextProof : MethodName := ⟨RX5, "readTextProof", "(LClauseCourt$Bytes;ILClauseCourt$Sheet;)V"⟩
abbrev cX5_readByteProof : ByteArray := prog_7_method_6_code
def yX5_readByteProof : MethodName := ⟨RX5, "readByteProof", "(LClauseCourt$Bytes;ILClauseCourt$Sheet;)V"⟩
abbrev cX5_begin : ByteArray := prog_7_method_7_code
def yX5_begin : MethodName := ⟨RX5, "begin", "(LClauseCourt$Bytes;ILClauseCourt$Sheet;)V"⟩
abbrev cX5_blame : ByteArray := prog_7_method_8_code
def yX5_blame : MethodName := ⟨RX5, "blame", "(II)V"⟩
abbrev cX5_expectWord : ByteArray := prog_7_method_9_code
def yX5_expectWord : MethodName := ⟨RX5, "expectWord", "(Ljava/lang/String;)V"⟩
abbrev cX5_expectNumber : ByteArray := prog_7_method_10_code
def yX5_expectNumber : MethodName := ⟨RX5, "expectNumber", "(I)I"⟩
abbrev cX5_faultOfToken : ByteArray := prog_7_method_11_code
def yX5_faultOfToken : MethodName := ⟨RX5, "faultOfToken", "(I)I"⟩
abbrev cX5_blameStepTooMany : ByteArray := prog_7_method_12_code
def yX5_blameStepTooMany : MethodName := ⟨RX5, "blameStepTooMany", "(Z)V"⟩
abbrev cX5_readRow : ByteArray := prog_7_method_13_code
def yX5_readRow : MethodName := ⟨RX5, "readRow", "(I)V"⟩
abbrev cX5_takeLiteral : ByteArray := prog_7_method_14_code
def yX5_takeLiteral : MethodName := ⟨RX5, "takeLiteral", "(II)V"⟩
abbrev cX5_readByteRow : ByteArray := prog_7_method_15_code
def yX5_readByteRow : MethodName := ⟨RX5, "readByteRow", "()V"⟩
abbrev cX5_readByteLiteral : ByteArray := prog_7_method_16_code
def yX5_readByteLiteral : MethodName := ⟨RX5, "readByteLiteral", "()V"⟩
def RX6 : String := "ClauseCourt$Row"
def TX6 : u_T := fun k => match k with
  | _ => ("ClauseCourt$Row", "cells", "[I", true)
def tyX6 : Nat → FieldType := fun k => match k with
  | _ => .array .int
theorem nmX6 : ∀ a, a < 1 → ∀ b, b < 1 → a ≠ b → (TX6 a).2.1 ≠ (TX6 b).2.1 := by decide +kernel
theorem tyX6_ok : ∀ k, k < 1 → parseFieldDescriptor (TX6 k).2.2.1 = some (tyX6 k) := by decide +kernel
abbrev cX6_init : ByteArray := prog_8_method_1_code
def yX6_init : MethodName := ⟨RX6, "<init>", "(I)V"⟩
abbrev cX6_at : ByteArray := prog_8_method_2_code
def yX6_at : MethodName := ⟨RX6, "at", "(I)I"⟩
abbrev cX6_put : ByteArray := prog_8_method_3_code
def yX6_put : MethodName := ⟨RX6, "put", "(II)V"⟩
abbrev cX6_fill : ByteArray := prog_8_method_4_code
def yX6_fill : MethodName := ⟨RX6, "fill", "(I)V"⟩
def RX7 : String := "ClauseCourt$Sheet"
def TX7 : u_T := fun k => match k with
  | 0 => ("ClauseCourt$Sheet", "literals", "LClauseCourt$Row;", true)
  | 1 => ("ClauseCourt$Sheet", "ends", "LClauseCourt$Row;", true)
  | 2 => ("ClauseCourt$Sheet", "deletions", "LClauseCourt$Row;", true)
  | 3 => ("ClauseCourt$Sheet", "rows", "I", false)
  | 4 => ("ClauseCourt$Sheet", "filled", "I", false)
  | _ => ("ClauseCourt$Sheet", "variables", "I", false)
def tyX7 : Nat → FieldType := fun k => match k with
  | 0 => .object "ClauseCourt$Row"
  | 1 => .object "ClauseCourt$Row"
  | 2 => .object "ClauseCourt$Row"
  | 3 => .int
  | 4 => .int
  | _ => .int
theorem nmX7 : ∀ a, a < 6 → ∀ b, b < 6 → a ≠ b → (TX7 a).2.1 ≠ (TX7 b).2.1 := by decide +kernel
theorem tyX7_ok : ∀ k, k < 6 → parseFieldDescriptor (TX7 k).2.2.1 = some (tyX7 k) := by decide +kernel
abbrev cX7_init : ByteArray := prog_9_method_1_code
def yX7_init : MethodName := ⟨RX7, "<init>", "()V"⟩
abbrev cX7_clear : ByteArray := prog_9_method_2_code
def yX7_clear : MethodName := ⟨RX7, "clear", "()V"⟩
abbrev cX7_rows : ByteArray := prog_9_method_3_code
def yX7_rows : MethodName := ⟨RX7, "rows", "()I"⟩
abbrev cX7_variables : ByteArray := prog_9_method_4_code
def yX7_variables : MethodName := ⟨RX7, "variables", "()I"⟩
abbrev cX7_setVariables : ByteArray := prog_9_method_5_code
def yX7_setVariables : MethodName := ⟨RX7, "setVariables", "(I)V"⟩
abbrev cX7_add : ByteArray := prog_9_method_6_code
def yX7_add : MethodName := ⟨RX7, "add", "(I)V"⟩
abbrev cX7_closeRow : ByteArray := prog_9_method_7_code
def yX7_closeRow : MethodName := ⟨RX7, "closeRow", "(Z)V"⟩
abbrev cX7_isDeletion : ByteArray := prog_9_method_8_code
def yX7_isDeletion : MethodName := ⟨RX7, "isDeletion", "(I)Z"⟩
abbrev cX7_size : ByteArray := prog_9_method_9_code
def yX7_size : MethodName := ⟨RX7, "size", "(I)I"⟩
abbrev cX7_literal : ByteArray := prog_9_method_10_code
def yX7_literal : MethodName := ⟨RX7, "literal", "(II)I"⟩
def RX8 : String := "ClauseCourt$Tokens"
def TX8 : u_T := fun k => match k with
  | 0 => ("ClauseCourt$Tokens", "source", "LClauseCourt$Bytes;", false)
  | 1 => ("ClauseCourt$Tokens", "end", "I", false)
  | 2 => ("ClauseCourt$Tokens", "start", "I", false)
  | _ => ("ClauseCourt$Tokens", "stop", "I", false)
def tyX8 : Nat → FieldType := fun k => match k with
  | 0 => .object "ClauseCourt$Bytes"
  | 1 => .int
  | 2 => .int
  | _ => .int
theorem nmX8 : ∀ a, a < 4 → ∀ b, b < 4 → a ≠ b → (TX8 a).2.1 ≠ (TX8 b).2.1 := by decide +kernel
theorem tyX8_ok : ∀ k, k < 4 → parseFieldDescriptor (TX8 k).2.2.1 = some (tyX8 k) := by decide +kernel
abbrev cX8_init : ByteArray := prog_10_method_1_code
def yX8_init : MethodName := ⟨RX8, "<init>", "(LClauseCourt$Bytes;)V"⟩
abbrev cX8_begin : ByteArray := prog_10_method_2_code
def yX8_begin : MethodName := ⟨RX8, "begin", "(LClauseCourt$Bytes;I)V"⟩
abbrev cX8_start : ByteArray := prog_10_method_3_code
def yX8_start : MethodName := ⟨RX8, "start", "()I"⟩
abbrev cX8_next : ByteArray := prog_10_method_4_code
def yX8_next : MethodName := ⟨RX8, "next", "()Z"⟩
abbrev cX8_putBack : ByteArray := prog_10_method_5_code
def yX8_putBack : MethodName := ⟨RX8, "putBack", "()V"⟩
abbrev cX8_spells : ByteArray := prog_10_method_6_code
def yX8_spells : MethodName := ⟨RX8, "spells", "(Ljava/lang/String;)Z"⟩
abbrev cX8_isNumber : ByteArray := prog_10_method_7_code
def yX8_isNumber : MethodName := ⟨RX8, "isNumber", "()Z"⟩
abbrev cX8_number : ByteArray := prog_10_method_8_code
def yX8_number : MethodName := ⟨RX8, "number", "()I"⟩
abbrev cX8_firstDigit : ByteArray := prog_10_method_9_code
def yX8_firstDigit : MethodName := ⟨RX8, "firstDigit", "()I"⟩
abbrev cX8_endOfToken : ByteArray := prog_10_method_10_code
def yX8_endOfToken : MethodName := ⟨RX8, "endOfToken", "(I)I"⟩
abbrev cX8_isGap : ByteArray := prog_10_method_11_code
def yX8_isGap : MethodName := ⟨RX8, "isGap", "(I)Z"⟩
def RX9 : String := "ClauseCourt"
def TX9 : u_T := fun k => match k with
  | 0 => ("ClauseCourt", "tape", "LClauseCourt$Bytes;", true)
  | 1 => ("ClauseCourt", "shortened", "LClauseCourt$Bytes;", true)
  | 2 => ("ClauseCourt", "formulaSheet", "LClauseCourt$Sheet;", false)
  | 3 => ("ClauseCourt", "proofSheet", "LClauseCourt$Sheet;", false)
  | 4 => ("ClauseCourt", "spareSheet", "LClauseCourt$Sheet;", false)
  | 5 => ("ClauseCourt", "reader", "LClauseCourt$Reader;", true)
  | 6 => ("ClauseCourt", "clauses", "LClauseCourt$Clauses;", true)
  | 7 => ("ClauseCourt", "judge", "LClauseCourt$Judge;", true)
  | 8 => ("ClauseCourt", "faultKind", "I", false)
  | _ => ("ClauseCourt", "faultPlace", "I", false)
def tyX9 : Nat → FieldType := fun k => match k with
  | 0 => .object "ClauseCourt$Bytes"
  | 1 => .object "ClauseCourt$Bytes"
  | 2 => .object "ClauseCourt$Sheet"
  | 3 => .object "ClauseCourt$Sheet"
  | 4 => .object "ClauseCourt$Sheet"
  | 5 => .object "ClauseCourt$Reader"
  | 6 => .object "ClauseCourt$Clauses"
  | 7 => .object "ClauseCourt$Judge"
  | 8 => .int
  | _ => .int
theorem nmX9 : ∀ a, a < 10 → ∀ b, b < 10 → a ≠ b → (TX9 a).2.1 ≠ (TX9 b).2.1 := by decide +kernel
theorem tyX9_ok : ∀ k, k < 10 → parseFieldDescriptor (TX9 k).2.2.1 = some (tyX9 k) := by decide +kernel
abbrev cX9_init : ByteArray := prog_1_method_1_code
def yX9_init : MethodName := ⟨RX9, "<init>", "()V"⟩
abbrev cX9_feed : ByteArray := prog_1_method_2_code
def yX9_feed : MethodName := ⟨RX9, "feed", "(IIIII)I"⟩
abbrev cX9_formula : ByteArray := prog_1_method_3_code
def yX9_formula : MethodName := ⟨RX9, "formula", "(I)I"⟩
abbrev cX9_proof : ByteArray := prog_1_method_4_code
def yX9_proof : MethodName := ⟨RX9, "proof", "(IZ)I"⟩
abbrev cX9_fault : ByteArray := prog_1_method_5_code
def yX9_fault : MethodName := ⟨RX9, "fault", "(I)I"⟩
abbrev cX9_weigh : ByteArray := prog_1_method_6_code
def yX9_weigh : MethodName := ⟨RX9, "weigh", "(ZZZI)I"⟩
abbrev cX9_count : ByteArray := prog_1_method_7_code
def yX9_count : MethodName := ⟨RX9, "count", "(I)I"⟩
abbrev cX9_clause : ByteArray := prog_1_method_8_code
def yX9_clause : MethodName := ⟨RX9, "clause", "(II)I"⟩
abbrev cX9_step : ByteArray := prog_1_method_9_code
def yX9_step : MethodName := ⟨RX9, "step", "(II)I"⟩
abbrev cX9_hint : ByteArray := prog_1_method_10_code
def yX9_hint : MethodName := ⟨RX9, "hint", "(II)I"⟩
abbrev cX9_shorter : ByteArray := prog_1_method_11_code
def yX9_shorter : MethodName := ⟨RX9, "shorter", "()I"⟩
abbrev cX9_out : ByteArray := prog_1_method_12_code
def yX9_out : MethodName := ⟨RX9, "out", "(I)I"⟩
abbrev cX9_takeShorter : ByteArray := prog_1_method_13_code
def yX9_takeShorter : MethodName := ⟨RX9, "takeShorter", "()I"⟩
abbrev cX9_tapeHas : ByteArray := prog_1_method_14_code
def yX9_tapeHas : MethodName := ⟨RX9, "tapeHas", "(I)Z"⟩
abbrev cX9_noteReading : ByteArray := prog_1_method_15_code
def yX9_noteReading : MethodName := ⟨RX9, "noteReading", "()V"⟩
abbrev cX9_takeSpareAsProof : ByteArray := prog_1_method_16_code
def yX9_takeSpareAsProof : MethodName := ⟨RX9, "takeSpareAsProof", "()V"⟩
abbrev cX9_startAnew : ByteArray := prog_1_method_17_code
def yX9_startAnew : MethodName := ⟨RX9, "startAnew", "()V"⟩
abbrev cX9_writeStep : ByteArray := prog_1_method_18_code
def yX9_writeStep : MethodName := ⟨RX9, "writeStep", "(I)V"⟩
abbrev cX9_codeOf : ByteArray := prog_1_method_19_code
def yX9_codeOf : MethodName := ⟨RX9, "codeOf", "(I)I"⟩
def RX10 : String := "ClauseCourtModel"
def TX10 : u_T := fun k => match k with
  | 0 => ("ClauseCourtModel", "code", "I", false)
  | 1 => ("ClauseCourtModel", "tape", "[I", true)
  | 2 => ("ClauseCourtModel", "taped", "I", false)
  | 3 => ("ClauseCourtModel", "source", "[I", true)
  | 4 => ("ClauseCourtModel", "size", "I", false)
  | 5 => ("ClauseCourtModel", "at", "I", false)
  | 6 => ("ClauseCourtModel", "begins", "I", false)
  | 7 => ("ClauseCourtModel", "ends", "I", false)
  | 8 => ("ClauseCourtModel", "bad", "I", false)
  | 9 => ("ClauseCourtModel", "badPlace", "I", false)
  | 10 => ("ClauseCourtModel", "fault", "I", false)
  | 11 => ("ClauseCourtModel", "faultPlace", "I", false)
  | 12 => ("ClauseCourtModel", "clauseAt", "[I", true)
  | 13 => ("ClauseCourtModel", "clauseLong", "[I", true)
  | 14 => ("ClauseCourtModel", "clauseRow", "[I", true)
  | 15 => ("ClauseCourtModel", "stepAt", "[I", true)
  | 16 => ("ClauseCourtModel", "stepLong", "[I", true)
  | 17 => ("ClauseCourtModel", "stepRow", "[I", true)
  | 18 => ("ClauseCourtModel", "deletes", "[Z", true)
  | 19 => ("ClauseCourtModel", "clauses", "I", false)
  | 20 => ("ClauseCourtModel", "steps", "I", false)
  | 21 => ("ClauseCourtModel", "variables", "I", false)
  | 22 => ("ClauseCourtModel", "readAt", "[I", true)
  | 23 => ("ClauseCourtModel", "readLong", "[I", true)
  | 24 => ("ClauseCourtModel", "readRow", "[I", true)
  | 25 => ("ClauseCourtModel", "readDeletes", "[Z", true)
  | 26 => ("ClauseCourtModel", "read", "I", false)
  | 27 => ("ClauseCourtModel", "readLiterals", "I", false)
  | 28 => ("ClauseCourtModel", "told", "I", false)
  | 29 => ("ClauseCourtModel", "ofOne", "I", false)
  | 30 => ("ClauseCourtModel", "readVariables", "I", false)
  | 31 => ("ClauseCourtModel", "stepOf", "[I", true)
  | 32 => ("ClauseCourtModel", "numberOf", "[I", true)
  | 33 => ("ClauseCourtModel", "numbers", "I", false)
  | 34 => ("ClauseCourtModel", "wasWeighed", "Z", false)
  | 35 => ("ClauseCourtModel", "verdict", "I", false)
  | 36 => ("ClauseCourtModel", "wrongStep", "I", false)
  | 37 => ("ClauseCourtModel", "conflictStep", "I", false)
  | 38 => ("ClauseCourtModel", "fuel", "I", false)
  | 39 => ("ClauseCourtModel", "byUnits", "I", false)
  | 40 => ("ClauseCourtModel", "byRat", "I", false)
  | 41 => ("ClauseCourtModel", "active", "[Z", true)
  | 42 => ("ClauseCourtModel", "marked", "[Z", true)
  | 43 => ("ClauseCourtModel", "used", "[Z", true)
  | 44 => ("ClauseCourtModel", "reasons", "[Z", true)
  | 45 => ("ClauseCourtModel", "gone", "[I", true)
  | 46 => ("ClauseCourtModel", "value", "[I", true)
  | 47 => ("ClauseCourtModel", "trail", "[I", true)
  | 48 => ("ClauseCourtModel", "reason", "[I", true)
  | 49 => ("ClauseCourtModel", "trailed", "I", false)
  | 50 => ("ClauseCourtModel", "conflict", "I", false)
  | 51 => ("ClauseCourtModel", "conflicts", "Z", false)
  | 52 => ("ClauseCourtModel", "isOut", "Z", false)
  | 53 => ("ClauseCourtModel", "hint", "[I", true)
  | 54 => ("ClauseCourtModel", "hintAt", "[I", true)
  | 55 => ("ClauseCourtModel", "hintMany", "[I", true)
  | 56 => ("ClauseCourtModel", "hints", "I", false)
  | 57 => ("ClauseCourtModel", "out", "[I", true)
  | _ => ("ClauseCourtModel", "outs", "I", false)
def tyX10 : Nat → FieldType := fun k => match k with
  | 0 => .int
  | 1 => .array .int
  | 2 => .int
  | 3 => .array .int
  | 4 => .int
  | 5 => .int
  | 6 => .int
  | 7 => .int
  | 8 => .int
  | 9 => .int
  | 10 => .int
  | 11 => .int
  | 12 => .array .int
  | 13 => .array .int
  | 14 => .array .int
  | 15 => .array .int
  | 16 => .array .int
  | 17 => .array .int
  | 18 => .array .boolean
  | 19 => .int
  | 20 => .int
  | 21 => .int
  | 22 => .array .int
  | 23 => .array .int
  | 24 => .array .int
  | 25 => .array .boolean
  | 26 => .int
  | 27 => .int
  | 28 => .int
  | 29 => .int
  | 30 => .int
  | 31 => .array .int
  | 32 => .array .int
  | 33 => .int
  | 34 => .boolean
  | 35 => .int
  | 36 => .int
  | 37 => .int
  | 38 => .int
  | 39 => .int
  | 40 => .int
  | 41 => .array .boolean
  | 42 => .array .boolean
  | 43 => .array .boolean
  | 44 => .array .boolean
  | 45 => .array .int
  | 46 => .array .int
  | 47 => .array .int
  | 48 => .array .int
  | 49 => .int
  | 50 => .int
  | 51 => .boolean
  | 52 => .boolean
  | 53 => .array .int
  | 54 => .array .int
  | 55 => .array .int
  | 56 => .int
  | 57 => .array .int
  | _ => .int
theorem nmX10 : ∀ a, a < 59 → ∀ b, b < 59 → a ≠ b → (TX10 a).2.1 ≠ (TX10 b).2.1 := by decide +kernel
theorem tyX10_ok : ∀ k, k < 59 → parseFieldDescriptor (TX10 k).2.2.1 = some (tyX10 k) := by decide +kernel
abbrev cX10_init : ByteArray := prog_12_method_1_code
def yX10_init : MethodName := ⟨RX10, "<init>", "()V"⟩
abbrev cX10_thrown : ByteArray := prog_12_method_2_code
def yX10_thrown : MethodName := ⟨RX10, "thrown", "()I"⟩
abbrev cX10_fail : ByteArray := prog_12_method_3_code
def yX10_fail : MethodName := ⟨RX10, "fail", "()I"⟩
abbrev cX10_feed : ByteArray := prog_12_method_4_code
def yX10_feed : MethodName := ⟨RX10, "feed", "(IIIII)I"⟩
abbrev cX10_wrong : ByteArray := prog_12_method_5_code
def yX10_wrong : MethodName := ⟨RX10, "wrong", "(II)V"⟩
abbrev cX10_isBlank : ByteArray := prog_12_method_6_code
def yX10_isBlank : MethodName := ⟨RX10, "isBlank", "(I)Z"⟩
abbrev cX10_next : ByteArray := prog_12_method_7_code
def yX10_next : MethodName := ⟨RX10, "next", "()Z"⟩
abbrev cX10_need : ByteArray := prog_12_method_8_code
def yX10_need : MethodName := ⟨RX10, "need", "()V"⟩
abbrev cX10_isWord : ByteArray := prog_12_method_9_code
def yX10_isWord : MethodName := ⟨RX10, "isWord", "(IIII)Z"⟩
abbrev cX10_number : ByteArray := prog_12_method_10_code
def yX10_number : MethodName := ⟨RX10, "number", "()I"⟩
abbrev cX10_within : ByteArray := prog_12_method_11_code
def yX10_within : MethodName := ⟨RX10, "within", "(I)I"⟩
abbrev cX10_beginRead : ByteArray := prog_12_method_12_code
def yX10_beginRead : MethodName := ⟨RX10, "beginRead", "(I)V"⟩
abbrev cX10_beginRow : ByteArray := prog_12_method_13_code
def yX10_beginRow : MethodName := ⟨RX10, "beginRow", "()V"⟩
abbrev cX10_literal : ByteArray := prog_12_method_14_code
def yX10_literal : MethodName := ⟨RX10, "literal", "(II)V"⟩
abbrev cX10_readRowOf : ByteArray := prog_12_method_15_code
def yX10_readRowOf : MethodName := ⟨RX10, "readRowOf", "(Z)V"⟩
abbrev cX10_formula : ByteArray := prog_12_method_16_code
def yX10_formula : MethodName := ⟨RX10, "formula", "(I)I"⟩
abbrev cX10_take : ByteArray := prog_12_method_17_code
def yX10_take : MethodName := ⟨RX10, "take", "(I)V"⟩
abbrev cX10_settled : ByteArray := prog_12_method_18_code
def yX10_settled : MethodName := ⟨RX10, "settled", "()Z"⟩
abbrev cX10_readText : ByteArray := prog_12_method_19_code
def yX10_readText : MethodName := ⟨RX10, "readText", "()V"⟩
abbrev cX10_readBytes : ByteArray := prog_12_method_20_code
def yX10_readBytes : MethodName := ⟨RX10, "readBytes", "()V"⟩
abbrev cX10_readNumber : ByteArray := prog_12_method_21_code
def yX10_readNumber : MethodName := ⟨RX10, "readNumber", "()Z"⟩
abbrev cX10_becomesProof : ByteArray := prog_12_method_22_code
def yX10_becomesProof : MethodName := ⟨RX10, "becomesProof", "()V"⟩
abbrev cX10_number0 : ByteArray := prog_12_method_23_code
def yX10_number0 : MethodName := ⟨RX10, "number0", "()V"⟩
abbrev cX10_proof : ByteArray := prog_12_method_24_code
def yX10_proof : MethodName := ⟨RX10, "proof", "(IZ)I"⟩
abbrev cX10_fault : ByteArray := prog_12_method_25_code
def yX10_fault : MethodName := ⟨RX10, "fault", "(I)I"⟩
abbrev cX10_longOf : ByteArray := prog_12_method_26_code
def yX10_longOf : MethodName := ⟨RX10, "longOf", "(I)I"⟩
abbrev cX10_literalOf : ByteArray := prog_12_method_27_code
def yX10_literalOf : MethodName := ⟨RX10, "literalOf", "(II)I"⟩
abbrev cX10_has : ByteArray := prog_12_method_28_code
def yX10_has : MethodName := ⟨RX10, "has", "(II)Z"⟩
abbrev cX10_valueOf : ByteArray := prog_12_method_29_code
def yX10_valueOf : MethodName := ⟨RX10, "valueOf", "(I)I"⟩
abbrev cX10_begin : ByteArray := prog_12_method_30_code
def yX10_begin : MethodName := ⟨RX10, "begin", "()V"⟩
abbrev cX10_becomes : ByteArray := prog_12_method_31_code
def yX10_becomes : MethodName := ⟨RX10, "becomes", "(II)V"⟩
abbrev cX10_assume : ByteArray := prog_12_method_32_code
def yX10_assume : MethodName := ⟨RX10, "assume", "(I)V"⟩
abbrev cX10_unit : ByteArray := prog_12_method_33_code
def yX10_unit : MethodName := ⟨RX10, "unit", "(I)I"⟩
abbrev cX10_first : ByteArray := prog_12_method_34_code
def yX10_first : MethodName := ⟨RX10, "first", "()I"⟩
abbrev cX10_propagate : ByteArray := prog_12_method_35_code
def yX10_propagate : MethodName := ⟨RX10, "propagate", "()V"⟩
abbrev cX10_keepHint : ByteArray := prog_12_method_36_code
def yX10_keepHint : MethodName := ⟨RX10, "keepHint", "(II)V"⟩
abbrev cX10_standsInUsed : ByteArray := prog_12_method_37_code
def yX10_standsInUsed : MethodName := ⟨RX10, "standsInUsed", "(I)Z"⟩
abbrev cX10_uses : ByteArray := prog_12_method_38_code
def yX10_uses : MethodName := ⟨RX10, "uses", "(I)V"⟩
abbrev cX10_fromNothing : ByteArray := prog_12_method_39_code
def yX10_fromNothing : MethodName := ⟨RX10, "fromNothing", "()V"⟩
abbrev cX10_weighed : ByteArray := prog_12_method_40_code
def yX10_weighed : MethodName := ⟨RX10, "weighed", "(IZ)I"⟩
abbrev cX10_isOf : ByteArray := prog_12_method_41_code
def yX10_isOf : MethodName := ⟨RX10, "isOf", "(II)Z"⟩
abbrev cX10_delete : ByteArray := prog_12_method_42_code
def yX10_delete : MethodName := ⟨RX10, "delete", "(IZ)V"⟩
abbrev cX10_ends : ByteArray := prog_12_method_43_code
def yX10_ends : MethodName := ⟨RX10, "ends", "(II)I"⟩
abbrev cX10_weigh : ByteArray := prog_12_method_44_code
def yX10_weigh : MethodName := ⟨RX10, "weigh", "(ZZZI)I"⟩
abbrev cX10_back : ByteArray := prog_12_method_45_code
def yX10_back : MethodName := ⟨RX10, "back", "(IZ)I"⟩
abbrev cX10_count : ByteArray := prog_12_method_46_code
def yX10_count : MethodName := ⟨RX10, "count", "(I)I"⟩
abbrev cX10_clause : ByteArray := prog_12_method_47_code
def yX10_clause : MethodName := ⟨RX10, "clause", "(II)I"⟩
abbrev cX10_step : ByteArray := prog_12_method_48_code
def yX10_step : MethodName := ⟨RX10, "step", "(II)I"⟩
abbrev cX10_hint : ByteArray := prog_12_method_49_code
def yX10_hint : MethodName := ⟨RX10, "hint", "(II)I"⟩
abbrev cX10_put : ByteArray := prog_12_method_50_code
def yX10_put : MethodName := ⟨RX10, "put", "(I)V"⟩
abbrev cX10_putNumber : ByteArray := prog_12_method_51_code
def yX10_putNumber : MethodName := ⟨RX10, "putNumber", "(I)V"⟩
abbrev cX10_shorter : ByteArray := prog_12_method_52_code
def yX10_shorter : MethodName := ⟨RX10, "shorter", "()I"⟩
abbrev cX10_out : ByteArray := prog_12_method_53_code
def yX10_out : MethodName := ⟨RX10, "out", "(I)I"⟩
abbrev cX10_takeShorter : ByteArray := prog_12_method_54_code
def yX10_takeShorter : MethodName := ⟨RX10, "takeShorter", "()I"⟩
def RJ6 : String := "java/lang/Integer"
abbrev cJ6_bitCount_0f7a4 : ByteArray := prog_15_method_49_code
def yJ6_bitCount_0f7a4 : MethodName := ⟨RJ6, "bitCount", "(I)I"⟩
def RJ9 : String := "java/lang/Math"
abbrev cJ9_abs_0f7a4 : ByteArray := prog_16_method_59_code
def yJ9_abs_0f7a4 : MethodName := ⟨RJ9, "abs", "(I)I"⟩
abbrev cJ9_max_7cf53 : ByteArray := prog_16_method_65_code
def yJ9_max_7cf53 : MethodName := ⟨RJ9, "max", "(II)I"⟩
abbrev cJ9_min_7cf53 : ByteArray := prog_16_method_69_code
def yJ9_min_7cf53 : MethodName := ⟨RJ9, "min", "(II)I"⟩
def RJ0 : String := "java/lang/String"
abbrev cJ0_length_8abf5 : ByteArray := prog_18_method_54_code
def yJ0_length_8abf5 : MethodName := ⟨RJ0, "length", "()I"⟩
abbrev cJ0_charAt_5068e : ByteArray := prog_18_method_56_code
def yJ0_charAt_5068e : MethodName := ⟨RJ0, "charAt", "(I)C"⟩
abbrev cJ0_coder_7d493 : ByteArray := prog_18_method_152_code
def yJ0_coder_7d493 : MethodName := ⟨RJ0, "coder", "()B"⟩
abbrev cJ0_isLatin1_aae02 : ByteArray := prog_18_method_154_code
def yJ0_isLatin1_aae02 : MethodName := ⟨RJ0, "isLatin1", "()Z"⟩
abbrev cJ0_checkIndex_df160 : ByteArray := prog_18_method_155_code
def yJ0_checkIndex_df160 : MethodName := ⟨RJ0, "checkIndex", "(II)V"⟩
def RJ1 : String := "java/lang/StringLatin1"
abbrev cJ1_charAt_3b067 : ByteArray := prog_19_method_2_code
def yJ1_charAt_3b067 : MethodName := ⟨RJ1, "charAt", "([BI)C"⟩
def RJ2 : String := "java/lang/StringUTF16"
abbrev cJ2_getChar_3b067 : ByteArray := prog_20_method_5_code
def yJ2_getChar_3b067 : MethodName := ⟨RJ2, "getChar", "([BI)C"⟩
abbrev cJ2_length_9d52b : ByteArray := prog_20_method_6_code
def yJ2_length_9d52b : MethodName := ⟨RJ2, "length", "([B)I"⟩
abbrev cJ2_charAt_3b067 : ByteArray := prog_20_method_83_code
def yJ2_charAt_3b067 : MethodName := ⟨RJ2, "charAt", "([BI)C"⟩
abbrev cJ2_checkIndex_2214a : ByteArray := prog_20_method_91_code
def yJ2_checkIndex_2214a : MethodName := ⟨RJ2, "checkIndex", "(I[B)V"⟩
def RJ7 : String := "java/util/Arrays"
abbrev cJ7_fill_53178 : ByteArray := prog_22_method_103_code
def yJ7_fill_53178 : MethodName := ⟨RJ7, "fill", "([II)V"⟩
def RJ3 : String := "jdk/internal/util/Preconditions"
abbrev cJ3_checkIndex_8e157 : ByteArray := prog_24_method_11_code
def yJ3_checkIndex_8e157 : MethodName := ⟨RJ3, "checkIndex", "(IILjava/util/function/BiFunction;)I"⟩
def RL : String := "ClauseCourtLaw"
abbrev cL_formula : ByteArray := method_3_code
def yL_formula : MethodName := ⟨RL, "formula", "(LClauseCourt;I[J)I"⟩
abbrev cL_proof : ByteArray := method_4_code
def yL_proof : MethodName := ⟨RL, "proof", "(LClauseCourt;IZ[J)I"⟩
abbrev cL_fault : ByteArray := method_5_code
def yL_fault : MethodName := ⟨RL, "fault", "(LClauseCourt;I[J)I"⟩
abbrev cL_weigh : ByteArray := method_6_code
def yL_weigh : MethodName := ⟨RL, "weigh", "(LClauseCourt;ZZZI[J)I"⟩
abbrev cL_count : ByteArray := method_7_code
def yL_count : MethodName := ⟨RL, "count", "(LClauseCourt;I[J)I"⟩
abbrev cL_clause : ByteArray := method_8_code
def yL_clause : MethodName := ⟨RL, "clause", "(LClauseCourt;II[J)I"⟩
abbrev cL_step : ByteArray := method_9_code
def yL_step : MethodName := ⟨RL, "step", "(LClauseCourt;II[J)I"⟩
abbrev cL_hint : ByteArray := method_10_code
def yL_hint : MethodName := ⟨RL, "hint", "(LClauseCourt;II[J)I"⟩
abbrev cL_out : ByteArray := method_11_code
def yL_out : MethodName := ⟨RL, "out", "(LClauseCourt;I[J)I"⟩
abbrev cL_law : ByteArray := code
def yL_law : MethodName := ⟨RL, "law", "([I)Z"⟩
abbrev vwCl : List vw_C := [(RX0, TX0, 2), (RX1, TX1, 10), (RX2, TX2, 4), (RX3, TX3, 11), (RX4, TX4, 18), (RX5, TX5, 9), (RX6, TX6, 1), (RX7, TX7, 6), (RX8, TX8, 4), (RX9, TX9, 10), (RX10, TX10, 59)]
end
section
theorem dX0_init_0 : decode cX0_init 0 = .ok (.aload_n 0, 1) := by decide +kernel
theorem dX0_init_1 : decode cX0_init 1 = .ok (.invokespecial 1, 3) := by decide +kernel
theorem dX0_init_4 : decode cX0_init 4 = .ok (.aload_n 0, 1) := by decide +kernel
theorem dX0_init_5 : decode cX0_init 5 = .ok (.iconst 0, 1) := by decide +kernel
theorem dX0_init_6 : decode cX0_init 6 = .ok (.putfield 7, 3) := by decide +kernel
theorem dX0_init_9 : decode cX0_init 9 = .ok (.aload_n 0, 1) := by decide +kernel
theorem dX0_init_10 : decode cX0_init 10 = .ok (.iload_n 1, 1) := by decide +kernel
theorem dX0_init_11 : decode cX0_init 11 = .ok (.iconst 0, 1) := by decide +kernel
theorem dX0_init_12 : decode cX0_init 12 = .ok (.invokestatic 13, 3) := by decide +kernel
theorem dX0_init_15 : decode cX0_init 15 = .ok (.newarray .byte, 2) := by decide +kernel
theorem dX0_init_17 : decode cX0_init 17 = .ok (.putfield 19, 3) := by decide +kernel
theorem dX0_init_20 : decode cX0_init 20 = .ok (.return_, 1) := by decide +kernel
theorem dX0_clear_0 : decode cX0_clear 0 = .ok (.aload_n 0, 1) := by decide +kernel
theorem dX0_clear_1 : decode cX0_clear 1 = .ok (.iconst 0, 1) := by decide +kernel
theorem dX0_clear_2 : decode cX0_clear 2 = .ok (.putfield 7, 3) := by decide +kernel
theorem dX0_clear_5 : decode cX0_clear 5 = .ok (.return_, 1) := by decide +kernel
theorem dX0_written_0 : decode cX0_written 0 = .ok (.aload_n 0, 1) := by decide +kernel
theorem dX0_written_1 : decode cX0_written 1 = .ok (.getfield 7, 3) := by decide +kernel
theorem dX0_written_4 : decode cX0_written 4 = .ok (.ireturn, 1) := by decide +kernel
theorem dX0_kept_0 : decode cX0_kept 0 = .ok (.aload_n 0, 1) := by decide +kernel
theorem dX0_kept_1 : decode cX0_kept 1 = .ok (.getfield 7, 3) := by decide +kernel
theorem dX0_kept_4 : decode cX0_kept 4 = .ok (.aload_n 0, 1) := by decide +kernel
theorem dX0_kept_5 : decode cX0_kept 5 = .ok (.getfield 19, 3) := by decide +kernel
theorem dX0_kept_8 : decode cX0_kept 8 = .ok (.arraylength, 1) := by decide +kernel
theorem dX0_kept_9 : decode cX0_kept 9 = .ok (.invokestatic 23, 3) := by decide +kernel
theorem dX0_kept_12 : decode cX0_kept 12 = .ok (.ireturn, 1) := by decide +kernel
theorem dX0_at_0 : decode cX0_at 0 = .ok (.iload_n 1, 1) := by decide +kernel
theorem dX0_at_1 : decode cX0_at 1 = .ok (.ifCond .lt 33, 3) := by decide +kernel
theorem dX0_at_4 : decode cX0_at 4 = .ok (.iload_n 1, 1) := by decide +kernel
theorem dX0_at_5 : decode cX0_at 5 = .ok (.aload_n 0, 1) := by decide +kernel
theorem dX0_at_6 : decode cX0_at 6 = .ok (.getfield 7, 3) := by decide +kernel
theorem dX0_at_9 : decode cX0_at 9 = .ok (.if_icmp .ge 25, 3) := by decide +kernel
theorem dX0_at_12 : decode cX0_at 12 = .ok (.iload_n 1, 1) := by decide +kernel
theorem dX0_at_13 : decode cX0_at 13 = .ok (.aload_n 0, 1) := by decide +kernel
theorem dX0_at_14 : decode cX0_at 14 = .ok (.getfield 19, 3) := by decide +kernel
theorem dX0_at_17 : decode cX0_at 17 = .ok (.arraylength, 1) := by decide +kernel
theorem dX0_at_18 : decode cX0_at 18 = .ok (.if_icmp .ge 16, 3) := by decide +kernel
theorem dX0_at_21 : decode cX0_at 21 = .ok (.aload_n 0, 1) := by decide +kernel
theorem dX0_at_22 : decode cX0_at 22 = .ok (.getfield 19, 3) := by decide +kernel
theorem dX0_at_25 : decode cX0_at 25 = .ok (.iload_n 1, 1) := by decide +kernel
theorem dX0_at_26 : decode cX0_at 26 = .ok (.baload, 1) := by decide +kernel
theorem dX0_at_27 : decode cX0_at 27 = .ok (.sipush 255, 3) := by decide +kernel
theorem dX0_at_30 : decode cX0_at 30 = .ok (.iand, 1) := by decide +kernel
theorem dX0_at_31 : decode cX0_at 31 = .ok (.goto 4, 3) := by decide +kernel
theorem dX0_at_34 : decode cX0_at 34 = .ok (.iconst 0, 1) := by decide +kernel
theorem dX0_at_35 : decode cX0_at 35 = .ok (.ireturn, 1) := by decide +kernel
theorem dX0_add_0 : decode cX0_add 0 = .ok (.aload_n 0, 1) := by decide +kernel
theorem dX0_add_1 : decode cX0_add 1 = .ok (.getfield 7, 3) := by decide +kernel
theorem dX0_add_4 : decode cX0_add 4 = .ok (.ifCond .lt 26, 3) := by decide +kernel
theorem dX0_add_7 : decode cX0_add 7 = .ok (.aload_n 0, 1) := by decide +kernel
theorem dX0_add_8 : decode cX0_add 8 = .ok (.getfield 7, 3) := by decide +kernel
theorem dX0_add_11 : decode cX0_add 11 = .ok (.aload_n 0, 1) := by decide +kernel
theorem dX0_add_12 : decode cX0_add 12 = .ok (.getfield 19, 3) := by decide +kernel
theorem dX0_add_15 : decode cX0_add 15 = .ok (.arraylength, 1) := by decide +kernel
theorem dX0_add_16 : decode cX0_add 16 = .ok (.if_icmp .ge 14, 3) := by decide +kernel
theorem dX0_add_19 : decode cX0_add 19 = .ok (.aload_n 0, 1) := by decide +kernel
theorem dX0_add_20 : decode cX0_add 20 = .ok (.getfield 19, 3) := by decide +kernel
theorem dX0_add_23 : decode cX0_add 23 = .ok (.aload_n 0, 1) := by decide +kernel
theorem dX0_add_24 : decode cX0_add 24 = .ok (.getfield 7, 3) := by decide +kernel
theorem dX0_add_27 : decode cX0_add 27 = .ok (.iload_n 1, 1) := by decide +kernel
theorem dX0_add_28 : decode cX0_add 28 = .ok (.i2b, 1) := by decide +kernel
theorem dX0_add_29 : decode cX0_add 29 = .ok (.bastore, 1) := by decide +kernel
theorem dX0_add_30 : decode cX0_add 30 = .ok (.aload_n 0, 1) := by decide +kernel
theorem dX0_add_31 : decode cX0_add 31 = .ok (.dup, 1) := by decide +kernel
theorem dX0_add_32 : decode cX0_add 32 = .ok (.getfield 7, 3) := by decide +kernel
theorem dX0_add_35 : decode cX0_add 35 = .ok (.iconst 1, 1) := by decide +kernel
theorem dX0_add_36 : decode cX0_add 36 = .ok (.iadd, 1) := by decide +kernel
theorem dX0_add_37 : decode cX0_add 37 = .ok (.putfield 7, 3) := by decide +kernel
theorem dX0_add_40 : decode cX0_add 40 = .ok (.return_, 1) := by decide +kernel
theorem dX0_addWord_0 : decode cX0_addWord 0 = .ok (.aload_n 0, 1) := by decide +kernel
theorem dX0_addWord_1 : decode cX0_addWord 1 = .ok (.iload_n 1, 1) := by decide +kernel
theorem dX0_addWord_2 : decode cX0_addWord 2 = .ok (.bipush 24, 2) := by decide +kernel
theorem dX0_addWord_4 : decode cX0_addWord 4 = .ok (.iushr, 1) := by decide +kernel
theorem dX0_addWord_5 : decode cX0_addWord 5 = .ok (.invokevirtual 26, 3) := by decide +kernel
theorem dX0_addWord_8 : decode cX0_addWord 8 = .ok (.aload_n 0, 1) := by decide +kernel
theorem dX0_addWord_9 : decode cX0_addWord 9 = .ok (.iload_n 1, 1) := by decide +kernel
theorem dX0_addWord_10 : decode cX0_addWord 10 = .ok (.bipush 16, 2) := by decide +kernel
theorem dX0_addWord_12 : decode cX0_addWord 12 = .ok (.iushr, 1) := by decide +kernel
theorem dX0_addWord_13 : decode cX0_addWord 13 = .ok (.invokevirtual 26, 3) := by decide +kernel
theorem dX0_addWord_16 : decode cX0_addWord 16 = .ok (.aload_n 0, 1) := by decide +kernel
theorem dX0_addWord_17 : decode cX0_addWord 17 = .ok (.iload_n 1, 1) := by decide +kernel
theorem dX0_addWord_18 : decode cX0_addWord 18 = .ok (.bipush 8, 2) := by decide +kernel
theorem dX0_addWord_20 : decode cX0_addWord 20 = .ok (.iushr, 1) := by decide +kernel
theorem dX0_addWord_21 : decode cX0_addWord 21 = .ok (.invokevirtual 26, 3) := by decide +kernel
theorem dX0_addWord_24 : decode cX0_addWord 24 = .ok (.aload_n 0, 1) := by decide +kernel
theorem dX0_addWord_25 : decode cX0_addWord 25 = .ok (.iload_n 1, 1) := by decide +kernel
theorem dX0_addWord_26 : decode cX0_addWord 26 = .ok (.invokevirtual 26, 3) := by decide +kernel
theorem dX0_addWord_29 : decode cX0_addWord 29 = .ok (.return_, 1) := by decide +kernel
theorem dX0_addDigits_0 : decode cX0_addDigits 0 = .ok (.iload_n 1, 1) := by decide +kernel
theorem dX0_addDigits_1 : decode cX0_addDigits 1 = .ok (.invokestatic 30, 3) := by decide +kernel
theorem dX0_addDigits_4 : decode cX0_addDigits 4 = .ok (.istore_n 2, 1) := by decide +kernel
theorem dX0_addDigits_5 : decode cX0_addDigits 5 = .ok (.iload_n 1, 1) := by decide +kernel
theorem dX0_addDigits_6 : decode cX0_addDigits 6 = .ok (.ifCond .ge 9, 3) := by decide +kernel
theorem dX0_addDigits_9 : decode cX0_addDigits 9 = .ok (.aload_n 0, 1) := by decide +kernel
theorem dX0_addDigits_10 : decode cX0_addDigits 10 = .ok (.bipush 45, 2) := by decide +kernel
theorem dX0_addDigits_12 : decode cX0_addDigits 12 = .ok (.invokevirtual 26, 3) := by decide +kernel
theorem dX0_addDigits_15 : decode cX0_addDigits 15 = .ok (.iload_n 2, 1) := by decide +kernel
theorem dX0_addDigits_16 : decode cX0_addDigits 16 = .ok (.bipush 100, 2) := by decide +kernel
theorem dX0_addDigits_18 : decode cX0_addDigits 18 = .ok (.if_icmp .lt 17, 3) := by decide +kernel
theorem dX0_addDigits_21 : decode cX0_addDigits 21 = .ok (.aload_n 0, 1) := by decide +kernel
theorem dX0_addDigits_22 : decode cX0_addDigits 22 = .ok (.bipush 48, 2) := by decide +kernel
theorem dX0_addDigits_24 : decode cX0_addDigits 24 = .ok (.iload_n 2, 1) := by decide +kernel
theorem dX0_addDigits_25 : decode cX0_addDigits 25 = .ok (.bipush 100, 2) := by decide +kernel
theorem dX0_addDigits_27 : decode cX0_addDigits 27 = .ok (.idiv, 1) := by decide +kernel
theorem dX0_addDigits_28 : decode cX0_addDigits 28 = .ok (.bipush 10, 2) := by decide +kernel
theorem dX0_addDigits_30 : decode cX0_addDigits 30 = .ok (.irem, 1) := by decide +kernel
theorem dX0_addDigits_31 : decode cX0_addDigits 31 = .ok (.iadd, 1) := by decide +kernel
theorem dX0_addDigits_32 : decode cX0_addDigits 32 = .ok (.invokevirtual 26, 3) := by decide +kernel
theorem dX0_addDigits_35 : decode cX0_addDigits 35 = .ok (.iload_n 2, 1) := by decide +kernel
theorem dX0_addDigits_36 : decode cX0_addDigits 36 = .ok (.bipush 10, 2) := by decide +kernel
theorem dX0_addDigits_38 : decode cX0_addDigits 38 = .ok (.if_icmp .lt 17, 3) := by decide +kernel
theorem dX0_addDigits_41 : decode cX0_addDigits 41 = .ok (.aload_n 0, 1) := by decide +kernel
theorem dX0_addDigits_42 : decode cX0_addDigits 42 = .ok (.bipush 48, 2) := by decide +kernel
theorem dX0_addDigits_44 : decode cX0_addDigits 44 = .ok (.iload_n 2, 1) := by decide +kernel
theorem dX0_addDigits_45 : decode cX0_addDigits 45 = .ok (.bipush 10, 2) := by decide +kernel
theorem dX0_addDigits_47 : decode cX0_addDigits 47 = .ok (.idiv, 1) := by decide +kernel
theorem dX0_addDigits_48 : decode cX0_addDigits 48 = .ok (.bipush 10, 2) := by decide +kernel
theorem dX0_addDigits_50 : decode cX0_addDigits 50 = .ok (.irem, 1) := by decide +kernel
theorem dX0_addDigits_51 : decode cX0_addDigits 51 = .ok (.iadd, 1) := by decide +kernel
theorem dX0_addDigits_52 : decode cX0_addDigits 52 = .ok (.invokevirtual 26, 3) := by decide +kernel
theorem dX0_addDigits_55 : decode cX0_addDigits 55 = .ok (.aload_n 0, 1) := by decide +kernel
theorem dX0_addDigits_56 : decode cX0_addDigits 56 = .ok (.bipush 48, 2) := by decide +kernel
theorem dX0_addDigits_58 : decode cX0_addDigits 58 = .ok (.iload_n 2, 1) := by decide +kernel
theorem dX0_addDigits_59 : decode cX0_addDigits 59 = .ok (.bipush 10, 2) := by decide +kernel
theorem dX0_addDigits_61 : decode cX0_addDigits 61 = .ok (.irem, 1) := by decide +kernel
theorem dX0_addDigits_62 : decode cX0_addDigits 62 = .ok (.iadd, 1) := by decide +kernel
theorem dX0_addDigits_63 : decode cX0_addDigits 63 = .ok (.invokevirtual 26, 3) := by decide +kernel
theorem dX0_addDigits_66 : decode cX0_addDigits 66 = .ok (.return_, 1) := by decide +kernel
theorem dX1_init_0 : decode cX1_init 0 = .ok (.aload_n 0, 1) := by decide +kernel
theorem dX1_init_1 : decode cX1_init 1 = .ok (.invokespecial 3, 3) := by decide +kernel
theorem dX1_init_4 : decode cX1_init 4 = .ok (.aload_n 0, 1) := by decide +kernel
theorem dX1_init_5 : decode cX1_init 5 = .ok (.new 9, 3) := by decide +kernel
theorem dX1_init_8 : decode cX1_init 8 = .ok (.dup, 1) := by decide +kernel
theorem dX1_init_9 : decode cX1_init 9 = .ok (.sipush 4000, 3) := by decide +kernel
theorem dX1_init_12 : decode cX1_init 12 = .ok (.invokespecial 11, 3) := by decide +kernel
theorem dX1_init_15 : decode cX1_init 15 = .ok (.putfield 14, 3) := by decide +kernel
theorem dX1_init_18 : decode cX1_init 18 = .ok (.aload_n 0, 1) := by decide +kernel
theorem dX1_init_19 : decode cX1_init 19 = .ok (.new 9, 3) := by decide +kernel
theorem dX1_init_22 : decode cX1_init 22 = .ok (.dup, 1) := by decide +kernel
theorem dX1_init_23 : decode cX1_init 23 = .ok (.sipush 601, 3) := by decide +kernel
theorem dX1_init_26 : decode cX1_init 26 = .ok (.invokespecial 11, 3) := by decide +kernel
theorem dX1_init_29 : decode cX1_init 29 = .ok (.putfield 20, 3) := by decide +kernel
theorem dX1_init_32 : decode cX1_init 32 = .ok (.aload_n 0, 1) := by decide +kernel
theorem dX1_init_33 : decode cX1_init 33 = .ok (.new 9, 3) := by decide +kernel
theorem dX1_init_36 : decode cX1_init 36 = .ok (.dup, 1) := by decide +kernel
theorem dX1_init_37 : decode cX1_init 37 = .ok (.sipush 301, 3) := by decide +kernel
theorem dX1_init_40 : decode cX1_init 40 = .ok (.invokespecial 11, 3) := by decide +kernel
theorem dX1_init_43 : decode cX1_init 43 = .ok (.putfield 23, 3) := by decide +kernel
theorem dX1_init_46 : decode cX1_init 46 = .ok (.aload_n 0, 1) := by decide +kernel
theorem dX1_init_47 : decode cX1_init 47 = .ok (.new 9, 3) := by decide +kernel
theorem dX1_init_50 : decode cX1_init 50 = .ok (.dup, 1) := by decide +kernel
theorem dX1_init_51 : decode cX1_init 51 = .ok (.sipush 4000, 3) := by decide +kernel
theorem dX1_init_54 : decode cX1_init 54 = .ok (.invokespecial 11, 3) := by decide +kernel
theorem dX1_init_57 : decode cX1_init 57 = .ok (.putfield 26, 3) := by decide +kernel
theorem dX1_init_60 : decode cX1_init 60 = .ok (.aload_n 0, 1) := by decide +kernel
theorem dX1_init_61 : decode cX1_init 61 = .ok (.new 9, 3) := by decide +kernel
theorem dX1_init_64 : decode cX1_init 64 = .ok (.dup, 1) := by decide +kernel
theorem dX1_init_65 : decode cX1_init 65 = .ok (.sipush 302, 3) := by decide +kernel
theorem dX1_init_68 : decode cX1_init 68 = .ok (.invokespecial 11, 3) := by decide +kernel
theorem dX1_init_71 : decode cX1_init 71 = .ok (.putfield 29, 3) := by decide +kernel
theorem dX1_init_74 : decode cX1_init 74 = .ok (.aload_n 0, 1) := by decide +kernel
theorem dX1_init_75 : decode cX1_init 75 = .ok (.new 9, 3) := by decide +kernel
theorem dX1_init_78 : decode cX1_init 78 = .ok (.dup, 1) := by decide +kernel
theorem dX1_init_79 : decode cX1_init 79 = .ok (.sipush 302, 3) := by decide +kernel
theorem dX1_init_82 : decode cX1_init 82 = .ok (.invokespecial 11, 3) := by decide +kernel
theorem dX1_init_85 : decode cX1_init 85 = .ok (.putfield 32, 3) := by decide +kernel
theorem dX1_init_88 : decode cX1_init 88 = .ok (.aload_n 0, 1) := by decide +kernel
theorem dX1_init_89 : decode cX1_init 89 = .ok (.iconst 0, 1) := by decide +kernel
theorem dX1_init_90 : decode cX1_init 90 = .ok (.putfield 35, 3) := by decide +kernel
theorem dX1_init_93 : decode cX1_init 93 = .ok (.aload_n 0, 1) := by decide +kernel
theorem dX1_init_94 : decode cX1_init 94 = .ok (.iconst 0, 1) := by decide +kernel
theorem dX1_init_95 : decode cX1_init 95 = .ok (.putfield 39, 3) := by decide +kernel
theorem dX1_init_98 : decode cX1_init 98 = .ok (.aload_n 0, 1) := by decide +kernel
theorem dX1_init_99 : decode cX1_init 99 = .ok (.iconst 0, 1) := by decide +kernel
theorem dX1_init_100 : decode cX1_init 100 = .ok (.putfield 42, 3) := by decide +kernel
theorem dX1_init_103 : decode cX1_init 103 = .ok (.aload_n 0, 1) := by decide +kernel
theorem dX1_init_104 : decode cX1_init 104 = .ok (.aload_n 1, 1) := by decide +kernel
theorem dX1_init_105 : decode cX1_init 105 = .ok (.putfield 45, 3) := by decide +kernel
theorem dX1_init_108 : decode cX1_init 108 = .ok (.return_, 1) := by decide +kernel
theorem dX1_numberAll_0 : decode cX1_numberAll 0 = .ok (.aload_n 0, 1) := by decide +kernel
theorem dX1_numberAll_1 : decode cX1_numberAll 1 = .ok (.aload_n 2, 1) := by decide +kernel
theorem dX1_numberAll_2 : decode cX1_numberAll 2 = .ok (.putfield 45, 3) := by decide +kernel
theorem dX1_numberAll_5 : decode cX1_numberAll 5 = .ok (.aload_n 0, 1) := by decide +kernel
theorem dX1_numberAll_6 : decode cX1_numberAll 6 = .ok (.iconst 0, 1) := by decide +kernel
theorem dX1_numberAll_7 : decode cX1_numberAll 7 = .ok (.putfield 35, 3) := by decide +kernel
theorem dX1_numberAll_10 : decode cX1_numberAll 10 = .ok (.aload_n 0, 1) := by decide +kernel
theorem dX1_numberAll_11 : decode cX1_numberAll 11 = .ok (.iconst 0, 1) := by decide +kernel
theorem dX1_numberAll_12 : decode cX1_numberAll 12 = .ok (.putfield 42, 3) := by decide +kernel
theorem dX1_numberAll_15 : decode cX1_numberAll 15 = .ok (.aload_n 0, 1) := by decide +kernel
theorem dX1_numberAll_16 : decode cX1_numberAll 16 = .ok (.aload_n 1, 1) := by decide +kernel
theorem dX1_numberAll_17 : decode cX1_numberAll 17 = .ok (.invokevirtual 49, 3) := by decide +kernel
theorem dX1_numberAll_20 : decode cX1_numberAll 20 = .ok (.putfield 39, 3) := by decide +kernel
theorem dX1_numberAll_23 : decode cX1_numberAll 23 = .ok (.iconst 1, 1) := by decide +kernel
theorem dX1_numberAll_24 : decode cX1_numberAll 24 = .ok (.istore_n 3, 1) := by decide +kernel
theorem dX1_numberAll_25 : decode cX1_numberAll 25 = .ok (.iload_n 3, 1) := by decide +kernel
theorem dX1_numberAll_26 : decode cX1_numberAll 26 = .ok (.aload_n 0, 1) := by decide +kernel
theorem dX1_numberAll_27 : decode cX1_numberAll 27 = .ok (.getfield 39, 3) := by decide +kernel
theorem dX1_numberAll_30 : decode cX1_numberAll 30 = .ok (.if_icmp .gt 15, 3) := by decide +kernel
theorem dX1_numberAll_33 : decode cX1_numberAll 33 = .ok (.aload_n 0, 1) := by decide +kernel
theorem dX1_numberAll_34 : decode cX1_numberAll 34 = .ok (.aload_n 1, 1) := by decide +kernel
theorem dX1_numberAll_35 : decode cX1_numberAll 35 = .ok (.iload_n 3, 1) := by decide +kernel
theorem dX1_numberAll_36 : decode cX1_numberAll 36 = .ok (.invokevirtual 55, 3) := by decide +kernel
theorem dX1_numberAll_39 : decode cX1_numberAll 39 = .ok (.iinc 3 1, 3) := by decide +kernel
theorem dX1_numberAll_42 : decode cX1_numberAll 42 = .ok (.goto (-17), 3) := by decide +kernel
theorem dX1_numberAll_45 : decode cX1_numberAll 45 = .ok (.iconst 1, 1) := by decide +kernel
theorem dX1_numberAll_46 : decode cX1_numberAll 46 = .ok (.istore_n 3, 1) := by decide +kernel
theorem dX1_numberAll_47 : decode cX1_numberAll 47 = .ok (.iload_n 3, 1) := by decide +kernel
theorem dX1_numberAll_48 : decode cX1_numberAll 48 = .ok (.aload_n 0, 1) := by decide +kernel
theorem dX1_numberAll_49 : decode cX1_numberAll 49 = .ok (.getfield 45, 3) := by decide +kernel
theorem dX1_numberAll_52 : decode cX1_numberAll 52 = .ok (.invokevirtual 49, 3) := by decide +kernel
theorem dX1_numberAll_55 : decode cX1_numberAll 55 = .ok (.if_icmp .gt 53, 3) := by decide +kernel
theorem dX1_numberAll_58 : decode cX1_numberAll 58 = .ok (.aload_n 0, 1) := by decide +kernel
theorem dX1_numberAll_59 : decode cX1_numberAll 59 = .ok (.getfield 45, 3) := by decide +kernel
theorem dX1_numberAll_62 : decode cX1_numberAll 62 = .ok (.iload_n 3, 1) := by decide +kernel
theorem dX1_numberAll_63 : decode cX1_numberAll 63 = .ok (.invokevirtual 59, 3) := by decide +kernel
theorem dX1_numberAll_66 : decode cX1_numberAll 66 = .ok (.ifCond .eq 15, 3) := by decide +kernel
theorem dX1_numberAll_69 : decode cX1_numberAll 69 = .ok (.aload_n 0, 1) := by decide +kernel
theorem dX1_numberAll_70 : decode cX1_numberAll 70 = .ok (.getfield 23, 3) := by decide +kernel
theorem dX1_numberAll_73 : decode cX1_numberAll 73 = .ok (.iload_n 3, 1) := by decide +kernel
theorem dX1_numberAll_74 : decode cX1_numberAll 74 = .ok (.iconst 0, 1) := by decide +kernel
theorem dX1_numberAll_75 : decode cX1_numberAll 75 = .ok (.invokevirtual 63, 3) := by decide +kernel
theorem dX1_numberAll_78 : decode cX1_numberAll 78 = .ok (.goto 24, 3) := by decide +kernel
theorem dX1_numberAll_81 : decode cX1_numberAll 81 = .ok (.aload_n 0, 1) := by decide +kernel
theorem dX1_numberAll_82 : decode cX1_numberAll 82 = .ok (.aload_n 0, 1) := by decide +kernel
theorem dX1_numberAll_83 : decode cX1_numberAll 83 = .ok (.getfield 45, 3) := by decide +kernel
theorem dX1_numberAll_86 : decode cX1_numberAll 86 = .ok (.iload_n 3, 1) := by decide +kernel
theorem dX1_numberAll_87 : decode cX1_numberAll 87 = .ok (.invokevirtual 55, 3) := by decide +kernel
theorem dX1_numberAll_90 : decode cX1_numberAll 90 = .ok (.aload_n 0, 1) := by decide +kernel
theorem dX1_numberAll_91 : decode cX1_numberAll 91 = .ok (.getfield 23, 3) := by decide +kernel
theorem dX1_numberAll_94 : decode cX1_numberAll 94 = .ok (.iload_n 3, 1) := by decide +kernel
theorem dX1_numberAll_95 : decode cX1_numberAll 95 = .ok (.aload_n 0, 1) := by decide +kernel
theorem dX1_numberAll_96 : decode cX1_numberAll 96 = .ok (.getfield 42, 3) := by decide +kernel
theorem dX1_numberAll_99 : decode cX1_numberAll 99 = .ok (.invokevirtual 63, 3) := by decide +kernel
theorem dX1_numberAll_102 : decode cX1_numberAll 102 = .ok (.iinc 3 1, 3) := by decide +kernel
theorem dX1_numberAll_105 : decode cX1_numberAll 105 = .ok (.goto (-58), 3) := by decide +kernel
theorem dX1_numberAll_108 : decode cX1_numberAll 108 = .ok (.aload_n 0, 1) := by decide +kernel
theorem dX1_numberAll_109 : decode cX1_numberAll 109 = .ok (.invokevirtual 67, 3) := by decide +kernel
theorem dX1_numberAll_112 : decode cX1_numberAll 112 = .ok (.return_, 1) := by decide +kernel
theorem dX1_ofFormula_0 : decode cX1_ofFormula 0 = .ok (.aload_n 0, 1) := by decide +kernel
theorem dX1_ofFormula_1 : decode cX1_ofFormula 1 = .ok (.getfield 39, 3) := by decide +kernel
theorem dX1_ofFormula_4 : decode cX1_ofFormula 4 = .ok (.ireturn, 1) := by decide +kernel
theorem dX1_inAll_0 : decode cX1_inAll 0 = .ok (.aload_n 0, 1) := by decide +kernel
theorem dX1_inAll_1 : decode cX1_inAll 1 = .ok (.getfield 42, 3) := by decide +kernel
theorem dX1_inAll_4 : decode cX1_inAll 4 = .ok (.ireturn, 1) := by decide +kernel
theorem dX1_steps_0 : decode cX1_steps 0 = .ok (.aload_n 0, 1) := by decide +kernel
theorem dX1_steps_1 : decode cX1_steps 1 = .ok (.getfield 45, 3) := by decide +kernel
theorem dX1_steps_4 : decode cX1_steps 4 = .ok (.invokevirtual 49, 3) := by decide +kernel
theorem dX1_steps_7 : decode cX1_steps 7 = .ok (.ireturn, 1) := by decide +kernel
theorem dX1_numberOfStep_0 : decode cX1_numberOfStep 0 = .ok (.aload_n 0, 1) := by decide +kernel
theorem dX1_numberOfStep_1 : decode cX1_numberOfStep 1 = .ok (.getfield 23, 3) := by decide +kernel
theorem dX1_numberOfStep_4 : decode cX1_numberOfStep 4 = .ok (.iload_n 1, 1) := by decide +kernel
theorem dX1_numberOfStep_5 : decode cX1_numberOfStep 5 = .ok (.invokevirtual 70, 3) := by decide +kernel
theorem dX1_numberOfStep_8 : decode cX1_numberOfStep 8 = .ok (.ireturn, 1) := by decide +kernel
theorem dX1_size_0 : decode cX1_size 0 = .ok (.aload_n 0, 1) := by decide +kernel
theorem dX1_size_1 : decode cX1_size 1 = .ok (.getfield 20, 3) := by decide +kernel
theorem dX1_size_4 : decode cX1_size 4 = .ok (.iload_n 1, 1) := by decide +kernel
theorem dX1_size_5 : decode cX1_size 5 = .ok (.invokevirtual 70, 3) := by decide +kernel
theorem dX1_size_8 : decode cX1_size 8 = .ok (.aload_n 0, 1) := by decide +kernel
theorem dX1_size_9 : decode cX1_size 9 = .ok (.getfield 20, 3) := by decide +kernel
theorem dX1_size_12 : decode cX1_size 12 = .ok (.iload_n 1, 1) := by decide +kernel
theorem dX1_size_13 : decode cX1_size 13 = .ok (.iconst 1, 1) := by decide +kernel
theorem dX1_size_14 : decode cX1_size 14 = .ok (.isub, 1) := by decide +kernel
theorem dX1_size_15 : decode cX1_size 15 = .ok (.invokevirtual 70, 3) := by decide +kernel
theorem dX1_size_18 : decode cX1_size 18 = .ok (.isub, 1) := by decide +kernel
theorem dX1_size_19 : decode cX1_size 19 = .ok (.ireturn, 1) := by decide +kernel
theorem dX1_literal_0 : decode cX1_literal 0 = .ok (.aload_n 0, 1) := by decide +kernel
theorem dX1_literal_1 : decode cX1_literal 1 = .ok (.getfield 20, 3) := by decide +kernel
theorem dX1_literal_4 : decode cX1_literal 4 = .ok (.iload_n 1, 1) := by decide +kernel
theorem dX1_literal_5 : decode cX1_literal 5 = .ok (.iconst 1, 1) := by decide +kernel
theorem dX1_literal_6 : decode cX1_literal 6 = .ok (.isub, 1) := by decide +kernel
theorem dX1_literal_7 : decode cX1_literal 7 = .ok (.invokevirtual 70, 3) := by decide +kernel
theorem dX1_literal_10 : decode cX1_literal 10 = .ok (.istore_n 3, 1) := by decide +kernel
theorem dX1_literal_11 : decode cX1_literal 11 = .ok (.iload_n 2, 1) := by decide +kernel
theorem dX1_literal_12 : decode cX1_literal 12 = .ok (.ifCond .lt 30, 3) := by decide +kernel
theorem dX1_literal_15 : decode cX1_literal 15 = .ok (.iload_n 2, 1) := by decide +kernel
theorem dX1_literal_16 : decode cX1_literal 16 = .ok (.aload_n 0, 1) := by decide +kernel
theorem dX1_literal_17 : decode cX1_literal 17 = .ok (.getfield 20, 3) := by decide +kernel
theorem dX1_literal_20 : decode cX1_literal 20 = .ok (.iload_n 1, 1) := by decide +kernel
theorem dX1_literal_21 : decode cX1_literal 21 = .ok (.invokevirtual 70, 3) := by decide +kernel
theorem dX1_literal_24 : decode cX1_literal 24 = .ok (.iload_n 3, 1) := by decide +kernel
theorem dX1_literal_25 : decode cX1_literal 25 = .ok (.isub, 1) := by decide +kernel
theorem dX1_literal_26 : decode cX1_literal 26 = .ok (.if_icmp .ge 16, 3) := by decide +kernel
theorem dX1_literal_29 : decode cX1_literal 29 = .ok (.aload_n 0, 1) := by decide +kernel
theorem dX1_literal_30 : decode cX1_literal 30 = .ok (.getfield 14, 3) := by decide +kernel
theorem dX1_literal_33 : decode cX1_literal 33 = .ok (.iload_n 3, 1) := by decide +kernel
theorem dX1_literal_34 : decode cX1_literal 34 = .ok (.iload_n 2, 1) := by decide +kernel
theorem dX1_literal_35 : decode cX1_literal 35 = .ok (.iadd, 1) := by decide +kernel
theorem dX1_literal_36 : decode cX1_literal 36 = .ok (.invokevirtual 70, 3) := by decide +kernel
theorem dX1_literal_39 : decode cX1_literal 39 = .ok (.goto 4, 3) := by decide +kernel
theorem dX1_literal_42 : decode cX1_literal 42 = .ok (.iconst 0, 1) := by decide +kernel
theorem dX1_literal_43 : decode cX1_literal 43 = .ok (.ireturn, 1) := by decide +kernel
theorem dX1_isAsStep_0 : decode cX1_isAsStep 0 = .ok (.aload_n 0, 1) := by decide +kernel
theorem dX1_isAsStep_1 : decode cX1_isAsStep 1 = .ok (.iload_n 1, 1) := by decide +kernel
theorem dX1_isAsStep_2 : decode cX1_isAsStep 2 = .ok (.invokevirtual 74, 3) := by decide +kernel
theorem dX1_isAsStep_5 : decode cX1_isAsStep 5 = .ok (.istore_n 3, 1) := by decide +kernel
theorem dX1_isAsStep_6 : decode cX1_isAsStep 6 = .ok (.iload_n 3, 1) := by decide +kernel
theorem dX1_isAsStep_7 : decode cX1_isAsStep 7 = .ok (.aload_n 0, 1) := by decide +kernel
theorem dX1_isAsStep_8 : decode cX1_isAsStep 8 = .ok (.getfield 45, 3) := by decide +kernel
theorem dX1_isAsStep_11 : decode cX1_isAsStep 11 = .ok (.iload_n 2, 1) := by decide +kernel
theorem dX1_isAsStep_12 : decode cX1_isAsStep 12 = .ok (.invokevirtual 77, 3) := by decide +kernel
theorem dX1_isAsStep_15 : decode cX1_isAsStep 15 = .ok (.if_icmp .eq 5, 3) := by decide +kernel
theorem dX1_isAsStep_18 : decode cX1_isAsStep 18 = .ok (.iconst 0, 1) := by decide +kernel
theorem dX1_isAsStep_19 : decode cX1_isAsStep 19 = .ok (.ireturn, 1) := by decide +kernel
theorem dX1_isAsStep_20 : decode cX1_isAsStep 20 = .ok (.iconst 0, 1) := by decide +kernel
theorem dX1_isAsStep_21 : decode cX1_isAsStep 21 = .ok (.istore 4, 2) := by decide +kernel
theorem dX1_isAsStep_23 : decode cX1_isAsStep 23 = .ok (.iload 4, 2) := by decide +kernel
theorem dX1_isAsStep_25 : decode cX1_isAsStep 25 = .ok (.iload_n 3, 1) := by decide +kernel
theorem dX1_isAsStep_26 : decode cX1_isAsStep 26 = .ok (.if_icmp .ge 29, 3) := by decide +kernel
theorem dX1_isAsStep_29 : decode cX1_isAsStep 29 = .ok (.aload_n 0, 1) := by decide +kernel
theorem dX1_isAsStep_30 : decode cX1_isAsStep 30 = .ok (.iload_n 1, 1) := by decide +kernel
theorem dX1_isAsStep_31 : decode cX1_isAsStep 31 = .ok (.aload_n 0, 1) := by decide +kernel
theorem dX1_isAsStep_32 : decode cX1_isAsStep 32 = .ok (.getfield 45, 3) := by decide +kernel
theorem dX1_isAsStep_35 : decode cX1_isAsStep 35 = .ok (.iload_n 2, 1) := by decide +kernel
theorem dX1_isAsStep_36 : decode cX1_isAsStep 36 = .ok (.iload 4, 2) := by decide +kernel
theorem dX1_isAsStep_38 : decode cX1_isAsStep 38 = .ok (.invokevirtual 78, 3) := by decide +kernel
theorem dX1_isAsStep_41 : decode cX1_isAsStep 41 = .ok (.invokevirtual 82, 3) := by decide +kernel
theorem dX1_isAsStep_44 : decode cX1_isAsStep 44 = .ok (.ifCond .ne 5, 3) := by decide +kernel
theorem dX1_isAsStep_47 : decode cX1_isAsStep 47 = .ok (.iconst 0, 1) := by decide +kernel
theorem dX1_isAsStep_48 : decode cX1_isAsStep 48 = .ok (.ireturn, 1) := by decide +kernel
theorem dX1_isAsStep_49 : decode cX1_isAsStep 49 = .ok (.iinc 4 1, 3) := by decide +kernel
theorem dX1_isAsStep_52 : decode cX1_isAsStep 52 = .ok (.goto (-29), 3) := by decide +kernel
theorem dX1_isAsStep_55 : decode cX1_isAsStep 55 = .ok (.iconst 1, 1) := by decide +kernel
theorem dX1_isAsStep_56 : decode cX1_isAsStep 56 = .ok (.ireturn, 1) := by decide +kernel
theorem dX1_firstUse_0 : decode cX1_firstUse 0 = .ok (.aload_n 0, 1) := by decide +kernel
theorem dX1_firstUse_1 : decode cX1_firstUse 1 = .ok (.getfield 29, 3) := by decide +kernel
theorem dX1_firstUse_4 : decode cX1_firstUse 4 = .ok (.iload_n 1, 1) := by decide +kernel
theorem dX1_firstUse_5 : decode cX1_firstUse 5 = .ok (.invokestatic 86, 3) := by decide +kernel
theorem dX1_firstUse_8 : decode cX1_firstUse 8 = .ok (.invokevirtual 70, 3) := by decide +kernel
theorem dX1_firstUse_11 : decode cX1_firstUse 11 = .ok (.ireturn, 1) := by decide +kernel
theorem dX1_endOfUses_0 : decode cX1_endOfUses 0 = .ok (.aload_n 0, 1) := by decide +kernel
theorem dX1_endOfUses_1 : decode cX1_endOfUses 1 = .ok (.getfield 32, 3) := by decide +kernel
theorem dX1_endOfUses_4 : decode cX1_endOfUses 4 = .ok (.iload_n 1, 1) := by decide +kernel
theorem dX1_endOfUses_5 : decode cX1_endOfUses 5 = .ok (.invokestatic 86, 3) := by decide +kernel
theorem dX1_endOfUses_8 : decode cX1_endOfUses 8 = .ok (.invokevirtual 70, 3) := by decide +kernel
theorem dX1_endOfUses_11 : decode cX1_endOfUses 11 = .ok (.ireturn, 1) := by decide +kernel
theorem dX1_user_0 : decode cX1_user 0 = .ok (.aload_n 0, 1) := by decide +kernel
theorem dX1_user_1 : decode cX1_user 1 = .ok (.getfield 26, 3) := by decide +kernel
theorem dX1_user_4 : decode cX1_user 4 = .ok (.iload_n 1, 1) := by decide +kernel
theorem dX1_user_5 : decode cX1_user 5 = .ok (.invokevirtual 70, 3) := by decide +kernel
theorem dX1_user_8 : decode cX1_user 8 = .ok (.ireturn, 1) := by decide +kernel
theorem dX1_contains_0 : decode cX1_contains 0 = .ok (.aload_n 0, 1) := by decide +kernel
theorem dX1_contains_1 : decode cX1_contains 1 = .ok (.getfield 20, 3) := by decide +kernel
theorem dX1_contains_4 : decode cX1_contains 4 = .ok (.iload_n 1, 1) := by decide +kernel
theorem dX1_contains_5 : decode cX1_contains 5 = .ok (.iconst 1, 1) := by decide +kernel
theorem dX1_contains_6 : decode cX1_contains 6 = .ok (.isub, 1) := by decide +kernel
theorem dX1_contains_7 : decode cX1_contains 7 = .ok (.invokevirtual 70, 3) := by decide +kernel
theorem dX1_contains_10 : decode cX1_contains 10 = .ok (.istore_n 3, 1) := by decide +kernel
theorem dX1_contains_11 : decode cX1_contains 11 = .ok (.iload_n 3, 1) := by decide +kernel
theorem dX1_contains_12 : decode cX1_contains 12 = .ok (.aload_n 0, 1) := by decide +kernel
theorem dX1_contains_13 : decode cX1_contains 13 = .ok (.getfield 20, 3) := by decide +kernel
theorem dX1_contains_16 : decode cX1_contains 16 = .ok (.iload_n 1, 1) := by decide +kernel
theorem dX1_contains_17 : decode cX1_contains 17 = .ok (.invokevirtual 70, 3) := by decide +kernel
theorem dX1_contains_20 : decode cX1_contains 20 = .ok (.if_icmp .ge 23, 3) := by decide +kernel
theorem dX1_contains_23 : decode cX1_contains 23 = .ok (.aload_n 0, 1) := by decide +kernel
theorem dX1_contains_24 : decode cX1_contains 24 = .ok (.getfield 14, 3) := by decide +kernel
theorem dX1_contains_27 : decode cX1_contains 27 = .ok (.iload_n 3, 1) := by decide +kernel
theorem dX1_contains_28 : decode cX1_contains 28 = .ok (.invokevirtual 70, 3) := by decide +kernel
theorem dX1_contains_31 : decode cX1_contains 31 = .ok (.iload_n 2, 1) := by decide +kernel
theorem dX1_contains_32 : decode cX1_contains 32 = .ok (.if_icmp .ne 5, 3) := by decide +kernel
theorem dX1_contains_35 : decode cX1_contains 35 = .ok (.iconst 1, 1) := by decide +kernel
theorem dX1_contains_36 : decode cX1_contains 36 = .ok (.ireturn, 1) := by decide +kernel
theorem dX1_contains_37 : decode cX1_contains 37 = .ok (.iinc 3 1, 3) := by decide +kernel
theorem dX1_contains_40 : decode cX1_contains 40 = .ok (.goto (-29), 3) := by decide +kernel
theorem dX1_contains_43 : decode cX1_contains 43 = .ok (.iconst 0, 1) := by decide +kernel
theorem dX1_contains_44 : decode cX1_contains 44 = .ok (.ireturn, 1) := by decide +kernel
theorem dX1_append_0 : decode cX1_append 0 = .ok (.aload_n 1, 1) := by decide +kernel
theorem dX1_append_1 : decode cX1_append 1 = .ok (.iload_n 2, 1) := by decide +kernel
theorem dX1_append_2 : decode cX1_append 2 = .ok (.invokevirtual 77, 3) := by decide +kernel
theorem dX1_append_5 : decode cX1_append 5 = .ok (.istore_n 3, 1) := by decide +kernel
theorem dX1_append_6 : decode cX1_append 6 = .ok (.iconst 0, 1) := by decide +kernel
theorem dX1_append_7 : decode cX1_append 7 = .ok (.istore 4, 2) := by decide +kernel
theorem dX1_append_9 : decode cX1_append 9 = .ok (.iload 4, 2) := by decide +kernel
theorem dX1_append_11 : decode cX1_append 11 = .ok (.iload_n 3, 1) := by decide +kernel
theorem dX1_append_12 : decode cX1_append 12 = .ok (.if_icmp .ge 30, 3) := by decide +kernel
theorem dX1_append_15 : decode cX1_append 15 = .ok (.aload_n 0, 1) := by decide +kernel
theorem dX1_append_16 : decode cX1_append 16 = .ok (.getfield 14, 3) := by decide +kernel
theorem dX1_append_19 : decode cX1_append 19 = .ok (.aload_n 0, 1) := by decide +kernel
theorem dX1_append_20 : decode cX1_append 20 = .ok (.getfield 35, 3) := by decide +kernel
theorem dX1_append_23 : decode cX1_append 23 = .ok (.iload 4, 2) := by decide +kernel
theorem dX1_append_25 : decode cX1_append 25 = .ok (.iadd, 1) := by decide +kernel
theorem dX1_append_26 : decode cX1_append 26 = .ok (.aload_n 1, 1) := by decide +kernel
theorem dX1_append_27 : decode cX1_append 27 = .ok (.iload_n 2, 1) := by decide +kernel
theorem dX1_append_28 : decode cX1_append 28 = .ok (.iload 4, 2) := by decide +kernel
theorem dX1_append_30 : decode cX1_append 30 = .ok (.invokevirtual 78, 3) := by decide +kernel
theorem dX1_append_33 : decode cX1_append 33 = .ok (.invokevirtual 63, 3) := by decide +kernel
theorem dX1_append_36 : decode cX1_append 36 = .ok (.iinc 4 1, 3) := by decide +kernel
theorem dX1_append_39 : decode cX1_append 39 = .ok (.goto (-30), 3) := by decide +kernel
theorem dX1_append_42 : decode cX1_append 42 = .ok (.aload_n 0, 1) := by decide +kernel
theorem dX1_append_43 : decode cX1_append 43 = .ok (.dup, 1) := by decide +kernel
theorem dX1_append_44 : decode cX1_append 44 = .ok (.getfield 35, 3) := by decide +kernel
theorem dX1_append_47 : decode cX1_append 47 = .ok (.iload_n 3, 1) := by decide +kernel
theorem dX1_append_48 : decode cX1_append 48 = .ok (.iadd, 1) := by decide +kernel
theorem dX1_append_49 : decode cX1_append 49 = .ok (.putfield 35, 3) := by decide +kernel
theorem dX1_append_52 : decode cX1_append 52 = .ok (.aload_n 0, 1) := by decide +kernel
theorem dX1_append_53 : decode cX1_append 53 = .ok (.dup, 1) := by decide +kernel
theorem dX1_append_54 : decode cX1_append 54 = .ok (.getfield 42, 3) := by decide +kernel
theorem dX1_append_57 : decode cX1_append 57 = .ok (.iconst 1, 1) := by decide +kernel
theorem dX1_append_58 : decode cX1_append 58 = .ok (.iadd, 1) := by decide +kernel
theorem dX1_append_59 : decode cX1_append 59 = .ok (.putfield 42, 3) := by decide +kernel
theorem dX1_append_62 : decode cX1_append 62 = .ok (.aload_n 0, 1) := by decide +kernel
theorem dX1_append_63 : decode cX1_append 63 = .ok (.getfield 20, 3) := by decide +kernel
theorem dX1_append_66 : decode cX1_append 66 = .ok (.aload_n 0, 1) := by decide +kernel
theorem dX1_append_67 : decode cX1_append 67 = .ok (.getfield 42, 3) := by decide +kernel
theorem dX1_append_70 : decode cX1_append 70 = .ok (.aload_n 0, 1) := by decide +kernel
theorem dX1_append_71 : decode cX1_append 71 = .ok (.getfield 35, 3) := by decide +kernel
theorem dX1_append_74 : decode cX1_append 74 = .ok (.invokevirtual 63, 3) := by decide +kernel
theorem dX1_append_77 : decode cX1_append 77 = .ok (.return_, 1) := by decide +kernel
theorem dX1_listUsers_0 : decode cX1_listUsers 0 = .ok (.aload_n 0, 1) := by decide +kernel
theorem dX1_listUsers_1 : decode cX1_listUsers 1 = .ok (.invokevirtual 89, 3) := by decide +kernel
theorem dX1_listUsers_4 : decode cX1_listUsers 4 = .ok (.iconst 1, 1) := by decide +kernel
theorem dX1_listUsers_5 : decode cX1_listUsers 5 = .ok (.istore_n 1, 1) := by decide +kernel
theorem dX1_listUsers_6 : decode cX1_listUsers 6 = .ok (.iload_n 1, 1) := by decide +kernel
theorem dX1_listUsers_7 : decode cX1_listUsers 7 = .ok (.aload_n 0, 1) := by decide +kernel
theorem dX1_listUsers_8 : decode cX1_listUsers 8 = .ok (.getfield 42, 3) := by decide +kernel
theorem dX1_listUsers_11 : decode cX1_listUsers 11 = .ok (.if_icmp .gt 76, 3) := by decide +kernel
theorem dX1_listUsers_14 : decode cX1_listUsers 14 = .ok (.aload_n 0, 1) := by decide +kernel
theorem dX1_listUsers_15 : decode cX1_listUsers 15 = .ok (.iload_n 1, 1) := by decide +kernel
theorem dX1_listUsers_16 : decode cX1_listUsers 16 = .ok (.invokevirtual 74, 3) := by decide +kernel
theorem dX1_listUsers_19 : decode cX1_listUsers 19 = .ok (.istore_n 2, 1) := by decide +kernel
theorem dX1_listUsers_20 : decode cX1_listUsers 20 = .ok (.iconst 0, 1) := by decide +kernel
theorem dX1_listUsers_21 : decode cX1_listUsers 21 = .ok (.istore_n 3, 1) := by decide +kernel
theorem dX1_listUsers_22 : decode cX1_listUsers 22 = .ok (.iload_n 3, 1) := by decide +kernel
theorem dX1_listUsers_23 : decode cX1_listUsers 23 = .ok (.iload_n 2, 1) := by decide +kernel
theorem dX1_listUsers_24 : decode cX1_listUsers 24 = .ok (.if_icmp .ge 57, 3) := by decide +kernel
theorem dX1_listUsers_27 : decode cX1_listUsers 27 = .ok (.aload_n 0, 1) := by decide +kernel
theorem dX1_listUsers_28 : decode cX1_listUsers 28 = .ok (.iload_n 1, 1) := by decide +kernel
theorem dX1_listUsers_29 : decode cX1_listUsers 29 = .ok (.iload_n 3, 1) := by decide +kernel
theorem dX1_listUsers_30 : decode cX1_listUsers 30 = .ok (.invokevirtual 92, 3) := by decide +kernel
theorem dX1_listUsers_33 : decode cX1_listUsers 33 = .ok (.invokestatic 86, 3) := by decide +kernel
theorem dX1_listUsers_36 : decode cX1_listUsers 36 = .ok (.istore 4, 2) := by decide +kernel
theorem dX1_listUsers_38 : decode cX1_listUsers 38 = .ok (.aload_n 0, 1) := by decide +kernel
theorem dX1_listUsers_39 : decode cX1_listUsers 39 = .ok (.getfield 26, 3) := by decide +kernel
theorem dX1_listUsers_42 : decode cX1_listUsers 42 = .ok (.aload_n 0, 1) := by decide +kernel
theorem dX1_listUsers_43 : decode cX1_listUsers 43 = .ok (.getfield 32, 3) := by decide +kernel
theorem dX1_listUsers_46 : decode cX1_listUsers 46 = .ok (.iload 4, 2) := by decide +kernel
theorem dX1_listUsers_48 : decode cX1_listUsers 48 = .ok (.invokevirtual 70, 3) := by decide +kernel
theorem dX1_listUsers_51 : decode cX1_listUsers 51 = .ok (.iload_n 1, 1) := by decide +kernel
theorem dX1_listUsers_52 : decode cX1_listUsers 52 = .ok (.invokevirtual 63, 3) := by decide +kernel
theorem dX1_listUsers_55 : decode cX1_listUsers 55 = .ok (.aload_n 0, 1) := by decide +kernel
theorem dX1_listUsers_56 : decode cX1_listUsers 56 = .ok (.getfield 32, 3) := by decide +kernel
theorem dX1_listUsers_59 : decode cX1_listUsers 59 = .ok (.iload 4, 2) := by decide +kernel
theorem dX1_listUsers_61 : decode cX1_listUsers 61 = .ok (.aload_n 0, 1) := by decide +kernel
theorem dX1_listUsers_62 : decode cX1_listUsers 62 = .ok (.getfield 32, 3) := by decide +kernel
theorem dX1_listUsers_65 : decode cX1_listUsers 65 = .ok (.iload 4, 2) := by decide +kernel
theorem dX1_listUsers_67 : decode cX1_listUsers 67 = .ok (.invokevirtual 70, 3) := by decide +kernel
theorem dX1_listUsers_70 : decode cX1_listUsers 70 = .ok (.iconst 1, 1) := by decide +kernel
theorem dX1_listUsers_71 : decode cX1_listUsers 71 = .ok (.iadd, 1) := by decide +kernel
theorem dX1_listUsers_72 : decode cX1_listUsers 72 = .ok (.invokevirtual 63, 3) := by decide +kernel
theorem dX1_listUsers_75 : decode cX1_listUsers 75 = .ok (.iinc 3 1, 3) := by decide +kernel
theorem dX1_listUsers_78 : decode cX1_listUsers 78 = .ok (.goto (-56), 3) := by decide +kernel
theorem dX1_listUsers_81 : decode cX1_listUsers 81 = .ok (.iinc 1 1, 3) := by decide +kernel
theorem dX1_listUsers_84 : decode cX1_listUsers 84 = .ok (.goto (-78), 3) := by decide +kernel
theorem dX1_listUsers_87 : decode cX1_listUsers 87 = .ok (.return_, 1) := by decide +kernel
theorem dX1_reserveUses_0 : decode cX1_reserveUses 0 = .ok (.aload_n 0, 1) := by decide +kernel
theorem dX1_reserveUses_1 : decode cX1_reserveUses 1 = .ok (.getfield 32, 3) := by decide +kernel
theorem dX1_reserveUses_4 : decode cX1_reserveUses 4 = .ok (.iconst 0, 1) := by decide +kernel
theorem dX1_reserveUses_5 : decode cX1_reserveUses 5 = .ok (.invokevirtual 93, 3) := by decide +kernel
theorem dX1_reserveUses_8 : decode cX1_reserveUses 8 = .ok (.iconst 0, 1) := by decide +kernel
theorem dX1_reserveUses_9 : decode cX1_reserveUses 9 = .ok (.istore_n 1, 1) := by decide +kernel
theorem dX1_reserveUses_10 : decode cX1_reserveUses 10 = .ok (.iload_n 1, 1) := by decide +kernel
theorem dX1_reserveUses_11 : decode cX1_reserveUses 11 = .ok (.aload_n 0, 1) := by decide +kernel
theorem dX1_reserveUses_12 : decode cX1_reserveUses 12 = .ok (.getfield 35, 3) := by decide +kernel
theorem dX1_reserveUses_15 : decode cX1_reserveUses 15 = .ok (.if_icmp .ge 39, 3) := by decide +kernel
theorem dX1_reserveUses_18 : decode cX1_reserveUses 18 = .ok (.aload_n 0, 1) := by decide +kernel
theorem dX1_reserveUses_19 : decode cX1_reserveUses 19 = .ok (.getfield 14, 3) := by decide +kernel
theorem dX1_reserveUses_22 : decode cX1_reserveUses 22 = .ok (.iload_n 1, 1) := by decide +kernel
theorem dX1_reserveUses_23 : decode cX1_reserveUses 23 = .ok (.invokevirtual 70, 3) := by decide +kernel
theorem dX1_reserveUses_26 : decode cX1_reserveUses 26 = .ok (.invokestatic 86, 3) := by decide +kernel
theorem dX1_reserveUses_29 : decode cX1_reserveUses 29 = .ok (.istore_n 2, 1) := by decide +kernel
theorem dX1_reserveUses_30 : decode cX1_reserveUses 30 = .ok (.aload_n 0, 1) := by decide +kernel
theorem dX1_reserveUses_31 : decode cX1_reserveUses 31 = .ok (.getfield 32, 3) := by decide +kernel
theorem dX1_reserveUses_34 : decode cX1_reserveUses 34 = .ok (.iload_n 2, 1) := by decide +kernel
theorem dX1_reserveUses_35 : decode cX1_reserveUses 35 = .ok (.aload_n 0, 1) := by decide +kernel
theorem dX1_reserveUses_36 : decode cX1_reserveUses 36 = .ok (.getfield 32, 3) := by decide +kernel
theorem dX1_reserveUses_39 : decode cX1_reserveUses 39 = .ok (.iload_n 2, 1) := by decide +kernel
theorem dX1_reserveUses_40 : decode cX1_reserveUses 40 = .ok (.invokevirtual 70, 3) := by decide +kernel
theorem dX1_reserveUses_43 : decode cX1_reserveUses 43 = .ok (.iconst 1, 1) := by decide +kernel
theorem dX1_reserveUses_44 : decode cX1_reserveUses 44 = .ok (.iadd, 1) := by decide +kernel
theorem dX1_reserveUses_45 : decode cX1_reserveUses 45 = .ok (.invokevirtual 63, 3) := by decide +kernel
theorem dX1_reserveUses_48 : decode cX1_reserveUses 48 = .ok (.iinc 1 1, 3) := by decide +kernel
theorem dX1_reserveUses_51 : decode cX1_reserveUses 51 = .ok (.goto (-41), 3) := by decide +kernel
theorem dX1_reserveUses_54 : decode cX1_reserveUses 54 = .ok (.iconst 0, 1) := by decide +kernel
theorem dX1_reserveUses_55 : decode cX1_reserveUses 55 = .ok (.istore_n 1, 1) := by decide +kernel
theorem dX1_reserveUses_56 : decode cX1_reserveUses 56 = .ok (.iconst 0, 1) := by decide +kernel
theorem dX1_reserveUses_57 : decode cX1_reserveUses 57 = .ok (.istore_n 2, 1) := by decide +kernel
theorem dX1_reserveUses_58 : decode cX1_reserveUses 58 = .ok (.iload_n 2, 1) := by decide +kernel
theorem dX1_reserveUses_59 : decode cX1_reserveUses 59 = .ok (.sipush 301, 3) := by decide +kernel
theorem dX1_reserveUses_62 : decode cX1_reserveUses 62 = .ok (.if_icmp .gt 40, 3) := by decide +kernel
theorem dX1_reserveUses_65 : decode cX1_reserveUses 65 = .ok (.aload_n 0, 1) := by decide +kernel
theorem dX1_reserveUses_66 : decode cX1_reserveUses 66 = .ok (.getfield 32, 3) := by decide +kernel
theorem dX1_reserveUses_69 : decode cX1_reserveUses 69 = .ok (.iload_n 2, 1) := by decide +kernel
theorem dX1_reserveUses_70 : decode cX1_reserveUses 70 = .ok (.invokevirtual 70, 3) := by decide +kernel
theorem dX1_reserveUses_73 : decode cX1_reserveUses 73 = .ok (.istore_n 3, 1) := by decide +kernel
theorem dX1_reserveUses_74 : decode cX1_reserveUses 74 = .ok (.aload_n 0, 1) := by decide +kernel
theorem dX1_reserveUses_75 : decode cX1_reserveUses 75 = .ok (.getfield 29, 3) := by decide +kernel
theorem dX1_reserveUses_78 : decode cX1_reserveUses 78 = .ok (.iload_n 2, 1) := by decide +kernel
theorem dX1_reserveUses_79 : decode cX1_reserveUses 79 = .ok (.iload_n 1, 1) := by decide +kernel
theorem dX1_reserveUses_80 : decode cX1_reserveUses 80 = .ok (.invokevirtual 63, 3) := by decide +kernel
theorem dX1_reserveUses_83 : decode cX1_reserveUses 83 = .ok (.aload_n 0, 1) := by decide +kernel
theorem dX1_reserveUses_84 : decode cX1_reserveUses 84 = .ok (.getfield 32, 3) := by decide +kernel
theorem dX1_reserveUses_87 : decode cX1_reserveUses 87 = .ok (.iload_n 2, 1) := by decide +kernel
theorem dX1_reserveUses_88 : decode cX1_reserveUses 88 = .ok (.iload_n 1, 1) := by decide +kernel
theorem dX1_reserveUses_89 : decode cX1_reserveUses 89 = .ok (.invokevirtual 63, 3) := by decide +kernel
theorem dX1_reserveUses_92 : decode cX1_reserveUses 92 = .ok (.iload_n 1, 1) := by decide +kernel
theorem dX1_reserveUses_93 : decode cX1_reserveUses 93 = .ok (.iload_n 3, 1) := by decide +kernel
theorem dX1_reserveUses_94 : decode cX1_reserveUses 94 = .ok (.iadd, 1) := by decide +kernel
theorem dX1_reserveUses_95 : decode cX1_reserveUses 95 = .ok (.istore_n 1, 1) := by decide +kernel
theorem dX1_reserveUses_96 : decode cX1_reserveUses 96 = .ok (.iinc 2 1, 3) := by decide +kernel
theorem dX1_reserveUses_99 : decode cX1_reserveUses 99 = .ok (.goto (-41), 3) := by decide +kernel
theorem dX1_reserveUses_102 : decode cX1_reserveUses 102 = .ok (.return_, 1) := by decide +kernel
theorem dX2_init_0 : decode cX2_init 0 = .ok (.aload_n 0, 1) := by decide +kernel
theorem dX2_init_1 : decode cX2_init 1 = .ok (.invokespecial 3, 3) := by decide +kernel
theorem dX2_init_4 : decode cX2_init 4 = .ok (.aload_n 0, 1) := by decide +kernel
theorem dX2_init_5 : decode cX2_init 5 = .ok (.new 9, 3) := by decide +kernel
theorem dX2_init_8 : decode cX2_init 8 = .ok (.dup, 1) := by decide +kernel
theorem dX2_init_9 : decode cX2_init 9 = .ok (.sipush 4000, 3) := by decide +kernel
theorem dX2_init_12 : decode cX2_init 12 = .ok (.invokespecial 11, 3) := by decide +kernel
theorem dX2_init_15 : decode cX2_init 15 = .ok (.putfield 14, 3) := by decide +kernel
theorem dX2_init_18 : decode cX2_init 18 = .ok (.aload_n 0, 1) := by decide +kernel
theorem dX2_init_19 : decode cX2_init 19 = .ok (.new 9, 3) := by decide +kernel
theorem dX2_init_22 : decode cX2_init 22 = .ok (.dup, 1) := by decide +kernel
theorem dX2_init_23 : decode cX2_init 23 = .ok (.sipush 601, 3) := by decide +kernel
theorem dX2_init_26 : decode cX2_init 26 = .ok (.invokespecial 11, 3) := by decide +kernel
theorem dX2_init_29 : decode cX2_init 29 = .ok (.putfield 20, 3) := by decide +kernel
theorem dX2_init_32 : decode cX2_init 32 = .ok (.aload_n 0, 1) := by decide +kernel
theorem dX2_init_33 : decode cX2_init 33 = .ok (.new 9, 3) := by decide +kernel
theorem dX2_init_36 : decode cX2_init 36 = .ok (.dup, 1) := by decide +kernel
theorem dX2_init_37 : decode cX2_init 37 = .ok (.sipush 601, 3) := by decide +kernel
theorem dX2_init_40 : decode cX2_init 40 = .ok (.invokespecial 11, 3) := by decide +kernel
theorem dX2_init_43 : decode cX2_init 43 = .ok (.putfield 23, 3) := by decide +kernel
theorem dX2_init_46 : decode cX2_init 46 = .ok (.aload_n 0, 1) := by decide +kernel
theorem dX2_init_47 : decode cX2_init 47 = .ok (.iconst 0, 1) := by decide +kernel
theorem dX2_init_48 : decode cX2_init 48 = .ok (.putfield 26, 3) := by decide +kernel
theorem dX2_init_51 : decode cX2_init 51 = .ok (.return_, 1) := by decide +kernel
theorem dX2_clear_0 : decode cX2_clear 0 = .ok (.aload_n 0, 1) := by decide +kernel
theorem dX2_clear_1 : decode cX2_clear 1 = .ok (.iconst 0, 1) := by decide +kernel
theorem dX2_clear_2 : decode cX2_clear 2 = .ok (.putfield 26, 3) := by decide +kernel
theorem dX2_clear_5 : decode cX2_clear 5 = .ok (.aload_n 0, 1) := by decide +kernel
theorem dX2_clear_6 : decode cX2_clear 6 = .ok (.getfield 20, 3) := by decide +kernel
theorem dX2_clear_9 : decode cX2_clear 9 = .ok (.iconst 0, 1) := by decide +kernel
theorem dX2_clear_10 : decode cX2_clear 10 = .ok (.invokevirtual 30, 3) := by decide +kernel
theorem dX2_clear_13 : decode cX2_clear 13 = .ok (.aload_n 0, 1) := by decide +kernel
theorem dX2_clear_14 : decode cX2_clear 14 = .ok (.getfield 23, 3) := by decide +kernel
theorem dX2_clear_17 : decode cX2_clear 17 = .ok (.iconst 0, 1) := by decide +kernel
theorem dX2_clear_18 : decode cX2_clear 18 = .ok (.invokevirtual 30, 3) := by decide +kernel
theorem dX2_clear_21 : decode cX2_clear 21 = .ok (.return_, 1) := by decide +kernel
theorem dX2_open_0 : decode cX2_open 0 = .ok (.aload_n 0, 1) := by decide +kernel
theorem dX2_open_1 : decode cX2_open 1 = .ok (.getfield 20, 3) := by decide +kernel
theorem dX2_open_4 : decode cX2_open 4 = .ok (.iload_n 1, 1) := by decide +kernel
theorem dX2_open_5 : decode cX2_open 5 = .ok (.aload_n 0, 1) := by decide +kernel
theorem dX2_open_6 : decode cX2_open 6 = .ok (.getfield 26, 3) := by decide +kernel
theorem dX2_open_9 : decode cX2_open 9 = .ok (.invokevirtual 33, 3) := by decide +kernel
theorem dX2_open_12 : decode cX2_open 12 = .ok (.aload_n 0, 1) := by decide +kernel
theorem dX2_open_13 : decode cX2_open 13 = .ok (.getfield 23, 3) := by decide +kernel
theorem dX2_open_16 : decode cX2_open 16 = .ok (.iload_n 1, 1) := by decide +kernel
theorem dX2_open_17 : decode cX2_open 17 = .ok (.aload_n 0, 1) := by decide +kernel
theorem dX2_open_18 : decode cX2_open 18 = .ok (.getfield 26, 3) := by decide +kernel
theorem dX2_open_21 : decode cX2_open 21 = .ok (.invokevirtual 33, 3) := by decide +kernel
theorem dX2_open_24 : decode cX2_open 24 = .ok (.return_, 1) := by decide +kernel
theorem dX2_add_0 : decode cX2_add 0 = .ok (.aload_n 0, 1) := by decide +kernel
theorem dX2_add_1 : decode cX2_add 1 = .ok (.getfield 26, 3) := by decide +kernel
theorem dX2_add_4 : decode cX2_add 4 = .ok (.sipush 4000, 3) := by decide +kernel
theorem dX2_add_7 : decode cX2_add 7 = .ok (.if_icmp .ge 37, 3) := by decide +kernel
theorem dX2_add_10 : decode cX2_add 10 = .ok (.aload_n 0, 1) := by decide +kernel
theorem dX2_add_11 : decode cX2_add 11 = .ok (.getfield 14, 3) := by decide +kernel
theorem dX2_add_14 : decode cX2_add 14 = .ok (.aload_n 0, 1) := by decide +kernel
theorem dX2_add_15 : decode cX2_add 15 = .ok (.getfield 26, 3) := by decide +kernel
theorem dX2_add_18 : decode cX2_add 18 = .ok (.iload_n 2, 1) := by decide +kernel
theorem dX2_add_19 : decode cX2_add 19 = .ok (.invokevirtual 33, 3) := by decide +kernel
theorem dX2_add_22 : decode cX2_add 22 = .ok (.aload_n 0, 1) := by decide +kernel
theorem dX2_add_23 : decode cX2_add 23 = .ok (.dup, 1) := by decide +kernel
theorem dX2_add_24 : decode cX2_add 24 = .ok (.getfield 26, 3) := by decide +kernel
theorem dX2_add_27 : decode cX2_add 27 = .ok (.iconst 1, 1) := by decide +kernel
theorem dX2_add_28 : decode cX2_add 28 = .ok (.iadd, 1) := by decide +kernel
theorem dX2_add_29 : decode cX2_add 29 = .ok (.putfield 26, 3) := by decide +kernel
theorem dX2_add_32 : decode cX2_add 32 = .ok (.aload_n 0, 1) := by decide +kernel
theorem dX2_add_33 : decode cX2_add 33 = .ok (.getfield 23, 3) := by decide +kernel
theorem dX2_add_36 : decode cX2_add 36 = .ok (.iload_n 1, 1) := by decide +kernel
theorem dX2_add_37 : decode cX2_add 37 = .ok (.aload_n 0, 1) := by decide +kernel
theorem dX2_add_38 : decode cX2_add 38 = .ok (.getfield 26, 3) := by decide +kernel
theorem dX2_add_41 : decode cX2_add 41 = .ok (.invokevirtual 33, 3) := by decide +kernel
theorem dX2_add_44 : decode cX2_add 44 = .ok (.return_, 1) := by decide +kernel
theorem dX2_drop_0 : decode cX2_drop 0 = .ok (.aload_n 0, 1) := by decide +kernel
theorem dX2_drop_1 : decode cX2_drop 1 = .ok (.aload_n 0, 1) := by decide +kernel
theorem dX2_drop_2 : decode cX2_drop 2 = .ok (.getfield 20, 3) := by decide +kernel
theorem dX2_drop_5 : decode cX2_drop 5 = .ok (.iload_n 1, 1) := by decide +kernel
theorem dX2_drop_6 : decode cX2_drop 6 = .ok (.invokevirtual 37, 3) := by decide +kernel
theorem dX2_drop_9 : decode cX2_drop 9 = .ok (.putfield 26, 3) := by decide +kernel
theorem dX2_drop_12 : decode cX2_drop 12 = .ok (.aload_n 0, 1) := by decide +kernel
theorem dX2_drop_13 : decode cX2_drop 13 = .ok (.getfield 23, 3) := by decide +kernel
theorem dX2_drop_16 : decode cX2_drop 16 = .ok (.iload_n 1, 1) := by decide +kernel
theorem dX2_drop_17 : decode cX2_drop 17 = .ok (.aload_n 0, 1) := by decide +kernel
theorem dX2_drop_18 : decode cX2_drop 18 = .ok (.getfield 26, 3) := by decide +kernel
theorem dX2_drop_21 : decode cX2_drop 21 = .ok (.invokevirtual 33, 3) := by decide +kernel
theorem dX2_drop_24 : decode cX2_drop 24 = .ok (.return_, 1) := by decide +kernel
theorem dX2_at_0 : decode cX2_at 0 = .ok (.aload_n 0, 1) := by decide +kernel
theorem dX2_at_1 : decode cX2_at 1 = .ok (.getfield 20, 3) := by decide +kernel
theorem dX2_at_4 : decode cX2_at 4 = .ok (.iload_n 1, 1) := by decide +kernel
theorem dX2_at_5 : decode cX2_at 5 = .ok (.invokevirtual 37, 3) := by decide +kernel
theorem dX2_at_8 : decode cX2_at 8 = .ok (.istore_n 3, 1) := by decide +kernel
theorem dX2_at_9 : decode cX2_at 9 = .ok (.iload_n 2, 1) := by decide +kernel
theorem dX2_at_10 : decode cX2_at 10 = .ok (.ifCond .lt 30, 3) := by decide +kernel
theorem dX2_at_13 : decode cX2_at 13 = .ok (.iload_n 2, 1) := by decide +kernel
theorem dX2_at_14 : decode cX2_at 14 = .ok (.aload_n 0, 1) := by decide +kernel
theorem dX2_at_15 : decode cX2_at 15 = .ok (.getfield 23, 3) := by decide +kernel
theorem dX2_at_18 : decode cX2_at 18 = .ok (.iload_n 1, 1) := by decide +kernel
theorem dX2_at_19 : decode cX2_at 19 = .ok (.invokevirtual 37, 3) := by decide +kernel
theorem dX2_at_22 : decode cX2_at 22 = .ok (.iload_n 3, 1) := by decide +kernel
theorem dX2_at_23 : decode cX2_at 23 = .ok (.isub, 1) := by decide +kernel
theorem dX2_at_24 : decode cX2_at 24 = .ok (.if_icmp .ge 16, 3) := by decide +kernel
theorem dX2_at_27 : decode cX2_at 27 = .ok (.aload_n 0, 1) := by decide +kernel
theorem dX2_at_28 : decode cX2_at 28 = .ok (.getfield 14, 3) := by decide +kernel
theorem dX2_at_31 : decode cX2_at 31 = .ok (.iload_n 3, 1) := by decide +kernel
theorem dX2_at_32 : decode cX2_at 32 = .ok (.iload_n 2, 1) := by decide +kernel
theorem dX2_at_33 : decode cX2_at 33 = .ok (.iadd, 1) := by decide +kernel
theorem dX2_at_34 : decode cX2_at 34 = .ok (.invokevirtual 37, 3) := by decide +kernel
theorem dX2_at_37 : decode cX2_at 37 = .ok (.goto 4, 3) := by decide +kernel
theorem dX2_at_40 : decode cX2_at 40 = .ok (.iconst 0, 1) := by decide +kernel
theorem dX2_at_41 : decode cX2_at 41 = .ok (.ireturn, 1) := by decide +kernel
theorem dX3_init_0 : decode cX3_init 0 = .ok (.aload_n 0, 1) := by decide +kernel
theorem dX3_init_1 : decode cX3_init 1 = .ok (.invokespecial 3, 3) := by decide +kernel
theorem dX3_init_4 : decode cX3_init 4 = .ok (.aload_n 0, 1) := by decide +kernel
theorem dX3_init_5 : decode cX3_init 5 = .ok (.new 9, 3) := by decide +kernel
theorem dX3_init_8 : decode cX3_init 8 = .ok (.dup, 1) := by decide +kernel
theorem dX3_init_9 : decode cX3_init 9 = .ok (.invokespecial 11, 3) := by decide +kernel
theorem dX3_init_12 : decode cX3_init 12 = .ok (.putfield 12, 3) := by decide +kernel
theorem dX3_init_15 : decode cX3_init 15 = .ok (.aload_n 0, 1) := by decide +kernel
theorem dX3_init_16 : decode cX3_init 16 = .ok (.new 18, 3) := by decide +kernel
theorem dX3_init_19 : decode cX3_init 19 = .ok (.dup, 1) := by decide +kernel
theorem dX3_init_20 : decode cX3_init 20 = .ok (.sipush 301, 3) := by decide +kernel
theorem dX3_init_23 : decode cX3_init 23 = .ok (.invokespecial 20, 3) := by decide +kernel
theorem dX3_init_26 : decode cX3_init 26 = .ok (.putfield 23, 3) := by decide +kernel
theorem dX3_init_29 : decode cX3_init 29 = .ok (.aload_n 0, 1) := by decide +kernel
theorem dX3_init_30 : decode cX3_init 30 = .ok (.iconst 0, 1) := by decide +kernel
theorem dX3_init_31 : decode cX3_init 31 = .ok (.putfield 27, 3) := by decide +kernel
theorem dX3_init_34 : decode cX3_init 34 = .ok (.aload_n 0, 1) := by decide +kernel
theorem dX3_init_35 : decode cX3_init 35 = .ok (.iconst 0, 1) := by decide +kernel
theorem dX3_init_36 : decode cX3_init 36 = .ok (.putfield 31, 3) := by decide +kernel
theorem dX3_init_39 : decode cX3_init 39 = .ok (.aload_n 0, 1) := by decide +kernel
theorem dX3_init_40 : decode cX3_init 40 = .ok (.iconst (-1), 1) := by decide +kernel
theorem dX3_init_41 : decode cX3_init 41 = .ok (.putfield 34, 3) := by decide +kernel
theorem dX3_init_44 : decode cX3_init 44 = .ok (.aload_n 0, 1) := by decide +kernel
theorem dX3_init_45 : decode cX3_init 45 = .ok (.iconst (-1), 1) := by decide +kernel
theorem dX3_init_46 : decode cX3_init 46 = .ok (.putfield 38, 3) := by decide +kernel
theorem dX3_init_49 : decode cX3_init 49 = .ok (.aload_n 0, 1) := by decide +kernel
theorem dX3_init_50 : decode cX3_init 50 = .ok (.iconst (-1), 1) := by decide +kernel
theorem dX3_init_51 : decode cX3_init 51 = .ok (.putfield 41, 3) := by decide +kernel
theorem dX3_init_54 : decode cX3_init 54 = .ok (.aload_n 0, 1) := by decide +kernel
theorem dX3_init_55 : decode cX3_init 55 = .ok (.iconst 0, 1) := by decide +kernel
theorem dX3_init_56 : decode cX3_init 56 = .ok (.putfield 44, 3) := by decide +kernel
theorem dX3_init_59 : decode cX3_init 59 = .ok (.aload_n 0, 1) := by decide +kernel
theorem dX3_init_60 : decode cX3_init 60 = .ok (.iconst 0, 1) := by decide +kernel
theorem dX3_init_61 : decode cX3_init 61 = .ok (.putfield 47, 3) := by decide +kernel
theorem dX3_init_64 : decode cX3_init 64 = .ok (.aload_n 0, 1) := by decide +kernel
theorem dX3_init_65 : decode cX3_init 65 = .ok (.aload_n 1, 1) := by decide +kernel
theorem dX3_init_66 : decode cX3_init 66 = .ok (.putfield 50, 3) := by decide +kernel
theorem dX3_init_69 : decode cX3_init 69 = .ok (.aload_n 0, 1) := by decide +kernel
theorem dX3_init_70 : decode cX3_init 70 = .ok (.new 54, 3) := by decide +kernel
theorem dX3_init_73 : decode cX3_init 73 = .ok (.dup, 1) := by decide +kernel
theorem dX3_init_74 : decode cX3_init 74 = .ok (.aload_n 1, 1) := by decide +kernel
theorem dX3_init_75 : decode cX3_init 75 = .ok (.invokespecial 56, 3) := by decide +kernel
theorem dX3_init_78 : decode cX3_init 78 = .ok (.putfield 59, 3) := by decide +kernel
theorem dX3_init_81 : decode cX3_init 81 = .ok (.return_, 1) := by decide +kernel
theorem dX3_forget_0 : decode cX3_forget 0 = .ok (.aload_n 0, 1) := by decide +kernel
theorem dX3_forget_1 : decode cX3_forget 1 = .ok (.getfield 59, 3) := by decide +kernel
theorem dX3_forget_4 : decode cX3_forget 4 = .ok (.invokevirtual 63, 3) := by decide +kernel
theorem dX3_forget_7 : decode cX3_forget 7 = .ok (.aload_n 0, 1) := by decide +kernel
theorem dX3_forget_8 : decode cX3_forget 8 = .ok (.getfield 12, 3) := by decide +kernel
theorem dX3_forget_11 : decode cX3_forget 11 = .ok (.invokevirtual 66, 3) := by decide +kernel
theorem dX3_forget_14 : decode cX3_forget 14 = .ok (.aload_n 0, 1) := by decide +kernel
theorem dX3_forget_15 : decode cX3_forget 15 = .ok (.getfield 23, 3) := by decide +kernel
theorem dX3_forget_18 : decode cX3_forget 18 = .ok (.iconst 0, 1) := by decide +kernel
theorem dX3_forget_19 : decode cX3_forget 19 = .ok (.invokevirtual 69, 3) := by decide +kernel
theorem dX3_forget_22 : decode cX3_forget 22 = .ok (.aload_n 0, 1) := by decide +kernel
theorem dX3_forget_23 : decode cX3_forget 23 = .ok (.iconst (-1), 1) := by decide +kernel
theorem dX3_forget_24 : decode cX3_forget 24 = .ok (.putfield 34, 3) := by decide +kernel
theorem dX3_forget_27 : decode cX3_forget 27 = .ok (.aload_n 0, 1) := by decide +kernel
theorem dX3_forget_28 : decode cX3_forget 28 = .ok (.iconst (-1), 1) := by decide +kernel
theorem dX3_forget_29 : decode cX3_forget 29 = .ok (.putfield 38, 3) := by decide +kernel
theorem dX3_forget_32 : decode cX3_forget 32 = .ok (.aload_n 0, 1) := by decide +kernel
theorem dX3_forget_33 : decode cX3_forget 33 = .ok (.iconst (-1), 1) := by decide +kernel
theorem dX3_forget_34 : decode cX3_forget 34 = .ok (.putfield 41, 3) := by decide +kernel
theorem dX3_forget_37 : decode cX3_forget 37 = .ok (.aload_n 0, 1) := by decide +kernel
theorem dX3_forget_38 : decode cX3_forget 38 = .ok (.iconst 0, 1) := by decide +kernel
theorem dX3_forget_39 : decode cX3_forget 39 = .ok (.putfield 44, 3) := by decide +kernel
theorem dX3_forget_42 : decode cX3_forget 42 = .ok (.aload_n 0, 1) := by decide +kernel
theorem dX3_forget_43 : decode cX3_forget 43 = .ok (.iconst 0, 1) := by decide +kernel
theorem dX3_forget_44 : decode cX3_forget 44 = .ok (.putfield 47, 3) := by decide +kernel
theorem dX3_forget_47 : decode cX3_forget 47 = .ok (.return_, 1) := by decide +kernel
theorem dX3_begin_0 : decode cX3_begin 0 = .ok (.aload_n 0, 1) := by decide +kernel
theorem dX3_begin_1 : decode cX3_begin 1 = .ok (.invokevirtual 72, 3) := by decide +kernel
theorem dX3_begin_4 : decode cX3_begin 4 = .ok (.aload_n 0, 1) := by decide +kernel
theorem dX3_begin_5 : decode cX3_begin 5 = .ok (.iload_n 1, 1) := by decide +kernel
theorem dX3_begin_6 : decode cX3_begin 6 = .ok (.putfield 27, 3) := by decide +kernel
theorem dX3_begin_9 : decode cX3_begin 9 = .ok (.aload_n 0, 1) := by decide +kernel
theorem dX3_begin_10 : decode cX3_begin 10 = .ok (.iload_n 2, 1) := by decide +kernel
theorem dX3_begin_11 : decode cX3_begin 11 = .ok (.putfield 31, 3) := by decide +kernel
theorem dX3_begin_14 : decode cX3_begin 14 = .ok (.aload_n 0, 1) := by decide +kernel
theorem dX3_begin_15 : decode cX3_begin 15 = .ok (.getfield 59, 3) := by decide +kernel
theorem dX3_begin_18 : decode cX3_begin 18 = .ok (.iload_n 3, 1) := by decide +kernel
theorem dX3_begin_19 : decode cX3_begin 19 = .ok (.invokevirtual 73, 3) := by decide +kernel
theorem dX3_begin_22 : decode cX3_begin 22 = .ok (.return_, 1) := by decide +kernel
theorem dX3_goForwards_0 : decode cX3_goForwards 0 = .ok (.aload_n 0, 1) := by decide +kernel
theorem dX3_goForwards_1 : decode cX3_goForwards 1 = .ok (.iconst 0, 1) := by decide +kernel
theorem dX3_goForwards_2 : decode cX3_goForwards 2 = .ok (.invokevirtual 76, 3) := by decide +kernel
theorem dX3_goForwards_5 : decode cX3_goForwards 5 = .ok (.aload_n 0, 1) := by decide +kernel
theorem dX3_goForwards_6 : decode cX3_goForwards 6 = .ok (.getfield 50, 3) := by decide +kernel
theorem dX3_goForwards_9 : decode cX3_goForwards 9 = .ok (.invokevirtual 79, 3) := by decide +kernel
theorem dX3_goForwards_12 : decode cX3_goForwards 12 = .ok (.istore_n 2, 1) := by decide +kernel
theorem dX3_goForwards_13 : decode cX3_goForwards 13 = .ok (.iconst 1, 1) := by decide +kernel
theorem dX3_goForwards_14 : decode cX3_goForwards 14 = .ok (.istore_n 3, 1) := by decide +kernel
theorem dX3_goForwards_15 : decode cX3_goForwards 15 = .ok (.iload_n 3, 1) := by decide +kernel
theorem dX3_goForwards_16 : decode cX3_goForwards 16 = .ok (.iload_n 2, 1) := by decide +kernel
theorem dX3_goForwards_17 : decode cX3_goForwards 17 = .ok (.if_icmp .gt 77, 3) := by decide +kernel
theorem dX3_goForwards_20 : decode cX3_goForwards 20 = .ok (.aload_n 0, 1) := by decide +kernel
theorem dX3_goForwards_21 : decode cX3_goForwards 21 = .ok (.getfield 34, 3) := by decide +kernel
theorem dX3_goForwards_24 : decode cX3_goForwards 24 = .ok (.iconst (-1), 1) := by decide +kernel
theorem dX3_goForwards_25 : decode cX3_goForwards 25 = .ok (.if_icmp .ne 69, 3) := by decide +kernel
theorem dX3_goForwards_28 : decode cX3_goForwards 28 = .ok (.aload_n 0, 1) := by decide +kernel
theorem dX3_goForwards_29 : decode cX3_goForwards 29 = .ok (.getfield 50, 3) := by decide +kernel
theorem dX3_goForwards_32 : decode cX3_goForwards 32 = .ok (.iload_n 3, 1) := by decide +kernel
theorem dX3_goForwards_33 : decode cX3_goForwards 33 = .ok (.invokevirtual 85, 3) := by decide +kernel
theorem dX3_goForwards_36 : decode cX3_goForwards 36 = .ok (.istore 4, 2) := by decide +kernel
theorem dX3_goForwards_38 : decode cX3_goForwards 38 = .ok (.iload 4, 2) := by decide +kernel
theorem dX3_goForwards_40 : decode cX3_goForwards 40 = .ok (.ifCond .ne 11, 3) := by decide +kernel
theorem dX3_goForwards_43 : decode cX3_goForwards 43 = .ok (.aload_n 0, 1) := by decide +kernel
theorem dX3_goForwards_44 : decode cX3_goForwards 44 = .ok (.iload_n 3, 1) := by decide +kernel
theorem dX3_goForwards_45 : decode cX3_goForwards 45 = .ok (.invokevirtual 89, 3) := by decide +kernel
theorem dX3_goForwards_48 : decode cX3_goForwards 48 = .ok (.goto 27, 3) := by decide +kernel
theorem dX3_goForwards_51 : decode cX3_goForwards 51 = .ok (.iload_n 1, 1) := by decide +kernel
theorem dX3_goForwards_52 : decode cX3_goForwards 52 = .ok (.ifCond .eq 13, 3) := by decide +kernel
theorem dX3_goForwards_55 : decode cX3_goForwards 55 = .ok (.aload_n 0, 1) := by decide +kernel
theorem dX3_goForwards_56 : decode cX3_goForwards 56 = .ok (.iload_n 3, 1) := by decide +kernel
theorem dX3_goForwards_57 : decode cX3_goForwards 57 = .ok (.iload 4, 2) := by decide +kernel
theorem dX3_goForwards_59 : decode cX3_goForwards 59 = .ok (.invokevirtual 92, 3) := by decide +kernel
theorem dX3_goForwards_62 : decode cX3_goForwards 62 = .ok (.ifCond .eq 13, 3) := by decide +kernel
theorem dX3_goForwards_65 : decode cX3_goForwards 65 = .ok (.aload_n 0, 1) := by decide +kernel
theorem dX3_goForwards_66 : decode cX3_goForwards 66 = .ok (.getfield 59, 3) := by decide +kernel
theorem dX3_goForwards_69 : decode cX3_goForwards 69 = .ok (.iload 4, 2) := by decide +kernel
theorem dX3_goForwards_71 : decode cX3_goForwards 71 = .ok (.iconst 1, 1) := by decide +kernel
theorem dX3_goForwards_72 : decode cX3_goForwards 72 = .ok (.invokevirtual 96, 3) := by decide +kernel
theorem dX3_goForwards_75 : decode cX3_goForwards 75 = .ok (.aload_n 0, 1) := by decide +kernel
theorem dX3_goForwards_76 : decode cX3_goForwards 76 = .ok (.getfield 34, 3) := by decide +kernel
theorem dX3_goForwards_79 : decode cX3_goForwards 79 = .ok (.iconst (-1), 1) := by decide +kernel
theorem dX3_goForwards_80 : decode cX3_goForwards 80 = .ok (.if_icmp .ne 8, 3) := by decide +kernel
theorem dX3_goForwards_83 : decode cX3_goForwards 83 = .ok (.aload_n 0, 1) := by decide +kernel
theorem dX3_goForwards_84 : decode cX3_goForwards 84 = .ok (.iload_n 3, 1) := by decide +kernel
theorem dX3_goForwards_85 : decode cX3_goForwards 85 = .ok (.invokevirtual 76, 3) := by decide +kernel
theorem dX3_goForwards_88 : decode cX3_goForwards 88 = .ok (.iinc 3 1, 3) := by decide +kernel
theorem dX3_goForwards_91 : decode cX3_goForwards 91 = .ok (.goto (-76), 3) := by decide +kernel
theorem dX3_goForwards_94 : decode cX3_goForwards 94 = .ok (.aload_n 0, 1) := by decide +kernel
theorem dX3_goForwards_95 : decode cX3_goForwards 95 = .ok (.getfield 34, 3) := by decide +kernel
theorem dX3_goForwards_98 : decode cX3_goForwards 98 = .ok (.iconst (-1), 1) := by decide +kernel
theorem dX3_goForwards_99 : decode cX3_goForwards 99 = .ok (.if_icmp .ne 8, 3) := by decide +kernel
theorem dX3_goForwards_102 : decode cX3_goForwards 102 = .ok (.aload_n 0, 1) := by decide +kernel
theorem dX3_goForwards_103 : decode cX3_goForwards 103 = .ok (.iconst 1, 1) := by decide +kernel
theorem dX3_goForwards_104 : decode cX3_goForwards 104 = .ok (.putfield 34, 3) := by decide +kernel
theorem dX3_goForwards_107 : decode cX3_goForwards 107 = .ok (.return_, 1) := by decide +kernel
theorem dX3_goBack_0 : decode cX3_goBack 0 = .ok (.aload_n 0, 1) := by decide +kernel
theorem dX3_goBack_1 : decode cX3_goBack 1 = .ok (.getfield 41, 3) := by decide +kernel
theorem dX3_goBack_4 : decode cX3_goBack 4 = .ok (.istore_n 1, 1) := by decide +kernel
theorem dX3_goBack_5 : decode cX3_goBack 5 = .ok (.iload_n 1, 1) := by decide +kernel
theorem dX3_goBack_6 : decode cX3_goBack 6 = .ok (.iconst 1, 1) := by decide +kernel
theorem dX3_goBack_7 : decode cX3_goBack 7 = .ok (.if_icmp .lt 64, 3) := by decide +kernel
theorem dX3_goBack_10 : decode cX3_goBack 10 = .ok (.aload_n 0, 1) := by decide +kernel
theorem dX3_goBack_11 : decode cX3_goBack 11 = .ok (.getfield 34, 3) := by decide +kernel
theorem dX3_goBack_14 : decode cX3_goBack 14 = .ok (.ifCond .ne 57, 3) := by decide +kernel
theorem dX3_goBack_17 : decode cX3_goBack 17 = .ok (.aload_n 0, 1) := by decide +kernel
theorem dX3_goBack_18 : decode cX3_goBack 18 = .ok (.getfield 50, 3) := by decide +kernel
theorem dX3_goBack_21 : decode cX3_goBack 21 = .ok (.iload_n 1, 1) := by decide +kernel
theorem dX3_goBack_22 : decode cX3_goBack 22 = .ok (.invokevirtual 85, 3) := by decide +kernel
theorem dX3_goBack_25 : decode cX3_goBack 25 = .ok (.istore_n 2, 1) := by decide +kernel
theorem dX3_goBack_26 : decode cX3_goBack 26 = .ok (.iload_n 2, 1) := by decide +kernel
theorem dX3_goBack_27 : decode cX3_goBack 27 = .ok (.ifCond .ne 11, 3) := by decide +kernel
theorem dX3_goBack_30 : decode cX3_goBack 30 = .ok (.aload_n 0, 1) := by decide +kernel
theorem dX3_goBack_31 : decode cX3_goBack 31 = .ok (.iload_n 1, 1) := by decide +kernel
theorem dX3_goBack_32 : decode cX3_goBack 32 = .ok (.invokevirtual 100, 3) := by decide +kernel
theorem dX3_goBack_35 : decode cX3_goBack 35 = .ok (.goto 30, 3) := by decide +kernel
theorem dX3_goBack_38 : decode cX3_goBack 38 = .ok (.aload_n 0, 1) := by decide +kernel
theorem dX3_goBack_39 : decode cX3_goBack 39 = .ok (.getfield 59, 3) := by decide +kernel
theorem dX3_goBack_42 : decode cX3_goBack 42 = .ok (.iload_n 2, 1) := by decide +kernel
theorem dX3_goBack_43 : decode cX3_goBack 43 = .ok (.iconst 0, 1) := by decide +kernel
theorem dX3_goBack_44 : decode cX3_goBack 44 = .ok (.invokevirtual 96, 3) := by decide +kernel
theorem dX3_goBack_47 : decode cX3_goBack 47 = .ok (.aload_n 0, 1) := by decide +kernel
theorem dX3_goBack_48 : decode cX3_goBack 48 = .ok (.getfield 59, 3) := by decide +kernel
theorem dX3_goBack_51 : decode cX3_goBack 51 = .ok (.iload_n 2, 1) := by decide +kernel
theorem dX3_goBack_52 : decode cX3_goBack 52 = .ok (.invokevirtual 103, 3) := by decide +kernel
theorem dX3_goBack_55 : decode cX3_goBack 55 = .ok (.ifCond .eq 10, 3) := by decide +kernel
theorem dX3_goBack_58 : decode cX3_goBack 58 = .ok (.aload_n 0, 1) := by decide +kernel
theorem dX3_goBack_59 : decode cX3_goBack 59 = .ok (.iload_n 1, 1) := by decide +kernel
theorem dX3_goBack_60 : decode cX3_goBack 60 = .ok (.iload_n 2, 1) := by decide +kernel
theorem dX3_goBack_61 : decode cX3_goBack 61 = .ok (.invokevirtual 92, 3) := by decide +kernel
theorem dX3_goBack_64 : decode cX3_goBack 64 = .ok (.pop, 1) := by decide +kernel
theorem dX3_goBack_65 : decode cX3_goBack 65 = .ok (.iinc 1 (-1), 3) := by decide +kernel
theorem dX3_goBack_68 : decode cX3_goBack 68 = .ok (.goto (-63), 3) := by decide +kernel
theorem dX3_goBack_71 : decode cX3_goBack 71 = .ok (.return_, 1) := by decide +kernel
theorem dX3_verdict_0 : decode cX3_verdict 0 = .ok (.aload_n 0, 1) := by decide +kernel
theorem dX3_verdict_1 : decode cX3_verdict 1 = .ok (.getfield 34, 3) := by decide +kernel
theorem dX3_verdict_4 : decode cX3_verdict 4 = .ok (.ireturn, 1) := by decide +kernel
theorem dX3_failedStep_0 : decode cX3_failedStep 0 = .ok (.aload_n 0, 1) := by decide +kernel
theorem dX3_failedStep_1 : decode cX3_failedStep 1 = .ok (.getfield 38, 3) := by decide +kernel
theorem dX3_failedStep_4 : decode cX3_failedStep 4 = .ok (.ireturn, 1) := by decide +kernel
theorem dX3_conflictStep_0 : decode cX3_conflictStep 0 = .ok (.aload_n 0, 1) := by decide +kernel
theorem dX3_conflictStep_1 : decode cX3_conflictStep 1 = .ok (.getfield 41, 3) := by decide +kernel
theorem dX3_conflictStep_4 : decode cX3_conflictStep 4 = .ok (.ireturn, 1) := by decide +kernel
theorem dX3_fuelLeft_0 : decode cX3_fuelLeft 0 = .ok (.aload_n 0, 1) := by decide +kernel
theorem dX3_fuelLeft_1 : decode cX3_fuelLeft 1 = .ok (.getfield 59, 3) := by decide +kernel
theorem dX3_fuelLeft_4 : decode cX3_fuelLeft 4 = .ok (.invokevirtual 107, 3) := by decide +kernel
theorem dX3_fuelLeft_7 : decode cX3_fuelLeft 7 = .ok (.ireturn, 1) := by decide +kernel
theorem dX3_heldByRup_0 : decode cX3_heldByRup 0 = .ok (.aload_n 0, 1) := by decide +kernel
theorem dX3_heldByRup_1 : decode cX3_heldByRup 1 = .ok (.getfield 44, 3) := by decide +kernel
theorem dX3_heldByRup_4 : decode cX3_heldByRup 4 = .ok (.ireturn, 1) := by decide +kernel
theorem dX3_heldByRat_0 : decode cX3_heldByRat 0 = .ok (.aload_n 0, 1) := by decide +kernel
theorem dX3_heldByRat_1 : decode cX3_heldByRat 1 = .ok (.getfield 47, 3) := by decide +kernel
theorem dX3_heldByRat_4 : decode cX3_heldByRat 4 = .ok (.ireturn, 1) := by decide +kernel
theorem dX3_isMarked_0 : decode cX3_isMarked 0 = .ok (.aload_n 0, 1) := by decide +kernel
theorem dX3_isMarked_1 : decode cX3_isMarked 1 = .ok (.getfield 59, 3) := by decide +kernel
theorem dX3_isMarked_4 : decode cX3_isMarked 4 = .ok (.iload_n 1, 1) := by decide +kernel
theorem dX3_isMarked_5 : decode cX3_isMarked 5 = .ok (.invokevirtual 103, 3) := by decide +kernel
theorem dX3_isMarked_8 : decode cX3_isMarked 8 = .ok (.ireturn, 1) := by decide +kernel
theorem dX3_markedBetween_0 : decode cX3_markedBetween 0 = .ok (.iconst 0, 1) := by decide +kernel
theorem dX3_markedBetween_1 : decode cX3_markedBetween 1 = .ok (.istore_n 3, 1) := by decide +kernel
theorem dX3_markedBetween_2 : decode cX3_markedBetween 2 = .ok (.iload_n 1, 1) := by decide +kernel
theorem dX3_markedBetween_3 : decode cX3_markedBetween 3 = .ok (.istore 4, 2) := by decide +kernel
theorem dX3_markedBetween_5 : decode cX3_markedBetween 5 = .ok (.iload 4, 2) := by decide +kernel
theorem dX3_markedBetween_7 : decode cX3_markedBetween 7 = .ok (.iload_n 2, 1) := by decide +kernel
theorem dX3_markedBetween_8 : decode cX3_markedBetween 8 = .ok (.if_icmp .gt 26, 3) := by decide +kernel
theorem dX3_markedBetween_11 : decode cX3_markedBetween 11 = .ok (.iload_n 3, 1) := by decide +kernel
theorem dX3_markedBetween_12 : decode cX3_markedBetween 12 = .ok (.aload_n 0, 1) := by decide +kernel
theorem dX3_markedBetween_13 : decode cX3_markedBetween 13 = .ok (.iload 4, 2) := by decide +kernel
theorem dX3_markedBetween_15 : decode cX3_markedBetween 15 = .ok (.invokevirtual 110, 3) := by decide +kernel
theorem dX3_markedBetween_18 : decode cX3_markedBetween 18 = .ok (.ifCond .eq 7, 3) := by decide +kernel
theorem dX3_markedBetween_21 : decode cX3_markedBetween 21 = .ok (.iconst 1, 1) := by decide +kernel
theorem dX3_markedBetween_22 : decode cX3_markedBetween 22 = .ok (.goto 4, 3) := by decide +kernel
theorem dX3_markedBetween_25 : decode cX3_markedBetween 25 = .ok (.iconst 0, 1) := by decide +kernel
theorem dX3_markedBetween_26 : decode cX3_markedBetween 26 = .ok (.iadd, 1) := by decide +kernel
theorem dX3_markedBetween_27 : decode cX3_markedBetween 27 = .ok (.istore_n 3, 1) := by decide +kernel
theorem dX3_markedBetween_28 : decode cX3_markedBetween 28 = .ok (.iinc 4 1, 3) := by decide +kernel
theorem dX3_markedBetween_31 : decode cX3_markedBetween 31 = .ok (.goto (-26), 3) := by decide +kernel
theorem dX3_markedBetween_34 : decode cX3_markedBetween 34 = .ok (.iload_n 3, 1) := by decide +kernel
theorem dX3_markedBetween_35 : decode cX3_markedBetween 35 = .ok (.ireturn, 1) := by decide +kernel
theorem dX3_hintOf_0 : decode cX3_hintOf 0 = .ok (.aload_n 0, 1) := by decide +kernel
theorem dX3_hintOf_1 : decode cX3_hintOf 1 = .ok (.getfield 12, 3) := by decide +kernel
theorem dX3_hintOf_4 : decode cX3_hintOf 4 = .ok (.iload_n 1, 1) := by decide +kernel
theorem dX3_hintOf_5 : decode cX3_hintOf 5 = .ok (.iload_n 2, 1) := by decide +kernel
theorem dX3_hintOf_6 : decode cX3_hintOf 6 = .ok (.invokevirtual 111, 3) := by decide +kernel
theorem dX3_hintOf_9 : decode cX3_hintOf 9 = .ok (.ireturn, 1) := by decide +kernel
theorem dX3_lastStepWeighed_0 : decode cX3_lastStepWeighed 0 = .ok (.aload_n 0, 1) := by decide +kernel
theorem dX3_lastStepWeighed_1 : decode cX3_lastStepWeighed 1 = .ok (.getfield 41, 3) := by decide +kernel
theorem dX3_lastStepWeighed_4 : decode cX3_lastStepWeighed 4 = .ok (.iconst (-1), 1) := by decide +kernel
theorem dX3_lastStepWeighed_5 : decode cX3_lastStepWeighed 5 = .ok (.if_icmp .ne 13, 3) := by decide +kernel
theorem dX3_lastStepWeighed_8 : decode cX3_lastStepWeighed 8 = .ok (.aload_n 0, 1) := by decide +kernel
theorem dX3_lastStepWeighed_9 : decode cX3_lastStepWeighed 9 = .ok (.getfield 50, 3) := by decide +kernel
theorem dX3_lastStepWeighed_12 : decode cX3_lastStepWeighed 12 = .ok (.invokevirtual 79, 3) := by decide +kernel
theorem dX3_lastStepWeighed_15 : decode cX3_lastStepWeighed 15 = .ok (.goto 7, 3) := by decide +kernel
theorem dX3_lastStepWeighed_18 : decode cX3_lastStepWeighed 18 = .ok (.aload_n 0, 1) := by decide +kernel
theorem dX3_lastStepWeighed_19 : decode cX3_lastStepWeighed 19 = .ok (.getfield 41, 3) := by decide +kernel
theorem dX3_lastStepWeighed_22 : decode cX3_lastStepWeighed 22 = .ok (.ireturn, 1) := by decide +kernel
theorem dX3_staysInProof_0 : decode cX3_staysInProof 0 = .ok (.aload_n 0, 1) := by decide +kernel
theorem dX3_staysInProof_1 : decode cX3_staysInProof 1 = .ok (.getfield 50, 3) := by decide +kernel
theorem dX3_staysInProof_4 : decode cX3_staysInProof 4 = .ok (.iload_n 1, 1) := by decide +kernel
theorem dX3_staysInProof_5 : decode cX3_staysInProof 5 = .ok (.invokevirtual 85, 3) := by decide +kernel
theorem dX3_staysInProof_8 : decode cX3_staysInProof 8 = .ok (.istore_n 2, 1) := by decide +kernel
theorem dX3_staysInProof_9 : decode cX3_staysInProof 9 = .ok (.iload_n 2, 1) := by decide +kernel
theorem dX3_staysInProof_10 : decode cX3_staysInProof 10 = .ok (.ifCond .eq 9, 3) := by decide +kernel
theorem dX3_staysInProof_13 : decode cX3_staysInProof 13 = .ok (.aload_n 0, 1) := by decide +kernel
theorem dX3_staysInProof_14 : decode cX3_staysInProof 14 = .ok (.iload_n 2, 1) := by decide +kernel
theorem dX3_staysInProof_15 : decode cX3_staysInProof 15 = .ok (.invokevirtual 110, 3) := by decide +kernel
theorem dX3_staysInProof_18 : decode cX3_staysInProof 18 = .ok (.ireturn, 1) := by decide +kernel
theorem dX3_staysInProof_19 : decode cX3_staysInProof 19 = .ok (.aload_n 0, 1) := by decide +kernel
theorem dX3_staysInProof_20 : decode cX3_staysInProof 20 = .ok (.getfield 23, 3) := by decide +kernel
theorem dX3_staysInProof_23 : decode cX3_staysInProof 23 = .ok (.iload_n 1, 1) := by decide +kernel
theorem dX3_staysInProof_24 : decode cX3_staysInProof 24 = .ok (.invokevirtual 115, 3) := by decide +kernel
theorem dX3_staysInProof_27 : decode cX3_staysInProof 27 = .ok (.istore_n 3, 1) := by decide +kernel
theorem dX3_staysInProof_28 : decode cX3_staysInProof 28 = .ok (.iload_n 3, 1) := by decide +kernel
theorem dX3_staysInProof_29 : decode cX3_staysInProof 29 = .ok (.ifCond .eq 26, 3) := by decide +kernel
theorem dX3_staysInProof_32 : decode cX3_staysInProof 32 = .ok (.iload_n 3, 1) := by decide +kernel
theorem dX3_staysInProof_33 : decode cX3_staysInProof 33 = .ok (.aload_n 0, 1) := by decide +kernel
theorem dX3_staysInProof_34 : decode cX3_staysInProof 34 = .ok (.getfield 50, 3) := by decide +kernel
theorem dX3_staysInProof_37 : decode cX3_staysInProof 37 = .ok (.invokevirtual 117, 3) := by decide +kernel
theorem dX3_staysInProof_40 : decode cX3_staysInProof 40 = .ok (.if_icmp .le 11, 3) := by decide +kernel
theorem dX3_staysInProof_43 : decode cX3_staysInProof 43 = .ok (.aload_n 0, 1) := by decide +kernel
theorem dX3_staysInProof_44 : decode cX3_staysInProof 44 = .ok (.iload_n 3, 1) := by decide +kernel
theorem dX3_staysInProof_45 : decode cX3_staysInProof 45 = .ok (.invokevirtual 110, 3) := by decide +kernel
theorem dX3_staysInProof_48 : decode cX3_staysInProof 48 = .ok (.ifCond .eq 7, 3) := by decide +kernel
theorem dX3_staysInProof_51 : decode cX3_staysInProof 51 = .ok (.iconst 1, 1) := by decide +kernel
theorem dX3_staysInProof_52 : decode cX3_staysInProof 52 = .ok (.goto 4, 3) := by decide +kernel
theorem dX3_staysInProof_55 : decode cX3_staysInProof 55 = .ok (.iconst 0, 1) := by decide +kernel
theorem dX3_staysInProof_56 : decode cX3_staysInProof 56 = .ok (.ireturn, 1) := by decide +kernel
theorem dX3_lookFromNothing_0 : decode cX3_lookFromNothing 0 = .ok (.aload_n 0, 1) := by decide +kernel
theorem dX3_lookFromNothing_1 : decode cX3_lookFromNothing 1 = .ok (.getfield 59, 3) := by decide +kernel
theorem dX3_lookFromNothing_4 : decode cX3_lookFromNothing 4 = .ok (.invokevirtual 120, 3) := by decide +kernel
theorem dX3_lookFromNothing_7 : decode cX3_lookFromNothing 7 = .ok (.aload_n 0, 1) := by decide +kernel
theorem dX3_lookFromNothing_8 : decode cX3_lookFromNothing 8 = .ok (.getfield 59, 3) := by decide +kernel
theorem dX3_lookFromNothing_11 : decode cX3_lookFromNothing 11 = .ok (.invokevirtual 123, 3) := by decide +kernel
theorem dX3_lookFromNothing_14 : decode cX3_lookFromNothing 14 = .ok (.istore_n 2, 1) := by decide +kernel
theorem dX3_lookFromNothing_15 : decode cX3_lookFromNothing 15 = .ok (.iload_n 2, 1) := by decide +kernel
theorem dX3_lookFromNothing_16 : decode cX3_lookFromNothing 16 = .ok (.iconst 2, 1) := by decide +kernel
theorem dX3_lookFromNothing_17 : decode cX3_lookFromNothing 17 = .ok (.if_icmp .ne 16, 3) := by decide +kernel
theorem dX3_lookFromNothing_20 : decode cX3_lookFromNothing 20 = .ok (.aload_n 0, 1) := by decide +kernel
theorem dX3_lookFromNothing_21 : decode cX3_lookFromNothing 21 = .ok (.iconst 2, 1) := by decide +kernel
theorem dX3_lookFromNothing_22 : decode cX3_lookFromNothing 22 = .ok (.putfield 34, 3) := by decide +kernel
theorem dX3_lookFromNothing_25 : decode cX3_lookFromNothing 25 = .ok (.aload_n 0, 1) := by decide +kernel
theorem dX3_lookFromNothing_26 : decode cX3_lookFromNothing 26 = .ok (.iconst 0, 1) := by decide +kernel
theorem dX3_lookFromNothing_27 : decode cX3_lookFromNothing 27 = .ok (.putfield 38, 3) := by decide +kernel
theorem dX3_lookFromNothing_30 : decode cX3_lookFromNothing 30 = .ok (.goto 38, 3) := by decide +kernel
theorem dX3_lookFromNothing_33 : decode cX3_lookFromNothing 33 = .ok (.iload_n 2, 1) := by decide +kernel
theorem dX3_lookFromNothing_34 : decode cX3_lookFromNothing 34 = .ok (.iconst 1, 1) := by decide +kernel
theorem dX3_lookFromNothing_35 : decode cX3_lookFromNothing 35 = .ok (.if_icmp .ne 33, 3) := by decide +kernel
theorem dX3_lookFromNothing_38 : decode cX3_lookFromNothing 38 = .ok (.aload_n 0, 1) := by decide +kernel
theorem dX3_lookFromNothing_39 : decode cX3_lookFromNothing 39 = .ok (.iconst 0, 1) := by decide +kernel
theorem dX3_lookFromNothing_40 : decode cX3_lookFromNothing 40 = .ok (.putfield 34, 3) := by decide +kernel
theorem dX3_lookFromNothing_43 : decode cX3_lookFromNothing 43 = .ok (.aload_n 0, 1) := by decide +kernel
theorem dX3_lookFromNothing_44 : decode cX3_lookFromNothing 44 = .ok (.iload_n 1, 1) := by decide +kernel
theorem dX3_lookFromNothing_45 : decode cX3_lookFromNothing 45 = .ok (.putfield 41, 3) := by decide +kernel
theorem dX3_lookFromNothing_48 : decode cX3_lookFromNothing 48 = .ok (.aload_n 0, 1) := by decide +kernel
theorem dX3_lookFromNothing_49 : decode cX3_lookFromNothing 49 = .ok (.getfield 12, 3) := by decide +kernel
theorem dX3_lookFromNothing_52 : decode cX3_lookFromNothing 52 = .ok (.iconst 0, 1) := by decide +kernel
theorem dX3_lookFromNothing_53 : decode cX3_lookFromNothing 53 = .ok (.invokevirtual 126, 3) := by decide +kernel
theorem dX3_lookFromNothing_56 : decode cX3_lookFromNothing 56 = .ok (.aload_n 0, 1) := by decide +kernel
theorem dX3_lookFromNothing_57 : decode cX3_lookFromNothing 57 = .ok (.getfield 59, 3) := by decide +kernel
theorem dX3_lookFromNothing_60 : decode cX3_lookFromNothing 60 = .ok (.invokevirtual 129, 3) := by decide +kernel
theorem dX3_lookFromNothing_63 : decode cX3_lookFromNothing 63 = .ok (.aload_n 0, 1) := by decide +kernel
theorem dX3_lookFromNothing_64 : decode cX3_lookFromNothing 64 = .ok (.iconst 0, 1) := by decide +kernel
theorem dX3_lookFromNothing_65 : decode cX3_lookFromNothing 65 = .ok (.invokevirtual 132, 3) := by decide +kernel
theorem dX3_lookFromNothing_68 : decode cX3_lookFromNothing 68 = .ok (.return_, 1) := by decide +kernel
theorem dX3_holds_0 : decode cX3_holds 0 = .ok (.aload_n 0, 1) := by decide +kernel
theorem dX3_holds_1 : decode cX3_holds 1 = .ok (.getfield 12, 3) := by decide +kernel
theorem dX3_holds_4 : decode cX3_holds 4 = .ok (.iload_n 2, 1) := by decide +kernel
theorem dX3_holds_5 : decode cX3_holds 5 = .ok (.invokevirtual 126, 3) := by decide +kernel
theorem dX3_holds_8 : decode cX3_holds 8 = .ok (.aload_n 0, 1) := by decide +kernel
theorem dX3_holds_9 : decode cX3_holds 9 = .ok (.getfield 59, 3) := by decide +kernel
theorem dX3_holds_12 : decode cX3_holds 12 = .ok (.invokevirtual 120, 3) := by decide +kernel
theorem dX3_holds_15 : decode cX3_holds 15 = .ok (.aload_n 0, 1) := by decide +kernel
theorem dX3_holds_16 : decode cX3_holds 16 = .ok (.getfield 59, 3) := by decide +kernel
theorem dX3_holds_19 : decode cX3_holds 19 = .ok (.iload_n 2, 1) := by decide +kernel
theorem dX3_holds_20 : decode cX3_holds 20 = .ok (.iconst 0, 1) := by decide +kernel
theorem dX3_holds_21 : decode cX3_holds 21 = .ok (.invokevirtual 135, 3) := by decide +kernel
theorem dX3_holds_24 : decode cX3_holds 24 = .ok (.aload_n 0, 1) := by decide +kernel
theorem dX3_holds_25 : decode cX3_holds 25 = .ok (.getfield 59, 3) := by decide +kernel
theorem dX3_holds_28 : decode cX3_holds 28 = .ok (.invokevirtual 123, 3) := by decide +kernel
theorem dX3_holds_31 : decode cX3_holds 31 = .ok (.istore_n 3, 1) := by decide +kernel
theorem dX3_holds_32 : decode cX3_holds 32 = .ok (.iload_n 3, 1) := by decide +kernel
theorem dX3_holds_33 : decode cX3_holds 33 = .ok (.iconst 1, 1) := by decide +kernel
theorem dX3_holds_34 : decode cX3_holds 34 = .ok (.if_icmp .ne 27, 3) := by decide +kernel
theorem dX3_holds_37 : decode cX3_holds 37 = .ok (.aload_n 0, 1) := by decide +kernel
theorem dX3_holds_38 : decode cX3_holds 38 = .ok (.getfield 59, 3) := by decide +kernel
theorem dX3_holds_41 : decode cX3_holds 41 = .ok (.invokevirtual 129, 3) := by decide +kernel
theorem dX3_holds_44 : decode cX3_holds 44 = .ok (.aload_n 0, 1) := by decide +kernel
theorem dX3_holds_45 : decode cX3_holds 45 = .ok (.iload_n 2, 1) := by decide +kernel
theorem dX3_holds_46 : decode cX3_holds 46 = .ok (.invokevirtual 132, 3) := by decide +kernel
theorem dX3_holds_49 : decode cX3_holds 49 = .ok (.aload_n 0, 1) := by decide +kernel
theorem dX3_holds_50 : decode cX3_holds 50 = .ok (.dup, 1) := by decide +kernel
theorem dX3_holds_51 : decode cX3_holds 51 = .ok (.getfield 44, 3) := by decide +kernel
theorem dX3_holds_54 : decode cX3_holds 54 = .ok (.iconst 1, 1) := by decide +kernel
theorem dX3_holds_55 : decode cX3_holds 55 = .ok (.iadd, 1) := by decide +kernel
theorem dX3_holds_56 : decode cX3_holds 56 = .ok (.putfield 44, 3) := by decide +kernel
theorem dX3_holds_59 : decode cX3_holds 59 = .ok (.iconst 1, 1) := by decide +kernel
theorem dX3_holds_60 : decode cX3_holds 60 = .ok (.ireturn, 1) := by decide +kernel
theorem dX3_holds_61 : decode cX3_holds 61 = .ok (.iload_n 3, 1) := by decide +kernel
theorem dX3_holds_62 : decode cX3_holds 62 = .ok (.ifCond .ne 44, 3) := by decide +kernel
theorem dX3_holds_65 : decode cX3_holds 65 = .ok (.aload_n 0, 1) := by decide +kernel
theorem dX3_holds_66 : decode cX3_holds 66 = .ok (.getfield 27, 3) := by decide +kernel
theorem dX3_holds_69 : decode cX3_holds 69 = .ok (.ifCond .eq 37, 3) := by decide +kernel
theorem dX3_holds_72 : decode cX3_holds 72 = .ok (.aload_n 0, 1) := by decide +kernel
theorem dX3_holds_73 : decode cX3_holds 73 = .ok (.getfield 50, 3) := by decide +kernel
theorem dX3_holds_76 : decode cX3_holds 76 = .ok (.iload_n 2, 1) := by decide +kernel
theorem dX3_holds_77 : decode cX3_holds 77 = .ok (.invokevirtual 139, 3) := by decide +kernel
theorem dX3_holds_80 : decode cX3_holds 80 = .ok (.ifCond .le 26, 3) := by decide +kernel
theorem dX3_holds_83 : decode cX3_holds 83 = .ok (.aload_n 0, 1) := by decide +kernel
theorem dX3_holds_84 : decode cX3_holds 84 = .ok (.iload_n 2, 1) := by decide +kernel
theorem dX3_holds_85 : decode cX3_holds 85 = .ok (.invokevirtual 142, 3) := by decide +kernel
theorem dX3_holds_88 : decode cX3_holds 88 = .ok (.istore_n 3, 1) := by decide +kernel
theorem dX3_holds_89 : decode cX3_holds 89 = .ok (.iload_n 3, 1) := by decide +kernel
theorem dX3_holds_90 : decode cX3_holds 90 = .ok (.iconst 1, 1) := by decide +kernel
theorem dX3_holds_91 : decode cX3_holds 91 = .ok (.if_icmp .ne 15, 3) := by decide +kernel
theorem dX3_holds_94 : decode cX3_holds 94 = .ok (.aload_n 0, 1) := by decide +kernel
theorem dX3_holds_95 : decode cX3_holds 95 = .ok (.dup, 1) := by decide +kernel
theorem dX3_holds_96 : decode cX3_holds 96 = .ok (.getfield 47, 3) := by decide +kernel
theorem dX3_holds_99 : decode cX3_holds 99 = .ok (.iconst 1, 1) := by decide +kernel
theorem dX3_holds_100 : decode cX3_holds 100 = .ok (.iadd, 1) := by decide +kernel
theorem dX3_holds_101 : decode cX3_holds 101 = .ok (.putfield 47, 3) := by decide +kernel
theorem dX3_holds_104 : decode cX3_holds 104 = .ok (.iconst 1, 1) := by decide +kernel
theorem dX3_holds_105 : decode cX3_holds 105 = .ok (.ireturn, 1) := by decide +kernel
theorem dX3_holds_106 : decode cX3_holds 106 = .ok (.aload_n 0, 1) := by decide +kernel
theorem dX3_holds_107 : decode cX3_holds 107 = .ok (.getfield 12, 3) := by decide +kernel
theorem dX3_holds_110 : decode cX3_holds 110 = .ok (.iload_n 2, 1) := by decide +kernel
theorem dX3_holds_111 : decode cX3_holds 111 = .ok (.invokevirtual 145, 3) := by decide +kernel
theorem dX3_holds_114 : decode cX3_holds 114 = .ok (.aload_n 0, 1) := by decide +kernel
theorem dX3_holds_115 : decode cX3_holds 115 = .ok (.iload_n 1, 1) := by decide +kernel
theorem dX3_holds_116 : decode cX3_holds 116 = .ok (.putfield 38, 3) := by decide +kernel
theorem dX3_holds_119 : decode cX3_holds 119 = .ok (.aload_n 0, 1) := by decide +kernel
theorem dX3_holds_120 : decode cX3_holds 120 = .ok (.iload_n 3, 1) := by decide +kernel
theorem dX3_holds_121 : decode cX3_holds 121 = .ok (.iconst 2, 1) := by decide +kernel
theorem dX3_holds_122 : decode cX3_holds 122 = .ok (.if_icmp .ne 7, 3) := by decide +kernel
theorem dX3_holds_125 : decode cX3_holds 125 = .ok (.iconst 2, 1) := by decide +kernel
theorem dX3_holds_126 : decode cX3_holds 126 = .ok (.goto 4, 3) := by decide +kernel
theorem dX3_holds_129 : decode cX3_holds 129 = .ok (.iconst 1, 1) := by decide +kernel
theorem dX3_holds_130 : decode cX3_holds 130 = .ok (.putfield 34, 3) := by decide +kernel
theorem dX3_holds_133 : decode cX3_holds 133 = .ok (.iconst 0, 1) := by decide +kernel
theorem dX3_holds_134 : decode cX3_holds 134 = .ok (.ireturn, 1) := by decide +kernel
theorem dX3_weighPartners_0 : decode cX3_weighPartners 0 = .ok (.aload_n 0, 1) := by decide +kernel
theorem dX3_weighPartners_1 : decode cX3_weighPartners 1 = .ok (.getfield 50, 3) := by decide +kernel
theorem dX3_weighPartners_4 : decode cX3_weighPartners 4 = .ok (.iload_n 1, 1) := by decide +kernel
theorem dX3_weighPartners_5 : decode cX3_weighPartners 5 = .ok (.iconst 0, 1) := by decide +kernel
theorem dX3_weighPartners_6 : decode cX3_weighPartners 6 = .ok (.invokevirtual 148, 3) := by decide +kernel
theorem dX3_weighPartners_9 : decode cX3_weighPartners 9 = .ok (.ineg, 1) := by decide +kernel
theorem dX3_weighPartners_10 : decode cX3_weighPartners 10 = .ok (.istore_n 2, 1) := by decide +kernel
theorem dX3_weighPartners_11 : decode cX3_weighPartners 11 = .ok (.aload_n 0, 1) := by decide +kernel
theorem dX3_weighPartners_12 : decode cX3_weighPartners 12 = .ok (.getfield 50, 3) := by decide +kernel
theorem dX3_weighPartners_15 : decode cX3_weighPartners 15 = .ok (.iload_n 2, 1) := by decide +kernel
theorem dX3_weighPartners_16 : decode cX3_weighPartners 16 = .ok (.invokevirtual 151, 3) := by decide +kernel
theorem dX3_weighPartners_19 : decode cX3_weighPartners 19 = .ok (.istore_n 3, 1) := by decide +kernel
theorem dX3_weighPartners_20 : decode cX3_weighPartners 20 = .ok (.aload_n 0, 1) := by decide +kernel
theorem dX3_weighPartners_21 : decode cX3_weighPartners 21 = .ok (.getfield 50, 3) := by decide +kernel
theorem dX3_weighPartners_24 : decode cX3_weighPartners 24 = .ok (.iload_n 2, 1) := by decide +kernel
theorem dX3_weighPartners_25 : decode cX3_weighPartners 25 = .ok (.invokevirtual 154, 3) := by decide +kernel
theorem dX3_weighPartners_28 : decode cX3_weighPartners 28 = .ok (.istore 4, 2) := by decide +kernel
theorem dX3_weighPartners_30 : decode cX3_weighPartners 30 = .ok (.iload 4, 2) := by decide +kernel
theorem dX3_weighPartners_32 : decode cX3_weighPartners 32 = .ok (.iload_n 3, 1) := by decide +kernel
theorem dX3_weighPartners_33 : decode cX3_weighPartners 33 = .ok (.if_icmp .ge 108, 3) := by decide +kernel
theorem dX3_weighPartners_36 : decode cX3_weighPartners 36 = .ok (.aload_n 0, 1) := by decide +kernel
theorem dX3_weighPartners_37 : decode cX3_weighPartners 37 = .ok (.getfield 50, 3) := by decide +kernel
theorem dX3_weighPartners_40 : decode cX3_weighPartners 40 = .ok (.iload 4, 2) := by decide +kernel
theorem dX3_weighPartners_42 : decode cX3_weighPartners 42 = .ok (.invokevirtual 157, 3) := by decide +kernel
theorem dX3_weighPartners_45 : decode cX3_weighPartners 45 = .ok (.istore 5, 2) := by decide +kernel
theorem dX3_weighPartners_47 : decode cX3_weighPartners 47 = .ok (.aload_n 0, 1) := by decide +kernel
theorem dX3_weighPartners_48 : decode cX3_weighPartners 48 = .ok (.getfield 59, 3) := by decide +kernel
theorem dX3_weighPartners_51 : decode cX3_weighPartners 51 = .ok (.iload 5, 2) := by decide +kernel
theorem dX3_weighPartners_53 : decode cX3_weighPartners 53 = .ok (.invokevirtual 160, 3) := by decide +kernel
theorem dX3_weighPartners_56 : decode cX3_weighPartners 56 = .ok (.ifCond .eq 79, 3) := by decide +kernel
theorem dX3_weighPartners_59 : decode cX3_weighPartners 59 = .ok (.aload_n 0, 1) := by decide +kernel
theorem dX3_weighPartners_60 : decode cX3_weighPartners 60 = .ok (.getfield 59, 3) := by decide +kernel
theorem dX3_weighPartners_63 : decode cX3_weighPartners 63 = .ok (.invokevirtual 120, 3) := by decide +kernel
theorem dX3_weighPartners_66 : decode cX3_weighPartners 66 = .ok (.aload_n 0, 1) := by decide +kernel
theorem dX3_weighPartners_67 : decode cX3_weighPartners 67 = .ok (.getfield 59, 3) := by decide +kernel
theorem dX3_weighPartners_70 : decode cX3_weighPartners 70 = .ok (.iload_n 1, 1) := by decide +kernel
theorem dX3_weighPartners_71 : decode cX3_weighPartners 71 = .ok (.iconst 0, 1) := by decide +kernel
theorem dX3_weighPartners_72 : decode cX3_weighPartners 72 = .ok (.invokevirtual 135, 3) := by decide +kernel
theorem dX3_weighPartners_75 : decode cX3_weighPartners 75 = .ok (.aload_n 0, 1) := by decide +kernel
theorem dX3_weighPartners_76 : decode cX3_weighPartners 76 = .ok (.getfield 59, 3) := by decide +kernel
theorem dX3_weighPartners_79 : decode cX3_weighPartners 79 = .ok (.iload 5, 2) := by decide +kernel
theorem dX3_weighPartners_81 : decode cX3_weighPartners 81 = .ok (.iload_n 2, 1) := by decide +kernel
theorem dX3_weighPartners_82 : decode cX3_weighPartners 82 = .ok (.invokevirtual 135, 3) := by decide +kernel
theorem dX3_weighPartners_85 : decode cX3_weighPartners 85 = .ok (.aload_n 0, 1) := by decide +kernel
theorem dX3_weighPartners_86 : decode cX3_weighPartners 86 = .ok (.getfield 59, 3) := by decide +kernel
theorem dX3_weighPartners_89 : decode cX3_weighPartners 89 = .ok (.invokevirtual 123, 3) := by decide +kernel
theorem dX3_weighPartners_92 : decode cX3_weighPartners 92 = .ok (.istore 6, 2) := by decide +kernel
theorem dX3_weighPartners_94 : decode cX3_weighPartners 94 = .ok (.iload 6, 2) := by decide +kernel
theorem dX3_weighPartners_96 : decode cX3_weighPartners 96 = .ok (.iconst 1, 1) := by decide +kernel
theorem dX3_weighPartners_97 : decode cX3_weighPartners 97 = .ok (.if_icmp .eq 6, 3) := by decide +kernel
theorem dX3_weighPartners_100 : decode cX3_weighPartners 100 = .ok (.iload 6, 2) := by decide +kernel
theorem dX3_weighPartners_102 : decode cX3_weighPartners 102 = .ok (.ireturn, 1) := by decide +kernel
theorem dX3_weighPartners_103 : decode cX3_weighPartners 103 = .ok (.aload_n 0, 1) := by decide +kernel
theorem dX3_weighPartners_104 : decode cX3_weighPartners 104 = .ok (.getfield 12, 3) := by decide +kernel
theorem dX3_weighPartners_107 : decode cX3_weighPartners 107 = .ok (.iload_n 1, 1) := by decide +kernel
theorem dX3_weighPartners_108 : decode cX3_weighPartners 108 = .ok (.iload 5, 2) := by decide +kernel
theorem dX3_weighPartners_110 : decode cX3_weighPartners 110 = .ok (.ineg, 1) := by decide +kernel
theorem dX3_weighPartners_111 : decode cX3_weighPartners 111 = .ok (.invokevirtual 163, 3) := by decide +kernel
theorem dX3_weighPartners_114 : decode cX3_weighPartners 114 = .ok (.aload_n 0, 1) := by decide +kernel
theorem dX3_weighPartners_115 : decode cX3_weighPartners 115 = .ok (.getfield 59, 3) := by decide +kernel
theorem dX3_weighPartners_118 : decode cX3_weighPartners 118 = .ok (.invokevirtual 129, 3) := by decide +kernel
theorem dX3_weighPartners_121 : decode cX3_weighPartners 121 = .ok (.aload_n 0, 1) := by decide +kernel
theorem dX3_weighPartners_122 : decode cX3_weighPartners 122 = .ok (.iload_n 1, 1) := by decide +kernel
theorem dX3_weighPartners_123 : decode cX3_weighPartners 123 = .ok (.invokevirtual 132, 3) := by decide +kernel
theorem dX3_weighPartners_126 : decode cX3_weighPartners 126 = .ok (.aload_n 0, 1) := by decide +kernel
theorem dX3_weighPartners_127 : decode cX3_weighPartners 127 = .ok (.getfield 59, 3) := by decide +kernel
theorem dX3_weighPartners_130 : decode cX3_weighPartners 130 = .ok (.iload 5, 2) := by decide +kernel
theorem dX3_weighPartners_132 : decode cX3_weighPartners 132 = .ok (.invokevirtual 166, 3) := by decide +kernel
theorem dX3_weighPartners_135 : decode cX3_weighPartners 135 = .ok (.iinc 4 1, 3) := by decide +kernel
theorem dX3_weighPartners_138 : decode cX3_weighPartners 138 = .ok (.goto (-108), 3) := by decide +kernel
theorem dX3_weighPartners_141 : decode cX3_weighPartners 141 = .ok (.iconst 1, 1) := by decide +kernel
theorem dX3_weighPartners_142 : decode cX3_weighPartners 142 = .ok (.ireturn, 1) := by decide +kernel
theorem dX3_keepUsed_0 : decode cX3_keepUsed 0 = .ok (.aload_n 0, 1) := by decide +kernel
theorem dX3_keepUsed_1 : decode cX3_keepUsed 1 = .ok (.getfield 59, 3) := by decide +kernel
theorem dX3_keepUsed_4 : decode cX3_keepUsed 4 = .ok (.invokevirtual 169, 3) := by decide +kernel
theorem dX3_keepUsed_7 : decode cX3_keepUsed 7 = .ok (.istore_n 2, 1) := by decide +kernel
theorem dX3_keepUsed_8 : decode cX3_keepUsed 8 = .ok (.iconst 0, 1) := by decide +kernel
theorem dX3_keepUsed_9 : decode cX3_keepUsed 9 = .ok (.istore_n 3, 1) := by decide +kernel
theorem dX3_keepUsed_10 : decode cX3_keepUsed 10 = .ok (.iload_n 3, 1) := by decide +kernel
theorem dX3_keepUsed_11 : decode cX3_keepUsed 11 = .ok (.iload_n 2, 1) := by decide +kernel
theorem dX3_keepUsed_12 : decode cX3_keepUsed 12 = .ok (.if_icmp .ge 38, 3) := by decide +kernel
theorem dX3_keepUsed_15 : decode cX3_keepUsed 15 = .ok (.aload_n 0, 1) := by decide +kernel
theorem dX3_keepUsed_16 : decode cX3_keepUsed 16 = .ok (.getfield 59, 3) := by decide +kernel
theorem dX3_keepUsed_19 : decode cX3_keepUsed 19 = .ok (.iload_n 3, 1) := by decide +kernel
theorem dX3_keepUsed_20 : decode cX3_keepUsed 20 = .ok (.invokevirtual 172, 3) := by decide +kernel
theorem dX3_keepUsed_23 : decode cX3_keepUsed 23 = .ok (.istore 4, 2) := by decide +kernel
theorem dX3_keepUsed_25 : decode cX3_keepUsed 25 = .ok (.aload_n 0, 1) := by decide +kernel
theorem dX3_keepUsed_26 : decode cX3_keepUsed 26 = .ok (.getfield 59, 3) := by decide +kernel
theorem dX3_keepUsed_29 : decode cX3_keepUsed 29 = .ok (.iload 4, 2) := by decide +kernel
theorem dX3_keepUsed_31 : decode cX3_keepUsed 31 = .ok (.invokevirtual 166, 3) := by decide +kernel
theorem dX3_keepUsed_34 : decode cX3_keepUsed 34 = .ok (.aload_n 0, 1) := by decide +kernel
theorem dX3_keepUsed_35 : decode cX3_keepUsed 35 = .ok (.getfield 12, 3) := by decide +kernel
theorem dX3_keepUsed_38 : decode cX3_keepUsed 38 = .ok (.iload_n 1, 1) := by decide +kernel
theorem dX3_keepUsed_39 : decode cX3_keepUsed 39 = .ok (.iload 4, 2) := by decide +kernel
theorem dX3_keepUsed_41 : decode cX3_keepUsed 41 = .ok (.invokevirtual 163, 3) := by decide +kernel
theorem dX3_keepUsed_44 : decode cX3_keepUsed 44 = .ok (.iinc 3 1, 3) := by decide +kernel
theorem dX3_keepUsed_47 : decode cX3_keepUsed 47 = .ok (.goto (-37), 3) := by decide +kernel
theorem dX3_keepUsed_50 : decode cX3_keepUsed 50 = .ok (.return_, 1) := by decide +kernel
theorem dX3_remove_0 : decode cX3_remove 0 = .ok (.aload_n 0, 1) := by decide +kernel
theorem dX3_remove_1 : decode cX3_remove 1 = .ok (.getfield 50, 3) := by decide +kernel
theorem dX3_remove_4 : decode cX3_remove 4 = .ok (.invokevirtual 175, 3) := by decide +kernel
theorem dX3_remove_7 : decode cX3_remove 7 = .ok (.istore_n 2, 1) := by decide +kernel
theorem dX3_remove_8 : decode cX3_remove 8 = .ok (.iload_n 2, 1) := by decide +kernel
theorem dX3_remove_9 : decode cX3_remove 9 = .ok (.iconst 1, 1) := by decide +kernel
theorem dX3_remove_10 : decode cX3_remove 10 = .ok (.if_icmp .lt 69, 3) := by decide +kernel
theorem dX3_remove_13 : decode cX3_remove 13 = .ok (.aload_n 0, 1) := by decide +kernel
theorem dX3_remove_14 : decode cX3_remove 14 = .ok (.getfield 59, 3) := by decide +kernel
theorem dX3_remove_17 : decode cX3_remove 17 = .ok (.iload_n 2, 1) := by decide +kernel
theorem dX3_remove_18 : decode cX3_remove 18 = .ok (.invokevirtual 160, 3) := by decide +kernel
theorem dX3_remove_21 : decode cX3_remove 21 = .ok (.ifCond .eq 52, 3) := by decide +kernel
theorem dX3_remove_24 : decode cX3_remove 24 = .ok (.aload_n 0, 1) := by decide +kernel
theorem dX3_remove_25 : decode cX3_remove 25 = .ok (.getfield 50, 3) := by decide +kernel
theorem dX3_remove_28 : decode cX3_remove 28 = .ok (.iload_n 2, 1) := by decide +kernel
theorem dX3_remove_29 : decode cX3_remove 29 = .ok (.iload_n 1, 1) := by decide +kernel
theorem dX3_remove_30 : decode cX3_remove 30 = .ok (.invokevirtual 178, 3) := by decide +kernel
theorem dX3_remove_33 : decode cX3_remove 33 = .ok (.ifCond .eq 40, 3) := by decide +kernel
theorem dX3_remove_36 : decode cX3_remove 36 = .ok (.aload_n 0, 1) := by decide +kernel
theorem dX3_remove_37 : decode cX3_remove 37 = .ok (.getfield 31, 3) := by decide +kernel
theorem dX3_remove_40 : decode cX3_remove 40 = .ok (.ifCond .eq 14, 3) := by decide +kernel
theorem dX3_remove_43 : decode cX3_remove 43 = .ok (.aload_n 0, 1) := by decide +kernel
theorem dX3_remove_44 : decode cX3_remove 44 = .ok (.getfield 59, 3) := by decide +kernel
theorem dX3_remove_47 : decode cX3_remove 47 = .ok (.iload_n 2, 1) := by decide +kernel
theorem dX3_remove_48 : decode cX3_remove 48 = .ok (.invokevirtual 181, 3) := by decide +kernel
theorem dX3_remove_51 : decode cX3_remove 51 = .ok (.ifCond .ne 21, 3) := by decide +kernel
theorem dX3_remove_54 : decode cX3_remove 54 = .ok (.aload_n 0, 1) := by decide +kernel
theorem dX3_remove_55 : decode cX3_remove 55 = .ok (.getfield 59, 3) := by decide +kernel
theorem dX3_remove_58 : decode cX3_remove 58 = .ok (.iload_n 2, 1) := by decide +kernel
theorem dX3_remove_59 : decode cX3_remove 59 = .ok (.iconst 0, 1) := by decide +kernel
theorem dX3_remove_60 : decode cX3_remove 60 = .ok (.invokevirtual 96, 3) := by decide +kernel
theorem dX3_remove_63 : decode cX3_remove 63 = .ok (.aload_n 0, 1) := by decide +kernel
theorem dX3_remove_64 : decode cX3_remove 64 = .ok (.getfield 23, 3) := by decide +kernel
theorem dX3_remove_67 : decode cX3_remove 67 = .ok (.iload_n 1, 1) := by decide +kernel
theorem dX3_remove_68 : decode cX3_remove 68 = .ok (.iload_n 2, 1) := by decide +kernel
theorem dX3_remove_69 : decode cX3_remove 69 = .ok (.invokevirtual 184, 3) := by decide +kernel
theorem dX3_remove_72 : decode cX3_remove 72 = .ok (.return_, 1) := by decide +kernel
theorem dX3_remove_73 : decode cX3_remove 73 = .ok (.iinc 2 (-1), 3) := by decide +kernel
theorem dX3_remove_76 : decode cX3_remove 76 = .ok (.goto (-68), 3) := by decide +kernel
theorem dX3_remove_79 : decode cX3_remove 79 = .ok (.return_, 1) := by decide +kernel
theorem dX3_putBack_0 : decode cX3_putBack 0 = .ok (.aload_n 0, 1) := by decide +kernel
theorem dX3_putBack_1 : decode cX3_putBack 1 = .ok (.getfield 23, 3) := by decide +kernel
theorem dX3_putBack_4 : decode cX3_putBack 4 = .ok (.iload_n 1, 1) := by decide +kernel
theorem dX3_putBack_5 : decode cX3_putBack 5 = .ok (.invokevirtual 115, 3) := by decide +kernel
theorem dX3_putBack_8 : decode cX3_putBack 8 = .ok (.istore_n 2, 1) := by decide +kernel
theorem dX3_putBack_9 : decode cX3_putBack 9 = .ok (.iload_n 2, 1) := by decide +kernel
theorem dX3_putBack_10 : decode cX3_putBack 10 = .ok (.ifCond .eq 12, 3) := by decide +kernel
theorem dX3_putBack_13 : decode cX3_putBack 13 = .ok (.aload_n 0, 1) := by decide +kernel
theorem dX3_putBack_14 : decode cX3_putBack 14 = .ok (.getfield 59, 3) := by decide +kernel
theorem dX3_putBack_17 : decode cX3_putBack 17 = .ok (.iload_n 2, 1) := by decide +kernel
theorem dX3_putBack_18 : decode cX3_putBack 18 = .ok (.iconst 1, 1) := by decide +kernel
theorem dX3_putBack_19 : decode cX3_putBack 19 = .ok (.invokevirtual 96, 3) := by decide +kernel
theorem dX3_putBack_22 : decode cX3_putBack 22 = .ok (.return_, 1) := by decide +kernel
theorem dX4_init_0 : decode cX4_init 0 = .ok (.aload_n 0, 1) := by decide +kernel
theorem dX4_init_1 : decode cX4_init 1 = .ok (.invokespecial 5, 3) := by decide +kernel
theorem dX4_init_4 : decode cX4_init 4 = .ok (.aload_n 0, 1) := by decide +kernel
theorem dX4_init_5 : decode cX4_init 5 = .ok (.new 11, 3) := by decide +kernel
theorem dX4_init_8 : decode cX4_init 8 = .ok (.dup, 1) := by decide +kernel
theorem dX4_init_9 : decode cX4_init 9 = .ok (.sipush 601, 3) := by decide +kernel
theorem dX4_init_12 : decode cX4_init 12 = .ok (.invokespecial 13, 3) := by decide +kernel
theorem dX4_init_15 : decode cX4_init 15 = .ok (.putfield 16, 3) := by decide +kernel
theorem dX4_init_18 : decode cX4_init 18 = .ok (.aload_n 0, 1) := by decide +kernel
theorem dX4_init_19 : decode cX4_init 19 = .ok (.new 11, 3) := by decide +kernel
theorem dX4_init_22 : decode cX4_init 22 = .ok (.dup, 1) := by decide +kernel
theorem dX4_init_23 : decode cX4_init 23 = .ok (.sipush 601, 3) := by decide +kernel
theorem dX4_init_26 : decode cX4_init 26 = .ok (.invokespecial 13, 3) := by decide +kernel
theorem dX4_init_29 : decode cX4_init 29 = .ok (.putfield 20, 3) := by decide +kernel
theorem dX4_init_32 : decode cX4_init 32 = .ok (.aload_n 0, 1) := by decide +kernel
theorem dX4_init_33 : decode cX4_init 33 = .ok (.new 11, 3) := by decide +kernel
theorem dX4_init_36 : decode cX4_init 36 = .ok (.dup, 1) := by decide +kernel
theorem dX4_init_37 : decode cX4_init 37 = .ok (.sipush 601, 3) := by decide +kernel
theorem dX4_init_40 : decode cX4_init 40 = .ok (.invokespecial 13, 3) := by decide +kernel
theorem dX4_init_43 : decode cX4_init 43 = .ok (.putfield 23, 3) := by decide +kernel
theorem dX4_init_46 : decode cX4_init 46 = .ok (.aload_n 0, 1) := by decide +kernel
theorem dX4_init_47 : decode cX4_init 47 = .ok (.new 11, 3) := by decide +kernel
theorem dX4_init_50 : decode cX4_init 50 = .ok (.dup, 1) := by decide +kernel
theorem dX4_init_51 : decode cX4_init 51 = .ok (.sipush 601, 3) := by decide +kernel
theorem dX4_init_54 : decode cX4_init 54 = .ok (.invokespecial 13, 3) := by decide +kernel
theorem dX4_init_57 : decode cX4_init 57 = .ok (.putfield 26, 3) := by decide +kernel
theorem dX4_init_60 : decode cX4_init 60 = .ok (.aload_n 0, 1) := by decide +kernel
theorem dX4_init_61 : decode cX4_init 61 = .ok (.new 11, 3) := by decide +kernel
theorem dX4_init_64 : decode cX4_init 64 = .ok (.dup, 1) := by decide +kernel
theorem dX4_init_65 : decode cX4_init 65 = .ok (.bipush 38, 2) := by decide +kernel
theorem dX4_init_67 : decode cX4_init 67 = .ok (.invokespecial 13, 3) := by decide +kernel
theorem dX4_init_70 : decode cX4_init 70 = .ok (.putfield 29, 3) := by decide +kernel
theorem dX4_init_73 : decode cX4_init 73 = .ok (.aload_n 0, 1) := by decide +kernel
theorem dX4_init_74 : decode cX4_init 74 = .ok (.new 11, 3) := by decide +kernel
theorem dX4_init_77 : decode cX4_init 77 = .ok (.dup, 1) := by decide +kernel
theorem dX4_init_78 : decode cX4_init 78 = .ok (.sipush 151, 3) := by decide +kernel
theorem dX4_init_81 : decode cX4_init 81 = .ok (.invokespecial 13, 3) := by decide +kernel
theorem dX4_init_84 : decode cX4_init 84 = .ok (.putfield 32, 3) := by decide +kernel
theorem dX4_init_87 : decode cX4_init 87 = .ok (.aload_n 0, 1) := by decide +kernel
theorem dX4_init_88 : decode cX4_init 88 = .ok (.new 11, 3) := by decide +kernel
theorem dX4_init_91 : decode cX4_init 91 = .ok (.dup, 1) := by decide +kernel
theorem dX4_init_92 : decode cX4_init 92 = .ok (.bipush 80, 2) := by decide +kernel
theorem dX4_init_94 : decode cX4_init 94 = .ok (.invokespecial 13, 3) := by decide +kernel
theorem dX4_init_97 : decode cX4_init 97 = .ok (.putfield 35, 3) := by decide +kernel
theorem dX4_init_100 : decode cX4_init 100 = .ok (.aload_n 0, 1) := by decide +kernel
theorem dX4_init_101 : decode cX4_init 101 = .ok (.new 11, 3) := by decide +kernel
theorem dX4_init_104 : decode cX4_init 104 = .ok (.dup, 1) := by decide +kernel
theorem dX4_init_105 : decode cX4_init 105 = .ok (.sipush 150, 3) := by decide +kernel
theorem dX4_init_108 : decode cX4_init 108 = .ok (.invokespecial 13, 3) := by decide +kernel
theorem dX4_init_111 : decode cX4_init 111 = .ok (.putfield 38, 3) := by decide +kernel
theorem dX4_init_114 : decode cX4_init 114 = .ok (.aload_n 0, 1) := by decide +kernel
theorem dX4_init_115 : decode cX4_init 115 = .ok (.new 11, 3) := by decide +kernel
theorem dX4_init_118 : decode cX4_init 118 = .ok (.dup, 1) := by decide +kernel
theorem dX4_init_119 : decode cX4_init 119 = .ok (.sipush 150, 3) := by decide +kernel
theorem dX4_init_122 : decode cX4_init 122 = .ok (.invokespecial 13, 3) := by decide +kernel
theorem dX4_init_125 : decode cX4_init 125 = .ok (.putfield 41, 3) := by decide +kernel
theorem dX4_init_128 : decode cX4_init 128 = .ok (.aload_n 0, 1) := by decide +kernel
theorem dX4_init_129 : decode cX4_init 129 = .ok (.new 11, 3) := by decide +kernel
theorem dX4_init_132 : decode cX4_init 132 = .ok (.dup, 1) := by decide +kernel
theorem dX4_init_133 : decode cX4_init 133 = .ok (.sipush 302, 3) := by decide +kernel
theorem dX4_init_136 : decode cX4_init 136 = .ok (.invokespecial 13, 3) := by decide +kernel
theorem dX4_init_139 : decode cX4_init 139 = .ok (.putfield 44, 3) := by decide +kernel
theorem dX4_init_142 : decode cX4_init 142 = .ok (.aload_n 0, 1) := by decide +kernel
theorem dX4_init_143 : decode cX4_init 143 = .ok (.new 11, 3) := by decide +kernel
theorem dX4_init_146 : decode cX4_init 146 = .ok (.dup, 1) := by decide +kernel
theorem dX4_init_147 : decode cX4_init 147 = .ok (.sipush 151, 3) := by decide +kernel
theorem dX4_init_150 : decode cX4_init 150 = .ok (.invokespecial 13, 3) := by decide +kernel
theorem dX4_init_153 : decode cX4_init 153 = .ok (.putfield 47, 3) := by decide +kernel
theorem dX4_init_156 : decode cX4_init 156 = .ok (.aload_n 0, 1) := by decide +kernel
theorem dX4_init_157 : decode cX4_init 157 = .ok (.iconst 0, 1) := by decide +kernel
theorem dX4_init_158 : decode cX4_init 158 = .ok (.putfield 50, 3) := by decide +kernel
theorem dX4_init_161 : decode cX4_init 161 = .ok (.aload_n 0, 1) := by decide +kernel
theorem dX4_init_162 : decode cX4_init 162 = .ok (.iconst 0, 1) := by decide +kernel
theorem dX4_init_163 : decode cX4_init 163 = .ok (.putfield 54, 3) := by decide +kernel
theorem dX4_init_166 : decode cX4_init 166 = .ok (.aload_n 0, 1) := by decide +kernel
theorem dX4_init_167 : decode cX4_init 167 = .ok (.iconst 0, 1) := by decide +kernel
theorem dX4_init_168 : decode cX4_init 168 = .ok (.putfield 57, 3) := by decide +kernel
theorem dX4_init_171 : decode cX4_init 171 = .ok (.aload_n 0, 1) := by decide +kernel
theorem dX4_init_172 : decode cX4_init 172 = .ok (.iconst 0, 1) := by decide +kernel
theorem dX4_init_173 : decode cX4_init 173 = .ok (.putfield 60, 3) := by decide +kernel
theorem dX4_init_176 : decode cX4_init 176 = .ok (.aload_n 0, 1) := by decide +kernel
theorem dX4_init_177 : decode cX4_init 177 = .ok (.iconst 0, 1) := by decide +kernel
theorem dX4_init_178 : decode cX4_init 178 = .ok (.putfield 63, 3) := by decide +kernel
theorem dX4_init_181 : decode cX4_init 181 = .ok (.aload_n 0, 1) := by decide +kernel
theorem dX4_init_182 : decode cX4_init 182 = .ok (.iconst 0, 1) := by decide +kernel
theorem dX4_init_183 : decode cX4_init 183 = .ok (.putfield 66, 3) := by decide +kernel
theorem dX4_init_186 : decode cX4_init 186 = .ok (.aload_n 0, 1) := by decide +kernel
theorem dX4_init_187 : decode cX4_init 187 = .ok (.aload_n 1, 1) := by decide +kernel
theorem dX4_init_188 : decode cX4_init 188 = .ok (.putfield 69, 3) := by decide +kernel
theorem dX4_init_191 : decode cX4_init 191 = .ok (.return_, 1) := by decide +kernel
theorem dX4_begin_0 : decode cX4_begin 0 = .ok (.aload_n 0, 1) := by decide +kernel
theorem dX4_begin_1 : decode cX4_begin 1 = .ok (.invokevirtual 73, 3) := by decide +kernel
theorem dX4_begin_4 : decode cX4_begin 4 = .ok (.aload_n 0, 1) := by decide +kernel
theorem dX4_begin_5 : decode cX4_begin 5 = .ok (.iload_n 1, 1) := by decide +kernel
theorem dX4_begin_6 : decode cX4_begin 6 = .ok (.putfield 66, 3) := by decide +kernel
theorem dX4_begin_9 : decode cX4_begin 9 = .ok (.aload_n 0, 1) := by decide +kernel
theorem dX4_begin_10 : decode cX4_begin 10 = .ok (.iconst 0, 1) := by decide +kernel
theorem dX4_begin_11 : decode cX4_begin 11 = .ok (.putfield 57, 3) := by decide +kernel
theorem dX4_begin_14 : decode cX4_begin 14 = .ok (.aload_n 0, 1) := by decide +kernel
theorem dX4_begin_15 : decode cX4_begin 15 = .ok (.iconst 0, 1) := by decide +kernel
theorem dX4_begin_16 : decode cX4_begin 16 = .ok (.putfield 50, 3) := by decide +kernel
theorem dX4_begin_19 : decode cX4_begin 19 = .ok (.aload_n 0, 1) := by decide +kernel
theorem dX4_begin_20 : decode cX4_begin 20 = .ok (.getfield 32, 3) := by decide +kernel
theorem dX4_begin_23 : decode cX4_begin 23 = .ok (.iconst 0, 1) := by decide +kernel
theorem dX4_begin_24 : decode cX4_begin 24 = .ok (.invokevirtual 76, 3) := by decide +kernel
theorem dX4_begin_27 : decode cX4_begin 27 = .ok (.iconst 1, 1) := by decide +kernel
theorem dX4_begin_28 : decode cX4_begin 28 = .ok (.istore_n 2, 1) := by decide +kernel
theorem dX4_begin_29 : decode cX4_begin 29 = .ok (.iload_n 2, 1) := by decide +kernel
theorem dX4_begin_30 : decode cX4_begin 30 = .ok (.aload_n 0, 1) := by decide +kernel
theorem dX4_begin_31 : decode cX4_begin 31 = .ok (.getfield 69, 3) := by decide +kernel
theorem dX4_begin_34 : decode cX4_begin 34 = .ok (.invokevirtual 79, 3) := by decide +kernel
theorem dX4_begin_37 : decode cX4_begin 37 = .ok (.if_icmp .gt 83, 3) := by decide +kernel
theorem dX4_begin_40 : decode cX4_begin 40 = .ok (.aload_n 0, 1) := by decide +kernel
theorem dX4_begin_41 : decode cX4_begin 41 = .ok (.getfield 16, 3) := by decide +kernel
theorem dX4_begin_44 : decode cX4_begin 44 = .ok (.iload_n 2, 1) := by decide +kernel
theorem dX4_begin_45 : decode cX4_begin 45 = .ok (.iload_n 2, 1) := by decide +kernel
theorem dX4_begin_46 : decode cX4_begin 46 = .ok (.aload_n 0, 1) := by decide +kernel
theorem dX4_begin_47 : decode cX4_begin 47 = .ok (.getfield 69, 3) := by decide +kernel
theorem dX4_begin_50 : decode cX4_begin 50 = .ok (.invokevirtual 85, 3) := by decide +kernel
theorem dX4_begin_53 : decode cX4_begin 53 = .ok (.if_icmp .gt 7, 3) := by decide +kernel
theorem dX4_begin_56 : decode cX4_begin 56 = .ok (.iconst 1, 1) := by decide +kernel
theorem dX4_begin_57 : decode cX4_begin 57 = .ok (.goto 4, 3) := by decide +kernel
theorem dX4_begin_60 : decode cX4_begin 60 = .ok (.iconst 0, 1) := by decide +kernel
theorem dX4_begin_61 : decode cX4_begin 61 = .ok (.invokevirtual 88, 3) := by decide +kernel
theorem dX4_begin_64 : decode cX4_begin 64 = .ok (.aload_n 0, 1) := by decide +kernel
theorem dX4_begin_65 : decode cX4_begin 65 = .ok (.getfield 23, 3) := by decide +kernel
theorem dX4_begin_68 : decode cX4_begin 68 = .ok (.iload_n 2, 1) := by decide +kernel
theorem dX4_begin_69 : decode cX4_begin 69 = .ok (.aload_n 0, 1) := by decide +kernel
theorem dX4_begin_70 : decode cX4_begin 70 = .ok (.getfield 69, 3) := by decide +kernel
theorem dX4_begin_73 : decode cX4_begin 73 = .ok (.iload_n 2, 1) := by decide +kernel
theorem dX4_begin_74 : decode cX4_begin 74 = .ok (.invokevirtual 92, 3) := by decide +kernel
theorem dX4_begin_77 : decode cX4_begin 77 = .ok (.invokevirtual 88, 3) := by decide +kernel
theorem dX4_begin_80 : decode cX4_begin 80 = .ok (.aload_n 0, 1) := by decide +kernel
theorem dX4_begin_81 : decode cX4_begin 81 = .ok (.getfield 69, 3) := by decide +kernel
theorem dX4_begin_84 : decode cX4_begin 84 = .ok (.iload_n 2, 1) := by decide +kernel
theorem dX4_begin_85 : decode cX4_begin 85 = .ok (.invokevirtual 92, 3) := by decide +kernel
theorem dX4_begin_88 : decode cX4_begin 88 = .ok (.iconst 1, 1) := by decide +kernel
theorem dX4_begin_89 : decode cX4_begin 89 = .ok (.if_icmp .gt 25, 3) := by decide +kernel
theorem dX4_begin_92 : decode cX4_begin 92 = .ok (.aload_n 0, 1) := by decide +kernel
theorem dX4_begin_93 : decode cX4_begin 93 = .ok (.getfield 26, 3) := by decide +kernel
theorem dX4_begin_96 : decode cX4_begin 96 = .ok (.aload_n 0, 1) := by decide +kernel
theorem dX4_begin_97 : decode cX4_begin 97 = .ok (.getfield 50, 3) := by decide +kernel
theorem dX4_begin_100 : decode cX4_begin 100 = .ok (.iload_n 2, 1) := by decide +kernel
theorem dX4_begin_101 : decode cX4_begin 101 = .ok (.invokevirtual 88, 3) := by decide +kernel
theorem dX4_begin_104 : decode cX4_begin 104 = .ok (.aload_n 0, 1) := by decide +kernel
theorem dX4_begin_105 : decode cX4_begin 105 = .ok (.dup, 1) := by decide +kernel
theorem dX4_begin_106 : decode cX4_begin 106 = .ok (.getfield 50, 3) := by decide +kernel
theorem dX4_begin_109 : decode cX4_begin 109 = .ok (.iconst 1, 1) := by decide +kernel
theorem dX4_begin_110 : decode cX4_begin 110 = .ok (.iadd, 1) := by decide +kernel
theorem dX4_begin_111 : decode cX4_begin 111 = .ok (.putfield 50, 3) := by decide +kernel
theorem dX4_begin_114 : decode cX4_begin 114 = .ok (.iinc 2 1, 3) := by decide +kernel
theorem dX4_begin_117 : decode cX4_begin 117 = .ok (.goto (-88), 3) := by decide +kernel
theorem dX4_begin_120 : decode cX4_begin 120 = .ok (.return_, 1) := by decide +kernel
theorem dX4_forget_0 : decode cX4_forget 0 = .ok (.aload_n 0, 1) := by decide +kernel
theorem dX4_forget_1 : decode cX4_forget 1 = .ok (.iconst 0, 1) := by decide +kernel
theorem dX4_forget_2 : decode cX4_forget 2 = .ok (.putfield 66, 3) := by decide +kernel
theorem dX4_forget_5 : decode cX4_forget 5 = .ok (.aload_n 0, 1) := by decide +kernel
theorem dX4_forget_6 : decode cX4_forget 6 = .ok (.getfield 20, 3) := by decide +kernel
theorem dX4_forget_9 : decode cX4_forget 9 = .ok (.iconst 0, 1) := by decide +kernel
theorem dX4_forget_10 : decode cX4_forget 10 = .ok (.invokevirtual 76, 3) := by decide +kernel
theorem dX4_forget_13 : decode cX4_forget 13 = .ok (.return_, 1) := by decide +kernel
theorem dX4_fuelLeft_0 : decode cX4_fuelLeft 0 = .ok (.aload_n 0, 1) := by decide +kernel
theorem dX4_fuelLeft_1 : decode cX4_fuelLeft 1 = .ok (.getfield 66, 3) := by decide +kernel
theorem dX4_fuelLeft_4 : decode cX4_fuelLeft 4 = .ok (.ireturn, 1) := by decide +kernel
theorem dX4_isActive_0 : decode cX4_isActive 0 = .ok (.aload_n 0, 1) := by decide +kernel
theorem dX4_isActive_1 : decode cX4_isActive 1 = .ok (.getfield 16, 3) := by decide +kernel
theorem dX4_isActive_4 : decode cX4_isActive 4 = .ok (.iload_n 1, 1) := by decide +kernel
theorem dX4_isActive_5 : decode cX4_isActive 5 = .ok (.invokevirtual 96, 3) := by decide +kernel
theorem dX4_isActive_8 : decode cX4_isActive 8 = .ok (.ifCond .eq 7, 3) := by decide +kernel
theorem dX4_isActive_11 : decode cX4_isActive 11 = .ok (.iconst 1, 1) := by decide +kernel
theorem dX4_isActive_12 : decode cX4_isActive 12 = .ok (.goto 4, 3) := by decide +kernel
theorem dX4_isActive_15 : decode cX4_isActive 15 = .ok (.iconst 0, 1) := by decide +kernel
theorem dX4_isActive_16 : decode cX4_isActive 16 = .ok (.ireturn, 1) := by decide +kernel
theorem dX4_setActive_0 : decode cX4_setActive 0 = .ok (.aload_n 0, 1) := by decide +kernel
theorem dX4_setActive_1 : decode cX4_setActive 1 = .ok (.getfield 16, 3) := by decide +kernel
theorem dX4_setActive_4 : decode cX4_setActive 4 = .ok (.iload_n 1, 1) := by decide +kernel
theorem dX4_setActive_5 : decode cX4_setActive 5 = .ok (.iload_n 2, 1) := by decide +kernel
theorem dX4_setActive_6 : decode cX4_setActive 6 = .ok (.ifCond .eq 7, 3) := by decide +kernel
theorem dX4_setActive_9 : decode cX4_setActive 9 = .ok (.iconst 1, 1) := by decide +kernel
theorem dX4_setActive_10 : decode cX4_setActive 10 = .ok (.goto 4, 3) := by decide +kernel
theorem dX4_setActive_13 : decode cX4_setActive 13 = .ok (.iconst 0, 1) := by decide +kernel
theorem dX4_setActive_14 : decode cX4_setActive 14 = .ok (.invokevirtual 88, 3) := by decide +kernel
theorem dX4_setActive_17 : decode cX4_setActive 17 = .ok (.return_, 1) := by decide +kernel
theorem dX4_isMarked_0 : decode cX4_isMarked 0 = .ok (.aload_n 0, 1) := by decide +kernel
theorem dX4_isMarked_1 : decode cX4_isMarked 1 = .ok (.getfield 20, 3) := by decide +kernel
theorem dX4_isMarked_4 : decode cX4_isMarked 4 = .ok (.iload_n 1, 1) := by decide +kernel
theorem dX4_isMarked_5 : decode cX4_isMarked 5 = .ok (.invokevirtual 96, 3) := by decide +kernel
theorem dX4_isMarked_8 : decode cX4_isMarked 8 = .ok (.ifCond .eq 7, 3) := by decide +kernel
theorem dX4_isMarked_11 : decode cX4_isMarked 11 = .ok (.iconst 1, 1) := by decide +kernel
theorem dX4_isMarked_12 : decode cX4_isMarked 12 = .ok (.goto 4, 3) := by decide +kernel
theorem dX4_isMarked_15 : decode cX4_isMarked 15 = .ok (.iconst 0, 1) := by decide +kernel
theorem dX4_isMarked_16 : decode cX4_isMarked 16 = .ok (.ireturn, 1) := by decide +kernel
theorem dX4_mark_0 : decode cX4_mark 0 = .ok (.aload_n 0, 1) := by decide +kernel
theorem dX4_mark_1 : decode cX4_mark 1 = .ok (.getfield 20, 3) := by decide +kernel
theorem dX4_mark_4 : decode cX4_mark 4 = .ok (.iload_n 1, 1) := by decide +kernel
theorem dX4_mark_5 : decode cX4_mark 5 = .ok (.iconst 1, 1) := by decide +kernel
theorem dX4_mark_6 : decode cX4_mark 6 = .ok (.invokevirtual 88, 3) := by decide +kernel
theorem dX4_mark_9 : decode cX4_mark 9 = .ok (.return_, 1) := by decide +kernel
theorem dX4_restart_0 : decode cX4_restart 0 = .ok (.iconst 0, 1) := by decide +kernel
theorem dX4_restart_1 : decode cX4_restart 1 = .ok (.istore_n 1, 1) := by decide +kernel
theorem dX4_restart_2 : decode cX4_restart 2 = .ok (.iload_n 1, 1) := by decide +kernel
theorem dX4_restart_3 : decode cX4_restart 3 = .ok (.aload_n 0, 1) := by decide +kernel
theorem dX4_restart_4 : decode cX4_restart 4 = .ok (.getfield 57, 3) := by decide +kernel
theorem dX4_restart_7 : decode cX4_restart 7 = .ok (.if_icmp .ge 21, 3) := by decide +kernel
theorem dX4_restart_10 : decode cX4_restart 10 = .ok (.aload_n 0, 1) := by decide +kernel
theorem dX4_restart_11 : decode cX4_restart 11 = .ok (.aload_n 0, 1) := by decide +kernel
theorem dX4_restart_12 : decode cX4_restart 12 = .ok (.getfield 38, 3) := by decide +kernel
theorem dX4_restart_15 : decode cX4_restart 15 = .ok (.iload_n 1, 1) := by decide +kernel
theorem dX4_restart_16 : decode cX4_restart 16 = .ok (.invokevirtual 96, 3) := by decide +kernel
theorem dX4_restart_19 : decode cX4_restart 19 = .ok (.invokevirtual 99, 3) := by decide +kernel
theorem dX4_restart_22 : decode cX4_restart 22 = .ok (.iinc 1 1, 3) := by decide +kernel
theorem dX4_restart_25 : decode cX4_restart 25 = .ok (.goto (-23), 3) := by decide +kernel
theorem dX4_restart_28 : decode cX4_restart 28 = .ok (.aload_n 0, 1) := by decide +kernel
theorem dX4_restart_29 : decode cX4_restart 29 = .ok (.iconst 0, 1) := by decide +kernel
theorem dX4_restart_30 : decode cX4_restart 30 = .ok (.putfield 57, 3) := by decide +kernel
theorem dX4_restart_33 : decode cX4_restart 33 = .ok (.aload_n 0, 1) := by decide +kernel
theorem dX4_restart_34 : decode cX4_restart 34 = .ok (.iconst 0, 1) := by decide +kernel
theorem dX4_restart_35 : decode cX4_restart 35 = .ok (.putfield 54, 3) := by decide +kernel
theorem dX4_restart_38 : decode cX4_restart 38 = .ok (.aload_n 0, 1) := by decide +kernel
theorem dX4_restart_39 : decode cX4_restart 39 = .ok (.iconst 0, 1) := by decide +kernel
theorem dX4_restart_40 : decode cX4_restart 40 = .ok (.putfield 63, 3) := by decide +kernel
theorem dX4_restart_43 : decode cX4_restart 43 = .ok (.aload_n 0, 1) := by decide +kernel
theorem dX4_restart_44 : decode cX4_restart 44 = .ok (.getfield 29, 3) := by decide +kernel
theorem dX4_restart_47 : decode cX4_restart 47 = .ok (.iconst 0, 1) := by decide +kernel
theorem dX4_restart_48 : decode cX4_restart 48 = .ok (.invokevirtual 76, 3) := by decide +kernel
theorem dX4_restart_51 : decode cX4_restart 51 = .ok (.iconst 0, 1) := by decide +kernel
theorem dX4_restart_52 : decode cX4_restart 52 = .ok (.istore_n 1, 1) := by decide +kernel
theorem dX4_restart_53 : decode cX4_restart 53 = .ok (.iload_n 1, 1) := by decide +kernel
theorem dX4_restart_54 : decode cX4_restart 54 = .ok (.aload_n 0, 1) := by decide +kernel
theorem dX4_restart_55 : decode cX4_restart 55 = .ok (.getfield 50, 3) := by decide +kernel
theorem dX4_restart_58 : decode cX4_restart 58 = .ok (.if_icmp .ge 21, 3) := by decide +kernel
theorem dX4_restart_61 : decode cX4_restart 61 = .ok (.aload_n 0, 1) := by decide +kernel
theorem dX4_restart_62 : decode cX4_restart 62 = .ok (.aload_n 0, 1) := by decide +kernel
theorem dX4_restart_63 : decode cX4_restart 63 = .ok (.getfield 26, 3) := by decide +kernel
theorem dX4_restart_66 : decode cX4_restart 66 = .ok (.iload_n 1, 1) := by decide +kernel
theorem dX4_restart_67 : decode cX4_restart 67 = .ok (.invokevirtual 96, 3) := by decide +kernel
theorem dX4_restart_70 : decode cX4_restart 70 = .ok (.invokevirtual 102, 3) := by decide +kernel
theorem dX4_restart_73 : decode cX4_restart 73 = .ok (.iinc 1 1, 3) := by decide +kernel
theorem dX4_restart_76 : decode cX4_restart 76 = .ok (.goto (-23), 3) := by decide +kernel
theorem dX4_restart_79 : decode cX4_restart 79 = .ok (.return_, 1) := by decide +kernel
theorem dX4_assumeOpposites_0 : decode cX4_assumeOpposites 0 = .ok (.aload_n 0, 1) := by decide +kernel
theorem dX4_assumeOpposites_1 : decode cX4_assumeOpposites 1 = .ok (.getfield 69, 3) := by decide +kernel
theorem dX4_assumeOpposites_4 : decode cX4_assumeOpposites 4 = .ok (.iload_n 1, 1) := by decide +kernel
theorem dX4_assumeOpposites_5 : decode cX4_assumeOpposites 5 = .ok (.invokevirtual 92, 3) := by decide +kernel
theorem dX4_assumeOpposites_8 : decode cX4_assumeOpposites 8 = .ok (.istore_n 3, 1) := by decide +kernel
theorem dX4_assumeOpposites_9 : decode cX4_assumeOpposites 9 = .ok (.iconst 0, 1) := by decide +kernel
theorem dX4_assumeOpposites_10 : decode cX4_assumeOpposites 10 = .ok (.istore 4, 2) := by decide +kernel
theorem dX4_assumeOpposites_12 : decode cX4_assumeOpposites 12 = .ok (.iload 4, 2) := by decide +kernel
theorem dX4_assumeOpposites_14 : decode cX4_assumeOpposites 14 = .ok (.iload_n 3, 1) := by decide +kernel
theorem dX4_assumeOpposites_15 : decode cX4_assumeOpposites 15 = .ok (.if_icmp .ge 51, 3) := by decide +kernel
theorem dX4_assumeOpposites_18 : decode cX4_assumeOpposites 18 = .ok (.aload_n 0, 1) := by decide +kernel
theorem dX4_assumeOpposites_19 : decode cX4_assumeOpposites 19 = .ok (.getfield 69, 3) := by decide +kernel
theorem dX4_assumeOpposites_22 : decode cX4_assumeOpposites 22 = .ok (.iload_n 1, 1) := by decide +kernel
theorem dX4_assumeOpposites_23 : decode cX4_assumeOpposites 23 = .ok (.iload 4, 2) := by decide +kernel
theorem dX4_assumeOpposites_25 : decode cX4_assumeOpposites 25 = .ok (.invokevirtual 105, 3) := by decide +kernel
theorem dX4_assumeOpposites_28 : decode cX4_assumeOpposites 28 = .ok (.istore 5, 2) := by decide +kernel
theorem dX4_assumeOpposites_30 : decode cX4_assumeOpposites 30 = .ok (.iload 5, 2) := by decide +kernel
theorem dX4_assumeOpposites_32 : decode cX4_assumeOpposites 32 = .ok (.iload_n 2, 1) := by decide +kernel
theorem dX4_assumeOpposites_33 : decode cX4_assumeOpposites 33 = .ok (.if_icmp .eq 27, 3) := by decide +kernel
theorem dX4_assumeOpposites_36 : decode cX4_assumeOpposites 36 = .ok (.aload_n 0, 1) := by decide +kernel
theorem dX4_assumeOpposites_37 : decode cX4_assumeOpposites 37 = .ok (.getfield 35, 3) := by decide +kernel
theorem dX4_assumeOpposites_40 : decode cX4_assumeOpposites 40 = .ok (.aload_n 0, 1) := by decide +kernel
theorem dX4_assumeOpposites_41 : decode cX4_assumeOpposites 41 = .ok (.getfield 54, 3) := by decide +kernel
theorem dX4_assumeOpposites_44 : decode cX4_assumeOpposites 44 = .ok (.iload 5, 2) := by decide +kernel
theorem dX4_assumeOpposites_46 : decode cX4_assumeOpposites 46 = .ok (.ineg, 1) := by decide +kernel
theorem dX4_assumeOpposites_47 : decode cX4_assumeOpposites 47 = .ok (.invokevirtual 88, 3) := by decide +kernel
theorem dX4_assumeOpposites_50 : decode cX4_assumeOpposites 50 = .ok (.aload_n 0, 1) := by decide +kernel
theorem dX4_assumeOpposites_51 : decode cX4_assumeOpposites 51 = .ok (.dup, 1) := by decide +kernel
theorem dX4_assumeOpposites_52 : decode cX4_assumeOpposites 52 = .ok (.getfield 54, 3) := by decide +kernel
theorem dX4_assumeOpposites_55 : decode cX4_assumeOpposites 55 = .ok (.iconst 1, 1) := by decide +kernel
theorem dX4_assumeOpposites_56 : decode cX4_assumeOpposites 56 = .ok (.iadd, 1) := by decide +kernel
theorem dX4_assumeOpposites_57 : decode cX4_assumeOpposites 57 = .ok (.putfield 54, 3) := by decide +kernel
theorem dX4_assumeOpposites_60 : decode cX4_assumeOpposites 60 = .ok (.iinc 4 1, 3) := by decide +kernel
theorem dX4_assumeOpposites_63 : decode cX4_assumeOpposites 63 = .ok (.goto (-51), 3) := by decide +kernel
theorem dX4_assumeOpposites_66 : decode cX4_assumeOpposites 66 = .ok (.return_, 1) := by decide +kernel
theorem dX4_run_0 : decode cX4_run 0 = .ok (.iconst 0, 1) := by decide +kernel
theorem dX4_run_1 : decode cX4_run 1 = .ok (.istore_n 1, 1) := by decide +kernel
theorem dX4_run_2 : decode cX4_run 2 = .ok (.iload_n 1, 1) := by decide +kernel
theorem dX4_run_3 : decode cX4_run 3 = .ok (.aload_n 0, 1) := by decide +kernel
theorem dX4_run_4 : decode cX4_run 4 = .ok (.getfield 54, 3) := by decide +kernel
theorem dX4_run_7 : decode cX4_run 7 = .ok (.if_icmp .ge 45, 3) := by decide +kernel
theorem dX4_run_10 : decode cX4_run 10 = .ok (.aload_n 0, 1) := by decide +kernel
theorem dX4_run_11 : decode cX4_run 11 = .ok (.getfield 35, 3) := by decide +kernel
theorem dX4_run_14 : decode cX4_run 14 = .ok (.iload_n 1, 1) := by decide +kernel
theorem dX4_run_15 : decode cX4_run 15 = .ok (.invokevirtual 96, 3) := by decide +kernel
theorem dX4_run_18 : decode cX4_run 18 = .ok (.istore_n 2, 1) := by decide +kernel
theorem dX4_run_19 : decode cX4_run 19 = .ok (.aload_n 0, 1) := by decide +kernel
theorem dX4_run_20 : decode cX4_run 20 = .ok (.iload_n 2, 1) := by decide +kernel
theorem dX4_run_21 : decode cX4_run 21 = .ok (.invokevirtual 109, 3) := by decide +kernel
theorem dX4_run_24 : decode cX4_run 24 = .ok (.istore_n 3, 1) := by decide +kernel
theorem dX4_run_25 : decode cX4_run 25 = .ok (.iload_n 3, 1) := by decide +kernel
theorem dX4_run_26 : decode cX4_run 26 = .ok (.ifCond .ge 5, 3) := by decide +kernel
theorem dX4_run_29 : decode cX4_run 29 = .ok (.iconst 1, 1) := by decide +kernel
theorem dX4_run_30 : decode cX4_run 30 = .ok (.ireturn, 1) := by decide +kernel
theorem dX4_run_31 : decode cX4_run 31 = .ok (.iload_n 3, 1) := by decide +kernel
theorem dX4_run_32 : decode cX4_run 32 = .ok (.ifCond .ne 14, 3) := by decide +kernel
theorem dX4_run_35 : decode cX4_run 35 = .ok (.aload_n 0, 1) := by decide +kernel
theorem dX4_run_36 : decode cX4_run 36 = .ok (.iload_n 2, 1) := by decide +kernel
theorem dX4_run_37 : decode cX4_run 37 = .ok (.iconst 0, 1) := by decide +kernel
theorem dX4_run_38 : decode cX4_run 38 = .ok (.invokevirtual 112, 3) := by decide +kernel
theorem dX4_run_41 : decode cX4_run 41 = .ok (.ifCond .ne 5, 3) := by decide +kernel
theorem dX4_run_44 : decode cX4_run 44 = .ok (.iconst 2, 1) := by decide +kernel
theorem dX4_run_45 : decode cX4_run 45 = .ok (.ireturn, 1) := by decide +kernel
theorem dX4_run_46 : decode cX4_run 46 = .ok (.iinc 1 1, 3) := by decide +kernel
theorem dX4_run_49 : decode cX4_run 49 = .ok (.goto (-47), 3) := by decide +kernel
theorem dX4_run_52 : decode cX4_run 52 = .ok (.iconst 0, 1) := by decide +kernel
theorem dX4_run_53 : decode cX4_run 53 = .ok (.istore_n 1, 1) := by decide +kernel
theorem dX4_run_54 : decode cX4_run 54 = .ok (.iload_n 1, 1) := by decide +kernel
theorem dX4_run_55 : decode cX4_run 55 = .ok (.sipush 600, 3) := by decide +kernel
theorem dX4_run_58 : decode cX4_run 58 = .ok (.if_icmp .gt 56, 3) := by decide +kernel
theorem dX4_run_61 : decode cX4_run 61 = .ok (.aload_n 0, 1) := by decide +kernel
theorem dX4_run_62 : decode cX4_run 62 = .ok (.invokevirtual 116, 3) := by decide +kernel
theorem dX4_run_65 : decode cX4_run 65 = .ok (.istore_n 2, 1) := by decide +kernel
theorem dX4_run_66 : decode cX4_run 66 = .ok (.iload_n 2, 1) := by decide +kernel
theorem dX4_run_67 : decode cX4_run 67 = .ok (.ifCond .ne 5, 3) := by decide +kernel
theorem dX4_run_70 : decode cX4_run 70 = .ok (.iconst 0, 1) := by decide +kernel
theorem dX4_run_71 : decode cX4_run 71 = .ok (.ireturn, 1) := by decide +kernel
theorem dX4_run_72 : decode cX4_run 72 = .ok (.aload_n 0, 1) := by decide +kernel
theorem dX4_run_73 : decode cX4_run 73 = .ok (.iload_n 2, 1) := by decide +kernel
theorem dX4_run_74 : decode cX4_run 74 = .ok (.invokevirtual 119, 3) := by decide +kernel
theorem dX4_run_77 : decode cX4_run 77 = .ok (.ifCond .ne 31, 3) := by decide +kernel
theorem dX4_run_80 : decode cX4_run 80 = .ok (.aload_n 0, 1) := by decide +kernel
theorem dX4_run_81 : decode cX4_run 81 = .ok (.iload_n 2, 1) := by decide +kernel
theorem dX4_run_82 : decode cX4_run 82 = .ok (.invokevirtual 123, 3) := by decide +kernel
theorem dX4_run_85 : decode cX4_run 85 = .ok (.istore_n 3, 1) := by decide +kernel
theorem dX4_run_86 : decode cX4_run 86 = .ok (.iload_n 3, 1) := by decide +kernel
theorem dX4_run_87 : decode cX4_run 87 = .ok (.ifCond .ne 10, 3) := by decide +kernel
theorem dX4_run_90 : decode cX4_run 90 = .ok (.aload_n 0, 1) := by decide +kernel
theorem dX4_run_91 : decode cX4_run 91 = .ok (.iload_n 2, 1) := by decide +kernel
theorem dX4_run_92 : decode cX4_run 92 = .ok (.putfield 63, 3) := by decide +kernel
theorem dX4_run_95 : decode cX4_run 95 = .ok (.iconst 1, 1) := by decide +kernel
theorem dX4_run_96 : decode cX4_run 96 = .ok (.ireturn, 1) := by decide +kernel
theorem dX4_run_97 : decode cX4_run 97 = .ok (.aload_n 0, 1) := by decide +kernel
theorem dX4_run_98 : decode cX4_run 98 = .ok (.iload_n 3, 1) := by decide +kernel
theorem dX4_run_99 : decode cX4_run 99 = .ok (.iload_n 2, 1) := by decide +kernel
theorem dX4_run_100 : decode cX4_run 100 = .ok (.invokevirtual 112, 3) := by decide +kernel
theorem dX4_run_103 : decode cX4_run 103 = .ok (.ifCond .ne 5, 3) := by decide +kernel
theorem dX4_run_106 : decode cX4_run 106 = .ok (.iconst 2, 1) := by decide +kernel
theorem dX4_run_107 : decode cX4_run 107 = .ok (.ireturn, 1) := by decide +kernel
theorem dX4_run_108 : decode cX4_run 108 = .ok (.iinc 1 1, 3) := by decide +kernel
theorem dX4_run_111 : decode cX4_run 111 = .ok (.goto (-57), 3) := by decide +kernel
theorem dX4_run_114 : decode cX4_run 114 = .ok (.iconst 0, 1) := by decide +kernel
theorem dX4_run_115 : decode cX4_run 115 = .ok (.ireturn, 1) := by decide +kernel
theorem dX4_isReason_0 : decode cX4_isReason 0 = .ok (.iconst 0, 1) := by decide +kernel
theorem dX4_isReason_1 : decode cX4_isReason 1 = .ok (.istore_n 2, 1) := by decide +kernel
theorem dX4_isReason_2 : decode cX4_isReason 2 = .ok (.iload_n 2, 1) := by decide +kernel
theorem dX4_isReason_3 : decode cX4_isReason 3 = .ok (.aload_n 0, 1) := by decide +kernel
theorem dX4_isReason_4 : decode cX4_isReason 4 = .ok (.getfield 57, 3) := by decide +kernel
theorem dX4_isReason_7 : decode cX4_isReason 7 = .ok (.if_icmp .ge 23, 3) := by decide +kernel
theorem dX4_isReason_10 : decode cX4_isReason 10 = .ok (.aload_n 0, 1) := by decide +kernel
theorem dX4_isReason_11 : decode cX4_isReason 11 = .ok (.getfield 41, 3) := by decide +kernel
theorem dX4_isReason_14 : decode cX4_isReason 14 = .ok (.iload_n 2, 1) := by decide +kernel
theorem dX4_isReason_15 : decode cX4_isReason 15 = .ok (.invokevirtual 96, 3) := by decide +kernel
theorem dX4_isReason_18 : decode cX4_isReason 18 = .ok (.iload_n 1, 1) := by decide +kernel
theorem dX4_isReason_19 : decode cX4_isReason 19 = .ok (.if_icmp .ne 5, 3) := by decide +kernel
theorem dX4_isReason_22 : decode cX4_isReason 22 = .ok (.iconst 1, 1) := by decide +kernel
theorem dX4_isReason_23 : decode cX4_isReason 23 = .ok (.ireturn, 1) := by decide +kernel
theorem dX4_isReason_24 : decode cX4_isReason 24 = .ok (.iinc 2 1, 3) := by decide +kernel
theorem dX4_isReason_27 : decode cX4_isReason 27 = .ok (.goto (-25), 3) := by decide +kernel
theorem dX4_isReason_30 : decode cX4_isReason 30 = .ok (.iconst 0, 1) := by decide +kernel
theorem dX4_isReason_31 : decode cX4_isReason 31 = .ok (.ireturn, 1) := by decide +kernel
theorem dX4_gatherUsed_0 : decode cX4_gatherUsed 0 = .ok (.aload_n 0, 1) := by decide +kernel
theorem dX4_gatherUsed_1 : decode cX4_gatherUsed 1 = .ok (.iconst 0, 1) := by decide +kernel
theorem dX4_gatherUsed_2 : decode cX4_gatherUsed 2 = .ok (.putfield 60, 3) := by decide +kernel
theorem dX4_gatherUsed_5 : decode cX4_gatherUsed 5 = .ok (.aload_n 0, 1) := by decide +kernel
theorem dX4_gatherUsed_6 : decode cX4_gatherUsed 6 = .ok (.getfield 63, 3) := by decide +kernel
theorem dX4_gatherUsed_9 : decode cX4_gatherUsed 9 = .ok (.ifCond .ne 4, 3) := by decide +kernel
theorem dX4_gatherUsed_12 : decode cX4_gatherUsed 12 = .ok (.return_, 1) := by decide +kernel
theorem dX4_gatherUsed_13 : decode cX4_gatherUsed 13 = .ok (.aload_n 0, 1) := by decide +kernel
theorem dX4_gatherUsed_14 : decode cX4_gatherUsed 14 = .ok (.getfield 44, 3) := by decide +kernel
theorem dX4_gatherUsed_17 : decode cX4_gatherUsed 17 = .ok (.iconst 0, 1) := by decide +kernel
theorem dX4_gatherUsed_18 : decode cX4_gatherUsed 18 = .ok (.invokevirtual 76, 3) := by decide +kernel
theorem dX4_gatherUsed_21 : decode cX4_gatherUsed 21 = .ok (.aload_n 0, 1) := by decide +kernel
theorem dX4_gatherUsed_22 : decode cX4_gatherUsed 22 = .ok (.aload_n 0, 1) := by decide +kernel
theorem dX4_gatherUsed_23 : decode cX4_gatherUsed 23 = .ok (.getfield 63, 3) := by decide +kernel
theorem dX4_gatherUsed_26 : decode cX4_gatherUsed 26 = .ok (.invokevirtual 126, 3) := by decide +kernel
theorem dX4_gatherUsed_29 : decode cX4_gatherUsed 29 = .ok (.aload_n 0, 1) := by decide +kernel
theorem dX4_gatherUsed_30 : decode cX4_gatherUsed 30 = .ok (.getfield 57, 3) := by decide +kernel
theorem dX4_gatherUsed_33 : decode cX4_gatherUsed 33 = .ok (.istore_n 1, 1) := by decide +kernel
theorem dX4_gatherUsed_34 : decode cX4_gatherUsed 34 = .ok (.aload_n 0, 1) := by decide +kernel
theorem dX4_gatherUsed_35 : decode cX4_gatherUsed 35 = .ok (.getfield 57, 3) := by decide +kernel
theorem dX4_gatherUsed_38 : decode cX4_gatherUsed 38 = .ok (.iconst 1, 1) := by decide +kernel
theorem dX4_gatherUsed_39 : decode cX4_gatherUsed 39 = .ok (.isub, 1) := by decide +kernel
theorem dX4_gatherUsed_40 : decode cX4_gatherUsed 40 = .ok (.istore_n 2, 1) := by decide +kernel
theorem dX4_gatherUsed_41 : decode cX4_gatherUsed 41 = .ok (.iload_n 2, 1) := by decide +kernel
theorem dX4_gatherUsed_42 : decode cX4_gatherUsed 42 = .ok (.ifCond .lt 60, 3) := by decide +kernel
theorem dX4_gatherUsed_45 : decode cX4_gatherUsed 45 = .ok (.aload_n 0, 1) := by decide +kernel
theorem dX4_gatherUsed_46 : decode cX4_gatherUsed 46 = .ok (.getfield 41, 3) := by decide +kernel
theorem dX4_gatherUsed_49 : decode cX4_gatherUsed 49 = .ok (.iload_n 2, 1) := by decide +kernel
theorem dX4_gatherUsed_50 : decode cX4_gatherUsed 50 = .ok (.invokevirtual 96, 3) := by decide +kernel
theorem dX4_gatherUsed_53 : decode cX4_gatherUsed 53 = .ok (.istore_n 3, 1) := by decide +kernel
theorem dX4_gatherUsed_54 : decode cX4_gatherUsed 54 = .ok (.iload_n 3, 1) := by decide +kernel
theorem dX4_gatherUsed_55 : decode cX4_gatherUsed 55 = .ok (.ifCond .eq 41, 3) := by decide +kernel
theorem dX4_gatherUsed_58 : decode cX4_gatherUsed 58 = .ok (.aload_n 0, 1) := by decide +kernel
theorem dX4_gatherUsed_59 : decode cX4_gatherUsed 59 = .ok (.getfield 44, 3) := by decide +kernel
theorem dX4_gatherUsed_62 : decode cX4_gatherUsed 62 = .ok (.aload_n 0, 1) := by decide +kernel
theorem dX4_gatherUsed_63 : decode cX4_gatherUsed 63 = .ok (.getfield 38, 3) := by decide +kernel
theorem dX4_gatherUsed_66 : decode cX4_gatherUsed 66 = .ok (.iload_n 2, 1) := by decide +kernel
theorem dX4_gatherUsed_67 : decode cX4_gatherUsed 67 = .ok (.invokevirtual 96, 3) := by decide +kernel
theorem dX4_gatherUsed_70 : decode cX4_gatherUsed 70 = .ok (.invokestatic 129, 3) := by decide +kernel
theorem dX4_gatherUsed_73 : decode cX4_gatherUsed 73 = .ok (.invokevirtual 96, 3) := by decide +kernel
theorem dX4_gatherUsed_76 : decode cX4_gatherUsed 76 = .ok (.ifCond .eq 20, 3) := by decide +kernel
theorem dX4_gatherUsed_79 : decode cX4_gatherUsed 79 = .ok (.aload_n 0, 1) := by decide +kernel
theorem dX4_gatherUsed_80 : decode cX4_gatherUsed 80 = .ok (.iload_n 3, 1) := by decide +kernel
theorem dX4_gatherUsed_81 : decode cX4_gatherUsed 81 = .ok (.invokevirtual 126, 3) := by decide +kernel
theorem dX4_gatherUsed_84 : decode cX4_gatherUsed 84 = .ok (.iinc 1 (-1), 3) := by decide +kernel
theorem dX4_gatherUsed_87 : decode cX4_gatherUsed 87 = .ok (.aload_n 0, 1) := by decide +kernel
theorem dX4_gatherUsed_88 : decode cX4_gatherUsed 88 = .ok (.getfield 47, 3) := by decide +kernel
theorem dX4_gatherUsed_91 : decode cX4_gatherUsed 91 = .ok (.iload_n 1, 1) := by decide +kernel
theorem dX4_gatherUsed_92 : decode cX4_gatherUsed 92 = .ok (.iload_n 3, 1) := by decide +kernel
theorem dX4_gatherUsed_93 : decode cX4_gatherUsed 93 = .ok (.invokevirtual 88, 3) := by decide +kernel
theorem dX4_gatherUsed_96 : decode cX4_gatherUsed 96 = .ok (.iinc 2 (-1), 3) := by decide +kernel
theorem dX4_gatherUsed_99 : decode cX4_gatherUsed 99 = .ok (.goto (-58), 3) := by decide +kernel
theorem dX4_gatherUsed_102 : decode cX4_gatherUsed 102 = .ok (.iload_n 1, 1) := by decide +kernel
theorem dX4_gatherUsed_103 : decode cX4_gatherUsed 103 = .ok (.istore_n 2, 1) := by decide +kernel
theorem dX4_gatherUsed_104 : decode cX4_gatherUsed 104 = .ok (.iload_n 2, 1) := by decide +kernel
theorem dX4_gatherUsed_105 : decode cX4_gatherUsed 105 = .ok (.aload_n 0, 1) := by decide +kernel
theorem dX4_gatherUsed_106 : decode cX4_gatherUsed 106 = .ok (.getfield 57, 3) := by decide +kernel
theorem dX4_gatherUsed_109 : decode cX4_gatherUsed 109 = .ok (.if_icmp .ge 27, 3) := by decide +kernel
theorem dX4_gatherUsed_112 : decode cX4_gatherUsed 112 = .ok (.aload_n 0, 1) := by decide +kernel
theorem dX4_gatherUsed_113 : decode cX4_gatherUsed 113 = .ok (.getfield 47, 3) := by decide +kernel
theorem dX4_gatherUsed_116 : decode cX4_gatherUsed 116 = .ok (.iload_n 2, 1) := by decide +kernel
theorem dX4_gatherUsed_117 : decode cX4_gatherUsed 117 = .ok (.iload_n 1, 1) := by decide +kernel
theorem dX4_gatherUsed_118 : decode cX4_gatherUsed 118 = .ok (.isub, 1) := by decide +kernel
theorem dX4_gatherUsed_119 : decode cX4_gatherUsed 119 = .ok (.aload_n 0, 1) := by decide +kernel
theorem dX4_gatherUsed_120 : decode cX4_gatherUsed 120 = .ok (.getfield 47, 3) := by decide +kernel
theorem dX4_gatherUsed_123 : decode cX4_gatherUsed 123 = .ok (.iload_n 2, 1) := by decide +kernel
theorem dX4_gatherUsed_124 : decode cX4_gatherUsed 124 = .ok (.invokevirtual 96, 3) := by decide +kernel
theorem dX4_gatherUsed_127 : decode cX4_gatherUsed 127 = .ok (.invokevirtual 88, 3) := by decide +kernel
theorem dX4_gatherUsed_130 : decode cX4_gatherUsed 130 = .ok (.iinc 2 1, 3) := by decide +kernel
theorem dX4_gatherUsed_133 : decode cX4_gatherUsed 133 = .ok (.goto (-29), 3) := by decide +kernel
theorem dX4_gatherUsed_136 : decode cX4_gatherUsed 136 = .ok (.aload_n 0, 1) := by decide +kernel
theorem dX4_gatherUsed_137 : decode cX4_gatherUsed 137 = .ok (.aload_n 0, 1) := by decide +kernel
theorem dX4_gatherUsed_138 : decode cX4_gatherUsed 138 = .ok (.getfield 57, 3) := by decide +kernel
theorem dX4_gatherUsed_141 : decode cX4_gatherUsed 141 = .ok (.iload_n 1, 1) := by decide +kernel
theorem dX4_gatherUsed_142 : decode cX4_gatherUsed 142 = .ok (.isub, 1) := by decide +kernel
theorem dX4_gatherUsed_143 : decode cX4_gatherUsed 143 = .ok (.putfield 60, 3) := by decide +kernel
theorem dX4_gatherUsed_146 : decode cX4_gatherUsed 146 = .ok (.aload_n 0, 1) := by decide +kernel
theorem dX4_gatherUsed_147 : decode cX4_gatherUsed 147 = .ok (.getfield 47, 3) := by decide +kernel
theorem dX4_gatherUsed_150 : decode cX4_gatherUsed 150 = .ok (.aload_n 0, 1) := by decide +kernel
theorem dX4_gatherUsed_151 : decode cX4_gatherUsed 151 = .ok (.getfield 60, 3) := by decide +kernel
theorem dX4_gatherUsed_154 : decode cX4_gatherUsed 154 = .ok (.aload_n 0, 1) := by decide +kernel
theorem dX4_gatherUsed_155 : decode cX4_gatherUsed 155 = .ok (.getfield 63, 3) := by decide +kernel
theorem dX4_gatherUsed_158 : decode cX4_gatherUsed 158 = .ok (.invokevirtual 88, 3) := by decide +kernel
theorem dX4_gatherUsed_161 : decode cX4_gatherUsed 161 = .ok (.aload_n 0, 1) := by decide +kernel
theorem dX4_gatherUsed_162 : decode cX4_gatherUsed 162 = .ok (.dup, 1) := by decide +kernel
theorem dX4_gatherUsed_163 : decode cX4_gatherUsed 163 = .ok (.getfield 60, 3) := by decide +kernel
theorem dX4_gatherUsed_166 : decode cX4_gatherUsed 166 = .ok (.iconst 1, 1) := by decide +kernel
theorem dX4_gatherUsed_167 : decode cX4_gatherUsed 167 = .ok (.iadd, 1) := by decide +kernel
theorem dX4_gatherUsed_168 : decode cX4_gatherUsed 168 = .ok (.putfield 60, 3) := by decide +kernel
theorem dX4_gatherUsed_171 : decode cX4_gatherUsed 171 = .ok (.return_, 1) := by decide +kernel
theorem dX4_usedCount_0 : decode cX4_usedCount 0 = .ok (.aload_n 0, 1) := by decide +kernel
theorem dX4_usedCount_1 : decode cX4_usedCount 1 = .ok (.getfield 60, 3) := by decide +kernel
theorem dX4_usedCount_4 : decode cX4_usedCount 4 = .ok (.ireturn, 1) := by decide +kernel
theorem dX4_usedAt_0 : decode cX4_usedAt 0 = .ok (.aload_n 0, 1) := by decide +kernel
theorem dX4_usedAt_1 : decode cX4_usedAt 1 = .ok (.getfield 47, 3) := by decide +kernel
theorem dX4_usedAt_4 : decode cX4_usedAt 4 = .ok (.iload_n 1, 1) := by decide +kernel
theorem dX4_usedAt_5 : decode cX4_usedAt 5 = .ok (.invokevirtual 96, 3) := by decide +kernel
theorem dX4_usedAt_8 : decode cX4_usedAt 8 = .ok (.ireturn, 1) := by decide +kernel
theorem dX4_wantOpposites_0 : decode cX4_wantOpposites 0 = .ok (.aload_n 0, 1) := by decide +kernel
theorem dX4_wantOpposites_1 : decode cX4_wantOpposites 1 = .ok (.getfield 69, 3) := by decide +kernel
theorem dX4_wantOpposites_4 : decode cX4_wantOpposites 4 = .ok (.iload_n 1, 1) := by decide +kernel
theorem dX4_wantOpposites_5 : decode cX4_wantOpposites 5 = .ok (.invokevirtual 92, 3) := by decide +kernel
theorem dX4_wantOpposites_8 : decode cX4_wantOpposites 8 = .ok (.istore_n 2, 1) := by decide +kernel
theorem dX4_wantOpposites_9 : decode cX4_wantOpposites 9 = .ok (.iconst 0, 1) := by decide +kernel
theorem dX4_wantOpposites_10 : decode cX4_wantOpposites 10 = .ok (.istore_n 3, 1) := by decide +kernel
theorem dX4_wantOpposites_11 : decode cX4_wantOpposites 11 = .ok (.iload_n 3, 1) := by decide +kernel
theorem dX4_wantOpposites_12 : decode cX4_wantOpposites 12 = .ok (.iload_n 2, 1) := by decide +kernel
theorem dX4_wantOpposites_13 : decode cX4_wantOpposites 13 = .ok (.if_icmp .ge 30, 3) := by decide +kernel
theorem dX4_wantOpposites_16 : decode cX4_wantOpposites 16 = .ok (.aload_n 0, 1) := by decide +kernel
theorem dX4_wantOpposites_17 : decode cX4_wantOpposites 17 = .ok (.getfield 44, 3) := by decide +kernel
theorem dX4_wantOpposites_20 : decode cX4_wantOpposites 20 = .ok (.aload_n 0, 1) := by decide +kernel
theorem dX4_wantOpposites_21 : decode cX4_wantOpposites 21 = .ok (.getfield 69, 3) := by decide +kernel
theorem dX4_wantOpposites_24 : decode cX4_wantOpposites 24 = .ok (.iload_n 1, 1) := by decide +kernel
theorem dX4_wantOpposites_25 : decode cX4_wantOpposites 25 = .ok (.iload_n 3, 1) := by decide +kernel
theorem dX4_wantOpposites_26 : decode cX4_wantOpposites 26 = .ok (.invokevirtual 105, 3) := by decide +kernel
theorem dX4_wantOpposites_29 : decode cX4_wantOpposites 29 = .ok (.ineg, 1) := by decide +kernel
theorem dX4_wantOpposites_30 : decode cX4_wantOpposites 30 = .ok (.invokestatic 129, 3) := by decide +kernel
theorem dX4_wantOpposites_33 : decode cX4_wantOpposites 33 = .ok (.iconst 1, 1) := by decide +kernel
theorem dX4_wantOpposites_34 : decode cX4_wantOpposites 34 = .ok (.invokevirtual 88, 3) := by decide +kernel
theorem dX4_wantOpposites_37 : decode cX4_wantOpposites 37 = .ok (.iinc 3 1, 3) := by decide +kernel
theorem dX4_wantOpposites_40 : decode cX4_wantOpposites 40 = .ok (.goto (-29), 3) := by decide +kernel
theorem dX4_wantOpposites_43 : decode cX4_wantOpposites 43 = .ok (.return_, 1) := by decide +kernel
theorem dX4_truthOf_0 : decode cX4_truthOf 0 = .ok (.aload_n 0, 1) := by decide +kernel
theorem dX4_truthOf_1 : decode cX4_truthOf 1 = .ok (.getfield 32, 3) := by decide +kernel
theorem dX4_truthOf_4 : decode cX4_truthOf 4 = .ok (.iload_n 1, 1) := by decide +kernel
theorem dX4_truthOf_5 : decode cX4_truthOf 5 = .ok (.invokestatic 132, 3) := by decide +kernel
theorem dX4_truthOf_8 : decode cX4_truthOf 8 = .ok (.invokevirtual 96, 3) := by decide +kernel
theorem dX4_truthOf_11 : decode cX4_truthOf 11 = .ok (.istore_n 2, 1) := by decide +kernel
theorem dX4_truthOf_12 : decode cX4_truthOf 12 = .ok (.iload_n 1, 1) := by decide +kernel
theorem dX4_truthOf_13 : decode cX4_truthOf 13 = .ok (.ifCond .le 7, 3) := by decide +kernel
theorem dX4_truthOf_16 : decode cX4_truthOf 16 = .ok (.iload_n 2, 1) := by decide +kernel
theorem dX4_truthOf_17 : decode cX4_truthOf 17 = .ok (.goto 5, 3) := by decide +kernel
theorem dX4_truthOf_20 : decode cX4_truthOf 20 = .ok (.iload_n 2, 1) := by decide +kernel
theorem dX4_truthOf_21 : decode cX4_truthOf 21 = .ok (.ineg, 1) := by decide +kernel
theorem dX4_truthOf_22 : decode cX4_truthOf 22 = .ok (.ireturn, 1) := by decide +kernel
theorem dX4_isSatisfied_0 : decode cX4_isSatisfied 0 = .ok (.aload_n 0, 1) := by decide +kernel
theorem dX4_isSatisfied_1 : decode cX4_isSatisfied 1 = .ok (.getfield 69, 3) := by decide +kernel
theorem dX4_isSatisfied_4 : decode cX4_isSatisfied 4 = .ok (.iload_n 1, 1) := by decide +kernel
theorem dX4_isSatisfied_5 : decode cX4_isSatisfied 5 = .ok (.invokevirtual 92, 3) := by decide +kernel
theorem dX4_isSatisfied_8 : decode cX4_isSatisfied 8 = .ok (.istore_n 2, 1) := by decide +kernel
theorem dX4_isSatisfied_9 : decode cX4_isSatisfied 9 = .ok (.iconst 0, 1) := by decide +kernel
theorem dX4_isSatisfied_10 : decode cX4_isSatisfied 10 = .ok (.istore_n 3, 1) := by decide +kernel
theorem dX4_isSatisfied_11 : decode cX4_isSatisfied 11 = .ok (.iload_n 3, 1) := by decide +kernel
theorem dX4_isSatisfied_12 : decode cX4_isSatisfied 12 = .ok (.iload_n 2, 1) := by decide +kernel
theorem dX4_isSatisfied_13 : decode cX4_isSatisfied 13 = .ok (.if_icmp .ge 27, 3) := by decide +kernel
theorem dX4_isSatisfied_16 : decode cX4_isSatisfied 16 = .ok (.aload_n 0, 1) := by decide +kernel
theorem dX4_isSatisfied_17 : decode cX4_isSatisfied 17 = .ok (.aload_n 0, 1) := by decide +kernel
theorem dX4_isSatisfied_18 : decode cX4_isSatisfied 18 = .ok (.getfield 69, 3) := by decide +kernel
theorem dX4_isSatisfied_21 : decode cX4_isSatisfied 21 = .ok (.iload_n 1, 1) := by decide +kernel
theorem dX4_isSatisfied_22 : decode cX4_isSatisfied 22 = .ok (.iload_n 3, 1) := by decide +kernel
theorem dX4_isSatisfied_23 : decode cX4_isSatisfied 23 = .ok (.invokevirtual 105, 3) := by decide +kernel
theorem dX4_isSatisfied_26 : decode cX4_isSatisfied 26 = .ok (.invokevirtual 109, 3) := by decide +kernel
theorem dX4_isSatisfied_29 : decode cX4_isSatisfied 29 = .ok (.ifCond .le 5, 3) := by decide +kernel
theorem dX4_isSatisfied_32 : decode cX4_isSatisfied 32 = .ok (.iconst 1, 1) := by decide +kernel
theorem dX4_isSatisfied_33 : decode cX4_isSatisfied 33 = .ok (.ireturn, 1) := by decide +kernel
theorem dX4_isSatisfied_34 : decode cX4_isSatisfied 34 = .ok (.iinc 3 1, 3) := by decide +kernel
theorem dX4_isSatisfied_37 : decode cX4_isSatisfied 37 = .ok (.goto (-26), 3) := by decide +kernel
theorem dX4_isSatisfied_40 : decode cX4_isSatisfied 40 = .ok (.iconst 0, 1) := by decide +kernel
theorem dX4_isSatisfied_41 : decode cX4_isSatisfied 41 = .ok (.ireturn, 1) := by decide +kernel
theorem dX4_openLiteral_0 : decode cX4_openLiteral 0 = .ok (.aload_n 0, 1) := by decide +kernel
theorem dX4_openLiteral_1 : decode cX4_openLiteral 1 = .ok (.getfield 69, 3) := by decide +kernel
theorem dX4_openLiteral_4 : decode cX4_openLiteral 4 = .ok (.iload_n 1, 1) := by decide +kernel
theorem dX4_openLiteral_5 : decode cX4_openLiteral 5 = .ok (.invokevirtual 92, 3) := by decide +kernel
theorem dX4_openLiteral_8 : decode cX4_openLiteral 8 = .ok (.istore_n 2, 1) := by decide +kernel
theorem dX4_openLiteral_9 : decode cX4_openLiteral 9 = .ok (.iconst 0, 1) := by decide +kernel
theorem dX4_openLiteral_10 : decode cX4_openLiteral 10 = .ok (.istore_n 3, 1) := by decide +kernel
theorem dX4_openLiteral_11 : decode cX4_openLiteral 11 = .ok (.iload_n 3, 1) := by decide +kernel
theorem dX4_openLiteral_12 : decode cX4_openLiteral 12 = .ok (.iload_n 2, 1) := by decide +kernel
theorem dX4_openLiteral_13 : decode cX4_openLiteral 13 = .ok (.if_icmp .ge 32, 3) := by decide +kernel
theorem dX4_openLiteral_16 : decode cX4_openLiteral 16 = .ok (.aload_n 0, 1) := by decide +kernel
theorem dX4_openLiteral_17 : decode cX4_openLiteral 17 = .ok (.getfield 69, 3) := by decide +kernel
theorem dX4_openLiteral_20 : decode cX4_openLiteral 20 = .ok (.iload_n 1, 1) := by decide +kernel
theorem dX4_openLiteral_21 : decode cX4_openLiteral 21 = .ok (.iload_n 3, 1) := by decide +kernel
theorem dX4_openLiteral_22 : decode cX4_openLiteral 22 = .ok (.invokevirtual 105, 3) := by decide +kernel
theorem dX4_openLiteral_25 : decode cX4_openLiteral 25 = .ok (.istore 4, 2) := by decide +kernel
theorem dX4_openLiteral_27 : decode cX4_openLiteral 27 = .ok (.aload_n 0, 1) := by decide +kernel
theorem dX4_openLiteral_28 : decode cX4_openLiteral 28 = .ok (.iload 4, 2) := by decide +kernel
theorem dX4_openLiteral_30 : decode cX4_openLiteral 30 = .ok (.invokevirtual 109, 3) := by decide +kernel
theorem dX4_openLiteral_33 : decode cX4_openLiteral 33 = .ok (.ifCond .ne 6, 3) := by decide +kernel
theorem dX4_openLiteral_36 : decode cX4_openLiteral 36 = .ok (.iload 4, 2) := by decide +kernel
theorem dX4_openLiteral_38 : decode cX4_openLiteral 38 = .ok (.ireturn, 1) := by decide +kernel
theorem dX4_openLiteral_39 : decode cX4_openLiteral 39 = .ok (.iinc 3 1, 3) := by decide +kernel
theorem dX4_openLiteral_42 : decode cX4_openLiteral 42 = .ok (.goto (-31), 3) := by decide +kernel
theorem dX4_openLiteral_45 : decode cX4_openLiteral 45 = .ok (.iconst 0, 1) := by decide +kernel
theorem dX4_openLiteral_46 : decode cX4_openLiteral 46 = .ok (.ireturn, 1) := by decide +kernel
theorem dX4_makeTrue_0 : decode cX4_makeTrue 0 = .ok (.aload_n 0, 1) := by decide +kernel
theorem dX4_makeTrue_1 : decode cX4_makeTrue 1 = .ok (.getfield 66, 3) := by decide +kernel
theorem dX4_makeTrue_4 : decode cX4_makeTrue 4 = .ok (.ifCond .gt 5, 3) := by decide +kernel
theorem dX4_makeTrue_7 : decode cX4_makeTrue 7 = .ok (.iconst 0, 1) := by decide +kernel
theorem dX4_makeTrue_8 : decode cX4_makeTrue 8 = .ok (.ireturn, 1) := by decide +kernel
theorem dX4_makeTrue_9 : decode cX4_makeTrue 9 = .ok (.aload_n 0, 1) := by decide +kernel
theorem dX4_makeTrue_10 : decode cX4_makeTrue 10 = .ok (.dup, 1) := by decide +kernel
theorem dX4_makeTrue_11 : decode cX4_makeTrue 11 = .ok (.getfield 66, 3) := by decide +kernel
theorem dX4_makeTrue_14 : decode cX4_makeTrue 14 = .ok (.iconst 1, 1) := by decide +kernel
theorem dX4_makeTrue_15 : decode cX4_makeTrue 15 = .ok (.isub, 1) := by decide +kernel
theorem dX4_makeTrue_16 : decode cX4_makeTrue 16 = .ok (.putfield 66, 3) := by decide +kernel
theorem dX4_makeTrue_19 : decode cX4_makeTrue 19 = .ok (.aload_n 0, 1) := by decide +kernel
theorem dX4_makeTrue_20 : decode cX4_makeTrue 20 = .ok (.getfield 32, 3) := by decide +kernel
theorem dX4_makeTrue_23 : decode cX4_makeTrue 23 = .ok (.iload_n 1, 1) := by decide +kernel
theorem dX4_makeTrue_24 : decode cX4_makeTrue 24 = .ok (.invokestatic 132, 3) := by decide +kernel
theorem dX4_makeTrue_27 : decode cX4_makeTrue 27 = .ok (.iload_n 1, 1) := by decide +kernel
theorem dX4_makeTrue_28 : decode cX4_makeTrue 28 = .ok (.ifCond .le 7, 3) := by decide +kernel
theorem dX4_makeTrue_31 : decode cX4_makeTrue 31 = .ok (.iconst 1, 1) := by decide +kernel
theorem dX4_makeTrue_32 : decode cX4_makeTrue 32 = .ok (.goto 4, 3) := by decide +kernel
theorem dX4_makeTrue_35 : decode cX4_makeTrue 35 = .ok (.iconst (-1), 1) := by decide +kernel
theorem dX4_makeTrue_36 : decode cX4_makeTrue 36 = .ok (.invokevirtual 88, 3) := by decide +kernel
theorem dX4_makeTrue_39 : decode cX4_makeTrue 39 = .ok (.aload_n 0, 1) := by decide +kernel
theorem dX4_makeTrue_40 : decode cX4_makeTrue 40 = .ok (.getfield 38, 3) := by decide +kernel
theorem dX4_makeTrue_43 : decode cX4_makeTrue 43 = .ok (.aload_n 0, 1) := by decide +kernel
theorem dX4_makeTrue_44 : decode cX4_makeTrue 44 = .ok (.getfield 57, 3) := by decide +kernel
theorem dX4_makeTrue_47 : decode cX4_makeTrue 47 = .ok (.iload_n 1, 1) := by decide +kernel
theorem dX4_makeTrue_48 : decode cX4_makeTrue 48 = .ok (.invokevirtual 88, 3) := by decide +kernel
theorem dX4_makeTrue_51 : decode cX4_makeTrue 51 = .ok (.aload_n 0, 1) := by decide +kernel
theorem dX4_makeTrue_52 : decode cX4_makeTrue 52 = .ok (.getfield 41, 3) := by decide +kernel
theorem dX4_makeTrue_55 : decode cX4_makeTrue 55 = .ok (.aload_n 0, 1) := by decide +kernel
theorem dX4_makeTrue_56 : decode cX4_makeTrue 56 = .ok (.getfield 57, 3) := by decide +kernel
theorem dX4_makeTrue_59 : decode cX4_makeTrue 59 = .ok (.iload_n 2, 1) := by decide +kernel
theorem dX4_makeTrue_60 : decode cX4_makeTrue 60 = .ok (.invokevirtual 88, 3) := by decide +kernel
theorem dX4_makeTrue_63 : decode cX4_makeTrue 63 = .ok (.aload_n 0, 1) := by decide +kernel
theorem dX4_makeTrue_64 : decode cX4_makeTrue 64 = .ok (.dup, 1) := by decide +kernel
theorem dX4_makeTrue_65 : decode cX4_makeTrue 65 = .ok (.getfield 57, 3) := by decide +kernel
theorem dX4_makeTrue_68 : decode cX4_makeTrue 68 = .ok (.iconst 1, 1) := by decide +kernel
theorem dX4_makeTrue_69 : decode cX4_makeTrue 69 = .ok (.iadd, 1) := by decide +kernel
theorem dX4_makeTrue_70 : decode cX4_makeTrue 70 = .ok (.putfield 57, 3) := by decide +kernel
theorem dX4_makeTrue_73 : decode cX4_makeTrue 73 = .ok (.aload_n 0, 1) := by decide +kernel
theorem dX4_makeTrue_74 : decode cX4_makeTrue 74 = .ok (.getfield 69, 3) := by decide +kernel
theorem dX4_makeTrue_77 : decode cX4_makeTrue 77 = .ok (.iload_n 1, 1) := by decide +kernel
theorem dX4_makeTrue_78 : decode cX4_makeTrue 78 = .ok (.ineg, 1) := by decide +kernel
theorem dX4_makeTrue_79 : decode cX4_makeTrue 79 = .ok (.invokevirtual 137, 3) := by decide +kernel
theorem dX4_makeTrue_82 : decode cX4_makeTrue 82 = .ok (.istore_n 3, 1) := by decide +kernel
theorem dX4_makeTrue_83 : decode cX4_makeTrue 83 = .ok (.aload_n 0, 1) := by decide +kernel
theorem dX4_makeTrue_84 : decode cX4_makeTrue 84 = .ok (.getfield 69, 3) := by decide +kernel
theorem dX4_makeTrue_87 : decode cX4_makeTrue 87 = .ok (.iload_n 1, 1) := by decide +kernel
theorem dX4_makeTrue_88 : decode cX4_makeTrue 88 = .ok (.ineg, 1) := by decide +kernel
theorem dX4_makeTrue_89 : decode cX4_makeTrue 89 = .ok (.invokevirtual 140, 3) := by decide +kernel
theorem dX4_makeTrue_92 : decode cX4_makeTrue 92 = .ok (.istore 4, 2) := by decide +kernel
theorem dX4_makeTrue_94 : decode cX4_makeTrue 94 = .ok (.iload 4, 2) := by decide +kernel
theorem dX4_makeTrue_96 : decode cX4_makeTrue 96 = .ok (.iload_n 3, 1) := by decide +kernel
theorem dX4_makeTrue_97 : decode cX4_makeTrue 97 = .ok (.if_icmp .ge 56, 3) := by decide +kernel
theorem dX4_makeTrue_100 : decode cX4_makeTrue 100 = .ok (.aload_n 0, 1) := by decide +kernel
theorem dX4_makeTrue_101 : decode cX4_makeTrue 101 = .ok (.getfield 69, 3) := by decide +kernel
theorem dX4_makeTrue_104 : decode cX4_makeTrue 104 = .ok (.iload 4, 2) := by decide +kernel
theorem dX4_makeTrue_106 : decode cX4_makeTrue 106 = .ok (.invokevirtual 143, 3) := by decide +kernel
theorem dX4_makeTrue_109 : decode cX4_makeTrue 109 = .ok (.istore 5, 2) := by decide +kernel
theorem dX4_makeTrue_111 : decode cX4_makeTrue 111 = .ok (.aload_n 0, 1) := by decide +kernel
theorem dX4_makeTrue_112 : decode cX4_makeTrue 112 = .ok (.getfield 23, 3) := by decide +kernel
theorem dX4_makeTrue_115 : decode cX4_makeTrue 115 = .ok (.iload 5, 2) := by decide +kernel
theorem dX4_makeTrue_117 : decode cX4_makeTrue 117 = .ok (.invokevirtual 96, 3) := by decide +kernel
theorem dX4_makeTrue_120 : decode cX4_makeTrue 120 = .ok (.iconst 1, 1) := by decide +kernel
theorem dX4_makeTrue_121 : decode cX4_makeTrue 121 = .ok (.isub, 1) := by decide +kernel
theorem dX4_makeTrue_122 : decode cX4_makeTrue 122 = .ok (.istore 6, 2) := by decide +kernel
theorem dX4_makeTrue_124 : decode cX4_makeTrue 124 = .ok (.aload_n 0, 1) := by decide +kernel
theorem dX4_makeTrue_125 : decode cX4_makeTrue 125 = .ok (.getfield 23, 3) := by decide +kernel
theorem dX4_makeTrue_128 : decode cX4_makeTrue 128 = .ok (.iload 5, 2) := by decide +kernel
theorem dX4_makeTrue_130 : decode cX4_makeTrue 130 = .ok (.iload 6, 2) := by decide +kernel
theorem dX4_makeTrue_132 : decode cX4_makeTrue 132 = .ok (.invokevirtual 88, 3) := by decide +kernel
theorem dX4_makeTrue_135 : decode cX4_makeTrue 135 = .ok (.iload 6, 2) := by decide +kernel
theorem dX4_makeTrue_137 : decode cX4_makeTrue 137 = .ok (.iconst 1, 1) := by decide +kernel
theorem dX4_makeTrue_138 : decode cX4_makeTrue 138 = .ok (.if_icmp .ne 9, 3) := by decide +kernel
theorem dX4_makeTrue_141 : decode cX4_makeTrue 141 = .ok (.aload_n 0, 1) := by decide +kernel
theorem dX4_makeTrue_142 : decode cX4_makeTrue 142 = .ok (.iload 5, 2) := by decide +kernel
theorem dX4_makeTrue_144 : decode cX4_makeTrue 144 = .ok (.invokevirtual 102, 3) := by decide +kernel
theorem dX4_makeTrue_147 : decode cX4_makeTrue 147 = .ok (.iinc 4 1, 3) := by decide +kernel
theorem dX4_makeTrue_150 : decode cX4_makeTrue 150 = .ok (.goto (-56), 3) := by decide +kernel
theorem dX4_makeTrue_153 : decode cX4_makeTrue 153 = .ok (.iconst 1, 1) := by decide +kernel
theorem dX4_makeTrue_154 : decode cX4_makeTrue 154 = .ok (.ireturn, 1) := by decide +kernel
theorem dX4_takeBack_0 : decode cX4_takeBack 0 = .ok (.aload_n 0, 1) := by decide +kernel
theorem dX4_takeBack_1 : decode cX4_takeBack 1 = .ok (.getfield 32, 3) := by decide +kernel
theorem dX4_takeBack_4 : decode cX4_takeBack 4 = .ok (.iload_n 1, 1) := by decide +kernel
theorem dX4_takeBack_5 : decode cX4_takeBack 5 = .ok (.invokestatic 132, 3) := by decide +kernel
theorem dX4_takeBack_8 : decode cX4_takeBack 8 = .ok (.iconst 0, 1) := by decide +kernel
theorem dX4_takeBack_9 : decode cX4_takeBack 9 = .ok (.invokevirtual 88, 3) := by decide +kernel
theorem dX4_takeBack_12 : decode cX4_takeBack 12 = .ok (.aload_n 0, 1) := by decide +kernel
theorem dX4_takeBack_13 : decode cX4_takeBack 13 = .ok (.getfield 69, 3) := by decide +kernel
theorem dX4_takeBack_16 : decode cX4_takeBack 16 = .ok (.iload_n 1, 1) := by decide +kernel
theorem dX4_takeBack_17 : decode cX4_takeBack 17 = .ok (.ineg, 1) := by decide +kernel
theorem dX4_takeBack_18 : decode cX4_takeBack 18 = .ok (.invokevirtual 137, 3) := by decide +kernel
theorem dX4_takeBack_21 : decode cX4_takeBack 21 = .ok (.istore_n 2, 1) := by decide +kernel
theorem dX4_takeBack_22 : decode cX4_takeBack 22 = .ok (.aload_n 0, 1) := by decide +kernel
theorem dX4_takeBack_23 : decode cX4_takeBack 23 = .ok (.getfield 69, 3) := by decide +kernel
theorem dX4_takeBack_26 : decode cX4_takeBack 26 = .ok (.iload_n 1, 1) := by decide +kernel
theorem dX4_takeBack_27 : decode cX4_takeBack 27 = .ok (.ineg, 1) := by decide +kernel
theorem dX4_takeBack_28 : decode cX4_takeBack 28 = .ok (.invokevirtual 140, 3) := by decide +kernel
theorem dX4_takeBack_31 : decode cX4_takeBack 31 = .ok (.istore_n 3, 1) := by decide +kernel
theorem dX4_takeBack_32 : decode cX4_takeBack 32 = .ok (.iload_n 3, 1) := by decide +kernel
theorem dX4_takeBack_33 : decode cX4_takeBack 33 = .ok (.iload_n 2, 1) := by decide +kernel
theorem dX4_takeBack_34 : decode cX4_takeBack 34 = .ok (.if_icmp .ge 39, 3) := by decide +kernel
theorem dX4_takeBack_37 : decode cX4_takeBack 37 = .ok (.aload_n 0, 1) := by decide +kernel
theorem dX4_takeBack_38 : decode cX4_takeBack 38 = .ok (.getfield 69, 3) := by decide +kernel
theorem dX4_takeBack_41 : decode cX4_takeBack 41 = .ok (.iload_n 3, 1) := by decide +kernel
theorem dX4_takeBack_42 : decode cX4_takeBack 42 = .ok (.invokevirtual 143, 3) := by decide +kernel
theorem dX4_takeBack_45 : decode cX4_takeBack 45 = .ok (.istore 4, 2) := by decide +kernel
theorem dX4_takeBack_47 : decode cX4_takeBack 47 = .ok (.aload_n 0, 1) := by decide +kernel
theorem dX4_takeBack_48 : decode cX4_takeBack 48 = .ok (.getfield 23, 3) := by decide +kernel
theorem dX4_takeBack_51 : decode cX4_takeBack 51 = .ok (.iload 4, 2) := by decide +kernel
theorem dX4_takeBack_53 : decode cX4_takeBack 53 = .ok (.aload_n 0, 1) := by decide +kernel
theorem dX4_takeBack_54 : decode cX4_takeBack 54 = .ok (.getfield 23, 3) := by decide +kernel
theorem dX4_takeBack_57 : decode cX4_takeBack 57 = .ok (.iload 4, 2) := by decide +kernel
theorem dX4_takeBack_59 : decode cX4_takeBack 59 = .ok (.invokevirtual 96, 3) := by decide +kernel
theorem dX4_takeBack_62 : decode cX4_takeBack 62 = .ok (.iconst 1, 1) := by decide +kernel
theorem dX4_takeBack_63 : decode cX4_takeBack 63 = .ok (.iadd, 1) := by decide +kernel
theorem dX4_takeBack_64 : decode cX4_takeBack 64 = .ok (.invokevirtual 88, 3) := by decide +kernel
theorem dX4_takeBack_67 : decode cX4_takeBack 67 = .ok (.iinc 3 1, 3) := by decide +kernel
theorem dX4_takeBack_70 : decode cX4_takeBack 70 = .ok (.goto (-38), 3) := by decide +kernel
theorem dX4_takeBack_73 : decode cX4_takeBack 73 = .ok (.return_, 1) := by decide +kernel
theorem dX4_makeReady_0 : decode cX4_makeReady 0 = .ok (.aload_n 0, 1) := by decide +kernel
theorem dX4_makeReady_1 : decode cX4_makeReady 1 = .ok (.getfield 16, 3) := by decide +kernel
theorem dX4_makeReady_4 : decode cX4_makeReady 4 = .ok (.iload_n 1, 1) := by decide +kernel
theorem dX4_makeReady_5 : decode cX4_makeReady 5 = .ok (.invokevirtual 96, 3) := by decide +kernel
theorem dX4_makeReady_8 : decode cX4_makeReady 8 = .ok (.ifCond .eq 52, 3) := by decide +kernel
theorem dX4_makeReady_11 : decode cX4_makeReady 11 = .ok (.aload_n 0, 1) := by decide +kernel
theorem dX4_makeReady_12 : decode cX4_makeReady 12 = .ok (.getfield 20, 3) := by decide +kernel
theorem dX4_makeReady_15 : decode cX4_makeReady 15 = .ok (.iload_n 1, 1) := by decide +kernel
theorem dX4_makeReady_16 : decode cX4_makeReady 16 = .ok (.invokevirtual 96, 3) := by decide +kernel
theorem dX4_makeReady_19 : decode cX4_makeReady 19 = .ok (.ifCond .eq 7, 3) := by decide +kernel
theorem dX4_makeReady_22 : decode cX4_makeReady 22 = .ok (.iload_n 1, 1) := by decide +kernel
theorem dX4_makeReady_23 : decode cX4_makeReady 23 = .ok (.goto 8, 3) := by decide +kernel
theorem dX4_makeReady_26 : decode cX4_makeReady 26 = .ok (.sipush 608, 3) := by decide +kernel
theorem dX4_makeReady_29 : decode cX4_makeReady 29 = .ok (.iload_n 1, 1) := by decide +kernel
theorem dX4_makeReady_30 : decode cX4_makeReady 30 = .ok (.iadd, 1) := by decide +kernel
theorem dX4_makeReady_31 : decode cX4_makeReady 31 = .ok (.istore_n 2, 1) := by decide +kernel
theorem dX4_makeReady_32 : decode cX4_makeReady 32 = .ok (.iload_n 2, 1) := by decide +kernel
theorem dX4_makeReady_33 : decode cX4_makeReady 33 = .ok (.bipush 32, 2) := by decide +kernel
theorem dX4_makeReady_35 : decode cX4_makeReady 35 = .ok (.idiv, 1) := by decide +kernel
theorem dX4_makeReady_36 : decode cX4_makeReady 36 = .ok (.istore_n 3, 1) := by decide +kernel
theorem dX4_makeReady_37 : decode cX4_makeReady 37 = .ok (.aload_n 0, 1) := by decide +kernel
theorem dX4_makeReady_38 : decode cX4_makeReady 38 = .ok (.getfield 29, 3) := by decide +kernel
theorem dX4_makeReady_41 : decode cX4_makeReady 41 = .ok (.iload_n 3, 1) := by decide +kernel
theorem dX4_makeReady_42 : decode cX4_makeReady 42 = .ok (.aload_n 0, 1) := by decide +kernel
theorem dX4_makeReady_43 : decode cX4_makeReady 43 = .ok (.getfield 29, 3) := by decide +kernel
theorem dX4_makeReady_46 : decode cX4_makeReady 46 = .ok (.iload_n 3, 1) := by decide +kernel
theorem dX4_makeReady_47 : decode cX4_makeReady 47 = .ok (.invokevirtual 96, 3) := by decide +kernel
theorem dX4_makeReady_50 : decode cX4_makeReady 50 = .ok (.iconst 1, 1) := by decide +kernel
theorem dX4_makeReady_51 : decode cX4_makeReady 51 = .ok (.iload_n 2, 1) := by decide +kernel
theorem dX4_makeReady_52 : decode cX4_makeReady 52 = .ok (.bipush 32, 2) := by decide +kernel
theorem dX4_makeReady_54 : decode cX4_makeReady 54 = .ok (.irem, 1) := by decide +kernel
theorem dX4_makeReady_55 : decode cX4_makeReady 55 = .ok (.ishl, 1) := by decide +kernel
theorem dX4_makeReady_56 : decode cX4_makeReady 56 = .ok (.ior, 1) := by decide +kernel
theorem dX4_makeReady_57 : decode cX4_makeReady 57 = .ok (.invokevirtual 88, 3) := by decide +kernel
theorem dX4_makeReady_60 : decode cX4_makeReady 60 = .ok (.return_, 1) := by decide +kernel
theorem dX4_takeFirstReady_0 : decode cX4_takeFirstReady 0 = .ok (.iconst 0, 1) := by decide +kernel
theorem dX4_takeFirstReady_1 : decode cX4_takeFirstReady 1 = .ok (.istore_n 1, 1) := by decide +kernel
theorem dX4_takeFirstReady_2 : decode cX4_takeFirstReady 2 = .ok (.iload_n 1, 1) := by decide +kernel
theorem dX4_takeFirstReady_3 : decode cX4_takeFirstReady 3 = .ok (.bipush 38, 2) := by decide +kernel
theorem dX4_takeFirstReady_5 : decode cX4_takeFirstReady 5 = .ok (.if_icmp .ge 71, 3) := by decide +kernel
theorem dX4_takeFirstReady_8 : decode cX4_takeFirstReady 8 = .ok (.aload_n 0, 1) := by decide +kernel
theorem dX4_takeFirstReady_9 : decode cX4_takeFirstReady 9 = .ok (.getfield 29, 3) := by decide +kernel
theorem dX4_takeFirstReady_12 : decode cX4_takeFirstReady 12 = .ok (.iload_n 1, 1) := by decide +kernel
theorem dX4_takeFirstReady_13 : decode cX4_takeFirstReady 13 = .ok (.invokevirtual 96, 3) := by decide +kernel
theorem dX4_takeFirstReady_16 : decode cX4_takeFirstReady 16 = .ok (.istore_n 2, 1) := by decide +kernel
theorem dX4_takeFirstReady_17 : decode cX4_takeFirstReady 17 = .ok (.iload_n 2, 1) := by decide +kernel
theorem dX4_takeFirstReady_18 : decode cX4_takeFirstReady 18 = .ok (.ifCond .eq 52, 3) := by decide +kernel
theorem dX4_takeFirstReady_21 : decode cX4_takeFirstReady 21 = .ok (.iload_n 2, 1) := by decide +kernel
theorem dX4_takeFirstReady_22 : decode cX4_takeFirstReady 22 = .ok (.iload_n 2, 1) := by decide +kernel
theorem dX4_takeFirstReady_23 : decode cX4_takeFirstReady 23 = .ok (.ineg, 1) := by decide +kernel
theorem dX4_takeFirstReady_24 : decode cX4_takeFirstReady 24 = .ok (.iand, 1) := by decide +kernel
theorem dX4_takeFirstReady_25 : decode cX4_takeFirstReady 25 = .ok (.istore_n 3, 1) := by decide +kernel
theorem dX4_takeFirstReady_26 : decode cX4_takeFirstReady 26 = .ok (.aload_n 0, 1) := by decide +kernel
theorem dX4_takeFirstReady_27 : decode cX4_takeFirstReady 27 = .ok (.getfield 29, 3) := by decide +kernel
theorem dX4_takeFirstReady_30 : decode cX4_takeFirstReady 30 = .ok (.iload_n 1, 1) := by decide +kernel
theorem dX4_takeFirstReady_31 : decode cX4_takeFirstReady 31 = .ok (.iload_n 2, 1) := by decide +kernel
theorem dX4_takeFirstReady_32 : decode cX4_takeFirstReady 32 = .ok (.iload_n 3, 1) := by decide +kernel
theorem dX4_takeFirstReady_33 : decode cX4_takeFirstReady 33 = .ok (.ixor, 1) := by decide +kernel
theorem dX4_takeFirstReady_34 : decode cX4_takeFirstReady 34 = .ok (.invokevirtual 88, 3) := by decide +kernel
theorem dX4_takeFirstReady_37 : decode cX4_takeFirstReady 37 = .ok (.iload_n 1, 1) := by decide +kernel
theorem dX4_takeFirstReady_38 : decode cX4_takeFirstReady 38 = .ok (.bipush 32, 2) := by decide +kernel
theorem dX4_takeFirstReady_40 : decode cX4_takeFirstReady 40 = .ok (.imul, 1) := by decide +kernel
theorem dX4_takeFirstReady_41 : decode cX4_takeFirstReady 41 = .ok (.iload_n 3, 1) := by decide +kernel
theorem dX4_takeFirstReady_42 : decode cX4_takeFirstReady 42 = .ok (.iconst 1, 1) := by decide +kernel
theorem dX4_takeFirstReady_43 : decode cX4_takeFirstReady 43 = .ok (.isub, 1) := by decide +kernel
theorem dX4_takeFirstReady_44 : decode cX4_takeFirstReady 44 = .ok (.invokestatic 146, 3) := by decide +kernel
theorem dX4_takeFirstReady_47 : decode cX4_takeFirstReady 47 = .ok (.iadd, 1) := by decide +kernel
theorem dX4_takeFirstReady_48 : decode cX4_takeFirstReady 48 = .ok (.istore 4, 2) := by decide +kernel
theorem dX4_takeFirstReady_50 : decode cX4_takeFirstReady 50 = .ok (.iload 4, 2) := by decide +kernel
theorem dX4_takeFirstReady_52 : decode cX4_takeFirstReady 52 = .ok (.sipush 608, 3) := by decide +kernel
theorem dX4_takeFirstReady_55 : decode cX4_takeFirstReady 55 = .ok (.if_icmp .lt 12, 3) := by decide +kernel
theorem dX4_takeFirstReady_58 : decode cX4_takeFirstReady 58 = .ok (.iload 4, 2) := by decide +kernel
theorem dX4_takeFirstReady_60 : decode cX4_takeFirstReady 60 = .ok (.sipush 608, 3) := by decide +kernel
theorem dX4_takeFirstReady_63 : decode cX4_takeFirstReady 63 = .ok (.isub, 1) := by decide +kernel
theorem dX4_takeFirstReady_64 : decode cX4_takeFirstReady 64 = .ok (.goto 5, 3) := by decide +kernel
theorem dX4_takeFirstReady_67 : decode cX4_takeFirstReady 67 = .ok (.iload 4, 2) := by decide +kernel
theorem dX4_takeFirstReady_69 : decode cX4_takeFirstReady 69 = .ok (.ireturn, 1) := by decide +kernel
theorem dX4_takeFirstReady_70 : decode cX4_takeFirstReady 70 = .ok (.iinc 1 1, 3) := by decide +kernel
theorem dX4_takeFirstReady_73 : decode cX4_takeFirstReady 73 = .ok (.goto (-71), 3) := by decide +kernel
theorem dX4_takeFirstReady_76 : decode cX4_takeFirstReady 76 = .ok (.iconst 0, 1) := by decide +kernel
theorem dX4_takeFirstReady_77 : decode cX4_takeFirstReady 77 = .ok (.ireturn, 1) := by decide +kernel
theorem dX5_init_0 : decode cX5_init 0 = .ok (.aload_n 0, 1) := by decide +kernel
theorem dX5_init_1 : decode cX5_init 1 = .ok (.invokespecial 3, 3) := by decide +kernel
theorem dX5_init_4 : decode cX5_init 4 = .ok (.aload_n 0, 1) := by decide +kernel
theorem dX5_init_5 : decode cX5_init 5 = .ok (.iconst 0, 1) := by decide +kernel
theorem dX5_init_6 : decode cX5_init 6 = .ok (.putfield 9, 3) := by decide +kernel
theorem dX5_init_9 : decode cX5_init 9 = .ok (.aload_n 0, 1) := by decide +kernel
theorem dX5_init_10 : decode cX5_init 10 = .ok (.iconst 0, 1) := by decide +kernel
theorem dX5_init_11 : decode cX5_init 11 = .ok (.putfield 15, 3) := by decide +kernel
theorem dX5_init_14 : decode cX5_init 14 = .ok (.aload_n 0, 1) := by decide +kernel
theorem dX5_init_15 : decode cX5_init 15 = .ok (.iconst 0, 1) := by decide +kernel
theorem dX5_init_16 : decode cX5_init 16 = .ok (.putfield 18, 3) := by decide +kernel
theorem dX5_init_19 : decode cX5_init 19 = .ok (.aload_n 0, 1) := by decide +kernel
theorem dX5_init_20 : decode cX5_init 20 = .ok (.iconst 0, 1) := by decide +kernel
theorem dX5_init_21 : decode cX5_init 21 = .ok (.putfield 21, 3) := by decide +kernel
theorem dX5_init_24 : decode cX5_init 24 = .ok (.aload_n 0, 1) := by decide +kernel
theorem dX5_init_25 : decode cX5_init 25 = .ok (.iconst 0, 1) := by decide +kernel
theorem dX5_init_26 : decode cX5_init 26 = .ok (.putfield 24, 3) := by decide +kernel
theorem dX5_init_29 : decode cX5_init 29 = .ok (.aload_n 0, 1) := by decide +kernel
theorem dX5_init_30 : decode cX5_init 30 = .ok (.iconst (-1), 1) := by decide +kernel
theorem dX5_init_31 : decode cX5_init 31 = .ok (.putfield 27, 3) := by decide +kernel
theorem dX5_init_34 : decode cX5_init 34 = .ok (.aload_n 0, 1) := by decide +kernel
theorem dX5_init_35 : decode cX5_init 35 = .ok (.new 30, 3) := by decide +kernel
theorem dX5_init_38 : decode cX5_init 38 = .ok (.dup, 1) := by decide +kernel
theorem dX5_init_39 : decode cX5_init 39 = .ok (.aload_n 1, 1) := by decide +kernel
theorem dX5_init_40 : decode cX5_init 40 = .ok (.invokespecial 32, 3) := by decide +kernel
theorem dX5_init_43 : decode cX5_init 43 = .ok (.putfield 35, 3) := by decide +kernel
theorem dX5_init_46 : decode cX5_init 46 = .ok (.aload_n 0, 1) := by decide +kernel
theorem dX5_init_47 : decode cX5_init 47 = .ok (.aload_n 1, 1) := by decide +kernel
theorem dX5_init_48 : decode cX5_init 48 = .ok (.putfield 39, 3) := by decide +kernel
theorem dX5_init_51 : decode cX5_init 51 = .ok (.aload_n 0, 1) := by decide +kernel
theorem dX5_init_52 : decode cX5_init 52 = .ok (.aload_n 2, 1) := by decide +kernel
theorem dX5_init_53 : decode cX5_init 53 = .ok (.putfield 43, 3) := by decide +kernel
theorem dX5_init_56 : decode cX5_init 56 = .ok (.return_, 1) := by decide +kernel
theorem dX5_kind_0 : decode cX5_kind 0 = .ok (.aload_n 0, 1) := by decide +kernel
theorem dX5_kind_1 : decode cX5_kind 1 = .ok (.getfield 24, 3) := by decide +kernel
theorem dX5_kind_4 : decode cX5_kind 4 = .ok (.ireturn, 1) := by decide +kernel
theorem dX5_place_0 : decode cX5_place 0 = .ok (.aload_n 0, 1) := by decide +kernel
theorem dX5_place_1 : decode cX5_place 1 = .ok (.getfield 27, 3) := by decide +kernel
theorem dX5_place_4 : decode cX5_place 4 = .ok (.ireturn, 1) := by decide +kernel
theorem dX5_readFormula_0 : decode cX5_readFormula 0 = .ok (.aload_n 0, 1) := by decide +kernel
theorem dX5_readFormula_1 : decode cX5_readFormula 1 = .ok (.aload_n 1, 1) := by decide +kernel
theorem dX5_readFormula_2 : decode cX5_readFormula 2 = .ok (.iload_n 2, 1) := by decide +kernel
theorem dX5_readFormula_3 : decode cX5_readFormula 3 = .ok (.aload_n 3, 1) := by decide +kernel
theorem dX5_readFormula_4 : decode cX5_readFormula 4 = .ok (.invokevirtual 47, 3) := by decide +kernel
theorem dX5_readFormula_7 : decode cX5_readFormula 7 = .ok (.aload_n 0, 1) := by decide +kernel
theorem dX5_readFormula_8 : decode cX5_readFormula 8 = .ok (.ldc 51, 2) := by decide +kernel
theorem dX5_readFormula_10 : decode cX5_readFormula 10 = .ok (.invokevirtual 53, 3) := by decide +kernel
theorem dX5_readFormula_13 : decode cX5_readFormula 13 = .ok (.aload_n 0, 1) := by decide +kernel
theorem dX5_readFormula_14 : decode cX5_readFormula 14 = .ok (.ldc 57, 2) := by decide +kernel
theorem dX5_readFormula_16 : decode cX5_readFormula 16 = .ok (.invokevirtual 53, 3) := by decide +kernel
theorem dX5_readFormula_19 : decode cX5_readFormula 19 = .ok (.aload_n 0, 1) := by decide +kernel
theorem dX5_readFormula_20 : decode cX5_readFormula 20 = .ok (.sipush 150, 3) := by decide +kernel
theorem dX5_readFormula_23 : decode cX5_readFormula 23 = .ok (.invokevirtual 59, 3) := by decide +kernel
theorem dX5_readFormula_26 : decode cX5_readFormula 26 = .ok (.istore 4, 2) := by decide +kernel
theorem dX5_readFormula_28 : decode cX5_readFormula 28 = .ok (.aload_n 0, 1) := by decide +kernel
theorem dX5_readFormula_29 : decode cX5_readFormula 29 = .ok (.sipush 300, 3) := by decide +kernel
theorem dX5_readFormula_32 : decode cX5_readFormula 32 = .ok (.invokevirtual 59, 3) := by decide +kernel
theorem dX5_readFormula_35 : decode cX5_readFormula 35 = .ok (.istore 5, 2) := by decide +kernel
theorem dX5_readFormula_37 : decode cX5_readFormula 37 = .ok (.aload_n 0, 1) := by decide +kernel
theorem dX5_readFormula_38 : decode cX5_readFormula 38 = .ok (.getfield 43, 3) := by decide +kernel
theorem dX5_readFormula_41 : decode cX5_readFormula 41 = .ok (.iload 4, 2) := by decide +kernel
theorem dX5_readFormula_43 : decode cX5_readFormula 43 = .ok (.invokevirtual 63, 3) := by decide +kernel
theorem dX5_readFormula_46 : decode cX5_readFormula 46 = .ok (.iconst 1, 1) := by decide +kernel
theorem dX5_readFormula_47 : decode cX5_readFormula 47 = .ok (.istore 6, 2) := by decide +kernel
theorem dX5_readFormula_49 : decode cX5_readFormula 49 = .ok (.iload 6, 2) := by decide +kernel
theorem dX5_readFormula_51 : decode cX5_readFormula 51 = .ok (.iload 5, 2) := by decide +kernel
theorem dX5_readFormula_53 : decode cX5_readFormula 53 = .ok (.if_icmp .gt 30, 3) := by decide +kernel
theorem dX5_readFormula_56 : decode cX5_readFormula 56 = .ok (.aload_n 0, 1) := by decide +kernel
theorem dX5_readFormula_57 : decode cX5_readFormula 57 = .ok (.getfield 24, 3) := by decide +kernel
theorem dX5_readFormula_60 : decode cX5_readFormula 60 = .ok (.ifCond .ne 23, 3) := by decide +kernel
theorem dX5_readFormula_63 : decode cX5_readFormula 63 = .ok (.aload_n 0, 1) := by decide +kernel
theorem dX5_readFormula_64 : decode cX5_readFormula 64 = .ok (.iload 4, 2) := by decide +kernel
theorem dX5_readFormula_66 : decode cX5_readFormula 66 = .ok (.invokevirtual 69, 3) := by decide +kernel
theorem dX5_readFormula_69 : decode cX5_readFormula 69 = .ok (.aload_n 0, 1) := by decide +kernel
theorem dX5_readFormula_70 : decode cX5_readFormula 70 = .ok (.getfield 43, 3) := by decide +kernel
theorem dX5_readFormula_73 : decode cX5_readFormula 73 = .ok (.iconst 0, 1) := by decide +kernel
theorem dX5_readFormula_74 : decode cX5_readFormula 74 = .ok (.invokevirtual 72, 3) := by decide +kernel
theorem dX5_readFormula_77 : decode cX5_readFormula 77 = .ok (.iinc 6 1, 3) := by decide +kernel
theorem dX5_readFormula_80 : decode cX5_readFormula 80 = .ok (.goto (-31), 3) := by decide +kernel
theorem dX5_readFormula_83 : decode cX5_readFormula 83 = .ok (.aload_n 0, 1) := by decide +kernel
theorem dX5_readFormula_84 : decode cX5_readFormula 84 = .ok (.getfield 24, 3) := by decide +kernel
theorem dX5_readFormula_87 : decode cX5_readFormula 87 = .ok (.ifCond .ne 25, 3) := by decide +kernel
theorem dX5_readFormula_90 : decode cX5_readFormula 90 = .ok (.aload_n 0, 1) := by decide +kernel
theorem dX5_readFormula_91 : decode cX5_readFormula 91 = .ok (.getfield 35, 3) := by decide +kernel
theorem dX5_readFormula_94 : decode cX5_readFormula 94 = .ok (.invokevirtual 76, 3) := by decide +kernel
theorem dX5_readFormula_97 : decode cX5_readFormula 97 = .ok (.ifCond .eq 15, 3) := by decide +kernel
theorem dX5_readFormula_100 : decode cX5_readFormula 100 = .ok (.aload_n 0, 1) := by decide +kernel
theorem dX5_readFormula_101 : decode cX5_readFormula 101 = .ok (.iconst 1, 1) := by decide +kernel
theorem dX5_readFormula_102 : decode cX5_readFormula 102 = .ok (.aload_n 0, 1) := by decide +kernel
theorem dX5_readFormula_103 : decode cX5_readFormula 103 = .ok (.getfield 35, 3) := by decide +kernel
theorem dX5_readFormula_106 : decode cX5_readFormula 106 = .ok (.invokevirtual 80, 3) := by decide +kernel
theorem dX5_readFormula_109 : decode cX5_readFormula 109 = .ok (.invokevirtual 84, 3) := by decide +kernel
theorem dX5_readFormula_112 : decode cX5_readFormula 112 = .ok (.return_, 1) := by decide +kernel
theorem dX5_readTextProof_0 : decode cX5_readTextProof 0 = .ok (.aload_n 0, 1) := by decide +kernel
theorem dX5_readTextProof_1 : decode cX5_readTextProof 1 = .ok (.aload_n 1, 1) := by decide +kernel
theorem dX5_readTextProof_2 : decode cX5_readTextProof 2 = .ok (.iload_n 2, 1) := by decide +kernel
theorem dX5_readTextProof_3 : decode cX5_readTextProof 3 = .ok (.aload_n 3, 1) := by decide +kernel
theorem dX5_readTextProof_4 : decode cX5_readTextProof 4 = .ok (.invokevirtual 47, 3) := by decide +kernel
theorem dX5_readTextProof_7 : decode cX5_readTextProof 7 = .ok (.iconst 1, 1) := by decide +kernel
theorem dX5_readTextProof_8 : decode cX5_readTextProof 8 = .ok (.istore 4, 2) := by decide +kernel
theorem dX5_readTextProof_10 : decode cX5_readTextProof 10 = .ok (.iload 4, 2) := by decide +kernel
theorem dX5_readTextProof_12 : decode cX5_readTextProof 12 = .ok (.sipush 301, 3) := by decide +kernel
theorem dX5_readTextProof_15 : decode cX5_readTextProof 15 = .ok (.if_icmp .gt 82, 3) := by decide +kernel
theorem dX5_readTextProof_18 : decode cX5_readTextProof 18 = .ok (.aload_n 0, 1) := by decide +kernel
theorem dX5_readTextProof_19 : decode cX5_readTextProof 19 = .ok (.getfield 24, 3) := by decide +kernel
theorem dX5_readTextProof_22 : decode cX5_readTextProof 22 = .ok (.ifCond .ne 75, 3) := by decide +kernel
theorem dX5_readTextProof_25 : decode cX5_readTextProof 25 = .ok (.aload_n 0, 1) := by decide +kernel
theorem dX5_readTextProof_26 : decode cX5_readTextProof 26 = .ok (.getfield 35, 3) := by decide +kernel
theorem dX5_readTextProof_29 : decode cX5_readTextProof 29 = .ok (.invokevirtual 76, 3) := by decide +kernel
theorem dX5_readTextProof_32 : decode cX5_readTextProof 32 = .ok (.ifCond .eq 65, 3) := by decide +kernel
theorem dX5_readTextProof_35 : decode cX5_readTextProof 35 = .ok (.aload_n 0, 1) := by decide +kernel
theorem dX5_readTextProof_36 : decode cX5_readTextProof 36 = .ok (.getfield 35, 3) := by decide +kernel
theorem dX5_readTextProof_39 : decode cX5_readTextProof 39 = .ok (.ldc 88, 2) := by decide +kernel
theorem dX5_readTextProof_41 : decode cX5_readTextProof 41 = .ok (.invokevirtual 90, 3) := by decide +kernel
theorem dX5_readTextProof_44 : decode cX5_readTextProof 44 = .ok (.istore 5, 2) := by decide +kernel
theorem dX5_readTextProof_46 : decode cX5_readTextProof 46 = .ok (.iload 5, 2) := by decide +kernel
theorem dX5_readTextProof_48 : decode cX5_readTextProof 48 = .ok (.ifCond .ne 10, 3) := by decide +kernel
theorem dX5_readTextProof_51 : decode cX5_readTextProof 51 = .ok (.aload_n 0, 1) := by decide +kernel
theorem dX5_readTextProof_52 : decode cX5_readTextProof 52 = .ok (.getfield 35, 3) := by decide +kernel
theorem dX5_readTextProof_55 : decode cX5_readTextProof 55 = .ok (.invokevirtual 94, 3) := by decide +kernel
theorem dX5_readTextProof_58 : decode cX5_readTextProof 58 = .ok (.iload 4, 2) := by decide +kernel
theorem dX5_readTextProof_60 : decode cX5_readTextProof 60 = .ok (.sipush 300, 3) := by decide +kernel
theorem dX5_readTextProof_63 : decode cX5_readTextProof 63 = .ok (.if_icmp .le 12, 3) := by decide +kernel
theorem dX5_readTextProof_66 : decode cX5_readTextProof 66 = .ok (.aload_n 0, 1) := by decide +kernel
theorem dX5_readTextProof_67 : decode cX5_readTextProof 67 = .ok (.iload 5, 2) := by decide +kernel
theorem dX5_readTextProof_69 : decode cX5_readTextProof 69 = .ok (.invokevirtual 97, 3) := by decide +kernel
theorem dX5_readTextProof_72 : decode cX5_readTextProof 72 = .ok (.goto 19, 3) := by decide +kernel
theorem dX5_readTextProof_75 : decode cX5_readTextProof 75 = .ok (.aload_n 0, 1) := by decide +kernel
theorem dX5_readTextProof_76 : decode cX5_readTextProof 76 = .ok (.sipush 150, 3) := by decide +kernel
theorem dX5_readTextProof_79 : decode cX5_readTextProof 79 = .ok (.invokevirtual 69, 3) := by decide +kernel
theorem dX5_readTextProof_82 : decode cX5_readTextProof 82 = .ok (.aload_n 0, 1) := by decide +kernel
theorem dX5_readTextProof_83 : decode cX5_readTextProof 83 = .ok (.getfield 43, 3) := by decide +kernel
theorem dX5_readTextProof_86 : decode cX5_readTextProof 86 = .ok (.iload 5, 2) := by decide +kernel
theorem dX5_readTextProof_88 : decode cX5_readTextProof 88 = .ok (.invokevirtual 72, 3) := by decide +kernel
theorem dX5_readTextProof_91 : decode cX5_readTextProof 91 = .ok (.iinc 4 1, 3) := by decide +kernel
theorem dX5_readTextProof_94 : decode cX5_readTextProof 94 = .ok (.goto (-84), 3) := by decide +kernel
theorem dX5_readTextProof_97 : decode cX5_readTextProof 97 = .ok (.return_, 1) := by decide +kernel
theorem dX5_readByteProof_0 : decode cX5_readByteProof 0 = .ok (.aload_n 0, 1) := by decide +kernel
theorem dX5_readByteProof_1 : decode cX5_readByteProof 1 = .ok (.aload_n 1, 1) := by decide +kernel
theorem dX5_readByteProof_2 : decode cX5_readByteProof 2 = .ok (.iload_n 2, 1) := by decide +kernel
theorem dX5_readByteProof_3 : decode cX5_readByteProof 3 = .ok (.aload_n 3, 1) := by decide +kernel
theorem dX5_readByteProof_4 : decode cX5_readByteProof 4 = .ok (.invokevirtual 47, 3) := by decide +kernel
theorem dX5_readByteProof_7 : decode cX5_readByteProof 7 = .ok (.iconst 1, 1) := by decide +kernel
theorem dX5_readByteProof_8 : decode cX5_readByteProof 8 = .ok (.istore 4, 2) := by decide +kernel
theorem dX5_readByteProof_10 : decode cX5_readByteProof 10 = .ok (.iload 4, 2) := by decide +kernel
theorem dX5_readByteProof_12 : decode cX5_readByteProof 12 = .ok (.sipush 301, 3) := by decide +kernel
theorem dX5_readByteProof_15 : decode cX5_readByteProof 15 = .ok (.if_icmp .gt 119, 3) := by decide +kernel
theorem dX5_readByteProof_18 : decode cX5_readByteProof 18 = .ok (.aload_n 0, 1) := by decide +kernel
theorem dX5_readByteProof_19 : decode cX5_readByteProof 19 = .ok (.getfield 24, 3) := by decide +kernel
theorem dX5_readByteProof_22 : decode cX5_readByteProof 22 = .ok (.ifCond .ne 112, 3) := by decide +kernel
theorem dX5_readByteProof_25 : decode cX5_readByteProof 25 = .ok (.aload_n 0, 1) := by decide +kernel
theorem dX5_readByteProof_26 : decode cX5_readByteProof 26 = .ok (.getfield 15, 3) := by decide +kernel
theorem dX5_readByteProof_29 : decode cX5_readByteProof 29 = .ok (.aload_n 0, 1) := by decide +kernel
theorem dX5_readByteProof_30 : decode cX5_readByteProof 30 = .ok (.getfield 9, 3) := by decide +kernel
theorem dX5_readByteProof_33 : decode cX5_readByteProof 33 = .ok (.if_icmp .ge 101, 3) := by decide +kernel
theorem dX5_readByteProof_36 : decode cX5_readByteProof 36 = .ok (.aload_n 0, 1) := by decide +kernel
theorem dX5_readByteProof_37 : decode cX5_readByteProof 37 = .ok (.getfield 39, 3) := by decide +kernel
theorem dX5_readByteProof_40 : decode cX5_readByteProof 40 = .ok (.aload_n 0, 1) := by decide +kernel
theorem dX5_readByteProof_41 : decode cX5_readByteProof 41 = .ok (.getfield 15, 3) := by decide +kernel
theorem dX5_readByteProof_44 : decode cX5_readByteProof 44 = .ok (.invokevirtual 100, 3) := by decide +kernel
theorem dX5_readByteProof_47 : decode cX5_readByteProof 47 = .ok (.istore 5, 2) := by decide +kernel
theorem dX5_readByteProof_49 : decode cX5_readByteProof 49 = .ok (.iload 5, 2) := by decide +kernel
theorem dX5_readByteProof_51 : decode cX5_readByteProof 51 = .ok (.bipush 97, 2) := by decide +kernel
theorem dX5_readByteProof_53 : decode cX5_readByteProof 53 = .ok (.if_icmp .eq 22, 3) := by decide +kernel
theorem dX5_readByteProof_56 : decode cX5_readByteProof 56 = .ok (.iload 5, 2) := by decide +kernel
theorem dX5_readByteProof_58 : decode cX5_readByteProof 58 = .ok (.bipush 100, 2) := by decide +kernel
theorem dX5_readByteProof_60 : decode cX5_readByteProof 60 = .ok (.if_icmp .eq 15, 3) := by decide +kernel
theorem dX5_readByteProof_63 : decode cX5_readByteProof 63 = .ok (.aload_n 0, 1) := by decide +kernel
theorem dX5_readByteProof_64 : decode cX5_readByteProof 64 = .ok (.iconst 1, 1) := by decide +kernel
theorem dX5_readByteProof_65 : decode cX5_readByteProof 65 = .ok (.aload_n 0, 1) := by decide +kernel
theorem dX5_readByteProof_66 : decode cX5_readByteProof 66 = .ok (.getfield 15, 3) := by decide +kernel
theorem dX5_readByteProof_69 : decode cX5_readByteProof 69 = .ok (.invokevirtual 84, 3) := by decide +kernel
theorem dX5_readByteProof_72 : decode cX5_readByteProof 72 = .ok (.goto 56, 3) := by decide +kernel
theorem dX5_readByteProof_75 : decode cX5_readByteProof 75 = .ok (.iload 4, 2) := by decide +kernel
theorem dX5_readByteProof_77 : decode cX5_readByteProof 77 = .ok (.sipush 300, 3) := by decide +kernel
theorem dX5_readByteProof_80 : decode cX5_readByteProof 80 = .ok (.if_icmp .le 15, 3) := by decide +kernel
theorem dX5_readByteProof_83 : decode cX5_readByteProof 83 = .ok (.aload_n 0, 1) := by decide +kernel
theorem dX5_readByteProof_84 : decode cX5_readByteProof 84 = .ok (.iconst 3, 1) := by decide +kernel
theorem dX5_readByteProof_85 : decode cX5_readByteProof 85 = .ok (.aload_n 0, 1) := by decide +kernel
theorem dX5_readByteProof_86 : decode cX5_readByteProof 86 = .ok (.getfield 15, 3) := by decide +kernel
theorem dX5_readByteProof_89 : decode cX5_readByteProof 89 = .ok (.invokevirtual 84, 3) := by decide +kernel
theorem dX5_readByteProof_92 : decode cX5_readByteProof 92 = .ok (.goto 36, 3) := by decide +kernel
theorem dX5_readByteProof_95 : decode cX5_readByteProof 95 = .ok (.aload_n 0, 1) := by decide +kernel
theorem dX5_readByteProof_96 : decode cX5_readByteProof 96 = .ok (.dup, 1) := by decide +kernel
theorem dX5_readByteProof_97 : decode cX5_readByteProof 97 = .ok (.getfield 15, 3) := by decide +kernel
theorem dX5_readByteProof_100 : decode cX5_readByteProof 100 = .ok (.iconst 1, 1) := by decide +kernel
theorem dX5_readByteProof_101 : decode cX5_readByteProof 101 = .ok (.iadd, 1) := by decide +kernel
theorem dX5_readByteProof_102 : decode cX5_readByteProof 102 = .ok (.putfield 15, 3) := by decide +kernel
theorem dX5_readByteProof_105 : decode cX5_readByteProof 105 = .ok (.aload_n 0, 1) := by decide +kernel
theorem dX5_readByteProof_106 : decode cX5_readByteProof 106 = .ok (.invokevirtual 105, 3) := by decide +kernel
theorem dX5_readByteProof_109 : decode cX5_readByteProof 109 = .ok (.aload_n 0, 1) := by decide +kernel
theorem dX5_readByteProof_110 : decode cX5_readByteProof 110 = .ok (.getfield 43, 3) := by decide +kernel
theorem dX5_readByteProof_113 : decode cX5_readByteProof 113 = .ok (.iload 5, 2) := by decide +kernel
theorem dX5_readByteProof_115 : decode cX5_readByteProof 115 = .ok (.bipush 100, 2) := by decide +kernel
theorem dX5_readByteProof_117 : decode cX5_readByteProof 117 = .ok (.if_icmp .ne 7, 3) := by decide +kernel
theorem dX5_readByteProof_120 : decode cX5_readByteProof 120 = .ok (.iconst 1, 1) := by decide +kernel
theorem dX5_readByteProof_121 : decode cX5_readByteProof 121 = .ok (.goto 4, 3) := by decide +kernel
theorem dX5_readByteProof_124 : decode cX5_readByteProof 124 = .ok (.iconst 0, 1) := by decide +kernel
theorem dX5_readByteProof_125 : decode cX5_readByteProof 125 = .ok (.invokevirtual 72, 3) := by decide +kernel
theorem dX5_readByteProof_128 : decode cX5_readByteProof 128 = .ok (.iinc 4 1, 3) := by decide +kernel
theorem dX5_readByteProof_131 : decode cX5_readByteProof 131 = .ok (.goto (-121), 3) := by decide +kernel
theorem dX5_readByteProof_134 : decode cX5_readByteProof 134 = .ok (.return_, 1) := by decide +kernel
theorem dX5_begin_0 : decode cX5_begin 0 = .ok (.aload_n 0, 1) := by decide +kernel
theorem dX5_begin_1 : decode cX5_begin 1 = .ok (.getfield 35, 3) := by decide +kernel
theorem dX5_begin_4 : decode cX5_begin 4 = .ok (.aload_n 1, 1) := by decide +kernel
theorem dX5_begin_5 : decode cX5_begin 5 = .ok (.iload_n 2, 1) := by decide +kernel
theorem dX5_begin_6 : decode cX5_begin 6 = .ok (.invokevirtual 108, 3) := by decide +kernel
theorem dX5_begin_9 : decode cX5_begin 9 = .ok (.aload_n 0, 1) := by decide +kernel
theorem dX5_begin_10 : decode cX5_begin 10 = .ok (.aload_n 1, 1) := by decide +kernel
theorem dX5_begin_11 : decode cX5_begin 11 = .ok (.putfield 39, 3) := by decide +kernel
theorem dX5_begin_14 : decode cX5_begin 14 = .ok (.aload_n 0, 1) := by decide +kernel
theorem dX5_begin_15 : decode cX5_begin 15 = .ok (.iload_n 2, 1) := by decide +kernel
theorem dX5_begin_16 : decode cX5_begin 16 = .ok (.putfield 9, 3) := by decide +kernel
theorem dX5_begin_19 : decode cX5_begin 19 = .ok (.aload_n 0, 1) := by decide +kernel
theorem dX5_begin_20 : decode cX5_begin 20 = .ok (.aload_n 3, 1) := by decide +kernel
theorem dX5_begin_21 : decode cX5_begin 21 = .ok (.putfield 43, 3) := by decide +kernel
theorem dX5_begin_24 : decode cX5_begin 24 = .ok (.aload_n 0, 1) := by decide +kernel
theorem dX5_begin_25 : decode cX5_begin 25 = .ok (.getfield 43, 3) := by decide +kernel
theorem dX5_begin_28 : decode cX5_begin 28 = .ok (.invokevirtual 111, 3) := by decide +kernel
theorem dX5_begin_31 : decode cX5_begin 31 = .ok (.aload_n 0, 1) := by decide +kernel
theorem dX5_begin_32 : decode cX5_begin 32 = .ok (.iconst 0, 1) := by decide +kernel
theorem dX5_begin_33 : decode cX5_begin 33 = .ok (.putfield 15, 3) := by decide +kernel
theorem dX5_begin_36 : decode cX5_begin 36 = .ok (.aload_n 0, 1) := by decide +kernel
theorem dX5_begin_37 : decode cX5_begin 37 = .ok (.iconst 0, 1) := by decide +kernel
theorem dX5_begin_38 : decode cX5_begin 38 = .ok (.putfield 21, 3) := by decide +kernel
theorem dX5_begin_41 : decode cX5_begin 41 = .ok (.aload_n 0, 1) := by decide +kernel
theorem dX5_begin_42 : decode cX5_begin 42 = .ok (.iconst 0, 1) := by decide +kernel
theorem dX5_begin_43 : decode cX5_begin 43 = .ok (.putfield 24, 3) := by decide +kernel
theorem dX5_begin_46 : decode cX5_begin 46 = .ok (.aload_n 0, 1) := by decide +kernel
theorem dX5_begin_47 : decode cX5_begin 47 = .ok (.iconst (-1), 1) := by decide +kernel
theorem dX5_begin_48 : decode cX5_begin 48 = .ok (.putfield 27, 3) := by decide +kernel
theorem dX5_begin_51 : decode cX5_begin 51 = .ok (.return_, 1) := by decide +kernel
theorem dX5_blame_0 : decode cX5_blame 0 = .ok (.aload_n 0, 1) := by decide +kernel
theorem dX5_blame_1 : decode cX5_blame 1 = .ok (.iload_n 1, 1) := by decide +kernel
theorem dX5_blame_2 : decode cX5_blame 2 = .ok (.putfield 24, 3) := by decide +kernel
theorem dX5_blame_5 : decode cX5_blame 5 = .ok (.aload_n 0, 1) := by decide +kernel
theorem dX5_blame_6 : decode cX5_blame 6 = .ok (.iload_n 2, 1) := by decide +kernel
theorem dX5_blame_7 : decode cX5_blame 7 = .ok (.putfield 27, 3) := by decide +kernel
theorem dX5_blame_10 : decode cX5_blame 10 = .ok (.return_, 1) := by decide +kernel
theorem dX5_expectWord_0 : decode cX5_expectWord 0 = .ok (.aload_n 0, 1) := by decide +kernel
theorem dX5_expectWord_1 : decode cX5_expectWord 1 = .ok (.getfield 24, 3) := by decide +kernel
theorem dX5_expectWord_4 : decode cX5_expectWord 4 = .ok (.ifCond .ne 36, 3) := by decide +kernel
theorem dX5_expectWord_7 : decode cX5_expectWord 7 = .ok (.aload_n 0, 1) := by decide +kernel
theorem dX5_expectWord_8 : decode cX5_expectWord 8 = .ok (.getfield 35, 3) := by decide +kernel
theorem dX5_expectWord_11 : decode cX5_expectWord 11 = .ok (.invokevirtual 76, 3) := by decide +kernel
theorem dX5_expectWord_14 : decode cX5_expectWord 14 = .ok (.ifCond .eq 14, 3) := by decide +kernel
theorem dX5_expectWord_17 : decode cX5_expectWord 17 = .ok (.aload_n 0, 1) := by decide +kernel
theorem dX5_expectWord_18 : decode cX5_expectWord 18 = .ok (.getfield 35, 3) := by decide +kernel
theorem dX5_expectWord_21 : decode cX5_expectWord 21 = .ok (.aload_n 1, 1) := by decide +kernel
theorem dX5_expectWord_22 : decode cX5_expectWord 22 = .ok (.invokevirtual 90, 3) := by decide +kernel
theorem dX5_expectWord_25 : decode cX5_expectWord 25 = .ok (.ifCond .ne 15, 3) := by decide +kernel
theorem dX5_expectWord_28 : decode cX5_expectWord 28 = .ok (.aload_n 0, 1) := by decide +kernel
theorem dX5_expectWord_29 : decode cX5_expectWord 29 = .ok (.iconst 1, 1) := by decide +kernel
theorem dX5_expectWord_30 : decode cX5_expectWord 30 = .ok (.aload_n 0, 1) := by decide +kernel
theorem dX5_expectWord_31 : decode cX5_expectWord 31 = .ok (.getfield 35, 3) := by decide +kernel
theorem dX5_expectWord_34 : decode cX5_expectWord 34 = .ok (.invokevirtual 80, 3) := by decide +kernel
theorem dX5_expectWord_37 : decode cX5_expectWord 37 = .ok (.invokevirtual 84, 3) := by decide +kernel
theorem dX5_expectWord_40 : decode cX5_expectWord 40 = .ok (.return_, 1) := by decide +kernel
theorem dX5_expectNumber_0 : decode cX5_expectNumber 0 = .ok (.aload_n 0, 1) := by decide +kernel
theorem dX5_expectNumber_1 : decode cX5_expectNumber 1 = .ok (.getfield 24, 3) := by decide +kernel
theorem dX5_expectNumber_4 : decode cX5_expectNumber 4 = .ok (.ifCond .eq 5, 3) := by decide +kernel
theorem dX5_expectNumber_7 : decode cX5_expectNumber 7 = .ok (.iconst 0, 1) := by decide +kernel
theorem dX5_expectNumber_8 : decode cX5_expectNumber 8 = .ok (.ireturn, 1) := by decide +kernel
theorem dX5_expectNumber_9 : decode cX5_expectNumber 9 = .ok (.aload_n 0, 1) := by decide +kernel
theorem dX5_expectNumber_10 : decode cX5_expectNumber 10 = .ok (.getfield 35, 3) := by decide +kernel
theorem dX5_expectNumber_13 : decode cX5_expectNumber 13 = .ok (.invokevirtual 76, 3) := by decide +kernel
theorem dX5_expectNumber_16 : decode cX5_expectNumber 16 = .ok (.pop, 1) := by decide +kernel
theorem dX5_expectNumber_17 : decode cX5_expectNumber 17 = .ok (.aload_n 0, 1) := by decide +kernel
theorem dX5_expectNumber_18 : decode cX5_expectNumber 18 = .ok (.iload_n 1, 1) := by decide +kernel
theorem dX5_expectNumber_19 : decode cX5_expectNumber 19 = .ok (.invokevirtual 114, 3) := by decide +kernel
theorem dX5_expectNumber_22 : decode cX5_expectNumber 22 = .ok (.istore_n 2, 1) := by decide +kernel
theorem dX5_expectNumber_23 : decode cX5_expectNumber 23 = .ok (.iload_n 2, 1) := by decide +kernel
theorem dX5_expectNumber_24 : decode cX5_expectNumber 24 = .ok (.ifCond .ne 15, 3) := by decide +kernel
theorem dX5_expectNumber_27 : decode cX5_expectNumber 27 = .ok (.aload_n 0, 1) := by decide +kernel
theorem dX5_expectNumber_28 : decode cX5_expectNumber 28 = .ok (.getfield 35, 3) := by decide +kernel
theorem dX5_expectNumber_31 : decode cX5_expectNumber 31 = .ok (.invokevirtual 117, 3) := by decide +kernel
theorem dX5_expectNumber_34 : decode cX5_expectNumber 34 = .ok (.ifCond .ge 5, 3) := by decide +kernel
theorem dX5_expectNumber_37 : decode cX5_expectNumber 37 = .ok (.iconst 2, 1) := by decide +kernel
theorem dX5_expectNumber_38 : decode cX5_expectNumber 38 = .ok (.istore_n 2, 1) := by decide +kernel
theorem dX5_expectNumber_39 : decode cX5_expectNumber 39 = .ok (.iload_n 2, 1) := by decide +kernel
theorem dX5_expectNumber_40 : decode cX5_expectNumber 40 = .ok (.ifCond .eq 17, 3) := by decide +kernel
theorem dX5_expectNumber_43 : decode cX5_expectNumber 43 = .ok (.aload_n 0, 1) := by decide +kernel
theorem dX5_expectNumber_44 : decode cX5_expectNumber 44 = .ok (.iload_n 2, 1) := by decide +kernel
theorem dX5_expectNumber_45 : decode cX5_expectNumber 45 = .ok (.aload_n 0, 1) := by decide +kernel
theorem dX5_expectNumber_46 : decode cX5_expectNumber 46 = .ok (.getfield 35, 3) := by decide +kernel
theorem dX5_expectNumber_49 : decode cX5_expectNumber 49 = .ok (.invokevirtual 80, 3) := by decide +kernel
theorem dX5_expectNumber_52 : decode cX5_expectNumber 52 = .ok (.invokevirtual 84, 3) := by decide +kernel
theorem dX5_expectNumber_55 : decode cX5_expectNumber 55 = .ok (.iconst 0, 1) := by decide +kernel
theorem dX5_expectNumber_56 : decode cX5_expectNumber 56 = .ok (.ireturn, 1) := by decide +kernel
theorem dX5_expectNumber_57 : decode cX5_expectNumber 57 = .ok (.aload_n 0, 1) := by decide +kernel
theorem dX5_expectNumber_58 : decode cX5_expectNumber 58 = .ok (.getfield 35, 3) := by decide +kernel
theorem dX5_expectNumber_61 : decode cX5_expectNumber 61 = .ok (.invokevirtual 117, 3) := by decide +kernel
theorem dX5_expectNumber_64 : decode cX5_expectNumber 64 = .ok (.ireturn, 1) := by decide +kernel
theorem dX5_faultOfToken_0 : decode cX5_faultOfToken 0 = .ok (.aload_n 0, 1) := by decide +kernel
theorem dX5_faultOfToken_1 : decode cX5_faultOfToken 1 = .ok (.getfield 35, 3) := by decide +kernel
theorem dX5_faultOfToken_4 : decode cX5_faultOfToken 4 = .ok (.invokevirtual 120, 3) := by decide +kernel
theorem dX5_faultOfToken_7 : decode cX5_faultOfToken 7 = .ok (.ifCond .ne 5, 3) := by decide +kernel
theorem dX5_faultOfToken_10 : decode cX5_faultOfToken 10 = .ok (.iconst 1, 1) := by decide +kernel
theorem dX5_faultOfToken_11 : decode cX5_faultOfToken 11 = .ok (.ireturn, 1) := by decide +kernel
theorem dX5_faultOfToken_12 : decode cX5_faultOfToken 12 = .ok (.aload_n 0, 1) := by decide +kernel
theorem dX5_faultOfToken_13 : decode cX5_faultOfToken 13 = .ok (.getfield 35, 3) := by decide +kernel
theorem dX5_faultOfToken_16 : decode cX5_faultOfToken 16 = .ok (.invokevirtual 117, 3) := by decide +kernel
theorem dX5_faultOfToken_19 : decode cX5_faultOfToken 19 = .ok (.invokestatic 123, 3) := by decide +kernel
theorem dX5_faultOfToken_22 : decode cX5_faultOfToken 22 = .ok (.iload_n 1, 1) := by decide +kernel
theorem dX5_faultOfToken_23 : decode cX5_faultOfToken 23 = .ok (.if_icmp .le 7, 3) := by decide +kernel
theorem dX5_faultOfToken_26 : decode cX5_faultOfToken 26 = .ok (.iconst 2, 1) := by decide +kernel
theorem dX5_faultOfToken_27 : decode cX5_faultOfToken 27 = .ok (.goto 4, 3) := by decide +kernel
theorem dX5_faultOfToken_30 : decode cX5_faultOfToken 30 = .ok (.iconst 0, 1) := by decide +kernel
theorem dX5_faultOfToken_31 : decode cX5_faultOfToken 31 = .ok (.ireturn, 1) := by decide +kernel
theorem dX5_blameStepTooMany_0 : decode cX5_blameStepTooMany 0 = .ok (.iconst 0, 1) := by decide +kernel
theorem dX5_blameStepTooMany_1 : decode cX5_blameStepTooMany 1 = .ok (.istore_n 2, 1) := by decide +kernel
theorem dX5_blameStepTooMany_2 : decode cX5_blameStepTooMany 2 = .ok (.iload_n 1, 1) := by decide +kernel
theorem dX5_blameStepTooMany_3 : decode cX5_blameStepTooMany 3 = .ok (.ifCond .ne 21, 3) := by decide +kernel
theorem dX5_blameStepTooMany_6 : decode cX5_blameStepTooMany 6 = .ok (.aload_n 0, 1) := by decide +kernel
theorem dX5_blameStepTooMany_7 : decode cX5_blameStepTooMany 7 = .ok (.getfield 35, 3) := by decide +kernel
theorem dX5_blameStepTooMany_10 : decode cX5_blameStepTooMany 10 = .ok (.invokevirtual 76, 3) := by decide +kernel
theorem dX5_blameStepTooMany_13 : decode cX5_blameStepTooMany 13 = .ok (.ifCond .eq 11, 3) := by decide +kernel
theorem dX5_blameStepTooMany_16 : decode cX5_blameStepTooMany 16 = .ok (.aload_n 0, 1) := by decide +kernel
theorem dX5_blameStepTooMany_17 : decode cX5_blameStepTooMany 17 = .ok (.sipush 150, 3) := by decide +kernel
theorem dX5_blameStepTooMany_20 : decode cX5_blameStepTooMany 20 = .ok (.invokevirtual 114, 3) := by decide +kernel
theorem dX5_blameStepTooMany_23 : decode cX5_blameStepTooMany 23 = .ok (.istore_n 2, 1) := by decide +kernel
theorem dX5_blameStepTooMany_24 : decode cX5_blameStepTooMany 24 = .ok (.aload_n 0, 1) := by decide +kernel
theorem dX5_blameStepTooMany_25 : decode cX5_blameStepTooMany 25 = .ok (.iload_n 2, 1) := by decide +kernel
theorem dX5_blameStepTooMany_26 : decode cX5_blameStepTooMany 26 = .ok (.ifCond .ne 7, 3) := by decide +kernel
theorem dX5_blameStepTooMany_29 : decode cX5_blameStepTooMany 29 = .ok (.iconst 3, 1) := by decide +kernel
theorem dX5_blameStepTooMany_30 : decode cX5_blameStepTooMany 30 = .ok (.goto 4, 3) := by decide +kernel
theorem dX5_blameStepTooMany_33 : decode cX5_blameStepTooMany 33 = .ok (.iload_n 2, 1) := by decide +kernel
theorem dX5_blameStepTooMany_34 : decode cX5_blameStepTooMany 34 = .ok (.aload_n 0, 1) := by decide +kernel
theorem dX5_blameStepTooMany_35 : decode cX5_blameStepTooMany 35 = .ok (.getfield 35, 3) := by decide +kernel
theorem dX5_blameStepTooMany_38 : decode cX5_blameStepTooMany 38 = .ok (.invokevirtual 80, 3) := by decide +kernel
theorem dX5_blameStepTooMany_41 : decode cX5_blameStepTooMany 41 = .ok (.invokevirtual 84, 3) := by decide +kernel
theorem dX5_blameStepTooMany_44 : decode cX5_blameStepTooMany 44 = .ok (.return_, 1) := by decide +kernel
theorem dX5_readRow_0 : decode cX5_readRow 0 = .ok (.aload_n 0, 1) := by decide +kernel
theorem dX5_readRow_1 : decode cX5_readRow 1 = .ok (.iconst 0, 1) := by decide +kernel
theorem dX5_readRow_2 : decode cX5_readRow 2 = .ok (.putfield 18, 3) := by decide +kernel
theorem dX5_readRow_5 : decode cX5_readRow 5 = .ok (.iconst 0, 1) := by decide +kernel
theorem dX5_readRow_6 : decode cX5_readRow 6 = .ok (.istore_n 2, 1) := by decide +kernel
theorem dX5_readRow_7 : decode cX5_readRow 7 = .ok (.iload_n 2, 1) := by decide +kernel
theorem dX5_readRow_8 : decode cX5_readRow 8 = .ok (.bipush 40, 2) := by decide +kernel
theorem dX5_readRow_10 : decode cX5_readRow 10 = .ok (.if_icmp .gt 78, 3) := by decide +kernel
theorem dX5_readRow_13 : decode cX5_readRow 13 = .ok (.aload_n 0, 1) := by decide +kernel
theorem dX5_readRow_14 : decode cX5_readRow 14 = .ok (.getfield 24, 3) := by decide +kernel
theorem dX5_readRow_17 : decode cX5_readRow 17 = .ok (.ifCond .ne 71, 3) := by decide +kernel
theorem dX5_readRow_20 : decode cX5_readRow 20 = .ok (.aload_n 0, 1) := by decide +kernel
theorem dX5_readRow_21 : decode cX5_readRow 21 = .ok (.getfield 35, 3) := by decide +kernel
theorem dX5_readRow_24 : decode cX5_readRow 24 = .ok (.invokevirtual 76, 3) := by decide +kernel
theorem dX5_readRow_27 : decode cX5_readRow 27 = .ok (.pop, 1) := by decide +kernel
theorem dX5_readRow_28 : decode cX5_readRow 28 = .ok (.aload_n 0, 1) := by decide +kernel
theorem dX5_readRow_29 : decode cX5_readRow 29 = .ok (.iload_n 1, 1) := by decide +kernel
theorem dX5_readRow_30 : decode cX5_readRow 30 = .ok (.invokevirtual 114, 3) := by decide +kernel
theorem dX5_readRow_33 : decode cX5_readRow 33 = .ok (.istore_n 3, 1) := by decide +kernel
theorem dX5_readRow_34 : decode cX5_readRow 34 = .ok (.iload_n 3, 1) := by decide +kernel
theorem dX5_readRow_35 : decode cX5_readRow 35 = .ok (.ifCond .eq 18, 3) := by decide +kernel
theorem dX5_readRow_38 : decode cX5_readRow 38 = .ok (.aload_n 0, 1) := by decide +kernel
theorem dX5_readRow_39 : decode cX5_readRow 39 = .ok (.iload_n 3, 1) := by decide +kernel
theorem dX5_readRow_40 : decode cX5_readRow 40 = .ok (.aload_n 0, 1) := by decide +kernel
theorem dX5_readRow_41 : decode cX5_readRow 41 = .ok (.getfield 35, 3) := by decide +kernel
theorem dX5_readRow_44 : decode cX5_readRow 44 = .ok (.invokevirtual 80, 3) := by decide +kernel
theorem dX5_readRow_47 : decode cX5_readRow 47 = .ok (.invokevirtual 84, 3) := by decide +kernel
theorem dX5_readRow_50 : decode cX5_readRow 50 = .ok (.goto 32, 3) := by decide +kernel
theorem dX5_readRow_53 : decode cX5_readRow 53 = .ok (.aload_n 0, 1) := by decide +kernel
theorem dX5_readRow_54 : decode cX5_readRow 54 = .ok (.getfield 35, 3) := by decide +kernel
theorem dX5_readRow_57 : decode cX5_readRow 57 = .ok (.invokevirtual 117, 3) := by decide +kernel
theorem dX5_readRow_60 : decode cX5_readRow 60 = .ok (.ifCond .ne 4, 3) := by decide +kernel
theorem dX5_readRow_63 : decode cX5_readRow 63 = .ok (.return_, 1) := by decide +kernel
theorem dX5_readRow_64 : decode cX5_readRow 64 = .ok (.aload_n 0, 1) := by decide +kernel
theorem dX5_readRow_65 : decode cX5_readRow 65 = .ok (.aload_n 0, 1) := by decide +kernel
theorem dX5_readRow_66 : decode cX5_readRow 66 = .ok (.getfield 35, 3) := by decide +kernel
theorem dX5_readRow_69 : decode cX5_readRow 69 = .ok (.invokevirtual 117, 3) := by decide +kernel
theorem dX5_readRow_72 : decode cX5_readRow 72 = .ok (.aload_n 0, 1) := by decide +kernel
theorem dX5_readRow_73 : decode cX5_readRow 73 = .ok (.getfield 35, 3) := by decide +kernel
theorem dX5_readRow_76 : decode cX5_readRow 76 = .ok (.invokevirtual 80, 3) := by decide +kernel
theorem dX5_readRow_79 : decode cX5_readRow 79 = .ok (.invokevirtual 128, 3) := by decide +kernel
theorem dX5_readRow_82 : decode cX5_readRow 82 = .ok (.iinc 2 1, 3) := by decide +kernel
theorem dX5_readRow_85 : decode cX5_readRow 85 = .ok (.goto (-78), 3) := by decide +kernel
theorem dX5_readRow_88 : decode cX5_readRow 88 = .ok (.return_, 1) := by decide +kernel
theorem dX5_takeLiteral_0 : decode cX5_takeLiteral 0 = .ok (.aload_n 0, 1) := by decide +kernel
theorem dX5_takeLiteral_1 : decode cX5_takeLiteral 1 = .ok (.dup, 1) := by decide +kernel
theorem dX5_takeLiteral_2 : decode cX5_takeLiteral 2 = .ok (.getfield 18, 3) := by decide +kernel
theorem dX5_takeLiteral_5 : decode cX5_takeLiteral 5 = .ok (.iconst 1, 1) := by decide +kernel
theorem dX5_takeLiteral_6 : decode cX5_takeLiteral 6 = .ok (.iadd, 1) := by decide +kernel
theorem dX5_takeLiteral_7 : decode cX5_takeLiteral 7 = .ok (.putfield 18, 3) := by decide +kernel
theorem dX5_takeLiteral_10 : decode cX5_takeLiteral 10 = .ok (.aload_n 0, 1) := by decide +kernel
theorem dX5_takeLiteral_11 : decode cX5_takeLiteral 11 = .ok (.dup, 1) := by decide +kernel
theorem dX5_takeLiteral_12 : decode cX5_takeLiteral 12 = .ok (.getfield 21, 3) := by decide +kernel
theorem dX5_takeLiteral_15 : decode cX5_takeLiteral 15 = .ok (.iconst 1, 1) := by decide +kernel
theorem dX5_takeLiteral_16 : decode cX5_takeLiteral 16 = .ok (.iadd, 1) := by decide +kernel
theorem dX5_takeLiteral_17 : decode cX5_takeLiteral 17 = .ok (.putfield 21, 3) := by decide +kernel
theorem dX5_takeLiteral_20 : decode cX5_takeLiteral 20 = .ok (.aload_n 0, 1) := by decide +kernel
theorem dX5_takeLiteral_21 : decode cX5_takeLiteral 21 = .ok (.getfield 18, 3) := by decide +kernel
theorem dX5_takeLiteral_24 : decode cX5_takeLiteral 24 = .ok (.bipush 40, 2) := by decide +kernel
theorem dX5_takeLiteral_26 : decode cX5_takeLiteral 26 = .ok (.if_icmp .gt 13, 3) := by decide +kernel
theorem dX5_takeLiteral_29 : decode cX5_takeLiteral 29 = .ok (.aload_n 0, 1) := by decide +kernel
theorem dX5_takeLiteral_30 : decode cX5_takeLiteral 30 = .ok (.getfield 21, 3) := by decide +kernel
theorem dX5_takeLiteral_33 : decode cX5_takeLiteral 33 = .ok (.sipush 2000, 3) := by decide +kernel
theorem dX5_takeLiteral_36 : decode cX5_takeLiteral 36 = .ok (.if_icmp .le 12, 3) := by decide +kernel
theorem dX5_takeLiteral_39 : decode cX5_takeLiteral 39 = .ok (.aload_n 0, 1) := by decide +kernel
theorem dX5_takeLiteral_40 : decode cX5_takeLiteral 40 = .ok (.iconst 3, 1) := by decide +kernel
theorem dX5_takeLiteral_41 : decode cX5_takeLiteral 41 = .ok (.iload_n 2, 1) := by decide +kernel
theorem dX5_takeLiteral_42 : decode cX5_takeLiteral 42 = .ok (.invokevirtual 84, 3) := by decide +kernel
theorem dX5_takeLiteral_45 : decode cX5_takeLiteral 45 = .ok (.goto 11, 3) := by decide +kernel
theorem dX5_takeLiteral_48 : decode cX5_takeLiteral 48 = .ok (.aload_n 0, 1) := by decide +kernel
theorem dX5_takeLiteral_49 : decode cX5_takeLiteral 49 = .ok (.getfield 43, 3) := by decide +kernel
theorem dX5_takeLiteral_52 : decode cX5_takeLiteral 52 = .ok (.iload_n 1, 1) := by decide +kernel
theorem dX5_takeLiteral_53 : decode cX5_takeLiteral 53 = .ok (.invokevirtual 131, 3) := by decide +kernel
theorem dX5_takeLiteral_56 : decode cX5_takeLiteral 56 = .ok (.return_, 1) := by decide +kernel
theorem dX5_readByteRow_0 : decode cX5_readByteRow 0 = .ok (.aload_n 0, 1) := by decide +kernel
theorem dX5_readByteRow_1 : decode cX5_readByteRow 1 = .ok (.iconst 0, 1) := by decide +kernel
theorem dX5_readByteRow_2 : decode cX5_readByteRow 2 = .ok (.putfield 18, 3) := by decide +kernel
theorem dX5_readByteRow_5 : decode cX5_readByteRow 5 = .ok (.iconst 0, 1) := by decide +kernel
theorem dX5_readByteRow_6 : decode cX5_readByteRow 6 = .ok (.istore_n 1, 1) := by decide +kernel
theorem dX5_readByteRow_7 : decode cX5_readByteRow 7 = .ok (.iload_n 1, 1) := by decide +kernel
theorem dX5_readByteRow_8 : decode cX5_readByteRow 8 = .ok (.bipush 40, 2) := by decide +kernel
theorem dX5_readByteRow_10 : decode cX5_readByteRow 10 = .ok (.if_icmp .gt 68, 3) := by decide +kernel
theorem dX5_readByteRow_13 : decode cX5_readByteRow 13 = .ok (.aload_n 0, 1) := by decide +kernel
theorem dX5_readByteRow_14 : decode cX5_readByteRow 14 = .ok (.getfield 24, 3) := by decide +kernel
theorem dX5_readByteRow_17 : decode cX5_readByteRow 17 = .ok (.ifCond .ne 61, 3) := by decide +kernel
theorem dX5_readByteRow_20 : decode cX5_readByteRow 20 = .ok (.aload_n 0, 1) := by decide +kernel
theorem dX5_readByteRow_21 : decode cX5_readByteRow 21 = .ok (.getfield 15, 3) := by decide +kernel
theorem dX5_readByteRow_24 : decode cX5_readByteRow 24 = .ok (.aload_n 0, 1) := by decide +kernel
theorem dX5_readByteRow_25 : decode cX5_readByteRow 25 = .ok (.getfield 9, 3) := by decide +kernel
theorem dX5_readByteRow_28 : decode cX5_readByteRow 28 = .ok (.if_icmp .lt 15, 3) := by decide +kernel
theorem dX5_readByteRow_31 : decode cX5_readByteRow 31 = .ok (.aload_n 0, 1) := by decide +kernel
theorem dX5_readByteRow_32 : decode cX5_readByteRow 32 = .ok (.iconst 1, 1) := by decide +kernel
theorem dX5_readByteRow_33 : decode cX5_readByteRow 33 = .ok (.aload_n 0, 1) := by decide +kernel
theorem dX5_readByteRow_34 : decode cX5_readByteRow 34 = .ok (.getfield 9, 3) := by decide +kernel
theorem dX5_readByteRow_37 : decode cX5_readByteRow 37 = .ok (.invokevirtual 84, 3) := by decide +kernel
theorem dX5_readByteRow_40 : decode cX5_readByteRow 40 = .ok (.goto 32, 3) := by decide +kernel
theorem dX5_readByteRow_43 : decode cX5_readByteRow 43 = .ok (.aload_n 0, 1) := by decide +kernel
theorem dX5_readByteRow_44 : decode cX5_readByteRow 44 = .ok (.getfield 39, 3) := by decide +kernel
theorem dX5_readByteRow_47 : decode cX5_readByteRow 47 = .ok (.aload_n 0, 1) := by decide +kernel
theorem dX5_readByteRow_48 : decode cX5_readByteRow 48 = .ok (.getfield 15, 3) := by decide +kernel
theorem dX5_readByteRow_51 : decode cX5_readByteRow 51 = .ok (.invokevirtual 100, 3) := by decide +kernel
theorem dX5_readByteRow_54 : decode cX5_readByteRow 54 = .ok (.ifCond .ne 14, 3) := by decide +kernel
theorem dX5_readByteRow_57 : decode cX5_readByteRow 57 = .ok (.aload_n 0, 1) := by decide +kernel
theorem dX5_readByteRow_58 : decode cX5_readByteRow 58 = .ok (.dup, 1) := by decide +kernel
theorem dX5_readByteRow_59 : decode cX5_readByteRow 59 = .ok (.getfield 15, 3) := by decide +kernel
theorem dX5_readByteRow_62 : decode cX5_readByteRow 62 = .ok (.iconst 1, 1) := by decide +kernel
theorem dX5_readByteRow_63 : decode cX5_readByteRow 63 = .ok (.iadd, 1) := by decide +kernel
theorem dX5_readByteRow_64 : decode cX5_readByteRow 64 = .ok (.putfield 15, 3) := by decide +kernel
theorem dX5_readByteRow_67 : decode cX5_readByteRow 67 = .ok (.return_, 1) := by decide +kernel
theorem dX5_readByteRow_68 : decode cX5_readByteRow 68 = .ok (.aload_n 0, 1) := by decide +kernel
theorem dX5_readByteRow_69 : decode cX5_readByteRow 69 = .ok (.invokevirtual 134, 3) := by decide +kernel
theorem dX5_readByteRow_72 : decode cX5_readByteRow 72 = .ok (.iinc 1 1, 3) := by decide +kernel
theorem dX5_readByteRow_75 : decode cX5_readByteRow 75 = .ok (.goto (-68), 3) := by decide +kernel
theorem dX5_readByteRow_78 : decode cX5_readByteRow 78 = .ok (.return_, 1) := by decide +kernel
theorem dX5_readByteLiteral_0 : decode cX5_readByteLiteral 0 = .ok (.aload_n 0, 1) := by decide +kernel
theorem dX5_readByteLiteral_1 : decode cX5_readByteLiteral 1 = .ok (.getfield 15, 3) := by decide +kernel
theorem dX5_readByteLiteral_4 : decode cX5_readByteLiteral 4 = .ok (.istore_n 1, 1) := by decide +kernel
theorem dX5_readByteLiteral_5 : decode cX5_readByteLiteral 5 = .ok (.aload_n 0, 1) := by decide +kernel
theorem dX5_readByteLiteral_6 : decode cX5_readByteLiteral 6 = .ok (.getfield 39, 3) := by decide +kernel
theorem dX5_readByteLiteral_9 : decode cX5_readByteLiteral 9 = .ok (.iload_n 1, 1) := by decide +kernel
theorem dX5_readByteLiteral_10 : decode cX5_readByteLiteral 10 = .ok (.invokevirtual 100, 3) := by decide +kernel
theorem dX5_readByteLiteral_13 : decode cX5_readByteLiteral 13 = .ok (.istore_n 2, 1) := by decide +kernel
theorem dX5_readByteLiteral_14 : decode cX5_readByteLiteral 14 = .ok (.aload_n 0, 1) := by decide +kernel
theorem dX5_readByteLiteral_15 : decode cX5_readByteLiteral 15 = .ok (.dup, 1) := by decide +kernel
theorem dX5_readByteLiteral_16 : decode cX5_readByteLiteral 16 = .ok (.getfield 15, 3) := by decide +kernel
theorem dX5_readByteLiteral_19 : decode cX5_readByteLiteral 19 = .ok (.iconst 1, 1) := by decide +kernel
theorem dX5_readByteLiteral_20 : decode cX5_readByteLiteral 20 = .ok (.iadd, 1) := by decide +kernel
theorem dX5_readByteLiteral_21 : decode cX5_readByteLiteral 21 = .ok (.putfield 15, 3) := by decide +kernel
theorem dX5_readByteLiteral_24 : decode cX5_readByteLiteral 24 = .ok (.iload_n 2, 1) := by decide +kernel
theorem dX5_readByteLiteral_25 : decode cX5_readByteLiteral 25 = .ok (.sipush 128, 3) := by decide +kernel
theorem dX5_readByteLiteral_28 : decode cX5_readByteLiteral 28 = .ok (.if_icmp .lt 76, 3) := by decide +kernel
theorem dX5_readByteLiteral_31 : decode cX5_readByteLiteral 31 = .ok (.aload_n 0, 1) := by decide +kernel
theorem dX5_readByteLiteral_32 : decode cX5_readByteLiteral 32 = .ok (.getfield 15, 3) := by decide +kernel
theorem dX5_readByteLiteral_35 : decode cX5_readByteLiteral 35 = .ok (.aload_n 0, 1) := by decide +kernel
theorem dX5_readByteLiteral_36 : decode cX5_readByteLiteral 36 = .ok (.getfield 9, 3) := by decide +kernel
theorem dX5_readByteLiteral_39 : decode cX5_readByteLiteral 39 = .ok (.if_icmp .lt 13, 3) := by decide +kernel
theorem dX5_readByteLiteral_42 : decode cX5_readByteLiteral 42 = .ok (.aload_n 0, 1) := by decide +kernel
theorem dX5_readByteLiteral_43 : decode cX5_readByteLiteral 43 = .ok (.iconst 1, 1) := by decide +kernel
theorem dX5_readByteLiteral_44 : decode cX5_readByteLiteral 44 = .ok (.aload_n 0, 1) := by decide +kernel
theorem dX5_readByteLiteral_45 : decode cX5_readByteLiteral 45 = .ok (.getfield 9, 3) := by decide +kernel
theorem dX5_readByteLiteral_48 : decode cX5_readByteLiteral 48 = .ok (.invokevirtual 84, 3) := by decide +kernel
theorem dX5_readByteLiteral_51 : decode cX5_readByteLiteral 51 = .ok (.return_, 1) := by decide +kernel
theorem dX5_readByteLiteral_52 : decode cX5_readByteLiteral 52 = .ok (.aload_n 0, 1) := by decide +kernel
theorem dX5_readByteLiteral_53 : decode cX5_readByteLiteral 53 = .ok (.getfield 39, 3) := by decide +kernel
theorem dX5_readByteLiteral_56 : decode cX5_readByteLiteral 56 = .ok (.aload_n 0, 1) := by decide +kernel
theorem dX5_readByteLiteral_57 : decode cX5_readByteLiteral 57 = .ok (.getfield 15, 3) := by decide +kernel
theorem dX5_readByteLiteral_60 : decode cX5_readByteLiteral 60 = .ok (.invokevirtual 100, 3) := by decide +kernel
theorem dX5_readByteLiteral_63 : decode cX5_readByteLiteral 63 = .ok (.istore_n 3, 1) := by decide +kernel
theorem dX5_readByteLiteral_64 : decode cX5_readByteLiteral 64 = .ok (.iload_n 3, 1) := by decide +kernel
theorem dX5_readByteLiteral_65 : decode cX5_readByteLiteral 65 = .ok (.ifCond .eq 10, 3) := by decide +kernel
theorem dX5_readByteLiteral_68 : decode cX5_readByteLiteral 68 = .ok (.iload_n 3, 1) := by decide +kernel
theorem dX5_readByteLiteral_69 : decode cX5_readByteLiteral 69 = .ok (.sipush 128, 3) := by decide +kernel
theorem dX5_readByteLiteral_72 : decode cX5_readByteLiteral 72 = .ok (.if_icmp .lt 10, 3) := by decide +kernel
theorem dX5_readByteLiteral_75 : decode cX5_readByteLiteral 75 = .ok (.aload_n 0, 1) := by decide +kernel
theorem dX5_readByteLiteral_76 : decode cX5_readByteLiteral 76 = .ok (.iconst 1, 1) := by decide +kernel
theorem dX5_readByteLiteral_77 : decode cX5_readByteLiteral 77 = .ok (.iload_n 1, 1) := by decide +kernel
theorem dX5_readByteLiteral_78 : decode cX5_readByteLiteral 78 = .ok (.invokevirtual 84, 3) := by decide +kernel
theorem dX5_readByteLiteral_81 : decode cX5_readByteLiteral 81 = .ok (.return_, 1) := by decide +kernel
theorem dX5_readByteLiteral_82 : decode cX5_readByteLiteral 82 = .ok (.iload_n 2, 1) := by decide +kernel
theorem dX5_readByteLiteral_83 : decode cX5_readByteLiteral 83 = .ok (.sipush 128, 3) := by decide +kernel
theorem dX5_readByteLiteral_86 : decode cX5_readByteLiteral 86 = .ok (.isub, 1) := by decide +kernel
theorem dX5_readByteLiteral_87 : decode cX5_readByteLiteral 87 = .ok (.sipush 128, 3) := by decide +kernel
theorem dX5_readByteLiteral_90 : decode cX5_readByteLiteral 90 = .ok (.iload_n 3, 1) := by decide +kernel
theorem dX5_readByteLiteral_91 : decode cX5_readByteLiteral 91 = .ok (.imul, 1) := by decide +kernel
theorem dX5_readByteLiteral_92 : decode cX5_readByteLiteral 92 = .ok (.iadd, 1) := by decide +kernel
theorem dX5_readByteLiteral_93 : decode cX5_readByteLiteral 93 = .ok (.istore_n 2, 1) := by decide +kernel
theorem dX5_readByteLiteral_94 : decode cX5_readByteLiteral 94 = .ok (.aload_n 0, 1) := by decide +kernel
theorem dX5_readByteLiteral_95 : decode cX5_readByteLiteral 95 = .ok (.dup, 1) := by decide +kernel
theorem dX5_readByteLiteral_96 : decode cX5_readByteLiteral 96 = .ok (.getfield 15, 3) := by decide +kernel
theorem dX5_readByteLiteral_99 : decode cX5_readByteLiteral 99 = .ok (.iconst 1, 1) := by decide +kernel
theorem dX5_readByteLiteral_100 : decode cX5_readByteLiteral 100 = .ok (.iadd, 1) := by decide +kernel
theorem dX5_readByteLiteral_101 : decode cX5_readByteLiteral 101 = .ok (.putfield 15, 3) := by decide +kernel
theorem dX5_readByteLiteral_104 : decode cX5_readByteLiteral 104 = .ok (.iload_n 2, 1) := by decide +kernel
theorem dX5_readByteLiteral_105 : decode cX5_readByteLiteral 105 = .ok (.iconst 2, 1) := by decide +kernel
theorem dX5_readByteLiteral_106 : decode cX5_readByteLiteral 106 = .ok (.if_icmp .lt 10, 3) := by decide +kernel
theorem dX5_readByteLiteral_109 : decode cX5_readByteLiteral 109 = .ok (.iload_n 2, 1) := by decide +kernel
theorem dX5_readByteLiteral_110 : decode cX5_readByteLiteral 110 = .ok (.sipush 301, 3) := by decide +kernel
theorem dX5_readByteLiteral_113 : decode cX5_readByteLiteral 113 = .ok (.if_icmp .le 12, 3) := by decide +kernel
theorem dX5_readByteLiteral_116 : decode cX5_readByteLiteral 116 = .ok (.aload_n 0, 1) := by decide +kernel
theorem dX5_readByteLiteral_117 : decode cX5_readByteLiteral 117 = .ok (.iconst 2, 1) := by decide +kernel
theorem dX5_readByteLiteral_118 : decode cX5_readByteLiteral 118 = .ok (.iload_n 1, 1) := by decide +kernel
theorem dX5_readByteLiteral_119 : decode cX5_readByteLiteral 119 = .ok (.invokevirtual 84, 3) := by decide +kernel
theorem dX5_readByteLiteral_122 : decode cX5_readByteLiteral 122 = .ok (.goto 24, 3) := by decide +kernel
theorem dX5_readByteLiteral_125 : decode cX5_readByteLiteral 125 = .ok (.aload_n 0, 1) := by decide +kernel
theorem dX5_readByteLiteral_126 : decode cX5_readByteLiteral 126 = .ok (.iload_n 2, 1) := by decide +kernel
theorem dX5_readByteLiteral_127 : decode cX5_readByteLiteral 127 = .ok (.iconst 1, 1) := by decide +kernel
theorem dX5_readByteLiteral_128 : decode cX5_readByteLiteral 128 = .ok (.iand, 1) := by decide +kernel
theorem dX5_readByteLiteral_129 : decode cX5_readByteLiteral 129 = .ok (.ifCond .ne 9, 3) := by decide +kernel
theorem dX5_readByteLiteral_132 : decode cX5_readByteLiteral 132 = .ok (.iload_n 2, 1) := by decide +kernel
theorem dX5_readByteLiteral_133 : decode cX5_readByteLiteral 133 = .ok (.iconst 2, 1) := by decide +kernel
theorem dX5_readByteLiteral_134 : decode cX5_readByteLiteral 134 = .ok (.idiv, 1) := by decide +kernel
theorem dX5_readByteLiteral_135 : decode cX5_readByteLiteral 135 = .ok (.goto 7, 3) := by decide +kernel
theorem dX5_readByteLiteral_138 : decode cX5_readByteLiteral 138 = .ok (.iload_n 2, 1) := by decide +kernel
theorem dX5_readByteLiteral_139 : decode cX5_readByteLiteral 139 = .ok (.iconst 2, 1) := by decide +kernel
theorem dX5_readByteLiteral_140 : decode cX5_readByteLiteral 140 = .ok (.idiv, 1) := by decide +kernel
theorem dX5_readByteLiteral_141 : decode cX5_readByteLiteral 141 = .ok (.ineg, 1) := by decide +kernel
theorem dX5_readByteLiteral_142 : decode cX5_readByteLiteral 142 = .ok (.iload_n 1, 1) := by decide +kernel
theorem dX5_readByteLiteral_143 : decode cX5_readByteLiteral 143 = .ok (.invokevirtual 128, 3) := by decide +kernel
theorem dX5_readByteLiteral_146 : decode cX5_readByteLiteral 146 = .ok (.return_, 1) := by decide +kernel
theorem dX6_init_0 : decode cX6_init 0 = .ok (.aload_n 0, 1) := by decide +kernel
theorem dX6_init_1 : decode cX6_init 1 = .ok (.invokespecial 1, 3) := by decide +kernel
theorem dX6_init_4 : decode cX6_init 4 = .ok (.aload_n 0, 1) := by decide +kernel
theorem dX6_init_5 : decode cX6_init 5 = .ok (.iload_n 1, 1) := by decide +kernel
theorem dX6_init_6 : decode cX6_init 6 = .ok (.iconst 0, 1) := by decide +kernel
theorem dX6_init_7 : decode cX6_init 7 = .ok (.invokestatic 7, 3) := by decide +kernel
theorem dX6_init_10 : decode cX6_init 10 = .ok (.newarray .int, 2) := by decide +kernel
theorem dX6_init_12 : decode cX6_init 12 = .ok (.putfield 13, 3) := by decide +kernel
theorem dX6_init_15 : decode cX6_init 15 = .ok (.return_, 1) := by decide +kernel
theorem dX6_at_0 : decode cX6_at 0 = .ok (.iload_n 1, 1) := by decide +kernel
theorem dX6_at_1 : decode cX6_at 1 = .ok (.ifCond .lt 21, 3) := by decide +kernel
theorem dX6_at_4 : decode cX6_at 4 = .ok (.iload_n 1, 1) := by decide +kernel
theorem dX6_at_5 : decode cX6_at 5 = .ok (.aload_n 0, 1) := by decide +kernel
theorem dX6_at_6 : decode cX6_at 6 = .ok (.getfield 13, 3) := by decide +kernel
theorem dX6_at_9 : decode cX6_at 9 = .ok (.arraylength, 1) := by decide +kernel
theorem dX6_at_10 : decode cX6_at 10 = .ok (.if_icmp .ge 12, 3) := by decide +kernel
theorem dX6_at_13 : decode cX6_at 13 = .ok (.aload_n 0, 1) := by decide +kernel
theorem dX6_at_14 : decode cX6_at 14 = .ok (.getfield 13, 3) := by decide +kernel
theorem dX6_at_17 : decode cX6_at 17 = .ok (.iload_n 1, 1) := by decide +kernel
theorem dX6_at_18 : decode cX6_at 18 = .ok (.iaload, 1) := by decide +kernel
theorem dX6_at_19 : decode cX6_at 19 = .ok (.goto 4, 3) := by decide +kernel
theorem dX6_at_22 : decode cX6_at 22 = .ok (.iconst 0, 1) := by decide +kernel
theorem dX6_at_23 : decode cX6_at 23 = .ok (.ireturn, 1) := by decide +kernel
theorem dX6_put_0 : decode cX6_put 0 = .ok (.iload_n 1, 1) := by decide +kernel
theorem dX6_put_1 : decode cX6_put 1 = .ok (.ifCond .lt 19, 3) := by decide +kernel
theorem dX6_put_4 : decode cX6_put 4 = .ok (.iload_n 1, 1) := by decide +kernel
theorem dX6_put_5 : decode cX6_put 5 = .ok (.aload_n 0, 1) := by decide +kernel
theorem dX6_put_6 : decode cX6_put 6 = .ok (.getfield 13, 3) := by decide +kernel
theorem dX6_put_9 : decode cX6_put 9 = .ok (.arraylength, 1) := by decide +kernel
theorem dX6_put_10 : decode cX6_put 10 = .ok (.if_icmp .ge 10, 3) := by decide +kernel
theorem dX6_put_13 : decode cX6_put 13 = .ok (.aload_n 0, 1) := by decide +kernel
theorem dX6_put_14 : decode cX6_put 14 = .ok (.getfield 13, 3) := by decide +kernel
theorem dX6_put_17 : decode cX6_put 17 = .ok (.iload_n 1, 1) := by decide +kernel
theorem dX6_put_18 : decode cX6_put 18 = .ok (.iload_n 2, 1) := by decide +kernel
theorem dX6_put_19 : decode cX6_put 19 = .ok (.iastore, 1) := by decide +kernel
theorem dX6_put_20 : decode cX6_put 20 = .ok (.return_, 1) := by decide +kernel
theorem dX6_fill_0 : decode cX6_fill 0 = .ok (.aload_n 0, 1) := by decide +kernel
theorem dX6_fill_1 : decode cX6_fill 1 = .ok (.getfield 13, 3) := by decide +kernel
theorem dX6_fill_4 : decode cX6_fill 4 = .ok (.iload_n 1, 1) := by decide +kernel
theorem dX6_fill_5 : decode cX6_fill 5 = .ok (.invokestatic 19, 3) := by decide +kernel
theorem dX6_fill_8 : decode cX6_fill 8 = .ok (.return_, 1) := by decide +kernel
theorem dX7_init_0 : decode cX7_init 0 = .ok (.aload_n 0, 1) := by decide +kernel
theorem dX7_init_1 : decode cX7_init 1 = .ok (.invokespecial 3, 3) := by decide +kernel
theorem dX7_init_4 : decode cX7_init 4 = .ok (.aload_n 0, 1) := by decide +kernel
theorem dX7_init_5 : decode cX7_init 5 = .ok (.new 9, 3) := by decide +kernel
theorem dX7_init_8 : decode cX7_init 8 = .ok (.dup, 1) := by decide +kernel
theorem dX7_init_9 : decode cX7_init 9 = .ok (.sipush 2000, 3) := by decide +kernel
theorem dX7_init_12 : decode cX7_init 12 = .ok (.invokespecial 11, 3) := by decide +kernel
theorem dX7_init_15 : decode cX7_init 15 = .ok (.putfield 14, 3) := by decide +kernel
theorem dX7_init_18 : decode cX7_init 18 = .ok (.aload_n 0, 1) := by decide +kernel
theorem dX7_init_19 : decode cX7_init 19 = .ok (.new 9, 3) := by decide +kernel
theorem dX7_init_22 : decode cX7_init 22 = .ok (.dup, 1) := by decide +kernel
theorem dX7_init_23 : decode cX7_init 23 = .ok (.sipush 301, 3) := by decide +kernel
theorem dX7_init_26 : decode cX7_init 26 = .ok (.invokespecial 11, 3) := by decide +kernel
theorem dX7_init_29 : decode cX7_init 29 = .ok (.putfield 20, 3) := by decide +kernel
theorem dX7_init_32 : decode cX7_init 32 = .ok (.aload_n 0, 1) := by decide +kernel
theorem dX7_init_33 : decode cX7_init 33 = .ok (.new 9, 3) := by decide +kernel
theorem dX7_init_36 : decode cX7_init 36 = .ok (.dup, 1) := by decide +kernel
theorem dX7_init_37 : decode cX7_init 37 = .ok (.sipush 301, 3) := by decide +kernel
theorem dX7_init_40 : decode cX7_init 40 = .ok (.invokespecial 11, 3) := by decide +kernel
theorem dX7_init_43 : decode cX7_init 43 = .ok (.putfield 23, 3) := by decide +kernel
theorem dX7_init_46 : decode cX7_init 46 = .ok (.aload_n 0, 1) := by decide +kernel
theorem dX7_init_47 : decode cX7_init 47 = .ok (.iconst 0, 1) := by decide +kernel
theorem dX7_init_48 : decode cX7_init 48 = .ok (.putfield 26, 3) := by decide +kernel
theorem dX7_init_51 : decode cX7_init 51 = .ok (.aload_n 0, 1) := by decide +kernel
theorem dX7_init_52 : decode cX7_init 52 = .ok (.iconst 0, 1) := by decide +kernel
theorem dX7_init_53 : decode cX7_init 53 = .ok (.putfield 30, 3) := by decide +kernel
theorem dX7_init_56 : decode cX7_init 56 = .ok (.aload_n 0, 1) := by decide +kernel
theorem dX7_init_57 : decode cX7_init 57 = .ok (.iconst 0, 1) := by decide +kernel
theorem dX7_init_58 : decode cX7_init 58 = .ok (.putfield 33, 3) := by decide +kernel
theorem dX7_init_61 : decode cX7_init 61 = .ok (.return_, 1) := by decide +kernel
theorem dX7_clear_0 : decode cX7_clear 0 = .ok (.aload_n 0, 1) := by decide +kernel
theorem dX7_clear_1 : decode cX7_clear 1 = .ok (.iconst 0, 1) := by decide +kernel
theorem dX7_clear_2 : decode cX7_clear 2 = .ok (.putfield 26, 3) := by decide +kernel
theorem dX7_clear_5 : decode cX7_clear 5 = .ok (.aload_n 0, 1) := by decide +kernel
theorem dX7_clear_6 : decode cX7_clear 6 = .ok (.iconst 0, 1) := by decide +kernel
theorem dX7_clear_7 : decode cX7_clear 7 = .ok (.putfield 30, 3) := by decide +kernel
theorem dX7_clear_10 : decode cX7_clear 10 = .ok (.aload_n 0, 1) := by decide +kernel
theorem dX7_clear_11 : decode cX7_clear 11 = .ok (.iconst 0, 1) := by decide +kernel
theorem dX7_clear_12 : decode cX7_clear 12 = .ok (.putfield 33, 3) := by decide +kernel
theorem dX7_clear_15 : decode cX7_clear 15 = .ok (.return_, 1) := by decide +kernel
theorem dX7_rows_0 : decode cX7_rows 0 = .ok (.aload_n 0, 1) := by decide +kernel
theorem dX7_rows_1 : decode cX7_rows 1 = .ok (.getfield 26, 3) := by decide +kernel
theorem dX7_rows_4 : decode cX7_rows 4 = .ok (.ireturn, 1) := by decide +kernel
theorem dX7_variables_0 : decode cX7_variables 0 = .ok (.aload_n 0, 1) := by decide +kernel
theorem dX7_variables_1 : decode cX7_variables 1 = .ok (.getfield 33, 3) := by decide +kernel
theorem dX7_variables_4 : decode cX7_variables 4 = .ok (.ireturn, 1) := by decide +kernel
theorem dX7_setVariables_0 : decode cX7_setVariables 0 = .ok (.aload_n 0, 1) := by decide +kernel
theorem dX7_setVariables_1 : decode cX7_setVariables 1 = .ok (.iload_n 1, 1) := by decide +kernel
theorem dX7_setVariables_2 : decode cX7_setVariables 2 = .ok (.putfield 33, 3) := by decide +kernel
theorem dX7_setVariables_5 : decode cX7_setVariables 5 = .ok (.return_, 1) := by decide +kernel
theorem dX7_add_0 : decode cX7_add 0 = .ok (.aload_n 0, 1) := by decide +kernel
theorem dX7_add_1 : decode cX7_add 1 = .ok (.getfield 20, 3) := by decide +kernel
theorem dX7_add_4 : decode cX7_add 4 = .ok (.aload_n 0, 1) := by decide +kernel
theorem dX7_add_5 : decode cX7_add 5 = .ok (.getfield 26, 3) := by decide +kernel
theorem dX7_add_8 : decode cX7_add 8 = .ok (.invokevirtual 36, 3) := by decide +kernel
theorem dX7_add_11 : decode cX7_add 11 = .ok (.istore_n 2, 1) := by decide +kernel
theorem dX7_add_12 : decode cX7_add 12 = .ok (.iload_n 2, 1) := by decide +kernel
theorem dX7_add_13 : decode cX7_add 13 = .ok (.aload_n 0, 1) := by decide +kernel
theorem dX7_add_14 : decode cX7_add 14 = .ok (.getfield 30, 3) := by decide +kernel
theorem dX7_add_17 : decode cX7_add 17 = .ok (.if_icmp .ge 22, 3) := by decide +kernel
theorem dX7_add_20 : decode cX7_add 20 = .ok (.aload_n 0, 1) := by decide +kernel
theorem dX7_add_21 : decode cX7_add 21 = .ok (.getfield 14, 3) := by decide +kernel
theorem dX7_add_24 : decode cX7_add 24 = .ok (.iload_n 2, 1) := by decide +kernel
theorem dX7_add_25 : decode cX7_add 25 = .ok (.invokevirtual 36, 3) := by decide +kernel
theorem dX7_add_28 : decode cX7_add 28 = .ok (.iload_n 1, 1) := by decide +kernel
theorem dX7_add_29 : decode cX7_add 29 = .ok (.if_icmp .ne 4, 3) := by decide +kernel
theorem dX7_add_32 : decode cX7_add 32 = .ok (.return_, 1) := by decide +kernel
theorem dX7_add_33 : decode cX7_add 33 = .ok (.iinc 2 1, 3) := by decide +kernel
theorem dX7_add_36 : decode cX7_add 36 = .ok (.goto (-24), 3) := by decide +kernel
theorem dX7_add_39 : decode cX7_add 39 = .ok (.aload_n 0, 1) := by decide +kernel
theorem dX7_add_40 : decode cX7_add 40 = .ok (.getfield 14, 3) := by decide +kernel
theorem dX7_add_43 : decode cX7_add 43 = .ok (.aload_n 0, 1) := by decide +kernel
theorem dX7_add_44 : decode cX7_add 44 = .ok (.getfield 30, 3) := by decide +kernel
theorem dX7_add_47 : decode cX7_add 47 = .ok (.iload_n 1, 1) := by decide +kernel
theorem dX7_add_48 : decode cX7_add 48 = .ok (.invokevirtual 40, 3) := by decide +kernel
theorem dX7_add_51 : decode cX7_add 51 = .ok (.aload_n 0, 1) := by decide +kernel
theorem dX7_add_52 : decode cX7_add 52 = .ok (.dup, 1) := by decide +kernel
theorem dX7_add_53 : decode cX7_add 53 = .ok (.getfield 30, 3) := by decide +kernel
theorem dX7_add_56 : decode cX7_add 56 = .ok (.iconst 1, 1) := by decide +kernel
theorem dX7_add_57 : decode cX7_add 57 = .ok (.iadd, 1) := by decide +kernel
theorem dX7_add_58 : decode cX7_add 58 = .ok (.putfield 30, 3) := by decide +kernel
theorem dX7_add_61 : decode cX7_add 61 = .ok (.return_, 1) := by decide +kernel
theorem dX7_closeRow_0 : decode cX7_closeRow 0 = .ok (.aload_n 0, 1) := by decide +kernel
theorem dX7_closeRow_1 : decode cX7_closeRow 1 = .ok (.dup, 1) := by decide +kernel
theorem dX7_closeRow_2 : decode cX7_closeRow 2 = .ok (.getfield 26, 3) := by decide +kernel
theorem dX7_closeRow_5 : decode cX7_closeRow 5 = .ok (.iconst 1, 1) := by decide +kernel
theorem dX7_closeRow_6 : decode cX7_closeRow 6 = .ok (.iadd, 1) := by decide +kernel
theorem dX7_closeRow_7 : decode cX7_closeRow 7 = .ok (.putfield 26, 3) := by decide +kernel
theorem dX7_closeRow_10 : decode cX7_closeRow 10 = .ok (.aload_n 0, 1) := by decide +kernel
theorem dX7_closeRow_11 : decode cX7_closeRow 11 = .ok (.getfield 20, 3) := by decide +kernel
theorem dX7_closeRow_14 : decode cX7_closeRow 14 = .ok (.aload_n 0, 1) := by decide +kernel
theorem dX7_closeRow_15 : decode cX7_closeRow 15 = .ok (.getfield 26, 3) := by decide +kernel
theorem dX7_closeRow_18 : decode cX7_closeRow 18 = .ok (.aload_n 0, 1) := by decide +kernel
theorem dX7_closeRow_19 : decode cX7_closeRow 19 = .ok (.getfield 30, 3) := by decide +kernel
theorem dX7_closeRow_22 : decode cX7_closeRow 22 = .ok (.invokevirtual 40, 3) := by decide +kernel
theorem dX7_closeRow_25 : decode cX7_closeRow 25 = .ok (.aload_n 0, 1) := by decide +kernel
theorem dX7_closeRow_26 : decode cX7_closeRow 26 = .ok (.getfield 23, 3) := by decide +kernel
theorem dX7_closeRow_29 : decode cX7_closeRow 29 = .ok (.aload_n 0, 1) := by decide +kernel
theorem dX7_closeRow_30 : decode cX7_closeRow 30 = .ok (.getfield 26, 3) := by decide +kernel
theorem dX7_closeRow_33 : decode cX7_closeRow 33 = .ok (.iload_n 1, 1) := by decide +kernel
theorem dX7_closeRow_34 : decode cX7_closeRow 34 = .ok (.ifCond .eq 7, 3) := by decide +kernel
theorem dX7_closeRow_37 : decode cX7_closeRow 37 = .ok (.iconst 1, 1) := by decide +kernel
theorem dX7_closeRow_38 : decode cX7_closeRow 38 = .ok (.goto 4, 3) := by decide +kernel
theorem dX7_closeRow_41 : decode cX7_closeRow 41 = .ok (.iconst 0, 1) := by decide +kernel
theorem dX7_closeRow_42 : decode cX7_closeRow 42 = .ok (.invokevirtual 40, 3) := by decide +kernel
theorem dX7_closeRow_45 : decode cX7_closeRow 45 = .ok (.return_, 1) := by decide +kernel
theorem dX7_isDeletion_0 : decode cX7_isDeletion 0 = .ok (.aload_n 0, 1) := by decide +kernel
theorem dX7_isDeletion_1 : decode cX7_isDeletion 1 = .ok (.getfield 23, 3) := by decide +kernel
theorem dX7_isDeletion_4 : decode cX7_isDeletion 4 = .ok (.iload_n 1, 1) := by decide +kernel
theorem dX7_isDeletion_5 : decode cX7_isDeletion 5 = .ok (.invokevirtual 36, 3) := by decide +kernel
theorem dX7_isDeletion_8 : decode cX7_isDeletion 8 = .ok (.ifCond .eq 7, 3) := by decide +kernel
theorem dX7_isDeletion_11 : decode cX7_isDeletion 11 = .ok (.iconst 1, 1) := by decide +kernel
theorem dX7_isDeletion_12 : decode cX7_isDeletion 12 = .ok (.goto 4, 3) := by decide +kernel
theorem dX7_isDeletion_15 : decode cX7_isDeletion 15 = .ok (.iconst 0, 1) := by decide +kernel
theorem dX7_isDeletion_16 : decode cX7_isDeletion 16 = .ok (.ireturn, 1) := by decide +kernel
theorem dX7_size_0 : decode cX7_size 0 = .ok (.aload_n 0, 1) := by decide +kernel
theorem dX7_size_1 : decode cX7_size 1 = .ok (.getfield 20, 3) := by decide +kernel
theorem dX7_size_4 : decode cX7_size 4 = .ok (.iload_n 1, 1) := by decide +kernel
theorem dX7_size_5 : decode cX7_size 5 = .ok (.invokevirtual 36, 3) := by decide +kernel
theorem dX7_size_8 : decode cX7_size 8 = .ok (.aload_n 0, 1) := by decide +kernel
theorem dX7_size_9 : decode cX7_size 9 = .ok (.getfield 20, 3) := by decide +kernel
theorem dX7_size_12 : decode cX7_size 12 = .ok (.iload_n 1, 1) := by decide +kernel
theorem dX7_size_13 : decode cX7_size 13 = .ok (.iconst 1, 1) := by decide +kernel
theorem dX7_size_14 : decode cX7_size 14 = .ok (.isub, 1) := by decide +kernel
theorem dX7_size_15 : decode cX7_size 15 = .ok (.invokevirtual 36, 3) := by decide +kernel
theorem dX7_size_18 : decode cX7_size 18 = .ok (.isub, 1) := by decide +kernel
theorem dX7_size_19 : decode cX7_size 19 = .ok (.ireturn, 1) := by decide +kernel
theorem dX7_literal_0 : decode cX7_literal 0 = .ok (.iload_n 2, 1) := by decide +kernel
theorem dX7_literal_1 : decode cX7_literal 1 = .ok (.ifCond .lt 34, 3) := by decide +kernel
theorem dX7_literal_4 : decode cX7_literal 4 = .ok (.iload_n 2, 1) := by decide +kernel
theorem dX7_literal_5 : decode cX7_literal 5 = .ok (.aload_n 0, 1) := by decide +kernel
theorem dX7_literal_6 : decode cX7_literal 6 = .ok (.iload_n 1, 1) := by decide +kernel
theorem dX7_literal_7 : decode cX7_literal 7 = .ok (.invokevirtual 44, 3) := by decide +kernel
theorem dX7_literal_10 : decode cX7_literal 10 = .ok (.if_icmp .ge 25, 3) := by decide +kernel
theorem dX7_literal_13 : decode cX7_literal 13 = .ok (.aload_n 0, 1) := by decide +kernel
theorem dX7_literal_14 : decode cX7_literal 14 = .ok (.getfield 14, 3) := by decide +kernel
theorem dX7_literal_17 : decode cX7_literal 17 = .ok (.aload_n 0, 1) := by decide +kernel
theorem dX7_literal_18 : decode cX7_literal 18 = .ok (.getfield 20, 3) := by decide +kernel
theorem dX7_literal_21 : decode cX7_literal 21 = .ok (.iload_n 1, 1) := by decide +kernel
theorem dX7_literal_22 : decode cX7_literal 22 = .ok (.iconst 1, 1) := by decide +kernel
theorem dX7_literal_23 : decode cX7_literal 23 = .ok (.isub, 1) := by decide +kernel
theorem dX7_literal_24 : decode cX7_literal 24 = .ok (.invokevirtual 36, 3) := by decide +kernel
theorem dX7_literal_27 : decode cX7_literal 27 = .ok (.iload_n 2, 1) := by decide +kernel
theorem dX7_literal_28 : decode cX7_literal 28 = .ok (.iadd, 1) := by decide +kernel
theorem dX7_literal_29 : decode cX7_literal 29 = .ok (.invokevirtual 36, 3) := by decide +kernel
theorem dX7_literal_32 : decode cX7_literal 32 = .ok (.goto 4, 3) := by decide +kernel
theorem dX7_literal_35 : decode cX7_literal 35 = .ok (.iconst 0, 1) := by decide +kernel
theorem dX7_literal_36 : decode cX7_literal 36 = .ok (.ireturn, 1) := by decide +kernel
theorem dX8_init_0 : decode cX8_init 0 = .ok (.aload_n 0, 1) := by decide +kernel
theorem dX8_init_1 : decode cX8_init 1 = .ok (.invokespecial 1, 3) := by decide +kernel
theorem dX8_init_4 : decode cX8_init 4 = .ok (.aload_n 0, 1) := by decide +kernel
theorem dX8_init_5 : decode cX8_init 5 = .ok (.iconst 0, 1) := by decide +kernel
theorem dX8_init_6 : decode cX8_init 6 = .ok (.putfield 7, 3) := by decide +kernel
theorem dX8_init_9 : decode cX8_init 9 = .ok (.aload_n 0, 1) := by decide +kernel
theorem dX8_init_10 : decode cX8_init 10 = .ok (.iconst 0, 1) := by decide +kernel
theorem dX8_init_11 : decode cX8_init 11 = .ok (.putfield 13, 3) := by decide +kernel
theorem dX8_init_14 : decode cX8_init 14 = .ok (.aload_n 0, 1) := by decide +kernel
theorem dX8_init_15 : decode cX8_init 15 = .ok (.iconst 0, 1) := by decide +kernel
theorem dX8_init_16 : decode cX8_init 16 = .ok (.putfield 16, 3) := by decide +kernel
theorem dX8_init_19 : decode cX8_init 19 = .ok (.aload_n 0, 1) := by decide +kernel
theorem dX8_init_20 : decode cX8_init 20 = .ok (.aload_n 1, 1) := by decide +kernel
theorem dX8_init_21 : decode cX8_init 21 = .ok (.putfield 19, 3) := by decide +kernel
theorem dX8_init_24 : decode cX8_init 24 = .ok (.return_, 1) := by decide +kernel
theorem dX8_begin_0 : decode cX8_begin 0 = .ok (.aload_n 0, 1) := by decide +kernel
theorem dX8_begin_1 : decode cX8_begin 1 = .ok (.aload_n 1, 1) := by decide +kernel
theorem dX8_begin_2 : decode cX8_begin 2 = .ok (.putfield 19, 3) := by decide +kernel
theorem dX8_begin_5 : decode cX8_begin 5 = .ok (.aload_n 0, 1) := by decide +kernel
theorem dX8_begin_6 : decode cX8_begin 6 = .ok (.iload_n 2, 1) := by decide +kernel
theorem dX8_begin_7 : decode cX8_begin 7 = .ok (.putfield 7, 3) := by decide +kernel
theorem dX8_begin_10 : decode cX8_begin 10 = .ok (.aload_n 0, 1) := by decide +kernel
theorem dX8_begin_11 : decode cX8_begin 11 = .ok (.iconst 0, 1) := by decide +kernel
theorem dX8_begin_12 : decode cX8_begin 12 = .ok (.putfield 13, 3) := by decide +kernel
theorem dX8_begin_15 : decode cX8_begin 15 = .ok (.aload_n 0, 1) := by decide +kernel
theorem dX8_begin_16 : decode cX8_begin 16 = .ok (.iconst 0, 1) := by decide +kernel
theorem dX8_begin_17 : decode cX8_begin 17 = .ok (.putfield 16, 3) := by decide +kernel
theorem dX8_begin_20 : decode cX8_begin 20 = .ok (.return_, 1) := by decide +kernel
theorem dX8_start_0 : decode cX8_start 0 = .ok (.aload_n 0, 1) := by decide +kernel
theorem dX8_start_1 : decode cX8_start 1 = .ok (.getfield 13, 3) := by decide +kernel
theorem dX8_start_4 : decode cX8_start 4 = .ok (.ireturn, 1) := by decide +kernel
theorem dX8_next_0 : decode cX8_next 0 = .ok (.iconst 0, 1) := by decide +kernel
theorem dX8_next_1 : decode cX8_next 1 = .ok (.istore_n 1, 1) := by decide +kernel
theorem dX8_next_2 : decode cX8_next 2 = .ok (.aload_n 0, 1) := by decide +kernel
theorem dX8_next_3 : decode cX8_next 3 = .ok (.getfield 16, 3) := by decide +kernel
theorem dX8_next_6 : decode cX8_next 6 = .ok (.istore_n 2, 1) := by decide +kernel
theorem dX8_next_7 : decode cX8_next 7 = .ok (.iload_n 2, 1) := by decide +kernel
theorem dX8_next_8 : decode cX8_next 8 = .ok (.aload_n 0, 1) := by decide +kernel
theorem dX8_next_9 : decode cX8_next 9 = .ok (.getfield 7, 3) := by decide +kernel
theorem dX8_next_12 : decode cX8_next 12 = .ok (.if_icmp .ge 76, 3) := by decide +kernel
theorem dX8_next_15 : decode cX8_next 15 = .ok (.aload_n 0, 1) := by decide +kernel
theorem dX8_next_16 : decode cX8_next 16 = .ok (.getfield 19, 3) := by decide +kernel
theorem dX8_next_19 : decode cX8_next 19 = .ok (.iload_n 2, 1) := by decide +kernel
theorem dX8_next_20 : decode cX8_next 20 = .ok (.invokevirtual 23, 3) := by decide +kernel
theorem dX8_next_23 : decode cX8_next 23 = .ok (.istore_n 3, 1) := by decide +kernel
theorem dX8_next_24 : decode cX8_next 24 = .ok (.iload_n 2, 1) := by decide +kernel
theorem dX8_next_25 : decode cX8_next 25 = .ok (.ifCond .eq 18, 3) := by decide +kernel
theorem dX8_next_28 : decode cX8_next 28 = .ok (.aload_n 0, 1) := by decide +kernel
theorem dX8_next_29 : decode cX8_next 29 = .ok (.getfield 19, 3) := by decide +kernel
theorem dX8_next_32 : decode cX8_next 32 = .ok (.iload_n 2, 1) := by decide +kernel
theorem dX8_next_33 : decode cX8_next 33 = .ok (.iconst 1, 1) := by decide +kernel
theorem dX8_next_34 : decode cX8_next 34 = .ok (.isub, 1) := by decide +kernel
theorem dX8_next_35 : decode cX8_next 35 = .ok (.invokevirtual 23, 3) := by decide +kernel
theorem dX8_next_38 : decode cX8_next 38 = .ok (.bipush 10, 2) := by decide +kernel
theorem dX8_next_40 : decode cX8_next 40 = .ok (.if_icmp .ne 15, 3) := by decide +kernel
theorem dX8_next_43 : decode cX8_next 43 = .ok (.iload_n 3, 1) := by decide +kernel
theorem dX8_next_44 : decode cX8_next 44 = .ok (.bipush 99, 2) := by decide +kernel
theorem dX8_next_46 : decode cX8_next 46 = .ok (.if_icmp .ne 7, 3) := by decide +kernel
theorem dX8_next_49 : decode cX8_next 49 = .ok (.iconst 1, 1) := by decide +kernel
theorem dX8_next_50 : decode cX8_next 50 = .ok (.goto 4, 3) := by decide +kernel
theorem dX8_next_53 : decode cX8_next 53 = .ok (.iconst 0, 1) := by decide +kernel
theorem dX8_next_54 : decode cX8_next 54 = .ok (.istore_n 1, 1) := by decide +kernel
theorem dX8_next_55 : decode cX8_next 55 = .ok (.iload_n 1, 1) := by decide +kernel
theorem dX8_next_56 : decode cX8_next 56 = .ok (.ifCond .ne 26, 3) := by decide +kernel
theorem dX8_next_59 : decode cX8_next 59 = .ok (.iload_n 3, 1) := by decide +kernel
theorem dX8_next_60 : decode cX8_next 60 = .ok (.invokestatic 29, 3) := by decide +kernel
theorem dX8_next_63 : decode cX8_next 63 = .ok (.ifCond .ne 19, 3) := by decide +kernel
theorem dX8_next_66 : decode cX8_next 66 = .ok (.aload_n 0, 1) := by decide +kernel
theorem dX8_next_67 : decode cX8_next 67 = .ok (.iload_n 2, 1) := by decide +kernel
theorem dX8_next_68 : decode cX8_next 68 = .ok (.putfield 13, 3) := by decide +kernel
theorem dX8_next_71 : decode cX8_next 71 = .ok (.aload_n 0, 1) := by decide +kernel
theorem dX8_next_72 : decode cX8_next 72 = .ok (.aload_n 0, 1) := by decide +kernel
theorem dX8_next_73 : decode cX8_next 73 = .ok (.iload_n 2, 1) := by decide +kernel
theorem dX8_next_74 : decode cX8_next 74 = .ok (.invokevirtual 33, 3) := by decide +kernel
theorem dX8_next_77 : decode cX8_next 77 = .ok (.putfield 16, 3) := by decide +kernel
theorem dX8_next_80 : decode cX8_next 80 = .ok (.iconst 1, 1) := by decide +kernel
theorem dX8_next_81 : decode cX8_next 81 = .ok (.ireturn, 1) := by decide +kernel
theorem dX8_next_82 : decode cX8_next 82 = .ok (.iinc 2 1, 3) := by decide +kernel
theorem dX8_next_85 : decode cX8_next 85 = .ok (.goto (-78), 3) := by decide +kernel
theorem dX8_next_88 : decode cX8_next 88 = .ok (.aload_n 0, 1) := by decide +kernel
theorem dX8_next_89 : decode cX8_next 89 = .ok (.aload_n 0, 1) := by decide +kernel
theorem dX8_next_90 : decode cX8_next 90 = .ok (.getfield 7, 3) := by decide +kernel
theorem dX8_next_93 : decode cX8_next 93 = .ok (.putfield 13, 3) := by decide +kernel
theorem dX8_next_96 : decode cX8_next 96 = .ok (.aload_n 0, 1) := by decide +kernel
theorem dX8_next_97 : decode cX8_next 97 = .ok (.aload_n 0, 1) := by decide +kernel
theorem dX8_next_98 : decode cX8_next 98 = .ok (.getfield 7, 3) := by decide +kernel
theorem dX8_next_101 : decode cX8_next 101 = .ok (.putfield 16, 3) := by decide +kernel
theorem dX8_next_104 : decode cX8_next 104 = .ok (.iconst 0, 1) := by decide +kernel
theorem dX8_next_105 : decode cX8_next 105 = .ok (.ireturn, 1) := by decide +kernel
theorem dX8_putBack_0 : decode cX8_putBack 0 = .ok (.aload_n 0, 1) := by decide +kernel
theorem dX8_putBack_1 : decode cX8_putBack 1 = .ok (.aload_n 0, 1) := by decide +kernel
theorem dX8_putBack_2 : decode cX8_putBack 2 = .ok (.getfield 13, 3) := by decide +kernel
theorem dX8_putBack_5 : decode cX8_putBack 5 = .ok (.putfield 16, 3) := by decide +kernel
theorem dX8_putBack_8 : decode cX8_putBack 8 = .ok (.return_, 1) := by decide +kernel
theorem dX8_spells_0 : decode cX8_spells 0 = .ok (.aload_n 1, 1) := by decide +kernel
theorem dX8_spells_1 : decode cX8_spells 1 = .ok (.invokevirtual 36, 3) := by decide +kernel
theorem dX8_spells_4 : decode cX8_spells 4 = .ok (.istore_n 2, 1) := by decide +kernel
theorem dX8_spells_5 : decode cX8_spells 5 = .ok (.aload_n 0, 1) := by decide +kernel
theorem dX8_spells_6 : decode cX8_spells 6 = .ok (.getfield 16, 3) := by decide +kernel
theorem dX8_spells_9 : decode cX8_spells 9 = .ok (.aload_n 0, 1) := by decide +kernel
theorem dX8_spells_10 : decode cX8_spells 10 = .ok (.getfield 13, 3) := by decide +kernel
theorem dX8_spells_13 : decode cX8_spells 13 = .ok (.isub, 1) := by decide +kernel
theorem dX8_spells_14 : decode cX8_spells 14 = .ok (.iload_n 2, 1) := by decide +kernel
theorem dX8_spells_15 : decode cX8_spells 15 = .ok (.if_icmp .eq 5, 3) := by decide +kernel
theorem dX8_spells_18 : decode cX8_spells 18 = .ok (.iconst 0, 1) := by decide +kernel
theorem dX8_spells_19 : decode cX8_spells 19 = .ok (.ireturn, 1) := by decide +kernel
theorem dX8_spells_20 : decode cX8_spells 20 = .ok (.iconst 0, 1) := by decide +kernel
theorem dX8_spells_21 : decode cX8_spells 21 = .ok (.istore_n 3, 1) := by decide +kernel
theorem dX8_spells_22 : decode cX8_spells 22 = .ok (.iload_n 3, 1) := by decide +kernel
theorem dX8_spells_23 : decode cX8_spells 23 = .ok (.iload_n 2, 1) := by decide +kernel
theorem dX8_spells_24 : decode cX8_spells 24 = .ok (.if_icmp .ge 32, 3) := by decide +kernel
theorem dX8_spells_27 : decode cX8_spells 27 = .ok (.aload_n 0, 1) := by decide +kernel
theorem dX8_spells_28 : decode cX8_spells 28 = .ok (.getfield 19, 3) := by decide +kernel
theorem dX8_spells_31 : decode cX8_spells 31 = .ok (.aload_n 0, 1) := by decide +kernel
theorem dX8_spells_32 : decode cX8_spells 32 = .ok (.getfield 13, 3) := by decide +kernel
theorem dX8_spells_35 : decode cX8_spells 35 = .ok (.iload_n 3, 1) := by decide +kernel
theorem dX8_spells_36 : decode cX8_spells 36 = .ok (.iadd, 1) := by decide +kernel
theorem dX8_spells_37 : decode cX8_spells 37 = .ok (.invokevirtual 23, 3) := by decide +kernel
theorem dX8_spells_40 : decode cX8_spells 40 = .ok (.aload_n 1, 1) := by decide +kernel
theorem dX8_spells_41 : decode cX8_spells 41 = .ok (.iload_n 3, 1) := by decide +kernel
theorem dX8_spells_42 : decode cX8_spells 42 = .ok (.invokevirtual 42, 3) := by decide +kernel
theorem dX8_spells_45 : decode cX8_spells 45 = .ok (.if_icmp .eq 5, 3) := by decide +kernel
theorem dX8_spells_48 : decode cX8_spells 48 = .ok (.iconst 0, 1) := by decide +kernel
theorem dX8_spells_49 : decode cX8_spells 49 = .ok (.ireturn, 1) := by decide +kernel
theorem dX8_spells_50 : decode cX8_spells 50 = .ok (.iinc 3 1, 3) := by decide +kernel
theorem dX8_spells_53 : decode cX8_spells 53 = .ok (.goto (-31), 3) := by decide +kernel
theorem dX8_spells_56 : decode cX8_spells 56 = .ok (.iconst 1, 1) := by decide +kernel
theorem dX8_spells_57 : decode cX8_spells 57 = .ok (.ireturn, 1) := by decide +kernel
theorem dX8_isNumber_0 : decode cX8_isNumber 0 = .ok (.aload_n 0, 1) := by decide +kernel
theorem dX8_isNumber_1 : decode cX8_isNumber 1 = .ok (.invokevirtual 46, 3) := by decide +kernel
theorem dX8_isNumber_4 : decode cX8_isNumber 4 = .ok (.istore_n 1, 1) := by decide +kernel
theorem dX8_isNumber_5 : decode cX8_isNumber 5 = .ok (.aload_n 0, 1) := by decide +kernel
theorem dX8_isNumber_6 : decode cX8_isNumber 6 = .ok (.getfield 16, 3) := by decide +kernel
theorem dX8_isNumber_9 : decode cX8_isNumber 9 = .ok (.iload_n 1, 1) := by decide +kernel
theorem dX8_isNumber_10 : decode cX8_isNumber 10 = .ok (.isub, 1) := by decide +kernel
theorem dX8_isNumber_11 : decode cX8_isNumber 11 = .ok (.istore_n 2, 1) := by decide +kernel
theorem dX8_isNumber_12 : decode cX8_isNumber 12 = .ok (.iload_n 2, 1) := by decide +kernel
theorem dX8_isNumber_13 : decode cX8_isNumber 13 = .ok (.iconst 1, 1) := by decide +kernel
theorem dX8_isNumber_14 : decode cX8_isNumber 14 = .ok (.if_icmp .lt 9, 3) := by decide +kernel
theorem dX8_isNumber_17 : decode cX8_isNumber 17 = .ok (.iload_n 2, 1) := by decide +kernel
theorem dX8_isNumber_18 : decode cX8_isNumber 18 = .ok (.bipush 6, 2) := by decide +kernel
theorem dX8_isNumber_20 : decode cX8_isNumber 20 = .ok (.if_icmp .le 5, 3) := by decide +kernel
theorem dX8_isNumber_23 : decode cX8_isNumber 23 = .ok (.iconst 0, 1) := by decide +kernel
theorem dX8_isNumber_24 : decode cX8_isNumber 24 = .ok (.ireturn, 1) := by decide +kernel
theorem dX8_isNumber_25 : decode cX8_isNumber 25 = .ok (.iload_n 1, 1) := by decide +kernel
theorem dX8_isNumber_26 : decode cX8_isNumber 26 = .ok (.istore_n 3, 1) := by decide +kernel
theorem dX8_isNumber_27 : decode cX8_isNumber 27 = .ok (.iload_n 3, 1) := by decide +kernel
theorem dX8_isNumber_28 : decode cX8_isNumber 28 = .ok (.aload_n 0, 1) := by decide +kernel
theorem dX8_isNumber_29 : decode cX8_isNumber 29 = .ok (.getfield 16, 3) := by decide +kernel
theorem dX8_isNumber_32 : decode cX8_isNumber 32 = .ok (.if_icmp .ge 35, 3) := by decide +kernel
theorem dX8_isNumber_35 : decode cX8_isNumber 35 = .ok (.aload_n 0, 1) := by decide +kernel
theorem dX8_isNumber_36 : decode cX8_isNumber 36 = .ok (.getfield 19, 3) := by decide +kernel
theorem dX8_isNumber_39 : decode cX8_isNumber 39 = .ok (.iload_n 3, 1) := by decide +kernel
theorem dX8_isNumber_40 : decode cX8_isNumber 40 = .ok (.invokevirtual 23, 3) := by decide +kernel
theorem dX8_isNumber_43 : decode cX8_isNumber 43 = .ok (.istore 4, 2) := by decide +kernel
theorem dX8_isNumber_45 : decode cX8_isNumber 45 = .ok (.iload 4, 2) := by decide +kernel
theorem dX8_isNumber_47 : decode cX8_isNumber 47 = .ok (.bipush 48, 2) := by decide +kernel
theorem dX8_isNumber_49 : decode cX8_isNumber 49 = .ok (.if_icmp .lt 10, 3) := by decide +kernel
theorem dX8_isNumber_52 : decode cX8_isNumber 52 = .ok (.iload 4, 2) := by decide +kernel
theorem dX8_isNumber_54 : decode cX8_isNumber 54 = .ok (.bipush 57, 2) := by decide +kernel
theorem dX8_isNumber_56 : decode cX8_isNumber 56 = .ok (.if_icmp .le 5, 3) := by decide +kernel
theorem dX8_isNumber_59 : decode cX8_isNumber 59 = .ok (.iconst 0, 1) := by decide +kernel
theorem dX8_isNumber_60 : decode cX8_isNumber 60 = .ok (.ireturn, 1) := by decide +kernel
theorem dX8_isNumber_61 : decode cX8_isNumber 61 = .ok (.iinc 3 1, 3) := by decide +kernel
theorem dX8_isNumber_64 : decode cX8_isNumber 64 = .ok (.goto (-37), 3) := by decide +kernel
theorem dX8_isNumber_67 : decode cX8_isNumber 67 = .ok (.iconst 1, 1) := by decide +kernel
theorem dX8_isNumber_68 : decode cX8_isNumber 68 = .ok (.ireturn, 1) := by decide +kernel
theorem dX8_number_0 : decode cX8_number 0 = .ok (.aload_n 0, 1) := by decide +kernel
theorem dX8_number_1 : decode cX8_number 1 = .ok (.invokevirtual 46, 3) := by decide +kernel
theorem dX8_number_4 : decode cX8_number 4 = .ok (.istore_n 1, 1) := by decide +kernel
theorem dX8_number_5 : decode cX8_number 5 = .ok (.iconst 0, 1) := by decide +kernel
theorem dX8_number_6 : decode cX8_number 6 = .ok (.istore_n 2, 1) := by decide +kernel
theorem dX8_number_7 : decode cX8_number 7 = .ok (.iload_n 1, 1) := by decide +kernel
theorem dX8_number_8 : decode cX8_number 8 = .ok (.istore_n 3, 1) := by decide +kernel
theorem dX8_number_9 : decode cX8_number 9 = .ok (.iload_n 3, 1) := by decide +kernel
theorem dX8_number_10 : decode cX8_number 10 = .ok (.aload_n 0, 1) := by decide +kernel
theorem dX8_number_11 : decode cX8_number 11 = .ok (.getfield 16, 3) := by decide +kernel
theorem dX8_number_14 : decode cX8_number 14 = .ok (.if_icmp .ge 26, 3) := by decide +kernel
theorem dX8_number_17 : decode cX8_number 17 = .ok (.bipush 10, 2) := by decide +kernel
theorem dX8_number_19 : decode cX8_number 19 = .ok (.iload_n 2, 1) := by decide +kernel
theorem dX8_number_20 : decode cX8_number 20 = .ok (.imul, 1) := by decide +kernel
theorem dX8_number_21 : decode cX8_number 21 = .ok (.aload_n 0, 1) := by decide +kernel
theorem dX8_number_22 : decode cX8_number 22 = .ok (.getfield 19, 3) := by decide +kernel
theorem dX8_number_25 : decode cX8_number 25 = .ok (.iload_n 3, 1) := by decide +kernel
theorem dX8_number_26 : decode cX8_number 26 = .ok (.invokevirtual 23, 3) := by decide +kernel
theorem dX8_number_29 : decode cX8_number 29 = .ok (.iadd, 1) := by decide +kernel
theorem dX8_number_30 : decode cX8_number 30 = .ok (.bipush 48, 2) := by decide +kernel
theorem dX8_number_32 : decode cX8_number 32 = .ok (.isub, 1) := by decide +kernel
theorem dX8_number_33 : decode cX8_number 33 = .ok (.istore_n 2, 1) := by decide +kernel
theorem dX8_number_34 : decode cX8_number 34 = .ok (.iinc 3 1, 3) := by decide +kernel
theorem dX8_number_37 : decode cX8_number 37 = .ok (.goto (-28), 3) := by decide +kernel
theorem dX8_number_40 : decode cX8_number 40 = .ok (.iload_n 1, 1) := by decide +kernel
theorem dX8_number_41 : decode cX8_number 41 = .ok (.aload_n 0, 1) := by decide +kernel
theorem dX8_number_42 : decode cX8_number 42 = .ok (.getfield 13, 3) := by decide +kernel
theorem dX8_number_45 : decode cX8_number 45 = .ok (.if_icmp .le 8, 3) := by decide +kernel
theorem dX8_number_48 : decode cX8_number 48 = .ok (.iload_n 2, 1) := by decide +kernel
theorem dX8_number_49 : decode cX8_number 49 = .ok (.ineg, 1) := by decide +kernel
theorem dX8_number_50 : decode cX8_number 50 = .ok (.goto 4, 3) := by decide +kernel
theorem dX8_number_53 : decode cX8_number 53 = .ok (.iload_n 2, 1) := by decide +kernel
theorem dX8_number_54 : decode cX8_number 54 = .ok (.ireturn, 1) := by decide +kernel
theorem dX8_firstDigit_0 : decode cX8_firstDigit 0 = .ok (.aload_n 0, 1) := by decide +kernel
theorem dX8_firstDigit_1 : decode cX8_firstDigit 1 = .ok (.getfield 19, 3) := by decide +kernel
theorem dX8_firstDigit_4 : decode cX8_firstDigit 4 = .ok (.aload_n 0, 1) := by decide +kernel
theorem dX8_firstDigit_5 : decode cX8_firstDigit 5 = .ok (.getfield 13, 3) := by decide +kernel
theorem dX8_firstDigit_8 : decode cX8_firstDigit 8 = .ok (.invokevirtual 23, 3) := by decide +kernel
theorem dX8_firstDigit_11 : decode cX8_firstDigit 11 = .ok (.bipush 45, 2) := by decide +kernel
theorem dX8_firstDigit_13 : decode cX8_firstDigit 13 = .ok (.if_icmp .ne 12, 3) := by decide +kernel
theorem dX8_firstDigit_16 : decode cX8_firstDigit 16 = .ok (.aload_n 0, 1) := by decide +kernel
theorem dX8_firstDigit_17 : decode cX8_firstDigit 17 = .ok (.getfield 13, 3) := by decide +kernel
theorem dX8_firstDigit_20 : decode cX8_firstDigit 20 = .ok (.iconst 1, 1) := by decide +kernel
theorem dX8_firstDigit_21 : decode cX8_firstDigit 21 = .ok (.iadd, 1) := by decide +kernel
theorem dX8_firstDigit_22 : decode cX8_firstDigit 22 = .ok (.goto 7, 3) := by decide +kernel
theorem dX8_firstDigit_25 : decode cX8_firstDigit 25 = .ok (.aload_n 0, 1) := by decide +kernel
theorem dX8_firstDigit_26 : decode cX8_firstDigit 26 = .ok (.getfield 13, 3) := by decide +kernel
theorem dX8_firstDigit_29 : decode cX8_firstDigit 29 = .ok (.ireturn, 1) := by decide +kernel
theorem dX8_endOfToken_0 : decode cX8_endOfToken 0 = .ok (.iload_n 1, 1) := by decide +kernel
theorem dX8_endOfToken_1 : decode cX8_endOfToken 1 = .ok (.istore_n 2, 1) := by decide +kernel
theorem dX8_endOfToken_2 : decode cX8_endOfToken 2 = .ok (.iload_n 2, 1) := by decide +kernel
theorem dX8_endOfToken_3 : decode cX8_endOfToken 3 = .ok (.aload_n 0, 1) := by decide +kernel
theorem dX8_endOfToken_4 : decode cX8_endOfToken 4 = .ok (.getfield 7, 3) := by decide +kernel
theorem dX8_endOfToken_7 : decode cX8_endOfToken 7 = .ok (.if_icmp .ge 25, 3) := by decide +kernel
theorem dX8_endOfToken_10 : decode cX8_endOfToken 10 = .ok (.aload_n 0, 1) := by decide +kernel
theorem dX8_endOfToken_11 : decode cX8_endOfToken 11 = .ok (.getfield 19, 3) := by decide +kernel
theorem dX8_endOfToken_14 : decode cX8_endOfToken 14 = .ok (.iload_n 2, 1) := by decide +kernel
theorem dX8_endOfToken_15 : decode cX8_endOfToken 15 = .ok (.invokevirtual 23, 3) := by decide +kernel
theorem dX8_endOfToken_18 : decode cX8_endOfToken 18 = .ok (.invokestatic 29, 3) := by decide +kernel
theorem dX8_endOfToken_21 : decode cX8_endOfToken 21 = .ok (.ifCond .eq 5, 3) := by decide +kernel
theorem dX8_endOfToken_24 : decode cX8_endOfToken 24 = .ok (.iload_n 2, 1) := by decide +kernel
theorem dX8_endOfToken_25 : decode cX8_endOfToken 25 = .ok (.ireturn, 1) := by decide +kernel
theorem dX8_endOfToken_26 : decode cX8_endOfToken 26 = .ok (.iinc 2 1, 3) := by decide +kernel
theorem dX8_endOfToken_29 : decode cX8_endOfToken 29 = .ok (.goto (-27), 3) := by decide +kernel
theorem dX8_endOfToken_32 : decode cX8_endOfToken 32 = .ok (.aload_n 0, 1) := by decide +kernel
theorem dX8_endOfToken_33 : decode cX8_endOfToken 33 = .ok (.getfield 7, 3) := by decide +kernel
theorem dX8_endOfToken_36 : decode cX8_endOfToken 36 = .ok (.ireturn, 1) := by decide +kernel
theorem dX8_isGap_0 : decode cX8_isGap 0 = .ok (.iload_n 0, 1) := by decide +kernel
theorem dX8_isGap_1 : decode cX8_isGap 1 = .ok (.bipush 32, 2) := by decide +kernel
theorem dX8_isGap_3 : decode cX8_isGap 3 = .ok (.if_icmp .eq 21, 3) := by decide +kernel
theorem dX8_isGap_6 : decode cX8_isGap 6 = .ok (.iload_n 0, 1) := by decide +kernel
theorem dX8_isGap_7 : decode cX8_isGap 7 = .ok (.bipush 9, 2) := by decide +kernel
theorem dX8_isGap_9 : decode cX8_isGap 9 = .ok (.if_icmp .eq 15, 3) := by decide +kernel
theorem dX8_isGap_12 : decode cX8_isGap 12 = .ok (.iload_n 0, 1) := by decide +kernel
theorem dX8_isGap_13 : decode cX8_isGap 13 = .ok (.bipush 13, 2) := by decide +kernel
theorem dX8_isGap_15 : decode cX8_isGap 15 = .ok (.if_icmp .eq 9, 3) := by decide +kernel
theorem dX8_isGap_18 : decode cX8_isGap 18 = .ok (.iload_n 0, 1) := by decide +kernel
theorem dX8_isGap_19 : decode cX8_isGap 19 = .ok (.bipush 10, 2) := by decide +kernel
theorem dX8_isGap_21 : decode cX8_isGap 21 = .ok (.if_icmp .ne 7, 3) := by decide +kernel
theorem dX8_isGap_24 : decode cX8_isGap 24 = .ok (.iconst 1, 1) := by decide +kernel
theorem dX8_isGap_25 : decode cX8_isGap 25 = .ok (.goto 4, 3) := by decide +kernel
theorem dX8_isGap_28 : decode cX8_isGap 28 = .ok (.iconst 0, 1) := by decide +kernel
theorem dX8_isGap_29 : decode cX8_isGap 29 = .ok (.ireturn, 1) := by decide +kernel
theorem dX9_init_0 : decode cX9_init 0 = .ok (.aload_n 0, 1) := by decide +kernel
theorem dX9_init_1 : decode cX9_init 1 = .ok (.invokespecial 3, 3) := by decide +kernel
theorem dX9_init_4 : decode cX9_init 4 = .ok (.aload_n 0, 1) := by decide +kernel
theorem dX9_init_5 : decode cX9_init 5 = .ok (.new 9, 3) := by decide +kernel
theorem dX9_init_8 : decode cX9_init 8 = .ok (.dup, 1) := by decide +kernel
theorem dX9_init_9 : decode cX9_init 9 = .ok (.sipush 6000, 3) := by decide +kernel
theorem dX9_init_12 : decode cX9_init 12 = .ok (.invokespecial 11, 3) := by decide +kernel
theorem dX9_init_15 : decode cX9_init 15 = .ok (.putfield 14, 3) := by decide +kernel
theorem dX9_init_18 : decode cX9_init 18 = .ok (.aload_n 0, 1) := by decide +kernel
theorem dX9_init_19 : decode cX9_init 19 = .ok (.new 9, 3) := by decide +kernel
theorem dX9_init_22 : decode cX9_init 22 = .ok (.dup, 1) := by decide +kernel
theorem dX9_init_23 : decode cX9_init 23 = .ok (.sipush 6000, 3) := by decide +kernel
theorem dX9_init_26 : decode cX9_init 26 = .ok (.invokespecial 11, 3) := by decide +kernel
theorem dX9_init_29 : decode cX9_init 29 = .ok (.putfield 18, 3) := by decide +kernel
theorem dX9_init_32 : decode cX9_init 32 = .ok (.aload_n 0, 1) := by decide +kernel
theorem dX9_init_33 : decode cX9_init 33 = .ok (.new 21, 3) := by decide +kernel
theorem dX9_init_36 : decode cX9_init 36 = .ok (.dup, 1) := by decide +kernel
theorem dX9_init_37 : decode cX9_init 37 = .ok (.invokespecial 23, 3) := by decide +kernel
theorem dX9_init_40 : decode cX9_init 40 = .ok (.putfield 24, 3) := by decide +kernel
theorem dX9_init_43 : decode cX9_init 43 = .ok (.aload_n 0, 1) := by decide +kernel
theorem dX9_init_44 : decode cX9_init 44 = .ok (.new 21, 3) := by decide +kernel
theorem dX9_init_47 : decode cX9_init 47 = .ok (.dup, 1) := by decide +kernel
theorem dX9_init_48 : decode cX9_init 48 = .ok (.invokespecial 23, 3) := by decide +kernel
theorem dX9_init_51 : decode cX9_init 51 = .ok (.putfield 28, 3) := by decide +kernel
theorem dX9_init_54 : decode cX9_init 54 = .ok (.aload_n 0, 1) := by decide +kernel
theorem dX9_init_55 : decode cX9_init 55 = .ok (.new 21, 3) := by decide +kernel
theorem dX9_init_58 : decode cX9_init 58 = .ok (.dup, 1) := by decide +kernel
theorem dX9_init_59 : decode cX9_init 59 = .ok (.invokespecial 23, 3) := by decide +kernel
theorem dX9_init_62 : decode cX9_init 62 = .ok (.putfield 31, 3) := by decide +kernel
theorem dX9_init_65 : decode cX9_init 65 = .ok (.aload_n 0, 1) := by decide +kernel
theorem dX9_init_66 : decode cX9_init 66 = .ok (.new 34, 3) := by decide +kernel
theorem dX9_init_69 : decode cX9_init 69 = .ok (.dup, 1) := by decide +kernel
theorem dX9_init_70 : decode cX9_init 70 = .ok (.aload_n 0, 1) := by decide +kernel
theorem dX9_init_71 : decode cX9_init 71 = .ok (.getfield 14, 3) := by decide +kernel
theorem dX9_init_74 : decode cX9_init 74 = .ok (.aload_n 0, 1) := by decide +kernel
theorem dX9_init_75 : decode cX9_init 75 = .ok (.getfield 31, 3) := by decide +kernel
theorem dX9_init_78 : decode cX9_init 78 = .ok (.invokespecial 36, 3) := by decide +kernel
theorem dX9_init_81 : decode cX9_init 81 = .ok (.putfield 39, 3) := by decide +kernel
theorem dX9_init_84 : decode cX9_init 84 = .ok (.aload_n 0, 1) := by decide +kernel
theorem dX9_init_85 : decode cX9_init 85 = .ok (.new 43, 3) := by decide +kernel
theorem dX9_init_88 : decode cX9_init 88 = .ok (.dup, 1) := by decide +kernel
theorem dX9_init_89 : decode cX9_init 89 = .ok (.aload_n 0, 1) := by decide +kernel
theorem dX9_init_90 : decode cX9_init 90 = .ok (.getfield 28, 3) := by decide +kernel
theorem dX9_init_93 : decode cX9_init 93 = .ok (.invokespecial 45, 3) := by decide +kernel
theorem dX9_init_96 : decode cX9_init 96 = .ok (.putfield 48, 3) := by decide +kernel
theorem dX9_init_99 : decode cX9_init 99 = .ok (.aload_n 0, 1) := by decide +kernel
theorem dX9_init_100 : decode cX9_init 100 = .ok (.new 52, 3) := by decide +kernel
theorem dX9_init_103 : decode cX9_init 103 = .ok (.dup, 1) := by decide +kernel
theorem dX9_init_104 : decode cX9_init 104 = .ok (.aload_n 0, 1) := by decide +kernel
theorem dX9_init_105 : decode cX9_init 105 = .ok (.getfield 48, 3) := by decide +kernel
theorem dX9_init_108 : decode cX9_init 108 = .ok (.invokespecial 54, 3) := by decide +kernel
theorem dX9_init_111 : decode cX9_init 111 = .ok (.putfield 57, 3) := by decide +kernel
theorem dX9_init_114 : decode cX9_init 114 = .ok (.aload_n 0, 1) := by decide +kernel
theorem dX9_init_115 : decode cX9_init 115 = .ok (.iconst 0, 1) := by decide +kernel
theorem dX9_init_116 : decode cX9_init 116 = .ok (.putfield 61, 3) := by decide +kernel
theorem dX9_init_119 : decode cX9_init 119 = .ok (.aload_n 0, 1) := by decide +kernel
theorem dX9_init_120 : decode cX9_init 120 = .ok (.iconst (-1), 1) := by decide +kernel
theorem dX9_init_121 : decode cX9_init 121 = .ok (.putfield 65, 3) := by decide +kernel
theorem dX9_init_124 : decode cX9_init 124 = .ok (.return_, 1) := by decide +kernel
theorem dX9_feed_0 : decode cX9_feed 0 = .ok (.aload_n 0, 1) := by decide +kernel
theorem dX9_feed_1 : decode cX9_feed 1 = .ok (.getfield 14, 3) := by decide +kernel
theorem dX9_feed_4 : decode cX9_feed 4 = .ok (.invokevirtual 68, 3) := by decide +kernel
theorem dX9_feed_7 : decode cX9_feed 7 = .ok (.bipush 20, 2) := by decide +kernel
theorem dX9_feed_9 : decode cX9_feed 9 = .ok (.iadd, 1) := by decide +kernel
theorem dX9_feed_10 : decode cX9_feed 10 = .ok (.sipush 6000, 3) := by decide +kernel
theorem dX9_feed_13 : decode cX9_feed 13 = .ok (.if_icmp .le 5, 3) := by decide +kernel
theorem dX9_feed_16 : decode cX9_feed 16 = .ok (.iconst (-1), 1) := by decide +kernel
theorem dX9_feed_17 : decode cX9_feed 17 = .ok (.ireturn, 1) := by decide +kernel
theorem dX9_feed_18 : decode cX9_feed 18 = .ok (.aload_n 0, 1) := by decide +kernel
theorem dX9_feed_19 : decode cX9_feed 19 = .ok (.getfield 14, 3) := by decide +kernel
theorem dX9_feed_22 : decode cX9_feed 22 = .ok (.iload_n 1, 1) := by decide +kernel
theorem dX9_feed_23 : decode cX9_feed 23 = .ok (.invokevirtual 72, 3) := by decide +kernel
theorem dX9_feed_26 : decode cX9_feed 26 = .ok (.aload_n 0, 1) := by decide +kernel
theorem dX9_feed_27 : decode cX9_feed 27 = .ok (.getfield 14, 3) := by decide +kernel
theorem dX9_feed_30 : decode cX9_feed 30 = .ok (.iload_n 2, 1) := by decide +kernel
theorem dX9_feed_31 : decode cX9_feed 31 = .ok (.invokevirtual 72, 3) := by decide +kernel
theorem dX9_feed_34 : decode cX9_feed 34 = .ok (.aload_n 0, 1) := by decide +kernel
theorem dX9_feed_35 : decode cX9_feed 35 = .ok (.getfield 14, 3) := by decide +kernel
theorem dX9_feed_38 : decode cX9_feed 38 = .ok (.iload_n 3, 1) := by decide +kernel
theorem dX9_feed_39 : decode cX9_feed 39 = .ok (.invokevirtual 72, 3) := by decide +kernel
theorem dX9_feed_42 : decode cX9_feed 42 = .ok (.aload_n 0, 1) := by decide +kernel
theorem dX9_feed_43 : decode cX9_feed 43 = .ok (.getfield 14, 3) := by decide +kernel
theorem dX9_feed_46 : decode cX9_feed 46 = .ok (.iload 4, 2) := by decide +kernel
theorem dX9_feed_48 : decode cX9_feed 48 = .ok (.invokevirtual 72, 3) := by decide +kernel
theorem dX9_feed_51 : decode cX9_feed 51 = .ok (.aload_n 0, 1) := by decide +kernel
theorem dX9_feed_52 : decode cX9_feed 52 = .ok (.getfield 14, 3) := by decide +kernel
theorem dX9_feed_55 : decode cX9_feed 55 = .ok (.iload 5, 2) := by decide +kernel
theorem dX9_feed_57 : decode cX9_feed 57 = .ok (.invokevirtual 72, 3) := by decide +kernel
theorem dX9_feed_60 : decode cX9_feed 60 = .ok (.aload_n 0, 1) := by decide +kernel
theorem dX9_feed_61 : decode cX9_feed 61 = .ok (.getfield 14, 3) := by decide +kernel
theorem dX9_feed_64 : decode cX9_feed 64 = .ok (.invokevirtual 68, 3) := by decide +kernel
theorem dX9_feed_67 : decode cX9_feed 67 = .ok (.ireturn, 1) := by decide +kernel
theorem dX9_formula_0 : decode cX9_formula 0 = .ok (.aload_n 0, 1) := by decide +kernel
theorem dX9_formula_1 : decode cX9_formula 1 = .ok (.iload_n 1, 1) := by decide +kernel
theorem dX9_formula_2 : decode cX9_formula 2 = .ok (.invokevirtual 75, 3) := by decide +kernel
theorem dX9_formula_5 : decode cX9_formula 5 = .ok (.ifCond .ne 13, 3) := by decide +kernel
theorem dX9_formula_8 : decode cX9_formula 8 = .ok (.new 79, 3) := by decide +kernel
theorem dX9_formula_11 : decode cX9_formula 11 = .ok (.dup, 1) := by decide +kernel
theorem dX9_formula_12 : decode cX9_formula 12 = .ok (.ldc 81, 2) := by decide +kernel
theorem dX9_formula_14 : decode cX9_formula 14 = .ok (.invokespecial 83, 3) := by decide +kernel
theorem dX9_formula_17 : decode cX9_formula 17 = .ok (.athrow, 1) := by decide +kernel
theorem dX9_formula_18 : decode cX9_formula 18 = .ok (.aload_n 0, 1) := by decide +kernel
theorem dX9_formula_19 : decode cX9_formula 19 = .ok (.getfield 39, 3) := by decide +kernel
theorem dX9_formula_22 : decode cX9_formula 22 = .ok (.aload_n 0, 1) := by decide +kernel
theorem dX9_formula_23 : decode cX9_formula 23 = .ok (.getfield 14, 3) := by decide +kernel
theorem dX9_formula_26 : decode cX9_formula 26 = .ok (.iload_n 1, 1) := by decide +kernel
theorem dX9_formula_27 : decode cX9_formula 27 = .ok (.aload_n 0, 1) := by decide +kernel
theorem dX9_formula_28 : decode cX9_formula 28 = .ok (.getfield 31, 3) := by decide +kernel
theorem dX9_formula_31 : decode cX9_formula 31 = .ok (.invokevirtual 86, 3) := by decide +kernel
theorem dX9_formula_34 : decode cX9_formula 34 = .ok (.aload_n 0, 1) := by decide +kernel
theorem dX9_formula_35 : decode cX9_formula 35 = .ok (.invokevirtual 90, 3) := by decide +kernel
theorem dX9_formula_38 : decode cX9_formula 38 = .ok (.aload_n 0, 1) := by decide +kernel
theorem dX9_formula_39 : decode cX9_formula 39 = .ok (.getfield 61, 3) := by decide +kernel
theorem dX9_formula_42 : decode cX9_formula 42 = .ok (.ifCond .ne 32, 3) := by decide +kernel
theorem dX9_formula_45 : decode cX9_formula 45 = .ok (.aload_n 0, 1) := by decide +kernel
theorem dX9_formula_46 : decode cX9_formula 46 = .ok (.getfield 24, 3) := by decide +kernel
theorem dX9_formula_49 : decode cX9_formula 49 = .ok (.astore_n 2, 1) := by decide +kernel
theorem dX9_formula_50 : decode cX9_formula 50 = .ok (.aload_n 0, 1) := by decide +kernel
theorem dX9_formula_51 : decode cX9_formula 51 = .ok (.aload_n 0, 1) := by decide +kernel
theorem dX9_formula_52 : decode cX9_formula 52 = .ok (.getfield 31, 3) := by decide +kernel
theorem dX9_formula_55 : decode cX9_formula 55 = .ok (.putfield 24, 3) := by decide +kernel
theorem dX9_formula_58 : decode cX9_formula 58 = .ok (.aload_n 0, 1) := by decide +kernel
theorem dX9_formula_59 : decode cX9_formula 59 = .ok (.aload_n 2, 1) := by decide +kernel
theorem dX9_formula_60 : decode cX9_formula 60 = .ok (.putfield 31, 3) := by decide +kernel
theorem dX9_formula_63 : decode cX9_formula 63 = .ok (.aload_n 0, 1) := by decide +kernel
theorem dX9_formula_64 : decode cX9_formula 64 = .ok (.getfield 28, 3) := by decide +kernel
theorem dX9_formula_67 : decode cX9_formula 67 = .ok (.invokevirtual 93, 3) := by decide +kernel
theorem dX9_formula_70 : decode cX9_formula 70 = .ok (.aload_n 0, 1) := by decide +kernel
theorem dX9_formula_71 : decode cX9_formula 71 = .ok (.invokevirtual 96, 3) := by decide +kernel
theorem dX9_formula_74 : decode cX9_formula 74 = .ok (.aload_n 0, 1) := by decide +kernel
theorem dX9_formula_75 : decode cX9_formula 75 = .ok (.getfield 61, 3) := by decide +kernel
theorem dX9_formula_78 : decode cX9_formula 78 = .ok (.ireturn, 1) := by decide +kernel
theorem dX9_proof_0 : decode cX9_proof 0 = .ok (.aload_n 0, 1) := by decide +kernel
theorem dX9_proof_1 : decode cX9_proof 1 = .ok (.iload_n 1, 1) := by decide +kernel
theorem dX9_proof_2 : decode cX9_proof 2 = .ok (.invokevirtual 75, 3) := by decide +kernel
theorem dX9_proof_5 : decode cX9_proof 5 = .ok (.ifCond .ne 13, 3) := by decide +kernel
theorem dX9_proof_8 : decode cX9_proof 8 = .ok (.new 79, 3) := by decide +kernel
theorem dX9_proof_11 : decode cX9_proof 11 = .ok (.dup, 1) := by decide +kernel
theorem dX9_proof_12 : decode cX9_proof 12 = .ok (.ldc 81, 2) := by decide +kernel
theorem dX9_proof_14 : decode cX9_proof 14 = .ok (.invokespecial 83, 3) := by decide +kernel
theorem dX9_proof_17 : decode cX9_proof 17 = .ok (.athrow, 1) := by decide +kernel
theorem dX9_proof_18 : decode cX9_proof 18 = .ok (.iload_n 2, 1) := by decide +kernel
theorem dX9_proof_19 : decode cX9_proof 19 = .ok (.ifCond .eq 22, 3) := by decide +kernel
theorem dX9_proof_22 : decode cX9_proof 22 = .ok (.aload_n 0, 1) := by decide +kernel
theorem dX9_proof_23 : decode cX9_proof 23 = .ok (.getfield 39, 3) := by decide +kernel
theorem dX9_proof_26 : decode cX9_proof 26 = .ok (.aload_n 0, 1) := by decide +kernel
theorem dX9_proof_27 : decode cX9_proof 27 = .ok (.getfield 14, 3) := by decide +kernel
theorem dX9_proof_30 : decode cX9_proof 30 = .ok (.iload_n 1, 1) := by decide +kernel
theorem dX9_proof_31 : decode cX9_proof 31 = .ok (.aload_n 0, 1) := by decide +kernel
theorem dX9_proof_32 : decode cX9_proof 32 = .ok (.getfield 31, 3) := by decide +kernel
theorem dX9_proof_35 : decode cX9_proof 35 = .ok (.invokevirtual 99, 3) := by decide +kernel
theorem dX9_proof_38 : decode cX9_proof 38 = .ok (.goto 19, 3) := by decide +kernel
theorem dX9_proof_41 : decode cX9_proof 41 = .ok (.aload_n 0, 1) := by decide +kernel
theorem dX9_proof_42 : decode cX9_proof 42 = .ok (.getfield 39, 3) := by decide +kernel
theorem dX9_proof_45 : decode cX9_proof 45 = .ok (.aload_n 0, 1) := by decide +kernel
theorem dX9_proof_46 : decode cX9_proof 46 = .ok (.getfield 14, 3) := by decide +kernel
theorem dX9_proof_49 : decode cX9_proof 49 = .ok (.iload_n 1, 1) := by decide +kernel
theorem dX9_proof_50 : decode cX9_proof 50 = .ok (.aload_n 0, 1) := by decide +kernel
theorem dX9_proof_51 : decode cX9_proof 51 = .ok (.getfield 31, 3) := by decide +kernel
theorem dX9_proof_54 : decode cX9_proof 54 = .ok (.invokevirtual 102, 3) := by decide +kernel
theorem dX9_proof_57 : decode cX9_proof 57 = .ok (.aload_n 0, 1) := by decide +kernel
theorem dX9_proof_58 : decode cX9_proof 58 = .ok (.invokevirtual 90, 3) := by decide +kernel
theorem dX9_proof_61 : decode cX9_proof 61 = .ok (.aload_n 0, 1) := by decide +kernel
theorem dX9_proof_62 : decode cX9_proof 62 = .ok (.getfield 61, 3) := by decide +kernel
theorem dX9_proof_65 : decode cX9_proof 65 = .ok (.ifCond .ne 7, 3) := by decide +kernel
theorem dX9_proof_68 : decode cX9_proof 68 = .ok (.aload_n 0, 1) := by decide +kernel
theorem dX9_proof_69 : decode cX9_proof 69 = .ok (.invokevirtual 105, 3) := by decide +kernel
theorem dX9_proof_72 : decode cX9_proof 72 = .ok (.aload_n 0, 1) := by decide +kernel
theorem dX9_proof_73 : decode cX9_proof 73 = .ok (.getfield 61, 3) := by decide +kernel
theorem dX9_proof_76 : decode cX9_proof 76 = .ok (.ireturn, 1) := by decide +kernel
theorem dX9_fault_0 : decode cX9_fault 0 = .ok (.iload_n 1, 1) := by decide +kernel
theorem dX9_fault_1 : decode cX9_fault 1 = .ok (.lookupswitch 37 #[(0, 27), (1, 32)], 27) := by decide +kernel
theorem dX9_fault_28 : decode cX9_fault 28 = .ok (.aload_n 0, 1) := by decide +kernel
theorem dX9_fault_29 : decode cX9_fault 29 = .ok (.getfield 61, 3) := by decide +kernel
theorem dX9_fault_32 : decode cX9_fault 32 = .ok (.ireturn, 1) := by decide +kernel
theorem dX9_fault_33 : decode cX9_fault 33 = .ok (.aload_n 0, 1) := by decide +kernel
theorem dX9_fault_34 : decode cX9_fault 34 = .ok (.getfield 65, 3) := by decide +kernel
theorem dX9_fault_37 : decode cX9_fault 37 = .ok (.ireturn, 1) := by decide +kernel
theorem dX9_fault_38 : decode cX9_fault 38 = .ok (.new 108, 3) := by decide +kernel
theorem dX9_fault_41 : decode cX9_fault 41 = .ok (.dup, 1) := by decide +kernel
theorem dX9_fault_42 : decode cX9_fault 42 = .ok (.ldc 110, 2) := by decide +kernel
theorem dX9_fault_44 : decode cX9_fault 44 = .ok (.invokespecial 112, 3) := by decide +kernel
theorem dX9_fault_47 : decode cX9_fault 47 = .ok (.athrow, 1) := by decide +kernel
theorem dX9_weigh_0 : decode cX9_weigh 0 = .ok (.iload 4, 2) := by decide +kernel
theorem dX9_weigh_2 : decode cX9_weigh 2 = .ok (.ifCond .lt 11, 3) := by decide +kernel
theorem dX9_weigh_5 : decode cX9_weigh 5 = .ok (.iload 4, 2) := by decide +kernel
theorem dX9_weigh_7 : decode cX9_weigh 7 = .ok (.sipush 20000, 3) := by decide +kernel
theorem dX9_weigh_10 : decode cX9_weigh 10 = .ok (.if_icmp .le 13, 3) := by decide +kernel
theorem dX9_weigh_13 : decode cX9_weigh 13 = .ok (.new 79, 3) := by decide +kernel
theorem dX9_weigh_16 : decode cX9_weigh 16 = .ok (.dup, 1) := by decide +kernel
theorem dX9_weigh_17 : decode cX9_weigh 17 = .ok (.ldc 113, 2) := by decide +kernel
theorem dX9_weigh_19 : decode cX9_weigh 19 = .ok (.invokespecial 83, 3) := by decide +kernel
theorem dX9_weigh_22 : decode cX9_weigh 22 = .ok (.athrow, 1) := by decide +kernel
theorem dX9_weigh_23 : decode cX9_weigh 23 = .ok (.aload_n 0, 1) := by decide +kernel
theorem dX9_weigh_24 : decode cX9_weigh 24 = .ok (.getfield 57, 3) := by decide +kernel
theorem dX9_weigh_27 : decode cX9_weigh 27 = .ok (.iload_n 2, 1) := by decide +kernel
theorem dX9_weigh_28 : decode cX9_weigh 28 = .ok (.iload_n 3, 1) := by decide +kernel
theorem dX9_weigh_29 : decode cX9_weigh 29 = .ok (.iload 4, 2) := by decide +kernel
theorem dX9_weigh_31 : decode cX9_weigh 31 = .ok (.invokevirtual 115, 3) := by decide +kernel
theorem dX9_weigh_34 : decode cX9_weigh 34 = .ok (.aload_n 0, 1) := by decide +kernel
theorem dX9_weigh_35 : decode cX9_weigh 35 = .ok (.getfield 57, 3) := by decide +kernel
theorem dX9_weigh_38 : decode cX9_weigh 38 = .ok (.iload_n 1, 1) := by decide +kernel
theorem dX9_weigh_39 : decode cX9_weigh 39 = .ok (.ifCond .ne 7, 3) := by decide +kernel
theorem dX9_weigh_42 : decode cX9_weigh 42 = .ok (.iconst 1, 1) := by decide +kernel
theorem dX9_weigh_43 : decode cX9_weigh 43 = .ok (.goto 4, 3) := by decide +kernel
theorem dX9_weigh_46 : decode cX9_weigh 46 = .ok (.iconst 0, 1) := by decide +kernel
theorem dX9_weigh_47 : decode cX9_weigh 47 = .ok (.invokevirtual 119, 3) := by decide +kernel
theorem dX9_weigh_50 : decode cX9_weigh 50 = .ok (.iload_n 1, 1) := by decide +kernel
theorem dX9_weigh_51 : decode cX9_weigh 51 = .ok (.ifCond .eq 10, 3) := by decide +kernel
theorem dX9_weigh_54 : decode cX9_weigh 54 = .ok (.aload_n 0, 1) := by decide +kernel
theorem dX9_weigh_55 : decode cX9_weigh 55 = .ok (.getfield 57, 3) := by decide +kernel
theorem dX9_weigh_58 : decode cX9_weigh 58 = .ok (.invokevirtual 123, 3) := by decide +kernel
theorem dX9_weigh_61 : decode cX9_weigh 61 = .ok (.aload_n 0, 1) := by decide +kernel
theorem dX9_weigh_62 : decode cX9_weigh 62 = .ok (.getfield 57, 3) := by decide +kernel
theorem dX9_weigh_65 : decode cX9_weigh 65 = .ok (.invokevirtual 126, 3) := by decide +kernel
theorem dX9_weigh_68 : decode cX9_weigh 68 = .ok (.ireturn, 1) := by decide +kernel
theorem dX9_count_0 : decode cX9_count 0 = .ok (.iload_n 1, 1) := by decide +kernel
theorem dX9_count_1 : decode cX9_count 1 = .ok (.tableswitch 183 0 11 #[63, 71, 79, 87, 95, 111, 135, 143, 151, 159, 167, 175], 63) := by decide +kernel
theorem dX9_count_64 : decode cX9_count 64 = .ok (.aload_n 0, 1) := by decide +kernel
theorem dX9_count_65 : decode cX9_count 65 = .ok (.getfield 57, 3) := by decide +kernel
theorem dX9_count_68 : decode cX9_count 68 = .ok (.invokevirtual 126, 3) := by decide +kernel
theorem dX9_count_71 : decode cX9_count 71 = .ok (.ireturn, 1) := by decide +kernel
theorem dX9_count_72 : decode cX9_count 72 = .ok (.aload_n 0, 1) := by decide +kernel
theorem dX9_count_73 : decode cX9_count 73 = .ok (.getfield 57, 3) := by decide +kernel
theorem dX9_count_76 : decode cX9_count 76 = .ok (.invokevirtual 129, 3) := by decide +kernel
theorem dX9_count_79 : decode cX9_count 79 = .ok (.ireturn, 1) := by decide +kernel
theorem dX9_count_80 : decode cX9_count 80 = .ok (.aload_n 0, 1) := by decide +kernel
theorem dX9_count_81 : decode cX9_count 81 = .ok (.getfield 57, 3) := by decide +kernel
theorem dX9_count_84 : decode cX9_count 84 = .ok (.invokevirtual 132, 3) := by decide +kernel
theorem dX9_count_87 : decode cX9_count 87 = .ok (.ireturn, 1) := by decide +kernel
theorem dX9_count_88 : decode cX9_count 88 = .ok (.aload_n 0, 1) := by decide +kernel
theorem dX9_count_89 : decode cX9_count 89 = .ok (.getfield 57, 3) := by decide +kernel
theorem dX9_count_92 : decode cX9_count 92 = .ok (.invokevirtual 135, 3) := by decide +kernel
theorem dX9_count_95 : decode cX9_count 95 = .ok (.ireturn, 1) := by decide +kernel
theorem dX9_count_96 : decode cX9_count 96 = .ok (.aload_n 0, 1) := by decide +kernel
theorem dX9_count_97 : decode cX9_count 97 = .ok (.getfield 57, 3) := by decide +kernel
theorem dX9_count_100 : decode cX9_count 100 = .ok (.iconst 1, 1) := by decide +kernel
theorem dX9_count_101 : decode cX9_count 101 = .ok (.aload_n 0, 1) := by decide +kernel
theorem dX9_count_102 : decode cX9_count 102 = .ok (.getfield 48, 3) := by decide +kernel
theorem dX9_count_105 : decode cX9_count 105 = .ok (.invokevirtual 138, 3) := by decide +kernel
theorem dX9_count_108 : decode cX9_count 108 = .ok (.invokevirtual 141, 3) := by decide +kernel
theorem dX9_count_111 : decode cX9_count 111 = .ok (.ireturn, 1) := by decide +kernel
theorem dX9_count_112 : decode cX9_count 112 = .ok (.aload_n 0, 1) := by decide +kernel
theorem dX9_count_113 : decode cX9_count 113 = .ok (.getfield 57, 3) := by decide +kernel
theorem dX9_count_116 : decode cX9_count 116 = .ok (.aload_n 0, 1) := by decide +kernel
theorem dX9_count_117 : decode cX9_count 117 = .ok (.getfield 48, 3) := by decide +kernel
theorem dX9_count_120 : decode cX9_count 120 = .ok (.invokevirtual 138, 3) := by decide +kernel
theorem dX9_count_123 : decode cX9_count 123 = .ok (.iconst 1, 1) := by decide +kernel
theorem dX9_count_124 : decode cX9_count 124 = .ok (.iadd, 1) := by decide +kernel
theorem dX9_count_125 : decode cX9_count 125 = .ok (.aload_n 0, 1) := by decide +kernel
theorem dX9_count_126 : decode cX9_count 126 = .ok (.getfield 48, 3) := by decide +kernel
theorem dX9_count_129 : decode cX9_count 129 = .ok (.invokevirtual 145, 3) := by decide +kernel
theorem dX9_count_132 : decode cX9_count 132 = .ok (.invokevirtual 141, 3) := by decide +kernel
theorem dX9_count_135 : decode cX9_count 135 = .ok (.ireturn, 1) := by decide +kernel
theorem dX9_count_136 : decode cX9_count 136 = .ok (.aload_n 0, 1) := by decide +kernel
theorem dX9_count_137 : decode cX9_count 137 = .ok (.getfield 57, 3) := by decide +kernel
theorem dX9_count_140 : decode cX9_count 140 = .ok (.invokevirtual 148, 3) := by decide +kernel
theorem dX9_count_143 : decode cX9_count 143 = .ok (.ireturn, 1) := by decide +kernel
theorem dX9_count_144 : decode cX9_count 144 = .ok (.aload_n 0, 1) := by decide +kernel
theorem dX9_count_145 : decode cX9_count 145 = .ok (.getfield 57, 3) := by decide +kernel
theorem dX9_count_148 : decode cX9_count 148 = .ok (.invokevirtual 151, 3) := by decide +kernel
theorem dX9_count_151 : decode cX9_count 151 = .ok (.ireturn, 1) := by decide +kernel
theorem dX9_count_152 : decode cX9_count 152 = .ok (.aload_n 0, 1) := by decide +kernel
theorem dX9_count_153 : decode cX9_count 153 = .ok (.getfield 48, 3) := by decide +kernel
theorem dX9_count_156 : decode cX9_count 156 = .ok (.invokevirtual 138, 3) := by decide +kernel
theorem dX9_count_159 : decode cX9_count 159 = .ok (.ireturn, 1) := by decide +kernel
theorem dX9_count_160 : decode cX9_count 160 = .ok (.aload_n 0, 1) := by decide +kernel
theorem dX9_count_161 : decode cX9_count 161 = .ok (.getfield 28, 3) := by decide +kernel
theorem dX9_count_164 : decode cX9_count 164 = .ok (.invokevirtual 154, 3) := by decide +kernel
theorem dX9_count_167 : decode cX9_count 167 = .ok (.ireturn, 1) := by decide +kernel
theorem dX9_count_168 : decode cX9_count 168 = .ok (.aload_n 0, 1) := by decide +kernel
theorem dX9_count_169 : decode cX9_count 169 = .ok (.getfield 24, 3) := by decide +kernel
theorem dX9_count_172 : decode cX9_count 172 = .ok (.invokevirtual 157, 3) := by decide +kernel
theorem dX9_count_175 : decode cX9_count 175 = .ok (.ireturn, 1) := by decide +kernel
theorem dX9_count_176 : decode cX9_count 176 = .ok (.aload_n 0, 1) := by decide +kernel
theorem dX9_count_177 : decode cX9_count 177 = .ok (.getfield 14, 3) := by decide +kernel
theorem dX9_count_180 : decode cX9_count 180 = .ok (.invokevirtual 68, 3) := by decide +kernel
theorem dX9_count_183 : decode cX9_count 183 = .ok (.ireturn, 1) := by decide +kernel
theorem dX9_count_184 : decode cX9_count 184 = .ok (.new 108, 3) := by decide +kernel
theorem dX9_count_187 : decode cX9_count 187 = .ok (.dup, 1) := by decide +kernel
theorem dX9_count_188 : decode cX9_count 188 = .ok (.ldc 160, 2) := by decide +kernel
theorem dX9_count_190 : decode cX9_count 190 = .ok (.invokespecial 112, 3) := by decide +kernel
theorem dX9_count_193 : decode cX9_count 193 = .ok (.athrow, 1) := by decide +kernel
theorem dX9_clause_0 : decode cX9_clause 0 = .ok (.iload_n 1, 1) := by decide +kernel
theorem dX9_clause_1 : decode cX9_clause 1 = .ok (.iconst 1, 1) := by decide +kernel
theorem dX9_clause_2 : decode cX9_clause 2 = .ok (.if_icmp .lt 18, 3) := by decide +kernel
theorem dX9_clause_5 : decode cX9_clause 5 = .ok (.iload_n 1, 1) := by decide +kernel
theorem dX9_clause_6 : decode cX9_clause 6 = .ok (.aload_n 0, 1) := by decide +kernel
theorem dX9_clause_7 : decode cX9_clause 7 = .ok (.getfield 48, 3) := by decide +kernel
theorem dX9_clause_10 : decode cX9_clause 10 = .ok (.invokevirtual 145, 3) := by decide +kernel
theorem dX9_clause_13 : decode cX9_clause 13 = .ok (.if_icmp .gt 7, 3) := by decide +kernel
theorem dX9_clause_16 : decode cX9_clause 16 = .ok (.iload_n 2, 1) := by decide +kernel
theorem dX9_clause_17 : decode cX9_clause 17 = .ok (.ifCond .ge 13, 3) := by decide +kernel
theorem dX9_clause_20 : decode cX9_clause 20 = .ok (.new 108, 3) := by decide +kernel
theorem dX9_clause_23 : decode cX9_clause 23 = .ok (.dup, 1) := by decide +kernel
theorem dX9_clause_24 : decode cX9_clause 24 = .ok (.ldc 162, 2) := by decide +kernel
theorem dX9_clause_26 : decode cX9_clause 26 = .ok (.invokespecial 112, 3) := by decide +kernel
theorem dX9_clause_29 : decode cX9_clause 29 = .ok (.athrow, 1) := by decide +kernel
theorem dX9_clause_30 : decode cX9_clause 30 = .ok (.iload_n 2, 1) := by decide +kernel
theorem dX9_clause_31 : decode cX9_clause 31 = .ok (.lookupswitch 51 #[(0, 25), (1, 42)], 25) := by decide +kernel
theorem dX9_clause_56 : decode cX9_clause 56 = .ok (.aload_n 0, 1) := by decide +kernel
theorem dX9_clause_57 : decode cX9_clause 57 = .ok (.getfield 57, 3) := by decide +kernel
theorem dX9_clause_60 : decode cX9_clause 60 = .ok (.iload_n 1, 1) := by decide +kernel
theorem dX9_clause_61 : decode cX9_clause 61 = .ok (.invokevirtual 164, 3) := by decide +kernel
theorem dX9_clause_64 : decode cX9_clause 64 = .ok (.ifCond .eq 7, 3) := by decide +kernel
theorem dX9_clause_67 : decode cX9_clause 67 = .ok (.iconst 1, 1) := by decide +kernel
theorem dX9_clause_68 : decode cX9_clause 68 = .ok (.goto 4, 3) := by decide +kernel
theorem dX9_clause_71 : decode cX9_clause 71 = .ok (.iconst 0, 1) := by decide +kernel
theorem dX9_clause_72 : decode cX9_clause 72 = .ok (.ireturn, 1) := by decide +kernel
theorem dX9_clause_73 : decode cX9_clause 73 = .ok (.aload_n 0, 1) := by decide +kernel
theorem dX9_clause_74 : decode cX9_clause 74 = .ok (.getfield 48, 3) := by decide +kernel
theorem dX9_clause_77 : decode cX9_clause 77 = .ok (.iload_n 1, 1) := by decide +kernel
theorem dX9_clause_78 : decode cX9_clause 78 = .ok (.invokevirtual 167, 3) := by decide +kernel
theorem dX9_clause_81 : decode cX9_clause 81 = .ok (.ireturn, 1) := by decide +kernel
theorem dX9_clause_82 : decode cX9_clause 82 = .ok (.aload_n 0, 1) := by decide +kernel
theorem dX9_clause_83 : decode cX9_clause 83 = .ok (.getfield 48, 3) := by decide +kernel
theorem dX9_clause_86 : decode cX9_clause 86 = .ok (.iload_n 1, 1) := by decide +kernel
theorem dX9_clause_87 : decode cX9_clause 87 = .ok (.iload_n 2, 1) := by decide +kernel
theorem dX9_clause_88 : decode cX9_clause 88 = .ok (.iconst 2, 1) := by decide +kernel
theorem dX9_clause_89 : decode cX9_clause 89 = .ok (.isub, 1) := by decide +kernel
theorem dX9_clause_90 : decode cX9_clause 90 = .ok (.invokevirtual 171, 3) := by decide +kernel
theorem dX9_clause_93 : decode cX9_clause 93 = .ok (.ireturn, 1) := by decide +kernel
theorem dX9_step_0 : decode cX9_step 0 = .ok (.iload_n 1, 1) := by decide +kernel
theorem dX9_step_1 : decode cX9_step 1 = .ok (.iconst 1, 1) := by decide +kernel
theorem dX9_step_2 : decode cX9_step 2 = .ok (.if_icmp .lt 18, 3) := by decide +kernel
theorem dX9_step_5 : decode cX9_step 5 = .ok (.iload_n 1, 1) := by decide +kernel
theorem dX9_step_6 : decode cX9_step 6 = .ok (.aload_n 0, 1) := by decide +kernel
theorem dX9_step_7 : decode cX9_step 7 = .ok (.getfield 28, 3) := by decide +kernel
theorem dX9_step_10 : decode cX9_step 10 = .ok (.invokevirtual 154, 3) := by decide +kernel
theorem dX9_step_13 : decode cX9_step 13 = .ok (.if_icmp .gt 7, 3) := by decide +kernel
theorem dX9_step_16 : decode cX9_step 16 = .ok (.iload_n 2, 1) := by decide +kernel
theorem dX9_step_17 : decode cX9_step 17 = .ok (.ifCond .ge 13, 3) := by decide +kernel
theorem dX9_step_20 : decode cX9_step 20 = .ok (.new 108, 3) := by decide +kernel
theorem dX9_step_23 : decode cX9_step 23 = .ok (.dup, 1) := by decide +kernel
theorem dX9_step_24 : decode cX9_step 24 = .ok (.ldc 174, 2) := by decide +kernel
theorem dX9_step_26 : decode cX9_step 26 = .ok (.invokespecial 112, 3) := by decide +kernel
theorem dX9_step_29 : decode cX9_step 29 = .ok (.athrow, 1) := by decide +kernel
theorem dX9_step_30 : decode cX9_step 30 = .ok (.iload_n 2, 1) := by decide +kernel
theorem dX9_step_31 : decode cX9_step 31 = .ok (.tableswitch 60 0 2 #[25, 42, 51], 25) := by decide +kernel
theorem dX9_step_56 : decode cX9_step 56 = .ok (.aload_n 0, 1) := by decide +kernel
theorem dX9_step_57 : decode cX9_step 57 = .ok (.getfield 28, 3) := by decide +kernel
theorem dX9_step_60 : decode cX9_step 60 = .ok (.iload_n 1, 1) := by decide +kernel
theorem dX9_step_61 : decode cX9_step 61 = .ok (.invokevirtual 176, 3) := by decide +kernel
theorem dX9_step_64 : decode cX9_step 64 = .ok (.ifCond .eq 7, 3) := by decide +kernel
theorem dX9_step_67 : decode cX9_step 67 = .ok (.iconst 1, 1) := by decide +kernel
theorem dX9_step_68 : decode cX9_step 68 = .ok (.goto 4, 3) := by decide +kernel
theorem dX9_step_71 : decode cX9_step 71 = .ok (.iconst 0, 1) := by decide +kernel
theorem dX9_step_72 : decode cX9_step 72 = .ok (.ireturn, 1) := by decide +kernel
theorem dX9_step_73 : decode cX9_step 73 = .ok (.aload_n 0, 1) := by decide +kernel
theorem dX9_step_74 : decode cX9_step 74 = .ok (.getfield 48, 3) := by decide +kernel
theorem dX9_step_77 : decode cX9_step 77 = .ok (.iload_n 1, 1) := by decide +kernel
theorem dX9_step_78 : decode cX9_step 78 = .ok (.invokevirtual 179, 3) := by decide +kernel
theorem dX9_step_81 : decode cX9_step 81 = .ok (.ireturn, 1) := by decide +kernel
theorem dX9_step_82 : decode cX9_step 82 = .ok (.aload_n 0, 1) := by decide +kernel
theorem dX9_step_83 : decode cX9_step 83 = .ok (.getfield 28, 3) := by decide +kernel
theorem dX9_step_86 : decode cX9_step 86 = .ok (.iload_n 1, 1) := by decide +kernel
theorem dX9_step_87 : decode cX9_step 87 = .ok (.invokevirtual 182, 3) := by decide +kernel
theorem dX9_step_90 : decode cX9_step 90 = .ok (.ireturn, 1) := by decide +kernel
theorem dX9_step_91 : decode cX9_step 91 = .ok (.aload_n 0, 1) := by decide +kernel
theorem dX9_step_92 : decode cX9_step 92 = .ok (.getfield 28, 3) := by decide +kernel
theorem dX9_step_95 : decode cX9_step 95 = .ok (.iload_n 1, 1) := by decide +kernel
theorem dX9_step_96 : decode cX9_step 96 = .ok (.iload_n 2, 1) := by decide +kernel
theorem dX9_step_97 : decode cX9_step 97 = .ok (.iconst 3, 1) := by decide +kernel
theorem dX9_step_98 : decode cX9_step 98 = .ok (.isub, 1) := by decide +kernel
theorem dX9_step_99 : decode cX9_step 99 = .ok (.invokevirtual 183, 3) := by decide +kernel
theorem dX9_step_102 : decode cX9_step 102 = .ok (.ireturn, 1) := by decide +kernel
theorem dX9_hint_0 : decode cX9_hint 0 = .ok (.iload_n 1, 1) := by decide +kernel
theorem dX9_hint_1 : decode cX9_hint 1 = .ok (.ifCond .lt 18, 3) := by decide +kernel
theorem dX9_hint_4 : decode cX9_hint 4 = .ok (.iload_n 1, 1) := by decide +kernel
theorem dX9_hint_5 : decode cX9_hint 5 = .ok (.aload_n 0, 1) := by decide +kernel
theorem dX9_hint_6 : decode cX9_hint 6 = .ok (.getfield 48, 3) := by decide +kernel
theorem dX9_hint_9 : decode cX9_hint 9 = .ok (.invokevirtual 145, 3) := by decide +kernel
theorem dX9_hint_12 : decode cX9_hint 12 = .ok (.if_icmp .gt 7, 3) := by decide +kernel
theorem dX9_hint_15 : decode cX9_hint 15 = .ok (.iload_n 2, 1) := by decide +kernel
theorem dX9_hint_16 : decode cX9_hint 16 = .ok (.ifCond .ge 13, 3) := by decide +kernel
theorem dX9_hint_19 : decode cX9_hint 19 = .ok (.new 108, 3) := by decide +kernel
theorem dX9_hint_22 : decode cX9_hint 22 = .ok (.dup, 1) := by decide +kernel
theorem dX9_hint_23 : decode cX9_hint 23 = .ok (.ldc 162, 2) := by decide +kernel
theorem dX9_hint_25 : decode cX9_hint 25 = .ok (.invokespecial 112, 3) := by decide +kernel
theorem dX9_hint_28 : decode cX9_hint 28 = .ok (.athrow, 1) := by decide +kernel
theorem dX9_hint_29 : decode cX9_hint 29 = .ok (.aload_n 0, 1) := by decide +kernel
theorem dX9_hint_30 : decode cX9_hint 30 = .ok (.getfield 57, 3) := by decide +kernel
theorem dX9_hint_33 : decode cX9_hint 33 = .ok (.iload_n 1, 1) := by decide +kernel
theorem dX9_hint_34 : decode cX9_hint 34 = .ok (.iload_n 2, 1) := by decide +kernel
theorem dX9_hint_35 : decode cX9_hint 35 = .ok (.invokevirtual 184, 3) := by decide +kernel
theorem dX9_hint_38 : decode cX9_hint 38 = .ok (.ireturn, 1) := by decide +kernel
theorem dX9_shorter_0 : decode cX9_shorter 0 = .ok (.aload_n 0, 1) := by decide +kernel
theorem dX9_shorter_1 : decode cX9_shorter 1 = .ok (.getfield 18, 3) := by decide +kernel
theorem dX9_shorter_4 : decode cX9_shorter 4 = .ok (.invokevirtual 187, 3) := by decide +kernel
theorem dX9_shorter_7 : decode cX9_shorter 7 = .ok (.aload_n 0, 1) := by decide +kernel
theorem dX9_shorter_8 : decode cX9_shorter 8 = .ok (.getfield 57, 3) := by decide +kernel
theorem dX9_shorter_11 : decode cX9_shorter 11 = .ok (.invokevirtual 188, 3) := by decide +kernel
theorem dX9_shorter_14 : decode cX9_shorter 14 = .ok (.istore_n 1, 1) := by decide +kernel
theorem dX9_shorter_15 : decode cX9_shorter 15 = .ok (.iconst 1, 1) := by decide +kernel
theorem dX9_shorter_16 : decode cX9_shorter 16 = .ok (.istore_n 2, 1) := by decide +kernel
theorem dX9_shorter_17 : decode cX9_shorter 17 = .ok (.iload_n 2, 1) := by decide +kernel
theorem dX9_shorter_18 : decode cX9_shorter 18 = .ok (.iload_n 1, 1) := by decide +kernel
theorem dX9_shorter_19 : decode cX9_shorter 19 = .ok (.if_icmp .gt 25, 3) := by decide +kernel
theorem dX9_shorter_22 : decode cX9_shorter 22 = .ok (.aload_n 0, 1) := by decide +kernel
theorem dX9_shorter_23 : decode cX9_shorter 23 = .ok (.getfield 57, 3) := by decide +kernel
theorem dX9_shorter_26 : decode cX9_shorter 26 = .ok (.iload_n 2, 1) := by decide +kernel
theorem dX9_shorter_27 : decode cX9_shorter 27 = .ok (.invokevirtual 191, 3) := by decide +kernel
theorem dX9_shorter_30 : decode cX9_shorter 30 = .ok (.ifCond .eq 8, 3) := by decide +kernel
theorem dX9_shorter_33 : decode cX9_shorter 33 = .ok (.aload_n 0, 1) := by decide +kernel
theorem dX9_shorter_34 : decode cX9_shorter 34 = .ok (.iload_n 2, 1) := by decide +kernel
theorem dX9_shorter_35 : decode cX9_shorter 35 = .ok (.invokevirtual 194, 3) := by decide +kernel
theorem dX9_shorter_38 : decode cX9_shorter 38 = .ok (.iinc 2 1, 3) := by decide +kernel
theorem dX9_shorter_41 : decode cX9_shorter 41 = .ok (.goto (-24), 3) := by decide +kernel
theorem dX9_shorter_44 : decode cX9_shorter 44 = .ok (.aload_n 0, 1) := by decide +kernel
theorem dX9_shorter_45 : decode cX9_shorter 45 = .ok (.getfield 18, 3) := by decide +kernel
theorem dX9_shorter_48 : decode cX9_shorter 48 = .ok (.invokevirtual 68, 3) := by decide +kernel
theorem dX9_shorter_51 : decode cX9_shorter 51 = .ok (.ireturn, 1) := by decide +kernel
theorem dX9_out_0 : decode cX9_out 0 = .ok (.iload_n 1, 1) := by decide +kernel
theorem dX9_out_1 : decode cX9_out 1 = .ok (.ifCond .lt 14, 3) := by decide +kernel
theorem dX9_out_4 : decode cX9_out 4 = .ok (.iload_n 1, 1) := by decide +kernel
theorem dX9_out_5 : decode cX9_out 5 = .ok (.aload_n 0, 1) := by decide +kernel
theorem dX9_out_6 : decode cX9_out 6 = .ok (.getfield 18, 3) := by decide +kernel
theorem dX9_out_9 : decode cX9_out 9 = .ok (.invokevirtual 197, 3) := by decide +kernel
theorem dX9_out_12 : decode cX9_out 12 = .ok (.if_icmp .lt 13, 3) := by decide +kernel
theorem dX9_out_15 : decode cX9_out 15 = .ok (.new 108, 3) := by decide +kernel
theorem dX9_out_18 : decode cX9_out 18 = .ok (.dup, 1) := by decide +kernel
theorem dX9_out_19 : decode cX9_out 19 = .ok (.ldc 200, 2) := by decide +kernel
theorem dX9_out_21 : decode cX9_out 21 = .ok (.invokespecial 112, 3) := by decide +kernel
theorem dX9_out_24 : decode cX9_out 24 = .ok (.athrow, 1) := by decide +kernel
theorem dX9_out_25 : decode cX9_out 25 = .ok (.aload_n 0, 1) := by decide +kernel
theorem dX9_out_26 : decode cX9_out 26 = .ok (.getfield 18, 3) := by decide +kernel
theorem dX9_out_29 : decode cX9_out 29 = .ok (.iload_n 1, 1) := by decide +kernel
theorem dX9_out_30 : decode cX9_out 30 = .ok (.invokevirtual 202, 3) := by decide +kernel
theorem dX9_out_33 : decode cX9_out 33 = .ok (.ireturn, 1) := by decide +kernel
theorem dX9_takeShorter_0 : decode cX9_takeShorter 0 = .ok (.aload_n 0, 1) := by decide +kernel
theorem dX9_takeShorter_1 : decode cX9_takeShorter 1 = .ok (.getfield 18, 3) := by decide +kernel
theorem dX9_takeShorter_4 : decode cX9_takeShorter 4 = .ok (.invokevirtual 68, 3) := by decide +kernel
theorem dX9_takeShorter_7 : decode cX9_takeShorter 7 = .ok (.aload_n 0, 1) := by decide +kernel
theorem dX9_takeShorter_8 : decode cX9_takeShorter 8 = .ok (.getfield 18, 3) := by decide +kernel
theorem dX9_takeShorter_11 : decode cX9_takeShorter 11 = .ok (.invokevirtual 197, 3) := by decide +kernel
theorem dX9_takeShorter_14 : decode cX9_takeShorter 14 = .ok (.if_icmp .le 5, 3) := by decide +kernel
theorem dX9_takeShorter_17 : decode cX9_takeShorter 17 = .ok (.iconst (-1), 1) := by decide +kernel
theorem dX9_takeShorter_18 : decode cX9_takeShorter 18 = .ok (.ireturn, 1) := by decide +kernel
theorem dX9_takeShorter_19 : decode cX9_takeShorter 19 = .ok (.aload_n 0, 1) := by decide +kernel
theorem dX9_takeShorter_20 : decode cX9_takeShorter 20 = .ok (.getfield 39, 3) := by decide +kernel
theorem dX9_takeShorter_23 : decode cX9_takeShorter 23 = .ok (.aload_n 0, 1) := by decide +kernel
theorem dX9_takeShorter_24 : decode cX9_takeShorter 24 = .ok (.getfield 18, 3) := by decide +kernel
theorem dX9_takeShorter_27 : decode cX9_takeShorter 27 = .ok (.aload_n 0, 1) := by decide +kernel
theorem dX9_takeShorter_28 : decode cX9_takeShorter 28 = .ok (.getfield 18, 3) := by decide +kernel
theorem dX9_takeShorter_31 : decode cX9_takeShorter 31 = .ok (.invokevirtual 197, 3) := by decide +kernel
theorem dX9_takeShorter_34 : decode cX9_takeShorter 34 = .ok (.aload_n 0, 1) := by decide +kernel
theorem dX9_takeShorter_35 : decode cX9_takeShorter 35 = .ok (.getfield 31, 3) := by decide +kernel
theorem dX9_takeShorter_38 : decode cX9_takeShorter 38 = .ok (.invokevirtual 102, 3) := by decide +kernel
theorem dX9_takeShorter_41 : decode cX9_takeShorter 41 = .ok (.aload_n 0, 1) := by decide +kernel
theorem dX9_takeShorter_42 : decode cX9_takeShorter 42 = .ok (.invokevirtual 105, 3) := by decide +kernel
theorem dX9_takeShorter_45 : decode cX9_takeShorter 45 = .ok (.aload_n 0, 1) := by decide +kernel
theorem dX9_takeShorter_46 : decode cX9_takeShorter 46 = .ok (.getfield 28, 3) := by decide +kernel
theorem dX9_takeShorter_49 : decode cX9_takeShorter 49 = .ok (.invokevirtual 154, 3) := by decide +kernel
theorem dX9_takeShorter_52 : decode cX9_takeShorter 52 = .ok (.ireturn, 1) := by decide +kernel
theorem dX9_tapeHas_0 : decode cX9_tapeHas 0 = .ok (.iload_n 1, 1) := by decide +kernel
theorem dX9_tapeHas_1 : decode cX9_tapeHas 1 = .ok (.ifCond .lt 18, 3) := by decide +kernel
theorem dX9_tapeHas_4 : decode cX9_tapeHas 4 = .ok (.iload_n 1, 1) := by decide +kernel
theorem dX9_tapeHas_5 : decode cX9_tapeHas 5 = .ok (.aload_n 0, 1) := by decide +kernel
theorem dX9_tapeHas_6 : decode cX9_tapeHas 6 = .ok (.getfield 14, 3) := by decide +kernel
theorem dX9_tapeHas_9 : decode cX9_tapeHas 9 = .ok (.invokevirtual 68, 3) := by decide +kernel
theorem dX9_tapeHas_12 : decode cX9_tapeHas 12 = .ok (.if_icmp .gt 7, 3) := by decide +kernel
theorem dX9_tapeHas_15 : decode cX9_tapeHas 15 = .ok (.iconst 1, 1) := by decide +kernel
theorem dX9_tapeHas_16 : decode cX9_tapeHas 16 = .ok (.goto 4, 3) := by decide +kernel
theorem dX9_tapeHas_19 : decode cX9_tapeHas 19 = .ok (.iconst 0, 1) := by decide +kernel
theorem dX9_tapeHas_20 : decode cX9_tapeHas 20 = .ok (.ireturn, 1) := by decide +kernel
theorem dX9_noteReading_0 : decode cX9_noteReading 0 = .ok (.aload_n 0, 1) := by decide +kernel
theorem dX9_noteReading_1 : decode cX9_noteReading 1 = .ok (.aload_n 0, 1) := by decide +kernel
theorem dX9_noteReading_2 : decode cX9_noteReading 2 = .ok (.getfield 39, 3) := by decide +kernel
theorem dX9_noteReading_5 : decode cX9_noteReading 5 = .ok (.invokevirtual 205, 3) := by decide +kernel
theorem dX9_noteReading_8 : decode cX9_noteReading 8 = .ok (.putfield 61, 3) := by decide +kernel
theorem dX9_noteReading_11 : decode cX9_noteReading 11 = .ok (.aload_n 0, 1) := by decide +kernel
theorem dX9_noteReading_12 : decode cX9_noteReading 12 = .ok (.aload_n 0, 1) := by decide +kernel
theorem dX9_noteReading_13 : decode cX9_noteReading 13 = .ok (.getfield 39, 3) := by decide +kernel
theorem dX9_noteReading_16 : decode cX9_noteReading 16 = .ok (.invokevirtual 208, 3) := by decide +kernel
theorem dX9_noteReading_19 : decode cX9_noteReading 19 = .ok (.putfield 65, 3) := by decide +kernel
theorem dX9_noteReading_22 : decode cX9_noteReading 22 = .ok (.aload_n 0, 1) := by decide +kernel
theorem dX9_noteReading_23 : decode cX9_noteReading 23 = .ok (.getfield 14, 3) := by decide +kernel
theorem dX9_noteReading_26 : decode cX9_noteReading 26 = .ok (.invokevirtual 187, 3) := by decide +kernel
theorem dX9_noteReading_29 : decode cX9_noteReading 29 = .ok (.return_, 1) := by decide +kernel
theorem dX9_takeSpareAsProof_0 : decode cX9_takeSpareAsProof 0 = .ok (.aload_n 0, 1) := by decide +kernel
theorem dX9_takeSpareAsProof_1 : decode cX9_takeSpareAsProof 1 = .ok (.getfield 28, 3) := by decide +kernel
theorem dX9_takeSpareAsProof_4 : decode cX9_takeSpareAsProof 4 = .ok (.astore_n 1, 1) := by decide +kernel
theorem dX9_takeSpareAsProof_5 : decode cX9_takeSpareAsProof 5 = .ok (.aload_n 0, 1) := by decide +kernel
theorem dX9_takeSpareAsProof_6 : decode cX9_takeSpareAsProof 6 = .ok (.aload_n 0, 1) := by decide +kernel
theorem dX9_takeSpareAsProof_7 : decode cX9_takeSpareAsProof 7 = .ok (.getfield 31, 3) := by decide +kernel
theorem dX9_takeSpareAsProof_10 : decode cX9_takeSpareAsProof 10 = .ok (.putfield 28, 3) := by decide +kernel
theorem dX9_takeSpareAsProof_13 : decode cX9_takeSpareAsProof 13 = .ok (.aload_n 0, 1) := by decide +kernel
theorem dX9_takeSpareAsProof_14 : decode cX9_takeSpareAsProof 14 = .ok (.aload_n 1, 1) := by decide +kernel
theorem dX9_takeSpareAsProof_15 : decode cX9_takeSpareAsProof 15 = .ok (.putfield 31, 3) := by decide +kernel
theorem dX9_takeSpareAsProof_18 : decode cX9_takeSpareAsProof 18 = .ok (.aload_n 0, 1) := by decide +kernel
theorem dX9_takeSpareAsProof_19 : decode cX9_takeSpareAsProof 19 = .ok (.invokevirtual 96, 3) := by decide +kernel
theorem dX9_takeSpareAsProof_22 : decode cX9_takeSpareAsProof 22 = .ok (.return_, 1) := by decide +kernel
theorem dX9_startAnew_0 : decode cX9_startAnew 0 = .ok (.aload_n 0, 1) := by decide +kernel
theorem dX9_startAnew_1 : decode cX9_startAnew 1 = .ok (.getfield 48, 3) := by decide +kernel
theorem dX9_startAnew_4 : decode cX9_startAnew 4 = .ok (.aload_n 0, 1) := by decide +kernel
theorem dX9_startAnew_5 : decode cX9_startAnew 5 = .ok (.getfield 24, 3) := by decide +kernel
theorem dX9_startAnew_8 : decode cX9_startAnew 8 = .ok (.aload_n 0, 1) := by decide +kernel
theorem dX9_startAnew_9 : decode cX9_startAnew 9 = .ok (.getfield 28, 3) := by decide +kernel
theorem dX9_startAnew_12 : decode cX9_startAnew 12 = .ok (.invokevirtual 211, 3) := by decide +kernel
theorem dX9_startAnew_15 : decode cX9_startAnew 15 = .ok (.aload_n 0, 1) := by decide +kernel
theorem dX9_startAnew_16 : decode cX9_startAnew 16 = .ok (.getfield 57, 3) := by decide +kernel
theorem dX9_startAnew_19 : decode cX9_startAnew 19 = .ok (.invokevirtual 215, 3) := by decide +kernel
theorem dX9_startAnew_22 : decode cX9_startAnew 22 = .ok (.return_, 1) := by decide +kernel
theorem dX9_writeStep_0 : decode cX9_writeStep 0 = .ok (.aload_n 0, 1) := by decide +kernel
theorem dX9_writeStep_1 : decode cX9_writeStep 1 = .ok (.getfield 28, 3) := by decide +kernel
theorem dX9_writeStep_4 : decode cX9_writeStep 4 = .ok (.iload_n 1, 1) := by decide +kernel
theorem dX9_writeStep_5 : decode cX9_writeStep 5 = .ok (.invokevirtual 176, 3) := by decide +kernel
theorem dX9_writeStep_8 : decode cX9_writeStep 8 = .ok (.ifCond .eq 21, 3) := by decide +kernel
theorem dX9_writeStep_11 : decode cX9_writeStep 11 = .ok (.aload_n 0, 1) := by decide +kernel
theorem dX9_writeStep_12 : decode cX9_writeStep 12 = .ok (.getfield 18, 3) := by decide +kernel
theorem dX9_writeStep_15 : decode cX9_writeStep 15 = .ok (.bipush 100, 2) := by decide +kernel
theorem dX9_writeStep_17 : decode cX9_writeStep 17 = .ok (.invokevirtual 218, 3) := by decide +kernel
theorem dX9_writeStep_20 : decode cX9_writeStep 20 = .ok (.aload_n 0, 1) := by decide +kernel
theorem dX9_writeStep_21 : decode cX9_writeStep 21 = .ok (.getfield 18, 3) := by decide +kernel
theorem dX9_writeStep_24 : decode cX9_writeStep 24 = .ok (.bipush 32, 2) := by decide +kernel
theorem dX9_writeStep_26 : decode cX9_writeStep 26 = .ok (.invokevirtual 218, 3) := by decide +kernel
theorem dX9_writeStep_29 : decode cX9_writeStep 29 = .ok (.aload_n 0, 1) := by decide +kernel
theorem dX9_writeStep_30 : decode cX9_writeStep 30 = .ok (.getfield 28, 3) := by decide +kernel
theorem dX9_writeStep_33 : decode cX9_writeStep 33 = .ok (.iload_n 1, 1) := by decide +kernel
theorem dX9_writeStep_34 : decode cX9_writeStep 34 = .ok (.invokevirtual 182, 3) := by decide +kernel
theorem dX9_writeStep_37 : decode cX9_writeStep 37 = .ok (.istore_n 2, 1) := by decide +kernel
theorem dX9_writeStep_38 : decode cX9_writeStep 38 = .ok (.iconst 0, 1) := by decide +kernel
theorem dX9_writeStep_39 : decode cX9_writeStep 39 = .ok (.istore_n 3, 1) := by decide +kernel
theorem dX9_writeStep_40 : decode cX9_writeStep 40 = .ok (.iload_n 3, 1) := by decide +kernel
theorem dX9_writeStep_41 : decode cX9_writeStep 41 = .ok (.iload_n 2, 1) := by decide +kernel
theorem dX9_writeStep_42 : decode cX9_writeStep 42 = .ok (.if_icmp .ge 34, 3) := by decide +kernel
theorem dX9_writeStep_45 : decode cX9_writeStep 45 = .ok (.aload_n 0, 1) := by decide +kernel
theorem dX9_writeStep_46 : decode cX9_writeStep 46 = .ok (.getfield 18, 3) := by decide +kernel
theorem dX9_writeStep_49 : decode cX9_writeStep 49 = .ok (.aload_n 0, 1) := by decide +kernel
theorem dX9_writeStep_50 : decode cX9_writeStep 50 = .ok (.getfield 28, 3) := by decide +kernel
theorem dX9_writeStep_53 : decode cX9_writeStep 53 = .ok (.iload_n 1, 1) := by decide +kernel
theorem dX9_writeStep_54 : decode cX9_writeStep 54 = .ok (.iload_n 3, 1) := by decide +kernel
theorem dX9_writeStep_55 : decode cX9_writeStep 55 = .ok (.invokevirtual 183, 3) := by decide +kernel
theorem dX9_writeStep_58 : decode cX9_writeStep 58 = .ok (.invokevirtual 221, 3) := by decide +kernel
theorem dX9_writeStep_61 : decode cX9_writeStep 61 = .ok (.aload_n 0, 1) := by decide +kernel
theorem dX9_writeStep_62 : decode cX9_writeStep 62 = .ok (.getfield 18, 3) := by decide +kernel
theorem dX9_writeStep_65 : decode cX9_writeStep 65 = .ok (.bipush 32, 2) := by decide +kernel
theorem dX9_writeStep_67 : decode cX9_writeStep 67 = .ok (.invokevirtual 218, 3) := by decide +kernel
theorem dX9_writeStep_70 : decode cX9_writeStep 70 = .ok (.iinc 3 1, 3) := by decide +kernel
theorem dX9_writeStep_73 : decode cX9_writeStep 73 = .ok (.goto (-33), 3) := by decide +kernel
theorem dX9_writeStep_76 : decode cX9_writeStep 76 = .ok (.aload_n 0, 1) := by decide +kernel
theorem dX9_writeStep_77 : decode cX9_writeStep 77 = .ok (.getfield 18, 3) := by decide +kernel
theorem dX9_writeStep_80 : decode cX9_writeStep 80 = .ok (.bipush 48, 2) := by decide +kernel
theorem dX9_writeStep_82 : decode cX9_writeStep 82 = .ok (.invokevirtual 218, 3) := by decide +kernel
theorem dX9_writeStep_85 : decode cX9_writeStep 85 = .ok (.aload_n 0, 1) := by decide +kernel
theorem dX9_writeStep_86 : decode cX9_writeStep 86 = .ok (.getfield 18, 3) := by decide +kernel
theorem dX9_writeStep_89 : decode cX9_writeStep 89 = .ok (.bipush 10, 2) := by decide +kernel
theorem dX9_writeStep_91 : decode cX9_writeStep 91 = .ok (.invokevirtual 218, 3) := by decide +kernel
theorem dX9_writeStep_94 : decode cX9_writeStep 94 = .ok (.return_, 1) := by decide +kernel
theorem dX9_codeOf_0 : decode cX9_codeOf 0 = .ok (.iload_n 0, 1) := by decide +kernel
theorem dX9_codeOf_1 : decode cX9_codeOf 1 = .ok (.ifCond .lt 9, 3) := by decide +kernel
theorem dX9_codeOf_4 : decode cX9_codeOf 4 = .ok (.iconst 2, 1) := by decide +kernel
theorem dX9_codeOf_5 : decode cX9_codeOf 5 = .ok (.iload_n 0, 1) := by decide +kernel
theorem dX9_codeOf_6 : decode cX9_codeOf 6 = .ok (.imul, 1) := by decide +kernel
theorem dX9_codeOf_7 : decode cX9_codeOf 7 = .ok (.goto 8, 3) := by decide +kernel
theorem dX9_codeOf_10 : decode cX9_codeOf 10 = .ok (.iconst 1, 1) := by decide +kernel
theorem dX9_codeOf_11 : decode cX9_codeOf 11 = .ok (.iconst 2, 1) := by decide +kernel
theorem dX9_codeOf_12 : decode cX9_codeOf 12 = .ok (.iload_n 0, 1) := by decide +kernel
theorem dX9_codeOf_13 : decode cX9_codeOf 13 = .ok (.imul, 1) := by decide +kernel
theorem dX9_codeOf_14 : decode cX9_codeOf 14 = .ok (.isub, 1) := by decide +kernel
theorem dX9_codeOf_15 : decode cX9_codeOf 15 = .ok (.ireturn, 1) := by decide +kernel
end
section
theorem dX10_init_0 : decode cX10_init 0 = .ok (.aload_n 0, 1) := by decide +kernel
theorem dX10_init_1 : decode cX10_init 1 = .ok (.invokespecial 1, 3) := by decide +kernel
theorem dX10_init_4 : decode cX10_init 4 = .ok (.aload_n 0, 1) := by decide +kernel
theorem dX10_init_5 : decode cX10_init 5 = .ok (.sipush 6000, 3) := by decide +kernel
theorem dX10_init_8 : decode cX10_init 8 = .ok (.newarray .int, 2) := by decide +kernel
theorem dX10_init_10 : decode cX10_init 10 = .ok (.putfield 9, 3) := by decide +kernel
theorem dX10_init_13 : decode cX10_init 13 = .ok (.aload_n 0, 1) := by decide +kernel
theorem dX10_init_14 : decode cX10_init 14 = .ok (.sipush 6000, 3) := by decide +kernel
theorem dX10_init_17 : decode cX10_init 17 = .ok (.newarray .int, 2) := by decide +kernel
theorem dX10_init_19 : decode cX10_init 19 = .ok (.putfield 13, 3) := by decide +kernel
theorem dX10_init_22 : decode cX10_init 22 = .ok (.aload_n 0, 1) := by decide +kernel
theorem dX10_init_23 : decode cX10_init 23 = .ok (.iconst (-1), 1) := by decide +kernel
theorem dX10_init_24 : decode cX10_init 24 = .ok (.putfield 16, 3) := by decide +kernel
theorem dX10_init_27 : decode cX10_init 27 = .ok (.aload_n 0, 1) := by decide +kernel
theorem dX10_init_28 : decode cX10_init 28 = .ok (.sipush 301, 3) := by decide +kernel
theorem dX10_init_31 : decode cX10_init 31 = .ok (.newarray .int, 2) := by decide +kernel
theorem dX10_init_33 : decode cX10_init 33 = .ok (.putfield 20, 3) := by decide +kernel
theorem dX10_init_36 : decode cX10_init 36 = .ok (.aload_n 0, 1) := by decide +kernel
theorem dX10_init_37 : decode cX10_init 37 = .ok (.sipush 301, 3) := by decide +kernel
theorem dX10_init_40 : decode cX10_init 40 = .ok (.newarray .int, 2) := by decide +kernel
theorem dX10_init_42 : decode cX10_init 42 = .ok (.putfield 23, 3) := by decide +kernel
theorem dX10_init_45 : decode cX10_init 45 = .ok (.aload_n 0, 1) := by decide +kernel
theorem dX10_init_46 : decode cX10_init 46 = .ok (.sipush 2000, 3) := by decide +kernel
theorem dX10_init_49 : decode cX10_init 49 = .ok (.newarray .int, 2) := by decide +kernel
theorem dX10_init_51 : decode cX10_init 51 = .ok (.putfield 26, 3) := by decide +kernel
theorem dX10_init_54 : decode cX10_init 54 = .ok (.aload_n 0, 1) := by decide +kernel
theorem dX10_init_55 : decode cX10_init 55 = .ok (.sipush 301, 3) := by decide +kernel
theorem dX10_init_58 : decode cX10_init 58 = .ok (.newarray .int, 2) := by decide +kernel
theorem dX10_init_60 : decode cX10_init 60 = .ok (.putfield 29, 3) := by decide +kernel
theorem dX10_init_63 : decode cX10_init 63 = .ok (.aload_n 0, 1) := by decide +kernel
theorem dX10_init_64 : decode cX10_init 64 = .ok (.sipush 301, 3) := by decide +kernel
theorem dX10_init_67 : decode cX10_init 67 = .ok (.newarray .int, 2) := by decide +kernel
theorem dX10_init_69 : decode cX10_init 69 = .ok (.putfield 32, 3) := by decide +kernel
theorem dX10_init_72 : decode cX10_init 72 = .ok (.aload_n 0, 1) := by decide +kernel
theorem dX10_init_73 : decode cX10_init 73 = .ok (.sipush 2000, 3) := by decide +kernel
theorem dX10_init_76 : decode cX10_init 76 = .ok (.newarray .int, 2) := by decide +kernel
theorem dX10_init_78 : decode cX10_init 78 = .ok (.putfield 35, 3) := by decide +kernel
theorem dX10_init_81 : decode cX10_init 81 = .ok (.aload_n 0, 1) := by decide +kernel
theorem dX10_init_82 : decode cX10_init 82 = .ok (.sipush 301, 3) := by decide +kernel
theorem dX10_init_85 : decode cX10_init 85 = .ok (.newarray .boolean, 2) := by decide +kernel
theorem dX10_init_87 : decode cX10_init 87 = .ok (.putfield 38, 3) := by decide +kernel
theorem dX10_init_90 : decode cX10_init 90 = .ok (.aload_n 0, 1) := by decide +kernel
theorem dX10_init_91 : decode cX10_init 91 = .ok (.sipush 301, 3) := by decide +kernel
theorem dX10_init_94 : decode cX10_init 94 = .ok (.newarray .int, 2) := by decide +kernel
theorem dX10_init_96 : decode cX10_init 96 = .ok (.putfield 42, 3) := by decide +kernel
theorem dX10_init_99 : decode cX10_init 99 = .ok (.aload_n 0, 1) := by decide +kernel
theorem dX10_init_100 : decode cX10_init 100 = .ok (.sipush 301, 3) := by decide +kernel
theorem dX10_init_103 : decode cX10_init 103 = .ok (.newarray .int, 2) := by decide +kernel
theorem dX10_init_105 : decode cX10_init 105 = .ok (.putfield 45, 3) := by decide +kernel
theorem dX10_init_108 : decode cX10_init 108 = .ok (.aload_n 0, 1) := by decide +kernel
theorem dX10_init_109 : decode cX10_init 109 = .ok (.sipush 2000, 3) := by decide +kernel
theorem dX10_init_112 : decode cX10_init 112 = .ok (.newarray .int, 2) := by decide +kernel
theorem dX10_init_114 : decode cX10_init 114 = .ok (.putfield 48, 3) := by decide +kernel
theorem dX10_init_117 : decode cX10_init 117 = .ok (.aload_n 0, 1) := by decide +kernel
theorem dX10_init_118 : decode cX10_init 118 = .ok (.sipush 301, 3) := by decide +kernel
theorem dX10_init_121 : decode cX10_init 121 = .ok (.newarray .boolean, 2) := by decide +kernel
theorem dX10_init_123 : decode cX10_init 123 = .ok (.putfield 51, 3) := by decide +kernel
theorem dX10_init_126 : decode cX10_init 126 = .ok (.aload_n 0, 1) := by decide +kernel
theorem dX10_init_127 : decode cX10_init 127 = .ok (.sipush 601, 3) := by decide +kernel
theorem dX10_init_130 : decode cX10_init 130 = .ok (.newarray .int, 2) := by decide +kernel
theorem dX10_init_132 : decode cX10_init 132 = .ok (.putfield 54, 3) := by decide +kernel
theorem dX10_init_135 : decode cX10_init 135 = .ok (.aload_n 0, 1) := by decide +kernel
theorem dX10_init_136 : decode cX10_init 136 = .ok (.sipush 301, 3) := by decide +kernel
theorem dX10_init_139 : decode cX10_init 139 = .ok (.newarray .int, 2) := by decide +kernel
theorem dX10_init_141 : decode cX10_init 141 = .ok (.putfield 57, 3) := by decide +kernel
theorem dX10_init_144 : decode cX10_init 144 = .ok (.aload_n 0, 1) := by decide +kernel
theorem dX10_init_145 : decode cX10_init 145 = .ok (.sipush 601, 3) := by decide +kernel
theorem dX10_init_148 : decode cX10_init 148 = .ok (.newarray .boolean, 2) := by decide +kernel
theorem dX10_init_150 : decode cX10_init 150 = .ok (.putfield 60, 3) := by decide +kernel
theorem dX10_init_153 : decode cX10_init 153 = .ok (.aload_n 0, 1) := by decide +kernel
theorem dX10_init_154 : decode cX10_init 154 = .ok (.sipush 601, 3) := by decide +kernel
theorem dX10_init_157 : decode cX10_init 157 = .ok (.newarray .boolean, 2) := by decide +kernel
theorem dX10_init_159 : decode cX10_init 159 = .ok (.putfield 63, 3) := by decide +kernel
theorem dX10_init_162 : decode cX10_init 162 = .ok (.aload_n 0, 1) := by decide +kernel
theorem dX10_init_163 : decode cX10_init 163 = .ok (.sipush 601, 3) := by decide +kernel
theorem dX10_init_166 : decode cX10_init 166 = .ok (.newarray .boolean, 2) := by decide +kernel
theorem dX10_init_168 : decode cX10_init 168 = .ok (.putfield 66, 3) := by decide +kernel
theorem dX10_init_171 : decode cX10_init 171 = .ok (.aload_n 0, 1) := by decide +kernel
theorem dX10_init_172 : decode cX10_init 172 = .ok (.sipush 601, 3) := by decide +kernel
theorem dX10_init_175 : decode cX10_init 175 = .ok (.newarray .boolean, 2) := by decide +kernel
theorem dX10_init_177 : decode cX10_init 177 = .ok (.putfield 69, 3) := by decide +kernel
theorem dX10_init_180 : decode cX10_init 180 = .ok (.aload_n 0, 1) := by decide +kernel
theorem dX10_init_181 : decode cX10_init 181 = .ok (.sipush 301, 3) := by decide +kernel
theorem dX10_init_184 : decode cX10_init 184 = .ok (.newarray .int, 2) := by decide +kernel
theorem dX10_init_186 : decode cX10_init 186 = .ok (.putfield 72, 3) := by decide +kernel
theorem dX10_init_189 : decode cX10_init 189 = .ok (.aload_n 0, 1) := by decide +kernel
theorem dX10_init_190 : decode cX10_init 190 = .ok (.sipush 151, 3) := by decide +kernel
theorem dX10_init_193 : decode cX10_init 193 = .ok (.newarray .int, 2) := by decide +kernel
theorem dX10_init_195 : decode cX10_init 195 = .ok (.putfield 75, 3) := by decide +kernel
theorem dX10_init_198 : decode cX10_init 198 = .ok (.aload_n 0, 1) := by decide +kernel
theorem dX10_init_199 : decode cX10_init 199 = .ok (.sipush 151, 3) := by decide +kernel
theorem dX10_init_202 : decode cX10_init 202 = .ok (.newarray .int, 2) := by decide +kernel
theorem dX10_init_204 : decode cX10_init 204 = .ok (.putfield 78, 3) := by decide +kernel
theorem dX10_init_207 : decode cX10_init 207 = .ok (.aload_n 0, 1) := by decide +kernel
theorem dX10_init_208 : decode cX10_init 208 = .ok (.sipush 151, 3) := by decide +kernel
theorem dX10_init_211 : decode cX10_init 211 = .ok (.newarray .int, 2) := by decide +kernel
theorem dX10_init_213 : decode cX10_init 213 = .ok (.putfield 81, 3) := by decide +kernel
theorem dX10_init_216 : decode cX10_init 216 = .ok (.aload_n 0, 1) := by decide +kernel
theorem dX10_init_217 : decode cX10_init 217 = .ok (.sipush 4000, 3) := by decide +kernel
theorem dX10_init_220 : decode cX10_init 220 = .ok (.newarray .int, 2) := by decide +kernel
theorem dX10_init_222 : decode cX10_init 222 = .ok (.putfield 84, 3) := by decide +kernel
theorem dX10_init_225 : decode cX10_init 225 = .ok (.aload_n 0, 1) := by decide +kernel
theorem dX10_init_226 : decode cX10_init 226 = .ok (.sipush 601, 3) := by decide +kernel
theorem dX10_init_229 : decode cX10_init 229 = .ok (.newarray .int, 2) := by decide +kernel
theorem dX10_init_231 : decode cX10_init 231 = .ok (.putfield 87, 3) := by decide +kernel
theorem dX10_init_234 : decode cX10_init 234 = .ok (.aload_n 0, 1) := by decide +kernel
theorem dX10_init_235 : decode cX10_init 235 = .ok (.sipush 601, 3) := by decide +kernel
theorem dX10_init_238 : decode cX10_init 238 = .ok (.newarray .int, 2) := by decide +kernel
theorem dX10_init_240 : decode cX10_init 240 = .ok (.putfield 90, 3) := by decide +kernel
theorem dX10_init_243 : decode cX10_init 243 = .ok (.aload_n 0, 1) := by decide +kernel
theorem dX10_init_244 : decode cX10_init 244 = .ok (.sipush 6000, 3) := by decide +kernel
theorem dX10_init_247 : decode cX10_init 247 = .ok (.newarray .int, 2) := by decide +kernel
theorem dX10_init_249 : decode cX10_init 249 = .ok (.putfield 93, 3) := by decide +kernel
theorem dX10_init_252 : decode cX10_init 252 = .ok (.return_, 1) := by decide +kernel
theorem dX10_thrown_0 : decode cX10_thrown 0 = .ok (.aload_n 0, 1) := by decide +kernel
theorem dX10_thrown_1 : decode cX10_thrown 1 = .ok (.getfield 96, 3) := by decide +kernel
theorem dX10_thrown_4 : decode cX10_thrown 4 = .ok (.ireturn, 1) := by decide +kernel
theorem dX10_fail_0 : decode cX10_fail 0 = .ok (.aload_n 0, 1) := by decide +kernel
theorem dX10_fail_1 : decode cX10_fail 1 = .ok (.iconst 1, 1) := by decide +kernel
theorem dX10_fail_2 : decode cX10_fail 2 = .ok (.putfield 96, 3) := by decide +kernel
theorem dX10_fail_5 : decode cX10_fail 5 = .ok (.iconst 0, 1) := by decide +kernel
theorem dX10_fail_6 : decode cX10_fail 6 = .ok (.ireturn, 1) := by decide +kernel
theorem dX10_feed_0 : decode cX10_feed 0 = .ok (.aload_n 0, 1) := by decide +kernel
theorem dX10_feed_1 : decode cX10_feed 1 = .ok (.iconst 0, 1) := by decide +kernel
theorem dX10_feed_2 : decode cX10_feed 2 = .ok (.putfield 96, 3) := by decide +kernel
theorem dX10_feed_5 : decode cX10_feed 5 = .ok (.aload_n 0, 1) := by decide +kernel
theorem dX10_feed_6 : decode cX10_feed 6 = .ok (.getfield 99, 3) := by decide +kernel
theorem dX10_feed_9 : decode cX10_feed 9 = .ok (.bipush 20, 2) := by decide +kernel
theorem dX10_feed_11 : decode cX10_feed 11 = .ok (.iadd, 1) := by decide +kernel
theorem dX10_feed_12 : decode cX10_feed 12 = .ok (.sipush 6000, 3) := by decide +kernel
theorem dX10_feed_15 : decode cX10_feed 15 = .ok (.if_icmp .le 5, 3) := by decide +kernel
theorem dX10_feed_18 : decode cX10_feed 18 = .ok (.iconst (-1), 1) := by decide +kernel
theorem dX10_feed_19 : decode cX10_feed 19 = .ok (.ireturn, 1) := by decide +kernel
theorem dX10_feed_20 : decode cX10_feed 20 = .ok (.iconst 0, 1) := by decide +kernel
theorem dX10_feed_21 : decode cX10_feed 21 = .ok (.istore 6, 2) := by decide +kernel
theorem dX10_feed_23 : decode cX10_feed 23 = .ok (.iload 6, 2) := by decide +kernel
theorem dX10_feed_25 : decode cX10_feed 25 = .ok (.bipush 20, 2) := by decide +kernel
theorem dX10_feed_27 : decode cX10_feed 27 = .ok (.if_icmp .ge 93, 3) := by decide +kernel
theorem dX10_feed_30 : decode cX10_feed 30 = .ok (.iload 6, 2) := by decide +kernel
theorem dX10_feed_32 : decode cX10_feed 32 = .ok (.iconst 4, 1) := by decide +kernel
theorem dX10_feed_33 : decode cX10_feed 33 = .ok (.if_icmp .ge 7, 3) := by decide +kernel
theorem dX10_feed_36 : decode cX10_feed 36 = .ok (.iload_n 1, 1) := by decide +kernel
theorem dX10_feed_37 : decode cX10_feed 37 = .ok (.goto 39, 3) := by decide +kernel
theorem dX10_feed_40 : decode cX10_feed 40 = .ok (.iload 6, 2) := by decide +kernel
theorem dX10_feed_42 : decode cX10_feed 42 = .ok (.bipush 8, 2) := by decide +kernel
theorem dX10_feed_44 : decode cX10_feed 44 = .ok (.if_icmp .ge 7, 3) := by decide +kernel
theorem dX10_feed_47 : decode cX10_feed 47 = .ok (.iload_n 2, 1) := by decide +kernel
theorem dX10_feed_48 : decode cX10_feed 48 = .ok (.goto 28, 3) := by decide +kernel
theorem dX10_feed_51 : decode cX10_feed 51 = .ok (.iload 6, 2) := by decide +kernel
theorem dX10_feed_53 : decode cX10_feed 53 = .ok (.bipush 12, 2) := by decide +kernel
theorem dX10_feed_55 : decode cX10_feed 55 = .ok (.if_icmp .ge 7, 3) := by decide +kernel
theorem dX10_feed_58 : decode cX10_feed 58 = .ok (.iload_n 3, 1) := by decide +kernel
theorem dX10_feed_59 : decode cX10_feed 59 = .ok (.goto 17, 3) := by decide +kernel
theorem dX10_feed_62 : decode cX10_feed 62 = .ok (.iload 6, 2) := by decide +kernel
theorem dX10_feed_64 : decode cX10_feed 64 = .ok (.bipush 16, 2) := by decide +kernel
theorem dX10_feed_66 : decode cX10_feed 66 = .ok (.if_icmp .ge 8, 3) := by decide +kernel
theorem dX10_feed_69 : decode cX10_feed 69 = .ok (.iload 4, 2) := by decide +kernel
theorem dX10_feed_71 : decode cX10_feed 71 = .ok (.goto 5, 3) := by decide +kernel
theorem dX10_feed_74 : decode cX10_feed 74 = .ok (.iload 5, 2) := by decide +kernel
theorem dX10_feed_76 : decode cX10_feed 76 = .ok (.istore 7, 2) := by decide +kernel
theorem dX10_feed_78 : decode cX10_feed 78 = .ok (.aload_n 0, 1) := by decide +kernel
theorem dX10_feed_79 : decode cX10_feed 79 = .ok (.getfield 9, 3) := by decide +kernel
theorem dX10_feed_82 : decode cX10_feed 82 = .ok (.aload_n 0, 1) := by decide +kernel
theorem dX10_feed_83 : decode cX10_feed 83 = .ok (.getfield 99, 3) := by decide +kernel
theorem dX10_feed_86 : decode cX10_feed 86 = .ok (.iload 7, 2) := by decide +kernel
theorem dX10_feed_88 : decode cX10_feed 88 = .ok (.bipush 24, 2) := by decide +kernel
theorem dX10_feed_90 : decode cX10_feed 90 = .ok (.bipush 8, 2) := by decide +kernel
theorem dX10_feed_92 : decode cX10_feed 92 = .ok (.iload 6, 2) := by decide +kernel
theorem dX10_feed_94 : decode cX10_feed 94 = .ok (.iconst 4, 1) := by decide +kernel
theorem dX10_feed_95 : decode cX10_feed 95 = .ok (.irem, 1) := by decide +kernel
theorem dX10_feed_96 : decode cX10_feed 96 = .ok (.imul, 1) := by decide +kernel
theorem dX10_feed_97 : decode cX10_feed 97 = .ok (.isub, 1) := by decide +kernel
theorem dX10_feed_98 : decode cX10_feed 98 = .ok (.ishr, 1) := by decide +kernel
theorem dX10_feed_99 : decode cX10_feed 99 = .ok (.sipush 255, 3) := by decide +kernel
theorem dX10_feed_102 : decode cX10_feed 102 = .ok (.iand, 1) := by decide +kernel
theorem dX10_feed_103 : decode cX10_feed 103 = .ok (.iastore, 1) := by decide +kernel
theorem dX10_feed_104 : decode cX10_feed 104 = .ok (.aload_n 0, 1) := by decide +kernel
theorem dX10_feed_105 : decode cX10_feed 105 = .ok (.dup, 1) := by decide +kernel
theorem dX10_feed_106 : decode cX10_feed 106 = .ok (.getfield 99, 3) := by decide +kernel
theorem dX10_feed_109 : decode cX10_feed 109 = .ok (.iconst 1, 1) := by decide +kernel
theorem dX10_feed_110 : decode cX10_feed 110 = .ok (.iadd, 1) := by decide +kernel
theorem dX10_feed_111 : decode cX10_feed 111 = .ok (.putfield 99, 3) := by decide +kernel
theorem dX10_feed_114 : decode cX10_feed 114 = .ok (.iinc 6 1, 3) := by decide +kernel
theorem dX10_feed_117 : decode cX10_feed 117 = .ok (.goto (-94), 3) := by decide +kernel
theorem dX10_feed_120 : decode cX10_feed 120 = .ok (.aload_n 0, 1) := by decide +kernel
theorem dX10_feed_121 : decode cX10_feed 121 = .ok (.getfield 99, 3) := by decide +kernel
theorem dX10_feed_124 : decode cX10_feed 124 = .ok (.ireturn, 1) := by decide +kernel
theorem dX10_wrong_0 : decode cX10_wrong 0 = .ok (.aload_n 0, 1) := by decide +kernel
theorem dX10_wrong_1 : decode cX10_wrong 1 = .ok (.getfield 102, 3) := by decide +kernel
theorem dX10_wrong_4 : decode cX10_wrong 4 = .ok (.ifCond .eq 4, 3) := by decide +kernel
theorem dX10_wrong_7 : decode cX10_wrong 7 = .ok (.return_, 1) := by decide +kernel
theorem dX10_wrong_8 : decode cX10_wrong 8 = .ok (.aload_n 0, 1) := by decide +kernel
theorem dX10_wrong_9 : decode cX10_wrong 9 = .ok (.iload_n 1, 1) := by decide +kernel
theorem dX10_wrong_10 : decode cX10_wrong 10 = .ok (.putfield 102, 3) := by decide +kernel
theorem dX10_wrong_13 : decode cX10_wrong 13 = .ok (.aload_n 0, 1) := by decide +kernel
theorem dX10_wrong_14 : decode cX10_wrong 14 = .ok (.iload_n 2, 1) := by decide +kernel
theorem dX10_wrong_15 : decode cX10_wrong 15 = .ok (.putfield 105, 3) := by decide +kernel
theorem dX10_wrong_18 : decode cX10_wrong 18 = .ok (.return_, 1) := by decide +kernel
theorem dX10_isBlank_0 : decode cX10_isBlank 0 = .ok (.iload_n 0, 1) := by decide +kernel
theorem dX10_isBlank_1 : decode cX10_isBlank 1 = .ok (.bipush 32, 2) := by decide +kernel
theorem dX10_isBlank_3 : decode cX10_isBlank 3 = .ok (.if_icmp .eq 21, 3) := by decide +kernel
theorem dX10_isBlank_6 : decode cX10_isBlank 6 = .ok (.iload_n 0, 1) := by decide +kernel
theorem dX10_isBlank_7 : decode cX10_isBlank 7 = .ok (.bipush 9, 2) := by decide +kernel
theorem dX10_isBlank_9 : decode cX10_isBlank 9 = .ok (.if_icmp .eq 15, 3) := by decide +kernel
theorem dX10_isBlank_12 : decode cX10_isBlank 12 = .ok (.iload_n 0, 1) := by decide +kernel
theorem dX10_isBlank_13 : decode cX10_isBlank 13 = .ok (.bipush 13, 2) := by decide +kernel
theorem dX10_isBlank_15 : decode cX10_isBlank 15 = .ok (.if_icmp .eq 9, 3) := by decide +kernel
theorem dX10_isBlank_18 : decode cX10_isBlank 18 = .ok (.iload_n 0, 1) := by decide +kernel
theorem dX10_isBlank_19 : decode cX10_isBlank 19 = .ok (.bipush 10, 2) := by decide +kernel
theorem dX10_isBlank_21 : decode cX10_isBlank 21 = .ok (.if_icmp .ne 7, 3) := by decide +kernel
theorem dX10_isBlank_24 : decode cX10_isBlank 24 = .ok (.iconst 1, 1) := by decide +kernel
theorem dX10_isBlank_25 : decode cX10_isBlank 25 = .ok (.goto 4, 3) := by decide +kernel
theorem dX10_isBlank_28 : decode cX10_isBlank 28 = .ok (.iconst 0, 1) := by decide +kernel
theorem dX10_isBlank_29 : decode cX10_isBlank 29 = .ok (.ireturn, 1) := by decide +kernel
theorem dX10_next_0 : decode cX10_next 0 = .ok (.iconst 1, 1) := by decide +kernel
theorem dX10_next_1 : decode cX10_next 1 = .ok (.istore_n 1, 1) := by decide +kernel
theorem dX10_next_2 : decode cX10_next 2 = .ok (.iload_n 1, 1) := by decide +kernel
theorem dX10_next_3 : decode cX10_next 3 = .ok (.ifCond .eq 137, 3) := by decide +kernel
theorem dX10_next_6 : decode cX10_next 6 = .ok (.iconst 0, 1) := by decide +kernel
theorem dX10_next_7 : decode cX10_next 7 = .ok (.istore_n 1, 1) := by decide +kernel
theorem dX10_next_8 : decode cX10_next 8 = .ok (.aload_n 0, 1) := by decide +kernel
theorem dX10_next_9 : decode cX10_next 9 = .ok (.getfield 108, 3) := by decide +kernel
theorem dX10_next_12 : decode cX10_next 12 = .ok (.aload_n 0, 1) := by decide +kernel
theorem dX10_next_13 : decode cX10_next 13 = .ok (.getfield 111, 3) := by decide +kernel
theorem dX10_next_16 : decode cX10_next 16 = .ok (.if_icmp .ge 83, 3) := by decide +kernel
theorem dX10_next_19 : decode cX10_next 19 = .ok (.aload_n 0, 1) := by decide +kernel
theorem dX10_next_20 : decode cX10_next 20 = .ok (.getfield 13, 3) := by decide +kernel
theorem dX10_next_23 : decode cX10_next 23 = .ok (.aload_n 0, 1) := by decide +kernel
theorem dX10_next_24 : decode cX10_next 24 = .ok (.getfield 108, 3) := by decide +kernel
theorem dX10_next_27 : decode cX10_next 27 = .ok (.iaload, 1) := by decide +kernel
theorem dX10_next_28 : decode cX10_next 28 = .ok (.bipush 99, 2) := by decide +kernel
theorem dX10_next_30 : decode cX10_next 30 = .ok (.if_icmp .ne 69, 3) := by decide +kernel
theorem dX10_next_33 : decode cX10_next 33 = .ok (.aload_n 0, 1) := by decide +kernel
theorem dX10_next_34 : decode cX10_next 34 = .ok (.getfield 108, 3) := by decide +kernel
theorem dX10_next_37 : decode cX10_next 37 = .ok (.ifCond .eq 19, 3) := by decide +kernel
theorem dX10_next_40 : decode cX10_next 40 = .ok (.aload_n 0, 1) := by decide +kernel
theorem dX10_next_41 : decode cX10_next 41 = .ok (.getfield 13, 3) := by decide +kernel
theorem dX10_next_44 : decode cX10_next 44 = .ok (.aload_n 0, 1) := by decide +kernel
theorem dX10_next_45 : decode cX10_next 45 = .ok (.getfield 108, 3) := by decide +kernel
theorem dX10_next_48 : decode cX10_next 48 = .ok (.iconst 1, 1) := by decide +kernel
theorem dX10_next_49 : decode cX10_next 49 = .ok (.isub, 1) := by decide +kernel
theorem dX10_next_50 : decode cX10_next 50 = .ok (.iaload, 1) := by decide +kernel
theorem dX10_next_51 : decode cX10_next 51 = .ok (.bipush 10, 2) := by decide +kernel
theorem dX10_next_53 : decode cX10_next 53 = .ok (.if_icmp .ne 46, 3) := by decide +kernel
theorem dX10_next_56 : decode cX10_next 56 = .ok (.aload_n 0, 1) := by decide +kernel
theorem dX10_next_57 : decode cX10_next 57 = .ok (.getfield 108, 3) := by decide +kernel
theorem dX10_next_60 : decode cX10_next 60 = .ok (.aload_n 0, 1) := by decide +kernel
theorem dX10_next_61 : decode cX10_next 61 = .ok (.getfield 111, 3) := by decide +kernel
theorem dX10_next_64 : decode cX10_next 64 = .ok (.if_icmp .ge 30, 3) := by decide +kernel
theorem dX10_next_67 : decode cX10_next 67 = .ok (.aload_n 0, 1) := by decide +kernel
theorem dX10_next_68 : decode cX10_next 68 = .ok (.getfield 13, 3) := by decide +kernel
theorem dX10_next_71 : decode cX10_next 71 = .ok (.aload_n 0, 1) := by decide +kernel
theorem dX10_next_72 : decode cX10_next 72 = .ok (.getfield 108, 3) := by decide +kernel
theorem dX10_next_75 : decode cX10_next 75 = .ok (.iaload, 1) := by decide +kernel
theorem dX10_next_76 : decode cX10_next 76 = .ok (.bipush 10, 2) := by decide +kernel
theorem dX10_next_78 : decode cX10_next 78 = .ok (.if_icmp .eq 16, 3) := by decide +kernel
theorem dX10_next_81 : decode cX10_next 81 = .ok (.aload_n 0, 1) := by decide +kernel
theorem dX10_next_82 : decode cX10_next 82 = .ok (.dup, 1) := by decide +kernel
theorem dX10_next_83 : decode cX10_next 83 = .ok (.getfield 108, 3) := by decide +kernel
theorem dX10_next_86 : decode cX10_next 86 = .ok (.iconst 1, 1) := by decide +kernel
theorem dX10_next_87 : decode cX10_next 87 = .ok (.iadd, 1) := by decide +kernel
theorem dX10_next_88 : decode cX10_next 88 = .ok (.putfield 108, 3) := by decide +kernel
theorem dX10_next_91 : decode cX10_next 91 = .ok (.goto (-35), 3) := by decide +kernel
theorem dX10_next_94 : decode cX10_next 94 = .ok (.iconst 1, 1) := by decide +kernel
theorem dX10_next_95 : decode cX10_next 95 = .ok (.istore_n 1, 1) := by decide +kernel
theorem dX10_next_96 : decode cX10_next 96 = .ok (.goto (-94), 3) := by decide +kernel
theorem dX10_next_99 : decode cX10_next 99 = .ok (.aload_n 0, 1) := by decide +kernel
theorem dX10_next_100 : decode cX10_next 100 = .ok (.getfield 108, 3) := by decide +kernel
theorem dX10_next_103 : decode cX10_next 103 = .ok (.aload_n 0, 1) := by decide +kernel
theorem dX10_next_104 : decode cX10_next 104 = .ok (.getfield 111, 3) := by decide +kernel
theorem dX10_next_107 : decode cX10_next 107 = .ok (.if_icmp .ge (-105), 3) := by decide +kernel
theorem dX10_next_110 : decode cX10_next 110 = .ok (.aload_n 0, 1) := by decide +kernel
theorem dX10_next_111 : decode cX10_next 111 = .ok (.getfield 13, 3) := by decide +kernel
theorem dX10_next_114 : decode cX10_next 114 = .ok (.aload_n 0, 1) := by decide +kernel
theorem dX10_next_115 : decode cX10_next 115 = .ok (.getfield 108, 3) := by decide +kernel
theorem dX10_next_118 : decode cX10_next 118 = .ok (.iaload, 1) := by decide +kernel
theorem dX10_next_119 : decode cX10_next 119 = .ok (.invokestatic 114, 3) := by decide +kernel
theorem dX10_next_122 : decode cX10_next 122 = .ok (.ifCond .eq (-120), 3) := by decide +kernel
theorem dX10_next_125 : decode cX10_next 125 = .ok (.aload_n 0, 1) := by decide +kernel
theorem dX10_next_126 : decode cX10_next 126 = .ok (.dup, 1) := by decide +kernel
theorem dX10_next_127 : decode cX10_next 127 = .ok (.getfield 108, 3) := by decide +kernel
theorem dX10_next_130 : decode cX10_next 130 = .ok (.iconst 1, 1) := by decide +kernel
theorem dX10_next_131 : decode cX10_next 131 = .ok (.iadd, 1) := by decide +kernel
theorem dX10_next_132 : decode cX10_next 132 = .ok (.putfield 108, 3) := by decide +kernel
theorem dX10_next_135 : decode cX10_next 135 = .ok (.iconst 1, 1) := by decide +kernel
theorem dX10_next_136 : decode cX10_next 136 = .ok (.istore_n 1, 1) := by decide +kernel
theorem dX10_next_137 : decode cX10_next 137 = .ok (.goto (-135), 3) := by decide +kernel
theorem dX10_next_140 : decode cX10_next 140 = .ok (.aload_n 0, 1) := by decide +kernel
theorem dX10_next_141 : decode cX10_next 141 = .ok (.aload_n 0, 1) := by decide +kernel
theorem dX10_next_142 : decode cX10_next 142 = .ok (.getfield 108, 3) := by decide +kernel
theorem dX10_next_145 : decode cX10_next 145 = .ok (.putfield 118, 3) := by decide +kernel
theorem dX10_next_148 : decode cX10_next 148 = .ok (.aload_n 0, 1) := by decide +kernel
theorem dX10_next_149 : decode cX10_next 149 = .ok (.getfield 108, 3) := by decide +kernel
theorem dX10_next_152 : decode cX10_next 152 = .ok (.aload_n 0, 1) := by decide +kernel
theorem dX10_next_153 : decode cX10_next 153 = .ok (.getfield 111, 3) := by decide +kernel
theorem dX10_next_156 : decode cX10_next 156 = .ok (.if_icmp .ge 31, 3) := by decide +kernel
theorem dX10_next_159 : decode cX10_next 159 = .ok (.aload_n 0, 1) := by decide +kernel
theorem dX10_next_160 : decode cX10_next 160 = .ok (.getfield 13, 3) := by decide +kernel
theorem dX10_next_163 : decode cX10_next 163 = .ok (.aload_n 0, 1) := by decide +kernel
theorem dX10_next_164 : decode cX10_next 164 = .ok (.getfield 108, 3) := by decide +kernel
theorem dX10_next_167 : decode cX10_next 167 = .ok (.iaload, 1) := by decide +kernel
theorem dX10_next_168 : decode cX10_next 168 = .ok (.invokestatic 114, 3) := by decide +kernel
theorem dX10_next_171 : decode cX10_next 171 = .ok (.ifCond .ne 16, 3) := by decide +kernel
theorem dX10_next_174 : decode cX10_next 174 = .ok (.aload_n 0, 1) := by decide +kernel
theorem dX10_next_175 : decode cX10_next 175 = .ok (.dup, 1) := by decide +kernel
theorem dX10_next_176 : decode cX10_next 176 = .ok (.getfield 108, 3) := by decide +kernel
theorem dX10_next_179 : decode cX10_next 179 = .ok (.iconst 1, 1) := by decide +kernel
theorem dX10_next_180 : decode cX10_next 180 = .ok (.iadd, 1) := by decide +kernel
theorem dX10_next_181 : decode cX10_next 181 = .ok (.putfield 108, 3) := by decide +kernel
theorem dX10_next_184 : decode cX10_next 184 = .ok (.goto (-36), 3) := by decide +kernel
theorem dX10_next_187 : decode cX10_next 187 = .ok (.aload_n 0, 1) := by decide +kernel
theorem dX10_next_188 : decode cX10_next 188 = .ok (.aload_n 0, 1) := by decide +kernel
theorem dX10_next_189 : decode cX10_next 189 = .ok (.getfield 108, 3) := by decide +kernel
theorem dX10_next_192 : decode cX10_next 192 = .ok (.putfield 121, 3) := by decide +kernel
theorem dX10_next_195 : decode cX10_next 195 = .ok (.aload_n 0, 1) := by decide +kernel
theorem dX10_next_196 : decode cX10_next 196 = .ok (.getfield 118, 3) := by decide +kernel
theorem dX10_next_199 : decode cX10_next 199 = .ok (.aload_n 0, 1) := by decide +kernel
theorem dX10_next_200 : decode cX10_next 200 = .ok (.getfield 121, 3) := by decide +kernel
theorem dX10_next_203 : decode cX10_next 203 = .ok (.if_icmp .ge 7, 3) := by decide +kernel
theorem dX10_next_206 : decode cX10_next 206 = .ok (.iconst 1, 1) := by decide +kernel
theorem dX10_next_207 : decode cX10_next 207 = .ok (.goto 4, 3) := by decide +kernel
theorem dX10_next_210 : decode cX10_next 210 = .ok (.iconst 0, 1) := by decide +kernel
theorem dX10_next_211 : decode cX10_next 211 = .ok (.ireturn, 1) := by decide +kernel
theorem dX10_need_0 : decode cX10_need 0 = .ok (.aload_n 0, 1) := by decide +kernel
theorem dX10_need_1 : decode cX10_need 1 = .ok (.getfield 102, 3) := by decide +kernel
theorem dX10_need_4 : decode cX10_need 4 = .ok (.ifCond .ne 19, 3) := by decide +kernel
theorem dX10_need_7 : decode cX10_need 7 = .ok (.aload_n 0, 1) := by decide +kernel
theorem dX10_need_8 : decode cX10_need 8 = .ok (.invokevirtual 124, 3) := by decide +kernel
theorem dX10_need_11 : decode cX10_need 11 = .ok (.ifCond .ne 12, 3) := by decide +kernel
theorem dX10_need_14 : decode cX10_need 14 = .ok (.aload_n 0, 1) := by decide +kernel
theorem dX10_need_15 : decode cX10_need 15 = .ok (.iconst 1, 1) := by decide +kernel
theorem dX10_need_16 : decode cX10_need 16 = .ok (.aload_n 0, 1) := by decide +kernel
theorem dX10_need_17 : decode cX10_need 17 = .ok (.getfield 111, 3) := by decide +kernel
theorem dX10_need_20 : decode cX10_need 20 = .ok (.invokevirtual 128, 3) := by decide +kernel
theorem dX10_need_23 : decode cX10_need 23 = .ok (.return_, 1) := by decide +kernel
theorem dX10_isWord_0 : decode cX10_isWord 0 = .ok (.aload_n 0, 1) := by decide +kernel
theorem dX10_isWord_1 : decode cX10_isWord 1 = .ok (.getfield 121, 3) := by decide +kernel
theorem dX10_isWord_4 : decode cX10_isWord 4 = .ok (.aload_n 0, 1) := by decide +kernel
theorem dX10_isWord_5 : decode cX10_isWord 5 = .ok (.getfield 118, 3) := by decide +kernel
theorem dX10_isWord_8 : decode cX10_isWord 8 = .ok (.isub, 1) := by decide +kernel
theorem dX10_isWord_9 : decode cX10_isWord 9 = .ok (.iload_n 1, 1) := by decide +kernel
theorem dX10_isWord_10 : decode cX10_isWord 10 = .ok (.if_icmp .ne 61, 3) := by decide +kernel
theorem dX10_isWord_13 : decode cX10_isWord 13 = .ok (.aload_n 0, 1) := by decide +kernel
theorem dX10_isWord_14 : decode cX10_isWord 14 = .ok (.getfield 13, 3) := by decide +kernel
theorem dX10_isWord_17 : decode cX10_isWord 17 = .ok (.aload_n 0, 1) := by decide +kernel
theorem dX10_isWord_18 : decode cX10_isWord 18 = .ok (.getfield 118, 3) := by decide +kernel
theorem dX10_isWord_21 : decode cX10_isWord 21 = .ok (.iaload, 1) := by decide +kernel
theorem dX10_isWord_22 : decode cX10_isWord 22 = .ok (.iload_n 2, 1) := by decide +kernel
theorem dX10_isWord_23 : decode cX10_isWord 23 = .ok (.if_icmp .ne 48, 3) := by decide +kernel
theorem dX10_isWord_26 : decode cX10_isWord 26 = .ok (.iload_n 1, 1) := by decide +kernel
theorem dX10_isWord_27 : decode cX10_isWord 27 = .ok (.iconst 2, 1) := by decide +kernel
theorem dX10_isWord_28 : decode cX10_isWord 28 = .ok (.if_icmp .lt 18, 3) := by decide +kernel
theorem dX10_isWord_31 : decode cX10_isWord 31 = .ok (.aload_n 0, 1) := by decide +kernel
theorem dX10_isWord_32 : decode cX10_isWord 32 = .ok (.getfield 13, 3) := by decide +kernel
theorem dX10_isWord_35 : decode cX10_isWord 35 = .ok (.aload_n 0, 1) := by decide +kernel
theorem dX10_isWord_36 : decode cX10_isWord 36 = .ok (.getfield 118, 3) := by decide +kernel
theorem dX10_isWord_39 : decode cX10_isWord 39 = .ok (.iconst 1, 1) := by decide +kernel
theorem dX10_isWord_40 : decode cX10_isWord 40 = .ok (.iadd, 1) := by decide +kernel
theorem dX10_isWord_41 : decode cX10_isWord 41 = .ok (.iaload, 1) := by decide +kernel
theorem dX10_isWord_42 : decode cX10_isWord 42 = .ok (.iload_n 3, 1) := by decide +kernel
theorem dX10_isWord_43 : decode cX10_isWord 43 = .ok (.if_icmp .ne 28, 3) := by decide +kernel
theorem dX10_isWord_46 : decode cX10_isWord 46 = .ok (.iload_n 1, 1) := by decide +kernel
theorem dX10_isWord_47 : decode cX10_isWord 47 = .ok (.iconst 3, 1) := by decide +kernel
theorem dX10_isWord_48 : decode cX10_isWord 48 = .ok (.if_icmp .lt 19, 3) := by decide +kernel
theorem dX10_isWord_51 : decode cX10_isWord 51 = .ok (.aload_n 0, 1) := by decide +kernel
theorem dX10_isWord_52 : decode cX10_isWord 52 = .ok (.getfield 13, 3) := by decide +kernel
theorem dX10_isWord_55 : decode cX10_isWord 55 = .ok (.aload_n 0, 1) := by decide +kernel
theorem dX10_isWord_56 : decode cX10_isWord 56 = .ok (.getfield 118, 3) := by decide +kernel
theorem dX10_isWord_59 : decode cX10_isWord 59 = .ok (.iconst 2, 1) := by decide +kernel
theorem dX10_isWord_60 : decode cX10_isWord 60 = .ok (.iadd, 1) := by decide +kernel
theorem dX10_isWord_61 : decode cX10_isWord 61 = .ok (.iaload, 1) := by decide +kernel
theorem dX10_isWord_62 : decode cX10_isWord 62 = .ok (.iload 4, 2) := by decide +kernel
theorem dX10_isWord_64 : decode cX10_isWord 64 = .ok (.if_icmp .ne 7, 3) := by decide +kernel
theorem dX10_isWord_67 : decode cX10_isWord 67 = .ok (.iconst 1, 1) := by decide +kernel
theorem dX10_isWord_68 : decode cX10_isWord 68 = .ok (.goto 4, 3) := by decide +kernel
theorem dX10_isWord_71 : decode cX10_isWord 71 = .ok (.iconst 0, 1) := by decide +kernel
theorem dX10_isWord_72 : decode cX10_isWord 72 = .ok (.ireturn, 1) := by decide +kernel
theorem dX10_number_0 : decode cX10_number 0 = .ok (.aload_n 0, 1) := by decide +kernel
theorem dX10_number_1 : decode cX10_number 1 = .ok (.getfield 102, 3) := by decide +kernel
theorem dX10_number_4 : decode cX10_number 4 = .ok (.ifCond .eq 5, 3) := by decide +kernel
theorem dX10_number_7 : decode cX10_number 7 = .ok (.iconst 0, 1) := by decide +kernel
theorem dX10_number_8 : decode cX10_number 8 = .ok (.ireturn, 1) := by decide +kernel
theorem dX10_number_9 : decode cX10_number 9 = .ok (.aload_n 0, 1) := by decide +kernel
theorem dX10_number_10 : decode cX10_number 10 = .ok (.getfield 13, 3) := by decide +kernel
theorem dX10_number_13 : decode cX10_number 13 = .ok (.aload_n 0, 1) := by decide +kernel
theorem dX10_number_14 : decode cX10_number 14 = .ok (.getfield 118, 3) := by decide +kernel
theorem dX10_number_17 : decode cX10_number 17 = .ok (.iaload, 1) := by decide +kernel
theorem dX10_number_18 : decode cX10_number 18 = .ok (.bipush 45, 2) := by decide +kernel
theorem dX10_number_20 : decode cX10_number 20 = .ok (.if_icmp .ne 7, 3) := by decide +kernel
theorem dX10_number_23 : decode cX10_number 23 = .ok (.iconst 1, 1) := by decide +kernel
theorem dX10_number_24 : decode cX10_number 24 = .ok (.goto 4, 3) := by decide +kernel
theorem dX10_number_27 : decode cX10_number 27 = .ok (.iconst 0, 1) := by decide +kernel
theorem dX10_number_28 : decode cX10_number 28 = .ok (.istore_n 1, 1) := by decide +kernel
theorem dX10_number_29 : decode cX10_number 29 = .ok (.iload_n 1, 1) := by decide +kernel
theorem dX10_number_30 : decode cX10_number 30 = .ok (.ifCond .eq 12, 3) := by decide +kernel
theorem dX10_number_33 : decode cX10_number 33 = .ok (.aload_n 0, 1) := by decide +kernel
theorem dX10_number_34 : decode cX10_number 34 = .ok (.getfield 118, 3) := by decide +kernel
theorem dX10_number_37 : decode cX10_number 37 = .ok (.iconst 1, 1) := by decide +kernel
theorem dX10_number_38 : decode cX10_number 38 = .ok (.iadd, 1) := by decide +kernel
theorem dX10_number_39 : decode cX10_number 39 = .ok (.goto 7, 3) := by decide +kernel
theorem dX10_number_42 : decode cX10_number 42 = .ok (.aload_n 0, 1) := by decide +kernel
theorem dX10_number_43 : decode cX10_number 43 = .ok (.getfield 118, 3) := by decide +kernel
theorem dX10_number_46 : decode cX10_number 46 = .ok (.istore_n 2, 1) := by decide +kernel
theorem dX10_number_47 : decode cX10_number 47 = .ok (.aload_n 0, 1) := by decide +kernel
theorem dX10_number_48 : decode cX10_number 48 = .ok (.getfield 121, 3) := by decide +kernel
theorem dX10_number_51 : decode cX10_number 51 = .ok (.iload_n 2, 1) := by decide +kernel
theorem dX10_number_52 : decode cX10_number 52 = .ok (.if_icmp .le 18, 3) := by decide +kernel
theorem dX10_number_55 : decode cX10_number 55 = .ok (.aload_n 0, 1) := by decide +kernel
theorem dX10_number_56 : decode cX10_number 56 = .ok (.getfield 121, 3) := by decide +kernel
theorem dX10_number_59 : decode cX10_number 59 = .ok (.iload_n 2, 1) := by decide +kernel
theorem dX10_number_60 : decode cX10_number 60 = .ok (.isub, 1) := by decide +kernel
theorem dX10_number_61 : decode cX10_number 61 = .ok (.bipush 6, 2) := by decide +kernel
theorem dX10_number_63 : decode cX10_number 63 = .ok (.if_icmp .gt 7, 3) := by decide +kernel
theorem dX10_number_66 : decode cX10_number 66 = .ok (.iconst 1, 1) := by decide +kernel
theorem dX10_number_67 : decode cX10_number 67 = .ok (.goto 4, 3) := by decide +kernel
theorem dX10_number_70 : decode cX10_number 70 = .ok (.iconst 0, 1) := by decide +kernel
theorem dX10_number_71 : decode cX10_number 71 = .ok (.istore_n 3, 1) := by decide +kernel
theorem dX10_number_72 : decode cX10_number 72 = .ok (.iconst 0, 1) := by decide +kernel
theorem dX10_number_73 : decode cX10_number 73 = .ok (.istore 4, 2) := by decide +kernel
theorem dX10_number_75 : decode cX10_number 75 = .ok (.iload_n 2, 1) := by decide +kernel
theorem dX10_number_76 : decode cX10_number 76 = .ok (.istore 5, 2) := by decide +kernel
theorem dX10_number_78 : decode cX10_number 78 = .ok (.iload 5, 2) := by decide +kernel
theorem dX10_number_80 : decode cX10_number 80 = .ok (.aload_n 0, 1) := by decide +kernel
theorem dX10_number_81 : decode cX10_number 81 = .ok (.getfield 121, 3) := by decide +kernel
theorem dX10_number_84 : decode cX10_number 84 = .ok (.if_icmp .ge 61, 3) := by decide +kernel
theorem dX10_number_87 : decode cX10_number 87 = .ok (.iload_n 3, 1) := by decide +kernel
theorem dX10_number_88 : decode cX10_number 88 = .ok (.ifCond .eq 57, 3) := by decide +kernel
theorem dX10_number_91 : decode cX10_number 91 = .ok (.aload_n 0, 1) := by decide +kernel
theorem dX10_number_92 : decode cX10_number 92 = .ok (.getfield 13, 3) := by decide +kernel
theorem dX10_number_95 : decode cX10_number 95 = .ok (.iload 5, 2) := by decide +kernel
theorem dX10_number_97 : decode cX10_number 97 = .ok (.iaload, 1) := by decide +kernel
theorem dX10_number_98 : decode cX10_number 98 = .ok (.bipush 48, 2) := by decide +kernel
theorem dX10_number_100 : decode cX10_number 100 = .ok (.if_icmp .lt 19, 3) := by decide +kernel
theorem dX10_number_103 : decode cX10_number 103 = .ok (.aload_n 0, 1) := by decide +kernel
theorem dX10_number_104 : decode cX10_number 104 = .ok (.getfield 13, 3) := by decide +kernel
theorem dX10_number_107 : decode cX10_number 107 = .ok (.iload 5, 2) := by decide +kernel
theorem dX10_number_109 : decode cX10_number 109 = .ok (.iaload, 1) := by decide +kernel
theorem dX10_number_110 : decode cX10_number 110 = .ok (.bipush 57, 2) := by decide +kernel
theorem dX10_number_112 : decode cX10_number 112 = .ok (.if_icmp .gt 7, 3) := by decide +kernel
theorem dX10_number_115 : decode cX10_number 115 = .ok (.iconst 1, 1) := by decide +kernel
theorem dX10_number_116 : decode cX10_number 116 = .ok (.goto 4, 3) := by decide +kernel
theorem dX10_number_119 : decode cX10_number 119 = .ok (.iconst 0, 1) := by decide +kernel
theorem dX10_number_120 : decode cX10_number 120 = .ok (.istore_n 3, 1) := by decide +kernel
theorem dX10_number_121 : decode cX10_number 121 = .ok (.bipush 10, 2) := by decide +kernel
theorem dX10_number_123 : decode cX10_number 123 = .ok (.iload 4, 2) := by decide +kernel
theorem dX10_number_125 : decode cX10_number 125 = .ok (.imul, 1) := by decide +kernel
theorem dX10_number_126 : decode cX10_number 126 = .ok (.aload_n 0, 1) := by decide +kernel
theorem dX10_number_127 : decode cX10_number 127 = .ok (.getfield 13, 3) := by decide +kernel
theorem dX10_number_130 : decode cX10_number 130 = .ok (.iload 5, 2) := by decide +kernel
theorem dX10_number_132 : decode cX10_number 132 = .ok (.iaload, 1) := by decide +kernel
theorem dX10_number_133 : decode cX10_number 133 = .ok (.iadd, 1) := by decide +kernel
theorem dX10_number_134 : decode cX10_number 134 = .ok (.bipush 48, 2) := by decide +kernel
theorem dX10_number_136 : decode cX10_number 136 = .ok (.isub, 1) := by decide +kernel
theorem dX10_number_137 : decode cX10_number 137 = .ok (.istore 4, 2) := by decide +kernel
theorem dX10_number_139 : decode cX10_number 139 = .ok (.iinc 5 1, 3) := by decide +kernel
theorem dX10_number_142 : decode cX10_number 142 = .ok (.goto (-64), 3) := by decide +kernel
theorem dX10_number_145 : decode cX10_number 145 = .ok (.iload_n 3, 1) := by decide +kernel
theorem dX10_number_146 : decode cX10_number 146 = .ok (.ifCond .ne 12, 3) := by decide +kernel
theorem dX10_number_149 : decode cX10_number 149 = .ok (.aload_n 0, 1) := by decide +kernel
theorem dX10_number_150 : decode cX10_number 150 = .ok (.iconst 1, 1) := by decide +kernel
theorem dX10_number_151 : decode cX10_number 151 = .ok (.aload_n 0, 1) := by decide +kernel
theorem dX10_number_152 : decode cX10_number 152 = .ok (.getfield 118, 3) := by decide +kernel
theorem dX10_number_155 : decode cX10_number 155 = .ok (.invokevirtual 128, 3) := by decide +kernel
theorem dX10_number_158 : decode cX10_number 158 = .ok (.iload_n 1, 1) := by decide +kernel
theorem dX10_number_159 : decode cX10_number 159 = .ok (.ifCond .eq 9, 3) := by decide +kernel
theorem dX10_number_162 : decode cX10_number 162 = .ok (.iload 4, 2) := by decide +kernel
theorem dX10_number_164 : decode cX10_number 164 = .ok (.ineg, 1) := by decide +kernel
theorem dX10_number_165 : decode cX10_number 165 = .ok (.goto 5, 3) := by decide +kernel
theorem dX10_number_168 : decode cX10_number 168 = .ok (.iload 4, 2) := by decide +kernel
theorem dX10_number_170 : decode cX10_number 170 = .ok (.ireturn, 1) := by decide +kernel
theorem dX10_within_0 : decode cX10_within 0 = .ok (.aload_n 0, 1) := by decide +kernel
theorem dX10_within_1 : decode cX10_within 1 = .ok (.invokevirtual 132, 3) := by decide +kernel
theorem dX10_within_4 : decode cX10_within 4 = .ok (.aload_n 0, 1) := by decide +kernel
theorem dX10_within_5 : decode cX10_within 5 = .ok (.invokevirtual 135, 3) := by decide +kernel
theorem dX10_within_8 : decode cX10_within 8 = .ok (.istore_n 2, 1) := by decide +kernel
theorem dX10_within_9 : decode cX10_within 9 = .ok (.iload_n 2, 1) := by decide +kernel
theorem dX10_within_10 : decode cX10_within 10 = .ok (.ifCond .lt 8, 3) := by decide +kernel
theorem dX10_within_13 : decode cX10_within 13 = .ok (.iload_n 2, 1) := by decide +kernel
theorem dX10_within_14 : decode cX10_within 14 = .ok (.iload_n 1, 1) := by decide +kernel
theorem dX10_within_15 : decode cX10_within 15 = .ok (.if_icmp .le 12, 3) := by decide +kernel
theorem dX10_within_18 : decode cX10_within 18 = .ok (.aload_n 0, 1) := by decide +kernel
theorem dX10_within_19 : decode cX10_within 19 = .ok (.iconst 2, 1) := by decide +kernel
theorem dX10_within_20 : decode cX10_within 20 = .ok (.aload_n 0, 1) := by decide +kernel
theorem dX10_within_21 : decode cX10_within 21 = .ok (.getfield 118, 3) := by decide +kernel
theorem dX10_within_24 : decode cX10_within 24 = .ok (.invokevirtual 128, 3) := by decide +kernel
theorem dX10_within_27 : decode cX10_within 27 = .ok (.iload_n 2, 1) := by decide +kernel
theorem dX10_within_28 : decode cX10_within 28 = .ok (.ireturn, 1) := by decide +kernel
theorem dX10_beginRead_0 : decode cX10_beginRead 0 = .ok (.aload_n 0, 1) := by decide +kernel
theorem dX10_beginRead_1 : decode cX10_beginRead 1 = .ok (.iconst 0, 1) := by decide +kernel
theorem dX10_beginRead_2 : decode cX10_beginRead 2 = .ok (.putfield 139, 3) := by decide +kernel
theorem dX10_beginRead_5 : decode cX10_beginRead 5 = .ok (.aload_n 0, 1) := by decide +kernel
theorem dX10_beginRead_6 : decode cX10_beginRead 6 = .ok (.iconst 0, 1) := by decide +kernel
theorem dX10_beginRead_7 : decode cX10_beginRead 7 = .ok (.putfield 142, 3) := by decide +kernel
theorem dX10_beginRead_10 : decode cX10_beginRead 10 = .ok (.aload_n 0, 1) := by decide +kernel
theorem dX10_beginRead_11 : decode cX10_beginRead 11 = .ok (.iconst 0, 1) := by decide +kernel
theorem dX10_beginRead_12 : decode cX10_beginRead 12 = .ok (.putfield 145, 3) := by decide +kernel
theorem dX10_beginRead_15 : decode cX10_beginRead 15 = .ok (.aload_n 0, 1) := by decide +kernel
theorem dX10_beginRead_16 : decode cX10_beginRead 16 = .ok (.iload_n 1, 1) := by decide +kernel
theorem dX10_beginRead_17 : decode cX10_beginRead 17 = .ok (.putfield 148, 3) := by decide +kernel
theorem dX10_beginRead_20 : decode cX10_beginRead 20 = .ok (.aload_n 0, 1) := by decide +kernel
theorem dX10_beginRead_21 : decode cX10_beginRead 21 = .ok (.iconst 0, 1) := by decide +kernel
theorem dX10_beginRead_22 : decode cX10_beginRead 22 = .ok (.putfield 102, 3) := by decide +kernel
theorem dX10_beginRead_25 : decode cX10_beginRead 25 = .ok (.aload_n 0, 1) := by decide +kernel
theorem dX10_beginRead_26 : decode cX10_beginRead 26 = .ok (.iconst 0, 1) := by decide +kernel
theorem dX10_beginRead_27 : decode cX10_beginRead 27 = .ok (.putfield 108, 3) := by decide +kernel
theorem dX10_beginRead_30 : decode cX10_beginRead 30 = .ok (.return_, 1) := by decide +kernel
theorem dX10_beginRow_0 : decode cX10_beginRow 0 = .ok (.aload_n 0, 1) := by decide +kernel
theorem dX10_beginRow_1 : decode cX10_beginRow 1 = .ok (.dup, 1) := by decide +kernel
theorem dX10_beginRow_2 : decode cX10_beginRow 2 = .ok (.getfield 139, 3) := by decide +kernel
theorem dX10_beginRow_5 : decode cX10_beginRow 5 = .ok (.iconst 1, 1) := by decide +kernel
theorem dX10_beginRow_6 : decode cX10_beginRow 6 = .ok (.iadd, 1) := by decide +kernel
theorem dX10_beginRow_7 : decode cX10_beginRow 7 = .ok (.putfield 139, 3) := by decide +kernel
theorem dX10_beginRow_10 : decode cX10_beginRow 10 = .ok (.aload_n 0, 1) := by decide +kernel
theorem dX10_beginRow_11 : decode cX10_beginRow 11 = .ok (.getfield 42, 3) := by decide +kernel
theorem dX10_beginRow_14 : decode cX10_beginRow 14 = .ok (.aload_n 0, 1) := by decide +kernel
theorem dX10_beginRow_15 : decode cX10_beginRow 15 = .ok (.getfield 139, 3) := by decide +kernel
theorem dX10_beginRow_18 : decode cX10_beginRow 18 = .ok (.aload_n 0, 1) := by decide +kernel
theorem dX10_beginRow_19 : decode cX10_beginRow 19 = .ok (.getfield 142, 3) := by decide +kernel
theorem dX10_beginRow_22 : decode cX10_beginRow 22 = .ok (.iastore, 1) := by decide +kernel
theorem dX10_beginRow_23 : decode cX10_beginRow 23 = .ok (.aload_n 0, 1) := by decide +kernel
theorem dX10_beginRow_24 : decode cX10_beginRow 24 = .ok (.getfield 45, 3) := by decide +kernel
theorem dX10_beginRow_27 : decode cX10_beginRow 27 = .ok (.aload_n 0, 1) := by decide +kernel
theorem dX10_beginRow_28 : decode cX10_beginRow 28 = .ok (.getfield 139, 3) := by decide +kernel
theorem dX10_beginRow_31 : decode cX10_beginRow 31 = .ok (.iconst 0, 1) := by decide +kernel
theorem dX10_beginRow_32 : decode cX10_beginRow 32 = .ok (.iastore, 1) := by decide +kernel
theorem dX10_beginRow_33 : decode cX10_beginRow 33 = .ok (.aload_n 0, 1) := by decide +kernel
theorem dX10_beginRow_34 : decode cX10_beginRow 34 = .ok (.getfield 51, 3) := by decide +kernel
theorem dX10_beginRow_37 : decode cX10_beginRow 37 = .ok (.aload_n 0, 1) := by decide +kernel
theorem dX10_beginRow_38 : decode cX10_beginRow 38 = .ok (.getfield 139, 3) := by decide +kernel
theorem dX10_beginRow_41 : decode cX10_beginRow 41 = .ok (.iconst 0, 1) := by decide +kernel
theorem dX10_beginRow_42 : decode cX10_beginRow 42 = .ok (.bastore, 1) := by decide +kernel
theorem dX10_beginRow_43 : decode cX10_beginRow 43 = .ok (.aload_n 0, 1) := by decide +kernel
theorem dX10_beginRow_44 : decode cX10_beginRow 44 = .ok (.iconst 0, 1) := by decide +kernel
theorem dX10_beginRow_45 : decode cX10_beginRow 45 = .ok (.putfield 151, 3) := by decide +kernel
theorem dX10_beginRow_48 : decode cX10_beginRow 48 = .ok (.return_, 1) := by decide +kernel
theorem dX10_literal_0 : decode cX10_literal 0 = .ok (.iload_n 1, 1) := by decide +kernel
theorem dX10_literal_1 : decode cX10_literal 1 = .ok (.aload_n 0, 1) := by decide +kernel
theorem dX10_literal_2 : decode cX10_literal 2 = .ok (.getfield 148, 3) := by decide +kernel
theorem dX10_literal_5 : decode cX10_literal 5 = .ok (.ineg, 1) := by decide +kernel
theorem dX10_literal_6 : decode cX10_literal 6 = .ok (.if_icmp .lt 11, 3) := by decide +kernel
theorem dX10_literal_9 : decode cX10_literal 9 = .ok (.iload_n 1, 1) := by decide +kernel
theorem dX10_literal_10 : decode cX10_literal 10 = .ok (.aload_n 0, 1) := by decide +kernel
theorem dX10_literal_11 : decode cX10_literal 11 = .ok (.getfield 148, 3) := by decide +kernel
theorem dX10_literal_14 : decode cX10_literal 14 = .ok (.if_icmp .le 12, 3) := by decide +kernel
theorem dX10_literal_17 : decode cX10_literal 17 = .ok (.aload_n 0, 1) := by decide +kernel
theorem dX10_literal_18 : decode cX10_literal 18 = .ok (.iconst 2, 1) := by decide +kernel
theorem dX10_literal_19 : decode cX10_literal 19 = .ok (.iload_n 2, 1) := by decide +kernel
theorem dX10_literal_20 : decode cX10_literal 20 = .ok (.invokevirtual 128, 3) := by decide +kernel
theorem dX10_literal_23 : decode cX10_literal 23 = .ok (.goto 28, 3) := by decide +kernel
theorem dX10_literal_26 : decode cX10_literal 26 = .ok (.aload_n 0, 1) := by decide +kernel
theorem dX10_literal_27 : decode cX10_literal 27 = .ok (.getfield 151, 3) := by decide +kernel
theorem dX10_literal_30 : decode cX10_literal 30 = .ok (.bipush 40, 2) := by decide +kernel
theorem dX10_literal_32 : decode cX10_literal 32 = .ok (.if_icmp .eq 13, 3) := by decide +kernel
theorem dX10_literal_35 : decode cX10_literal 35 = .ok (.aload_n 0, 1) := by decide +kernel
theorem dX10_literal_36 : decode cX10_literal 36 = .ok (.getfield 145, 3) := by decide +kernel
theorem dX10_literal_39 : decode cX10_literal 39 = .ok (.sipush 2000, 3) := by decide +kernel
theorem dX10_literal_42 : decode cX10_literal 42 = .ok (.if_icmp .ne 9, 3) := by decide +kernel
theorem dX10_literal_45 : decode cX10_literal 45 = .ok (.aload_n 0, 1) := by decide +kernel
theorem dX10_literal_46 : decode cX10_literal 46 = .ok (.iconst 3, 1) := by decide +kernel
theorem dX10_literal_47 : decode cX10_literal 47 = .ok (.iload_n 2, 1) := by decide +kernel
theorem dX10_literal_48 : decode cX10_literal 48 = .ok (.invokevirtual 128, 3) := by decide +kernel
theorem dX10_literal_51 : decode cX10_literal 51 = .ok (.aload_n 0, 1) := by decide +kernel
theorem dX10_literal_52 : decode cX10_literal 52 = .ok (.getfield 102, 3) := by decide +kernel
theorem dX10_literal_55 : decode cX10_literal 55 = .ok (.ifCond .eq 4, 3) := by decide +kernel
theorem dX10_literal_58 : decode cX10_literal 58 = .ok (.return_, 1) := by decide +kernel
theorem dX10_literal_59 : decode cX10_literal 59 = .ok (.aload_n 0, 1) := by decide +kernel
theorem dX10_literal_60 : decode cX10_literal 60 = .ok (.dup, 1) := by decide +kernel
theorem dX10_literal_61 : decode cX10_literal 61 = .ok (.getfield 151, 3) := by decide +kernel
theorem dX10_literal_64 : decode cX10_literal 64 = .ok (.iconst 1, 1) := by decide +kernel
theorem dX10_literal_65 : decode cX10_literal 65 = .ok (.iadd, 1) := by decide +kernel
theorem dX10_literal_66 : decode cX10_literal 66 = .ok (.putfield 151, 3) := by decide +kernel
theorem dX10_literal_69 : decode cX10_literal 69 = .ok (.aload_n 0, 1) := by decide +kernel
theorem dX10_literal_70 : decode cX10_literal 70 = .ok (.dup, 1) := by decide +kernel
theorem dX10_literal_71 : decode cX10_literal 71 = .ok (.getfield 145, 3) := by decide +kernel
theorem dX10_literal_74 : decode cX10_literal 74 = .ok (.iconst 1, 1) := by decide +kernel
theorem dX10_literal_75 : decode cX10_literal 75 = .ok (.iadd, 1) := by decide +kernel
theorem dX10_literal_76 : decode cX10_literal 76 = .ok (.putfield 145, 3) := by decide +kernel
theorem dX10_literal_79 : decode cX10_literal 79 = .ok (.aload_n 0, 1) := by decide +kernel
theorem dX10_literal_80 : decode cX10_literal 80 = .ok (.getfield 42, 3) := by decide +kernel
theorem dX10_literal_83 : decode cX10_literal 83 = .ok (.aload_n 0, 1) := by decide +kernel
theorem dX10_literal_84 : decode cX10_literal 84 = .ok (.getfield 139, 3) := by decide +kernel
theorem dX10_literal_87 : decode cX10_literal 87 = .ok (.iaload, 1) := by decide +kernel
theorem dX10_literal_88 : decode cX10_literal 88 = .ok (.istore_n 3, 1) := by decide +kernel
theorem dX10_literal_89 : decode cX10_literal 89 = .ok (.iload_n 3, 1) := by decide +kernel
theorem dX10_literal_90 : decode cX10_literal 90 = .ok (.aload_n 0, 1) := by decide +kernel
theorem dX10_literal_91 : decode cX10_literal 91 = .ok (.getfield 142, 3) := by decide +kernel
theorem dX10_literal_94 : decode cX10_literal 94 = .ok (.if_icmp .ge 20, 3) := by decide +kernel
theorem dX10_literal_97 : decode cX10_literal 97 = .ok (.aload_n 0, 1) := by decide +kernel
theorem dX10_literal_98 : decode cX10_literal 98 = .ok (.getfield 48, 3) := by decide +kernel
theorem dX10_literal_101 : decode cX10_literal 101 = .ok (.iload_n 3, 1) := by decide +kernel
theorem dX10_literal_102 : decode cX10_literal 102 = .ok (.iaload, 1) := by decide +kernel
theorem dX10_literal_103 : decode cX10_literal 103 = .ok (.iload_n 1, 1) := by decide +kernel
theorem dX10_literal_104 : decode cX10_literal 104 = .ok (.if_icmp .ne 4, 3) := by decide +kernel
theorem dX10_literal_107 : decode cX10_literal 107 = .ok (.return_, 1) := by decide +kernel
theorem dX10_literal_108 : decode cX10_literal 108 = .ok (.iinc 3 1, 3) := by decide +kernel
theorem dX10_literal_111 : decode cX10_literal 111 = .ok (.goto (-22), 3) := by decide +kernel
theorem dX10_literal_114 : decode cX10_literal 114 = .ok (.aload_n 0, 1) := by decide +kernel
theorem dX10_literal_115 : decode cX10_literal 115 = .ok (.getfield 48, 3) := by decide +kernel
theorem dX10_literal_118 : decode cX10_literal 118 = .ok (.aload_n 0, 1) := by decide +kernel
theorem dX10_literal_119 : decode cX10_literal 119 = .ok (.getfield 142, 3) := by decide +kernel
theorem dX10_literal_122 : decode cX10_literal 122 = .ok (.iload_n 1, 1) := by decide +kernel
theorem dX10_literal_123 : decode cX10_literal 123 = .ok (.iastore, 1) := by decide +kernel
theorem dX10_literal_124 : decode cX10_literal 124 = .ok (.aload_n 0, 1) := by decide +kernel
theorem dX10_literal_125 : decode cX10_literal 125 = .ok (.dup, 1) := by decide +kernel
theorem dX10_literal_126 : decode cX10_literal 126 = .ok (.getfield 142, 3) := by decide +kernel
theorem dX10_literal_129 : decode cX10_literal 129 = .ok (.iconst 1, 1) := by decide +kernel
theorem dX10_literal_130 : decode cX10_literal 130 = .ok (.iadd, 1) := by decide +kernel
theorem dX10_literal_131 : decode cX10_literal 131 = .ok (.putfield 142, 3) := by decide +kernel
theorem dX10_literal_134 : decode cX10_literal 134 = .ok (.aload_n 0, 1) := by decide +kernel
theorem dX10_literal_135 : decode cX10_literal 135 = .ok (.getfield 45, 3) := by decide +kernel
theorem dX10_literal_138 : decode cX10_literal 138 = .ok (.aload_n 0, 1) := by decide +kernel
theorem dX10_literal_139 : decode cX10_literal 139 = .ok (.getfield 139, 3) := by decide +kernel
theorem dX10_literal_142 : decode cX10_literal 142 = .ok (.dup2, 1) := by decide +kernel
theorem dX10_literal_143 : decode cX10_literal 143 = .ok (.iaload, 1) := by decide +kernel
theorem dX10_literal_144 : decode cX10_literal 144 = .ok (.iconst 1, 1) := by decide +kernel
theorem dX10_literal_145 : decode cX10_literal 145 = .ok (.iadd, 1) := by decide +kernel
theorem dX10_literal_146 : decode cX10_literal 146 = .ok (.iastore, 1) := by decide +kernel
theorem dX10_literal_147 : decode cX10_literal 147 = .ok (.return_, 1) := by decide +kernel
theorem dX10_readRowOf_0 : decode cX10_readRowOf 0 = .ok (.iload_n 1, 1) := by decide +kernel
theorem dX10_readRowOf_1 : decode cX10_readRowOf 1 = .ok (.istore_n 2, 1) := by decide +kernel
theorem dX10_readRowOf_2 : decode cX10_readRowOf 2 = .ok (.aload_n 0, 1) := by decide +kernel
theorem dX10_readRowOf_3 : decode cX10_readRowOf 3 = .ok (.getfield 102, 3) := by decide +kernel
theorem dX10_readRowOf_6 : decode cX10_readRowOf 6 = .ok (.ifCond .ne 7, 3) := by decide +kernel
theorem dX10_readRowOf_9 : decode cX10_readRowOf 9 = .ok (.iconst 1, 1) := by decide +kernel
theorem dX10_readRowOf_10 : decode cX10_readRowOf 10 = .ok (.goto 4, 3) := by decide +kernel
theorem dX10_readRowOf_13 : decode cX10_readRowOf 13 = .ok (.iconst 0, 1) := by decide +kernel
theorem dX10_readRowOf_14 : decode cX10_readRowOf 14 = .ok (.istore_n 3, 1) := by decide +kernel
theorem dX10_readRowOf_15 : decode cX10_readRowOf 15 = .ok (.iload_n 3, 1) := by decide +kernel
theorem dX10_readRowOf_16 : decode cX10_readRowOf 16 = .ok (.ifCond .eq 62, 3) := by decide +kernel
theorem dX10_readRowOf_19 : decode cX10_readRowOf 19 = .ok (.iload_n 2, 1) := by decide +kernel
theorem dX10_readRowOf_20 : decode cX10_readRowOf 20 = .ok (.ifCond .ne 7, 3) := by decide +kernel
theorem dX10_readRowOf_23 : decode cX10_readRowOf 23 = .ok (.aload_n 0, 1) := by decide +kernel
theorem dX10_readRowOf_24 : decode cX10_readRowOf 24 = .ok (.invokevirtual 132, 3) := by decide +kernel
theorem dX10_readRowOf_27 : decode cX10_readRowOf 27 = .ok (.iconst 0, 1) := by decide +kernel
theorem dX10_readRowOf_28 : decode cX10_readRowOf 28 = .ok (.istore_n 2, 1) := by decide +kernel
theorem dX10_readRowOf_29 : decode cX10_readRowOf 29 = .ok (.aload_n 0, 1) := by decide +kernel
theorem dX10_readRowOf_30 : decode cX10_readRowOf 30 = .ok (.invokevirtual 135, 3) := by decide +kernel
theorem dX10_readRowOf_33 : decode cX10_readRowOf 33 = .ok (.istore 4, 2) := by decide +kernel
theorem dX10_readRowOf_35 : decode cX10_readRowOf 35 = .ok (.aload_n 0, 1) := by decide +kernel
theorem dX10_readRowOf_36 : decode cX10_readRowOf 36 = .ok (.getfield 102, 3) := by decide +kernel
theorem dX10_readRowOf_39 : decode cX10_readRowOf 39 = .ok (.ifCond .ne 18, 3) := by decide +kernel
theorem dX10_readRowOf_42 : decode cX10_readRowOf 42 = .ok (.iload 4, 2) := by decide +kernel
theorem dX10_readRowOf_44 : decode cX10_readRowOf 44 = .ok (.ifCond .eq 13, 3) := by decide +kernel
theorem dX10_readRowOf_47 : decode cX10_readRowOf 47 = .ok (.aload_n 0, 1) := by decide +kernel
theorem dX10_readRowOf_48 : decode cX10_readRowOf 48 = .ok (.iload 4, 2) := by decide +kernel
theorem dX10_readRowOf_50 : decode cX10_readRowOf 50 = .ok (.aload_n 0, 1) := by decide +kernel
theorem dX10_readRowOf_51 : decode cX10_readRowOf 51 = .ok (.getfield 118, 3) := by decide +kernel
theorem dX10_readRowOf_54 : decode cX10_readRowOf 54 = .ok (.invokevirtual 154, 3) := by decide +kernel
theorem dX10_readRowOf_57 : decode cX10_readRowOf 57 = .ok (.aload_n 0, 1) := by decide +kernel
theorem dX10_readRowOf_58 : decode cX10_readRowOf 58 = .ok (.getfield 102, 3) := by decide +kernel
theorem dX10_readRowOf_61 : decode cX10_readRowOf 61 = .ok (.ifCond .ne 12, 3) := by decide +kernel
theorem dX10_readRowOf_64 : decode cX10_readRowOf 64 = .ok (.iload 4, 2) := by decide +kernel
theorem dX10_readRowOf_66 : decode cX10_readRowOf 66 = .ok (.ifCond .eq 7, 3) := by decide +kernel
theorem dX10_readRowOf_69 : decode cX10_readRowOf 69 = .ok (.iconst 1, 1) := by decide +kernel
theorem dX10_readRowOf_70 : decode cX10_readRowOf 70 = .ok (.goto 4, 3) := by decide +kernel
theorem dX10_readRowOf_73 : decode cX10_readRowOf 73 = .ok (.iconst 0, 1) := by decide +kernel
theorem dX10_readRowOf_74 : decode cX10_readRowOf 74 = .ok (.istore_n 3, 1) := by decide +kernel
theorem dX10_readRowOf_75 : decode cX10_readRowOf 75 = .ok (.goto (-60), 3) := by decide +kernel
theorem dX10_readRowOf_78 : decode cX10_readRowOf 78 = .ok (.return_, 1) := by decide +kernel
theorem dX10_formula_0 : decode cX10_formula 0 = .ok (.aload_n 0, 1) := by decide +kernel
theorem dX10_formula_1 : decode cX10_formula 1 = .ok (.iconst 0, 1) := by decide +kernel
theorem dX10_formula_2 : decode cX10_formula 2 = .ok (.putfield 96, 3) := by decide +kernel
theorem dX10_formula_5 : decode cX10_formula 5 = .ok (.iload_n 1, 1) := by decide +kernel
theorem dX10_formula_6 : decode cX10_formula 6 = .ok (.ifCond .lt 11, 3) := by decide +kernel
theorem dX10_formula_9 : decode cX10_formula 9 = .ok (.iload_n 1, 1) := by decide +kernel
theorem dX10_formula_10 : decode cX10_formula 10 = .ok (.aload_n 0, 1) := by decide +kernel
theorem dX10_formula_11 : decode cX10_formula 11 = .ok (.getfield 99, 3) := by decide +kernel
theorem dX10_formula_14 : decode cX10_formula 14 = .ok (.if_icmp .le 8, 3) := by decide +kernel
theorem dX10_formula_17 : decode cX10_formula 17 = .ok (.aload_n 0, 1) := by decide +kernel
theorem dX10_formula_18 : decode cX10_formula 18 = .ok (.invokevirtual 157, 3) := by decide +kernel
theorem dX10_formula_21 : decode cX10_formula 21 = .ok (.ireturn, 1) := by decide +kernel
theorem dX10_formula_22 : decode cX10_formula 22 = .ok (.aload_n 0, 1) := by decide +kernel
theorem dX10_formula_23 : decode cX10_formula 23 = .ok (.iload_n 1, 1) := by decide +kernel
theorem dX10_formula_24 : decode cX10_formula 24 = .ok (.invokevirtual 160, 3) := by decide +kernel
theorem dX10_formula_27 : decode cX10_formula 27 = .ok (.aload_n 0, 1) := by decide +kernel
theorem dX10_formula_28 : decode cX10_formula 28 = .ok (.invokevirtual 132, 3) := by decide +kernel
theorem dX10_formula_31 : decode cX10_formula 31 = .ok (.aload_n 0, 1) := by decide +kernel
theorem dX10_formula_32 : decode cX10_formula 32 = .ok (.getfield 102, 3) := by decide +kernel
theorem dX10_formula_35 : decode cX10_formula 35 = .ok (.ifCond .ne 24, 3) := by decide +kernel
theorem dX10_formula_38 : decode cX10_formula 38 = .ok (.aload_n 0, 1) := by decide +kernel
theorem dX10_formula_39 : decode cX10_formula 39 = .ok (.iconst 1, 1) := by decide +kernel
theorem dX10_formula_40 : decode cX10_formula 40 = .ok (.bipush 112, 2) := by decide +kernel
theorem dX10_formula_42 : decode cX10_formula 42 = .ok (.iconst 0, 1) := by decide +kernel
theorem dX10_formula_43 : decode cX10_formula 43 = .ok (.iconst 0, 1) := by decide +kernel
theorem dX10_formula_44 : decode cX10_formula 44 = .ok (.invokevirtual 164, 3) := by decide +kernel
theorem dX10_formula_47 : decode cX10_formula 47 = .ok (.ifCond .ne 12, 3) := by decide +kernel
theorem dX10_formula_50 : decode cX10_formula 50 = .ok (.aload_n 0, 1) := by decide +kernel
theorem dX10_formula_51 : decode cX10_formula 51 = .ok (.iconst 1, 1) := by decide +kernel
theorem dX10_formula_52 : decode cX10_formula 52 = .ok (.aload_n 0, 1) := by decide +kernel
theorem dX10_formula_53 : decode cX10_formula 53 = .ok (.getfield 118, 3) := by decide +kernel
theorem dX10_formula_56 : decode cX10_formula 56 = .ok (.invokevirtual 128, 3) := by decide +kernel
theorem dX10_formula_59 : decode cX10_formula 59 = .ok (.aload_n 0, 1) := by decide +kernel
theorem dX10_formula_60 : decode cX10_formula 60 = .ok (.invokevirtual 132, 3) := by decide +kernel
theorem dX10_formula_63 : decode cX10_formula 63 = .ok (.aload_n 0, 1) := by decide +kernel
theorem dX10_formula_64 : decode cX10_formula 64 = .ok (.getfield 102, 3) := by decide +kernel
theorem dX10_formula_67 : decode cX10_formula 67 = .ok (.ifCond .ne 26, 3) := by decide +kernel
theorem dX10_formula_70 : decode cX10_formula 70 = .ok (.aload_n 0, 1) := by decide +kernel
theorem dX10_formula_71 : decode cX10_formula 71 = .ok (.iconst 3, 1) := by decide +kernel
theorem dX10_formula_72 : decode cX10_formula 72 = .ok (.bipush 99, 2) := by decide +kernel
theorem dX10_formula_74 : decode cX10_formula 74 = .ok (.bipush 110, 2) := by decide +kernel
theorem dX10_formula_76 : decode cX10_formula 76 = .ok (.bipush 102, 2) := by decide +kernel
theorem dX10_formula_78 : decode cX10_formula 78 = .ok (.invokevirtual 164, 3) := by decide +kernel
theorem dX10_formula_81 : decode cX10_formula 81 = .ok (.ifCond .ne 12, 3) := by decide +kernel
theorem dX10_formula_84 : decode cX10_formula 84 = .ok (.aload_n 0, 1) := by decide +kernel
theorem dX10_formula_85 : decode cX10_formula 85 = .ok (.iconst 1, 1) := by decide +kernel
theorem dX10_formula_86 : decode cX10_formula 86 = .ok (.aload_n 0, 1) := by decide +kernel
theorem dX10_formula_87 : decode cX10_formula 87 = .ok (.getfield 118, 3) := by decide +kernel
theorem dX10_formula_90 : decode cX10_formula 90 = .ok (.invokevirtual 128, 3) := by decide +kernel
theorem dX10_formula_93 : decode cX10_formula 93 = .ok (.aload_n 0, 1) := by decide +kernel
theorem dX10_formula_94 : decode cX10_formula 94 = .ok (.sipush 150, 3) := by decide +kernel
theorem dX10_formula_97 : decode cX10_formula 97 = .ok (.invokevirtual 168, 3) := by decide +kernel
theorem dX10_formula_100 : decode cX10_formula 100 = .ok (.istore_n 2, 1) := by decide +kernel
theorem dX10_formula_101 : decode cX10_formula 101 = .ok (.aload_n 0, 1) := by decide +kernel
theorem dX10_formula_102 : decode cX10_formula 102 = .ok (.sipush 300, 3) := by decide +kernel
theorem dX10_formula_105 : decode cX10_formula 105 = .ok (.invokevirtual 168, 3) := by decide +kernel
theorem dX10_formula_108 : decode cX10_formula 108 = .ok (.istore_n 3, 1) := by decide +kernel
theorem dX10_formula_109 : decode cX10_formula 109 = .ok (.aload_n 0, 1) := by decide +kernel
theorem dX10_formula_110 : decode cX10_formula 110 = .ok (.iload_n 2, 1) := by decide +kernel
theorem dX10_formula_111 : decode cX10_formula 111 = .ok (.putfield 148, 3) := by decide +kernel
theorem dX10_formula_114 : decode cX10_formula 114 = .ok (.iconst 0, 1) := by decide +kernel
theorem dX10_formula_115 : decode cX10_formula 115 = .ok (.istore 4, 2) := by decide +kernel
theorem dX10_formula_117 : decode cX10_formula 117 = .ok (.iload 4, 2) := by decide +kernel
theorem dX10_formula_119 : decode cX10_formula 119 = .ok (.iload_n 3, 1) := by decide +kernel
theorem dX10_formula_120 : decode cX10_formula 120 = .ok (.if_icmp .ge 25, 3) := by decide +kernel
theorem dX10_formula_123 : decode cX10_formula 123 = .ok (.aload_n 0, 1) := by decide +kernel
theorem dX10_formula_124 : decode cX10_formula 124 = .ok (.getfield 102, 3) := by decide +kernel
theorem dX10_formula_127 : decode cX10_formula 127 = .ok (.ifCond .ne 18, 3) := by decide +kernel
theorem dX10_formula_130 : decode cX10_formula 130 = .ok (.aload_n 0, 1) := by decide +kernel
theorem dX10_formula_131 : decode cX10_formula 131 = .ok (.invokevirtual 172, 3) := by decide +kernel
theorem dX10_formula_134 : decode cX10_formula 134 = .ok (.aload_n 0, 1) := by decide +kernel
theorem dX10_formula_135 : decode cX10_formula 135 = .ok (.iconst 0, 1) := by decide +kernel
theorem dX10_formula_136 : decode cX10_formula 136 = .ok (.invokevirtual 175, 3) := by decide +kernel
theorem dX10_formula_139 : decode cX10_formula 139 = .ok (.iinc 4 1, 3) := by decide +kernel
theorem dX10_formula_142 : decode cX10_formula 142 = .ok (.goto (-25), 3) := by decide +kernel
theorem dX10_formula_145 : decode cX10_formula 145 = .ok (.aload_n 0, 1) := by decide +kernel
theorem dX10_formula_146 : decode cX10_formula 146 = .ok (.getfield 102, 3) := by decide +kernel
theorem dX10_formula_149 : decode cX10_formula 149 = .ok (.ifCond .ne 19, 3) := by decide +kernel
theorem dX10_formula_152 : decode cX10_formula 152 = .ok (.aload_n 0, 1) := by decide +kernel
theorem dX10_formula_153 : decode cX10_formula 153 = .ok (.invokevirtual 124, 3) := by decide +kernel
theorem dX10_formula_156 : decode cX10_formula 156 = .ok (.ifCond .eq 12, 3) := by decide +kernel
theorem dX10_formula_159 : decode cX10_formula 159 = .ok (.aload_n 0, 1) := by decide +kernel
theorem dX10_formula_160 : decode cX10_formula 160 = .ok (.iconst 1, 1) := by decide +kernel
theorem dX10_formula_161 : decode cX10_formula 161 = .ok (.aload_n 0, 1) := by decide +kernel
theorem dX10_formula_162 : decode cX10_formula 162 = .ok (.getfield 118, 3) := by decide +kernel
theorem dX10_formula_165 : decode cX10_formula 165 = .ok (.invokevirtual 128, 3) := by decide +kernel
theorem dX10_formula_168 : decode cX10_formula 168 = .ok (.aload_n 0, 1) := by decide +kernel
theorem dX10_formula_169 : decode cX10_formula 169 = .ok (.invokevirtual 179, 3) := by decide +kernel
theorem dX10_formula_172 : decode cX10_formula 172 = .ok (.ifCond .eq 108, 3) := by decide +kernel
theorem dX10_formula_175 : decode cX10_formula 175 = .ok (.aload_n 0, 1) := by decide +kernel
theorem dX10_formula_176 : decode cX10_formula 176 = .ok (.iload_n 2, 1) := by decide +kernel
theorem dX10_formula_177 : decode cX10_formula 177 = .ok (.putfield 182, 3) := by decide +kernel
theorem dX10_formula_180 : decode cX10_formula 180 = .ok (.aload_n 0, 1) := by decide +kernel
theorem dX10_formula_181 : decode cX10_formula 181 = .ok (.aload_n 0, 1) := by decide +kernel
theorem dX10_formula_182 : decode cX10_formula 182 = .ok (.getfield 139, 3) := by decide +kernel
theorem dX10_formula_185 : decode cX10_formula 185 = .ok (.putfield 185, 3) := by decide +kernel
theorem dX10_formula_188 : decode cX10_formula 188 = .ok (.iconst 1, 1) := by decide +kernel
theorem dX10_formula_189 : decode cX10_formula 189 = .ok (.istore 4, 2) := by decide +kernel
theorem dX10_formula_191 : decode cX10_formula 191 = .ok (.iload 4, 2) := by decide +kernel
theorem dX10_formula_193 : decode cX10_formula 193 = .ok (.aload_n 0, 1) := by decide +kernel
theorem dX10_formula_194 : decode cX10_formula 194 = .ok (.getfield 139, 3) := by decide +kernel
theorem dX10_formula_197 : decode cX10_formula 197 = .ok (.if_icmp .gt 37, 3) := by decide +kernel
theorem dX10_formula_200 : decode cX10_formula 200 = .ok (.aload_n 0, 1) := by decide +kernel
theorem dX10_formula_201 : decode cX10_formula 201 = .ok (.getfield 20, 3) := by decide +kernel
theorem dX10_formula_204 : decode cX10_formula 204 = .ok (.iload 4, 2) := by decide +kernel
theorem dX10_formula_206 : decode cX10_formula 206 = .ok (.aload_n 0, 1) := by decide +kernel
theorem dX10_formula_207 : decode cX10_formula 207 = .ok (.getfield 42, 3) := by decide +kernel
theorem dX10_formula_210 : decode cX10_formula 210 = .ok (.iload 4, 2) := by decide +kernel
theorem dX10_formula_212 : decode cX10_formula 212 = .ok (.iaload, 1) := by decide +kernel
theorem dX10_formula_213 : decode cX10_formula 213 = .ok (.iastore, 1) := by decide +kernel
theorem dX10_formula_214 : decode cX10_formula 214 = .ok (.aload_n 0, 1) := by decide +kernel
theorem dX10_formula_215 : decode cX10_formula 215 = .ok (.getfield 23, 3) := by decide +kernel
theorem dX10_formula_218 : decode cX10_formula 218 = .ok (.iload 4, 2) := by decide +kernel
theorem dX10_formula_220 : decode cX10_formula 220 = .ok (.aload_n 0, 1) := by decide +kernel
theorem dX10_formula_221 : decode cX10_formula 221 = .ok (.getfield 45, 3) := by decide +kernel
theorem dX10_formula_224 : decode cX10_formula 224 = .ok (.iload 4, 2) := by decide +kernel
theorem dX10_formula_226 : decode cX10_formula 226 = .ok (.iaload, 1) := by decide +kernel
theorem dX10_formula_227 : decode cX10_formula 227 = .ok (.iastore, 1) := by decide +kernel
theorem dX10_formula_228 : decode cX10_formula 228 = .ok (.iinc 4 1, 3) := by decide +kernel
theorem dX10_formula_231 : decode cX10_formula 231 = .ok (.goto (-40), 3) := by decide +kernel
theorem dX10_formula_234 : decode cX10_formula 234 = .ok (.iconst 0, 1) := by decide +kernel
theorem dX10_formula_235 : decode cX10_formula 235 = .ok (.istore 4, 2) := by decide +kernel
theorem dX10_formula_237 : decode cX10_formula 237 = .ok (.iload 4, 2) := by decide +kernel
theorem dX10_formula_239 : decode cX10_formula 239 = .ok (.aload_n 0, 1) := by decide +kernel
theorem dX10_formula_240 : decode cX10_formula 240 = .ok (.getfield 142, 3) := by decide +kernel
theorem dX10_formula_243 : decode cX10_formula 243 = .ok (.if_icmp .ge 23, 3) := by decide +kernel
theorem dX10_formula_246 : decode cX10_formula 246 = .ok (.aload_n 0, 1) := by decide +kernel
theorem dX10_formula_247 : decode cX10_formula 247 = .ok (.getfield 26, 3) := by decide +kernel
theorem dX10_formula_250 : decode cX10_formula 250 = .ok (.iload 4, 2) := by decide +kernel
theorem dX10_formula_252 : decode cX10_formula 252 = .ok (.aload_n 0, 1) := by decide +kernel
theorem dX10_formula_253 : decode cX10_formula 253 = .ok (.getfield 48, 3) := by decide +kernel
theorem dX10_formula_256 : decode cX10_formula 256 = .ok (.iload 4, 2) := by decide +kernel
theorem dX10_formula_258 : decode cX10_formula 258 = .ok (.iaload, 1) := by decide +kernel
theorem dX10_formula_259 : decode cX10_formula 259 = .ok (.iastore, 1) := by decide +kernel
theorem dX10_formula_260 : decode cX10_formula 260 = .ok (.iinc 4 1, 3) := by decide +kernel
theorem dX10_formula_263 : decode cX10_formula 263 = .ok (.goto (-26), 3) := by decide +kernel
theorem dX10_formula_266 : decode cX10_formula 266 = .ok (.aload_n 0, 1) := by decide +kernel
theorem dX10_formula_267 : decode cX10_formula 267 = .ok (.iconst 0, 1) := by decide +kernel
theorem dX10_formula_268 : decode cX10_formula 268 = .ok (.putfield 188, 3) := by decide +kernel
theorem dX10_formula_271 : decode cX10_formula 271 = .ok (.aload_n 0, 1) := by decide +kernel
theorem dX10_formula_272 : decode cX10_formula 272 = .ok (.iconst 0, 1) := by decide +kernel
theorem dX10_formula_273 : decode cX10_formula 273 = .ok (.putfield 191, 3) := by decide +kernel
theorem dX10_formula_276 : decode cX10_formula 276 = .ok (.aload_n 0, 1) := by decide +kernel
theorem dX10_formula_277 : decode cX10_formula 277 = .ok (.invokevirtual 195, 3) := by decide +kernel
theorem dX10_formula_280 : decode cX10_formula 280 = .ok (.aload_n 0, 1) := by decide +kernel
theorem dX10_formula_281 : decode cX10_formula 281 = .ok (.getfield 198, 3) := by decide +kernel
theorem dX10_formula_284 : decode cX10_formula 284 = .ok (.ireturn, 1) := by decide +kernel
theorem dX10_take_0 : decode cX10_take 0 = .ok (.iconst 0, 1) := by decide +kernel
theorem dX10_take_1 : decode cX10_take 1 = .ok (.istore_n 2, 1) := by decide +kernel
theorem dX10_take_2 : decode cX10_take 2 = .ok (.iload_n 2, 1) := by decide +kernel
theorem dX10_take_3 : decode cX10_take 3 = .ok (.iload_n 1, 1) := by decide +kernel
theorem dX10_take_4 : decode cX10_take 4 = .ok (.if_icmp .ge 21, 3) := by decide +kernel
theorem dX10_take_7 : decode cX10_take 7 = .ok (.aload_n 0, 1) := by decide +kernel
theorem dX10_take_8 : decode cX10_take 8 = .ok (.getfield 13, 3) := by decide +kernel
theorem dX10_take_11 : decode cX10_take 11 = .ok (.iload_n 2, 1) := by decide +kernel
theorem dX10_take_12 : decode cX10_take 12 = .ok (.aload_n 0, 1) := by decide +kernel
theorem dX10_take_13 : decode cX10_take 13 = .ok (.getfield 9, 3) := by decide +kernel
theorem dX10_take_16 : decode cX10_take 16 = .ok (.iload_n 2, 1) := by decide +kernel
theorem dX10_take_17 : decode cX10_take 17 = .ok (.iaload, 1) := by decide +kernel
theorem dX10_take_18 : decode cX10_take 18 = .ok (.iastore, 1) := by decide +kernel
theorem dX10_take_19 : decode cX10_take 19 = .ok (.iinc 2 1, 3) := by decide +kernel
theorem dX10_take_22 : decode cX10_take 22 = .ok (.goto (-20), 3) := by decide +kernel
theorem dX10_take_25 : decode cX10_take 25 = .ok (.aload_n 0, 1) := by decide +kernel
theorem dX10_take_26 : decode cX10_take 26 = .ok (.iload_n 1, 1) := by decide +kernel
theorem dX10_take_27 : decode cX10_take 27 = .ok (.putfield 111, 3) := by decide +kernel
theorem dX10_take_30 : decode cX10_take 30 = .ok (.aload_n 0, 1) := by decide +kernel
theorem dX10_take_31 : decode cX10_take 31 = .ok (.iconst 0, 1) := by decide +kernel
theorem dX10_take_32 : decode cX10_take 32 = .ok (.putfield 99, 3) := by decide +kernel
theorem dX10_take_35 : decode cX10_take 35 = .ok (.aload_n 0, 1) := by decide +kernel
theorem dX10_take_36 : decode cX10_take 36 = .ok (.sipush 150, 3) := by decide +kernel
theorem dX10_take_39 : decode cX10_take 39 = .ok (.invokevirtual 201, 3) := by decide +kernel
theorem dX10_take_42 : decode cX10_take 42 = .ok (.return_, 1) := by decide +kernel
theorem dX10_settled_0 : decode cX10_settled 0 = .ok (.aload_n 0, 1) := by decide +kernel
theorem dX10_settled_1 : decode cX10_settled 1 = .ok (.aload_n 0, 1) := by decide +kernel
theorem dX10_settled_2 : decode cX10_settled 2 = .ok (.getfield 102, 3) := by decide +kernel
theorem dX10_settled_5 : decode cX10_settled 5 = .ok (.putfield 198, 3) := by decide +kernel
theorem dX10_settled_8 : decode cX10_settled 8 = .ok (.aload_n 0, 1) := by decide +kernel
theorem dX10_settled_9 : decode cX10_settled 9 = .ok (.aload_n 0, 1) := by decide +kernel
theorem dX10_settled_10 : decode cX10_settled 10 = .ok (.getfield 102, 3) := by decide +kernel
theorem dX10_settled_13 : decode cX10_settled 13 = .ok (.ifCond .ne 7, 3) := by decide +kernel
theorem dX10_settled_16 : decode cX10_settled 16 = .ok (.iconst (-1), 1) := by decide +kernel
theorem dX10_settled_17 : decode cX10_settled 17 = .ok (.goto 7, 3) := by decide +kernel
theorem dX10_settled_20 : decode cX10_settled 20 = .ok (.aload_n 0, 1) := by decide +kernel
theorem dX10_settled_21 : decode cX10_settled 21 = .ok (.getfield 105, 3) := by decide +kernel
theorem dX10_settled_24 : decode cX10_settled 24 = .ok (.putfield 16, 3) := by decide +kernel
theorem dX10_settled_27 : decode cX10_settled 27 = .ok (.aload_n 0, 1) := by decide +kernel
theorem dX10_settled_28 : decode cX10_settled 28 = .ok (.getfield 102, 3) := by decide +kernel
theorem dX10_settled_31 : decode cX10_settled 31 = .ok (.ifCond .ne 7, 3) := by decide +kernel
theorem dX10_settled_34 : decode cX10_settled 34 = .ok (.iconst 1, 1) := by decide +kernel
theorem dX10_settled_35 : decode cX10_settled 35 = .ok (.goto 4, 3) := by decide +kernel
theorem dX10_settled_38 : decode cX10_settled 38 = .ok (.iconst 0, 1) := by decide +kernel
theorem dX10_settled_39 : decode cX10_settled 39 = .ok (.ireturn, 1) := by decide +kernel
theorem dX10_readText_0 : decode cX10_readText 0 = .ok (.aload_n 0, 1) := by decide +kernel
theorem dX10_readText_1 : decode cX10_readText 1 = .ok (.getfield 102, 3) := by decide +kernel
theorem dX10_readText_4 : decode cX10_readText 4 = .ok (.ifCond .ne 112, 3) := by decide +kernel
theorem dX10_readText_7 : decode cX10_readText 7 = .ok (.aload_n 0, 1) := by decide +kernel
theorem dX10_readText_8 : decode cX10_readText 8 = .ok (.invokevirtual 124, 3) := by decide +kernel
theorem dX10_readText_11 : decode cX10_readText 11 = .ok (.ifCond .eq 105, 3) := by decide +kernel
theorem dX10_readText_14 : decode cX10_readText 14 = .ok (.aload_n 0, 1) := by decide +kernel
theorem dX10_readText_15 : decode cX10_readText 15 = .ok (.iconst 1, 1) := by decide +kernel
theorem dX10_readText_16 : decode cX10_readText 16 = .ok (.bipush 100, 2) := by decide +kernel
theorem dX10_readText_18 : decode cX10_readText 18 = .ok (.iconst 0, 1) := by decide +kernel
theorem dX10_readText_19 : decode cX10_readText 19 = .ok (.iconst 0, 1) := by decide +kernel
theorem dX10_readText_20 : decode cX10_readText 20 = .ok (.invokevirtual 164, 3) := by decide +kernel
theorem dX10_readText_23 : decode cX10_readText 23 = .ok (.istore_n 1, 1) := by decide +kernel
theorem dX10_readText_24 : decode cX10_readText 24 = .ok (.aload_n 0, 1) := by decide +kernel
theorem dX10_readText_25 : decode cX10_readText 25 = .ok (.getfield 139, 3) := by decide +kernel
theorem dX10_readText_28 : decode cX10_readText 28 = .ok (.sipush 300, 3) := by decide +kernel
theorem dX10_readText_31 : decode cX10_readText 31 = .ok (.if_icmp .ne 48, 3) := by decide +kernel
theorem dX10_readText_34 : decode cX10_readText 34 = .ok (.iload_n 1, 1) := by decide +kernel
theorem dX10_readText_35 : decode cX10_readText 35 = .ok (.ifCond .eq 7, 3) := by decide +kernel
theorem dX10_readText_38 : decode cX10_readText 38 = .ok (.iconst 0, 1) := by decide +kernel
theorem dX10_readText_39 : decode cX10_readText 39 = .ok (.goto 7, 3) := by decide +kernel
theorem dX10_readText_42 : decode cX10_readText 42 = .ok (.aload_n 0, 1) := by decide +kernel
theorem dX10_readText_43 : decode cX10_readText 43 = .ok (.invokevirtual 135, 3) := by decide +kernel
theorem dX10_readText_46 : decode cX10_readText 46 = .ok (.istore_n 2, 1) := by decide +kernel
theorem dX10_readText_47 : decode cX10_readText 47 = .ok (.iload_n 2, 1) := by decide +kernel
theorem dX10_readText_48 : decode cX10_readText 48 = .ok (.sipush (-150), 3) := by decide +kernel
theorem dX10_readText_51 : decode cX10_readText 51 = .ok (.if_icmp .lt 10, 3) := by decide +kernel
theorem dX10_readText_54 : decode cX10_readText 54 = .ok (.iload_n 2, 1) := by decide +kernel
theorem dX10_readText_55 : decode cX10_readText 55 = .ok (.sipush 150, 3) := by decide +kernel
theorem dX10_readText_58 : decode cX10_readText 58 = .ok (.if_icmp .le 12, 3) := by decide +kernel
theorem dX10_readText_61 : decode cX10_readText 61 = .ok (.aload_n 0, 1) := by decide +kernel
theorem dX10_readText_62 : decode cX10_readText 62 = .ok (.iconst 2, 1) := by decide +kernel
theorem dX10_readText_63 : decode cX10_readText 63 = .ok (.aload_n 0, 1) := by decide +kernel
theorem dX10_readText_64 : decode cX10_readText 64 = .ok (.getfield 118, 3) := by decide +kernel
theorem dX10_readText_67 : decode cX10_readText 67 = .ok (.invokevirtual 128, 3) := by decide +kernel
theorem dX10_readText_70 : decode cX10_readText 70 = .ok (.aload_n 0, 1) := by decide +kernel
theorem dX10_readText_71 : decode cX10_readText 71 = .ok (.iconst 3, 1) := by decide +kernel
theorem dX10_readText_72 : decode cX10_readText 72 = .ok (.aload_n 0, 1) := by decide +kernel
theorem dX10_readText_73 : decode cX10_readText 73 = .ok (.getfield 118, 3) := by decide +kernel
theorem dX10_readText_76 : decode cX10_readText 76 = .ok (.invokevirtual 128, 3) := by decide +kernel
theorem dX10_readText_79 : decode cX10_readText 79 = .ok (.aload_n 0, 1) := by decide +kernel
theorem dX10_readText_80 : decode cX10_readText 80 = .ok (.getfield 102, 3) := by decide +kernel
theorem dX10_readText_83 : decode cX10_readText 83 = .ok (.ifCond .ne 30, 3) := by decide +kernel
theorem dX10_readText_86 : decode cX10_readText 86 = .ok (.aload_n 0, 1) := by decide +kernel
theorem dX10_readText_87 : decode cX10_readText 87 = .ok (.invokevirtual 172, 3) := by decide +kernel
theorem dX10_readText_90 : decode cX10_readText 90 = .ok (.aload_n 0, 1) := by decide +kernel
theorem dX10_readText_91 : decode cX10_readText 91 = .ok (.getfield 51, 3) := by decide +kernel
theorem dX10_readText_94 : decode cX10_readText 94 = .ok (.aload_n 0, 1) := by decide +kernel
theorem dX10_readText_95 : decode cX10_readText 95 = .ok (.getfield 139, 3) := by decide +kernel
theorem dX10_readText_98 : decode cX10_readText 98 = .ok (.iload_n 1, 1) := by decide +kernel
theorem dX10_readText_99 : decode cX10_readText 99 = .ok (.bastore, 1) := by decide +kernel
theorem dX10_readText_100 : decode cX10_readText 100 = .ok (.aload_n 0, 1) := by decide +kernel
theorem dX10_readText_101 : decode cX10_readText 101 = .ok (.iload_n 1, 1) := by decide +kernel
theorem dX10_readText_102 : decode cX10_readText 102 = .ok (.ifCond .ne 7, 3) := by decide +kernel
theorem dX10_readText_105 : decode cX10_readText 105 = .ok (.iconst 1, 1) := by decide +kernel
theorem dX10_readText_106 : decode cX10_readText 106 = .ok (.goto 4, 3) := by decide +kernel
theorem dX10_readText_109 : decode cX10_readText 109 = .ok (.iconst 0, 1) := by decide +kernel
theorem dX10_readText_110 : decode cX10_readText 110 = .ok (.invokevirtual 175, 3) := by decide +kernel
theorem dX10_readText_113 : decode cX10_readText 113 = .ok (.goto (-113), 3) := by decide +kernel
theorem dX10_readText_116 : decode cX10_readText 116 = .ok (.return_, 1) := by decide +kernel
theorem dX10_readBytes_0 : decode cX10_readBytes 0 = .ok (.aload_n 0, 1) := by decide +kernel
theorem dX10_readBytes_1 : decode cX10_readBytes 1 = .ok (.getfield 102, 3) := by decide +kernel
theorem dX10_readBytes_4 : decode cX10_readBytes 4 = .ok (.ifCond .ne 125, 3) := by decide +kernel
theorem dX10_readBytes_7 : decode cX10_readBytes 7 = .ok (.aload_n 0, 1) := by decide +kernel
theorem dX10_readBytes_8 : decode cX10_readBytes 8 = .ok (.getfield 108, 3) := by decide +kernel
theorem dX10_readBytes_11 : decode cX10_readBytes 11 = .ok (.aload_n 0, 1) := by decide +kernel
theorem dX10_readBytes_12 : decode cX10_readBytes 12 = .ok (.getfield 111, 3) := by decide +kernel
theorem dX10_readBytes_15 : decode cX10_readBytes 15 = .ok (.if_icmp .ge 114, 3) := by decide +kernel
theorem dX10_readBytes_18 : decode cX10_readBytes 18 = .ok (.aload_n 0, 1) := by decide +kernel
theorem dX10_readBytes_19 : decode cX10_readBytes 19 = .ok (.getfield 13, 3) := by decide +kernel
theorem dX10_readBytes_22 : decode cX10_readBytes 22 = .ok (.aload_n 0, 1) := by decide +kernel
theorem dX10_readBytes_23 : decode cX10_readBytes 23 = .ok (.getfield 108, 3) := by decide +kernel
theorem dX10_readBytes_26 : decode cX10_readBytes 26 = .ok (.iaload, 1) := by decide +kernel
theorem dX10_readBytes_27 : decode cX10_readBytes 27 = .ok (.istore_n 1, 1) := by decide +kernel
theorem dX10_readBytes_28 : decode cX10_readBytes 28 = .ok (.iload_n 1, 1) := by decide +kernel
theorem dX10_readBytes_29 : decode cX10_readBytes 29 = .ok (.bipush 97, 2) := by decide +kernel
theorem dX10_readBytes_31 : decode cX10_readBytes 31 = .ok (.if_icmp .eq 21, 3) := by decide +kernel
theorem dX10_readBytes_34 : decode cX10_readBytes 34 = .ok (.iload_n 1, 1) := by decide +kernel
theorem dX10_readBytes_35 : decode cX10_readBytes 35 = .ok (.bipush 100, 2) := by decide +kernel
theorem dX10_readBytes_37 : decode cX10_readBytes 37 = .ok (.if_icmp .eq 15, 3) := by decide +kernel
theorem dX10_readBytes_40 : decode cX10_readBytes 40 = .ok (.aload_n 0, 1) := by decide +kernel
theorem dX10_readBytes_41 : decode cX10_readBytes 41 = .ok (.iconst 1, 1) := by decide +kernel
theorem dX10_readBytes_42 : decode cX10_readBytes 42 = .ok (.aload_n 0, 1) := by decide +kernel
theorem dX10_readBytes_43 : decode cX10_readBytes 43 = .ok (.getfield 108, 3) := by decide +kernel
theorem dX10_readBytes_46 : decode cX10_readBytes 46 = .ok (.invokevirtual 128, 3) := by decide +kernel
theorem dX10_readBytes_49 : decode cX10_readBytes 49 = .ok (.goto 22, 3) := by decide +kernel
theorem dX10_readBytes_52 : decode cX10_readBytes 52 = .ok (.aload_n 0, 1) := by decide +kernel
theorem dX10_readBytes_53 : decode cX10_readBytes 53 = .ok (.getfield 139, 3) := by decide +kernel
theorem dX10_readBytes_56 : decode cX10_readBytes 56 = .ok (.sipush 300, 3) := by decide +kernel
theorem dX10_readBytes_59 : decode cX10_readBytes 59 = .ok (.if_icmp .ne 12, 3) := by decide +kernel
theorem dX10_readBytes_62 : decode cX10_readBytes 62 = .ok (.aload_n 0, 1) := by decide +kernel
theorem dX10_readBytes_63 : decode cX10_readBytes 63 = .ok (.iconst 3, 1) := by decide +kernel
theorem dX10_readBytes_64 : decode cX10_readBytes 64 = .ok (.aload_n 0, 1) := by decide +kernel
theorem dX10_readBytes_65 : decode cX10_readBytes 65 = .ok (.getfield 108, 3) := by decide +kernel
theorem dX10_readBytes_68 : decode cX10_readBytes 68 = .ok (.invokevirtual 128, 3) := by decide +kernel
theorem dX10_readBytes_71 : decode cX10_readBytes 71 = .ok (.aload_n 0, 1) := by decide +kernel
theorem dX10_readBytes_72 : decode cX10_readBytes 72 = .ok (.getfield 102, 3) := by decide +kernel
theorem dX10_readBytes_75 : decode cX10_readBytes 75 = .ok (.ifCond .ne 51, 3) := by decide +kernel
theorem dX10_readBytes_78 : decode cX10_readBytes 78 = .ok (.aload_n 0, 1) := by decide +kernel
theorem dX10_readBytes_79 : decode cX10_readBytes 79 = .ok (.invokevirtual 172, 3) := by decide +kernel
theorem dX10_readBytes_82 : decode cX10_readBytes 82 = .ok (.aload_n 0, 1) := by decide +kernel
theorem dX10_readBytes_83 : decode cX10_readBytes 83 = .ok (.getfield 51, 3) := by decide +kernel
theorem dX10_readBytes_86 : decode cX10_readBytes 86 = .ok (.aload_n 0, 1) := by decide +kernel
theorem dX10_readBytes_87 : decode cX10_readBytes 87 = .ok (.getfield 139, 3) := by decide +kernel
theorem dX10_readBytes_90 : decode cX10_readBytes 90 = .ok (.iload_n 1, 1) := by decide +kernel
theorem dX10_readBytes_91 : decode cX10_readBytes 91 = .ok (.bipush 100, 2) := by decide +kernel
theorem dX10_readBytes_93 : decode cX10_readBytes 93 = .ok (.if_icmp .ne 7, 3) := by decide +kernel
theorem dX10_readBytes_96 : decode cX10_readBytes 96 = .ok (.iconst 1, 1) := by decide +kernel
theorem dX10_readBytes_97 : decode cX10_readBytes 97 = .ok (.goto 4, 3) := by decide +kernel
theorem dX10_readBytes_100 : decode cX10_readBytes 100 = .ok (.iconst 0, 1) := by decide +kernel
theorem dX10_readBytes_101 : decode cX10_readBytes 101 = .ok (.bastore, 1) := by decide +kernel
theorem dX10_readBytes_102 : decode cX10_readBytes 102 = .ok (.aload_n 0, 1) := by decide +kernel
theorem dX10_readBytes_103 : decode cX10_readBytes 103 = .ok (.dup, 1) := by decide +kernel
theorem dX10_readBytes_104 : decode cX10_readBytes 104 = .ok (.getfield 108, 3) := by decide +kernel
theorem dX10_readBytes_107 : decode cX10_readBytes 107 = .ok (.iconst 1, 1) := by decide +kernel
theorem dX10_readBytes_108 : decode cX10_readBytes 108 = .ok (.iadd, 1) := by decide +kernel
theorem dX10_readBytes_109 : decode cX10_readBytes 109 = .ok (.putfield 108, 3) := by decide +kernel
theorem dX10_readBytes_112 : decode cX10_readBytes 112 = .ok (.iconst 1, 1) := by decide +kernel
theorem dX10_readBytes_113 : decode cX10_readBytes 113 = .ok (.istore_n 2, 1) := by decide +kernel
theorem dX10_readBytes_114 : decode cX10_readBytes 114 = .ok (.iload_n 2, 1) := by decide +kernel
theorem dX10_readBytes_115 : decode cX10_readBytes 115 = .ok (.ifCond .eq 11, 3) := by decide +kernel
theorem dX10_readBytes_118 : decode cX10_readBytes 118 = .ok (.aload_n 0, 1) := by decide +kernel
theorem dX10_readBytes_119 : decode cX10_readBytes 119 = .ok (.invokevirtual 204, 3) := by decide +kernel
theorem dX10_readBytes_122 : decode cX10_readBytes 122 = .ok (.istore_n 2, 1) := by decide +kernel
theorem dX10_readBytes_123 : decode cX10_readBytes 123 = .ok (.goto (-9), 3) := by decide +kernel
theorem dX10_readBytes_126 : decode cX10_readBytes 126 = .ok (.goto (-126), 3) := by decide +kernel
theorem dX10_readBytes_129 : decode cX10_readBytes 129 = .ok (.return_, 1) := by decide +kernel
theorem dX10_readNumber_0 : decode cX10_readNumber 0 = .ok (.aload_n 0, 1) := by decide +kernel
theorem dX10_readNumber_1 : decode cX10_readNumber 1 = .ok (.getfield 108, 3) := by decide +kernel
theorem dX10_readNumber_4 : decode cX10_readNumber 4 = .ok (.aload_n 0, 1) := by decide +kernel
theorem dX10_readNumber_5 : decode cX10_readNumber 5 = .ok (.getfield 111, 3) := by decide +kernel
theorem dX10_readNumber_8 : decode cX10_readNumber 8 = .ok (.if_icmp .ne 14, 3) := by decide +kernel
theorem dX10_readNumber_11 : decode cX10_readNumber 11 = .ok (.aload_n 0, 1) := by decide +kernel
theorem dX10_readNumber_12 : decode cX10_readNumber 12 = .ok (.iconst 1, 1) := by decide +kernel
theorem dX10_readNumber_13 : decode cX10_readNumber 13 = .ok (.aload_n 0, 1) := by decide +kernel
theorem dX10_readNumber_14 : decode cX10_readNumber 14 = .ok (.getfield 111, 3) := by decide +kernel
theorem dX10_readNumber_17 : decode cX10_readNumber 17 = .ok (.invokevirtual 128, 3) := by decide +kernel
theorem dX10_readNumber_20 : decode cX10_readNumber 20 = .ok (.iconst 0, 1) := by decide +kernel
theorem dX10_readNumber_21 : decode cX10_readNumber 21 = .ok (.ireturn, 1) := by decide +kernel
theorem dX10_readNumber_22 : decode cX10_readNumber 22 = .ok (.aload_n 0, 1) := by decide +kernel
theorem dX10_readNumber_23 : decode cX10_readNumber 23 = .ok (.getfield 108, 3) := by decide +kernel
theorem dX10_readNumber_26 : decode cX10_readNumber 26 = .ok (.istore_n 1, 1) := by decide +kernel
theorem dX10_readNumber_27 : decode cX10_readNumber 27 = .ok (.aload_n 0, 1) := by decide +kernel
theorem dX10_readNumber_28 : decode cX10_readNumber 28 = .ok (.getfield 13, 3) := by decide +kernel
theorem dX10_readNumber_31 : decode cX10_readNumber 31 = .ok (.aload_n 0, 1) := by decide +kernel
theorem dX10_readNumber_32 : decode cX10_readNumber 32 = .ok (.getfield 108, 3) := by decide +kernel
theorem dX10_readNumber_35 : decode cX10_readNumber 35 = .ok (.iaload, 1) := by decide +kernel
theorem dX10_readNumber_36 : decode cX10_readNumber 36 = .ok (.istore_n 2, 1) := by decide +kernel
theorem dX10_readNumber_37 : decode cX10_readNumber 37 = .ok (.aload_n 0, 1) := by decide +kernel
theorem dX10_readNumber_38 : decode cX10_readNumber 38 = .ok (.dup, 1) := by decide +kernel
theorem dX10_readNumber_39 : decode cX10_readNumber 39 = .ok (.getfield 108, 3) := by decide +kernel
theorem dX10_readNumber_42 : decode cX10_readNumber 42 = .ok (.iconst 1, 1) := by decide +kernel
theorem dX10_readNumber_43 : decode cX10_readNumber 43 = .ok (.iadd, 1) := by decide +kernel
theorem dX10_readNumber_44 : decode cX10_readNumber 44 = .ok (.putfield 108, 3) := by decide +kernel
theorem dX10_readNumber_47 : decode cX10_readNumber 47 = .ok (.iload_n 2, 1) := by decide +kernel
theorem dX10_readNumber_48 : decode cX10_readNumber 48 = .ok (.sipush 128, 3) := by decide +kernel
theorem dX10_readNumber_51 : decode cX10_readNumber 51 = .ok (.if_icmp .lt 90, 3) := by decide +kernel
theorem dX10_readNumber_54 : decode cX10_readNumber 54 = .ok (.aload_n 0, 1) := by decide +kernel
theorem dX10_readNumber_55 : decode cX10_readNumber 55 = .ok (.getfield 108, 3) := by decide +kernel
theorem dX10_readNumber_58 : decode cX10_readNumber 58 = .ok (.aload_n 0, 1) := by decide +kernel
theorem dX10_readNumber_59 : decode cX10_readNumber 59 = .ok (.getfield 111, 3) := by decide +kernel
theorem dX10_readNumber_62 : decode cX10_readNumber 62 = .ok (.if_icmp .ne 14, 3) := by decide +kernel
theorem dX10_readNumber_65 : decode cX10_readNumber 65 = .ok (.aload_n 0, 1) := by decide +kernel
theorem dX10_readNumber_66 : decode cX10_readNumber 66 = .ok (.iconst 1, 1) := by decide +kernel
theorem dX10_readNumber_67 : decode cX10_readNumber 67 = .ok (.aload_n 0, 1) := by decide +kernel
theorem dX10_readNumber_68 : decode cX10_readNumber 68 = .ok (.getfield 111, 3) := by decide +kernel
theorem dX10_readNumber_71 : decode cX10_readNumber 71 = .ok (.invokevirtual 128, 3) := by decide +kernel
theorem dX10_readNumber_74 : decode cX10_readNumber 74 = .ok (.iconst 0, 1) := by decide +kernel
theorem dX10_readNumber_75 : decode cX10_readNumber 75 = .ok (.ireturn, 1) := by decide +kernel
theorem dX10_readNumber_76 : decode cX10_readNumber 76 = .ok (.aload_n 0, 1) := by decide +kernel
theorem dX10_readNumber_77 : decode cX10_readNumber 77 = .ok (.getfield 13, 3) := by decide +kernel
theorem dX10_readNumber_80 : decode cX10_readNumber 80 = .ok (.aload_n 0, 1) := by decide +kernel
theorem dX10_readNumber_81 : decode cX10_readNumber 81 = .ok (.getfield 108, 3) := by decide +kernel
theorem dX10_readNumber_84 : decode cX10_readNumber 84 = .ok (.iaload, 1) := by decide +kernel
theorem dX10_readNumber_85 : decode cX10_readNumber 85 = .ok (.ifCond .eq 18, 3) := by decide +kernel
theorem dX10_readNumber_88 : decode cX10_readNumber 88 = .ok (.aload_n 0, 1) := by decide +kernel
theorem dX10_readNumber_89 : decode cX10_readNumber 89 = .ok (.getfield 13, 3) := by decide +kernel
theorem dX10_readNumber_92 : decode cX10_readNumber 92 = .ok (.aload_n 0, 1) := by decide +kernel
theorem dX10_readNumber_93 : decode cX10_readNumber 93 = .ok (.getfield 108, 3) := by decide +kernel
theorem dX10_readNumber_96 : decode cX10_readNumber 96 = .ok (.iaload, 1) := by decide +kernel
theorem dX10_readNumber_97 : decode cX10_readNumber 97 = .ok (.sipush 128, 3) := by decide +kernel
theorem dX10_readNumber_100 : decode cX10_readNumber 100 = .ok (.if_icmp .lt 11, 3) := by decide +kernel
theorem dX10_readNumber_103 : decode cX10_readNumber 103 = .ok (.aload_n 0, 1) := by decide +kernel
theorem dX10_readNumber_104 : decode cX10_readNumber 104 = .ok (.iconst 1, 1) := by decide +kernel
theorem dX10_readNumber_105 : decode cX10_readNumber 105 = .ok (.iload_n 1, 1) := by decide +kernel
theorem dX10_readNumber_106 : decode cX10_readNumber 106 = .ok (.invokevirtual 128, 3) := by decide +kernel
theorem dX10_readNumber_109 : decode cX10_readNumber 109 = .ok (.iconst 0, 1) := by decide +kernel
theorem dX10_readNumber_110 : decode cX10_readNumber 110 = .ok (.ireturn, 1) := by decide +kernel
theorem dX10_readNumber_111 : decode cX10_readNumber 111 = .ok (.iload_n 2, 1) := by decide +kernel
theorem dX10_readNumber_112 : decode cX10_readNumber 112 = .ok (.sipush 128, 3) := by decide +kernel
theorem dX10_readNumber_115 : decode cX10_readNumber 115 = .ok (.isub, 1) := by decide +kernel
theorem dX10_readNumber_116 : decode cX10_readNumber 116 = .ok (.sipush 128, 3) := by decide +kernel
theorem dX10_readNumber_119 : decode cX10_readNumber 119 = .ok (.aload_n 0, 1) := by decide +kernel
theorem dX10_readNumber_120 : decode cX10_readNumber 120 = .ok (.getfield 13, 3) := by decide +kernel
theorem dX10_readNumber_123 : decode cX10_readNumber 123 = .ok (.aload_n 0, 1) := by decide +kernel
theorem dX10_readNumber_124 : decode cX10_readNumber 124 = .ok (.getfield 108, 3) := by decide +kernel
theorem dX10_readNumber_127 : decode cX10_readNumber 127 = .ok (.iaload, 1) := by decide +kernel
theorem dX10_readNumber_128 : decode cX10_readNumber 128 = .ok (.imul, 1) := by decide +kernel
theorem dX10_readNumber_129 : decode cX10_readNumber 129 = .ok (.iadd, 1) := by decide +kernel
theorem dX10_readNumber_130 : decode cX10_readNumber 130 = .ok (.istore_n 2, 1) := by decide +kernel
theorem dX10_readNumber_131 : decode cX10_readNumber 131 = .ok (.aload_n 0, 1) := by decide +kernel
theorem dX10_readNumber_132 : decode cX10_readNumber 132 = .ok (.dup, 1) := by decide +kernel
theorem dX10_readNumber_133 : decode cX10_readNumber 133 = .ok (.getfield 108, 3) := by decide +kernel
theorem dX10_readNumber_136 : decode cX10_readNumber 136 = .ok (.iconst 1, 1) := by decide +kernel
theorem dX10_readNumber_137 : decode cX10_readNumber 137 = .ok (.iadd, 1) := by decide +kernel
theorem dX10_readNumber_138 : decode cX10_readNumber 138 = .ok (.putfield 108, 3) := by decide +kernel
theorem dX10_readNumber_141 : decode cX10_readNumber 141 = .ok (.iload_n 2, 1) := by decide +kernel
theorem dX10_readNumber_142 : decode cX10_readNumber 142 = .ok (.ifCond .ne 5, 3) := by decide +kernel
theorem dX10_readNumber_145 : decode cX10_readNumber 145 = .ok (.iconst 0, 1) := by decide +kernel
theorem dX10_readNumber_146 : decode cX10_readNumber 146 = .ok (.ireturn, 1) := by decide +kernel
theorem dX10_readNumber_147 : decode cX10_readNumber 147 = .ok (.iload_n 2, 1) := by decide +kernel
theorem dX10_readNumber_148 : decode cX10_readNumber 148 = .ok (.iconst 2, 1) := by decide +kernel
theorem dX10_readNumber_149 : decode cX10_readNumber 149 = .ok (.if_icmp .lt 10, 3) := by decide +kernel
theorem dX10_readNumber_152 : decode cX10_readNumber 152 = .ok (.iload_n 2, 1) := by decide +kernel
theorem dX10_readNumber_153 : decode cX10_readNumber 153 = .ok (.sipush 301, 3) := by decide +kernel
theorem dX10_readNumber_156 : decode cX10_readNumber 156 = .ok (.if_icmp .le 12, 3) := by decide +kernel
theorem dX10_readNumber_159 : decode cX10_readNumber 159 = .ok (.aload_n 0, 1) := by decide +kernel
theorem dX10_readNumber_160 : decode cX10_readNumber 160 = .ok (.iconst 2, 1) := by decide +kernel
theorem dX10_readNumber_161 : decode cX10_readNumber 161 = .ok (.iload_n 1, 1) := by decide +kernel
theorem dX10_readNumber_162 : decode cX10_readNumber 162 = .ok (.invokevirtual 128, 3) := by decide +kernel
theorem dX10_readNumber_165 : decode cX10_readNumber 165 = .ok (.goto 24, 3) := by decide +kernel
theorem dX10_readNumber_168 : decode cX10_readNumber 168 = .ok (.aload_n 0, 1) := by decide +kernel
theorem dX10_readNumber_169 : decode cX10_readNumber 169 = .ok (.iload_n 2, 1) := by decide +kernel
theorem dX10_readNumber_170 : decode cX10_readNumber 170 = .ok (.iconst 2, 1) := by decide +kernel
theorem dX10_readNumber_171 : decode cX10_readNumber 171 = .ok (.irem, 1) := by decide +kernel
theorem dX10_readNumber_172 : decode cX10_readNumber 172 = .ok (.ifCond .ne 9, 3) := by decide +kernel
theorem dX10_readNumber_175 : decode cX10_readNumber 175 = .ok (.iload_n 2, 1) := by decide +kernel
theorem dX10_readNumber_176 : decode cX10_readNumber 176 = .ok (.iconst 2, 1) := by decide +kernel
theorem dX10_readNumber_177 : decode cX10_readNumber 177 = .ok (.idiv, 1) := by decide +kernel
theorem dX10_readNumber_178 : decode cX10_readNumber 178 = .ok (.goto 7, 3) := by decide +kernel
theorem dX10_readNumber_181 : decode cX10_readNumber 181 = .ok (.iload_n 2, 1) := by decide +kernel
theorem dX10_readNumber_182 : decode cX10_readNumber 182 = .ok (.iconst 2, 1) := by decide +kernel
theorem dX10_readNumber_183 : decode cX10_readNumber 183 = .ok (.idiv, 1) := by decide +kernel
theorem dX10_readNumber_184 : decode cX10_readNumber 184 = .ok (.ineg, 1) := by decide +kernel
theorem dX10_readNumber_185 : decode cX10_readNumber 185 = .ok (.iload_n 1, 1) := by decide +kernel
theorem dX10_readNumber_186 : decode cX10_readNumber 186 = .ok (.invokevirtual 154, 3) := by decide +kernel
theorem dX10_readNumber_189 : decode cX10_readNumber 189 = .ok (.aload_n 0, 1) := by decide +kernel
theorem dX10_readNumber_190 : decode cX10_readNumber 190 = .ok (.getfield 102, 3) := by decide +kernel
theorem dX10_readNumber_193 : decode cX10_readNumber 193 = .ok (.ifCond .ne 7, 3) := by decide +kernel
theorem dX10_readNumber_196 : decode cX10_readNumber 196 = .ok (.iconst 1, 1) := by decide +kernel
theorem dX10_readNumber_197 : decode cX10_readNumber 197 = .ok (.goto 4, 3) := by decide +kernel
theorem dX10_readNumber_200 : decode cX10_readNumber 200 = .ok (.iconst 0, 1) := by decide +kernel
theorem dX10_readNumber_201 : decode cX10_readNumber 201 = .ok (.ireturn, 1) := by decide +kernel
theorem dX10_becomesProof_0 : decode cX10_becomesProof 0 = .ok (.aload_n 0, 1) := by decide +kernel
theorem dX10_becomesProof_1 : decode cX10_becomesProof 1 = .ok (.aload_n 0, 1) := by decide +kernel
theorem dX10_becomesProof_2 : decode cX10_becomesProof 2 = .ok (.getfield 139, 3) := by decide +kernel
theorem dX10_becomesProof_5 : decode cX10_becomesProof 5 = .ok (.putfield 188, 3) := by decide +kernel
theorem dX10_becomesProof_8 : decode cX10_becomesProof 8 = .ok (.iconst 1, 1) := by decide +kernel
theorem dX10_becomesProof_9 : decode cX10_becomesProof 9 = .ok (.istore_n 1, 1) := by decide +kernel
theorem dX10_becomesProof_10 : decode cX10_becomesProof 10 = .ok (.iload_n 1, 1) := by decide +kernel
theorem dX10_becomesProof_11 : decode cX10_becomesProof 11 = .ok (.aload_n 0, 1) := by decide +kernel
theorem dX10_becomesProof_12 : decode cX10_becomesProof 12 = .ok (.getfield 139, 3) := by decide +kernel
theorem dX10_becomesProof_15 : decode cX10_becomesProof 15 = .ok (.if_icmp .gt 45, 3) := by decide +kernel
theorem dX10_becomesProof_18 : decode cX10_becomesProof 18 = .ok (.aload_n 0, 1) := by decide +kernel
theorem dX10_becomesProof_19 : decode cX10_becomesProof 19 = .ok (.getfield 29, 3) := by decide +kernel
theorem dX10_becomesProof_22 : decode cX10_becomesProof 22 = .ok (.iload_n 1, 1) := by decide +kernel
theorem dX10_becomesProof_23 : decode cX10_becomesProof 23 = .ok (.aload_n 0, 1) := by decide +kernel
theorem dX10_becomesProof_24 : decode cX10_becomesProof 24 = .ok (.getfield 42, 3) := by decide +kernel
theorem dX10_becomesProof_27 : decode cX10_becomesProof 27 = .ok (.iload_n 1, 1) := by decide +kernel
theorem dX10_becomesProof_28 : decode cX10_becomesProof 28 = .ok (.iaload, 1) := by decide +kernel
theorem dX10_becomesProof_29 : decode cX10_becomesProof 29 = .ok (.iastore, 1) := by decide +kernel
theorem dX10_becomesProof_30 : decode cX10_becomesProof 30 = .ok (.aload_n 0, 1) := by decide +kernel
theorem dX10_becomesProof_31 : decode cX10_becomesProof 31 = .ok (.getfield 32, 3) := by decide +kernel
theorem dX10_becomesProof_34 : decode cX10_becomesProof 34 = .ok (.iload_n 1, 1) := by decide +kernel
theorem dX10_becomesProof_35 : decode cX10_becomesProof 35 = .ok (.aload_n 0, 1) := by decide +kernel
theorem dX10_becomesProof_36 : decode cX10_becomesProof 36 = .ok (.getfield 45, 3) := by decide +kernel
theorem dX10_becomesProof_39 : decode cX10_becomesProof 39 = .ok (.iload_n 1, 1) := by decide +kernel
theorem dX10_becomesProof_40 : decode cX10_becomesProof 40 = .ok (.iaload, 1) := by decide +kernel
theorem dX10_becomesProof_41 : decode cX10_becomesProof 41 = .ok (.iastore, 1) := by decide +kernel
theorem dX10_becomesProof_42 : decode cX10_becomesProof 42 = .ok (.aload_n 0, 1) := by decide +kernel
theorem dX10_becomesProof_43 : decode cX10_becomesProof 43 = .ok (.getfield 38, 3) := by decide +kernel
theorem dX10_becomesProof_46 : decode cX10_becomesProof 46 = .ok (.iload_n 1, 1) := by decide +kernel
theorem dX10_becomesProof_47 : decode cX10_becomesProof 47 = .ok (.aload_n 0, 1) := by decide +kernel
theorem dX10_becomesProof_48 : decode cX10_becomesProof 48 = .ok (.getfield 51, 3) := by decide +kernel
theorem dX10_becomesProof_51 : decode cX10_becomesProof 51 = .ok (.iload_n 1, 1) := by decide +kernel
theorem dX10_becomesProof_52 : decode cX10_becomesProof 52 = .ok (.baload, 1) := by decide +kernel
theorem dX10_becomesProof_53 : decode cX10_becomesProof 53 = .ok (.bastore, 1) := by decide +kernel
theorem dX10_becomesProof_54 : decode cX10_becomesProof 54 = .ok (.iinc 1 1, 3) := by decide +kernel
theorem dX10_becomesProof_57 : decode cX10_becomesProof 57 = .ok (.goto (-47), 3) := by decide +kernel
theorem dX10_becomesProof_60 : decode cX10_becomesProof 60 = .ok (.iconst 0, 1) := by decide +kernel
theorem dX10_becomesProof_61 : decode cX10_becomesProof 61 = .ok (.istore_n 1, 1) := by decide +kernel
theorem dX10_becomesProof_62 : decode cX10_becomesProof 62 = .ok (.iload_n 1, 1) := by decide +kernel
theorem dX10_becomesProof_63 : decode cX10_becomesProof 63 = .ok (.aload_n 0, 1) := by decide +kernel
theorem dX10_becomesProof_64 : decode cX10_becomesProof 64 = .ok (.getfield 142, 3) := by decide +kernel
theorem dX10_becomesProof_67 : decode cX10_becomesProof 67 = .ok (.if_icmp .ge 21, 3) := by decide +kernel
theorem dX10_becomesProof_70 : decode cX10_becomesProof 70 = .ok (.aload_n 0, 1) := by decide +kernel
theorem dX10_becomesProof_71 : decode cX10_becomesProof 71 = .ok (.getfield 35, 3) := by decide +kernel
theorem dX10_becomesProof_74 : decode cX10_becomesProof 74 = .ok (.iload_n 1, 1) := by decide +kernel
theorem dX10_becomesProof_75 : decode cX10_becomesProof 75 = .ok (.aload_n 0, 1) := by decide +kernel
theorem dX10_becomesProof_76 : decode cX10_becomesProof 76 = .ok (.getfield 48, 3) := by decide +kernel
theorem dX10_becomesProof_79 : decode cX10_becomesProof 79 = .ok (.iload_n 1, 1) := by decide +kernel
theorem dX10_becomesProof_80 : decode cX10_becomesProof 80 = .ok (.iaload, 1) := by decide +kernel
theorem dX10_becomesProof_81 : decode cX10_becomesProof 81 = .ok (.iastore, 1) := by decide +kernel
theorem dX10_becomesProof_82 : decode cX10_becomesProof 82 = .ok (.iinc 1 1, 3) := by decide +kernel
theorem dX10_becomesProof_85 : decode cX10_becomesProof 85 = .ok (.goto (-23), 3) := by decide +kernel
theorem dX10_becomesProof_88 : decode cX10_becomesProof 88 = .ok (.aload_n 0, 1) := by decide +kernel
theorem dX10_becomesProof_89 : decode cX10_becomesProof 89 = .ok (.iconst 0, 1) := by decide +kernel
theorem dX10_becomesProof_90 : decode cX10_becomesProof 90 = .ok (.putfield 191, 3) := by decide +kernel
theorem dX10_becomesProof_93 : decode cX10_becomesProof 93 = .ok (.aload_n 0, 1) := by decide +kernel
theorem dX10_becomesProof_94 : decode cX10_becomesProof 94 = .ok (.invokevirtual 195, 3) := by decide +kernel
theorem dX10_becomesProof_97 : decode cX10_becomesProof 97 = .ok (.return_, 1) := by decide +kernel
theorem dX10_number0_0 : decode cX10_number0 0 = .ok (.aload_n 0, 1) := by decide +kernel
theorem dX10_number0_1 : decode cX10_number0 1 = .ok (.aload_n 0, 1) := by decide +kernel
theorem dX10_number0_2 : decode cX10_number0 2 = .ok (.getfield 185, 3) := by decide +kernel
theorem dX10_number0_5 : decode cX10_number0 5 = .ok (.putfield 207, 3) := by decide +kernel
theorem dX10_number0_8 : decode cX10_number0 8 = .ok (.iconst 1, 1) := by decide +kernel
theorem dX10_number0_9 : decode cX10_number0 9 = .ok (.istore_n 1, 1) := by decide +kernel
theorem dX10_number0_10 : decode cX10_number0 10 = .ok (.iload_n 1, 1) := by decide +kernel
theorem dX10_number0_11 : decode cX10_number0 11 = .ok (.aload_n 0, 1) := by decide +kernel
theorem dX10_number0_12 : decode cX10_number0 12 = .ok (.getfield 188, 3) := by decide +kernel
theorem dX10_number0_15 : decode cX10_number0 15 = .ok (.if_icmp .gt 61, 3) := by decide +kernel
theorem dX10_number0_18 : decode cX10_number0 18 = .ok (.aload_n 0, 1) := by decide +kernel
theorem dX10_number0_19 : decode cX10_number0 19 = .ok (.getfield 38, 3) := by decide +kernel
theorem dX10_number0_22 : decode cX10_number0 22 = .ok (.iload_n 1, 1) := by decide +kernel
theorem dX10_number0_23 : decode cX10_number0 23 = .ok (.baload, 1) := by decide +kernel
theorem dX10_number0_24 : decode cX10_number0 24 = .ok (.ifCond .ne 23, 3) := by decide +kernel
theorem dX10_number0_27 : decode cX10_number0 27 = .ok (.aload_n 0, 1) := by decide +kernel
theorem dX10_number0_28 : decode cX10_number0 28 = .ok (.dup, 1) := by decide +kernel
theorem dX10_number0_29 : decode cX10_number0 29 = .ok (.getfield 207, 3) := by decide +kernel
theorem dX10_number0_32 : decode cX10_number0 32 = .ok (.iconst 1, 1) := by decide +kernel
theorem dX10_number0_33 : decode cX10_number0 33 = .ok (.iadd, 1) := by decide +kernel
theorem dX10_number0_34 : decode cX10_number0 34 = .ok (.putfield 207, 3) := by decide +kernel
theorem dX10_number0_37 : decode cX10_number0 37 = .ok (.aload_n 0, 1) := by decide +kernel
theorem dX10_number0_38 : decode cX10_number0 38 = .ok (.getfield 54, 3) := by decide +kernel
theorem dX10_number0_41 : decode cX10_number0 41 = .ok (.aload_n 0, 1) := by decide +kernel
theorem dX10_number0_42 : decode cX10_number0 42 = .ok (.getfield 207, 3) := by decide +kernel
theorem dX10_number0_45 : decode cX10_number0 45 = .ok (.iload_n 1, 1) := by decide +kernel
theorem dX10_number0_46 : decode cX10_number0 46 = .ok (.iastore, 1) := by decide +kernel
theorem dX10_number0_47 : decode cX10_number0 47 = .ok (.aload_n 0, 1) := by decide +kernel
theorem dX10_number0_48 : decode cX10_number0 48 = .ok (.getfield 57, 3) := by decide +kernel
theorem dX10_number0_51 : decode cX10_number0 51 = .ok (.iload_n 1, 1) := by decide +kernel
theorem dX10_number0_52 : decode cX10_number0 52 = .ok (.aload_n 0, 1) := by decide +kernel
theorem dX10_number0_53 : decode cX10_number0 53 = .ok (.getfield 38, 3) := by decide +kernel
theorem dX10_number0_56 : decode cX10_number0 56 = .ok (.iload_n 1, 1) := by decide +kernel
theorem dX10_number0_57 : decode cX10_number0 57 = .ok (.baload, 1) := by decide +kernel
theorem dX10_number0_58 : decode cX10_number0 58 = .ok (.ifCond .eq 7, 3) := by decide +kernel
theorem dX10_number0_61 : decode cX10_number0 61 = .ok (.iconst 0, 1) := by decide +kernel
theorem dX10_number0_62 : decode cX10_number0 62 = .ok (.goto 7, 3) := by decide +kernel
theorem dX10_number0_65 : decode cX10_number0 65 = .ok (.aload_n 0, 1) := by decide +kernel
theorem dX10_number0_66 : decode cX10_number0 66 = .ok (.getfield 207, 3) := by decide +kernel
theorem dX10_number0_69 : decode cX10_number0 69 = .ok (.iastore, 1) := by decide +kernel
theorem dX10_number0_70 : decode cX10_number0 70 = .ok (.iinc 1 1, 3) := by decide +kernel
theorem dX10_number0_73 : decode cX10_number0 73 = .ok (.goto (-63), 3) := by decide +kernel
theorem dX10_number0_76 : decode cX10_number0 76 = .ok (.return_, 1) := by decide +kernel
theorem dX10_proof_0 : decode cX10_proof 0 = .ok (.aload_n 0, 1) := by decide +kernel
theorem dX10_proof_1 : decode cX10_proof 1 = .ok (.iconst 0, 1) := by decide +kernel
theorem dX10_proof_2 : decode cX10_proof 2 = .ok (.putfield 96, 3) := by decide +kernel
theorem dX10_proof_5 : decode cX10_proof 5 = .ok (.iload_n 1, 1) := by decide +kernel
theorem dX10_proof_6 : decode cX10_proof 6 = .ok (.ifCond .lt 11, 3) := by decide +kernel
theorem dX10_proof_9 : decode cX10_proof 9 = .ok (.iload_n 1, 1) := by decide +kernel
theorem dX10_proof_10 : decode cX10_proof 10 = .ok (.aload_n 0, 1) := by decide +kernel
theorem dX10_proof_11 : decode cX10_proof 11 = .ok (.getfield 99, 3) := by decide +kernel
theorem dX10_proof_14 : decode cX10_proof 14 = .ok (.if_icmp .le 8, 3) := by decide +kernel
theorem dX10_proof_17 : decode cX10_proof 17 = .ok (.aload_n 0, 1) := by decide +kernel
theorem dX10_proof_18 : decode cX10_proof 18 = .ok (.invokevirtual 157, 3) := by decide +kernel
theorem dX10_proof_21 : decode cX10_proof 21 = .ok (.ireturn, 1) := by decide +kernel
theorem dX10_proof_22 : decode cX10_proof 22 = .ok (.aload_n 0, 1) := by decide +kernel
theorem dX10_proof_23 : decode cX10_proof 23 = .ok (.iload_n 1, 1) := by decide +kernel
theorem dX10_proof_24 : decode cX10_proof 24 = .ok (.invokevirtual 160, 3) := by decide +kernel
theorem dX10_proof_27 : decode cX10_proof 27 = .ok (.iload_n 2, 1) := by decide +kernel
theorem dX10_proof_28 : decode cX10_proof 28 = .ok (.ifCond .eq 10, 3) := by decide +kernel
theorem dX10_proof_31 : decode cX10_proof 31 = .ok (.aload_n 0, 1) := by decide +kernel
theorem dX10_proof_32 : decode cX10_proof 32 = .ok (.invokevirtual 210, 3) := by decide +kernel
theorem dX10_proof_35 : decode cX10_proof 35 = .ok (.goto 7, 3) := by decide +kernel
theorem dX10_proof_38 : decode cX10_proof 38 = .ok (.aload_n 0, 1) := by decide +kernel
theorem dX10_proof_39 : decode cX10_proof 39 = .ok (.invokevirtual 213, 3) := by decide +kernel
theorem dX10_proof_42 : decode cX10_proof 42 = .ok (.aload_n 0, 1) := by decide +kernel
theorem dX10_proof_43 : decode cX10_proof 43 = .ok (.invokevirtual 179, 3) := by decide +kernel
theorem dX10_proof_46 : decode cX10_proof 46 = .ok (.ifCond .eq 7, 3) := by decide +kernel
theorem dX10_proof_49 : decode cX10_proof 49 = .ok (.aload_n 0, 1) := by decide +kernel
theorem dX10_proof_50 : decode cX10_proof 50 = .ok (.invokevirtual 216, 3) := by decide +kernel
theorem dX10_proof_53 : decode cX10_proof 53 = .ok (.aload_n 0, 1) := by decide +kernel
theorem dX10_proof_54 : decode cX10_proof 54 = .ok (.getfield 198, 3) := by decide +kernel
theorem dX10_proof_57 : decode cX10_proof 57 = .ok (.ireturn, 1) := by decide +kernel
theorem dX10_fault_0 : decode cX10_fault 0 = .ok (.aload_n 0, 1) := by decide +kernel
theorem dX10_fault_1 : decode cX10_fault 1 = .ok (.iconst 0, 1) := by decide +kernel
theorem dX10_fault_2 : decode cX10_fault 2 = .ok (.putfield 96, 3) := by decide +kernel
theorem dX10_fault_5 : decode cX10_fault 5 = .ok (.iload_n 1, 1) := by decide +kernel
theorem dX10_fault_6 : decode cX10_fault 6 = .ok (.ifCond .lt 8, 3) := by decide +kernel
theorem dX10_fault_9 : decode cX10_fault 9 = .ok (.iload_n 1, 1) := by decide +kernel
theorem dX10_fault_10 : decode cX10_fault 10 = .ok (.iconst 1, 1) := by decide +kernel
theorem dX10_fault_11 : decode cX10_fault 11 = .ok (.if_icmp .le 8, 3) := by decide +kernel
theorem dX10_fault_14 : decode cX10_fault 14 = .ok (.aload_n 0, 1) := by decide +kernel
theorem dX10_fault_15 : decode cX10_fault 15 = .ok (.invokevirtual 157, 3) := by decide +kernel
theorem dX10_fault_18 : decode cX10_fault 18 = .ok (.ireturn, 1) := by decide +kernel
theorem dX10_fault_19 : decode cX10_fault 19 = .ok (.iload_n 1, 1) := by decide +kernel
theorem dX10_fault_20 : decode cX10_fault 20 = .ok (.ifCond .ne 10, 3) := by decide +kernel
theorem dX10_fault_23 : decode cX10_fault 23 = .ok (.aload_n 0, 1) := by decide +kernel
theorem dX10_fault_24 : decode cX10_fault 24 = .ok (.getfield 198, 3) := by decide +kernel
theorem dX10_fault_27 : decode cX10_fault 27 = .ok (.goto 7, 3) := by decide +kernel
theorem dX10_fault_30 : decode cX10_fault 30 = .ok (.aload_n 0, 1) := by decide +kernel
theorem dX10_fault_31 : decode cX10_fault 31 = .ok (.getfield 16, 3) := by decide +kernel
theorem dX10_fault_34 : decode cX10_fault 34 = .ok (.ireturn, 1) := by decide +kernel
theorem dX10_longOf_0 : decode cX10_longOf 0 = .ok (.iload_n 1, 1) := by decide +kernel
theorem dX10_longOf_1 : decode cX10_longOf 1 = .ok (.aload_n 0, 1) := by decide +kernel
theorem dX10_longOf_2 : decode cX10_longOf 2 = .ok (.getfield 185, 3) := by decide +kernel
theorem dX10_longOf_5 : decode cX10_longOf 5 = .ok (.if_icmp .gt 12, 3) := by decide +kernel
theorem dX10_longOf_8 : decode cX10_longOf 8 = .ok (.aload_n 0, 1) := by decide +kernel
theorem dX10_longOf_9 : decode cX10_longOf 9 = .ok (.getfield 23, 3) := by decide +kernel
theorem dX10_longOf_12 : decode cX10_longOf 12 = .ok (.iload_n 1, 1) := by decide +kernel
theorem dX10_longOf_13 : decode cX10_longOf 13 = .ok (.iaload, 1) := by decide +kernel
theorem dX10_longOf_14 : decode cX10_longOf 14 = .ok (.goto 14, 3) := by decide +kernel
theorem dX10_longOf_17 : decode cX10_longOf 17 = .ok (.aload_n 0, 1) := by decide +kernel
theorem dX10_longOf_18 : decode cX10_longOf 18 = .ok (.getfield 32, 3) := by decide +kernel
theorem dX10_longOf_21 : decode cX10_longOf 21 = .ok (.aload_n 0, 1) := by decide +kernel
theorem dX10_longOf_22 : decode cX10_longOf 22 = .ok (.getfield 54, 3) := by decide +kernel
theorem dX10_longOf_25 : decode cX10_longOf 25 = .ok (.iload_n 1, 1) := by decide +kernel
theorem dX10_longOf_26 : decode cX10_longOf 26 = .ok (.iaload, 1) := by decide +kernel
theorem dX10_longOf_27 : decode cX10_longOf 27 = .ok (.iaload, 1) := by decide +kernel
theorem dX10_longOf_28 : decode cX10_longOf 28 = .ok (.ireturn, 1) := by decide +kernel
theorem dX10_literalOf_0 : decode cX10_literalOf 0 = .ok (.iload_n 1, 1) := by decide +kernel
theorem dX10_literalOf_1 : decode cX10_literalOf 1 = .ok (.aload_n 0, 1) := by decide +kernel
theorem dX10_literalOf_2 : decode cX10_literalOf 2 = .ok (.getfield 185, 3) := by decide +kernel
theorem dX10_literalOf_5 : decode cX10_literalOf 5 = .ok (.if_icmp .gt 19, 3) := by decide +kernel
theorem dX10_literalOf_8 : decode cX10_literalOf 8 = .ok (.aload_n 0, 1) := by decide +kernel
theorem dX10_literalOf_9 : decode cX10_literalOf 9 = .ok (.getfield 26, 3) := by decide +kernel
theorem dX10_literalOf_12 : decode cX10_literalOf 12 = .ok (.aload_n 0, 1) := by decide +kernel
theorem dX10_literalOf_13 : decode cX10_literalOf 13 = .ok (.getfield 20, 3) := by decide +kernel
theorem dX10_literalOf_16 : decode cX10_literalOf 16 = .ok (.iload_n 1, 1) := by decide +kernel
theorem dX10_literalOf_17 : decode cX10_literalOf 17 = .ok (.iaload, 1) := by decide +kernel
theorem dX10_literalOf_18 : decode cX10_literalOf 18 = .ok (.iload_n 2, 1) := by decide +kernel
theorem dX10_literalOf_19 : decode cX10_literalOf 19 = .ok (.iadd, 1) := by decide +kernel
theorem dX10_literalOf_20 : decode cX10_literalOf 20 = .ok (.iaload, 1) := by decide +kernel
theorem dX10_literalOf_21 : decode cX10_literalOf 21 = .ok (.goto 21, 3) := by decide +kernel
theorem dX10_literalOf_24 : decode cX10_literalOf 24 = .ok (.aload_n 0, 1) := by decide +kernel
theorem dX10_literalOf_25 : decode cX10_literalOf 25 = .ok (.getfield 35, 3) := by decide +kernel
theorem dX10_literalOf_28 : decode cX10_literalOf 28 = .ok (.aload_n 0, 1) := by decide +kernel
theorem dX10_literalOf_29 : decode cX10_literalOf 29 = .ok (.getfield 29, 3) := by decide +kernel
theorem dX10_literalOf_32 : decode cX10_literalOf 32 = .ok (.aload_n 0, 1) := by decide +kernel
theorem dX10_literalOf_33 : decode cX10_literalOf 33 = .ok (.getfield 54, 3) := by decide +kernel
theorem dX10_literalOf_36 : decode cX10_literalOf 36 = .ok (.iload_n 1, 1) := by decide +kernel
theorem dX10_literalOf_37 : decode cX10_literalOf 37 = .ok (.iaload, 1) := by decide +kernel
theorem dX10_literalOf_38 : decode cX10_literalOf 38 = .ok (.iaload, 1) := by decide +kernel
theorem dX10_literalOf_39 : decode cX10_literalOf 39 = .ok (.iload_n 2, 1) := by decide +kernel
theorem dX10_literalOf_40 : decode cX10_literalOf 40 = .ok (.iadd, 1) := by decide +kernel
theorem dX10_literalOf_41 : decode cX10_literalOf 41 = .ok (.iaload, 1) := by decide +kernel
theorem dX10_literalOf_42 : decode cX10_literalOf 42 = .ok (.ireturn, 1) := by decide +kernel
theorem dX10_has_0 : decode cX10_has 0 = .ok (.iconst 0, 1) := by decide +kernel
theorem dX10_has_1 : decode cX10_has 1 = .ok (.istore_n 3, 1) := by decide +kernel
theorem dX10_has_2 : decode cX10_has 2 = .ok (.iconst 0, 1) := by decide +kernel
theorem dX10_has_3 : decode cX10_has 3 = .ok (.istore 4, 2) := by decide +kernel
theorem dX10_has_5 : decode cX10_has 5 = .ok (.iload 4, 2) := by decide +kernel
theorem dX10_has_7 : decode cX10_has 7 = .ok (.aload_n 0, 1) := by decide +kernel
theorem dX10_has_8 : decode cX10_has 8 = .ok (.iload_n 1, 1) := by decide +kernel
theorem dX10_has_9 : decode cX10_has 9 = .ok (.invokevirtual 219, 3) := by decide +kernel
theorem dX10_has_12 : decode cX10_has 12 = .ok (.if_icmp .ge 30, 3) := by decide +kernel
theorem dX10_has_15 : decode cX10_has 15 = .ok (.iload_n 3, 1) := by decide +kernel
theorem dX10_has_16 : decode cX10_has 16 = .ok (.ifCond .ne 14, 3) := by decide +kernel
theorem dX10_has_19 : decode cX10_has 19 = .ok (.aload_n 0, 1) := by decide +kernel
theorem dX10_has_20 : decode cX10_has 20 = .ok (.iload_n 1, 1) := by decide +kernel
theorem dX10_has_21 : decode cX10_has 21 = .ok (.iload 4, 2) := by decide +kernel
theorem dX10_has_23 : decode cX10_has 23 = .ok (.invokevirtual 222, 3) := by decide +kernel
theorem dX10_has_26 : decode cX10_has 26 = .ok (.iload_n 2, 1) := by decide +kernel
theorem dX10_has_27 : decode cX10_has 27 = .ok (.if_icmp .ne 7, 3) := by decide +kernel
theorem dX10_has_30 : decode cX10_has 30 = .ok (.iconst 1, 1) := by decide +kernel
theorem dX10_has_31 : decode cX10_has 31 = .ok (.goto 4, 3) := by decide +kernel
theorem dX10_has_34 : decode cX10_has 34 = .ok (.iconst 0, 1) := by decide +kernel
theorem dX10_has_35 : decode cX10_has 35 = .ok (.istore_n 3, 1) := by decide +kernel
theorem dX10_has_36 : decode cX10_has 36 = .ok (.iinc 4 1, 3) := by decide +kernel
theorem dX10_has_39 : decode cX10_has 39 = .ok (.goto (-34), 3) := by decide +kernel
theorem dX10_has_42 : decode cX10_has 42 = .ok (.iload_n 3, 1) := by decide +kernel
theorem dX10_has_43 : decode cX10_has 43 = .ok (.ireturn, 1) := by decide +kernel
theorem dX10_valueOf_0 : decode cX10_valueOf 0 = .ok (.iload_n 1, 1) := by decide +kernel
theorem dX10_valueOf_1 : decode cX10_valueOf 1 = .ok (.ifCond .le 12, 3) := by decide +kernel
theorem dX10_valueOf_4 : decode cX10_valueOf 4 = .ok (.aload_n 0, 1) := by decide +kernel
theorem dX10_valueOf_5 : decode cX10_valueOf 5 = .ok (.getfield 75, 3) := by decide +kernel
theorem dX10_valueOf_8 : decode cX10_valueOf 8 = .ok (.iload_n 1, 1) := by decide +kernel
theorem dX10_valueOf_9 : decode cX10_valueOf 9 = .ok (.iaload, 1) := by decide +kernel
theorem dX10_valueOf_10 : decode cX10_valueOf 10 = .ok (.goto 11, 3) := by decide +kernel
theorem dX10_valueOf_13 : decode cX10_valueOf 13 = .ok (.aload_n 0, 1) := by decide +kernel
theorem dX10_valueOf_14 : decode cX10_valueOf 14 = .ok (.getfield 75, 3) := by decide +kernel
theorem dX10_valueOf_17 : decode cX10_valueOf 17 = .ok (.iload_n 1, 1) := by decide +kernel
theorem dX10_valueOf_18 : decode cX10_valueOf 18 = .ok (.ineg, 1) := by decide +kernel
theorem dX10_valueOf_19 : decode cX10_valueOf 19 = .ok (.iaload, 1) := by decide +kernel
theorem dX10_valueOf_20 : decode cX10_valueOf 20 = .ok (.ineg, 1) := by decide +kernel
theorem dX10_valueOf_21 : decode cX10_valueOf 21 = .ok (.ireturn, 1) := by decide +kernel
theorem dX10_begin_0 : decode cX10_begin 0 = .ok (.iconst 0, 1) := by decide +kernel
theorem dX10_begin_1 : decode cX10_begin 1 = .ok (.istore_n 1, 1) := by decide +kernel
theorem dX10_begin_2 : decode cX10_begin 2 = .ok (.iload_n 1, 1) := by decide +kernel
theorem dX10_begin_3 : decode cX10_begin 3 = .ok (.sipush 150, 3) := by decide +kernel
theorem dX10_begin_6 : decode cX10_begin 6 = .ok (.if_icmp .gt 16, 3) := by decide +kernel
theorem dX10_begin_9 : decode cX10_begin 9 = .ok (.aload_n 0, 1) := by decide +kernel
theorem dX10_begin_10 : decode cX10_begin 10 = .ok (.getfield 75, 3) := by decide +kernel
theorem dX10_begin_13 : decode cX10_begin 13 = .ok (.iload_n 1, 1) := by decide +kernel
theorem dX10_begin_14 : decode cX10_begin 14 = .ok (.iconst 0, 1) := by decide +kernel
theorem dX10_begin_15 : decode cX10_begin 15 = .ok (.iastore, 1) := by decide +kernel
theorem dX10_begin_16 : decode cX10_begin 16 = .ok (.iinc 1 1, 3) := by decide +kernel
theorem dX10_begin_19 : decode cX10_begin 19 = .ok (.goto (-17), 3) := by decide +kernel
theorem dX10_begin_22 : decode cX10_begin 22 = .ok (.aload_n 0, 1) := by decide +kernel
theorem dX10_begin_23 : decode cX10_begin 23 = .ok (.iconst 0, 1) := by decide +kernel
theorem dX10_begin_24 : decode cX10_begin 24 = .ok (.putfield 226, 3) := by decide +kernel
theorem dX10_begin_27 : decode cX10_begin 27 = .ok (.aload_n 0, 1) := by decide +kernel
theorem dX10_begin_28 : decode cX10_begin 28 = .ok (.iconst 0, 1) := by decide +kernel
theorem dX10_begin_29 : decode cX10_begin 29 = .ok (.putfield 229, 3) := by decide +kernel
theorem dX10_begin_32 : decode cX10_begin 32 = .ok (.aload_n 0, 1) := by decide +kernel
theorem dX10_begin_33 : decode cX10_begin 33 = .ok (.iconst 0, 1) := by decide +kernel
theorem dX10_begin_34 : decode cX10_begin 34 = .ok (.putfield 232, 3) := by decide +kernel
theorem dX10_begin_37 : decode cX10_begin 37 = .ok (.return_, 1) := by decide +kernel
theorem dX10_becomes_0 : decode cX10_becomes 0 = .ok (.aload_n 0, 1) := by decide +kernel
theorem dX10_becomes_1 : decode cX10_becomes 1 = .ok (.getfield 235, 3) := by decide +kernel
theorem dX10_becomes_4 : decode cX10_becomes 4 = .ok (.ifCond .ne 9, 3) := by decide +kernel
theorem dX10_becomes_7 : decode cX10_becomes 7 = .ok (.aload_n 0, 1) := by decide +kernel
theorem dX10_becomes_8 : decode cX10_becomes 8 = .ok (.iconst 1, 1) := by decide +kernel
theorem dX10_becomes_9 : decode cX10_becomes 9 = .ok (.putfield 238, 3) := by decide +kernel
theorem dX10_becomes_12 : decode cX10_becomes 12 = .ok (.return_, 1) := by decide +kernel
theorem dX10_becomes_13 : decode cX10_becomes 13 = .ok (.aload_n 0, 1) := by decide +kernel
theorem dX10_becomes_14 : decode cX10_becomes 14 = .ok (.dup, 1) := by decide +kernel
theorem dX10_becomes_15 : decode cX10_becomes 15 = .ok (.getfield 235, 3) := by decide +kernel
theorem dX10_becomes_18 : decode cX10_becomes 18 = .ok (.iconst 1, 1) := by decide +kernel
theorem dX10_becomes_19 : decode cX10_becomes 19 = .ok (.isub, 1) := by decide +kernel
theorem dX10_becomes_20 : decode cX10_becomes 20 = .ok (.putfield 235, 3) := by decide +kernel
theorem dX10_becomes_23 : decode cX10_becomes 23 = .ok (.aload_n 0, 1) := by decide +kernel
theorem dX10_becomes_24 : decode cX10_becomes 24 = .ok (.getfield 75, 3) := by decide +kernel
theorem dX10_becomes_27 : decode cX10_becomes 27 = .ok (.iload_n 1, 1) := by decide +kernel
theorem dX10_becomes_28 : decode cX10_becomes 28 = .ok (.ifCond .le 7, 3) := by decide +kernel
theorem dX10_becomes_31 : decode cX10_becomes 31 = .ok (.iload_n 1, 1) := by decide +kernel
theorem dX10_becomes_32 : decode cX10_becomes 32 = .ok (.goto 5, 3) := by decide +kernel
theorem dX10_becomes_35 : decode cX10_becomes 35 = .ok (.iload_n 1, 1) := by decide +kernel
theorem dX10_becomes_36 : decode cX10_becomes 36 = .ok (.ineg, 1) := by decide +kernel
theorem dX10_becomes_37 : decode cX10_becomes 37 = .ok (.iload_n 1, 1) := by decide +kernel
theorem dX10_becomes_38 : decode cX10_becomes 38 = .ok (.ifCond .le 7, 3) := by decide +kernel
theorem dX10_becomes_41 : decode cX10_becomes 41 = .ok (.iconst 1, 1) := by decide +kernel
theorem dX10_becomes_42 : decode cX10_becomes 42 = .ok (.goto 4, 3) := by decide +kernel
theorem dX10_becomes_45 : decode cX10_becomes 45 = .ok (.iconst (-1), 1) := by decide +kernel
theorem dX10_becomes_46 : decode cX10_becomes 46 = .ok (.iastore, 1) := by decide +kernel
theorem dX10_becomes_47 : decode cX10_becomes 47 = .ok (.aload_n 0, 1) := by decide +kernel
theorem dX10_becomes_48 : decode cX10_becomes 48 = .ok (.getfield 78, 3) := by decide +kernel
theorem dX10_becomes_51 : decode cX10_becomes 51 = .ok (.aload_n 0, 1) := by decide +kernel
theorem dX10_becomes_52 : decode cX10_becomes 52 = .ok (.getfield 226, 3) := by decide +kernel
theorem dX10_becomes_55 : decode cX10_becomes 55 = .ok (.iload_n 1, 1) := by decide +kernel
theorem dX10_becomes_56 : decode cX10_becomes 56 = .ok (.iastore, 1) := by decide +kernel
theorem dX10_becomes_57 : decode cX10_becomes 57 = .ok (.aload_n 0, 1) := by decide +kernel
theorem dX10_becomes_58 : decode cX10_becomes 58 = .ok (.getfield 81, 3) := by decide +kernel
theorem dX10_becomes_61 : decode cX10_becomes 61 = .ok (.aload_n 0, 1) := by decide +kernel
theorem dX10_becomes_62 : decode cX10_becomes 62 = .ok (.getfield 226, 3) := by decide +kernel
theorem dX10_becomes_65 : decode cX10_becomes 65 = .ok (.iload_n 2, 1) := by decide +kernel
theorem dX10_becomes_66 : decode cX10_becomes 66 = .ok (.iastore, 1) := by decide +kernel
theorem dX10_becomes_67 : decode cX10_becomes 67 = .ok (.aload_n 0, 1) := by decide +kernel
theorem dX10_becomes_68 : decode cX10_becomes 68 = .ok (.dup, 1) := by decide +kernel
theorem dX10_becomes_69 : decode cX10_becomes 69 = .ok (.getfield 226, 3) := by decide +kernel
theorem dX10_becomes_72 : decode cX10_becomes 72 = .ok (.iconst 1, 1) := by decide +kernel
theorem dX10_becomes_73 : decode cX10_becomes 73 = .ok (.iadd, 1) := by decide +kernel
theorem dX10_becomes_74 : decode cX10_becomes 74 = .ok (.putfield 226, 3) := by decide +kernel
theorem dX10_becomes_77 : decode cX10_becomes 77 = .ok (.return_, 1) := by decide +kernel
theorem dX10_assume_0 : decode cX10_assume 0 = .ok (.aload_n 0, 1) := by decide +kernel
theorem dX10_assume_1 : decode cX10_assume 1 = .ok (.getfield 238, 3) := by decide +kernel
theorem dX10_assume_4 : decode cX10_assume 4 = .ok (.ifCond .ne 19, 3) := by decide +kernel
theorem dX10_assume_7 : decode cX10_assume 7 = .ok (.aload_n 0, 1) := by decide +kernel
theorem dX10_assume_8 : decode cX10_assume 8 = .ok (.getfield 229, 3) := by decide +kernel
theorem dX10_assume_11 : decode cX10_assume 11 = .ok (.ifCond .ne 12, 3) := by decide +kernel
theorem dX10_assume_14 : decode cX10_assume 14 = .ok (.aload_n 0, 1) := by decide +kernel
theorem dX10_assume_15 : decode cX10_assume 15 = .ok (.iload_n 1, 1) := by decide +kernel
theorem dX10_assume_16 : decode cX10_assume 16 = .ok (.invokevirtual 241, 3) := by decide +kernel
theorem dX10_assume_19 : decode cX10_assume 19 = .ok (.iconst 1, 1) := by decide +kernel
theorem dX10_assume_20 : decode cX10_assume 20 = .ok (.if_icmp .ne 4, 3) := by decide +kernel
theorem dX10_assume_23 : decode cX10_assume 23 = .ok (.return_, 1) := by decide +kernel
theorem dX10_assume_24 : decode cX10_assume 24 = .ok (.aload_n 0, 1) := by decide +kernel
theorem dX10_assume_25 : decode cX10_assume 25 = .ok (.iload_n 1, 1) := by decide +kernel
theorem dX10_assume_26 : decode cX10_assume 26 = .ok (.invokevirtual 241, 3) := by decide +kernel
theorem dX10_assume_29 : decode cX10_assume 29 = .ok (.iconst (-1), 1) := by decide +kernel
theorem dX10_assume_30 : decode cX10_assume 30 = .ok (.if_icmp .ne 11, 3) := by decide +kernel
theorem dX10_assume_33 : decode cX10_assume 33 = .ok (.aload_n 0, 1) := by decide +kernel
theorem dX10_assume_34 : decode cX10_assume 34 = .ok (.iconst 1, 1) := by decide +kernel
theorem dX10_assume_35 : decode cX10_assume 35 = .ok (.putfield 229, 3) := by decide +kernel
theorem dX10_assume_38 : decode cX10_assume 38 = .ok (.goto 9, 3) := by decide +kernel
theorem dX10_assume_41 : decode cX10_assume 41 = .ok (.aload_n 0, 1) := by decide +kernel
theorem dX10_assume_42 : decode cX10_assume 42 = .ok (.iload_n 1, 1) := by decide +kernel
theorem dX10_assume_43 : decode cX10_assume 43 = .ok (.iconst 0, 1) := by decide +kernel
theorem dX10_assume_44 : decode cX10_assume 44 = .ok (.invokevirtual 244, 3) := by decide +kernel
theorem dX10_assume_47 : decode cX10_assume 47 = .ok (.return_, 1) := by decide +kernel
theorem dX10_unit_0 : decode cX10_unit 0 = .ok (.iconst 0, 1) := by decide +kernel
theorem dX10_unit_1 : decode cX10_unit 1 = .ok (.istore_n 2, 1) := by decide +kernel
theorem dX10_unit_2 : decode cX10_unit 2 = .ok (.iconst 0, 1) := by decide +kernel
theorem dX10_unit_3 : decode cX10_unit 3 = .ok (.istore_n 3, 1) := by decide +kernel
theorem dX10_unit_4 : decode cX10_unit 4 = .ok (.iconst 0, 1) := by decide +kernel
theorem dX10_unit_5 : decode cX10_unit 5 = .ok (.istore 4, 2) := by decide +kernel
theorem dX10_unit_7 : decode cX10_unit 7 = .ok (.iload 4, 2) := by decide +kernel
theorem dX10_unit_9 : decode cX10_unit 9 = .ok (.aload_n 0, 1) := by decide +kernel
theorem dX10_unit_10 : decode cX10_unit 10 = .ok (.iload_n 1, 1) := by decide +kernel
theorem dX10_unit_11 : decode cX10_unit 11 = .ok (.invokevirtual 219, 3) := by decide +kernel
theorem dX10_unit_14 : decode cX10_unit 14 = .ok (.if_icmp .ge 48, 3) := by decide +kernel
theorem dX10_unit_17 : decode cX10_unit 17 = .ok (.aload_n 0, 1) := by decide +kernel
theorem dX10_unit_18 : decode cX10_unit 18 = .ok (.aload_n 0, 1) := by decide +kernel
theorem dX10_unit_19 : decode cX10_unit 19 = .ok (.iload_n 1, 1) := by decide +kernel
theorem dX10_unit_20 : decode cX10_unit 20 = .ok (.iload 4, 2) := by decide +kernel
theorem dX10_unit_22 : decode cX10_unit 22 = .ok (.invokevirtual 222, 3) := by decide +kernel
theorem dX10_unit_25 : decode cX10_unit 25 = .ok (.invokevirtual 241, 3) := by decide +kernel
theorem dX10_unit_28 : decode cX10_unit 28 = .ok (.istore 5, 2) := by decide +kernel
theorem dX10_unit_30 : decode cX10_unit 30 = .ok (.iload 5, 2) := by decide +kernel
theorem dX10_unit_32 : decode cX10_unit 32 = .ok (.iconst 1, 1) := by decide +kernel
theorem dX10_unit_33 : decode cX10_unit 33 = .ok (.if_icmp .ne 7, 3) := by decide +kernel
theorem dX10_unit_36 : decode cX10_unit 36 = .ok (.sipush (-1000), 3) := by decide +kernel
theorem dX10_unit_39 : decode cX10_unit 39 = .ok (.ireturn, 1) := by decide +kernel
theorem dX10_unit_40 : decode cX10_unit 40 = .ok (.iload 5, 2) := by decide +kernel
theorem dX10_unit_42 : decode cX10_unit 42 = .ok (.ifCond .ne 14, 3) := by decide +kernel
theorem dX10_unit_45 : decode cX10_unit 45 = .ok (.iinc 2 1, 3) := by decide +kernel
theorem dX10_unit_48 : decode cX10_unit 48 = .ok (.aload_n 0, 1) := by decide +kernel
theorem dX10_unit_49 : decode cX10_unit 49 = .ok (.iload_n 1, 1) := by decide +kernel
theorem dX10_unit_50 : decode cX10_unit 50 = .ok (.iload 4, 2) := by decide +kernel
theorem dX10_unit_52 : decode cX10_unit 52 = .ok (.invokevirtual 222, 3) := by decide +kernel
theorem dX10_unit_55 : decode cX10_unit 55 = .ok (.istore_n 3, 1) := by decide +kernel
theorem dX10_unit_56 : decode cX10_unit 56 = .ok (.iinc 4 1, 3) := by decide +kernel
theorem dX10_unit_59 : decode cX10_unit 59 = .ok (.goto (-52), 3) := by decide +kernel
theorem dX10_unit_62 : decode cX10_unit 62 = .ok (.iload_n 2, 1) := by decide +kernel
theorem dX10_unit_63 : decode cX10_unit 63 = .ok (.iconst 1, 1) := by decide +kernel
theorem dX10_unit_64 : decode cX10_unit 64 = .ok (.if_icmp .le 9, 3) := by decide +kernel
theorem dX10_unit_67 : decode cX10_unit 67 = .ok (.sipush (-1000), 3) := by decide +kernel
theorem dX10_unit_70 : decode cX10_unit 70 = .ok (.goto 4, 3) := by decide +kernel
theorem dX10_unit_73 : decode cX10_unit 73 = .ok (.iload_n 3, 1) := by decide +kernel
theorem dX10_unit_74 : decode cX10_unit 74 = .ok (.ireturn, 1) := by decide +kernel
theorem dX10_first_0 : decode cX10_first 0 = .ok (.iconst 0, 1) := by decide +kernel
theorem dX10_first_1 : decode cX10_first 1 = .ok (.istore_n 1, 1) := by decide +kernel
theorem dX10_first_2 : decode cX10_first 2 = .ok (.iload_n 1, 1) := by decide +kernel
theorem dX10_first_3 : decode cX10_first 3 = .ok (.iconst 2, 1) := by decide +kernel
theorem dX10_first_4 : decode cX10_first 4 = .ok (.if_icmp .ge 65, 3) := by decide +kernel
theorem dX10_first_7 : decode cX10_first 7 = .ok (.iconst 1, 1) := by decide +kernel
theorem dX10_first_8 : decode cX10_first 8 = .ok (.istore_n 2, 1) := by decide +kernel
theorem dX10_first_9 : decode cX10_first 9 = .ok (.iload_n 2, 1) := by decide +kernel
theorem dX10_first_10 : decode cX10_first 10 = .ok (.aload_n 0, 1) := by decide +kernel
theorem dX10_first_11 : decode cX10_first 11 = .ok (.getfield 207, 3) := by decide +kernel
theorem dX10_first_14 : decode cX10_first 14 = .ok (.if_icmp .gt 49, 3) := by decide +kernel
theorem dX10_first_17 : decode cX10_first 17 = .ok (.aload_n 0, 1) := by decide +kernel
theorem dX10_first_18 : decode cX10_first 18 = .ok (.getfield 60, 3) := by decide +kernel
theorem dX10_first_21 : decode cX10_first 21 = .ok (.iload_n 2, 1) := by decide +kernel
theorem dX10_first_22 : decode cX10_first 22 = .ok (.baload, 1) := by decide +kernel
theorem dX10_first_23 : decode cX10_first 23 = .ok (.ifCond .eq 34, 3) := by decide +kernel
theorem dX10_first_26 : decode cX10_first 26 = .ok (.aload_n 0, 1) := by decide +kernel
theorem dX10_first_27 : decode cX10_first 27 = .ok (.getfield 63, 3) := by decide +kernel
theorem dX10_first_30 : decode cX10_first 30 = .ok (.iload_n 2, 1) := by decide +kernel
theorem dX10_first_31 : decode cX10_first 31 = .ok (.baload, 1) := by decide +kernel
theorem dX10_first_32 : decode cX10_first 32 = .ok (.iload_n 1, 1) := by decide +kernel
theorem dX10_first_33 : decode cX10_first 33 = .ok (.ifCond .ne 7, 3) := by decide +kernel
theorem dX10_first_36 : decode cX10_first 36 = .ok (.iconst 1, 1) := by decide +kernel
theorem dX10_first_37 : decode cX10_first 37 = .ok (.goto 4, 3) := by decide +kernel
theorem dX10_first_40 : decode cX10_first 40 = .ok (.iconst 0, 1) := by decide +kernel
theorem dX10_first_41 : decode cX10_first 41 = .ok (.if_icmp .ne 16, 3) := by decide +kernel
theorem dX10_first_44 : decode cX10_first 44 = .ok (.aload_n 0, 1) := by decide +kernel
theorem dX10_first_45 : decode cX10_first 45 = .ok (.iload_n 2, 1) := by decide +kernel
theorem dX10_first_46 : decode cX10_first 46 = .ok (.invokevirtual 247, 3) := by decide +kernel
theorem dX10_first_49 : decode cX10_first 49 = .ok (.sipush (-1000), 3) := by decide +kernel
theorem dX10_first_52 : decode cX10_first 52 = .ok (.if_icmp .eq 5, 3) := by decide +kernel
theorem dX10_first_55 : decode cX10_first 55 = .ok (.iload_n 2, 1) := by decide +kernel
theorem dX10_first_56 : decode cX10_first 56 = .ok (.ireturn, 1) := by decide +kernel
theorem dX10_first_57 : decode cX10_first 57 = .ok (.iinc 2 1, 3) := by decide +kernel
theorem dX10_first_60 : decode cX10_first 60 = .ok (.goto (-51), 3) := by decide +kernel
theorem dX10_first_63 : decode cX10_first 63 = .ok (.iinc 1 1, 3) := by decide +kernel
theorem dX10_first_66 : decode cX10_first 66 = .ok (.goto (-64), 3) := by decide +kernel
theorem dX10_first_69 : decode cX10_first 69 = .ok (.iconst 0, 1) := by decide +kernel
theorem dX10_first_70 : decode cX10_first 70 = .ok (.ireturn, 1) := by decide +kernel
theorem dX10_propagate_0 : decode cX10_propagate 0 = .ok (.aload_n 0, 1) := by decide +kernel
theorem dX10_propagate_1 : decode cX10_propagate 1 = .ok (.getfield 238, 3) := by decide +kernel
theorem dX10_propagate_4 : decode cX10_propagate 4 = .ok (.ifCond .ne 52, 3) := by decide +kernel
theorem dX10_propagate_7 : decode cX10_propagate 7 = .ok (.aload_n 0, 1) := by decide +kernel
theorem dX10_propagate_8 : decode cX10_propagate 8 = .ok (.getfield 229, 3) := by decide +kernel
theorem dX10_propagate_11 : decode cX10_propagate 11 = .ok (.ifCond .ne 45, 3) := by decide +kernel
theorem dX10_propagate_14 : decode cX10_propagate 14 = .ok (.aload_n 0, 1) := by decide +kernel
theorem dX10_propagate_15 : decode cX10_propagate 15 = .ok (.invokevirtual 250, 3) := by decide +kernel
theorem dX10_propagate_18 : decode cX10_propagate 18 = .ok (.istore_n 1, 1) := by decide +kernel
theorem dX10_propagate_19 : decode cX10_propagate 19 = .ok (.iload_n 1, 1) := by decide +kernel
theorem dX10_propagate_20 : decode cX10_propagate 20 = .ok (.ifCond .ne 4, 3) := by decide +kernel
theorem dX10_propagate_23 : decode cX10_propagate 23 = .ok (.return_, 1) := by decide +kernel
theorem dX10_propagate_24 : decode cX10_propagate 24 = .ok (.aload_n 0, 1) := by decide +kernel
theorem dX10_propagate_25 : decode cX10_propagate 25 = .ok (.iload_n 1, 1) := by decide +kernel
theorem dX10_propagate_26 : decode cX10_propagate 26 = .ok (.invokevirtual 247, 3) := by decide +kernel
theorem dX10_propagate_29 : decode cX10_propagate 29 = .ok (.istore_n 2, 1) := by decide +kernel
theorem dX10_propagate_30 : decode cX10_propagate 30 = .ok (.iload_n 2, 1) := by decide +kernel
theorem dX10_propagate_31 : decode cX10_propagate 31 = .ok (.ifCond .ne 16, 3) := by decide +kernel
theorem dX10_propagate_34 : decode cX10_propagate 34 = .ok (.aload_n 0, 1) := by decide +kernel
theorem dX10_propagate_35 : decode cX10_propagate 35 = .ok (.iconst 1, 1) := by decide +kernel
theorem dX10_propagate_36 : decode cX10_propagate 36 = .ok (.putfield 229, 3) := by decide +kernel
theorem dX10_propagate_39 : decode cX10_propagate 39 = .ok (.aload_n 0, 1) := by decide +kernel
theorem dX10_propagate_40 : decode cX10_propagate 40 = .ok (.iload_n 1, 1) := by decide +kernel
theorem dX10_propagate_41 : decode cX10_propagate 41 = .ok (.putfield 232, 3) := by decide +kernel
theorem dX10_propagate_44 : decode cX10_propagate 44 = .ok (.goto 9, 3) := by decide +kernel
theorem dX10_propagate_47 : decode cX10_propagate 47 = .ok (.aload_n 0, 1) := by decide +kernel
theorem dX10_propagate_48 : decode cX10_propagate 48 = .ok (.iload_n 2, 1) := by decide +kernel
theorem dX10_propagate_49 : decode cX10_propagate 49 = .ok (.iload_n 1, 1) := by decide +kernel
theorem dX10_propagate_50 : decode cX10_propagate 50 = .ok (.invokevirtual 244, 3) := by decide +kernel
theorem dX10_propagate_53 : decode cX10_propagate 53 = .ok (.goto (-53), 3) := by decide +kernel
theorem dX10_propagate_56 : decode cX10_propagate 56 = .ok (.return_, 1) := by decide +kernel
theorem dX10_keepHint_0 : decode cX10_keepHint 0 = .ok (.aload_n 0, 1) := by decide +kernel
theorem dX10_keepHint_1 : decode cX10_keepHint 1 = .ok (.getfield 253, 3) := by decide +kernel
theorem dX10_keepHint_4 : decode cX10_keepHint 4 = .ok (.sipush 4000, 3) := by decide +kernel
theorem dX10_keepHint_7 : decode cX10_keepHint 7 = .ok (.if_icmp .ne 4, 3) := by decide +kernel
theorem dX10_keepHint_10 : decode cX10_keepHint 10 = .ok (.return_, 1) := by decide +kernel
theorem dX10_keepHint_11 : decode cX10_keepHint 11 = .ok (.aload_n 0, 1) := by decide +kernel
theorem dX10_keepHint_12 : decode cX10_keepHint 12 = .ok (.getfield 84, 3) := by decide +kernel
theorem dX10_keepHint_15 : decode cX10_keepHint 15 = .ok (.aload_n 0, 1) := by decide +kernel
theorem dX10_keepHint_16 : decode cX10_keepHint 16 = .ok (.getfield 253, 3) := by decide +kernel
theorem dX10_keepHint_19 : decode cX10_keepHint 19 = .ok (.iload_n 1, 1) := by decide +kernel
theorem dX10_keepHint_20 : decode cX10_keepHint 20 = .ok (.iastore, 1) := by decide +kernel
theorem dX10_keepHint_21 : decode cX10_keepHint 21 = .ok (.aload_n 0, 1) := by decide +kernel
theorem dX10_keepHint_22 : decode cX10_keepHint 22 = .ok (.dup, 1) := by decide +kernel
theorem dX10_keepHint_23 : decode cX10_keepHint 23 = .ok (.getfield 253, 3) := by decide +kernel
theorem dX10_keepHint_26 : decode cX10_keepHint 26 = .ok (.iconst 1, 1) := by decide +kernel
theorem dX10_keepHint_27 : decode cX10_keepHint 27 = .ok (.iadd, 1) := by decide +kernel
theorem dX10_keepHint_28 : decode cX10_keepHint 28 = .ok (.putfield 253, 3) := by decide +kernel
theorem dX10_keepHint_31 : decode cX10_keepHint 31 = .ok (.aload_n 0, 1) := by decide +kernel
theorem dX10_keepHint_32 : decode cX10_keepHint 32 = .ok (.getfield 90, 3) := by decide +kernel
theorem dX10_keepHint_35 : decode cX10_keepHint 35 = .ok (.iload_n 2, 1) := by decide +kernel
theorem dX10_keepHint_36 : decode cX10_keepHint 36 = .ok (.dup2, 1) := by decide +kernel
theorem dX10_keepHint_37 : decode cX10_keepHint 37 = .ok (.iaload, 1) := by decide +kernel
theorem dX10_keepHint_38 : decode cX10_keepHint 38 = .ok (.iconst 1, 1) := by decide +kernel
theorem dX10_keepHint_39 : decode cX10_keepHint 39 = .ok (.iadd, 1) := by decide +kernel
theorem dX10_keepHint_40 : decode cX10_keepHint 40 = .ok (.iastore, 1) := by decide +kernel
theorem dX10_keepHint_41 : decode cX10_keepHint 41 = .ok (.return_, 1) := by decide +kernel
theorem dX10_standsInUsed_0 : decode cX10_standsInUsed 0 = .ok (.iconst 0, 1) := by decide +kernel
theorem dX10_standsInUsed_1 : decode cX10_standsInUsed 1 = .ok (.istore_n 2, 1) := by decide +kernel
theorem dX10_standsInUsed_2 : decode cX10_standsInUsed 2 = .ok (.iconst 1, 1) := by decide +kernel
theorem dX10_standsInUsed_3 : decode cX10_standsInUsed 3 = .ok (.istore_n 3, 1) := by decide +kernel
theorem dX10_standsInUsed_4 : decode cX10_standsInUsed 4 = .ok (.iload_n 3, 1) := by decide +kernel
theorem dX10_standsInUsed_5 : decode cX10_standsInUsed 5 = .ok (.aload_n 0, 1) := by decide +kernel
theorem dX10_standsInUsed_6 : decode cX10_standsInUsed 6 = .ok (.getfield 207, 3) := by decide +kernel
theorem dX10_standsInUsed_9 : decode cX10_standsInUsed 9 = .ok (.if_icmp .gt 37, 3) := by decide +kernel
theorem dX10_standsInUsed_12 : decode cX10_standsInUsed 12 = .ok (.iload_n 2, 1) := by decide +kernel
theorem dX10_standsInUsed_13 : decode cX10_standsInUsed 13 = .ok (.ifCond .ne 33, 3) := by decide +kernel
theorem dX10_standsInUsed_16 : decode cX10_standsInUsed 16 = .ok (.aload_n 0, 1) := by decide +kernel
theorem dX10_standsInUsed_17 : decode cX10_standsInUsed 17 = .ok (.getfield 66, 3) := by decide +kernel
theorem dX10_standsInUsed_20 : decode cX10_standsInUsed 20 = .ok (.iload_n 3, 1) := by decide +kernel
theorem dX10_standsInUsed_21 : decode cX10_standsInUsed 21 = .ok (.baload, 1) := by decide +kernel
theorem dX10_standsInUsed_22 : decode cX10_standsInUsed 22 = .ok (.ifCond .eq 16, 3) := by decide +kernel
theorem dX10_standsInUsed_25 : decode cX10_standsInUsed 25 = .ok (.aload_n 0, 1) := by decide +kernel
theorem dX10_standsInUsed_26 : decode cX10_standsInUsed 26 = .ok (.iload_n 3, 1) := by decide +kernel
theorem dX10_standsInUsed_27 : decode cX10_standsInUsed 27 = .ok (.iload_n 1, 1) := by decide +kernel
theorem dX10_standsInUsed_28 : decode cX10_standsInUsed 28 = .ok (.invokevirtual 256, 3) := by decide +kernel
theorem dX10_standsInUsed_31 : decode cX10_standsInUsed 31 = .ok (.ifCond .eq 7, 3) := by decide +kernel
theorem dX10_standsInUsed_34 : decode cX10_standsInUsed 34 = .ok (.iconst 1, 1) := by decide +kernel
theorem dX10_standsInUsed_35 : decode cX10_standsInUsed 35 = .ok (.goto 4, 3) := by decide +kernel
theorem dX10_standsInUsed_38 : decode cX10_standsInUsed 38 = .ok (.iconst 0, 1) := by decide +kernel
theorem dX10_standsInUsed_39 : decode cX10_standsInUsed 39 = .ok (.istore_n 2, 1) := by decide +kernel
theorem dX10_standsInUsed_40 : decode cX10_standsInUsed 40 = .ok (.iinc 3 1, 3) := by decide +kernel
theorem dX10_standsInUsed_43 : decode cX10_standsInUsed 43 = .ok (.goto (-39), 3) := by decide +kernel
theorem dX10_standsInUsed_46 : decode cX10_standsInUsed 46 = .ok (.iload_n 2, 1) := by decide +kernel
theorem dX10_standsInUsed_47 : decode cX10_standsInUsed 47 = .ok (.ireturn, 1) := by decide +kernel
theorem dX10_uses_0 : decode cX10_uses 0 = .ok (.aload_n 0, 1) := by decide +kernel
theorem dX10_uses_1 : decode cX10_uses 1 = .ok (.getfield 232, 3) := by decide +kernel
theorem dX10_uses_4 : decode cX10_uses 4 = .ok (.ifCond .ne 4, 3) := by decide +kernel
theorem dX10_uses_7 : decode cX10_uses 7 = .ok (.return_, 1) := by decide +kernel
theorem dX10_uses_8 : decode cX10_uses 8 = .ok (.iconst 0, 1) := by decide +kernel
theorem dX10_uses_9 : decode cX10_uses 9 = .ok (.istore_n 2, 1) := by decide +kernel
theorem dX10_uses_10 : decode cX10_uses 10 = .ok (.iload_n 2, 1) := by decide +kernel
theorem dX10_uses_11 : decode cX10_uses 11 = .ok (.aload_n 0, 1) := by decide +kernel
theorem dX10_uses_12 : decode cX10_uses 12 = .ok (.getfield 207, 3) := by decide +kernel
theorem dX10_uses_15 : decode cX10_uses 15 = .ok (.if_icmp .gt 16, 3) := by decide +kernel
theorem dX10_uses_18 : decode cX10_uses 18 = .ok (.aload_n 0, 1) := by decide +kernel
theorem dX10_uses_19 : decode cX10_uses 19 = .ok (.getfield 66, 3) := by decide +kernel
theorem dX10_uses_22 : decode cX10_uses 22 = .ok (.iload_n 2, 1) := by decide +kernel
theorem dX10_uses_23 : decode cX10_uses 23 = .ok (.iconst 0, 1) := by decide +kernel
theorem dX10_uses_24 : decode cX10_uses 24 = .ok (.bastore, 1) := by decide +kernel
theorem dX10_uses_25 : decode cX10_uses 25 = .ok (.iinc 2 1, 3) := by decide +kernel
theorem dX10_uses_28 : decode cX10_uses 28 = .ok (.goto (-18), 3) := by decide +kernel
theorem dX10_uses_31 : decode cX10_uses 31 = .ok (.aload_n 0, 1) := by decide +kernel
theorem dX10_uses_32 : decode cX10_uses 32 = .ok (.getfield 66, 3) := by decide +kernel
theorem dX10_uses_35 : decode cX10_uses 35 = .ok (.aload_n 0, 1) := by decide +kernel
theorem dX10_uses_36 : decode cX10_uses 36 = .ok (.getfield 232, 3) := by decide +kernel
theorem dX10_uses_39 : decode cX10_uses 39 = .ok (.iconst 1, 1) := by decide +kernel
theorem dX10_uses_40 : decode cX10_uses 40 = .ok (.bastore, 1) := by decide +kernel
theorem dX10_uses_41 : decode cX10_uses 41 = .ok (.aload_n 0, 1) := by decide +kernel
theorem dX10_uses_42 : decode cX10_uses 42 = .ok (.getfield 226, 3) := by decide +kernel
theorem dX10_uses_45 : decode cX10_uses 45 = .ok (.iconst 1, 1) := by decide +kernel
theorem dX10_uses_46 : decode cX10_uses 46 = .ok (.isub, 1) := by decide +kernel
theorem dX10_uses_47 : decode cX10_uses 47 = .ok (.istore_n 2, 1) := by decide +kernel
theorem dX10_uses_48 : decode cX10_uses 48 = .ok (.iload_n 2, 1) := by decide +kernel
theorem dX10_uses_49 : decode cX10_uses 49 = .ok (.ifCond .lt 44, 3) := by decide +kernel
theorem dX10_uses_52 : decode cX10_uses 52 = .ok (.aload_n 0, 1) := by decide +kernel
theorem dX10_uses_53 : decode cX10_uses 53 = .ok (.getfield 81, 3) := by decide +kernel
theorem dX10_uses_56 : decode cX10_uses 56 = .ok (.iload_n 2, 1) := by decide +kernel
theorem dX10_uses_57 : decode cX10_uses 57 = .ok (.iaload, 1) := by decide +kernel
theorem dX10_uses_58 : decode cX10_uses 58 = .ok (.ifCond .le 29, 3) := by decide +kernel
theorem dX10_uses_61 : decode cX10_uses 61 = .ok (.aload_n 0, 1) := by decide +kernel
theorem dX10_uses_62 : decode cX10_uses 62 = .ok (.aload_n 0, 1) := by decide +kernel
theorem dX10_uses_63 : decode cX10_uses 63 = .ok (.getfield 78, 3) := by decide +kernel
theorem dX10_uses_66 : decode cX10_uses 66 = .ok (.iload_n 2, 1) := by decide +kernel
theorem dX10_uses_67 : decode cX10_uses 67 = .ok (.iaload, 1) := by decide +kernel
theorem dX10_uses_68 : decode cX10_uses 68 = .ok (.ineg, 1) := by decide +kernel
theorem dX10_uses_69 : decode cX10_uses 69 = .ok (.invokevirtual 260, 3) := by decide +kernel
theorem dX10_uses_72 : decode cX10_uses 72 = .ok (.ifCond .eq 15, 3) := by decide +kernel
theorem dX10_uses_75 : decode cX10_uses 75 = .ok (.aload_n 0, 1) := by decide +kernel
theorem dX10_uses_76 : decode cX10_uses 76 = .ok (.getfield 66, 3) := by decide +kernel
theorem dX10_uses_79 : decode cX10_uses 79 = .ok (.aload_n 0, 1) := by decide +kernel
theorem dX10_uses_80 : decode cX10_uses 80 = .ok (.getfield 81, 3) := by decide +kernel
theorem dX10_uses_83 : decode cX10_uses 83 = .ok (.iload_n 2, 1) := by decide +kernel
theorem dX10_uses_84 : decode cX10_uses 84 = .ok (.iaload, 1) := by decide +kernel
theorem dX10_uses_85 : decode cX10_uses 85 = .ok (.iconst 1, 1) := by decide +kernel
theorem dX10_uses_86 : decode cX10_uses 86 = .ok (.bastore, 1) := by decide +kernel
theorem dX10_uses_87 : decode cX10_uses 87 = .ok (.iinc 2 (-1), 3) := by decide +kernel
theorem dX10_uses_90 : decode cX10_uses 90 = .ok (.goto (-42), 3) := by decide +kernel
theorem dX10_uses_93 : decode cX10_uses 93 = .ok (.iconst 0, 1) := by decide +kernel
theorem dX10_uses_94 : decode cX10_uses 94 = .ok (.istore_n 2, 1) := by decide +kernel
theorem dX10_uses_95 : decode cX10_uses 95 = .ok (.iload_n 2, 1) := by decide +kernel
theorem dX10_uses_96 : decode cX10_uses 96 = .ok (.aload_n 0, 1) := by decide +kernel
theorem dX10_uses_97 : decode cX10_uses 97 = .ok (.getfield 226, 3) := by decide +kernel
theorem dX10_uses_100 : decode cX10_uses 100 = .ok (.if_icmp .ge 43, 3) := by decide +kernel
theorem dX10_uses_103 : decode cX10_uses 103 = .ok (.aload_n 0, 1) := by decide +kernel
theorem dX10_uses_104 : decode cX10_uses 104 = .ok (.getfield 81, 3) := by decide +kernel
theorem dX10_uses_107 : decode cX10_uses 107 = .ok (.iload_n 2, 1) := by decide +kernel
theorem dX10_uses_108 : decode cX10_uses 108 = .ok (.iaload, 1) := by decide +kernel
theorem dX10_uses_109 : decode cX10_uses 109 = .ok (.ifCond .le 28, 3) := by decide +kernel
theorem dX10_uses_112 : decode cX10_uses 112 = .ok (.aload_n 0, 1) := by decide +kernel
theorem dX10_uses_113 : decode cX10_uses 113 = .ok (.getfield 66, 3) := by decide +kernel
theorem dX10_uses_116 : decode cX10_uses 116 = .ok (.aload_n 0, 1) := by decide +kernel
theorem dX10_uses_117 : decode cX10_uses 117 = .ok (.getfield 81, 3) := by decide +kernel
theorem dX10_uses_120 : decode cX10_uses 120 = .ok (.iload_n 2, 1) := by decide +kernel
theorem dX10_uses_121 : decode cX10_uses 121 = .ok (.iaload, 1) := by decide +kernel
theorem dX10_uses_122 : decode cX10_uses 122 = .ok (.baload, 1) := by decide +kernel
theorem dX10_uses_123 : decode cX10_uses 123 = .ok (.ifCond .eq 14, 3) := by decide +kernel
theorem dX10_uses_126 : decode cX10_uses 126 = .ok (.aload_n 0, 1) := by decide +kernel
theorem dX10_uses_127 : decode cX10_uses 127 = .ok (.aload_n 0, 1) := by decide +kernel
theorem dX10_uses_128 : decode cX10_uses 128 = .ok (.getfield 81, 3) := by decide +kernel
theorem dX10_uses_131 : decode cX10_uses 131 = .ok (.iload_n 2, 1) := by decide +kernel
theorem dX10_uses_132 : decode cX10_uses 132 = .ok (.iaload, 1) := by decide +kernel
theorem dX10_uses_133 : decode cX10_uses 133 = .ok (.iload_n 1, 1) := by decide +kernel
theorem dX10_uses_134 : decode cX10_uses 134 = .ok (.invokevirtual 263, 3) := by decide +kernel
theorem dX10_uses_137 : decode cX10_uses 137 = .ok (.iinc 2 1, 3) := by decide +kernel
theorem dX10_uses_140 : decode cX10_uses 140 = .ok (.goto (-45), 3) := by decide +kernel
theorem dX10_uses_143 : decode cX10_uses 143 = .ok (.aload_n 0, 1) := by decide +kernel
theorem dX10_uses_144 : decode cX10_uses 144 = .ok (.aload_n 0, 1) := by decide +kernel
theorem dX10_uses_145 : decode cX10_uses 145 = .ok (.getfield 232, 3) := by decide +kernel
theorem dX10_uses_148 : decode cX10_uses 148 = .ok (.iload_n 1, 1) := by decide +kernel
theorem dX10_uses_149 : decode cX10_uses 149 = .ok (.invokevirtual 263, 3) := by decide +kernel
theorem dX10_uses_152 : decode cX10_uses 152 = .ok (.iconst 1, 1) := by decide +kernel
theorem dX10_uses_153 : decode cX10_uses 153 = .ok (.istore_n 2, 1) := by decide +kernel
theorem dX10_uses_154 : decode cX10_uses 154 = .ok (.iload_n 2, 1) := by decide +kernel
theorem dX10_uses_155 : decode cX10_uses 155 = .ok (.aload_n 0, 1) := by decide +kernel
theorem dX10_uses_156 : decode cX10_uses 156 = .ok (.getfield 207, 3) := by decide +kernel
theorem dX10_uses_159 : decode cX10_uses 159 = .ok (.if_icmp .gt 38, 3) := by decide +kernel
theorem dX10_uses_162 : decode cX10_uses 162 = .ok (.aload_n 0, 1) := by decide +kernel
theorem dX10_uses_163 : decode cX10_uses 163 = .ok (.getfield 63, 3) := by decide +kernel
theorem dX10_uses_166 : decode cX10_uses 166 = .ok (.iload_n 2, 1) := by decide +kernel
theorem dX10_uses_167 : decode cX10_uses 167 = .ok (.aload_n 0, 1) := by decide +kernel
theorem dX10_uses_168 : decode cX10_uses 168 = .ok (.getfield 63, 3) := by decide +kernel
theorem dX10_uses_171 : decode cX10_uses 171 = .ok (.iload_n 2, 1) := by decide +kernel
theorem dX10_uses_172 : decode cX10_uses 172 = .ok (.baload, 1) := by decide +kernel
theorem dX10_uses_173 : decode cX10_uses 173 = .ok (.ifCond .ne 12, 3) := by decide +kernel
theorem dX10_uses_176 : decode cX10_uses 176 = .ok (.aload_n 0, 1) := by decide +kernel
theorem dX10_uses_177 : decode cX10_uses 177 = .ok (.getfield 66, 3) := by decide +kernel
theorem dX10_uses_180 : decode cX10_uses 180 = .ok (.iload_n 2, 1) := by decide +kernel
theorem dX10_uses_181 : decode cX10_uses 181 = .ok (.baload, 1) := by decide +kernel
theorem dX10_uses_182 : decode cX10_uses 182 = .ok (.ifCond .eq 7, 3) := by decide +kernel
theorem dX10_uses_185 : decode cX10_uses 185 = .ok (.iconst 1, 1) := by decide +kernel
theorem dX10_uses_186 : decode cX10_uses 186 = .ok (.goto 4, 3) := by decide +kernel
theorem dX10_uses_189 : decode cX10_uses 189 = .ok (.iconst 0, 1) := by decide +kernel
theorem dX10_uses_190 : decode cX10_uses 190 = .ok (.bastore, 1) := by decide +kernel
theorem dX10_uses_191 : decode cX10_uses 191 = .ok (.iinc 2 1, 3) := by decide +kernel
theorem dX10_uses_194 : decode cX10_uses 194 = .ok (.goto (-40), 3) := by decide +kernel
theorem dX10_uses_197 : decode cX10_uses 197 = .ok (.return_, 1) := by decide +kernel
theorem dX10_fromNothing_0 : decode cX10_fromNothing 0 = .ok (.aload_n 0, 1) := by decide +kernel
theorem dX10_fromNothing_1 : decode cX10_fromNothing 1 = .ok (.invokevirtual 266, 3) := by decide +kernel
theorem dX10_fromNothing_4 : decode cX10_fromNothing 4 = .ok (.aload_n 0, 1) := by decide +kernel
theorem dX10_fromNothing_5 : decode cX10_fromNothing 5 = .ok (.invokevirtual 269, 3) := by decide +kernel
theorem dX10_fromNothing_8 : decode cX10_fromNothing 8 = .ok (.iconst 0, 1) := by decide +kernel
theorem dX10_fromNothing_9 : decode cX10_fromNothing 9 = .ok (.istore_n 1, 1) := by decide +kernel
theorem dX10_fromNothing_10 : decode cX10_fromNothing 10 = .ok (.iload_n 1, 1) := by decide +kernel
theorem dX10_fromNothing_11 : decode cX10_fromNothing 11 = .ok (.aload_n 0, 1) := by decide +kernel
theorem dX10_fromNothing_12 : decode cX10_fromNothing 12 = .ok (.getfield 207, 3) := by decide +kernel
theorem dX10_fromNothing_15 : decode cX10_fromNothing 15 = .ok (.if_icmp .gt 16, 3) := by decide +kernel
theorem dX10_fromNothing_18 : decode cX10_fromNothing 18 = .ok (.aload_n 0, 1) := by decide +kernel
theorem dX10_fromNothing_19 : decode cX10_fromNothing 19 = .ok (.getfield 69, 3) := by decide +kernel
theorem dX10_fromNothing_22 : decode cX10_fromNothing 22 = .ok (.iload_n 1, 1) := by decide +kernel
theorem dX10_fromNothing_23 : decode cX10_fromNothing 23 = .ok (.iconst 0, 1) := by decide +kernel
theorem dX10_fromNothing_24 : decode cX10_fromNothing 24 = .ok (.bastore, 1) := by decide +kernel
theorem dX10_fromNothing_25 : decode cX10_fromNothing 25 = .ok (.iinc 1 1, 3) := by decide +kernel
theorem dX10_fromNothing_28 : decode cX10_fromNothing 28 = .ok (.goto (-18), 3) := by decide +kernel
theorem dX10_fromNothing_31 : decode cX10_fromNothing 31 = .ok (.iconst 0, 1) := by decide +kernel
theorem dX10_fromNothing_32 : decode cX10_fromNothing 32 = .ok (.istore_n 1, 1) := by decide +kernel
theorem dX10_fromNothing_33 : decode cX10_fromNothing 33 = .ok (.iload_n 1, 1) := by decide +kernel
theorem dX10_fromNothing_34 : decode cX10_fromNothing 34 = .ok (.aload_n 0, 1) := by decide +kernel
theorem dX10_fromNothing_35 : decode cX10_fromNothing 35 = .ok (.getfield 226, 3) := by decide +kernel
theorem dX10_fromNothing_38 : decode cX10_fromNothing 38 = .ok (.if_icmp .ge 21, 3) := by decide +kernel
theorem dX10_fromNothing_41 : decode cX10_fromNothing 41 = .ok (.aload_n 0, 1) := by decide +kernel
theorem dX10_fromNothing_42 : decode cX10_fromNothing 42 = .ok (.getfield 69, 3) := by decide +kernel
theorem dX10_fromNothing_45 : decode cX10_fromNothing 45 = .ok (.aload_n 0, 1) := by decide +kernel
theorem dX10_fromNothing_46 : decode cX10_fromNothing 46 = .ok (.getfield 81, 3) := by decide +kernel
theorem dX10_fromNothing_49 : decode cX10_fromNothing 49 = .ok (.iload_n 1, 1) := by decide +kernel
theorem dX10_fromNothing_50 : decode cX10_fromNothing 50 = .ok (.iaload, 1) := by decide +kernel
theorem dX10_fromNothing_51 : decode cX10_fromNothing 51 = .ok (.iconst 1, 1) := by decide +kernel
theorem dX10_fromNothing_52 : decode cX10_fromNothing 52 = .ok (.bastore, 1) := by decide +kernel
theorem dX10_fromNothing_53 : decode cX10_fromNothing 53 = .ok (.iinc 1 1, 3) := by decide +kernel
theorem dX10_fromNothing_56 : decode cX10_fromNothing 56 = .ok (.goto (-23), 3) := by decide +kernel
theorem dX10_fromNothing_59 : decode cX10_fromNothing 59 = .ok (.return_, 1) := by decide +kernel
theorem dX10_weighed_0 : decode cX10_weighed 0 = .ok (.aload_n 0, 1) := by decide +kernel
theorem dX10_weighed_1 : decode cX10_weighed 1 = .ok (.getfield 253, 3) := by decide +kernel
theorem dX10_weighed_4 : decode cX10_weighed 4 = .ok (.istore_n 3, 1) := by decide +kernel
theorem dX10_weighed_5 : decode cX10_weighed 5 = .ok (.aload_n 0, 1) := by decide +kernel
theorem dX10_weighed_6 : decode cX10_weighed 6 = .ok (.getfield 87, 3) := by decide +kernel
theorem dX10_weighed_9 : decode cX10_weighed 9 = .ok (.iload_n 1, 1) := by decide +kernel
theorem dX10_weighed_10 : decode cX10_weighed 10 = .ok (.aload_n 0, 1) := by decide +kernel
theorem dX10_weighed_11 : decode cX10_weighed 11 = .ok (.getfield 253, 3) := by decide +kernel
theorem dX10_weighed_14 : decode cX10_weighed 14 = .ok (.iastore, 1) := by decide +kernel
theorem dX10_weighed_15 : decode cX10_weighed 15 = .ok (.aload_n 0, 1) := by decide +kernel
theorem dX10_weighed_16 : decode cX10_weighed 16 = .ok (.getfield 90, 3) := by decide +kernel
theorem dX10_weighed_19 : decode cX10_weighed 19 = .ok (.iload_n 1, 1) := by decide +kernel
theorem dX10_weighed_20 : decode cX10_weighed 20 = .ok (.iconst 0, 1) := by decide +kernel
theorem dX10_weighed_21 : decode cX10_weighed 21 = .ok (.iastore, 1) := by decide +kernel
theorem dX10_weighed_22 : decode cX10_weighed 22 = .ok (.aload_n 0, 1) := by decide +kernel
theorem dX10_weighed_23 : decode cX10_weighed 23 = .ok (.invokevirtual 266, 3) := by decide +kernel
theorem dX10_weighed_26 : decode cX10_weighed 26 = .ok (.iconst 0, 1) := by decide +kernel
theorem dX10_weighed_27 : decode cX10_weighed 27 = .ok (.istore 4, 2) := by decide +kernel
theorem dX10_weighed_29 : decode cX10_weighed 29 = .ok (.iload 4, 2) := by decide +kernel
theorem dX10_weighed_31 : decode cX10_weighed 31 = .ok (.aload_n 0, 1) := by decide +kernel
theorem dX10_weighed_32 : decode cX10_weighed 32 = .ok (.iload_n 1, 1) := by decide +kernel
theorem dX10_weighed_33 : decode cX10_weighed 33 = .ok (.invokevirtual 219, 3) := by decide +kernel
theorem dX10_weighed_36 : decode cX10_weighed 36 = .ok (.if_icmp .ge 21, 3) := by decide +kernel
theorem dX10_weighed_39 : decode cX10_weighed 39 = .ok (.aload_n 0, 1) := by decide +kernel
theorem dX10_weighed_40 : decode cX10_weighed 40 = .ok (.aload_n 0, 1) := by decide +kernel
theorem dX10_weighed_41 : decode cX10_weighed 41 = .ok (.iload_n 1, 1) := by decide +kernel
theorem dX10_weighed_42 : decode cX10_weighed 42 = .ok (.iload 4, 2) := by decide +kernel
theorem dX10_weighed_44 : decode cX10_weighed 44 = .ok (.invokevirtual 222, 3) := by decide +kernel
theorem dX10_weighed_47 : decode cX10_weighed 47 = .ok (.ineg, 1) := by decide +kernel
theorem dX10_weighed_48 : decode cX10_weighed 48 = .ok (.invokevirtual 272, 3) := by decide +kernel
theorem dX10_weighed_51 : decode cX10_weighed 51 = .ok (.iinc 4 1, 3) := by decide +kernel
theorem dX10_weighed_54 : decode cX10_weighed 54 = .ok (.goto (-25), 3) := by decide +kernel
theorem dX10_weighed_57 : decode cX10_weighed 57 = .ok (.aload_n 0, 1) := by decide +kernel
theorem dX10_weighed_58 : decode cX10_weighed 58 = .ok (.invokevirtual 269, 3) := by decide +kernel
theorem dX10_weighed_61 : decode cX10_weighed 61 = .ok (.aload_n 0, 1) := by decide +kernel
theorem dX10_weighed_62 : decode cX10_weighed 62 = .ok (.getfield 238, 3) := by decide +kernel
theorem dX10_weighed_65 : decode cX10_weighed 65 = .ok (.ifCond .eq 5, 3) := by decide +kernel
theorem dX10_weighed_68 : decode cX10_weighed 68 = .ok (.iconst 2, 1) := by decide +kernel
theorem dX10_weighed_69 : decode cX10_weighed 69 = .ok (.ireturn, 1) := by decide +kernel
theorem dX10_weighed_70 : decode cX10_weighed 70 = .ok (.aload_n 0, 1) := by decide +kernel
theorem dX10_weighed_71 : decode cX10_weighed 71 = .ok (.getfield 229, 3) := by decide +kernel
theorem dX10_weighed_74 : decode cX10_weighed 74 = .ok (.ifCond .eq 20, 3) := by decide +kernel
theorem dX10_weighed_77 : decode cX10_weighed 77 = .ok (.aload_n 0, 1) := by decide +kernel
theorem dX10_weighed_78 : decode cX10_weighed 78 = .ok (.iload_n 1, 1) := by decide +kernel
theorem dX10_weighed_79 : decode cX10_weighed 79 = .ok (.invokevirtual 275, 3) := by decide +kernel
theorem dX10_weighed_82 : decode cX10_weighed 82 = .ok (.aload_n 0, 1) := by decide +kernel
theorem dX10_weighed_83 : decode cX10_weighed 83 = .ok (.dup, 1) := by decide +kernel
theorem dX10_weighed_84 : decode cX10_weighed 84 = .ok (.getfield 278, 3) := by decide +kernel
theorem dX10_weighed_87 : decode cX10_weighed 87 = .ok (.iconst 1, 1) := by decide +kernel
theorem dX10_weighed_88 : decode cX10_weighed 88 = .ok (.iadd, 1) := by decide +kernel
theorem dX10_weighed_89 : decode cX10_weighed 89 = .ok (.putfield 278, 3) := by decide +kernel
theorem dX10_weighed_92 : decode cX10_weighed 92 = .ok (.iconst 0, 1) := by decide +kernel
theorem dX10_weighed_93 : decode cX10_weighed 93 = .ok (.ireturn, 1) := by decide +kernel
theorem dX10_weighed_94 : decode cX10_weighed 94 = .ok (.iload_n 2, 1) := by decide +kernel
theorem dX10_weighed_95 : decode cX10_weighed 95 = .ok (.ifCond .eq 11, 3) := by decide +kernel
theorem dX10_weighed_98 : decode cX10_weighed 98 = .ok (.aload_n 0, 1) := by decide +kernel
theorem dX10_weighed_99 : decode cX10_weighed 99 = .ok (.iload_n 1, 1) := by decide +kernel
theorem dX10_weighed_100 : decode cX10_weighed 100 = .ok (.invokevirtual 219, 3) := by decide +kernel
theorem dX10_weighed_103 : decode cX10_weighed 103 = .ok (.ifCond .ne 5, 3) := by decide +kernel
theorem dX10_weighed_106 : decode cX10_weighed 106 = .ok (.iconst 1, 1) := by decide +kernel
theorem dX10_weighed_107 : decode cX10_weighed 107 = .ok (.ireturn, 1) := by decide +kernel
theorem dX10_weighed_108 : decode cX10_weighed 108 = .ok (.aload_n 0, 1) := by decide +kernel
theorem dX10_weighed_109 : decode cX10_weighed 109 = .ok (.iload_n 1, 1) := by decide +kernel
theorem dX10_weighed_110 : decode cX10_weighed 110 = .ok (.iconst 0, 1) := by decide +kernel
theorem dX10_weighed_111 : decode cX10_weighed 111 = .ok (.invokevirtual 222, 3) := by decide +kernel
theorem dX10_weighed_114 : decode cX10_weighed 114 = .ok (.istore 4, 2) := by decide +kernel
theorem dX10_weighed_116 : decode cX10_weighed 116 = .ok (.iconst 1, 1) := by decide +kernel
theorem dX10_weighed_117 : decode cX10_weighed 117 = .ok (.istore 5, 2) := by decide +kernel
theorem dX10_weighed_119 : decode cX10_weighed 119 = .ok (.iload 5, 2) := by decide +kernel
theorem dX10_weighed_121 : decode cX10_weighed 121 = .ok (.aload_n 0, 1) := by decide +kernel
theorem dX10_weighed_122 : decode cX10_weighed 122 = .ok (.getfield 207, 3) := by decide +kernel
theorem dX10_weighed_125 : decode cX10_weighed 125 = .ok (.if_icmp .gt 180, 3) := by decide +kernel
theorem dX10_weighed_128 : decode cX10_weighed 128 = .ok (.aload_n 0, 1) := by decide +kernel
theorem dX10_weighed_129 : decode cX10_weighed 129 = .ok (.getfield 60, 3) := by decide +kernel
theorem dX10_weighed_132 : decode cX10_weighed 132 = .ok (.iload 5, 2) := by decide +kernel
theorem dX10_weighed_134 : decode cX10_weighed 134 = .ok (.baload, 1) := by decide +kernel
theorem dX10_weighed_135 : decode cX10_weighed 135 = .ok (.ifCond .eq 164, 3) := by decide +kernel
theorem dX10_weighed_138 : decode cX10_weighed 138 = .ok (.aload_n 0, 1) := by decide +kernel
theorem dX10_weighed_139 : decode cX10_weighed 139 = .ok (.iload 5, 2) := by decide +kernel
theorem dX10_weighed_141 : decode cX10_weighed 141 = .ok (.iload 4, 2) := by decide +kernel
theorem dX10_weighed_143 : decode cX10_weighed 143 = .ok (.ineg, 1) := by decide +kernel
theorem dX10_weighed_144 : decode cX10_weighed 144 = .ok (.invokevirtual 256, 3) := by decide +kernel
theorem dX10_weighed_147 : decode cX10_weighed 147 = .ok (.ifCond .ne 6, 3) := by decide +kernel
theorem dX10_weighed_150 : decode cX10_weighed 150 = .ok (.goto 149, 3) := by decide +kernel
theorem dX10_weighed_153 : decode cX10_weighed 153 = .ok (.aload_n 0, 1) := by decide +kernel
theorem dX10_weighed_154 : decode cX10_weighed 154 = .ok (.invokevirtual 266, 3) := by decide +kernel
theorem dX10_weighed_157 : decode cX10_weighed 157 = .ok (.iconst 0, 1) := by decide +kernel
theorem dX10_weighed_158 : decode cX10_weighed 158 = .ok (.istore 6, 2) := by decide +kernel
theorem dX10_weighed_160 : decode cX10_weighed 160 = .ok (.iload 6, 2) := by decide +kernel
theorem dX10_weighed_162 : decode cX10_weighed 162 = .ok (.aload_n 0, 1) := by decide +kernel
theorem dX10_weighed_163 : decode cX10_weighed 163 = .ok (.iload_n 1, 1) := by decide +kernel
theorem dX10_weighed_164 : decode cX10_weighed 164 = .ok (.invokevirtual 219, 3) := by decide +kernel
theorem dX10_weighed_167 : decode cX10_weighed 167 = .ok (.if_icmp .ge 21, 3) := by decide +kernel
theorem dX10_weighed_170 : decode cX10_weighed 170 = .ok (.aload_n 0, 1) := by decide +kernel
theorem dX10_weighed_171 : decode cX10_weighed 171 = .ok (.aload_n 0, 1) := by decide +kernel
theorem dX10_weighed_172 : decode cX10_weighed 172 = .ok (.iload_n 1, 1) := by decide +kernel
theorem dX10_weighed_173 : decode cX10_weighed 173 = .ok (.iload 6, 2) := by decide +kernel
theorem dX10_weighed_175 : decode cX10_weighed 175 = .ok (.invokevirtual 222, 3) := by decide +kernel
theorem dX10_weighed_178 : decode cX10_weighed 178 = .ok (.ineg, 1) := by decide +kernel
theorem dX10_weighed_179 : decode cX10_weighed 179 = .ok (.invokevirtual 272, 3) := by decide +kernel
theorem dX10_weighed_182 : decode cX10_weighed 182 = .ok (.iinc 6 1, 3) := by decide +kernel
theorem dX10_weighed_185 : decode cX10_weighed 185 = .ok (.goto (-25), 3) := by decide +kernel
theorem dX10_weighed_188 : decode cX10_weighed 188 = .ok (.iconst 0, 1) := by decide +kernel
theorem dX10_weighed_189 : decode cX10_weighed 189 = .ok (.istore 6, 2) := by decide +kernel
theorem dX10_weighed_191 : decode cX10_weighed 191 = .ok (.iload 6, 2) := by decide +kernel
theorem dX10_weighed_193 : decode cX10_weighed 193 = .ok (.aload_n 0, 1) := by decide +kernel
theorem dX10_weighed_194 : decode cX10_weighed 194 = .ok (.iload 5, 2) := by decide +kernel
theorem dX10_weighed_196 : decode cX10_weighed 196 = .ok (.invokevirtual 219, 3) := by decide +kernel
theorem dX10_weighed_199 : decode cX10_weighed 199 = .ok (.if_icmp .ge 36, 3) := by decide +kernel
theorem dX10_weighed_202 : decode cX10_weighed 202 = .ok (.aload_n 0, 1) := by decide +kernel
theorem dX10_weighed_203 : decode cX10_weighed 203 = .ok (.iload 5, 2) := by decide +kernel
theorem dX10_weighed_205 : decode cX10_weighed 205 = .ok (.iload 6, 2) := by decide +kernel
theorem dX10_weighed_207 : decode cX10_weighed 207 = .ok (.invokevirtual 222, 3) := by decide +kernel
theorem dX10_weighed_210 : decode cX10_weighed 210 = .ok (.iload 4, 2) := by decide +kernel
theorem dX10_weighed_212 : decode cX10_weighed 212 = .ok (.ineg, 1) := by decide +kernel
theorem dX10_weighed_213 : decode cX10_weighed 213 = .ok (.if_icmp .eq 16, 3) := by decide +kernel
theorem dX10_weighed_216 : decode cX10_weighed 216 = .ok (.aload_n 0, 1) := by decide +kernel
theorem dX10_weighed_217 : decode cX10_weighed 217 = .ok (.aload_n 0, 1) := by decide +kernel
theorem dX10_weighed_218 : decode cX10_weighed 218 = .ok (.iload 5, 2) := by decide +kernel
theorem dX10_weighed_220 : decode cX10_weighed 220 = .ok (.iload 6, 2) := by decide +kernel
theorem dX10_weighed_222 : decode cX10_weighed 222 = .ok (.invokevirtual 222, 3) := by decide +kernel
theorem dX10_weighed_225 : decode cX10_weighed 225 = .ok (.ineg, 1) := by decide +kernel
theorem dX10_weighed_226 : decode cX10_weighed 226 = .ok (.invokevirtual 272, 3) := by decide +kernel
theorem dX10_weighed_229 : decode cX10_weighed 229 = .ok (.iinc 6 1, 3) := by decide +kernel
theorem dX10_weighed_232 : decode cX10_weighed 232 = .ok (.goto (-41), 3) := by decide +kernel
theorem dX10_weighed_235 : decode cX10_weighed 235 = .ok (.aload_n 0, 1) := by decide +kernel
theorem dX10_weighed_236 : decode cX10_weighed 236 = .ok (.invokevirtual 269, 3) := by decide +kernel
theorem dX10_weighed_239 : decode cX10_weighed 239 = .ok (.aload_n 0, 1) := by decide +kernel
theorem dX10_weighed_240 : decode cX10_weighed 240 = .ok (.getfield 238, 3) := by decide +kernel
theorem dX10_weighed_243 : decode cX10_weighed 243 = .ok (.ifCond .ne 10, 3) := by decide +kernel
theorem dX10_weighed_246 : decode cX10_weighed 246 = .ok (.aload_n 0, 1) := by decide +kernel
theorem dX10_weighed_247 : decode cX10_weighed 247 = .ok (.getfield 229, 3) := by decide +kernel
theorem dX10_weighed_250 : decode cX10_weighed 250 = .ok (.ifCond .ne 28, 3) := by decide +kernel
theorem dX10_weighed_253 : decode cX10_weighed 253 = .ok (.aload_n 0, 1) := by decide +kernel
theorem dX10_weighed_254 : decode cX10_weighed 254 = .ok (.iload_n 3, 1) := by decide +kernel
theorem dX10_weighed_255 : decode cX10_weighed 255 = .ok (.putfield 253, 3) := by decide +kernel
theorem dX10_weighed_258 : decode cX10_weighed 258 = .ok (.aload_n 0, 1) := by decide +kernel
theorem dX10_weighed_259 : decode cX10_weighed 259 = .ok (.getfield 90, 3) := by decide +kernel
theorem dX10_weighed_262 : decode cX10_weighed 262 = .ok (.iload_n 1, 1) := by decide +kernel
theorem dX10_weighed_263 : decode cX10_weighed 263 = .ok (.iconst 0, 1) := by decide +kernel
theorem dX10_weighed_264 : decode cX10_weighed 264 = .ok (.iastore, 1) := by decide +kernel
theorem dX10_weighed_265 : decode cX10_weighed 265 = .ok (.aload_n 0, 1) := by decide +kernel
theorem dX10_weighed_266 : decode cX10_weighed 266 = .ok (.getfield 238, 3) := by decide +kernel
theorem dX10_weighed_269 : decode cX10_weighed 269 = .ok (.ifCond .eq 7, 3) := by decide +kernel
theorem dX10_weighed_272 : decode cX10_weighed 272 = .ok (.iconst 2, 1) := by decide +kernel
theorem dX10_weighed_273 : decode cX10_weighed 273 = .ok (.goto 4, 3) := by decide +kernel
theorem dX10_weighed_276 : decode cX10_weighed 276 = .ok (.iconst 1, 1) := by decide +kernel
theorem dX10_weighed_277 : decode cX10_weighed 277 = .ok (.ireturn, 1) := by decide +kernel
theorem dX10_weighed_278 : decode cX10_weighed 278 = .ok (.aload_n 0, 1) := by decide +kernel
theorem dX10_weighed_279 : decode cX10_weighed 279 = .ok (.iload 5, 2) := by decide +kernel
theorem dX10_weighed_281 : decode cX10_weighed 281 = .ok (.ineg, 1) := by decide +kernel
theorem dX10_weighed_282 : decode cX10_weighed 282 = .ok (.iload_n 1, 1) := by decide +kernel
theorem dX10_weighed_283 : decode cX10_weighed 283 = .ok (.invokevirtual 263, 3) := by decide +kernel
theorem dX10_weighed_286 : decode cX10_weighed 286 = .ok (.aload_n 0, 1) := by decide +kernel
theorem dX10_weighed_287 : decode cX10_weighed 287 = .ok (.iload_n 1, 1) := by decide +kernel
theorem dX10_weighed_288 : decode cX10_weighed 288 = .ok (.invokevirtual 275, 3) := by decide +kernel
theorem dX10_weighed_291 : decode cX10_weighed 291 = .ok (.aload_n 0, 1) := by decide +kernel
theorem dX10_weighed_292 : decode cX10_weighed 292 = .ok (.getfield 63, 3) := by decide +kernel
theorem dX10_weighed_295 : decode cX10_weighed 295 = .ok (.iload 5, 2) := by decide +kernel
theorem dX10_weighed_297 : decode cX10_weighed 297 = .ok (.iconst 1, 1) := by decide +kernel
theorem dX10_weighed_298 : decode cX10_weighed 298 = .ok (.bastore, 1) := by decide +kernel
theorem dX10_weighed_299 : decode cX10_weighed 299 = .ok (.iinc 5 1, 3) := by decide +kernel
theorem dX10_weighed_302 : decode cX10_weighed 302 = .ok (.goto (-183), 3) := by decide +kernel
theorem dX10_weighed_305 : decode cX10_weighed 305 = .ok (.aload_n 0, 1) := by decide +kernel
theorem dX10_weighed_306 : decode cX10_weighed 306 = .ok (.dup, 1) := by decide +kernel
theorem dX10_weighed_307 : decode cX10_weighed 307 = .ok (.getfield 281, 3) := by decide +kernel
theorem dX10_weighed_310 : decode cX10_weighed 310 = .ok (.iconst 1, 1) := by decide +kernel
theorem dX10_weighed_311 : decode cX10_weighed 311 = .ok (.iadd, 1) := by decide +kernel
theorem dX10_weighed_312 : decode cX10_weighed 312 = .ok (.putfield 281, 3) := by decide +kernel
theorem dX10_weighed_315 : decode cX10_weighed 315 = .ok (.iconst 0, 1) := by decide +kernel
theorem dX10_weighed_316 : decode cX10_weighed 316 = .ok (.ireturn, 1) := by decide +kernel
theorem dX10_isOf_0 : decode cX10_isOf 0 = .ok (.aload_n 0, 1) := by decide +kernel
theorem dX10_isOf_1 : decode cX10_isOf 1 = .ok (.iload_n 1, 1) := by decide +kernel
theorem dX10_isOf_2 : decode cX10_isOf 2 = .ok (.invokevirtual 219, 3) := by decide +kernel
theorem dX10_isOf_5 : decode cX10_isOf 5 = .ok (.aload_n 0, 1) := by decide +kernel
theorem dX10_isOf_6 : decode cX10_isOf 6 = .ok (.getfield 32, 3) := by decide +kernel
theorem dX10_isOf_9 : decode cX10_isOf 9 = .ok (.iload_n 2, 1) := by decide +kernel
theorem dX10_isOf_10 : decode cX10_isOf 10 = .ok (.iaload, 1) := by decide +kernel
theorem dX10_isOf_11 : decode cX10_isOf 11 = .ok (.if_icmp .ne 7, 3) := by decide +kernel
theorem dX10_isOf_14 : decode cX10_isOf 14 = .ok (.iconst 1, 1) := by decide +kernel
theorem dX10_isOf_15 : decode cX10_isOf 15 = .ok (.goto 4, 3) := by decide +kernel
theorem dX10_isOf_18 : decode cX10_isOf 18 = .ok (.iconst 0, 1) := by decide +kernel
theorem dX10_isOf_19 : decode cX10_isOf 19 = .ok (.istore_n 3, 1) := by decide +kernel
theorem dX10_isOf_20 : decode cX10_isOf 20 = .ok (.iconst 0, 1) := by decide +kernel
theorem dX10_isOf_21 : decode cX10_isOf 21 = .ok (.istore 4, 2) := by decide +kernel
theorem dX10_isOf_23 : decode cX10_isOf 23 = .ok (.iload_n 3, 1) := by decide +kernel
theorem dX10_isOf_24 : decode cX10_isOf 24 = .ok (.ifCond .eq 40, 3) := by decide +kernel
theorem dX10_isOf_27 : decode cX10_isOf 27 = .ok (.iload 4, 2) := by decide +kernel
theorem dX10_isOf_29 : decode cX10_isOf 29 = .ok (.aload_n 0, 1) := by decide +kernel
theorem dX10_isOf_30 : decode cX10_isOf 30 = .ok (.getfield 32, 3) := by decide +kernel
theorem dX10_isOf_33 : decode cX10_isOf 33 = .ok (.iload_n 2, 1) := by decide +kernel
theorem dX10_isOf_34 : decode cX10_isOf 34 = .ok (.iaload, 1) := by decide +kernel
theorem dX10_isOf_35 : decode cX10_isOf 35 = .ok (.if_icmp .ge 29, 3) := by decide +kernel
theorem dX10_isOf_38 : decode cX10_isOf 38 = .ok (.aload_n 0, 1) := by decide +kernel
theorem dX10_isOf_39 : decode cX10_isOf 39 = .ok (.iload_n 1, 1) := by decide +kernel
theorem dX10_isOf_40 : decode cX10_isOf 40 = .ok (.aload_n 0, 1) := by decide +kernel
theorem dX10_isOf_41 : decode cX10_isOf 41 = .ok (.getfield 35, 3) := by decide +kernel
theorem dX10_isOf_44 : decode cX10_isOf 44 = .ok (.aload_n 0, 1) := by decide +kernel
theorem dX10_isOf_45 : decode cX10_isOf 45 = .ok (.getfield 29, 3) := by decide +kernel
theorem dX10_isOf_48 : decode cX10_isOf 48 = .ok (.iload_n 2, 1) := by decide +kernel
theorem dX10_isOf_49 : decode cX10_isOf 49 = .ok (.iaload, 1) := by decide +kernel
theorem dX10_isOf_50 : decode cX10_isOf 50 = .ok (.iload 4, 2) := by decide +kernel
theorem dX10_isOf_52 : decode cX10_isOf 52 = .ok (.iadd, 1) := by decide +kernel
theorem dX10_isOf_53 : decode cX10_isOf 53 = .ok (.iaload, 1) := by decide +kernel
theorem dX10_isOf_54 : decode cX10_isOf 54 = .ok (.invokevirtual 256, 3) := by decide +kernel
theorem dX10_isOf_57 : decode cX10_isOf 57 = .ok (.istore_n 3, 1) := by decide +kernel
theorem dX10_isOf_58 : decode cX10_isOf 58 = .ok (.iinc 4 1, 3) := by decide +kernel
theorem dX10_isOf_61 : decode cX10_isOf 61 = .ok (.goto (-38), 3) := by decide +kernel
theorem dX10_isOf_64 : decode cX10_isOf 64 = .ok (.iload_n 3, 1) := by decide +kernel
theorem dX10_isOf_65 : decode cX10_isOf 65 = .ok (.ireturn, 1) := by decide +kernel
theorem dX10_delete_0 : decode cX10_delete 0 = .ok (.aload_n 0, 1) := by decide +kernel
theorem dX10_delete_1 : decode cX10_delete 1 = .ok (.getfield 207, 3) := by decide +kernel
theorem dX10_delete_4 : decode cX10_delete 4 = .ok (.istore_n 3, 1) := by decide +kernel
theorem dX10_delete_5 : decode cX10_delete 5 = .ok (.iload_n 3, 1) := by decide +kernel
theorem dX10_delete_6 : decode cX10_delete 6 = .ok (.ifCond .le 27, 3) := by decide +kernel
theorem dX10_delete_9 : decode cX10_delete 9 = .ok (.aload_n 0, 1) := by decide +kernel
theorem dX10_delete_10 : decode cX10_delete 10 = .ok (.getfield 60, 3) := by decide +kernel
theorem dX10_delete_13 : decode cX10_delete 13 = .ok (.iload_n 3, 1) := by decide +kernel
theorem dX10_delete_14 : decode cX10_delete 14 = .ok (.baload, 1) := by decide +kernel
theorem dX10_delete_15 : decode cX10_delete 15 = .ok (.ifCond .eq 12, 3) := by decide +kernel
theorem dX10_delete_18 : decode cX10_delete 18 = .ok (.aload_n 0, 1) := by decide +kernel
theorem dX10_delete_19 : decode cX10_delete 19 = .ok (.iload_n 3, 1) := by decide +kernel
theorem dX10_delete_20 : decode cX10_delete 20 = .ok (.iload_n 1, 1) := by decide +kernel
theorem dX10_delete_21 : decode cX10_delete 21 = .ok (.invokevirtual 284, 3) := by decide +kernel
theorem dX10_delete_24 : decode cX10_delete 24 = .ok (.ifCond .ne 9, 3) := by decide +kernel
theorem dX10_delete_27 : decode cX10_delete 27 = .ok (.iinc 3 (-1), 3) := by decide +kernel
theorem dX10_delete_30 : decode cX10_delete 30 = .ok (.goto (-25), 3) := by decide +kernel
theorem dX10_delete_33 : decode cX10_delete 33 = .ok (.iload_n 3, 1) := by decide +kernel
theorem dX10_delete_34 : decode cX10_delete 34 = .ok (.ifCond .eq 16, 3) := by decide +kernel
theorem dX10_delete_37 : decode cX10_delete 37 = .ok (.iload_n 2, 1) := by decide +kernel
theorem dX10_delete_38 : decode cX10_delete 38 = .ok (.ifCond .eq 13, 3) := by decide +kernel
theorem dX10_delete_41 : decode cX10_delete 41 = .ok (.aload_n 0, 1) := by decide +kernel
theorem dX10_delete_42 : decode cX10_delete 42 = .ok (.getfield 69, 3) := by decide +kernel
theorem dX10_delete_45 : decode cX10_delete 45 = .ok (.iload_n 3, 1) := by decide +kernel
theorem dX10_delete_46 : decode cX10_delete 46 = .ok (.baload, 1) := by decide +kernel
theorem dX10_delete_47 : decode cX10_delete 47 = .ok (.ifCond .eq 4, 3) := by decide +kernel
theorem dX10_delete_50 : decode cX10_delete 50 = .ok (.return_, 1) := by decide +kernel
theorem dX10_delete_51 : decode cX10_delete 51 = .ok (.aload_n 0, 1) := by decide +kernel
theorem dX10_delete_52 : decode cX10_delete 52 = .ok (.getfield 60, 3) := by decide +kernel
theorem dX10_delete_55 : decode cX10_delete 55 = .ok (.iload_n 3, 1) := by decide +kernel
theorem dX10_delete_56 : decode cX10_delete 56 = .ok (.iconst 0, 1) := by decide +kernel
theorem dX10_delete_57 : decode cX10_delete 57 = .ok (.bastore, 1) := by decide +kernel
theorem dX10_delete_58 : decode cX10_delete 58 = .ok (.aload_n 0, 1) := by decide +kernel
theorem dX10_delete_59 : decode cX10_delete 59 = .ok (.getfield 72, 3) := by decide +kernel
theorem dX10_delete_62 : decode cX10_delete 62 = .ok (.iload_n 1, 1) := by decide +kernel
theorem dX10_delete_63 : decode cX10_delete 63 = .ok (.iload_n 3, 1) := by decide +kernel
theorem dX10_delete_64 : decode cX10_delete 64 = .ok (.iastore, 1) := by decide +kernel
theorem dX10_delete_65 : decode cX10_delete 65 = .ok (.return_, 1) := by decide +kernel
theorem dX10_ends_0 : decode cX10_ends 0 = .ok (.aload_n 0, 1) := by decide +kernel
theorem dX10_ends_1 : decode cX10_ends 1 = .ok (.iload_n 1, 1) := by decide +kernel
theorem dX10_ends_2 : decode cX10_ends 2 = .ok (.putfield 287, 3) := by decide +kernel
theorem dX10_ends_5 : decode cX10_ends 5 = .ok (.aload_n 0, 1) := by decide +kernel
theorem dX10_ends_6 : decode cX10_ends 6 = .ok (.iload_n 2, 1) := by decide +kernel
theorem dX10_ends_7 : decode cX10_ends 7 = .ok (.putfield 290, 3) := by decide +kernel
theorem dX10_ends_10 : decode cX10_ends 10 = .ok (.iload_n 1, 1) := by decide +kernel
theorem dX10_ends_11 : decode cX10_ends 11 = .ok (.ireturn, 1) := by decide +kernel
theorem dX10_weigh_0 : decode cX10_weigh 0 = .ok (.aload_n 0, 1) := by decide +kernel
theorem dX10_weigh_1 : decode cX10_weigh 1 = .ok (.iconst 0, 1) := by decide +kernel
theorem dX10_weigh_2 : decode cX10_weigh 2 = .ok (.putfield 96, 3) := by decide +kernel
theorem dX10_weigh_5 : decode cX10_weigh 5 = .ok (.iload 4, 2) := by decide +kernel
theorem dX10_weigh_7 : decode cX10_weigh 7 = .ok (.ifCond .lt 11, 3) := by decide +kernel
theorem dX10_weigh_10 : decode cX10_weigh 10 = .ok (.iload 4, 2) := by decide +kernel
theorem dX10_weigh_12 : decode cX10_weigh 12 = .ok (.sipush 20000, 3) := by decide +kernel
theorem dX10_weigh_15 : decode cX10_weigh 15 = .ok (.if_icmp .le 8, 3) := by decide +kernel
theorem dX10_weigh_18 : decode cX10_weigh 18 = .ok (.aload_n 0, 1) := by decide +kernel
theorem dX10_weigh_19 : decode cX10_weigh 19 = .ok (.invokevirtual 157, 3) := by decide +kernel
theorem dX10_weigh_22 : decode cX10_weigh 22 = .ok (.ireturn, 1) := by decide +kernel
theorem dX10_weigh_23 : decode cX10_weigh 23 = .ok (.iconst 0, 1) := by decide +kernel
theorem dX10_weigh_24 : decode cX10_weigh 24 = .ok (.istore 5, 2) := by decide +kernel
theorem dX10_weigh_26 : decode cX10_weigh 26 = .ok (.iload 5, 2) := by decide +kernel
theorem dX10_weigh_28 : decode cX10_weigh 28 = .ok (.aload_n 0, 1) := by decide +kernel
theorem dX10_weigh_29 : decode cX10_weigh 29 = .ok (.getfield 207, 3) := by decide +kernel
theorem dX10_weigh_32 : decode cX10_weigh 32 = .ok (.if_icmp .gt 51, 3) := by decide +kernel
theorem dX10_weigh_35 : decode cX10_weigh 35 = .ok (.aload_n 0, 1) := by decide +kernel
theorem dX10_weigh_36 : decode cX10_weigh 36 = .ok (.getfield 60, 3) := by decide +kernel
theorem dX10_weigh_39 : decode cX10_weigh 39 = .ok (.iload 5, 2) := by decide +kernel
theorem dX10_weigh_41 : decode cX10_weigh 41 = .ok (.iload 5, 2) := by decide +kernel
theorem dX10_weigh_43 : decode cX10_weigh 43 = .ok (.ifCond .le 16, 3) := by decide +kernel
theorem dX10_weigh_46 : decode cX10_weigh 46 = .ok (.iload 5, 2) := by decide +kernel
theorem dX10_weigh_48 : decode cX10_weigh 48 = .ok (.aload_n 0, 1) := by decide +kernel
theorem dX10_weigh_49 : decode cX10_weigh 49 = .ok (.getfield 185, 3) := by decide +kernel
theorem dX10_weigh_52 : decode cX10_weigh 52 = .ok (.if_icmp .gt 7, 3) := by decide +kernel
theorem dX10_weigh_55 : decode cX10_weigh 55 = .ok (.iconst 1, 1) := by decide +kernel
theorem dX10_weigh_56 : decode cX10_weigh 56 = .ok (.goto 4, 3) := by decide +kernel
theorem dX10_weigh_59 : decode cX10_weigh 59 = .ok (.iconst 0, 1) := by decide +kernel
theorem dX10_weigh_60 : decode cX10_weigh 60 = .ok (.bastore, 1) := by decide +kernel
theorem dX10_weigh_61 : decode cX10_weigh 61 = .ok (.aload_n 0, 1) := by decide +kernel
theorem dX10_weigh_62 : decode cX10_weigh 62 = .ok (.getfield 63, 3) := by decide +kernel
theorem dX10_weigh_65 : decode cX10_weigh 65 = .ok (.iload 5, 2) := by decide +kernel
theorem dX10_weigh_67 : decode cX10_weigh 67 = .ok (.iconst 0, 1) := by decide +kernel
theorem dX10_weigh_68 : decode cX10_weigh 68 = .ok (.bastore, 1) := by decide +kernel
theorem dX10_weigh_69 : decode cX10_weigh 69 = .ok (.aload_n 0, 1) := by decide +kernel
theorem dX10_weigh_70 : decode cX10_weigh 70 = .ok (.getfield 90, 3) := by decide +kernel
theorem dX10_weigh_73 : decode cX10_weigh 73 = .ok (.iload 5, 2) := by decide +kernel
theorem dX10_weigh_75 : decode cX10_weigh 75 = .ok (.iconst 0, 1) := by decide +kernel
theorem dX10_weigh_76 : decode cX10_weigh 76 = .ok (.iastore, 1) := by decide +kernel
theorem dX10_weigh_77 : decode cX10_weigh 77 = .ok (.iinc 5 1, 3) := by decide +kernel
theorem dX10_weigh_80 : decode cX10_weigh 80 = .ok (.goto (-54), 3) := by decide +kernel
theorem dX10_weigh_83 : decode cX10_weigh 83 = .ok (.iconst 0, 1) := by decide +kernel
theorem dX10_weigh_84 : decode cX10_weigh 84 = .ok (.istore 5, 2) := by decide +kernel
theorem dX10_weigh_86 : decode cX10_weigh 86 = .ok (.iload 5, 2) := by decide +kernel
theorem dX10_weigh_88 : decode cX10_weigh 88 = .ok (.aload_n 0, 1) := by decide +kernel
theorem dX10_weigh_89 : decode cX10_weigh 89 = .ok (.getfield 188, 3) := by decide +kernel
theorem dX10_weigh_92 : decode cX10_weigh 92 = .ok (.if_icmp .gt 17, 3) := by decide +kernel
theorem dX10_weigh_95 : decode cX10_weigh 95 = .ok (.aload_n 0, 1) := by decide +kernel
theorem dX10_weigh_96 : decode cX10_weigh 96 = .ok (.getfield 72, 3) := by decide +kernel
theorem dX10_weigh_99 : decode cX10_weigh 99 = .ok (.iload 5, 2) := by decide +kernel
theorem dX10_weigh_101 : decode cX10_weigh 101 = .ok (.iconst 0, 1) := by decide +kernel
theorem dX10_weigh_102 : decode cX10_weigh 102 = .ok (.iastore, 1) := by decide +kernel
theorem dX10_weigh_103 : decode cX10_weigh 103 = .ok (.iinc 5 1, 3) := by decide +kernel
theorem dX10_weigh_106 : decode cX10_weigh 106 = .ok (.goto (-20), 3) := by decide +kernel
theorem dX10_weigh_109 : decode cX10_weigh 109 = .ok (.aload_n 0, 1) := by decide +kernel
theorem dX10_weigh_110 : decode cX10_weigh 110 = .ok (.iconst 1, 1) := by decide +kernel
theorem dX10_weigh_111 : decode cX10_weigh 111 = .ok (.putfield 191, 3) := by decide +kernel
theorem dX10_weigh_114 : decode cX10_weigh 114 = .ok (.aload_n 0, 1) := by decide +kernel
theorem dX10_weigh_115 : decode cX10_weigh 115 = .ok (.iload 4, 2) := by decide +kernel
theorem dX10_weigh_117 : decode cX10_weigh 117 = .ok (.putfield 235, 3) := by decide +kernel
theorem dX10_weigh_120 : decode cX10_weigh 120 = .ok (.aload_n 0, 1) := by decide +kernel
theorem dX10_weigh_121 : decode cX10_weigh 121 = .ok (.iconst 0, 1) := by decide +kernel
theorem dX10_weigh_122 : decode cX10_weigh 122 = .ok (.putfield 278, 3) := by decide +kernel
theorem dX10_weigh_125 : decode cX10_weigh 125 = .ok (.aload_n 0, 1) := by decide +kernel
theorem dX10_weigh_126 : decode cX10_weigh 126 = .ok (.iconst 0, 1) := by decide +kernel
theorem dX10_weigh_127 : decode cX10_weigh 127 = .ok (.putfield 281, 3) := by decide +kernel
theorem dX10_weigh_130 : decode cX10_weigh 130 = .ok (.aload_n 0, 1) := by decide +kernel
theorem dX10_weigh_131 : decode cX10_weigh 131 = .ok (.iconst 0, 1) := by decide +kernel
theorem dX10_weigh_132 : decode cX10_weigh 132 = .ok (.putfield 253, 3) := by decide +kernel
theorem dX10_weigh_135 : decode cX10_weigh 135 = .ok (.aload_n 0, 1) := by decide +kernel
theorem dX10_weigh_136 : decode cX10_weigh 136 = .ok (.iconst 0, 1) := by decide +kernel
theorem dX10_weigh_137 : decode cX10_weigh 137 = .ok (.putfield 238, 3) := by decide +kernel
theorem dX10_weigh_140 : decode cX10_weigh 140 = .ok (.aload_n 0, 1) := by decide +kernel
theorem dX10_weigh_141 : decode cX10_weigh 141 = .ok (.iconst (-1), 1) := by decide +kernel
theorem dX10_weigh_142 : decode cX10_weigh 142 = .ok (.putfield 293, 3) := by decide +kernel
theorem dX10_weigh_145 : decode cX10_weigh 145 = .ok (.iconst 0, 1) := by decide +kernel
theorem dX10_weigh_146 : decode cX10_weigh 146 = .ok (.istore 5, 2) := by decide +kernel
theorem dX10_weigh_148 : decode cX10_weigh 148 = .ok (.aload_n 0, 1) := by decide +kernel
theorem dX10_weigh_149 : decode cX10_weigh 149 = .ok (.invokevirtual 296, 3) := by decide +kernel
theorem dX10_weigh_152 : decode cX10_weigh 152 = .ok (.aload_n 0, 1) := by decide +kernel
theorem dX10_weigh_153 : decode cX10_weigh 153 = .ok (.getfield 238, 3) := by decide +kernel
theorem dX10_weigh_156 : decode cX10_weigh 156 = .ok (.ifCond .ne 98, 3) := by decide +kernel
theorem dX10_weigh_159 : decode cX10_weigh 159 = .ok (.aload_n 0, 1) := by decide +kernel
theorem dX10_weigh_160 : decode cX10_weigh 160 = .ok (.getfield 229, 3) := by decide +kernel
theorem dX10_weigh_163 : decode cX10_weigh 163 = .ok (.ifCond .ne 91, 3) := by decide +kernel
theorem dX10_weigh_166 : decode cX10_weigh 166 = .ok (.iload 5, 2) := by decide +kernel
theorem dX10_weigh_168 : decode cX10_weigh 168 = .ok (.aload_n 0, 1) := by decide +kernel
theorem dX10_weigh_169 : decode cX10_weigh 169 = .ok (.getfield 188, 3) := by decide +kernel
theorem dX10_weigh_172 : decode cX10_weigh 172 = .ok (.if_icmp .ge 82, 3) := by decide +kernel
theorem dX10_weigh_175 : decode cX10_weigh 175 = .ok (.iinc 5 1, 3) := by decide +kernel
theorem dX10_weigh_178 : decode cX10_weigh 178 = .ok (.aload_n 0, 1) := by decide +kernel
theorem dX10_weigh_179 : decode cX10_weigh 179 = .ok (.getfield 38, 3) := by decide +kernel
theorem dX10_weigh_182 : decode cX10_weigh 182 = .ok (.iload 5, 2) := by decide +kernel
theorem dX10_weigh_184 : decode cX10_weigh 184 = .ok (.baload, 1) := by decide +kernel
theorem dX10_weigh_185 : decode cX10_weigh 185 = .ok (.ifCond .eq 13, 3) := by decide +kernel
theorem dX10_weigh_188 : decode cX10_weigh 188 = .ok (.aload_n 0, 1) := by decide +kernel
theorem dX10_weigh_189 : decode cX10_weigh 189 = .ok (.iload 5, 2) := by decide +kernel
theorem dX10_weigh_191 : decode cX10_weigh 191 = .ok (.iload_n 3, 1) := by decide +kernel
theorem dX10_weigh_192 : decode cX10_weigh 192 = .ok (.invokevirtual 299, 3) := by decide +kernel
theorem dX10_weigh_195 : decode cX10_weigh 195 = .ok (.goto 52, 3) := by decide +kernel
theorem dX10_weigh_198 : decode cX10_weigh 198 = .ok (.iload_n 1, 1) := by decide +kernel
theorem dX10_weigh_199 : decode cX10_weigh 199 = .ok (.ifCond .eq 7, 3) := by decide +kernel
theorem dX10_weigh_202 : decode cX10_weigh 202 = .ok (.iconst 0, 1) := by decide +kernel
theorem dX10_weigh_203 : decode cX10_weigh 203 = .ok (.goto 15, 3) := by decide +kernel
theorem dX10_weigh_206 : decode cX10_weigh 206 = .ok (.aload_n 0, 1) := by decide +kernel
theorem dX10_weigh_207 : decode cX10_weigh 207 = .ok (.aload_n 0, 1) := by decide +kernel
theorem dX10_weigh_208 : decode cX10_weigh 208 = .ok (.getfield 57, 3) := by decide +kernel
theorem dX10_weigh_211 : decode cX10_weigh 211 = .ok (.iload 5, 2) := by decide +kernel
theorem dX10_weigh_213 : decode cX10_weigh 213 = .ok (.iaload, 1) := by decide +kernel
theorem dX10_weigh_214 : decode cX10_weigh 214 = .ok (.iload_n 2, 1) := by decide +kernel
theorem dX10_weigh_215 : decode cX10_weigh 215 = .ok (.invokevirtual 303, 3) := by decide +kernel
theorem dX10_weigh_218 : decode cX10_weigh 218 = .ok (.istore 6, 2) := by decide +kernel
theorem dX10_weigh_220 : decode cX10_weigh 220 = .ok (.iload 6, 2) := by decide +kernel
theorem dX10_weigh_222 : decode cX10_weigh 222 = .ok (.ifCond .eq 12, 3) := by decide +kernel
theorem dX10_weigh_225 : decode cX10_weigh 225 = .ok (.aload_n 0, 1) := by decide +kernel
theorem dX10_weigh_226 : decode cX10_weigh 226 = .ok (.iload 6, 2) := by decide +kernel
theorem dX10_weigh_228 : decode cX10_weigh 228 = .ok (.iload 5, 2) := by decide +kernel
theorem dX10_weigh_230 : decode cX10_weigh 230 = .ok (.invokevirtual 307, 3) := by decide +kernel
theorem dX10_weigh_233 : decode cX10_weigh 233 = .ok (.ireturn, 1) := by decide +kernel
theorem dX10_weigh_234 : decode cX10_weigh 234 = .ok (.aload_n 0, 1) := by decide +kernel
theorem dX10_weigh_235 : decode cX10_weigh 235 = .ok (.getfield 60, 3) := by decide +kernel
theorem dX10_weigh_238 : decode cX10_weigh 238 = .ok (.aload_n 0, 1) := by decide +kernel
theorem dX10_weigh_239 : decode cX10_weigh 239 = .ok (.getfield 57, 3) := by decide +kernel
theorem dX10_weigh_242 : decode cX10_weigh 242 = .ok (.iload 5, 2) := by decide +kernel
theorem dX10_weigh_244 : decode cX10_weigh 244 = .ok (.iaload, 1) := by decide +kernel
theorem dX10_weigh_245 : decode cX10_weigh 245 = .ok (.iconst 1, 1) := by decide +kernel
theorem dX10_weigh_246 : decode cX10_weigh 246 = .ok (.bastore, 1) := by decide +kernel
theorem dX10_weigh_247 : decode cX10_weigh 247 = .ok (.aload_n 0, 1) := by decide +kernel
theorem dX10_weigh_248 : decode cX10_weigh 248 = .ok (.invokevirtual 296, 3) := by decide +kernel
theorem dX10_weigh_251 : decode cX10_weigh 251 = .ok (.goto (-99), 3) := by decide +kernel
theorem dX10_weigh_254 : decode cX10_weigh 254 = .ok (.aload_n 0, 1) := by decide +kernel
theorem dX10_weigh_255 : decode cX10_weigh 255 = .ok (.getfield 238, 3) := by decide +kernel
theorem dX10_weigh_258 : decode cX10_weigh 258 = .ok (.ifCond .eq 10, 3) := by decide +kernel
theorem dX10_weigh_261 : decode cX10_weigh 261 = .ok (.aload_n 0, 1) := by decide +kernel
theorem dX10_weigh_262 : decode cX10_weigh 262 = .ok (.iconst 2, 1) := by decide +kernel
theorem dX10_weigh_263 : decode cX10_weigh 263 = .ok (.iconst 0, 1) := by decide +kernel
theorem dX10_weigh_264 : decode cX10_weigh 264 = .ok (.invokevirtual 307, 3) := by decide +kernel
theorem dX10_weigh_267 : decode cX10_weigh 267 = .ok (.ireturn, 1) := by decide +kernel
theorem dX10_weigh_268 : decode cX10_weigh 268 = .ok (.aload_n 0, 1) := by decide +kernel
theorem dX10_weigh_269 : decode cX10_weigh 269 = .ok (.getfield 229, 3) := by decide +kernel
theorem dX10_weigh_272 : decode cX10_weigh 272 = .ok (.ifCond .ne 10, 3) := by decide +kernel
theorem dX10_weigh_275 : decode cX10_weigh 275 = .ok (.aload_n 0, 1) := by decide +kernel
theorem dX10_weigh_276 : decode cX10_weigh 276 = .ok (.iconst 1, 1) := by decide +kernel
theorem dX10_weigh_277 : decode cX10_weigh 277 = .ok (.iconst (-1), 1) := by decide +kernel
theorem dX10_weigh_278 : decode cX10_weigh 278 = .ok (.invokevirtual 307, 3) := by decide +kernel
theorem dX10_weigh_281 : decode cX10_weigh 281 = .ok (.ireturn, 1) := by decide +kernel
theorem dX10_weigh_282 : decode cX10_weigh 282 = .ok (.aload_n 0, 1) := by decide +kernel
theorem dX10_weigh_283 : decode cX10_weigh 283 = .ok (.iload 5, 2) := by decide +kernel
theorem dX10_weigh_285 : decode cX10_weigh 285 = .ok (.putfield 293, 3) := by decide +kernel
theorem dX10_weigh_288 : decode cX10_weigh 288 = .ok (.aload_n 0, 1) := by decide +kernel
theorem dX10_weigh_289 : decode cX10_weigh 289 = .ok (.getfield 87, 3) := by decide +kernel
theorem dX10_weigh_292 : decode cX10_weigh 292 = .ok (.iconst 0, 1) := by decide +kernel
theorem dX10_weigh_293 : decode cX10_weigh 293 = .ok (.aload_n 0, 1) := by decide +kernel
theorem dX10_weigh_294 : decode cX10_weigh 294 = .ok (.getfield 253, 3) := by decide +kernel
theorem dX10_weigh_297 : decode cX10_weigh 297 = .ok (.iastore, 1) := by decide +kernel
theorem dX10_weigh_298 : decode cX10_weigh 298 = .ok (.aload_n 0, 1) := by decide +kernel
theorem dX10_weigh_299 : decode cX10_weigh 299 = .ok (.iconst 0, 1) := by decide +kernel
theorem dX10_weigh_300 : decode cX10_weigh 300 = .ok (.invokevirtual 275, 3) := by decide +kernel
theorem dX10_weigh_303 : decode cX10_weigh 303 = .ok (.iload_n 1, 1) := by decide +kernel
theorem dX10_weigh_304 : decode cX10_weigh 304 = .ok (.ifCond .eq 13, 3) := by decide +kernel
theorem dX10_weigh_307 : decode cX10_weigh 307 = .ok (.aload_n 0, 1) := by decide +kernel
theorem dX10_weigh_308 : decode cX10_weigh 308 = .ok (.iload 5, 2) := by decide +kernel
theorem dX10_weigh_310 : decode cX10_weigh 310 = .ok (.iload_n 2, 1) := by decide +kernel
theorem dX10_weigh_311 : decode cX10_weigh 311 = .ok (.invokevirtual 309, 3) := by decide +kernel
theorem dX10_weigh_314 : decode cX10_weigh 314 = .ok (.goto 9, 3) := by decide +kernel
theorem dX10_weigh_317 : decode cX10_weigh 317 = .ok (.aload_n 0, 1) := by decide +kernel
theorem dX10_weigh_318 : decode cX10_weigh 318 = .ok (.iconst 0, 1) := by decide +kernel
theorem dX10_weigh_319 : decode cX10_weigh 319 = .ok (.iconst (-1), 1) := by decide +kernel
theorem dX10_weigh_320 : decode cX10_weigh 320 = .ok (.invokevirtual 307, 3) := by decide +kernel
theorem dX10_weigh_323 : decode cX10_weigh 323 = .ok (.ireturn, 1) := by decide +kernel
theorem dX10_back_0 : decode cX10_back 0 = .ok (.iload_n 1, 1) := by decide +kernel
theorem dX10_back_1 : decode cX10_back 1 = .ok (.istore_n 3, 1) := by decide +kernel
theorem dX10_back_2 : decode cX10_back 2 = .ok (.iload_n 3, 1) := by decide +kernel
theorem dX10_back_3 : decode cX10_back 3 = .ok (.ifCond .le 94, 3) := by decide +kernel
theorem dX10_back_6 : decode cX10_back 6 = .ok (.aload_n 0, 1) := by decide +kernel
theorem dX10_back_7 : decode cX10_back 7 = .ok (.getfield 38, 3) := by decide +kernel
theorem dX10_back_10 : decode cX10_back 10 = .ok (.iload_n 3, 1) := by decide +kernel
theorem dX10_back_11 : decode cX10_back 11 = .ok (.baload, 1) := by decide +kernel
theorem dX10_back_12 : decode cX10_back 12 = .ok (.ifCond .eq 27, 3) := by decide +kernel
theorem dX10_back_15 : decode cX10_back 15 = .ok (.aload_n 0, 1) := by decide +kernel
theorem dX10_back_16 : decode cX10_back 16 = .ok (.getfield 72, 3) := by decide +kernel
theorem dX10_back_19 : decode cX10_back 19 = .ok (.iload_n 3, 1) := by decide +kernel
theorem dX10_back_20 : decode cX10_back 20 = .ok (.iaload, 1) := by decide +kernel
theorem dX10_back_21 : decode cX10_back 21 = .ok (.ifCond .le 70, 3) := by decide +kernel
theorem dX10_back_24 : decode cX10_back 24 = .ok (.aload_n 0, 1) := by decide +kernel
theorem dX10_back_25 : decode cX10_back 25 = .ok (.getfield 60, 3) := by decide +kernel
theorem dX10_back_28 : decode cX10_back 28 = .ok (.aload_n 0, 1) := by decide +kernel
theorem dX10_back_29 : decode cX10_back 29 = .ok (.getfield 72, 3) := by decide +kernel
theorem dX10_back_32 : decode cX10_back 32 = .ok (.iload_n 3, 1) := by decide +kernel
theorem dX10_back_33 : decode cX10_back 33 = .ok (.iaload, 1) := by decide +kernel
theorem dX10_back_34 : decode cX10_back 34 = .ok (.iconst 1, 1) := by decide +kernel
theorem dX10_back_35 : decode cX10_back 35 = .ok (.bastore, 1) := by decide +kernel
theorem dX10_back_36 : decode cX10_back 36 = .ok (.goto 55, 3) := by decide +kernel
theorem dX10_back_39 : decode cX10_back 39 = .ok (.aload_n 0, 1) := by decide +kernel
theorem dX10_back_40 : decode cX10_back 40 = .ok (.getfield 57, 3) := by decide +kernel
theorem dX10_back_43 : decode cX10_back 43 = .ok (.iload_n 3, 1) := by decide +kernel
theorem dX10_back_44 : decode cX10_back 44 = .ok (.iaload, 1) := by decide +kernel
theorem dX10_back_45 : decode cX10_back 45 = .ok (.istore 4, 2) := by decide +kernel
theorem dX10_back_47 : decode cX10_back 47 = .ok (.aload_n 0, 1) := by decide +kernel
theorem dX10_back_48 : decode cX10_back 48 = .ok (.getfield 60, 3) := by decide +kernel
theorem dX10_back_51 : decode cX10_back 51 = .ok (.iload 4, 2) := by decide +kernel
theorem dX10_back_53 : decode cX10_back 53 = .ok (.iconst 0, 1) := by decide +kernel
theorem dX10_back_54 : decode cX10_back 54 = .ok (.bastore, 1) := by decide +kernel
theorem dX10_back_55 : decode cX10_back 55 = .ok (.aload_n 0, 1) := by decide +kernel
theorem dX10_back_56 : decode cX10_back 56 = .ok (.getfield 63, 3) := by decide +kernel
theorem dX10_back_59 : decode cX10_back 59 = .ok (.iload 4, 2) := by decide +kernel
theorem dX10_back_61 : decode cX10_back 61 = .ok (.baload, 1) := by decide +kernel
theorem dX10_back_62 : decode cX10_back 62 = .ok (.ifCond .eq 13, 3) := by decide +kernel
theorem dX10_back_65 : decode cX10_back 65 = .ok (.aload_n 0, 1) := by decide +kernel
theorem dX10_back_66 : decode cX10_back 66 = .ok (.iload 4, 2) := by decide +kernel
theorem dX10_back_68 : decode cX10_back 68 = .ok (.iload_n 2, 1) := by decide +kernel
theorem dX10_back_69 : decode cX10_back 69 = .ok (.invokevirtual 303, 3) := by decide +kernel
theorem dX10_back_72 : decode cX10_back 72 = .ok (.goto 4, 3) := by decide +kernel
theorem dX10_back_75 : decode cX10_back 75 = .ok (.iconst 0, 1) := by decide +kernel
theorem dX10_back_76 : decode cX10_back 76 = .ok (.istore 5, 2) := by decide +kernel
theorem dX10_back_78 : decode cX10_back 78 = .ok (.iload 5, 2) := by decide +kernel
theorem dX10_back_80 : decode cX10_back 80 = .ok (.ifCond .eq 11, 3) := by decide +kernel
theorem dX10_back_83 : decode cX10_back 83 = .ok (.aload_n 0, 1) := by decide +kernel
theorem dX10_back_84 : decode cX10_back 84 = .ok (.iload 5, 2) := by decide +kernel
theorem dX10_back_86 : decode cX10_back 86 = .ok (.iload_n 3, 1) := by decide +kernel
theorem dX10_back_87 : decode cX10_back 87 = .ok (.invokevirtual 307, 3) := by decide +kernel
theorem dX10_back_90 : decode cX10_back 90 = .ok (.ireturn, 1) := by decide +kernel
theorem dX10_back_91 : decode cX10_back 91 = .ok (.iinc 3 (-1), 3) := by decide +kernel
theorem dX10_back_94 : decode cX10_back 94 = .ok (.goto (-92), 3) := by decide +kernel
theorem dX10_back_97 : decode cX10_back 97 = .ok (.aload_n 0, 1) := by decide +kernel
theorem dX10_back_98 : decode cX10_back 98 = .ok (.iconst 0, 1) := by decide +kernel
theorem dX10_back_99 : decode cX10_back 99 = .ok (.iconst (-1), 1) := by decide +kernel
theorem dX10_back_100 : decode cX10_back 100 = .ok (.invokevirtual 307, 3) := by decide +kernel
theorem dX10_back_103 : decode cX10_back 103 = .ok (.ireturn, 1) := by decide +kernel
theorem dX10_count_0 : decode cX10_count 0 = .ok (.aload_n 0, 1) := by decide +kernel
theorem dX10_count_1 : decode cX10_count 1 = .ok (.iconst 0, 1) := by decide +kernel
theorem dX10_count_2 : decode cX10_count 2 = .ok (.putfield 96, 3) := by decide +kernel
theorem dX10_count_5 : decode cX10_count 5 = .ok (.iconst 0, 1) := by decide +kernel
theorem dX10_count_6 : decode cX10_count 6 = .ok (.istore_n 2, 1) := by decide +kernel
theorem dX10_count_7 : decode cX10_count 7 = .ok (.iconst 0, 1) := by decide +kernel
theorem dX10_count_8 : decode cX10_count 8 = .ok (.istore_n 3, 1) := by decide +kernel
theorem dX10_count_9 : decode cX10_count 9 = .ok (.iconst 1, 1) := by decide +kernel
theorem dX10_count_10 : decode cX10_count 10 = .ok (.istore 4, 2) := by decide +kernel
theorem dX10_count_12 : decode cX10_count 12 = .ok (.iload 4, 2) := by decide +kernel
theorem dX10_count_14 : decode cX10_count 14 = .ok (.aload_n 0, 1) := by decide +kernel
theorem dX10_count_15 : decode cX10_count 15 = .ok (.getfield 207, 3) := by decide +kernel
theorem dX10_count_18 : decode cX10_count 18 = .ok (.if_icmp .gt 60, 3) := by decide +kernel
theorem dX10_count_21 : decode cX10_count 21 = .ok (.aload_n 0, 1) := by decide +kernel
theorem dX10_count_22 : decode cX10_count 22 = .ok (.getfield 191, 3) := by decide +kernel
theorem dX10_count_25 : decode cX10_count 25 = .ok (.ifCond .eq 53, 3) := by decide +kernel
theorem dX10_count_28 : decode cX10_count 28 = .ok (.aload_n 0, 1) := by decide +kernel
theorem dX10_count_29 : decode cX10_count 29 = .ok (.getfield 63, 3) := by decide +kernel
theorem dX10_count_32 : decode cX10_count 32 = .ok (.iload 4, 2) := by decide +kernel
theorem dX10_count_34 : decode cX10_count 34 = .ok (.baload, 1) := by decide +kernel
theorem dX10_count_35 : decode cX10_count 35 = .ok (.ifCond .eq 15, 3) := by decide +kernel
theorem dX10_count_38 : decode cX10_count 38 = .ok (.iload 4, 2) := by decide +kernel
theorem dX10_count_40 : decode cX10_count 40 = .ok (.aload_n 0, 1) := by decide +kernel
theorem dX10_count_41 : decode cX10_count 41 = .ok (.getfield 185, 3) := by decide +kernel
theorem dX10_count_44 : decode cX10_count 44 = .ok (.if_icmp .gt 6, 3) := by decide +kernel
theorem dX10_count_47 : decode cX10_count 47 = .ok (.iinc 2 1, 3) := by decide +kernel
theorem dX10_count_50 : decode cX10_count 50 = .ok (.aload_n 0, 1) := by decide +kernel
theorem dX10_count_51 : decode cX10_count 51 = .ok (.getfield 63, 3) := by decide +kernel
theorem dX10_count_54 : decode cX10_count 54 = .ok (.iload 4, 2) := by decide +kernel
theorem dX10_count_56 : decode cX10_count 56 = .ok (.baload, 1) := by decide +kernel
theorem dX10_count_57 : decode cX10_count 57 = .ok (.ifCond .eq 15, 3) := by decide +kernel
theorem dX10_count_60 : decode cX10_count 60 = .ok (.iload 4, 2) := by decide +kernel
theorem dX10_count_62 : decode cX10_count 62 = .ok (.aload_n 0, 1) := by decide +kernel
theorem dX10_count_63 : decode cX10_count 63 = .ok (.getfield 185, 3) := by decide +kernel
theorem dX10_count_66 : decode cX10_count 66 = .ok (.if_icmp .le 6, 3) := by decide +kernel
theorem dX10_count_69 : decode cX10_count 69 = .ok (.iinc 3 1, 3) := by decide +kernel
theorem dX10_count_72 : decode cX10_count 72 = .ok (.iinc 4 1, 3) := by decide +kernel
theorem dX10_count_75 : decode cX10_count 75 = .ok (.goto (-63), 3) := by decide +kernel
theorem dX10_count_78 : decode cX10_count 78 = .ok (.iload_n 1, 1) := by decide +kernel
theorem dX10_count_79 : decode cX10_count 79 = .ok (.tableswitch 181 0 11 #[61, 77, 93, 109, 125, 127, 129, 145, 161, 166, 171, 176], 61) := by decide +kernel
theorem dX10_count_140 : decode cX10_count 140 = .ok (.aload_n 0, 1) := by decide +kernel
theorem dX10_count_141 : decode cX10_count 141 = .ok (.getfield 191, 3) := by decide +kernel
theorem dX10_count_144 : decode cX10_count 144 = .ok (.ifCond .eq 10, 3) := by decide +kernel
theorem dX10_count_147 : decode cX10_count 147 = .ok (.aload_n 0, 1) := by decide +kernel
theorem dX10_count_148 : decode cX10_count 148 = .ok (.getfield 287, 3) := by decide +kernel
theorem dX10_count_151 : decode cX10_count 151 = .ok (.goto 4, 3) := by decide +kernel
theorem dX10_count_154 : decode cX10_count 154 = .ok (.iconst (-1), 1) := by decide +kernel
theorem dX10_count_155 : decode cX10_count 155 = .ok (.ireturn, 1) := by decide +kernel
theorem dX10_count_156 : decode cX10_count 156 = .ok (.aload_n 0, 1) := by decide +kernel
theorem dX10_count_157 : decode cX10_count 157 = .ok (.getfield 191, 3) := by decide +kernel
theorem dX10_count_160 : decode cX10_count 160 = .ok (.ifCond .eq 10, 3) := by decide +kernel
theorem dX10_count_163 : decode cX10_count 163 = .ok (.aload_n 0, 1) := by decide +kernel
theorem dX10_count_164 : decode cX10_count 164 = .ok (.getfield 290, 3) := by decide +kernel
theorem dX10_count_167 : decode cX10_count 167 = .ok (.goto 4, 3) := by decide +kernel
theorem dX10_count_170 : decode cX10_count 170 = .ok (.iconst (-1), 1) := by decide +kernel
theorem dX10_count_171 : decode cX10_count 171 = .ok (.ireturn, 1) := by decide +kernel
theorem dX10_count_172 : decode cX10_count 172 = .ok (.aload_n 0, 1) := by decide +kernel
theorem dX10_count_173 : decode cX10_count 173 = .ok (.getfield 191, 3) := by decide +kernel
theorem dX10_count_176 : decode cX10_count 176 = .ok (.ifCond .eq 10, 3) := by decide +kernel
theorem dX10_count_179 : decode cX10_count 179 = .ok (.aload_n 0, 1) := by decide +kernel
theorem dX10_count_180 : decode cX10_count 180 = .ok (.getfield 293, 3) := by decide +kernel
theorem dX10_count_183 : decode cX10_count 183 = .ok (.goto 4, 3) := by decide +kernel
theorem dX10_count_186 : decode cX10_count 186 = .ok (.iconst (-1), 1) := by decide +kernel
theorem dX10_count_187 : decode cX10_count 187 = .ok (.ireturn, 1) := by decide +kernel
theorem dX10_count_188 : decode cX10_count 188 = .ok (.aload_n 0, 1) := by decide +kernel
theorem dX10_count_189 : decode cX10_count 189 = .ok (.getfield 191, 3) := by decide +kernel
theorem dX10_count_192 : decode cX10_count 192 = .ok (.ifCond .eq 10, 3) := by decide +kernel
theorem dX10_count_195 : decode cX10_count 195 = .ok (.aload_n 0, 1) := by decide +kernel
theorem dX10_count_196 : decode cX10_count 196 = .ok (.getfield 235, 3) := by decide +kernel
theorem dX10_count_199 : decode cX10_count 199 = .ok (.goto 4, 3) := by decide +kernel
theorem dX10_count_202 : decode cX10_count 202 = .ok (.iconst 0, 1) := by decide +kernel
theorem dX10_count_203 : decode cX10_count 203 = .ok (.ireturn, 1) := by decide +kernel
theorem dX10_count_204 : decode cX10_count 204 = .ok (.iload_n 2, 1) := by decide +kernel
theorem dX10_count_205 : decode cX10_count 205 = .ok (.ireturn, 1) := by decide +kernel
theorem dX10_count_206 : decode cX10_count 206 = .ok (.iload_n 3, 1) := by decide +kernel
theorem dX10_count_207 : decode cX10_count 207 = .ok (.ireturn, 1) := by decide +kernel
theorem dX10_count_208 : decode cX10_count 208 = .ok (.aload_n 0, 1) := by decide +kernel
theorem dX10_count_209 : decode cX10_count 209 = .ok (.getfield 191, 3) := by decide +kernel
theorem dX10_count_212 : decode cX10_count 212 = .ok (.ifCond .eq 10, 3) := by decide +kernel
theorem dX10_count_215 : decode cX10_count 215 = .ok (.aload_n 0, 1) := by decide +kernel
theorem dX10_count_216 : decode cX10_count 216 = .ok (.getfield 278, 3) := by decide +kernel
theorem dX10_count_219 : decode cX10_count 219 = .ok (.goto 4, 3) := by decide +kernel
theorem dX10_count_222 : decode cX10_count 222 = .ok (.iconst 0, 1) := by decide +kernel
theorem dX10_count_223 : decode cX10_count 223 = .ok (.ireturn, 1) := by decide +kernel
theorem dX10_count_224 : decode cX10_count 224 = .ok (.aload_n 0, 1) := by decide +kernel
theorem dX10_count_225 : decode cX10_count 225 = .ok (.getfield 191, 3) := by decide +kernel
theorem dX10_count_228 : decode cX10_count 228 = .ok (.ifCond .eq 10, 3) := by decide +kernel
theorem dX10_count_231 : decode cX10_count 231 = .ok (.aload_n 0, 1) := by decide +kernel
theorem dX10_count_232 : decode cX10_count 232 = .ok (.getfield 281, 3) := by decide +kernel
theorem dX10_count_235 : decode cX10_count 235 = .ok (.goto 4, 3) := by decide +kernel
theorem dX10_count_238 : decode cX10_count 238 = .ok (.iconst 0, 1) := by decide +kernel
theorem dX10_count_239 : decode cX10_count 239 = .ok (.ireturn, 1) := by decide +kernel
theorem dX10_count_240 : decode cX10_count 240 = .ok (.aload_n 0, 1) := by decide +kernel
theorem dX10_count_241 : decode cX10_count 241 = .ok (.getfield 185, 3) := by decide +kernel
theorem dX10_count_244 : decode cX10_count 244 = .ok (.ireturn, 1) := by decide +kernel
theorem dX10_count_245 : decode cX10_count 245 = .ok (.aload_n 0, 1) := by decide +kernel
theorem dX10_count_246 : decode cX10_count 246 = .ok (.getfield 188, 3) := by decide +kernel
theorem dX10_count_249 : decode cX10_count 249 = .ok (.ireturn, 1) := by decide +kernel
theorem dX10_count_250 : decode cX10_count 250 = .ok (.aload_n 0, 1) := by decide +kernel
theorem dX10_count_251 : decode cX10_count 251 = .ok (.getfield 182, 3) := by decide +kernel
theorem dX10_count_254 : decode cX10_count 254 = .ok (.ireturn, 1) := by decide +kernel
theorem dX10_count_255 : decode cX10_count 255 = .ok (.aload_n 0, 1) := by decide +kernel
theorem dX10_count_256 : decode cX10_count 256 = .ok (.getfield 99, 3) := by decide +kernel
theorem dX10_count_259 : decode cX10_count 259 = .ok (.ireturn, 1) := by decide +kernel
theorem dX10_count_260 : decode cX10_count 260 = .ok (.aload_n 0, 1) := by decide +kernel
theorem dX10_count_261 : decode cX10_count 261 = .ok (.invokevirtual 157, 3) := by decide +kernel
theorem dX10_count_264 : decode cX10_count 264 = .ok (.ireturn, 1) := by decide +kernel
theorem dX10_clause_0 : decode cX10_clause 0 = .ok (.aload_n 0, 1) := by decide +kernel
theorem dX10_clause_1 : decode cX10_clause 1 = .ok (.iconst 0, 1) := by decide +kernel
theorem dX10_clause_2 : decode cX10_clause 2 = .ok (.putfield 96, 3) := by decide +kernel
theorem dX10_clause_5 : decode cX10_clause 5 = .ok (.iload_n 1, 1) := by decide +kernel
theorem dX10_clause_6 : decode cX10_clause 6 = .ok (.iconst 1, 1) := by decide +kernel
theorem dX10_clause_7 : decode cX10_clause 7 = .ok (.if_icmp .lt 15, 3) := by decide +kernel
theorem dX10_clause_10 : decode cX10_clause 10 = .ok (.iload_n 1, 1) := by decide +kernel
theorem dX10_clause_11 : decode cX10_clause 11 = .ok (.aload_n 0, 1) := by decide +kernel
theorem dX10_clause_12 : decode cX10_clause 12 = .ok (.getfield 207, 3) := by decide +kernel
theorem dX10_clause_15 : decode cX10_clause 15 = .ok (.if_icmp .gt 7, 3) := by decide +kernel
theorem dX10_clause_18 : decode cX10_clause 18 = .ok (.iload_n 2, 1) := by decide +kernel
theorem dX10_clause_19 : decode cX10_clause 19 = .ok (.ifCond .ge 8, 3) := by decide +kernel
theorem dX10_clause_22 : decode cX10_clause 22 = .ok (.aload_n 0, 1) := by decide +kernel
theorem dX10_clause_23 : decode cX10_clause 23 = .ok (.invokevirtual 157, 3) := by decide +kernel
theorem dX10_clause_26 : decode cX10_clause 26 = .ok (.ireturn, 1) := by decide +kernel
theorem dX10_clause_27 : decode cX10_clause 27 = .ok (.iload_n 2, 1) := by decide +kernel
theorem dX10_clause_28 : decode cX10_clause 28 = .ok (.ifCond .ne 25, 3) := by decide +kernel
theorem dX10_clause_31 : decode cX10_clause 31 = .ok (.aload_n 0, 1) := by decide +kernel
theorem dX10_clause_32 : decode cX10_clause 32 = .ok (.getfield 191, 3) := by decide +kernel
theorem dX10_clause_35 : decode cX10_clause 35 = .ok (.ifCond .eq 16, 3) := by decide +kernel
theorem dX10_clause_38 : decode cX10_clause 38 = .ok (.aload_n 0, 1) := by decide +kernel
theorem dX10_clause_39 : decode cX10_clause 39 = .ok (.getfield 63, 3) := by decide +kernel
theorem dX10_clause_42 : decode cX10_clause 42 = .ok (.iload_n 1, 1) := by decide +kernel
theorem dX10_clause_43 : decode cX10_clause 43 = .ok (.baload, 1) := by decide +kernel
theorem dX10_clause_44 : decode cX10_clause 44 = .ok (.ifCond .eq 7, 3) := by decide +kernel
theorem dX10_clause_47 : decode cX10_clause 47 = .ok (.iconst 1, 1) := by decide +kernel
theorem dX10_clause_48 : decode cX10_clause 48 = .ok (.goto 4, 3) := by decide +kernel
theorem dX10_clause_51 : decode cX10_clause 51 = .ok (.iconst 0, 1) := by decide +kernel
theorem dX10_clause_52 : decode cX10_clause 52 = .ok (.ireturn, 1) := by decide +kernel
theorem dX10_clause_53 : decode cX10_clause 53 = .ok (.iload_n 2, 1) := by decide +kernel
theorem dX10_clause_54 : decode cX10_clause 54 = .ok (.iconst 1, 1) := by decide +kernel
theorem dX10_clause_55 : decode cX10_clause 55 = .ok (.if_icmp .ne 9, 3) := by decide +kernel
theorem dX10_clause_58 : decode cX10_clause 58 = .ok (.aload_n 0, 1) := by decide +kernel
theorem dX10_clause_59 : decode cX10_clause 59 = .ok (.iload_n 1, 1) := by decide +kernel
theorem dX10_clause_60 : decode cX10_clause 60 = .ok (.invokevirtual 219, 3) := by decide +kernel
theorem dX10_clause_63 : decode cX10_clause 63 = .ok (.ireturn, 1) := by decide +kernel
theorem dX10_clause_64 : decode cX10_clause 64 = .ok (.iload_n 2, 1) := by decide +kernel
theorem dX10_clause_65 : decode cX10_clause 65 = .ok (.iconst 2, 1) := by decide +kernel
theorem dX10_clause_66 : decode cX10_clause 66 = .ok (.isub, 1) := by decide +kernel
theorem dX10_clause_67 : decode cX10_clause 67 = .ok (.aload_n 0, 1) := by decide +kernel
theorem dX10_clause_68 : decode cX10_clause 68 = .ok (.iload_n 1, 1) := by decide +kernel
theorem dX10_clause_69 : decode cX10_clause 69 = .ok (.invokevirtual 219, 3) := by decide +kernel
theorem dX10_clause_72 : decode cX10_clause 72 = .ok (.if_icmp .ge 14, 3) := by decide +kernel
theorem dX10_clause_75 : decode cX10_clause 75 = .ok (.aload_n 0, 1) := by decide +kernel
theorem dX10_clause_76 : decode cX10_clause 76 = .ok (.iload_n 1, 1) := by decide +kernel
theorem dX10_clause_77 : decode cX10_clause 77 = .ok (.iload_n 2, 1) := by decide +kernel
theorem dX10_clause_78 : decode cX10_clause 78 = .ok (.iconst 2, 1) := by decide +kernel
theorem dX10_clause_79 : decode cX10_clause 79 = .ok (.isub, 1) := by decide +kernel
theorem dX10_clause_80 : decode cX10_clause 80 = .ok (.invokevirtual 222, 3) := by decide +kernel
theorem dX10_clause_83 : decode cX10_clause 83 = .ok (.goto 4, 3) := by decide +kernel
theorem dX10_clause_86 : decode cX10_clause 86 = .ok (.iconst 0, 1) := by decide +kernel
theorem dX10_clause_87 : decode cX10_clause 87 = .ok (.ireturn, 1) := by decide +kernel
theorem dX10_step_0 : decode cX10_step 0 = .ok (.aload_n 0, 1) := by decide +kernel
theorem dX10_step_1 : decode cX10_step 1 = .ok (.iconst 0, 1) := by decide +kernel
theorem dX10_step_2 : decode cX10_step 2 = .ok (.putfield 96, 3) := by decide +kernel
theorem dX10_step_5 : decode cX10_step 5 = .ok (.iload_n 1, 1) := by decide +kernel
theorem dX10_step_6 : decode cX10_step 6 = .ok (.iconst 1, 1) := by decide +kernel
theorem dX10_step_7 : decode cX10_step 7 = .ok (.if_icmp .lt 15, 3) := by decide +kernel
theorem dX10_step_10 : decode cX10_step 10 = .ok (.iload_n 1, 1) := by decide +kernel
theorem dX10_step_11 : decode cX10_step 11 = .ok (.aload_n 0, 1) := by decide +kernel
theorem dX10_step_12 : decode cX10_step 12 = .ok (.getfield 188, 3) := by decide +kernel
theorem dX10_step_15 : decode cX10_step 15 = .ok (.if_icmp .gt 7, 3) := by decide +kernel
theorem dX10_step_18 : decode cX10_step 18 = .ok (.iload_n 2, 1) := by decide +kernel
theorem dX10_step_19 : decode cX10_step 19 = .ok (.ifCond .ge 8, 3) := by decide +kernel
theorem dX10_step_22 : decode cX10_step 22 = .ok (.aload_n 0, 1) := by decide +kernel
theorem dX10_step_23 : decode cX10_step 23 = .ok (.invokevirtual 157, 3) := by decide +kernel
theorem dX10_step_26 : decode cX10_step 26 = .ok (.ireturn, 1) := by decide +kernel
theorem dX10_step_27 : decode cX10_step 27 = .ok (.iload_n 2, 1) := by decide +kernel
theorem dX10_step_28 : decode cX10_step 28 = .ok (.ifCond .ne 18, 3) := by decide +kernel
theorem dX10_step_31 : decode cX10_step 31 = .ok (.aload_n 0, 1) := by decide +kernel
theorem dX10_step_32 : decode cX10_step 32 = .ok (.getfield 38, 3) := by decide +kernel
theorem dX10_step_35 : decode cX10_step 35 = .ok (.iload_n 1, 1) := by decide +kernel
theorem dX10_step_36 : decode cX10_step 36 = .ok (.baload, 1) := by decide +kernel
theorem dX10_step_37 : decode cX10_step 37 = .ok (.ifCond .eq 7, 3) := by decide +kernel
theorem dX10_step_40 : decode cX10_step 40 = .ok (.iconst 1, 1) := by decide +kernel
theorem dX10_step_41 : decode cX10_step 41 = .ok (.goto 4, 3) := by decide +kernel
theorem dX10_step_44 : decode cX10_step 44 = .ok (.iconst 0, 1) := by decide +kernel
theorem dX10_step_45 : decode cX10_step 45 = .ok (.ireturn, 1) := by decide +kernel
theorem dX10_step_46 : decode cX10_step 46 = .ok (.iload_n 2, 1) := by decide +kernel
theorem dX10_step_47 : decode cX10_step 47 = .ok (.iconst 1, 1) := by decide +kernel
theorem dX10_step_48 : decode cX10_step 48 = .ok (.if_icmp .ne 10, 3) := by decide +kernel
theorem dX10_step_51 : decode cX10_step 51 = .ok (.aload_n 0, 1) := by decide +kernel
theorem dX10_step_52 : decode cX10_step 52 = .ok (.getfield 57, 3) := by decide +kernel
theorem dX10_step_55 : decode cX10_step 55 = .ok (.iload_n 1, 1) := by decide +kernel
theorem dX10_step_56 : decode cX10_step 56 = .ok (.iaload, 1) := by decide +kernel
theorem dX10_step_57 : decode cX10_step 57 = .ok (.ireturn, 1) := by decide +kernel
theorem dX10_step_58 : decode cX10_step 58 = .ok (.iload_n 2, 1) := by decide +kernel
theorem dX10_step_59 : decode cX10_step 59 = .ok (.iconst 2, 1) := by decide +kernel
theorem dX10_step_60 : decode cX10_step 60 = .ok (.if_icmp .ne 10, 3) := by decide +kernel
theorem dX10_step_63 : decode cX10_step 63 = .ok (.aload_n 0, 1) := by decide +kernel
theorem dX10_step_64 : decode cX10_step 64 = .ok (.getfield 32, 3) := by decide +kernel
theorem dX10_step_67 : decode cX10_step 67 = .ok (.iload_n 1, 1) := by decide +kernel
theorem dX10_step_68 : decode cX10_step 68 = .ok (.iaload, 1) := by decide +kernel
theorem dX10_step_69 : decode cX10_step 69 = .ok (.ireturn, 1) := by decide +kernel
theorem dX10_step_70 : decode cX10_step 70 = .ok (.iload_n 2, 1) := by decide +kernel
theorem dX10_step_71 : decode cX10_step 71 = .ok (.iconst 3, 1) := by decide +kernel
theorem dX10_step_72 : decode cX10_step 72 = .ok (.isub, 1) := by decide +kernel
theorem dX10_step_73 : decode cX10_step 73 = .ok (.aload_n 0, 1) := by decide +kernel
theorem dX10_step_74 : decode cX10_step 74 = .ok (.getfield 32, 3) := by decide +kernel
theorem dX10_step_77 : decode cX10_step 77 = .ok (.iload_n 1, 1) := by decide +kernel
theorem dX10_step_78 : decode cX10_step 78 = .ok (.iaload, 1) := by decide +kernel
theorem dX10_step_79 : decode cX10_step 79 = .ok (.if_icmp .ge 21, 3) := by decide +kernel
theorem dX10_step_82 : decode cX10_step 82 = .ok (.aload_n 0, 1) := by decide +kernel
theorem dX10_step_83 : decode cX10_step 83 = .ok (.getfield 35, 3) := by decide +kernel
theorem dX10_step_86 : decode cX10_step 86 = .ok (.aload_n 0, 1) := by decide +kernel
theorem dX10_step_87 : decode cX10_step 87 = .ok (.getfield 29, 3) := by decide +kernel
theorem dX10_step_90 : decode cX10_step 90 = .ok (.iload_n 1, 1) := by decide +kernel
theorem dX10_step_91 : decode cX10_step 91 = .ok (.iaload, 1) := by decide +kernel
theorem dX10_step_92 : decode cX10_step 92 = .ok (.iload_n 2, 1) := by decide +kernel
theorem dX10_step_93 : decode cX10_step 93 = .ok (.iadd, 1) := by decide +kernel
theorem dX10_step_94 : decode cX10_step 94 = .ok (.iconst 3, 1) := by decide +kernel
theorem dX10_step_95 : decode cX10_step 95 = .ok (.isub, 1) := by decide +kernel
theorem dX10_step_96 : decode cX10_step 96 = .ok (.iaload, 1) := by decide +kernel
theorem dX10_step_97 : decode cX10_step 97 = .ok (.goto 4, 3) := by decide +kernel
theorem dX10_step_100 : decode cX10_step 100 = .ok (.iconst 0, 1) := by decide +kernel
theorem dX10_step_101 : decode cX10_step 101 = .ok (.ireturn, 1) := by decide +kernel
theorem dX10_hint_0 : decode cX10_hint 0 = .ok (.aload_n 0, 1) := by decide +kernel
theorem dX10_hint_1 : decode cX10_hint 1 = .ok (.iconst 0, 1) := by decide +kernel
theorem dX10_hint_2 : decode cX10_hint 2 = .ok (.putfield 96, 3) := by decide +kernel
theorem dX10_hint_5 : decode cX10_hint 5 = .ok (.iload_n 1, 1) := by decide +kernel
theorem dX10_hint_6 : decode cX10_hint 6 = .ok (.ifCond .lt 15, 3) := by decide +kernel
theorem dX10_hint_9 : decode cX10_hint 9 = .ok (.iload_n 1, 1) := by decide +kernel
theorem dX10_hint_10 : decode cX10_hint 10 = .ok (.aload_n 0, 1) := by decide +kernel
theorem dX10_hint_11 : decode cX10_hint 11 = .ok (.getfield 207, 3) := by decide +kernel
theorem dX10_hint_14 : decode cX10_hint 14 = .ok (.if_icmp .gt 7, 3) := by decide +kernel
theorem dX10_hint_17 : decode cX10_hint 17 = .ok (.iload_n 2, 1) := by decide +kernel
theorem dX10_hint_18 : decode cX10_hint 18 = .ok (.ifCond .ge 8, 3) := by decide +kernel
theorem dX10_hint_21 : decode cX10_hint 21 = .ok (.aload_n 0, 1) := by decide +kernel
theorem dX10_hint_22 : decode cX10_hint 22 = .ok (.invokevirtual 157, 3) := by decide +kernel
theorem dX10_hint_25 : decode cX10_hint 25 = .ok (.ireturn, 1) := by decide +kernel
theorem dX10_hint_26 : decode cX10_hint 26 = .ok (.aload_n 0, 1) := by decide +kernel
theorem dX10_hint_27 : decode cX10_hint 27 = .ok (.getfield 191, 3) := by decide +kernel
theorem dX10_hint_30 : decode cX10_hint 30 = .ok (.ifCond .eq 29, 3) := by decide +kernel
theorem dX10_hint_33 : decode cX10_hint 33 = .ok (.iload_n 2, 1) := by decide +kernel
theorem dX10_hint_34 : decode cX10_hint 34 = .ok (.aload_n 0, 1) := by decide +kernel
theorem dX10_hint_35 : decode cX10_hint 35 = .ok (.getfield 90, 3) := by decide +kernel
theorem dX10_hint_38 : decode cX10_hint 38 = .ok (.iload_n 1, 1) := by decide +kernel
theorem dX10_hint_39 : decode cX10_hint 39 = .ok (.iaload, 1) := by decide +kernel
theorem dX10_hint_40 : decode cX10_hint 40 = .ok (.if_icmp .ge 19, 3) := by decide +kernel
theorem dX10_hint_43 : decode cX10_hint 43 = .ok (.aload_n 0, 1) := by decide +kernel
theorem dX10_hint_44 : decode cX10_hint 44 = .ok (.getfield 84, 3) := by decide +kernel
theorem dX10_hint_47 : decode cX10_hint 47 = .ok (.aload_n 0, 1) := by decide +kernel
theorem dX10_hint_48 : decode cX10_hint 48 = .ok (.getfield 87, 3) := by decide +kernel
theorem dX10_hint_51 : decode cX10_hint 51 = .ok (.iload_n 1, 1) := by decide +kernel
theorem dX10_hint_52 : decode cX10_hint 52 = .ok (.iaload, 1) := by decide +kernel
theorem dX10_hint_53 : decode cX10_hint 53 = .ok (.iload_n 2, 1) := by decide +kernel
theorem dX10_hint_54 : decode cX10_hint 54 = .ok (.iadd, 1) := by decide +kernel
theorem dX10_hint_55 : decode cX10_hint 55 = .ok (.iaload, 1) := by decide +kernel
theorem dX10_hint_56 : decode cX10_hint 56 = .ok (.goto 4, 3) := by decide +kernel
theorem dX10_hint_59 : decode cX10_hint 59 = .ok (.iconst 0, 1) := by decide +kernel
theorem dX10_hint_60 : decode cX10_hint 60 = .ok (.ireturn, 1) := by decide +kernel
theorem dX10_put_0 : decode cX10_put 0 = .ok (.aload_n 0, 1) := by decide +kernel
theorem dX10_put_1 : decode cX10_put 1 = .ok (.getfield 312, 3) := by decide +kernel
theorem dX10_put_4 : decode cX10_put 4 = .ok (.sipush 6000, 3) := by decide +kernel
theorem dX10_put_7 : decode cX10_put 7 = .ok (.if_icmp .ge 13, 3) := by decide +kernel
theorem dX10_put_10 : decode cX10_put 10 = .ok (.aload_n 0, 1) := by decide +kernel
theorem dX10_put_11 : decode cX10_put 11 = .ok (.getfield 93, 3) := by decide +kernel
theorem dX10_put_14 : decode cX10_put 14 = .ok (.aload_n 0, 1) := by decide +kernel
theorem dX10_put_15 : decode cX10_put 15 = .ok (.getfield 312, 3) := by decide +kernel
theorem dX10_put_18 : decode cX10_put 18 = .ok (.iload_n 1, 1) := by decide +kernel
theorem dX10_put_19 : decode cX10_put 19 = .ok (.iastore, 1) := by decide +kernel
theorem dX10_put_20 : decode cX10_put 20 = .ok (.aload_n 0, 1) := by decide +kernel
theorem dX10_put_21 : decode cX10_put 21 = .ok (.dup, 1) := by decide +kernel
theorem dX10_put_22 : decode cX10_put 22 = .ok (.getfield 312, 3) := by decide +kernel
theorem dX10_put_25 : decode cX10_put 25 = .ok (.iconst 1, 1) := by decide +kernel
theorem dX10_put_26 : decode cX10_put 26 = .ok (.iadd, 1) := by decide +kernel
theorem dX10_put_27 : decode cX10_put 27 = .ok (.putfield 312, 3) := by decide +kernel
theorem dX10_put_30 : decode cX10_put 30 = .ok (.return_, 1) := by decide +kernel
theorem dX10_putNumber_0 : decode cX10_putNumber 0 = .ok (.iload_n 1, 1) := by decide +kernel
theorem dX10_putNumber_1 : decode cX10_putNumber 1 = .ok (.ifCond .ge 9, 3) := by decide +kernel
theorem dX10_putNumber_4 : decode cX10_putNumber 4 = .ok (.aload_n 0, 1) := by decide +kernel
theorem dX10_putNumber_5 : decode cX10_putNumber 5 = .ok (.bipush 45, 2) := by decide +kernel
theorem dX10_putNumber_7 : decode cX10_putNumber 7 = .ok (.invokevirtual 315, 3) := by decide +kernel
theorem dX10_putNumber_10 : decode cX10_putNumber 10 = .ok (.iload_n 1, 1) := by decide +kernel
theorem dX10_putNumber_11 : decode cX10_putNumber 11 = .ok (.ifCond .ge 8, 3) := by decide +kernel
theorem dX10_putNumber_14 : decode cX10_putNumber 14 = .ok (.iload_n 1, 1) := by decide +kernel
theorem dX10_putNumber_15 : decode cX10_putNumber 15 = .ok (.ineg, 1) := by decide +kernel
theorem dX10_putNumber_16 : decode cX10_putNumber 16 = .ok (.goto 4, 3) := by decide +kernel
theorem dX10_putNumber_19 : decode cX10_putNumber 19 = .ok (.iload_n 1, 1) := by decide +kernel
theorem dX10_putNumber_20 : decode cX10_putNumber 20 = .ok (.istore_n 2, 1) := by decide +kernel
theorem dX10_putNumber_21 : decode cX10_putNumber 21 = .ok (.iload_n 2, 1) := by decide +kernel
theorem dX10_putNumber_22 : decode cX10_putNumber 22 = .ok (.bipush 100, 2) := by decide +kernel
theorem dX10_putNumber_24 : decode cX10_putNumber 24 = .ok (.if_icmp .lt 14, 3) := by decide +kernel
theorem dX10_putNumber_27 : decode cX10_putNumber 27 = .ok (.aload_n 0, 1) := by decide +kernel
theorem dX10_putNumber_28 : decode cX10_putNumber 28 = .ok (.bipush 48, 2) := by decide +kernel
theorem dX10_putNumber_30 : decode cX10_putNumber 30 = .ok (.iload_n 2, 1) := by decide +kernel
theorem dX10_putNumber_31 : decode cX10_putNumber 31 = .ok (.bipush 100, 2) := by decide +kernel
theorem dX10_putNumber_33 : decode cX10_putNumber 33 = .ok (.idiv, 1) := by decide +kernel
theorem dX10_putNumber_34 : decode cX10_putNumber 34 = .ok (.iadd, 1) := by decide +kernel
theorem dX10_putNumber_35 : decode cX10_putNumber 35 = .ok (.invokevirtual 315, 3) := by decide +kernel
theorem dX10_putNumber_38 : decode cX10_putNumber 38 = .ok (.iload_n 2, 1) := by decide +kernel
theorem dX10_putNumber_39 : decode cX10_putNumber 39 = .ok (.bipush 10, 2) := by decide +kernel
theorem dX10_putNumber_41 : decode cX10_putNumber 41 = .ok (.if_icmp .lt 17, 3) := by decide +kernel
theorem dX10_putNumber_44 : decode cX10_putNumber 44 = .ok (.aload_n 0, 1) := by decide +kernel
theorem dX10_putNumber_45 : decode cX10_putNumber 45 = .ok (.bipush 48, 2) := by decide +kernel
theorem dX10_putNumber_47 : decode cX10_putNumber 47 = .ok (.iload_n 2, 1) := by decide +kernel
theorem dX10_putNumber_48 : decode cX10_putNumber 48 = .ok (.bipush 10, 2) := by decide +kernel
theorem dX10_putNumber_50 : decode cX10_putNumber 50 = .ok (.idiv, 1) := by decide +kernel
theorem dX10_putNumber_51 : decode cX10_putNumber 51 = .ok (.bipush 10, 2) := by decide +kernel
theorem dX10_putNumber_53 : decode cX10_putNumber 53 = .ok (.irem, 1) := by decide +kernel
theorem dX10_putNumber_54 : decode cX10_putNumber 54 = .ok (.iadd, 1) := by decide +kernel
theorem dX10_putNumber_55 : decode cX10_putNumber 55 = .ok (.invokevirtual 315, 3) := by decide +kernel
theorem dX10_putNumber_58 : decode cX10_putNumber 58 = .ok (.aload_n 0, 1) := by decide +kernel
theorem dX10_putNumber_59 : decode cX10_putNumber 59 = .ok (.bipush 48, 2) := by decide +kernel
theorem dX10_putNumber_61 : decode cX10_putNumber 61 = .ok (.iload_n 2, 1) := by decide +kernel
theorem dX10_putNumber_62 : decode cX10_putNumber 62 = .ok (.bipush 10, 2) := by decide +kernel
theorem dX10_putNumber_64 : decode cX10_putNumber 64 = .ok (.irem, 1) := by decide +kernel
theorem dX10_putNumber_65 : decode cX10_putNumber 65 = .ok (.iadd, 1) := by decide +kernel
theorem dX10_putNumber_66 : decode cX10_putNumber 66 = .ok (.invokevirtual 315, 3) := by decide +kernel
theorem dX10_putNumber_69 : decode cX10_putNumber 69 = .ok (.return_, 1) := by decide +kernel
theorem dX10_shorter_0 : decode cX10_shorter 0 = .ok (.aload_n 0, 1) := by decide +kernel
theorem dX10_shorter_1 : decode cX10_shorter 1 = .ok (.iconst 0, 1) := by decide +kernel
theorem dX10_shorter_2 : decode cX10_shorter 2 = .ok (.putfield 96, 3) := by decide +kernel
theorem dX10_shorter_5 : decode cX10_shorter 5 = .ok (.aload_n 0, 1) := by decide +kernel
theorem dX10_shorter_6 : decode cX10_shorter 6 = .ok (.iconst 0, 1) := by decide +kernel
theorem dX10_shorter_7 : decode cX10_shorter 7 = .ok (.putfield 312, 3) := by decide +kernel
theorem dX10_shorter_10 : decode cX10_shorter 10 = .ok (.aload_n 0, 1) := by decide +kernel
theorem dX10_shorter_11 : decode cX10_shorter 11 = .ok (.getfield 191, 3) := by decide +kernel
theorem dX10_shorter_14 : decode cX10_shorter 14 = .ok (.ifCond .ne 7, 3) := by decide +kernel
theorem dX10_shorter_17 : decode cX10_shorter 17 = .ok (.iconst 0, 1) := by decide +kernel
theorem dX10_shorter_18 : decode cX10_shorter 18 = .ok (.goto 22, 3) := by decide +kernel
theorem dX10_shorter_21 : decode cX10_shorter 21 = .ok (.aload_n 0, 1) := by decide +kernel
theorem dX10_shorter_22 : decode cX10_shorter 22 = .ok (.getfield 293, 3) := by decide +kernel
theorem dX10_shorter_25 : decode cX10_shorter 25 = .ok (.iconst (-1), 1) := by decide +kernel
theorem dX10_shorter_26 : decode cX10_shorter 26 = .ok (.if_icmp .ne 10, 3) := by decide +kernel
theorem dX10_shorter_29 : decode cX10_shorter 29 = .ok (.aload_n 0, 1) := by decide +kernel
theorem dX10_shorter_30 : decode cX10_shorter 30 = .ok (.getfield 188, 3) := by decide +kernel
theorem dX10_shorter_33 : decode cX10_shorter 33 = .ok (.goto 7, 3) := by decide +kernel
theorem dX10_shorter_36 : decode cX10_shorter 36 = .ok (.aload_n 0, 1) := by decide +kernel
theorem dX10_shorter_37 : decode cX10_shorter 37 = .ok (.getfield 293, 3) := by decide +kernel
theorem dX10_shorter_40 : decode cX10_shorter 40 = .ok (.istore_n 1, 1) := by decide +kernel
theorem dX10_shorter_41 : decode cX10_shorter 41 = .ok (.iconst 1, 1) := by decide +kernel
theorem dX10_shorter_42 : decode cX10_shorter 42 = .ok (.istore_n 2, 1) := by decide +kernel
theorem dX10_shorter_43 : decode cX10_shorter 43 = .ok (.iload_n 2, 1) := by decide +kernel
theorem dX10_shorter_44 : decode cX10_shorter 44 = .ok (.iload_n 1, 1) := by decide +kernel
theorem dX10_shorter_45 : decode cX10_shorter 45 = .ok (.if_icmp .gt 155, 3) := by decide +kernel
theorem dX10_shorter_48 : decode cX10_shorter 48 = .ok (.aload_n 0, 1) := by decide +kernel
theorem dX10_shorter_49 : decode cX10_shorter 49 = .ok (.getfield 38, 3) := by decide +kernel
theorem dX10_shorter_52 : decode cX10_shorter 52 = .ok (.iload_n 2, 1) := by decide +kernel
theorem dX10_shorter_53 : decode cX10_shorter 53 = .ok (.baload, 1) := by decide +kernel
theorem dX10_shorter_54 : decode cX10_shorter 54 = .ok (.ifCond .eq 47, 3) := by decide +kernel
theorem dX10_shorter_57 : decode cX10_shorter 57 = .ok (.aload_n 0, 1) := by decide +kernel
theorem dX10_shorter_58 : decode cX10_shorter 58 = .ok (.getfield 72, 3) := by decide +kernel
theorem dX10_shorter_61 : decode cX10_shorter 61 = .ok (.iload_n 2, 1) := by decide +kernel
theorem dX10_shorter_62 : decode cX10_shorter 62 = .ok (.iaload, 1) := by decide +kernel
theorem dX10_shorter_63 : decode cX10_shorter 63 = .ok (.ifCond .le 34, 3) := by decide +kernel
theorem dX10_shorter_66 : decode cX10_shorter 66 = .ok (.aload_n 0, 1) := by decide +kernel
theorem dX10_shorter_67 : decode cX10_shorter 67 = .ok (.getfield 72, 3) := by decide +kernel
theorem dX10_shorter_70 : decode cX10_shorter 70 = .ok (.iload_n 2, 1) := by decide +kernel
theorem dX10_shorter_71 : decode cX10_shorter 71 = .ok (.iaload, 1) := by decide +kernel
theorem dX10_shorter_72 : decode cX10_shorter 72 = .ok (.aload_n 0, 1) := by decide +kernel
theorem dX10_shorter_73 : decode cX10_shorter 73 = .ok (.getfield 185, 3) := by decide +kernel
theorem dX10_shorter_76 : decode cX10_shorter 76 = .ok (.if_icmp .le 17, 3) := by decide +kernel
theorem dX10_shorter_79 : decode cX10_shorter 79 = .ok (.aload_n 0, 1) := by decide +kernel
theorem dX10_shorter_80 : decode cX10_shorter 80 = .ok (.getfield 63, 3) := by decide +kernel
theorem dX10_shorter_83 : decode cX10_shorter 83 = .ok (.aload_n 0, 1) := by decide +kernel
theorem dX10_shorter_84 : decode cX10_shorter 84 = .ok (.getfield 72, 3) := by decide +kernel
theorem dX10_shorter_87 : decode cX10_shorter 87 = .ok (.iload_n 2, 1) := by decide +kernel
theorem dX10_shorter_88 : decode cX10_shorter 88 = .ok (.iaload, 1) := by decide +kernel
theorem dX10_shorter_89 : decode cX10_shorter 89 = .ok (.baload, 1) := by decide +kernel
theorem dX10_shorter_90 : decode cX10_shorter 90 = .ok (.ifCond .eq 7, 3) := by decide +kernel
theorem dX10_shorter_93 : decode cX10_shorter 93 = .ok (.iconst 1, 1) := by decide +kernel
theorem dX10_shorter_94 : decode cX10_shorter 94 = .ok (.goto 18, 3) := by decide +kernel
theorem dX10_shorter_97 : decode cX10_shorter 97 = .ok (.iconst 0, 1) := by decide +kernel
theorem dX10_shorter_98 : decode cX10_shorter 98 = .ok (.goto 14, 3) := by decide +kernel
theorem dX10_shorter_101 : decode cX10_shorter 101 = .ok (.aload_n 0, 1) := by decide +kernel
theorem dX10_shorter_102 : decode cX10_shorter 102 = .ok (.getfield 63, 3) := by decide +kernel
theorem dX10_shorter_105 : decode cX10_shorter 105 = .ok (.aload_n 0, 1) := by decide +kernel
theorem dX10_shorter_106 : decode cX10_shorter 106 = .ok (.getfield 57, 3) := by decide +kernel
theorem dX10_shorter_109 : decode cX10_shorter 109 = .ok (.iload_n 2, 1) := by decide +kernel
theorem dX10_shorter_110 : decode cX10_shorter 110 = .ok (.iaload, 1) := by decide +kernel
theorem dX10_shorter_111 : decode cX10_shorter 111 = .ok (.baload, 1) := by decide +kernel
theorem dX10_shorter_112 : decode cX10_shorter 112 = .ok (.istore_n 3, 1) := by decide +kernel
theorem dX10_shorter_113 : decode cX10_shorter 113 = .ok (.iload_n 3, 1) := by decide +kernel
theorem dX10_shorter_114 : decode cX10_shorter 114 = .ok (.ifCond .eq 80, 3) := by decide +kernel
theorem dX10_shorter_117 : decode cX10_shorter 117 = .ok (.aload_n 0, 1) := by decide +kernel
theorem dX10_shorter_118 : decode cX10_shorter 118 = .ok (.getfield 38, 3) := by decide +kernel
theorem dX10_shorter_121 : decode cX10_shorter 121 = .ok (.iload_n 2, 1) := by decide +kernel
theorem dX10_shorter_122 : decode cX10_shorter 122 = .ok (.baload, 1) := by decide +kernel
theorem dX10_shorter_123 : decode cX10_shorter 123 = .ok (.ifCond .eq 15, 3) := by decide +kernel
theorem dX10_shorter_126 : decode cX10_shorter 126 = .ok (.aload_n 0, 1) := by decide +kernel
theorem dX10_shorter_127 : decode cX10_shorter 127 = .ok (.bipush 100, 2) := by decide +kernel
theorem dX10_shorter_129 : decode cX10_shorter 129 = .ok (.invokevirtual 315, 3) := by decide +kernel
theorem dX10_shorter_132 : decode cX10_shorter 132 = .ok (.aload_n 0, 1) := by decide +kernel
theorem dX10_shorter_133 : decode cX10_shorter 133 = .ok (.bipush 32, 2) := by decide +kernel
theorem dX10_shorter_135 : decode cX10_shorter 135 = .ok (.invokevirtual 315, 3) := by decide +kernel
theorem dX10_shorter_138 : decode cX10_shorter 138 = .ok (.iconst 0, 1) := by decide +kernel
theorem dX10_shorter_139 : decode cX10_shorter 139 = .ok (.istore 4, 2) := by decide +kernel
theorem dX10_shorter_141 : decode cX10_shorter 141 = .ok (.iload 4, 2) := by decide +kernel
theorem dX10_shorter_143 : decode cX10_shorter 143 = .ok (.aload_n 0, 1) := by decide +kernel
theorem dX10_shorter_144 : decode cX10_shorter 144 = .ok (.getfield 32, 3) := by decide +kernel
theorem dX10_shorter_147 : decode cX10_shorter 147 = .ok (.iload_n 2, 1) := by decide +kernel
theorem dX10_shorter_148 : decode cX10_shorter 148 = .ok (.iaload, 1) := by decide +kernel
theorem dX10_shorter_149 : decode cX10_shorter 149 = .ok (.if_icmp .ge 33, 3) := by decide +kernel
theorem dX10_shorter_152 : decode cX10_shorter 152 = .ok (.aload_n 0, 1) := by decide +kernel
theorem dX10_shorter_153 : decode cX10_shorter 153 = .ok (.aload_n 0, 1) := by decide +kernel
theorem dX10_shorter_154 : decode cX10_shorter 154 = .ok (.getfield 35, 3) := by decide +kernel
theorem dX10_shorter_157 : decode cX10_shorter 157 = .ok (.aload_n 0, 1) := by decide +kernel
theorem dX10_shorter_158 : decode cX10_shorter 158 = .ok (.getfield 29, 3) := by decide +kernel
theorem dX10_shorter_161 : decode cX10_shorter 161 = .ok (.iload_n 2, 1) := by decide +kernel
theorem dX10_shorter_162 : decode cX10_shorter 162 = .ok (.iaload, 1) := by decide +kernel
theorem dX10_shorter_163 : decode cX10_shorter 163 = .ok (.iload 4, 2) := by decide +kernel
theorem dX10_shorter_165 : decode cX10_shorter 165 = .ok (.iadd, 1) := by decide +kernel
theorem dX10_shorter_166 : decode cX10_shorter 166 = .ok (.iaload, 1) := by decide +kernel
theorem dX10_shorter_167 : decode cX10_shorter 167 = .ok (.invokevirtual 318, 3) := by decide +kernel
theorem dX10_shorter_170 : decode cX10_shorter 170 = .ok (.aload_n 0, 1) := by decide +kernel
theorem dX10_shorter_171 : decode cX10_shorter 171 = .ok (.bipush 32, 2) := by decide +kernel
theorem dX10_shorter_173 : decode cX10_shorter 173 = .ok (.invokevirtual 315, 3) := by decide +kernel
theorem dX10_shorter_176 : decode cX10_shorter 176 = .ok (.iinc 4 1, 3) := by decide +kernel
theorem dX10_shorter_179 : decode cX10_shorter 179 = .ok (.goto (-38), 3) := by decide +kernel
theorem dX10_shorter_182 : decode cX10_shorter 182 = .ok (.aload_n 0, 1) := by decide +kernel
theorem dX10_shorter_183 : decode cX10_shorter 183 = .ok (.bipush 48, 2) := by decide +kernel
theorem dX10_shorter_185 : decode cX10_shorter 185 = .ok (.invokevirtual 315, 3) := by decide +kernel
theorem dX10_shorter_188 : decode cX10_shorter 188 = .ok (.aload_n 0, 1) := by decide +kernel
theorem dX10_shorter_189 : decode cX10_shorter 189 = .ok (.bipush 10, 2) := by decide +kernel
theorem dX10_shorter_191 : decode cX10_shorter 191 = .ok (.invokevirtual 315, 3) := by decide +kernel
theorem dX10_shorter_194 : decode cX10_shorter 194 = .ok (.iinc 2 1, 3) := by decide +kernel
theorem dX10_shorter_197 : decode cX10_shorter 197 = .ok (.goto (-154), 3) := by decide +kernel
theorem dX10_shorter_200 : decode cX10_shorter 200 = .ok (.aload_n 0, 1) := by decide +kernel
theorem dX10_shorter_201 : decode cX10_shorter 201 = .ok (.getfield 312, 3) := by decide +kernel
theorem dX10_shorter_204 : decode cX10_shorter 204 = .ok (.ireturn, 1) := by decide +kernel
theorem dX10_out_0 : decode cX10_out 0 = .ok (.aload_n 0, 1) := by decide +kernel
theorem dX10_out_1 : decode cX10_out 1 = .ok (.iconst 0, 1) := by decide +kernel
theorem dX10_out_2 : decode cX10_out 2 = .ok (.putfield 96, 3) := by decide +kernel
theorem dX10_out_5 : decode cX10_out 5 = .ok (.iload_n 1, 1) := by decide +kernel
theorem dX10_out_6 : decode cX10_out 6 = .ok (.ifCond .lt 18, 3) := by decide +kernel
theorem dX10_out_9 : decode cX10_out 9 = .ok (.iload_n 1, 1) := by decide +kernel
theorem dX10_out_10 : decode cX10_out 10 = .ok (.aload_n 0, 1) := by decide +kernel
theorem dX10_out_11 : decode cX10_out 11 = .ok (.getfield 312, 3) := by decide +kernel
theorem dX10_out_14 : decode cX10_out 14 = .ok (.if_icmp .ge 10, 3) := by decide +kernel
theorem dX10_out_17 : decode cX10_out 17 = .ok (.iload_n 1, 1) := by decide +kernel
theorem dX10_out_18 : decode cX10_out 18 = .ok (.sipush 6000, 3) := by decide +kernel
theorem dX10_out_21 : decode cX10_out 21 = .ok (.if_icmp .lt 8, 3) := by decide +kernel
theorem dX10_out_24 : decode cX10_out 24 = .ok (.aload_n 0, 1) := by decide +kernel
theorem dX10_out_25 : decode cX10_out 25 = .ok (.invokevirtual 157, 3) := by decide +kernel
theorem dX10_out_28 : decode cX10_out 28 = .ok (.ireturn, 1) := by decide +kernel
theorem dX10_out_29 : decode cX10_out 29 = .ok (.aload_n 0, 1) := by decide +kernel
theorem dX10_out_30 : decode cX10_out 30 = .ok (.getfield 93, 3) := by decide +kernel
theorem dX10_out_33 : decode cX10_out 33 = .ok (.iload_n 1, 1) := by decide +kernel
theorem dX10_out_34 : decode cX10_out 34 = .ok (.iaload, 1) := by decide +kernel
theorem dX10_out_35 : decode cX10_out 35 = .ok (.ireturn, 1) := by decide +kernel
theorem dX10_takeShorter_0 : decode cX10_takeShorter 0 = .ok (.aload_n 0, 1) := by decide +kernel
theorem dX10_takeShorter_1 : decode cX10_takeShorter 1 = .ok (.iconst 0, 1) := by decide +kernel
theorem dX10_takeShorter_2 : decode cX10_takeShorter 2 = .ok (.putfield 96, 3) := by decide +kernel
theorem dX10_takeShorter_5 : decode cX10_takeShorter 5 = .ok (.aload_n 0, 1) := by decide +kernel
theorem dX10_takeShorter_6 : decode cX10_takeShorter 6 = .ok (.getfield 312, 3) := by decide +kernel
theorem dX10_takeShorter_9 : decode cX10_takeShorter 9 = .ok (.sipush 6000, 3) := by decide +kernel
theorem dX10_takeShorter_12 : decode cX10_takeShorter 12 = .ok (.if_icmp .le 5, 3) := by decide +kernel
theorem dX10_takeShorter_15 : decode cX10_takeShorter 15 = .ok (.iconst (-1), 1) := by decide +kernel
theorem dX10_takeShorter_16 : decode cX10_takeShorter 16 = .ok (.ireturn, 1) := by decide +kernel
theorem dX10_takeShorter_17 : decode cX10_takeShorter 17 = .ok (.iconst 0, 1) := by decide +kernel
theorem dX10_takeShorter_18 : decode cX10_takeShorter 18 = .ok (.istore_n 1, 1) := by decide +kernel
theorem dX10_takeShorter_19 : decode cX10_takeShorter 19 = .ok (.iload_n 1, 1) := by decide +kernel
theorem dX10_takeShorter_20 : decode cX10_takeShorter 20 = .ok (.aload_n 0, 1) := by decide +kernel
theorem dX10_takeShorter_21 : decode cX10_takeShorter 21 = .ok (.getfield 312, 3) := by decide +kernel
theorem dX10_takeShorter_24 : decode cX10_takeShorter 24 = .ok (.if_icmp .ge 21, 3) := by decide +kernel
theorem dX10_takeShorter_27 : decode cX10_takeShorter 27 = .ok (.aload_n 0, 1) := by decide +kernel
theorem dX10_takeShorter_28 : decode cX10_takeShorter 28 = .ok (.getfield 13, 3) := by decide +kernel
theorem dX10_takeShorter_31 : decode cX10_takeShorter 31 = .ok (.iload_n 1, 1) := by decide +kernel
theorem dX10_takeShorter_32 : decode cX10_takeShorter 32 = .ok (.aload_n 0, 1) := by decide +kernel
theorem dX10_takeShorter_33 : decode cX10_takeShorter 33 = .ok (.getfield 93, 3) := by decide +kernel
theorem dX10_takeShorter_36 : decode cX10_takeShorter 36 = .ok (.iload_n 1, 1) := by decide +kernel
theorem dX10_takeShorter_37 : decode cX10_takeShorter 37 = .ok (.iaload, 1) := by decide +kernel
theorem dX10_takeShorter_38 : decode cX10_takeShorter 38 = .ok (.iastore, 1) := by decide +kernel
theorem dX10_takeShorter_39 : decode cX10_takeShorter 39 = .ok (.iinc 1 1, 3) := by decide +kernel
theorem dX10_takeShorter_42 : decode cX10_takeShorter 42 = .ok (.goto (-23), 3) := by decide +kernel
theorem dX10_takeShorter_45 : decode cX10_takeShorter 45 = .ok (.aload_n 0, 1) := by decide +kernel
theorem dX10_takeShorter_46 : decode cX10_takeShorter 46 = .ok (.aload_n 0, 1) := by decide +kernel
theorem dX10_takeShorter_47 : decode cX10_takeShorter 47 = .ok (.getfield 312, 3) := by decide +kernel
theorem dX10_takeShorter_50 : decode cX10_takeShorter 50 = .ok (.putfield 111, 3) := by decide +kernel
theorem dX10_takeShorter_53 : decode cX10_takeShorter 53 = .ok (.aload_n 0, 1) := by decide +kernel
theorem dX10_takeShorter_54 : decode cX10_takeShorter 54 = .ok (.sipush 150, 3) := by decide +kernel
theorem dX10_takeShorter_57 : decode cX10_takeShorter 57 = .ok (.invokevirtual 201, 3) := by decide +kernel
theorem dX10_takeShorter_60 : decode cX10_takeShorter 60 = .ok (.aload_n 0, 1) := by decide +kernel
theorem dX10_takeShorter_61 : decode cX10_takeShorter 61 = .ok (.invokevirtual 213, 3) := by decide +kernel
theorem dX10_takeShorter_64 : decode cX10_takeShorter 64 = .ok (.aload_n 0, 1) := by decide +kernel
theorem dX10_takeShorter_65 : decode cX10_takeShorter 65 = .ok (.invokevirtual 216, 3) := by decide +kernel
theorem dX10_takeShorter_68 : decode cX10_takeShorter 68 = .ok (.aload_n 0, 1) := by decide +kernel
theorem dX10_takeShorter_69 : decode cX10_takeShorter 69 = .ok (.getfield 188, 3) := by decide +kernel
theorem dX10_takeShorter_72 : decode cX10_takeShorter 72 = .ok (.ireturn, 1) := by decide +kernel
end
section
theorem dJ6_bitCount_0f7a4_0 : decode cJ6_bitCount_0f7a4 0 = .ok (.iload_n 0, 1) := by decide +kernel
theorem dJ6_bitCount_0f7a4_1 : decode cJ6_bitCount_0f7a4 1 = .ok (.iload_n 0, 1) := by decide +kernel
theorem dJ6_bitCount_0f7a4_2 : decode cJ6_bitCount_0f7a4 2 = .ok (.iconst 1, 1) := by decide +kernel
theorem dJ6_bitCount_0f7a4_3 : decode cJ6_bitCount_0f7a4 3 = .ok (.iushr, 1) := by decide +kernel
theorem dJ6_bitCount_0f7a4_4 : decode cJ6_bitCount_0f7a4 4 = .ok (.ldc_w 265, 3) := by decide +kernel
theorem dJ6_bitCount_0f7a4_7 : decode cJ6_bitCount_0f7a4 7 = .ok (.iand, 1) := by decide +kernel
theorem dJ6_bitCount_0f7a4_8 : decode cJ6_bitCount_0f7a4 8 = .ok (.isub, 1) := by decide +kernel
theorem dJ6_bitCount_0f7a4_9 : decode cJ6_bitCount_0f7a4 9 = .ok (.istore_n 0, 1) := by decide +kernel
theorem dJ6_bitCount_0f7a4_10 : decode cJ6_bitCount_0f7a4 10 = .ok (.iload_n 0, 1) := by decide +kernel
theorem dJ6_bitCount_0f7a4_11 : decode cJ6_bitCount_0f7a4 11 = .ok (.ldc_w 266, 3) := by decide +kernel
theorem dJ6_bitCount_0f7a4_14 : decode cJ6_bitCount_0f7a4 14 = .ok (.iand, 1) := by decide +kernel
theorem dJ6_bitCount_0f7a4_15 : decode cJ6_bitCount_0f7a4 15 = .ok (.iload_n 0, 1) := by decide +kernel
theorem dJ6_bitCount_0f7a4_16 : decode cJ6_bitCount_0f7a4 16 = .ok (.iconst 2, 1) := by decide +kernel
theorem dJ6_bitCount_0f7a4_17 : decode cJ6_bitCount_0f7a4 17 = .ok (.iushr, 1) := by decide +kernel
theorem dJ6_bitCount_0f7a4_18 : decode cJ6_bitCount_0f7a4 18 = .ok (.ldc_w 266, 3) := by decide +kernel
theorem dJ6_bitCount_0f7a4_21 : decode cJ6_bitCount_0f7a4 21 = .ok (.iand, 1) := by decide +kernel
theorem dJ6_bitCount_0f7a4_22 : decode cJ6_bitCount_0f7a4 22 = .ok (.iadd, 1) := by decide +kernel
theorem dJ6_bitCount_0f7a4_23 : decode cJ6_bitCount_0f7a4 23 = .ok (.istore_n 0, 1) := by decide +kernel
theorem dJ6_bitCount_0f7a4_24 : decode cJ6_bitCount_0f7a4 24 = .ok (.iload_n 0, 1) := by decide +kernel
theorem dJ6_bitCount_0f7a4_25 : decode cJ6_bitCount_0f7a4 25 = .ok (.iload_n 0, 1) := by decide +kernel
theorem dJ6_bitCount_0f7a4_26 : decode cJ6_bitCount_0f7a4 26 = .ok (.iconst 4, 1) := by decide +kernel
theorem dJ6_bitCount_0f7a4_27 : decode cJ6_bitCount_0f7a4 27 = .ok (.iushr, 1) := by decide +kernel
theorem dJ6_bitCount_0f7a4_28 : decode cJ6_bitCount_0f7a4 28 = .ok (.iadd, 1) := by decide +kernel
theorem dJ6_bitCount_0f7a4_29 : decode cJ6_bitCount_0f7a4 29 = .ok (.ldc_w 267, 3) := by decide +kernel
theorem dJ6_bitCount_0f7a4_32 : decode cJ6_bitCount_0f7a4 32 = .ok (.iand, 1) := by decide +kernel
theorem dJ6_bitCount_0f7a4_33 : decode cJ6_bitCount_0f7a4 33 = .ok (.istore_n 0, 1) := by decide +kernel
theorem dJ6_bitCount_0f7a4_34 : decode cJ6_bitCount_0f7a4 34 = .ok (.iload_n 0, 1) := by decide +kernel
theorem dJ6_bitCount_0f7a4_35 : decode cJ6_bitCount_0f7a4 35 = .ok (.iload_n 0, 1) := by decide +kernel
theorem dJ6_bitCount_0f7a4_36 : decode cJ6_bitCount_0f7a4 36 = .ok (.bipush 8, 2) := by decide +kernel
theorem dJ6_bitCount_0f7a4_38 : decode cJ6_bitCount_0f7a4 38 = .ok (.iushr, 1) := by decide +kernel
theorem dJ6_bitCount_0f7a4_39 : decode cJ6_bitCount_0f7a4 39 = .ok (.iadd, 1) := by decide +kernel
theorem dJ6_bitCount_0f7a4_40 : decode cJ6_bitCount_0f7a4 40 = .ok (.istore_n 0, 1) := by decide +kernel
theorem dJ6_bitCount_0f7a4_41 : decode cJ6_bitCount_0f7a4 41 = .ok (.iload_n 0, 1) := by decide +kernel
theorem dJ6_bitCount_0f7a4_42 : decode cJ6_bitCount_0f7a4 42 = .ok (.iload_n 0, 1) := by decide +kernel
theorem dJ6_bitCount_0f7a4_43 : decode cJ6_bitCount_0f7a4 43 = .ok (.bipush 16, 2) := by decide +kernel
theorem dJ6_bitCount_0f7a4_45 : decode cJ6_bitCount_0f7a4 45 = .ok (.iushr, 1) := by decide +kernel
theorem dJ6_bitCount_0f7a4_46 : decode cJ6_bitCount_0f7a4 46 = .ok (.iadd, 1) := by decide +kernel
theorem dJ6_bitCount_0f7a4_47 : decode cJ6_bitCount_0f7a4 47 = .ok (.istore_n 0, 1) := by decide +kernel
theorem dJ6_bitCount_0f7a4_48 : decode cJ6_bitCount_0f7a4 48 = .ok (.iload_n 0, 1) := by decide +kernel
theorem dJ6_bitCount_0f7a4_49 : decode cJ6_bitCount_0f7a4 49 = .ok (.bipush 63, 2) := by decide +kernel
theorem dJ6_bitCount_0f7a4_51 : decode cJ6_bitCount_0f7a4 51 = .ok (.iand, 1) := by decide +kernel
theorem dJ6_bitCount_0f7a4_52 : decode cJ6_bitCount_0f7a4 52 = .ok (.ireturn, 1) := by decide +kernel
theorem dJ9_abs_0f7a4_0 : decode cJ9_abs_0f7a4 0 = .ok (.iload_n 0, 1) := by decide +kernel
theorem dJ9_abs_0f7a4_1 : decode cJ9_abs_0f7a4 1 = .ok (.ifCond .ge 8, 3) := by decide +kernel
theorem dJ9_abs_0f7a4_4 : decode cJ9_abs_0f7a4 4 = .ok (.iload_n 0, 1) := by decide +kernel
theorem dJ9_abs_0f7a4_5 : decode cJ9_abs_0f7a4 5 = .ok (.ineg, 1) := by decide +kernel
theorem dJ9_abs_0f7a4_6 : decode cJ9_abs_0f7a4 6 = .ok (.goto 4, 3) := by decide +kernel
theorem dJ9_abs_0f7a4_9 : decode cJ9_abs_0f7a4 9 = .ok (.iload_n 0, 1) := by decide +kernel
theorem dJ9_abs_0f7a4_10 : decode cJ9_abs_0f7a4 10 = .ok (.ireturn, 1) := by decide +kernel
theorem dJ9_max_7cf53_0 : decode cJ9_max_7cf53 0 = .ok (.iload_n 0, 1) := by decide +kernel
theorem dJ9_max_7cf53_1 : decode cJ9_max_7cf53 1 = .ok (.iload_n 1, 1) := by decide +kernel
theorem dJ9_max_7cf53_2 : decode cJ9_max_7cf53 2 = .ok (.if_icmp .lt 7, 3) := by decide +kernel
theorem dJ9_max_7cf53_5 : decode cJ9_max_7cf53 5 = .ok (.iload_n 0, 1) := by decide +kernel
theorem dJ9_max_7cf53_6 : decode cJ9_max_7cf53 6 = .ok (.goto 4, 3) := by decide +kernel
theorem dJ9_max_7cf53_9 : decode cJ9_max_7cf53 9 = .ok (.iload_n 1, 1) := by decide +kernel
theorem dJ9_max_7cf53_10 : decode cJ9_max_7cf53 10 = .ok (.ireturn, 1) := by decide +kernel
theorem dJ9_min_7cf53_0 : decode cJ9_min_7cf53 0 = .ok (.iload_n 0, 1) := by decide +kernel
theorem dJ9_min_7cf53_1 : decode cJ9_min_7cf53 1 = .ok (.iload_n 1, 1) := by decide +kernel
theorem dJ9_min_7cf53_2 : decode cJ9_min_7cf53 2 = .ok (.if_icmp .gt 7, 3) := by decide +kernel
theorem dJ9_min_7cf53_5 : decode cJ9_min_7cf53 5 = .ok (.iload_n 0, 1) := by decide +kernel
theorem dJ9_min_7cf53_6 : decode cJ9_min_7cf53 6 = .ok (.goto 4, 3) := by decide +kernel
theorem dJ9_min_7cf53_9 : decode cJ9_min_7cf53 9 = .ok (.iload_n 1, 1) := by decide +kernel
theorem dJ9_min_7cf53_10 : decode cJ9_min_7cf53 10 = .ok (.ireturn, 1) := by decide +kernel
theorem dJ0_length_8abf5_0 : decode cJ0_length_8abf5 0 = .ok (.aload_n 0, 1) := by decide +kernel
theorem dJ0_length_8abf5_1 : decode cJ0_length_8abf5 1 = .ok (.getfield 9, 3) := by decide +kernel
theorem dJ0_length_8abf5_4 : decode cJ0_length_8abf5 4 = .ok (.arraylength, 1) := by decide +kernel
theorem dJ0_length_8abf5_5 : decode cJ0_length_8abf5 5 = .ok (.aload_n 0, 1) := by decide +kernel
theorem dJ0_length_8abf5_6 : decode cJ0_length_8abf5 6 = .ok (.invokevirtual 335, 3) := by decide +kernel
theorem dJ0_length_8abf5_9 : decode cJ0_length_8abf5 9 = .ok (.ishr, 1) := by decide +kernel
theorem dJ0_length_8abf5_10 : decode cJ0_length_8abf5 10 = .ok (.ireturn, 1) := by decide +kernel
theorem dJ0_charAt_5068e_0 : decode cJ0_charAt_5068e 0 = .ok (.aload_n 0, 1) := by decide +kernel
theorem dJ0_charAt_5068e_1 : decode cJ0_charAt_5068e 1 = .ok (.invokevirtual 492, 3) := by decide +kernel
theorem dJ0_charAt_5068e_4 : decode cJ0_charAt_5068e 4 = .ok (.ifCond .eq 12, 3) := by decide +kernel
theorem dJ0_charAt_5068e_7 : decode cJ0_charAt_5068e 7 = .ok (.aload_n 0, 1) := by decide +kernel
theorem dJ0_charAt_5068e_8 : decode cJ0_charAt_5068e 8 = .ok (.getfield 9, 3) := by decide +kernel
theorem dJ0_charAt_5068e_11 : decode cJ0_charAt_5068e 11 = .ok (.iload_n 1, 1) := by decide +kernel
theorem dJ0_charAt_5068e_12 : decode cJ0_charAt_5068e 12 = .ok (.invokestatic 495, 3) := by decide +kernel
theorem dJ0_charAt_5068e_15 : decode cJ0_charAt_5068e 15 = .ok (.ireturn, 1) := by decide +kernel
theorem dJ0_charAt_5068e_16 : decode cJ0_charAt_5068e 16 = .ok (.aload_n 0, 1) := by decide +kernel
theorem dJ0_charAt_5068e_17 : decode cJ0_charAt_5068e 17 = .ok (.getfield 9, 3) := by decide +kernel
theorem dJ0_charAt_5068e_20 : decode cJ0_charAt_5068e 20 = .ok (.iload_n 1, 1) := by decide +kernel
theorem dJ0_charAt_5068e_21 : decode cJ0_charAt_5068e 21 = .ok (.invokestatic 498, 3) := by decide +kernel
theorem dJ0_charAt_5068e_24 : decode cJ0_charAt_5068e 24 = .ok (.ireturn, 1) := by decide +kernel
theorem dJ0_coder_7d493_0 : decode cJ0_coder_7d493 0 = .ok (.getstatic 38, 3) := by decide +kernel
theorem dJ0_coder_7d493_3 : decode cJ0_coder_7d493 3 = .ok (.ifCond .eq 10, 3) := by decide +kernel
theorem dJ0_coder_7d493_6 : decode cJ0_coder_7d493 6 = .ok (.aload_n 0, 1) := by decide +kernel
theorem dJ0_coder_7d493_7 : decode cJ0_coder_7d493 7 = .ok (.getfield 15, 3) := by decide +kernel
theorem dJ0_coder_7d493_10 : decode cJ0_coder_7d493 10 = .ok (.goto 4, 3) := by decide +kernel
theorem dJ0_coder_7d493_13 : decode cJ0_coder_7d493 13 = .ok (.iconst 1, 1) := by decide +kernel
theorem dJ0_coder_7d493_14 : decode cJ0_coder_7d493 14 = .ok (.ireturn, 1) := by decide +kernel
theorem dJ0_isLatin1_aae02_0 : decode cJ0_isLatin1_aae02 0 = .ok (.getstatic 38, 3) := by decide +kernel
theorem dJ0_isLatin1_aae02_3 : decode cJ0_isLatin1_aae02 3 = .ok (.ifCond .eq 14, 3) := by decide +kernel
theorem dJ0_isLatin1_aae02_6 : decode cJ0_isLatin1_aae02 6 = .ok (.aload_n 0, 1) := by decide +kernel
theorem dJ0_isLatin1_aae02_7 : decode cJ0_isLatin1_aae02 7 = .ok (.getfield 15, 3) := by decide +kernel
theorem dJ0_isLatin1_aae02_10 : decode cJ0_isLatin1_aae02 10 = .ok (.ifCond .ne 7, 3) := by decide +kernel
theorem dJ0_isLatin1_aae02_13 : decode cJ0_isLatin1_aae02 13 = .ok (.iconst 1, 1) := by decide +kernel
theorem dJ0_isLatin1_aae02_14 : decode cJ0_isLatin1_aae02 14 = .ok (.goto 4, 3) := by decide +kernel
theorem dJ0_isLatin1_aae02_17 : decode cJ0_isLatin1_aae02 17 = .ok (.iconst 0, 1) := by decide +kernel
theorem dJ0_isLatin1_aae02_18 : decode cJ0_isLatin1_aae02 18 = .ok (.ireturn, 1) := by decide +kernel
theorem dJ0_checkIndex_df160_0 : decode cJ0_checkIndex_df160 0 = .ok (.iload_n 0, 1) := by decide +kernel
theorem dJ0_checkIndex_df160_1 : decode cJ0_checkIndex_df160 1 = .ok (.iload_n 1, 1) := by decide +kernel
theorem dJ0_checkIndex_df160_2 : decode cJ0_checkIndex_df160 2 = .ok (.getstatic 1053, 3) := by decide +kernel
theorem dJ0_checkIndex_df160_5 : decode cJ0_checkIndex_df160 5 = .ok (.invokestatic 1059, 3) := by decide +kernel
theorem dJ0_checkIndex_df160_8 : decode cJ0_checkIndex_df160 8 = .ok (.pop, 1) := by decide +kernel
theorem dJ0_checkIndex_df160_9 : decode cJ0_checkIndex_df160 9 = .ok (.return_, 1) := by decide +kernel
theorem dJ1_charAt_3b067_0 : decode cJ1_charAt_3b067 0 = .ok (.iload_n 1, 1) := by decide +kernel
theorem dJ1_charAt_3b067_1 : decode cJ1_charAt_3b067 1 = .ok (.aload_n 0, 1) := by decide +kernel
theorem dJ1_charAt_3b067_2 : decode cJ1_charAt_3b067 2 = .ok (.arraylength, 1) := by decide +kernel
theorem dJ1_charAt_3b067_3 : decode cJ1_charAt_3b067 3 = .ok (.invokestatic 9, 3) := by decide +kernel
theorem dJ1_charAt_3b067_6 : decode cJ1_charAt_3b067 6 = .ok (.aload_n 0, 1) := by decide +kernel
theorem dJ1_charAt_3b067_7 : decode cJ1_charAt_3b067 7 = .ok (.iload_n 1, 1) := by decide +kernel
theorem dJ1_charAt_3b067_8 : decode cJ1_charAt_3b067 8 = .ok (.baload, 1) := by decide +kernel
theorem dJ1_charAt_3b067_9 : decode cJ1_charAt_3b067 9 = .ok (.sipush 255, 3) := by decide +kernel
theorem dJ1_charAt_3b067_12 : decode cJ1_charAt_3b067 12 = .ok (.iand, 1) := by decide +kernel
theorem dJ1_charAt_3b067_13 : decode cJ1_charAt_3b067 13 = .ok (.i2c, 1) := by decide +kernel
theorem dJ1_charAt_3b067_14 : decode cJ1_charAt_3b067 14 = .ok (.ireturn, 1) := by decide +kernel
theorem dJ2_getChar_3b067_0 : decode cJ2_getChar_3b067 0 = .ok (.getstatic 44, 3) := by decide +kernel
theorem dJ2_getChar_3b067_3 : decode cJ2_getChar_3b067 3 = .ok (.ifCond .ne 25, 3) := by decide +kernel
theorem dJ2_getChar_3b067_6 : decode cJ2_getChar_3b067 6 = .ok (.iload_n 1, 1) := by decide +kernel
theorem dJ2_getChar_3b067_7 : decode cJ2_getChar_3b067 7 = .ok (.ifCond .lt 11, 3) := by decide +kernel
theorem dJ2_getChar_3b067_10 : decode cJ2_getChar_3b067 10 = .ok (.iload_n 1, 1) := by decide +kernel
theorem dJ2_getChar_3b067_11 : decode cJ2_getChar_3b067 11 = .ok (.aload_n 0, 1) := by decide +kernel
theorem dJ2_getChar_3b067_12 : decode cJ2_getChar_3b067 12 = .ok (.invokestatic 48, 3) := by decide +kernel
theorem dJ2_getChar_3b067_15 : decode cJ2_getChar_3b067 15 = .ok (.if_icmp .lt 13, 3) := by decide +kernel
theorem dJ2_getChar_3b067_18 : decode cJ2_getChar_3b067 18 = .ok (.new 52, 3) := by decide +kernel
theorem dJ2_getChar_3b067_21 : decode cJ2_getChar_3b067 21 = .ok (.dup, 1) := by decide +kernel
theorem dJ2_getChar_3b067_22 : decode cJ2_getChar_3b067 22 = .ok (.ldc 54, 2) := by decide +kernel
theorem dJ2_getChar_3b067_24 : decode cJ2_getChar_3b067 24 = .ok (.invokespecial 56, 3) := by decide +kernel
theorem dJ2_getChar_3b067_27 : decode cJ2_getChar_3b067 27 = .ok (.athrow, 1) := by decide +kernel
theorem dJ2_getChar_3b067_28 : decode cJ2_getChar_3b067 28 = .ok (.iload_n 1, 1) := by decide +kernel
theorem dJ2_getChar_3b067_29 : decode cJ2_getChar_3b067 29 = .ok (.iconst 1, 1) := by decide +kernel
theorem dJ2_getChar_3b067_30 : decode cJ2_getChar_3b067 30 = .ok (.ishl, 1) := by decide +kernel
theorem dJ2_getChar_3b067_31 : decode cJ2_getChar_3b067 31 = .ok (.istore_n 1, 1) := by decide +kernel
theorem dJ2_getChar_3b067_32 : decode cJ2_getChar_3b067 32 = .ok (.aload_n 0, 1) := by decide +kernel
theorem dJ2_getChar_3b067_33 : decode cJ2_getChar_3b067 33 = .ok (.iload_n 1, 1) := by decide +kernel
theorem dJ2_getChar_3b067_34 : decode cJ2_getChar_3b067 34 = .ok (.iinc 1 1, 3) := by decide +kernel
theorem dJ2_getChar_3b067_37 : decode cJ2_getChar_3b067 37 = .ok (.baload, 1) := by decide +kernel
theorem dJ2_getChar_3b067_38 : decode cJ2_getChar_3b067 38 = .ok (.sipush 255, 3) := by decide +kernel
theorem dJ2_getChar_3b067_41 : decode cJ2_getChar_3b067 41 = .ok (.iand, 1) := by decide +kernel
theorem dJ2_getChar_3b067_42 : decode cJ2_getChar_3b067 42 = .ok (.getstatic 59, 3) := by decide +kernel
theorem dJ2_getChar_3b067_45 : decode cJ2_getChar_3b067 45 = .ok (.ishl, 1) := by decide +kernel
theorem dJ2_getChar_3b067_46 : decode cJ2_getChar_3b067 46 = .ok (.aload_n 0, 1) := by decide +kernel
theorem dJ2_getChar_3b067_47 : decode cJ2_getChar_3b067 47 = .ok (.iload_n 1, 1) := by decide +kernel
theorem dJ2_getChar_3b067_48 : decode cJ2_getChar_3b067 48 = .ok (.baload, 1) := by decide +kernel
theorem dJ2_getChar_3b067_49 : decode cJ2_getChar_3b067 49 = .ok (.sipush 255, 3) := by decide +kernel
theorem dJ2_getChar_3b067_52 : decode cJ2_getChar_3b067 52 = .ok (.iand, 1) := by decide +kernel
theorem dJ2_getChar_3b067_53 : decode cJ2_getChar_3b067 53 = .ok (.getstatic 63, 3) := by decide +kernel
theorem dJ2_getChar_3b067_56 : decode cJ2_getChar_3b067 56 = .ok (.ishl, 1) := by decide +kernel
theorem dJ2_getChar_3b067_57 : decode cJ2_getChar_3b067 57 = .ok (.ior, 1) := by decide +kernel
theorem dJ2_getChar_3b067_58 : decode cJ2_getChar_3b067 58 = .ok (.i2c, 1) := by decide +kernel
theorem dJ2_getChar_3b067_59 : decode cJ2_getChar_3b067 59 = .ok (.ireturn, 1) := by decide +kernel
theorem dJ2_length_9d52b_0 : decode cJ2_length_9d52b 0 = .ok (.aload_n 0, 1) := by decide +kernel
theorem dJ2_length_9d52b_1 : decode cJ2_length_9d52b 1 = .ok (.arraylength, 1) := by decide +kernel
theorem dJ2_length_9d52b_2 : decode cJ2_length_9d52b 2 = .ok (.iconst 1, 1) := by decide +kernel
theorem dJ2_length_9d52b_3 : decode cJ2_length_9d52b 3 = .ok (.ishr, 1) := by decide +kernel
theorem dJ2_length_9d52b_4 : decode cJ2_length_9d52b 4 = .ok (.ireturn, 1) := by decide +kernel
theorem dJ2_charAt_3b067_0 : decode cJ2_charAt_3b067 0 = .ok (.iload_n 1, 1) := by decide +kernel
theorem dJ2_charAt_3b067_1 : decode cJ2_charAt_3b067 1 = .ok (.aload_n 0, 1) := by decide +kernel
theorem dJ2_charAt_3b067_2 : decode cJ2_charAt_3b067 2 = .ok (.invokestatic 67, 3) := by decide +kernel
theorem dJ2_charAt_3b067_5 : decode cJ2_charAt_3b067 5 = .ok (.aload_n 0, 1) := by decide +kernel
theorem dJ2_charAt_3b067_6 : decode cJ2_charAt_3b067 6 = .ok (.iload_n 1, 1) := by decide +kernel
theorem dJ2_charAt_3b067_7 : decode cJ2_charAt_3b067 7 = .ok (.invokestatic 71, 3) := by decide +kernel
theorem dJ2_charAt_3b067_10 : decode cJ2_charAt_3b067 10 = .ok (.ireturn, 1) := by decide +kernel
theorem dJ2_checkIndex_2214a_0 : decode cJ2_checkIndex_2214a 0 = .ok (.iload_n 0, 1) := by decide +kernel
theorem dJ2_checkIndex_2214a_1 : decode cJ2_checkIndex_2214a 1 = .ok (.aload_n 1, 1) := by decide +kernel
theorem dJ2_checkIndex_2214a_2 : decode cJ2_checkIndex_2214a 2 = .ok (.invokestatic 48, 3) := by decide +kernel
theorem dJ2_checkIndex_2214a_5 : decode cJ2_checkIndex_2214a 5 = .ok (.invokestatic 414, 3) := by decide +kernel
theorem dJ2_checkIndex_2214a_8 : decode cJ2_checkIndex_2214a 8 = .ok (.return_, 1) := by decide +kernel
theorem dJ7_fill_53178_0 : decode cJ7_fill_53178 0 = .ok (.iconst 0, 1) := by decide +kernel
theorem dJ7_fill_53178_1 : decode cJ7_fill_53178 1 = .ok (.istore_n 2, 1) := by decide +kernel
theorem dJ7_fill_53178_2 : decode cJ7_fill_53178 2 = .ok (.aload_n 0, 1) := by decide +kernel
theorem dJ7_fill_53178_3 : decode cJ7_fill_53178 3 = .ok (.arraylength, 1) := by decide +kernel
theorem dJ7_fill_53178_4 : decode cJ7_fill_53178 4 = .ok (.istore_n 3, 1) := by decide +kernel
theorem dJ7_fill_53178_5 : decode cJ7_fill_53178 5 = .ok (.iload_n 2, 1) := by decide +kernel
theorem dJ7_fill_53178_6 : decode cJ7_fill_53178 6 = .ok (.iload_n 3, 1) := by decide +kernel
theorem dJ7_fill_53178_7 : decode cJ7_fill_53178 7 = .ok (.if_icmp .ge 13, 3) := by decide +kernel
theorem dJ7_fill_53178_10 : decode cJ7_fill_53178 10 = .ok (.aload_n 0, 1) := by decide +kernel
theorem dJ7_fill_53178_11 : decode cJ7_fill_53178 11 = .ok (.iload_n 2, 1) := by decide +kernel
theorem dJ7_fill_53178_12 : decode cJ7_fill_53178 12 = .ok (.iload_n 1, 1) := by decide +kernel
theorem dJ7_fill_53178_13 : decode cJ7_fill_53178 13 = .ok (.iastore, 1) := by decide +kernel
theorem dJ7_fill_53178_14 : decode cJ7_fill_53178 14 = .ok (.iinc 2 1, 3) := by decide +kernel
theorem dJ7_fill_53178_17 : decode cJ7_fill_53178 17 = .ok (.goto (-12), 3) := by decide +kernel
theorem dJ7_fill_53178_20 : decode cJ7_fill_53178 20 = .ok (.return_, 1) := by decide +kernel
theorem dJ3_checkIndex_8e157_0 : decode cJ3_checkIndex_8e157 0 = .ok (.iload_n 0, 1) := by decide +kernel
theorem dJ3_checkIndex_8e157_1 : decode cJ3_checkIndex_8e157 1 = .ok (.ifCond .lt 8, 3) := by decide +kernel
theorem dJ3_checkIndex_8e157_4 : decode cJ3_checkIndex_8e157 4 = .ok (.iload_n 0, 1) := by decide +kernel
theorem dJ3_checkIndex_8e157_5 : decode cJ3_checkIndex_8e157 5 = .ok (.iload_n 1, 1) := by decide +kernel
theorem dJ3_checkIndex_8e157_6 : decode cJ3_checkIndex_8e157 6 = .ok (.if_icmp .lt 10, 3) := by decide +kernel
theorem dJ3_checkIndex_8e157_9 : decode cJ3_checkIndex_8e157 9 = .ok (.aload_n 2, 1) := by decide +kernel
theorem dJ3_checkIndex_8e157_10 : decode cJ3_checkIndex_8e157 10 = .ok (.iload_n 0, 1) := by decide +kernel
theorem dJ3_checkIndex_8e157_11 : decode cJ3_checkIndex_8e157 11 = .ok (.iload_n 1, 1) := by decide +kernel
theorem dJ3_checkIndex_8e157_12 : decode cJ3_checkIndex_8e157 12 = .ok (.invokestatic 95, 3) := by decide +kernel
theorem dJ3_checkIndex_8e157_15 : decode cJ3_checkIndex_8e157 15 = .ok (.athrow, 1) := by decide +kernel
theorem dJ3_checkIndex_8e157_16 : decode cJ3_checkIndex_8e157 16 = .ok (.iload_n 0, 1) := by decide +kernel
theorem dJ3_checkIndex_8e157_17 : decode cJ3_checkIndex_8e157 17 = .ok (.ireturn, 1) := by decide +kernel
theorem dL_formula_0 : decode cL_formula 0 = .ok (.aload_n 2, 1) := by decide +kernel
theorem dL_formula_1 : decode cL_formula 1 = .ok (.iconst 0, 1) := by decide +kernel
theorem dL_formula_2 : decode cL_formula 2 = .ok (.aload_n 0, 1) := by decide +kernel
theorem dL_formula_3 : decode cL_formula 3 = .ok (.iload_n 1, 1) := by decide +kernel
theorem dL_formula_4 : decode cL_formula 4 = .ok (.invokevirtual 7, 3) := by decide +kernel
theorem dL_formula_7 : decode cL_formula 7 = .ok (.i2l, 1) := by decide +kernel
theorem dL_formula_8 : decode cL_formula 8 = .ok (.lastore, 1) := by decide +kernel
theorem dL_formula_9 : decode cL_formula 9 = .ok (.goto 6, 3) := by decide +kernel
theorem dL_formula_12 : decode cL_formula 12 = .ok (.astore_n 3, 1) := by decide +kernel
theorem dL_formula_13 : decode cL_formula 13 = .ok (.iconst 1, 1) := by decide +kernel
theorem dL_formula_14 : decode cL_formula 14 = .ok (.ireturn, 1) := by decide +kernel
theorem dL_formula_15 : decode cL_formula 15 = .ok (.iconst 0, 1) := by decide +kernel
theorem dL_formula_16 : decode cL_formula 16 = .ok (.ireturn, 1) := by decide +kernel
theorem dL_proof_0 : decode cL_proof 0 = .ok (.aload_n 3, 1) := by decide +kernel
theorem dL_proof_1 : decode cL_proof 1 = .ok (.iconst 0, 1) := by decide +kernel
theorem dL_proof_2 : decode cL_proof 2 = .ok (.aload_n 0, 1) := by decide +kernel
theorem dL_proof_3 : decode cL_proof 3 = .ok (.iload_n 1, 1) := by decide +kernel
theorem dL_proof_4 : decode cL_proof 4 = .ok (.iload_n 2, 1) := by decide +kernel
theorem dL_proof_5 : decode cL_proof 5 = .ok (.invokevirtual 15, 3) := by decide +kernel
theorem dL_proof_8 : decode cL_proof 8 = .ok (.i2l, 1) := by decide +kernel
theorem dL_proof_9 : decode cL_proof 9 = .ok (.lastore, 1) := by decide +kernel
theorem dL_proof_10 : decode cL_proof 10 = .ok (.goto 7, 3) := by decide +kernel
theorem dL_proof_13 : decode cL_proof 13 = .ok (.astore 4, 2) := by decide +kernel
theorem dL_proof_15 : decode cL_proof 15 = .ok (.iconst 1, 1) := by decide +kernel
theorem dL_proof_16 : decode cL_proof 16 = .ok (.ireturn, 1) := by decide +kernel
theorem dL_proof_17 : decode cL_proof 17 = .ok (.iconst 0, 1) := by decide +kernel
theorem dL_proof_18 : decode cL_proof 18 = .ok (.ireturn, 1) := by decide +kernel
theorem dL_fault_0 : decode cL_fault 0 = .ok (.aload_n 2, 1) := by decide +kernel
theorem dL_fault_1 : decode cL_fault 1 = .ok (.iconst 0, 1) := by decide +kernel
theorem dL_fault_2 : decode cL_fault 2 = .ok (.aload_n 0, 1) := by decide +kernel
theorem dL_fault_3 : decode cL_fault 3 = .ok (.iload_n 1, 1) := by decide +kernel
theorem dL_fault_4 : decode cL_fault 4 = .ok (.invokevirtual 19, 3) := by decide +kernel
theorem dL_fault_7 : decode cL_fault 7 = .ok (.i2l, 1) := by decide +kernel
theorem dL_fault_8 : decode cL_fault 8 = .ok (.lastore, 1) := by decide +kernel
theorem dL_fault_9 : decode cL_fault 9 = .ok (.goto 6, 3) := by decide +kernel
theorem dL_fault_12 : decode cL_fault 12 = .ok (.astore_n 3, 1) := by decide +kernel
theorem dL_fault_13 : decode cL_fault 13 = .ok (.iconst 1, 1) := by decide +kernel
theorem dL_fault_14 : decode cL_fault 14 = .ok (.ireturn, 1) := by decide +kernel
theorem dL_fault_15 : decode cL_fault 15 = .ok (.iconst 0, 1) := by decide +kernel
theorem dL_fault_16 : decode cL_fault 16 = .ok (.ireturn, 1) := by decide +kernel
theorem dL_weigh_0 : decode cL_weigh 0 = .ok (.aload 5, 2) := by decide +kernel
theorem dL_weigh_2 : decode cL_weigh 2 = .ok (.iconst 0, 1) := by decide +kernel
theorem dL_weigh_3 : decode cL_weigh 3 = .ok (.aload_n 0, 1) := by decide +kernel
theorem dL_weigh_4 : decode cL_weigh 4 = .ok (.iload_n 1, 1) := by decide +kernel
theorem dL_weigh_5 : decode cL_weigh 5 = .ok (.iload_n 2, 1) := by decide +kernel
theorem dL_weigh_6 : decode cL_weigh 6 = .ok (.iload_n 3, 1) := by decide +kernel
theorem dL_weigh_7 : decode cL_weigh 7 = .ok (.iload 4, 2) := by decide +kernel
theorem dL_weigh_9 : decode cL_weigh 9 = .ok (.invokevirtual 24, 3) := by decide +kernel
theorem dL_weigh_12 : decode cL_weigh 12 = .ok (.i2l, 1) := by decide +kernel
theorem dL_weigh_13 : decode cL_weigh 13 = .ok (.lastore, 1) := by decide +kernel
theorem dL_weigh_14 : decode cL_weigh 14 = .ok (.goto 7, 3) := by decide +kernel
theorem dL_weigh_17 : decode cL_weigh 17 = .ok (.astore 6, 2) := by decide +kernel
theorem dL_weigh_19 : decode cL_weigh 19 = .ok (.iconst 1, 1) := by decide +kernel
theorem dL_weigh_20 : decode cL_weigh 20 = .ok (.ireturn, 1) := by decide +kernel
theorem dL_weigh_21 : decode cL_weigh 21 = .ok (.iconst 0, 1) := by decide +kernel
theorem dL_weigh_22 : decode cL_weigh 22 = .ok (.ireturn, 1) := by decide +kernel
theorem dL_count_0 : decode cL_count 0 = .ok (.aload_n 2, 1) := by decide +kernel
theorem dL_count_1 : decode cL_count 1 = .ok (.iconst 0, 1) := by decide +kernel
theorem dL_count_2 : decode cL_count 2 = .ok (.aload_n 0, 1) := by decide +kernel
theorem dL_count_3 : decode cL_count 3 = .ok (.iload_n 1, 1) := by decide +kernel
theorem dL_count_4 : decode cL_count 4 = .ok (.invokevirtual 28, 3) := by decide +kernel
theorem dL_count_7 : decode cL_count 7 = .ok (.i2l, 1) := by decide +kernel
theorem dL_count_8 : decode cL_count 8 = .ok (.lastore, 1) := by decide +kernel
theorem dL_count_9 : decode cL_count 9 = .ok (.goto 6, 3) := by decide +kernel
theorem dL_count_12 : decode cL_count 12 = .ok (.astore_n 3, 1) := by decide +kernel
theorem dL_count_13 : decode cL_count 13 = .ok (.iconst 1, 1) := by decide +kernel
theorem dL_count_14 : decode cL_count 14 = .ok (.ireturn, 1) := by decide +kernel
theorem dL_count_15 : decode cL_count 15 = .ok (.iconst 0, 1) := by decide +kernel
theorem dL_count_16 : decode cL_count 16 = .ok (.ireturn, 1) := by decide +kernel
theorem dL_clause_0 : decode cL_clause 0 = .ok (.aload_n 3, 1) := by decide +kernel
theorem dL_clause_1 : decode cL_clause 1 = .ok (.iconst 0, 1) := by decide +kernel
theorem dL_clause_2 : decode cL_clause 2 = .ok (.aload_n 0, 1) := by decide +kernel
theorem dL_clause_3 : decode cL_clause 3 = .ok (.iload_n 1, 1) := by decide +kernel
theorem dL_clause_4 : decode cL_clause 4 = .ok (.iload_n 2, 1) := by decide +kernel
theorem dL_clause_5 : decode cL_clause 5 = .ok (.invokevirtual 31, 3) := by decide +kernel
theorem dL_clause_8 : decode cL_clause 8 = .ok (.i2l, 1) := by decide +kernel
theorem dL_clause_9 : decode cL_clause 9 = .ok (.lastore, 1) := by decide +kernel
theorem dL_clause_10 : decode cL_clause 10 = .ok (.goto 7, 3) := by decide +kernel
theorem dL_clause_13 : decode cL_clause 13 = .ok (.astore 4, 2) := by decide +kernel
theorem dL_clause_15 : decode cL_clause 15 = .ok (.iconst 1, 1) := by decide +kernel
theorem dL_clause_16 : decode cL_clause 16 = .ok (.ireturn, 1) := by decide +kernel
theorem dL_clause_17 : decode cL_clause 17 = .ok (.iconst 0, 1) := by decide +kernel
theorem dL_clause_18 : decode cL_clause 18 = .ok (.ireturn, 1) := by decide +kernel
theorem dL_step_0 : decode cL_step 0 = .ok (.aload_n 3, 1) := by decide +kernel
theorem dL_step_1 : decode cL_step 1 = .ok (.iconst 0, 1) := by decide +kernel
theorem dL_step_2 : decode cL_step 2 = .ok (.aload_n 0, 1) := by decide +kernel
theorem dL_step_3 : decode cL_step 3 = .ok (.iload_n 1, 1) := by decide +kernel
theorem dL_step_4 : decode cL_step 4 = .ok (.iload_n 2, 1) := by decide +kernel
theorem dL_step_5 : decode cL_step 5 = .ok (.invokevirtual 35, 3) := by decide +kernel
theorem dL_step_8 : decode cL_step 8 = .ok (.i2l, 1) := by decide +kernel
theorem dL_step_9 : decode cL_step 9 = .ok (.lastore, 1) := by decide +kernel
theorem dL_step_10 : decode cL_step 10 = .ok (.goto 7, 3) := by decide +kernel
theorem dL_step_13 : decode cL_step 13 = .ok (.astore 4, 2) := by decide +kernel
theorem dL_step_15 : decode cL_step 15 = .ok (.iconst 1, 1) := by decide +kernel
theorem dL_step_16 : decode cL_step 16 = .ok (.ireturn, 1) := by decide +kernel
theorem dL_step_17 : decode cL_step 17 = .ok (.iconst 0, 1) := by decide +kernel
theorem dL_step_18 : decode cL_step 18 = .ok (.ireturn, 1) := by decide +kernel
theorem dL_hint_0 : decode cL_hint 0 = .ok (.aload_n 3, 1) := by decide +kernel
theorem dL_hint_1 : decode cL_hint 1 = .ok (.iconst 0, 1) := by decide +kernel
theorem dL_hint_2 : decode cL_hint 2 = .ok (.aload_n 0, 1) := by decide +kernel
theorem dL_hint_3 : decode cL_hint 3 = .ok (.iload_n 1, 1) := by decide +kernel
theorem dL_hint_4 : decode cL_hint 4 = .ok (.iload_n 2, 1) := by decide +kernel
theorem dL_hint_5 : decode cL_hint 5 = .ok (.invokevirtual 38, 3) := by decide +kernel
theorem dL_hint_8 : decode cL_hint 8 = .ok (.i2l, 1) := by decide +kernel
theorem dL_hint_9 : decode cL_hint 9 = .ok (.lastore, 1) := by decide +kernel
theorem dL_hint_10 : decode cL_hint 10 = .ok (.goto 7, 3) := by decide +kernel
theorem dL_hint_13 : decode cL_hint 13 = .ok (.astore 4, 2) := by decide +kernel
theorem dL_hint_15 : decode cL_hint 15 = .ok (.iconst 1, 1) := by decide +kernel
theorem dL_hint_16 : decode cL_hint 16 = .ok (.ireturn, 1) := by decide +kernel
theorem dL_hint_17 : decode cL_hint 17 = .ok (.iconst 0, 1) := by decide +kernel
theorem dL_hint_18 : decode cL_hint 18 = .ok (.ireturn, 1) := by decide +kernel
theorem dL_out_0 : decode cL_out 0 = .ok (.aload_n 2, 1) := by decide +kernel
theorem dL_out_1 : decode cL_out 1 = .ok (.iconst 0, 1) := by decide +kernel
theorem dL_out_2 : decode cL_out 2 = .ok (.aload_n 0, 1) := by decide +kernel
theorem dL_out_3 : decode cL_out 3 = .ok (.iload_n 1, 1) := by decide +kernel
theorem dL_out_4 : decode cL_out 4 = .ok (.invokevirtual 41, 3) := by decide +kernel
theorem dL_out_7 : decode cL_out 7 = .ok (.i2l, 1) := by decide +kernel
theorem dL_out_8 : decode cL_out 8 = .ok (.lastore, 1) := by decide +kernel
theorem dL_out_9 : decode cL_out 9 = .ok (.goto 6, 3) := by decide +kernel
theorem dL_out_12 : decode cL_out 12 = .ok (.astore_n 3, 1) := by decide +kernel
theorem dL_out_13 : decode cL_out 13 = .ok (.iconst 1, 1) := by decide +kernel
theorem dL_out_14 : decode cL_out 14 = .ok (.ireturn, 1) := by decide +kernel
theorem dL_out_15 : decode cL_out 15 = .ok (.iconst 0, 1) := by decide +kernel
theorem dL_out_16 : decode cL_out 16 = .ok (.ireturn, 1) := by decide +kernel
theorem dL_law_0 : decode cL_law 0 = .ok (.new 8, 3) := by decide +kernel
theorem dL_law_3 : decode cL_law 3 = .ok (.dup, 1) := by decide +kernel
theorem dL_law_4 : decode cL_law 4 = .ok (.invokespecial 44, 3) := by decide +kernel
theorem dL_law_7 : decode cL_law 7 = .ok (.astore_n 1, 1) := by decide +kernel
theorem dL_law_8 : decode cL_law 8 = .ok (.new 45, 3) := by decide +kernel
theorem dL_law_11 : decode cL_law 11 = .ok (.dup, 1) := by decide +kernel
theorem dL_law_12 : decode cL_law 12 = .ok (.invokespecial 47, 3) := by decide +kernel
theorem dL_law_15 : decode cL_law 15 = .ok (.astore_n 2, 1) := by decide +kernel
theorem dL_law_16 : decode cL_law 16 = .ok (.iconst 1, 1) := by decide +kernel
theorem dL_law_17 : decode cL_law 17 = .ok (.newarray .long, 2) := by decide +kernel
theorem dL_law_19 : decode cL_law 19 = .ok (.astore_n 3, 1) := by decide +kernel
theorem dL_law_20 : decode cL_law 20 = .ok (.iconst 0, 1) := by decide +kernel
theorem dL_law_21 : decode cL_law 21 = .ok (.istore 4, 2) := by decide +kernel
theorem dL_law_23 : decode cL_law 23 = .ok (.iload 4, 2) := by decide +kernel
theorem dL_law_25 : decode cL_law 25 = .ok (.aload_n 0, 1) := by decide +kernel
theorem dL_law_26 : decode cL_law 26 = .ok (.arraylength, 1) := by decide +kernel
theorem dL_law_27 : decode cL_law 27 = .ok (.bipush 6, 2) := by decide +kernel
theorem dL_law_29 : decode cL_law 29 = .ok (.isub, 1) := by decide +kernel
theorem dL_law_30 : decode cL_law 30 = .ok (.if_icmp .gt 831, 3) := by decide +kernel
theorem dL_law_33 : decode cL_law 33 = .ok (.aload_n 0, 1) := by decide +kernel
theorem dL_law_34 : decode cL_law 34 = .ok (.iload 4, 2) := by decide +kernel
theorem dL_law_36 : decode cL_law 36 = .ok (.iaload, 1) := by decide +kernel
theorem dL_law_37 : decode cL_law 37 = .ok (.bipush 15, 2) := by decide +kernel
theorem dL_law_39 : decode cL_law 39 = .ok (.iand, 1) := by decide +kernel
theorem dL_law_40 : decode cL_law 40 = .ok (.tableswitch 815 0 11 #[64, 137, 193, 277, 333, 473, 529, 597, 665, 733, 746, 802], 64) := by decide +kernel
theorem dL_law_104 : decode cL_law 104 = .ok (.aload_n 1, 1) := by decide +kernel
theorem dL_law_105 : decode cL_law 105 = .ok (.aload_n 0, 1) := by decide +kernel
theorem dL_law_106 : decode cL_law 106 = .ok (.iload 4, 2) := by decide +kernel
theorem dL_law_108 : decode cL_law 108 = .ok (.iconst 1, 1) := by decide +kernel
theorem dL_law_109 : decode cL_law 109 = .ok (.iadd, 1) := by decide +kernel
theorem dL_law_110 : decode cL_law 110 = .ok (.iaload, 1) := by decide +kernel
theorem dL_law_111 : decode cL_law 111 = .ok (.aload_n 0, 1) := by decide +kernel
theorem dL_law_112 : decode cL_law 112 = .ok (.iload 4, 2) := by decide +kernel
theorem dL_law_114 : decode cL_law 114 = .ok (.iconst 2, 1) := by decide +kernel
theorem dL_law_115 : decode cL_law 115 = .ok (.iadd, 1) := by decide +kernel
theorem dL_law_116 : decode cL_law 116 = .ok (.iaload, 1) := by decide +kernel
theorem dL_law_117 : decode cL_law 117 = .ok (.aload_n 0, 1) := by decide +kernel
theorem dL_law_118 : decode cL_law 118 = .ok (.iload 4, 2) := by decide +kernel
theorem dL_law_120 : decode cL_law 120 = .ok (.iconst 3, 1) := by decide +kernel
theorem dL_law_121 : decode cL_law 121 = .ok (.iadd, 1) := by decide +kernel
theorem dL_law_122 : decode cL_law 122 = .ok (.iaload, 1) := by decide +kernel
theorem dL_law_123 : decode cL_law 123 = .ok (.aload_n 0, 1) := by decide +kernel
theorem dL_law_124 : decode cL_law 124 = .ok (.iload 4, 2) := by decide +kernel
theorem dL_law_126 : decode cL_law 126 = .ok (.iconst 4, 1) := by decide +kernel
theorem dL_law_127 : decode cL_law 127 = .ok (.iadd, 1) := by decide +kernel
theorem dL_law_128 : decode cL_law 128 = .ok (.iaload, 1) := by decide +kernel
theorem dL_law_129 : decode cL_law 129 = .ok (.aload_n 0, 1) := by decide +kernel
theorem dL_law_130 : decode cL_law 130 = .ok (.iload 4, 2) := by decide +kernel
theorem dL_law_132 : decode cL_law 132 = .ok (.iconst 5, 1) := by decide +kernel
theorem dL_law_133 : decode cL_law 133 = .ok (.iadd, 1) := by decide +kernel
theorem dL_law_134 : decode cL_law 134 = .ok (.iaload, 1) := by decide +kernel
theorem dL_law_135 : decode cL_law 135 = .ok (.invokevirtual 48, 3) := by decide +kernel
theorem dL_law_138 : decode cL_law 138 = .ok (.aload_n 2, 1) := by decide +kernel
theorem dL_law_139 : decode cL_law 139 = .ok (.aload_n 0, 1) := by decide +kernel
theorem dL_law_140 : decode cL_law 140 = .ok (.iload 4, 2) := by decide +kernel
theorem dL_law_142 : decode cL_law 142 = .ok (.iconst 1, 1) := by decide +kernel
theorem dL_law_143 : decode cL_law 143 = .ok (.iadd, 1) := by decide +kernel
theorem dL_law_144 : decode cL_law 144 = .ok (.iaload, 1) := by decide +kernel
theorem dL_law_145 : decode cL_law 145 = .ok (.aload_n 0, 1) := by decide +kernel
theorem dL_law_146 : decode cL_law 146 = .ok (.iload 4, 2) := by decide +kernel
theorem dL_law_148 : decode cL_law 148 = .ok (.iconst 2, 1) := by decide +kernel
theorem dL_law_149 : decode cL_law 149 = .ok (.iadd, 1) := by decide +kernel
theorem dL_law_150 : decode cL_law 150 = .ok (.iaload, 1) := by decide +kernel
theorem dL_law_151 : decode cL_law 151 = .ok (.aload_n 0, 1) := by decide +kernel
theorem dL_law_152 : decode cL_law 152 = .ok (.iload 4, 2) := by decide +kernel
theorem dL_law_154 : decode cL_law 154 = .ok (.iconst 3, 1) := by decide +kernel
theorem dL_law_155 : decode cL_law 155 = .ok (.iadd, 1) := by decide +kernel
theorem dL_law_156 : decode cL_law 156 = .ok (.iaload, 1) := by decide +kernel
theorem dL_law_157 : decode cL_law 157 = .ok (.aload_n 0, 1) := by decide +kernel
theorem dL_law_158 : decode cL_law 158 = .ok (.iload 4, 2) := by decide +kernel
theorem dL_law_160 : decode cL_law 160 = .ok (.iconst 4, 1) := by decide +kernel
theorem dL_law_161 : decode cL_law 161 = .ok (.iadd, 1) := by decide +kernel
theorem dL_law_162 : decode cL_law 162 = .ok (.iaload, 1) := by decide +kernel
theorem dL_law_163 : decode cL_law 163 = .ok (.aload_n 0, 1) := by decide +kernel
theorem dL_law_164 : decode cL_law 164 = .ok (.iload 4, 2) := by decide +kernel
theorem dL_law_166 : decode cL_law 166 = .ok (.iconst 5, 1) := by decide +kernel
theorem dL_law_167 : decode cL_law 167 = .ok (.iadd, 1) := by decide +kernel
theorem dL_law_168 : decode cL_law 168 = .ok (.iaload, 1) := by decide +kernel
theorem dL_law_169 : decode cL_law 169 = .ok (.invokevirtual 52, 3) := by decide +kernel
theorem dL_law_172 : decode cL_law 172 = .ok (.if_icmp .eq 683, 3) := by decide +kernel
theorem dL_law_175 : decode cL_law 175 = .ok (.iconst 0, 1) := by decide +kernel
theorem dL_law_176 : decode cL_law 176 = .ok (.ireturn, 1) := by decide +kernel
theorem dL_law_177 : decode cL_law 177 = .ok (.aload_n 1, 1) := by decide +kernel
theorem dL_law_178 : decode cL_law 178 = .ok (.aload_n 0, 1) := by decide +kernel
theorem dL_law_179 : decode cL_law 179 = .ok (.iload 4, 2) := by decide +kernel
theorem dL_law_181 : decode cL_law 181 = .ok (.iconst 1, 1) := by decide +kernel
theorem dL_law_182 : decode cL_law 182 = .ok (.iadd, 1) := by decide +kernel
theorem dL_law_183 : decode cL_law 183 = .ok (.iaload, 1) := by decide +kernel
theorem dL_law_184 : decode cL_law 184 = .ok (.aload_n 3, 1) := by decide +kernel
theorem dL_law_185 : decode cL_law 185 = .ok (.invokestatic 53, 3) := by decide +kernel
theorem dL_law_188 : decode cL_law 188 = .ok (.istore 5, 2) := by decide +kernel
theorem dL_law_190 : decode cL_law 190 = .ok (.aload_n 2, 1) := by decide +kernel
theorem dL_law_191 : decode cL_law 191 = .ok (.aload_n 0, 1) := by decide +kernel
theorem dL_law_192 : decode cL_law 192 = .ok (.iload 4, 2) := by decide +kernel
theorem dL_law_194 : decode cL_law 194 = .ok (.iconst 1, 1) := by decide +kernel
theorem dL_law_195 : decode cL_law 195 = .ok (.iadd, 1) := by decide +kernel
theorem dL_law_196 : decode cL_law 196 = .ok (.iaload, 1) := by decide +kernel
theorem dL_law_197 : decode cL_law 197 = .ok (.invokevirtual 58, 3) := by decide +kernel
theorem dL_law_200 : decode cL_law 200 = .ok (.istore 6, 2) := by decide +kernel
theorem dL_law_202 : decode cL_law 202 = .ok (.aload_n 2, 1) := by decide +kernel
theorem dL_law_203 : decode cL_law 203 = .ok (.invokevirtual 59, 3) := by decide +kernel
theorem dL_law_206 : decode cL_law 206 = .ok (.iload 5, 2) := by decide +kernel
theorem dL_law_208 : decode cL_law 208 = .ok (.if_icmp .eq 5, 3) := by decide +kernel
theorem dL_law_211 : decode cL_law 211 = .ok (.iconst 0, 1) := by decide +kernel
theorem dL_law_212 : decode cL_law 212 = .ok (.ireturn, 1) := by decide +kernel
theorem dL_law_213 : decode cL_law 213 = .ok (.iload 5, 2) := by decide +kernel
theorem dL_law_215 : decode cL_law 215 = .ok (.ifCond .ne 15, 3) := by decide +kernel
theorem dL_law_218 : decode cL_law 218 = .ok (.aload_n 3, 1) := by decide +kernel
theorem dL_law_219 : decode cL_law 219 = .ok (.iconst 0, 1) := by decide +kernel
theorem dL_law_220 : decode cL_law 220 = .ok (.laload, 1) := by decide +kernel
theorem dL_law_221 : decode cL_law 221 = .ok (.iload 6, 2) := by decide +kernel
theorem dL_law_223 : decode cL_law 223 = .ok (.i2l, 1) := by decide +kernel
theorem dL_law_224 : decode cL_law 224 = .ok (.lcmp, 1) := by decide +kernel
theorem dL_law_225 : decode cL_law 225 = .ok (.ifCond .eq 5, 3) := by decide +kernel
theorem dL_law_228 : decode cL_law 228 = .ok (.iconst 0, 1) := by decide +kernel
theorem dL_law_229 : decode cL_law 229 = .ok (.ireturn, 1) := by decide +kernel
theorem dL_law_230 : decode cL_law 230 = .ok (.goto 625, 3) := by decide +kernel
theorem dL_law_233 : decode cL_law 233 = .ok (.aload_n 1, 1) := by decide +kernel
theorem dL_law_234 : decode cL_law 234 = .ok (.aload_n 0, 1) := by decide +kernel
theorem dL_law_235 : decode cL_law 235 = .ok (.iload 4, 2) := by decide +kernel
theorem dL_law_237 : decode cL_law 237 = .ok (.iconst 1, 1) := by decide +kernel
theorem dL_law_238 : decode cL_law 238 = .ok (.iadd, 1) := by decide +kernel
theorem dL_law_239 : decode cL_law 239 = .ok (.iaload, 1) := by decide +kernel
theorem dL_law_240 : decode cL_law 240 = .ok (.aload_n 0, 1) := by decide +kernel
theorem dL_law_241 : decode cL_law 241 = .ok (.iload 4, 2) := by decide +kernel
theorem dL_law_243 : decode cL_law 243 = .ok (.iconst 2, 1) := by decide +kernel
theorem dL_law_244 : decode cL_law 244 = .ok (.iadd, 1) := by decide +kernel
theorem dL_law_245 : decode cL_law 245 = .ok (.iaload, 1) := by decide +kernel
theorem dL_law_246 : decode cL_law 246 = .ok (.ifCond .eq 7, 3) := by decide +kernel
theorem dL_law_249 : decode cL_law 249 = .ok (.iconst 1, 1) := by decide +kernel
theorem dL_law_250 : decode cL_law 250 = .ok (.goto 4, 3) := by decide +kernel
theorem dL_law_253 : decode cL_law 253 = .ok (.iconst 0, 1) := by decide +kernel
theorem dL_law_254 : decode cL_law 254 = .ok (.aload_n 3, 1) := by decide +kernel
theorem dL_law_255 : decode cL_law 255 = .ok (.invokestatic 63, 3) := by decide +kernel
theorem dL_law_258 : decode cL_law 258 = .ok (.istore 5, 2) := by decide +kernel
theorem dL_law_260 : decode cL_law 260 = .ok (.aload_n 2, 1) := by decide +kernel
theorem dL_law_261 : decode cL_law 261 = .ok (.aload_n 0, 1) := by decide +kernel
theorem dL_law_262 : decode cL_law 262 = .ok (.iload 4, 2) := by decide +kernel
theorem dL_law_264 : decode cL_law 264 = .ok (.iconst 1, 1) := by decide +kernel
theorem dL_law_265 : decode cL_law 265 = .ok (.iadd, 1) := by decide +kernel
theorem dL_law_266 : decode cL_law 266 = .ok (.iaload, 1) := by decide +kernel
theorem dL_law_267 : decode cL_law 267 = .ok (.aload_n 0, 1) := by decide +kernel
theorem dL_law_268 : decode cL_law 268 = .ok (.iload 4, 2) := by decide +kernel
theorem dL_law_270 : decode cL_law 270 = .ok (.iconst 2, 1) := by decide +kernel
theorem dL_law_271 : decode cL_law 271 = .ok (.iadd, 1) := by decide +kernel
theorem dL_law_272 : decode cL_law 272 = .ok (.iaload, 1) := by decide +kernel
theorem dL_law_273 : decode cL_law 273 = .ok (.ifCond .eq 7, 3) := by decide +kernel
theorem dL_law_276 : decode cL_law 276 = .ok (.iconst 1, 1) := by decide +kernel
theorem dL_law_277 : decode cL_law 277 = .ok (.goto 4, 3) := by decide +kernel
theorem dL_law_280 : decode cL_law 280 = .ok (.iconst 0, 1) := by decide +kernel
theorem dL_law_281 : decode cL_law 281 = .ok (.invokevirtual 66, 3) := by decide +kernel
theorem dL_law_284 : decode cL_law 284 = .ok (.istore 6, 2) := by decide +kernel
theorem dL_law_286 : decode cL_law 286 = .ok (.aload_n 2, 1) := by decide +kernel
theorem dL_law_287 : decode cL_law 287 = .ok (.invokevirtual 59, 3) := by decide +kernel
theorem dL_law_290 : decode cL_law 290 = .ok (.iload 5, 2) := by decide +kernel
theorem dL_law_292 : decode cL_law 292 = .ok (.if_icmp .eq 5, 3) := by decide +kernel
theorem dL_law_295 : decode cL_law 295 = .ok (.iconst 0, 1) := by decide +kernel
theorem dL_law_296 : decode cL_law 296 = .ok (.ireturn, 1) := by decide +kernel
theorem dL_law_297 : decode cL_law 297 = .ok (.iload 5, 2) := by decide +kernel
theorem dL_law_299 : decode cL_law 299 = .ok (.ifCond .ne 15, 3) := by decide +kernel
theorem dL_law_302 : decode cL_law 302 = .ok (.aload_n 3, 1) := by decide +kernel
theorem dL_law_303 : decode cL_law 303 = .ok (.iconst 0, 1) := by decide +kernel
theorem dL_law_304 : decode cL_law 304 = .ok (.laload, 1) := by decide +kernel
theorem dL_law_305 : decode cL_law 305 = .ok (.iload 6, 2) := by decide +kernel
theorem dL_law_307 : decode cL_law 307 = .ok (.i2l, 1) := by decide +kernel
theorem dL_law_308 : decode cL_law 308 = .ok (.lcmp, 1) := by decide +kernel
theorem dL_law_309 : decode cL_law 309 = .ok (.ifCond .eq 5, 3) := by decide +kernel
theorem dL_law_312 : decode cL_law 312 = .ok (.iconst 0, 1) := by decide +kernel
theorem dL_law_313 : decode cL_law 313 = .ok (.ireturn, 1) := by decide +kernel
theorem dL_law_314 : decode cL_law 314 = .ok (.goto 541, 3) := by decide +kernel
theorem dL_law_317 : decode cL_law 317 = .ok (.aload_n 1, 1) := by decide +kernel
theorem dL_law_318 : decode cL_law 318 = .ok (.aload_n 0, 1) := by decide +kernel
theorem dL_law_319 : decode cL_law 319 = .ok (.iload 4, 2) := by decide +kernel
theorem dL_law_321 : decode cL_law 321 = .ok (.iconst 1, 1) := by decide +kernel
theorem dL_law_322 : decode cL_law 322 = .ok (.iadd, 1) := by decide +kernel
theorem dL_law_323 : decode cL_law 323 = .ok (.iaload, 1) := by decide +kernel
theorem dL_law_324 : decode cL_law 324 = .ok (.aload_n 3, 1) := by decide +kernel
theorem dL_law_325 : decode cL_law 325 = .ok (.invokestatic 67, 3) := by decide +kernel
theorem dL_law_328 : decode cL_law 328 = .ok (.istore 5, 2) := by decide +kernel
theorem dL_law_330 : decode cL_law 330 = .ok (.aload_n 2, 1) := by decide +kernel
theorem dL_law_331 : decode cL_law 331 = .ok (.aload_n 0, 1) := by decide +kernel
theorem dL_law_332 : decode cL_law 332 = .ok (.iload 4, 2) := by decide +kernel
theorem dL_law_334 : decode cL_law 334 = .ok (.iconst 1, 1) := by decide +kernel
theorem dL_law_335 : decode cL_law 335 = .ok (.iadd, 1) := by decide +kernel
theorem dL_law_336 : decode cL_law 336 = .ok (.iaload, 1) := by decide +kernel
theorem dL_law_337 : decode cL_law 337 = .ok (.invokevirtual 69, 3) := by decide +kernel
theorem dL_law_340 : decode cL_law 340 = .ok (.istore 6, 2) := by decide +kernel
theorem dL_law_342 : decode cL_law 342 = .ok (.aload_n 2, 1) := by decide +kernel
theorem dL_law_343 : decode cL_law 343 = .ok (.invokevirtual 59, 3) := by decide +kernel
theorem dL_law_346 : decode cL_law 346 = .ok (.iload 5, 2) := by decide +kernel
theorem dL_law_348 : decode cL_law 348 = .ok (.if_icmp .eq 5, 3) := by decide +kernel
theorem dL_law_351 : decode cL_law 351 = .ok (.iconst 0, 1) := by decide +kernel
theorem dL_law_352 : decode cL_law 352 = .ok (.ireturn, 1) := by decide +kernel
theorem dL_law_353 : decode cL_law 353 = .ok (.iload 5, 2) := by decide +kernel
theorem dL_law_355 : decode cL_law 355 = .ok (.ifCond .ne 15, 3) := by decide +kernel
theorem dL_law_358 : decode cL_law 358 = .ok (.aload_n 3, 1) := by decide +kernel
theorem dL_law_359 : decode cL_law 359 = .ok (.iconst 0, 1) := by decide +kernel
theorem dL_law_360 : decode cL_law 360 = .ok (.laload, 1) := by decide +kernel
theorem dL_law_361 : decode cL_law 361 = .ok (.iload 6, 2) := by decide +kernel
theorem dL_law_363 : decode cL_law 363 = .ok (.i2l, 1) := by decide +kernel
theorem dL_law_364 : decode cL_law 364 = .ok (.lcmp, 1) := by decide +kernel
theorem dL_law_365 : decode cL_law 365 = .ok (.ifCond .eq 5, 3) := by decide +kernel
theorem dL_law_368 : decode cL_law 368 = .ok (.iconst 0, 1) := by decide +kernel
theorem dL_law_369 : decode cL_law 369 = .ok (.ireturn, 1) := by decide +kernel
theorem dL_law_370 : decode cL_law 370 = .ok (.goto 485, 3) := by decide +kernel
theorem dL_law_373 : decode cL_law 373 = .ok (.aload_n 1, 1) := by decide +kernel
theorem dL_law_374 : decode cL_law 374 = .ok (.aload_n 0, 1) := by decide +kernel
theorem dL_law_375 : decode cL_law 375 = .ok (.iload 4, 2) := by decide +kernel
theorem dL_law_377 : decode cL_law 377 = .ok (.iconst 1, 1) := by decide +kernel
theorem dL_law_378 : decode cL_law 378 = .ok (.iadd, 1) := by decide +kernel
theorem dL_law_379 : decode cL_law 379 = .ok (.iaload, 1) := by decide +kernel
theorem dL_law_380 : decode cL_law 380 = .ok (.ifCond .eq 7, 3) := by decide +kernel
theorem dL_law_383 : decode cL_law 383 = .ok (.iconst 1, 1) := by decide +kernel
theorem dL_law_384 : decode cL_law 384 = .ok (.goto 4, 3) := by decide +kernel
theorem dL_law_387 : decode cL_law 387 = .ok (.iconst 0, 1) := by decide +kernel
theorem dL_law_388 : decode cL_law 388 = .ok (.aload_n 0, 1) := by decide +kernel
theorem dL_law_389 : decode cL_law 389 = .ok (.iload 4, 2) := by decide +kernel
theorem dL_law_391 : decode cL_law 391 = .ok (.iconst 2, 1) := by decide +kernel
theorem dL_law_392 : decode cL_law 392 = .ok (.iadd, 1) := by decide +kernel
theorem dL_law_393 : decode cL_law 393 = .ok (.iaload, 1) := by decide +kernel
theorem dL_law_394 : decode cL_law 394 = .ok (.ifCond .eq 7, 3) := by decide +kernel
theorem dL_law_397 : decode cL_law 397 = .ok (.iconst 1, 1) := by decide +kernel
theorem dL_law_398 : decode cL_law 398 = .ok (.goto 4, 3) := by decide +kernel
theorem dL_law_401 : decode cL_law 401 = .ok (.iconst 0, 1) := by decide +kernel
theorem dL_law_402 : decode cL_law 402 = .ok (.aload_n 0, 1) := by decide +kernel
theorem dL_law_403 : decode cL_law 403 = .ok (.iload 4, 2) := by decide +kernel
theorem dL_law_405 : decode cL_law 405 = .ok (.iconst 3, 1) := by decide +kernel
theorem dL_law_406 : decode cL_law 406 = .ok (.iadd, 1) := by decide +kernel
theorem dL_law_407 : decode cL_law 407 = .ok (.iaload, 1) := by decide +kernel
theorem dL_law_408 : decode cL_law 408 = .ok (.ifCond .eq 7, 3) := by decide +kernel
theorem dL_law_411 : decode cL_law 411 = .ok (.iconst 1, 1) := by decide +kernel
theorem dL_law_412 : decode cL_law 412 = .ok (.goto 4, 3) := by decide +kernel
theorem dL_law_415 : decode cL_law 415 = .ok (.iconst 0, 1) := by decide +kernel
theorem dL_law_416 : decode cL_law 416 = .ok (.aload_n 0, 1) := by decide +kernel
theorem dL_law_417 : decode cL_law 417 = .ok (.iload 4, 2) := by decide +kernel
theorem dL_law_419 : decode cL_law 419 = .ok (.iconst 4, 1) := by decide +kernel
theorem dL_law_420 : decode cL_law 420 = .ok (.iadd, 1) := by decide +kernel
theorem dL_law_421 : decode cL_law 421 = .ok (.iaload, 1) := by decide +kernel
theorem dL_law_422 : decode cL_law 422 = .ok (.aload_n 3, 1) := by decide +kernel
theorem dL_law_423 : decode cL_law 423 = .ok (.invokestatic 70, 3) := by decide +kernel
theorem dL_law_426 : decode cL_law 426 = .ok (.istore 5, 2) := by decide +kernel
theorem dL_law_428 : decode cL_law 428 = .ok (.aload_n 2, 1) := by decide +kernel
theorem dL_law_429 : decode cL_law 429 = .ok (.aload_n 0, 1) := by decide +kernel
theorem dL_law_430 : decode cL_law 430 = .ok (.iload 4, 2) := by decide +kernel
theorem dL_law_432 : decode cL_law 432 = .ok (.iconst 1, 1) := by decide +kernel
theorem dL_law_433 : decode cL_law 433 = .ok (.iadd, 1) := by decide +kernel
theorem dL_law_434 : decode cL_law 434 = .ok (.iaload, 1) := by decide +kernel
theorem dL_law_435 : decode cL_law 435 = .ok (.ifCond .eq 7, 3) := by decide +kernel
theorem dL_law_438 : decode cL_law 438 = .ok (.iconst 1, 1) := by decide +kernel
theorem dL_law_439 : decode cL_law 439 = .ok (.goto 4, 3) := by decide +kernel
theorem dL_law_442 : decode cL_law 442 = .ok (.iconst 0, 1) := by decide +kernel
theorem dL_law_443 : decode cL_law 443 = .ok (.aload_n 0, 1) := by decide +kernel
theorem dL_law_444 : decode cL_law 444 = .ok (.iload 4, 2) := by decide +kernel
theorem dL_law_446 : decode cL_law 446 = .ok (.iconst 2, 1) := by decide +kernel
theorem dL_law_447 : decode cL_law 447 = .ok (.iadd, 1) := by decide +kernel
theorem dL_law_448 : decode cL_law 448 = .ok (.iaload, 1) := by decide +kernel
theorem dL_law_449 : decode cL_law 449 = .ok (.ifCond .eq 7, 3) := by decide +kernel
theorem dL_law_452 : decode cL_law 452 = .ok (.iconst 1, 1) := by decide +kernel
theorem dL_law_453 : decode cL_law 453 = .ok (.goto 4, 3) := by decide +kernel
theorem dL_law_456 : decode cL_law 456 = .ok (.iconst 0, 1) := by decide +kernel
theorem dL_law_457 : decode cL_law 457 = .ok (.aload_n 0, 1) := by decide +kernel
theorem dL_law_458 : decode cL_law 458 = .ok (.iload 4, 2) := by decide +kernel
theorem dL_law_460 : decode cL_law 460 = .ok (.iconst 3, 1) := by decide +kernel
theorem dL_law_461 : decode cL_law 461 = .ok (.iadd, 1) := by decide +kernel
theorem dL_law_462 : decode cL_law 462 = .ok (.iaload, 1) := by decide +kernel
theorem dL_law_463 : decode cL_law 463 = .ok (.ifCond .eq 7, 3) := by decide +kernel
theorem dL_law_466 : decode cL_law 466 = .ok (.iconst 1, 1) := by decide +kernel
theorem dL_law_467 : decode cL_law 467 = .ok (.goto 4, 3) := by decide +kernel
theorem dL_law_470 : decode cL_law 470 = .ok (.iconst 0, 1) := by decide +kernel
theorem dL_law_471 : decode cL_law 471 = .ok (.aload_n 0, 1) := by decide +kernel
theorem dL_law_472 : decode cL_law 472 = .ok (.iload 4, 2) := by decide +kernel
theorem dL_law_474 : decode cL_law 474 = .ok (.iconst 4, 1) := by decide +kernel
theorem dL_law_475 : decode cL_law 475 = .ok (.iadd, 1) := by decide +kernel
theorem dL_law_476 : decode cL_law 476 = .ok (.iaload, 1) := by decide +kernel
theorem dL_law_477 : decode cL_law 477 = .ok (.invokevirtual 73, 3) := by decide +kernel
theorem dL_law_480 : decode cL_law 480 = .ok (.istore 6, 2) := by decide +kernel
theorem dL_law_482 : decode cL_law 482 = .ok (.aload_n 2, 1) := by decide +kernel
theorem dL_law_483 : decode cL_law 483 = .ok (.invokevirtual 59, 3) := by decide +kernel
theorem dL_law_486 : decode cL_law 486 = .ok (.iload 5, 2) := by decide +kernel
theorem dL_law_488 : decode cL_law 488 = .ok (.if_icmp .eq 5, 3) := by decide +kernel
theorem dL_law_491 : decode cL_law 491 = .ok (.iconst 0, 1) := by decide +kernel
theorem dL_law_492 : decode cL_law 492 = .ok (.ireturn, 1) := by decide +kernel
theorem dL_law_493 : decode cL_law 493 = .ok (.iload 5, 2) := by decide +kernel
theorem dL_law_495 : decode cL_law 495 = .ok (.ifCond .ne 15, 3) := by decide +kernel
theorem dL_law_498 : decode cL_law 498 = .ok (.aload_n 3, 1) := by decide +kernel
theorem dL_law_499 : decode cL_law 499 = .ok (.iconst 0, 1) := by decide +kernel
theorem dL_law_500 : decode cL_law 500 = .ok (.laload, 1) := by decide +kernel
theorem dL_law_501 : decode cL_law 501 = .ok (.iload 6, 2) := by decide +kernel
theorem dL_law_503 : decode cL_law 503 = .ok (.i2l, 1) := by decide +kernel
theorem dL_law_504 : decode cL_law 504 = .ok (.lcmp, 1) := by decide +kernel
theorem dL_law_505 : decode cL_law 505 = .ok (.ifCond .eq 5, 3) := by decide +kernel
theorem dL_law_508 : decode cL_law 508 = .ok (.iconst 0, 1) := by decide +kernel
theorem dL_law_509 : decode cL_law 509 = .ok (.ireturn, 1) := by decide +kernel
theorem dL_law_510 : decode cL_law 510 = .ok (.goto 345, 3) := by decide +kernel
theorem dL_law_513 : decode cL_law 513 = .ok (.aload_n 1, 1) := by decide +kernel
theorem dL_law_514 : decode cL_law 514 = .ok (.aload_n 0, 1) := by decide +kernel
theorem dL_law_515 : decode cL_law 515 = .ok (.iload 4, 2) := by decide +kernel
theorem dL_law_517 : decode cL_law 517 = .ok (.iconst 1, 1) := by decide +kernel
theorem dL_law_518 : decode cL_law 518 = .ok (.iadd, 1) := by decide +kernel
theorem dL_law_519 : decode cL_law 519 = .ok (.iaload, 1) := by decide +kernel
theorem dL_law_520 : decode cL_law 520 = .ok (.aload_n 3, 1) := by decide +kernel
theorem dL_law_521 : decode cL_law 521 = .ok (.invokestatic 74, 3) := by decide +kernel
theorem dL_law_524 : decode cL_law 524 = .ok (.istore 5, 2) := by decide +kernel
theorem dL_law_526 : decode cL_law 526 = .ok (.aload_n 2, 1) := by decide +kernel
theorem dL_law_527 : decode cL_law 527 = .ok (.aload_n 0, 1) := by decide +kernel
theorem dL_law_528 : decode cL_law 528 = .ok (.iload 4, 2) := by decide +kernel
theorem dL_law_530 : decode cL_law 530 = .ok (.iconst 1, 1) := by decide +kernel
theorem dL_law_531 : decode cL_law 531 = .ok (.iadd, 1) := by decide +kernel
theorem dL_law_532 : decode cL_law 532 = .ok (.iaload, 1) := by decide +kernel
theorem dL_law_533 : decode cL_law 533 = .ok (.invokevirtual 76, 3) := by decide +kernel
theorem dL_law_536 : decode cL_law 536 = .ok (.istore 6, 2) := by decide +kernel
theorem dL_law_538 : decode cL_law 538 = .ok (.aload_n 2, 1) := by decide +kernel
theorem dL_law_539 : decode cL_law 539 = .ok (.invokevirtual 59, 3) := by decide +kernel
theorem dL_law_542 : decode cL_law 542 = .ok (.iload 5, 2) := by decide +kernel
theorem dL_law_544 : decode cL_law 544 = .ok (.if_icmp .eq 5, 3) := by decide +kernel
theorem dL_law_547 : decode cL_law 547 = .ok (.iconst 0, 1) := by decide +kernel
theorem dL_law_548 : decode cL_law 548 = .ok (.ireturn, 1) := by decide +kernel
theorem dL_law_549 : decode cL_law 549 = .ok (.iload 5, 2) := by decide +kernel
theorem dL_law_551 : decode cL_law 551 = .ok (.ifCond .ne 15, 3) := by decide +kernel
theorem dL_law_554 : decode cL_law 554 = .ok (.aload_n 3, 1) := by decide +kernel
theorem dL_law_555 : decode cL_law 555 = .ok (.iconst 0, 1) := by decide +kernel
theorem dL_law_556 : decode cL_law 556 = .ok (.laload, 1) := by decide +kernel
theorem dL_law_557 : decode cL_law 557 = .ok (.iload 6, 2) := by decide +kernel
theorem dL_law_559 : decode cL_law 559 = .ok (.i2l, 1) := by decide +kernel
theorem dL_law_560 : decode cL_law 560 = .ok (.lcmp, 1) := by decide +kernel
theorem dL_law_561 : decode cL_law 561 = .ok (.ifCond .eq 5, 3) := by decide +kernel
theorem dL_law_564 : decode cL_law 564 = .ok (.iconst 0, 1) := by decide +kernel
theorem dL_law_565 : decode cL_law 565 = .ok (.ireturn, 1) := by decide +kernel
theorem dL_law_566 : decode cL_law 566 = .ok (.goto 289, 3) := by decide +kernel
theorem dL_law_569 : decode cL_law 569 = .ok (.aload_n 1, 1) := by decide +kernel
theorem dL_law_570 : decode cL_law 570 = .ok (.aload_n 0, 1) := by decide +kernel
theorem dL_law_571 : decode cL_law 571 = .ok (.iload 4, 2) := by decide +kernel
theorem dL_law_573 : decode cL_law 573 = .ok (.iconst 1, 1) := by decide +kernel
theorem dL_law_574 : decode cL_law 574 = .ok (.iadd, 1) := by decide +kernel
theorem dL_law_575 : decode cL_law 575 = .ok (.iaload, 1) := by decide +kernel
theorem dL_law_576 : decode cL_law 576 = .ok (.aload_n 0, 1) := by decide +kernel
theorem dL_law_577 : decode cL_law 577 = .ok (.iload 4, 2) := by decide +kernel
theorem dL_law_579 : decode cL_law 579 = .ok (.iconst 2, 1) := by decide +kernel
theorem dL_law_580 : decode cL_law 580 = .ok (.iadd, 1) := by decide +kernel
theorem dL_law_581 : decode cL_law 581 = .ok (.iaload, 1) := by decide +kernel
theorem dL_law_582 : decode cL_law 582 = .ok (.aload_n 3, 1) := by decide +kernel
theorem dL_law_583 : decode cL_law 583 = .ok (.invokestatic 77, 3) := by decide +kernel
theorem dL_law_586 : decode cL_law 586 = .ok (.istore 5, 2) := by decide +kernel
theorem dL_law_588 : decode cL_law 588 = .ok (.aload_n 2, 1) := by decide +kernel
theorem dL_law_589 : decode cL_law 589 = .ok (.aload_n 0, 1) := by decide +kernel
theorem dL_law_590 : decode cL_law 590 = .ok (.iload 4, 2) := by decide +kernel
theorem dL_law_592 : decode cL_law 592 = .ok (.iconst 1, 1) := by decide +kernel
theorem dL_law_593 : decode cL_law 593 = .ok (.iadd, 1) := by decide +kernel
theorem dL_law_594 : decode cL_law 594 = .ok (.iaload, 1) := by decide +kernel
theorem dL_law_595 : decode cL_law 595 = .ok (.aload_n 0, 1) := by decide +kernel
theorem dL_law_596 : decode cL_law 596 = .ok (.iload 4, 2) := by decide +kernel
theorem dL_law_598 : decode cL_law 598 = .ok (.iconst 2, 1) := by decide +kernel
theorem dL_law_599 : decode cL_law 599 = .ok (.iadd, 1) := by decide +kernel
theorem dL_law_600 : decode cL_law 600 = .ok (.iaload, 1) := by decide +kernel
theorem dL_law_601 : decode cL_law 601 = .ok (.invokevirtual 80, 3) := by decide +kernel
theorem dL_law_604 : decode cL_law 604 = .ok (.istore 6, 2) := by decide +kernel
theorem dL_law_606 : decode cL_law 606 = .ok (.aload_n 2, 1) := by decide +kernel
theorem dL_law_607 : decode cL_law 607 = .ok (.invokevirtual 59, 3) := by decide +kernel
theorem dL_law_610 : decode cL_law 610 = .ok (.iload 5, 2) := by decide +kernel
theorem dL_law_612 : decode cL_law 612 = .ok (.if_icmp .eq 5, 3) := by decide +kernel
theorem dL_law_615 : decode cL_law 615 = .ok (.iconst 0, 1) := by decide +kernel
theorem dL_law_616 : decode cL_law 616 = .ok (.ireturn, 1) := by decide +kernel
theorem dL_law_617 : decode cL_law 617 = .ok (.iload 5, 2) := by decide +kernel
theorem dL_law_619 : decode cL_law 619 = .ok (.ifCond .ne 15, 3) := by decide +kernel
theorem dL_law_622 : decode cL_law 622 = .ok (.aload_n 3, 1) := by decide +kernel
theorem dL_law_623 : decode cL_law 623 = .ok (.iconst 0, 1) := by decide +kernel
theorem dL_law_624 : decode cL_law 624 = .ok (.laload, 1) := by decide +kernel
theorem dL_law_625 : decode cL_law 625 = .ok (.iload 6, 2) := by decide +kernel
theorem dL_law_627 : decode cL_law 627 = .ok (.i2l, 1) := by decide +kernel
theorem dL_law_628 : decode cL_law 628 = .ok (.lcmp, 1) := by decide +kernel
theorem dL_law_629 : decode cL_law 629 = .ok (.ifCond .eq 5, 3) := by decide +kernel
theorem dL_law_632 : decode cL_law 632 = .ok (.iconst 0, 1) := by decide +kernel
theorem dL_law_633 : decode cL_law 633 = .ok (.ireturn, 1) := by decide +kernel
theorem dL_law_634 : decode cL_law 634 = .ok (.goto 221, 3) := by decide +kernel
theorem dL_law_637 : decode cL_law 637 = .ok (.aload_n 1, 1) := by decide +kernel
theorem dL_law_638 : decode cL_law 638 = .ok (.aload_n 0, 1) := by decide +kernel
theorem dL_law_639 : decode cL_law 639 = .ok (.iload 4, 2) := by decide +kernel
theorem dL_law_641 : decode cL_law 641 = .ok (.iconst 1, 1) := by decide +kernel
theorem dL_law_642 : decode cL_law 642 = .ok (.iadd, 1) := by decide +kernel
theorem dL_law_643 : decode cL_law 643 = .ok (.iaload, 1) := by decide +kernel
theorem dL_law_644 : decode cL_law 644 = .ok (.aload_n 0, 1) := by decide +kernel
theorem dL_law_645 : decode cL_law 645 = .ok (.iload 4, 2) := by decide +kernel
theorem dL_law_647 : decode cL_law 647 = .ok (.iconst 2, 1) := by decide +kernel
theorem dL_law_648 : decode cL_law 648 = .ok (.iadd, 1) := by decide +kernel
theorem dL_law_649 : decode cL_law 649 = .ok (.iaload, 1) := by decide +kernel
theorem dL_law_650 : decode cL_law 650 = .ok (.aload_n 3, 1) := by decide +kernel
theorem dL_law_651 : decode cL_law 651 = .ok (.invokestatic 81, 3) := by decide +kernel
theorem dL_law_654 : decode cL_law 654 = .ok (.istore 5, 2) := by decide +kernel
theorem dL_law_656 : decode cL_law 656 = .ok (.aload_n 2, 1) := by decide +kernel
theorem dL_law_657 : decode cL_law 657 = .ok (.aload_n 0, 1) := by decide +kernel
theorem dL_law_658 : decode cL_law 658 = .ok (.iload 4, 2) := by decide +kernel
theorem dL_law_660 : decode cL_law 660 = .ok (.iconst 1, 1) := by decide +kernel
theorem dL_law_661 : decode cL_law 661 = .ok (.iadd, 1) := by decide +kernel
theorem dL_law_662 : decode cL_law 662 = .ok (.iaload, 1) := by decide +kernel
theorem dL_law_663 : decode cL_law 663 = .ok (.aload_n 0, 1) := by decide +kernel
theorem dL_law_664 : decode cL_law 664 = .ok (.iload 4, 2) := by decide +kernel
theorem dL_law_666 : decode cL_law 666 = .ok (.iconst 2, 1) := by decide +kernel
theorem dL_law_667 : decode cL_law 667 = .ok (.iadd, 1) := by decide +kernel
theorem dL_law_668 : decode cL_law 668 = .ok (.iaload, 1) := by decide +kernel
theorem dL_law_669 : decode cL_law 669 = .ok (.invokevirtual 83, 3) := by decide +kernel
theorem dL_law_672 : decode cL_law 672 = .ok (.istore 6, 2) := by decide +kernel
theorem dL_law_674 : decode cL_law 674 = .ok (.aload_n 2, 1) := by decide +kernel
theorem dL_law_675 : decode cL_law 675 = .ok (.invokevirtual 59, 3) := by decide +kernel
theorem dL_law_678 : decode cL_law 678 = .ok (.iload 5, 2) := by decide +kernel
theorem dL_law_680 : decode cL_law 680 = .ok (.if_icmp .eq 5, 3) := by decide +kernel
theorem dL_law_683 : decode cL_law 683 = .ok (.iconst 0, 1) := by decide +kernel
theorem dL_law_684 : decode cL_law 684 = .ok (.ireturn, 1) := by decide +kernel
theorem dL_law_685 : decode cL_law 685 = .ok (.iload 5, 2) := by decide +kernel
theorem dL_law_687 : decode cL_law 687 = .ok (.ifCond .ne 15, 3) := by decide +kernel
theorem dL_law_690 : decode cL_law 690 = .ok (.aload_n 3, 1) := by decide +kernel
theorem dL_law_691 : decode cL_law 691 = .ok (.iconst 0, 1) := by decide +kernel
theorem dL_law_692 : decode cL_law 692 = .ok (.laload, 1) := by decide +kernel
theorem dL_law_693 : decode cL_law 693 = .ok (.iload 6, 2) := by decide +kernel
theorem dL_law_695 : decode cL_law 695 = .ok (.i2l, 1) := by decide +kernel
theorem dL_law_696 : decode cL_law 696 = .ok (.lcmp, 1) := by decide +kernel
theorem dL_law_697 : decode cL_law 697 = .ok (.ifCond .eq 5, 3) := by decide +kernel
theorem dL_law_700 : decode cL_law 700 = .ok (.iconst 0, 1) := by decide +kernel
theorem dL_law_701 : decode cL_law 701 = .ok (.ireturn, 1) := by decide +kernel
theorem dL_law_702 : decode cL_law 702 = .ok (.goto 153, 3) := by decide +kernel
theorem dL_law_705 : decode cL_law 705 = .ok (.aload_n 1, 1) := by decide +kernel
theorem dL_law_706 : decode cL_law 706 = .ok (.aload_n 0, 1) := by decide +kernel
theorem dL_law_707 : decode cL_law 707 = .ok (.iload 4, 2) := by decide +kernel
theorem dL_law_709 : decode cL_law 709 = .ok (.iconst 1, 1) := by decide +kernel
theorem dL_law_710 : decode cL_law 710 = .ok (.iadd, 1) := by decide +kernel
theorem dL_law_711 : decode cL_law 711 = .ok (.iaload, 1) := by decide +kernel
theorem dL_law_712 : decode cL_law 712 = .ok (.aload_n 0, 1) := by decide +kernel
theorem dL_law_713 : decode cL_law 713 = .ok (.iload 4, 2) := by decide +kernel
theorem dL_law_715 : decode cL_law 715 = .ok (.iconst 2, 1) := by decide +kernel
theorem dL_law_716 : decode cL_law 716 = .ok (.iadd, 1) := by decide +kernel
theorem dL_law_717 : decode cL_law 717 = .ok (.iaload, 1) := by decide +kernel
theorem dL_law_718 : decode cL_law 718 = .ok (.aload_n 3, 1) := by decide +kernel
theorem dL_law_719 : decode cL_law 719 = .ok (.invokestatic 84, 3) := by decide +kernel
theorem dL_law_722 : decode cL_law 722 = .ok (.istore 5, 2) := by decide +kernel
theorem dL_law_724 : decode cL_law 724 = .ok (.aload_n 2, 1) := by decide +kernel
theorem dL_law_725 : decode cL_law 725 = .ok (.aload_n 0, 1) := by decide +kernel
theorem dL_law_726 : decode cL_law 726 = .ok (.iload 4, 2) := by decide +kernel
theorem dL_law_728 : decode cL_law 728 = .ok (.iconst 1, 1) := by decide +kernel
theorem dL_law_729 : decode cL_law 729 = .ok (.iadd, 1) := by decide +kernel
theorem dL_law_730 : decode cL_law 730 = .ok (.iaload, 1) := by decide +kernel
theorem dL_law_731 : decode cL_law 731 = .ok (.aload_n 0, 1) := by decide +kernel
theorem dL_law_732 : decode cL_law 732 = .ok (.iload 4, 2) := by decide +kernel
theorem dL_law_734 : decode cL_law 734 = .ok (.iconst 2, 1) := by decide +kernel
theorem dL_law_735 : decode cL_law 735 = .ok (.iadd, 1) := by decide +kernel
theorem dL_law_736 : decode cL_law 736 = .ok (.iaload, 1) := by decide +kernel
theorem dL_law_737 : decode cL_law 737 = .ok (.invokevirtual 86, 3) := by decide +kernel
theorem dL_law_740 : decode cL_law 740 = .ok (.istore 6, 2) := by decide +kernel
theorem dL_law_742 : decode cL_law 742 = .ok (.aload_n 2, 1) := by decide +kernel
theorem dL_law_743 : decode cL_law 743 = .ok (.invokevirtual 59, 3) := by decide +kernel
theorem dL_law_746 : decode cL_law 746 = .ok (.iload 5, 2) := by decide +kernel
theorem dL_law_748 : decode cL_law 748 = .ok (.if_icmp .eq 5, 3) := by decide +kernel
theorem dL_law_751 : decode cL_law 751 = .ok (.iconst 0, 1) := by decide +kernel
theorem dL_law_752 : decode cL_law 752 = .ok (.ireturn, 1) := by decide +kernel
theorem dL_law_753 : decode cL_law 753 = .ok (.iload 5, 2) := by decide +kernel
theorem dL_law_755 : decode cL_law 755 = .ok (.ifCond .ne 15, 3) := by decide +kernel
theorem dL_law_758 : decode cL_law 758 = .ok (.aload_n 3, 1) := by decide +kernel
theorem dL_law_759 : decode cL_law 759 = .ok (.iconst 0, 1) := by decide +kernel
theorem dL_law_760 : decode cL_law 760 = .ok (.laload, 1) := by decide +kernel
theorem dL_law_761 : decode cL_law 761 = .ok (.iload 6, 2) := by decide +kernel
theorem dL_law_763 : decode cL_law 763 = .ok (.i2l, 1) := by decide +kernel
theorem dL_law_764 : decode cL_law 764 = .ok (.lcmp, 1) := by decide +kernel
theorem dL_law_765 : decode cL_law 765 = .ok (.ifCond .eq 5, 3) := by decide +kernel
theorem dL_law_768 : decode cL_law 768 = .ok (.iconst 0, 1) := by decide +kernel
theorem dL_law_769 : decode cL_law 769 = .ok (.ireturn, 1) := by decide +kernel
theorem dL_law_770 : decode cL_law 770 = .ok (.goto 85, 3) := by decide +kernel
theorem dL_law_773 : decode cL_law 773 = .ok (.aload_n 1, 1) := by decide +kernel
theorem dL_law_774 : decode cL_law 774 = .ok (.invokevirtual 87, 3) := by decide +kernel
theorem dL_law_777 : decode cL_law 777 = .ok (.aload_n 2, 1) := by decide +kernel
theorem dL_law_778 : decode cL_law 778 = .ok (.invokevirtual 90, 3) := by decide +kernel
theorem dL_law_781 : decode cL_law 781 = .ok (.if_icmp .eq 74, 3) := by decide +kernel
theorem dL_law_784 : decode cL_law 784 = .ok (.iconst 0, 1) := by decide +kernel
theorem dL_law_785 : decode cL_law 785 = .ok (.ireturn, 1) := by decide +kernel
theorem dL_law_786 : decode cL_law 786 = .ok (.aload_n 1, 1) := by decide +kernel
theorem dL_law_787 : decode cL_law 787 = .ok (.aload_n 0, 1) := by decide +kernel
theorem dL_law_788 : decode cL_law 788 = .ok (.iload 4, 2) := by decide +kernel
theorem dL_law_790 : decode cL_law 790 = .ok (.iconst 1, 1) := by decide +kernel
theorem dL_law_791 : decode cL_law 791 = .ok (.iadd, 1) := by decide +kernel
theorem dL_law_792 : decode cL_law 792 = .ok (.iaload, 1) := by decide +kernel
theorem dL_law_793 : decode cL_law 793 = .ok (.aload_n 3, 1) := by decide +kernel
theorem dL_law_794 : decode cL_law 794 = .ok (.invokestatic 91, 3) := by decide +kernel
theorem dL_law_797 : decode cL_law 797 = .ok (.istore 5, 2) := by decide +kernel
theorem dL_law_799 : decode cL_law 799 = .ok (.aload_n 2, 1) := by decide +kernel
theorem dL_law_800 : decode cL_law 800 = .ok (.aload_n 0, 1) := by decide +kernel
theorem dL_law_801 : decode cL_law 801 = .ok (.iload 4, 2) := by decide +kernel
theorem dL_law_803 : decode cL_law 803 = .ok (.iconst 1, 1) := by decide +kernel
theorem dL_law_804 : decode cL_law 804 = .ok (.iadd, 1) := by decide +kernel
theorem dL_law_805 : decode cL_law 805 = .ok (.iaload, 1) := by decide +kernel
theorem dL_law_806 : decode cL_law 806 = .ok (.invokevirtual 93, 3) := by decide +kernel
theorem dL_law_809 : decode cL_law 809 = .ok (.istore 6, 2) := by decide +kernel
theorem dL_law_811 : decode cL_law 811 = .ok (.aload_n 2, 1) := by decide +kernel
theorem dL_law_812 : decode cL_law 812 = .ok (.invokevirtual 59, 3) := by decide +kernel
theorem dL_law_815 : decode cL_law 815 = .ok (.iload 5, 2) := by decide +kernel
theorem dL_law_817 : decode cL_law 817 = .ok (.if_icmp .eq 5, 3) := by decide +kernel
theorem dL_law_820 : decode cL_law 820 = .ok (.iconst 0, 1) := by decide +kernel
theorem dL_law_821 : decode cL_law 821 = .ok (.ireturn, 1) := by decide +kernel
theorem dL_law_822 : decode cL_law 822 = .ok (.iload 5, 2) := by decide +kernel
theorem dL_law_824 : decode cL_law 824 = .ok (.ifCond .ne 15, 3) := by decide +kernel
theorem dL_law_827 : decode cL_law 827 = .ok (.aload_n 3, 1) := by decide +kernel
theorem dL_law_828 : decode cL_law 828 = .ok (.iconst 0, 1) := by decide +kernel
theorem dL_law_829 : decode cL_law 829 = .ok (.laload, 1) := by decide +kernel
theorem dL_law_830 : decode cL_law 830 = .ok (.iload 6, 2) := by decide +kernel
theorem dL_law_832 : decode cL_law 832 = .ok (.i2l, 1) := by decide +kernel
theorem dL_law_833 : decode cL_law 833 = .ok (.lcmp, 1) := by decide +kernel
theorem dL_law_834 : decode cL_law 834 = .ok (.ifCond .eq 5, 3) := by decide +kernel
theorem dL_law_837 : decode cL_law 837 = .ok (.iconst 0, 1) := by decide +kernel
theorem dL_law_838 : decode cL_law 838 = .ok (.ireturn, 1) := by decide +kernel
theorem dL_law_839 : decode cL_law 839 = .ok (.goto 16, 3) := by decide +kernel
theorem dL_law_842 : decode cL_law 842 = .ok (.aload_n 1, 1) := by decide +kernel
theorem dL_law_843 : decode cL_law 843 = .ok (.invokevirtual 94, 3) := by decide +kernel
theorem dL_law_846 : decode cL_law 846 = .ok (.aload_n 2, 1) := by decide +kernel
theorem dL_law_847 : decode cL_law 847 = .ok (.invokevirtual 97, 3) := by decide +kernel
theorem dL_law_850 : decode cL_law 850 = .ok (.if_icmp .eq 5, 3) := by decide +kernel
theorem dL_law_853 : decode cL_law 853 = .ok (.iconst 0, 1) := by decide +kernel
theorem dL_law_854 : decode cL_law 854 = .ok (.ireturn, 1) := by decide +kernel
theorem dL_law_855 : decode cL_law 855 = .ok (.iinc 4 6, 3) := by decide +kernel
theorem dL_law_858 : decode cL_law 858 = .ok (.goto (-835), 3) := by decide +kernel
theorem dL_law_861 : decode cL_law 861 = .ok (.iconst 1, 1) := by decide +kernel
theorem dL_law_862 : decode cL_law 862 = .ok (.ireturn, 1) := by decide +kernel
end
section
/-! ===== BEGIN words of one list among another's, by their places ===== -/
theorem goodIn_r {big : List Cond} (ws : List Cond) (ps : List Nat) (hp : ws = ps.filterMap (fun i => big[i]?)) (h : ws.all goodWord = true) : GoodIn big ws := by
  intro w hw
  have h1 := List.all_eq_true.mp h w hw
  rw [hp] at hw
  obtain ⟨i, -, hi⟩ := List.mem_filterMap.mp hw
  have hm : w ∈ big := by first | exact List.mem_of_getElem? hi | exact List.getElem?_mem hi
  exact ⟨hm, good_of_word h1⟩
theorem goodIn_app {big a b : List Cond} (ha : GoodIn big a) (hb : GoodIn big b) : GoodIn big (a ++ b) := fun w h => (List.mem_append.mp h).elim (ha w) (hb w)
theorem goodIn_ca {big a b : List Cond} {c : Cond} (ha : GoodIn big (c :: a)) (hb : GoodIn big b) : GoodIn big (c :: (a ++ b)) := fun w h => (List.mem_cons.mp h).elim (fun e => ha w (List.mem_cons.mpr (Or.inl e))) (fun h => (List.mem_append.mp h).elim (fun h => ha w (List.mem_cons.mpr (Or.inr h))) (hb w))
theorem goodIn_sub {big ws : List Cond} (hm : ∀ w ∈ ws, w ∈ big) (h : ws.all goodWord = true) : GoodIn big ws := fun w hw => ⟨hm w hw, good_of_word (List.all_eq_true.mp h w hw)⟩
/-! ===== END ===== -/

/-! ===== BEGIN exceptions that leave a method, and their catching by the caller (launches without stack traces) ===== -/
section VXA
/-! The laws vx_back, vx_callV, vx_callS, vx_callSW, vx_throw0, vx_throwS follow proofs of the library, with one case more: JvmDerived/Free/Laws.lean (Back.of_free), Shelf42/LK1.lean (callV, callS), Shelf/KitTraced.lean (throwNew0V, throwNewS). -/
/-- where a method has thrown q: the class by its name, the cell, what was written, the world -/
def vx_T (XC : String → State → State → Prop) (st : State) (q : Addr) (t : State) (mc ms : Nat) (free : Addr → Prop) : Prop :=
  ∃ (E : String) (ce : Cell) (L : List Loc), XC E st t ∧ t.heap[q]? = some ce ∧ ce.vm = .none ∧ st.vm.findClass E = some ce.cls ∧ st.WarmedH t.vm ∧ st.sameButNew ({ t with vm := st.vm } : State) L mc ms ∧ ∀ z ∈ L, free z.base
def vx_Q (Qc : Array Value → State → Outcome → State → Prop) (XC : String → State → State → Prop) (mc ms : Nat) (free : Addr → Prop) : Array Value → State → Outcome → State → Prop := fun a st o t =>
  (Qc a st o t ∧ ∃ L, FrameEnd st o t L mc ms ∧ ∀ q ∈ L, free q.base) ∨ ∃ q, o = .threw q ∧ vx_T XC st q t mc ms free
/-- a callee that returns or throws -/
def vx_Met (l : Launch) (y : MethodName) (ws : List Cond) (rm : Room) (Pc : Array Value → State → Prop) (Qc : Array Value → State → Outcome → State → Prop) (XC : String → State → State → Prop) (mc ms : Nat) (free : Addr → Prop) : Prop :=
  MetFree l y (headSpec ws rm) Pc (fun _ _ _ _ _ => True) (vx_Q Qc XC mc ms free)
def vx_Post (XC : String → State → State → Prop) (mc ms : Nat) (free : Addr → Prop) : Pt → Array Value → Addr → Pt → Prop := fun A a q B =>
  ∃ (g : JFrame) (mk : MethodId) (t : State) (L : List Loc) (E : String) (ce : Cell), B.U.heap = t.heap ∧ B.U.vm = t.vm ∧ XC E (A.U.calling g mk a) t ∧ t.heap[q]? = some ce ∧ ce.vm = .none ∧ A.U.vm.findClass E = some ce.cls ∧ B.locs = A.locs ++ L ∧ (∀ z ∈ L, free z.base) ∧ B.cells = A.cells + mc ∧ B.slots = A.slots + ms
def vx_Back (l : Launch) (R : Room) (p : Program) (e : Env) (below : List Frame) (s : State) (sargs : Array Value) (y : MethodName) (len W9 : Nat)
    (Pre : Pt → Array Value → Prop) (Post : Pt → Array Value → Option Value → Pt → Prop) (PostX : Pt → Array Value → Addr → Pt → Prop) : Prop :=
  ∀ (m : MethodId) (meth : Method) (c : Code) (A : Pt) (g : JFrame) (ig : Instr) (mk : MethodId) (a : Array Value),
    Stand p l e R s m sargs below meth c A.U A.locs A.cells A.slots → g.method = m → g.locals.size = c.maxLocals → decode c.code g.pc = .ok (ig, len) →
    2 * g.monitorRoom + (g.stack.map fun v => v.category).sum ≤ W9 → A.U.methodNamed? y = some mk → Pre A a →
    (∃ (v : Option Value) (B : Pt), Stand p l e R s m sargs below meth c B.U B.locs B.cells B.slots ∧ Post A a v B ∧
      Steps p.tables e below (doInvoke e (A.U.setTop g) [] mk a).1 (B.U.setTop { g with pc := g.pc + len, stack := v.toList ++ g.stack })) ∨
    (∃ (q : Addr) (B : Pt), Stand p l e R s m sargs below meth c B.U B.locs B.cells B.slots ∧ PostX A a q B ∧
      Steps p.tables e below (doInvoke e (A.U.setTop g) [] mk a).1 ((B.U.setTop g).pushFrame (.throwing q)))
section Payer
variable {l : Launch} {R : Room} {p : Program} {e : Env} {below : List Frame} {s : State} {sargs : Array Value} {y : MethodName} {len W9 : Nat}
theorem vx_back {ws : List Cond} {rm : Room} {Pc : Array Value → State → Prop} {Qc : Array Value → State → Outcome → State → Prop} {XC : String → State → State → Prop} {mc ms : Nat} {free : Addr → Prop} {bytes : ByteArray} {maxL : Nat} {ret : Option FieldType}
    (hM : vx_Met l y ws rm Pc Qc XC mc ms free) (hblind : FrameBlind Pc) (hrc : rm.cells = mc) (hrs : rm.slots = ms)
    (hframes : rm.frames + 1 ≤ R.frames) (hlocals : W9 + (maxL + 11) + rm.locals ≤ R.locals)
    (hws : ∀ w ∈ ws, ∀ a' U, s.WarmedH U.vm → w.before a' U = true) (hcode : Cond.code y bytes maxL ret ∈ ws) (hinit : ∀ a' U, s.WarmedH U.vm → (Cond.initialized y.cls).before a' U = true) :
    vx_Back l R p e below s sargs y len W9 (PreOf R mc ms Pc) (PostOf Qc mc ms free) (vx_Post XC mc ms free) := by
  intro m meth c A g ig mk a X hg hsize hdg hW hn hp
  have h1 : (headSpec ws rm).pre.before a A.U = true := atoms_intro fun w hw => hws w hw _ _ X.warmed
  have h2 : (Cond.code y bytes maxL ret).before a A.U = true := hws _ hcode _ _ X.warmed
  have h3 : (Cond.initialized y.cls).before a A.U = true := hinit _ _ X.warmed
  have h4 : A.cells + (headSpec ws rm).room.cells ≤ R.cells := by rw [show (headSpec ws rm).room.cells = mc from hrc]; exact hp.1
  have h5 : A.slots + (headSpec ws rm).room.slots ≤ R.slots := by rw [show (headSpec ws rm).room.slots = ms from hrs]; exact hp.2.1
  have hPc : Pc a (A.U.calling g mk a) := hblind _ _ _ _ hp.2.2
  obtain ⟨U, Ls, c0, s0⟩ := A
  dsimp only [Pt.U, Pt.locs, Pt.cells, Pt.slots] at h1 h2 h3 h4 h5 X hn hPc ⊢
  obtain ⟨methY, cY, hmY, hcY, -, hlY, -, -, -, -⟩ := Cond.code_spec hn h2
  obtain ⟨kY, hkY, -⟩ := className_of_methodNamed hn
  have hinitY : kY.init = .initialized := Cond.initialized_spec (findClass_of_methodNamed hn) hkY h3
  have h : At U g.method c below := by rw [hg]; exact X.here
  have hlocals9 : W9 + (maxL + 11) + (headSpec ws rm).room.locals ≤ R.locals := hlocals
  have happ : (headSpec ws rm).appliesLoose y e.platform (U.calling g mk a) = true :=
    Spec.appliesLoose_calling (g := g) h hdg hn hkY hinitY
      (X.room_calling (g := g) (R' := (headSpec ws rm).room) hsize hmY hcY hframes (by rw [hlY]; omega) h4 h5) h1
  obtain ⟨mid, hmid⟩ := h.above
  have hfr : (U.setTop g).frames = (.java g :: mid) ++ below := by rw [State.frames_setTop' g h.top, hmid]; rfl
  obtain ⟨o, s₂, hsteps, -, hend, hq⟩ := Steps.callFree hM p X.admits X.cas X.clock (acts := []) hfr happ hPc trivial
  have hq' : vx_Q Qc XC mc ms free a (U.calling g mk a) o s₂ := hq
  rw [State.frames_setTop' g h.top] at hend
  obtain ⟨g₀, hg0⟩ := Option.isSome_iff_exists.mp h.top
  obtain ⟨r, hr⟩ := State.topJava?_eq_some.mp hg0
  have hr' : (({ U with heap := s₂.heap, slotsUsed := s₂.slotsUsed } : State).setVm s₂.vm).frames = .java g₀ :: r := hr
  rcases hq' with ⟨hqc, L, hfe, hL⟩ | ⟨q, rfl, E, ce, L, hx, hce, hcv, hcl, hW₂, hsm, hL⟩
  · obtain ⟨⟨v, rfl⟩, hW₂, e2, q2, q3, q4, q5, q6⟩ := id hfe
    have e3 : s₂ = ({ (U.calling g mk a).setFrames s₂.frames with heap := s₂.heap, slotsUsed := s₂.slotsUsed } : State).setVm s₂.vm := by
      have : s₂ = ({ s₂ with vm := (U.calling g mk a).vm } : State).setVm s₂.vm := rfl
      rw [e2] at this
      exact this
    obtain ⟨c₂, i₂, len₂, hc₂, hd₂, hf₂⟩ := hend
    have hW' : U.WarmedH s₂.vm := hW₂
    have hcc : c₂ = c := by
      have h1 : s₂.code? g.method = U.code? g.method := by
        rw [State.code?_eq, State.code?_eq, hW'.alike.method?]
      exact Option.some.inj (hc₂.symm.trans (h1.trans h.code))
    subst hcc
    have hlen : len₂ = len := by rw [hdg] at hd₂; cases hd₂; rfl
    subst hlen
    have hs₂ : s₂ = (({ U with heap := s₂.heap, slotsUsed := s₂.slotsUsed } : State).setVm s₂.vm).setTop { g with pc := g.pc + len₂, stack := v.toList ++ g.stack } := by
      refine e3.trans ?_
      rw [hf₂, State.calling_eq h.top, State.setFrames_setFrames, State.setTop_of_frames _ hr', hr]
      rfl
    have hsame : U.sameButNew ({ U with heap := s₂.heap, slotsUsed := s₂.slotsUsed } : State) L mc ms := by
      refine ⟨?_, q2, q3, q4, q5, q6⟩
      obtain ⟨t, ht, -⟩ := State.frames_cons hr
      show ({ U with heap := s₂.heap, slotsUsed := s₂.slotsUsed } : State) = { U.setFrames U.frames with heap := s₂.heap, slotsUsed := s₂.slotsUsed }
      rw [State.setFrames_self ht]
    subst hg
    refine Or.inl ⟨v, ⟨(({ U with heap := s₂.heap, slotsUsed := s₂.slotsUsed } : State).setVm s₂.vm), Ls ++ L, c0 + mc, s0 + ms⟩,
      ⟨X.admits, X.cas, X.clock, X.frames, X.room, X.hears, X.method, X.code, (X.here.setHeapUsed s₂.heap s₂.slotsUsed).setVm hW'.alike, X.tail, State.WarmedH.trans X.warmed hW', X.limits, X.bytes, X.same.trans (hsame.setVm s.vm)⟩,
      ⟨g, mk, s₂, L, rfl, rfl, hqc, rfl, hL, rfl, rfl⟩, ?_⟩
    show Steps p.tables e below _ ((({ U with heap := s₂.heap, slotsUsed := s₂.slotsUsed } : State).setVm s₂.vm).setTop { g with pc := g.pc + len₂, stack := v.toList ++ g.stack })
    rw [← hs₂]
    exact hsteps
  · obtain ⟨e2, q2, q3, q4, q5, q6⟩ := id hsm
    have e3 : s₂ = ({ (U.calling g mk a).setFrames s₂.frames with heap := s₂.heap, slotsUsed := s₂.slotsUsed } : State).setVm s₂.vm := by
      have : s₂ = ({ s₂ with vm := (U.calling g mk a).vm } : State).setVm s₂.vm := rfl
      rw [e2] at this
      exact this
    have hf₂ : s₂.frames = .throwing q :: .java g :: U.frames.tail := hend
    have hW' : U.WarmedH s₂.vm := hW₂
    have hs₂ : s₂ = ((({ U with heap := s₂.heap, slotsUsed := s₂.slotsUsed } : State).setVm s₂.vm).setTop g).pushFrame (.throwing q) := by
      refine e3.trans ?_
      rw [hf₂, State.calling_eq h.top, State.setFrames_setFrames, State.pushFrame, State.frames_setTop _ hr', State.setTop_of_frames _ hr', State.setFrames_setFrames, hr]
      rfl
    have hsame : U.sameButNew ({ U with heap := s₂.heap, slotsUsed := s₂.slotsUsed } : State) L mc ms := by
      refine ⟨?_, q2, q3, q4, q5, q6⟩
      obtain ⟨t, ht, -⟩ := State.frames_cons hr
      show ({ U with heap := s₂.heap, slotsUsed := s₂.slotsUsed } : State) = { U.setFrames U.frames with heap := s₂.heap, slotsUsed := s₂.slotsUsed }
      rw [State.setFrames_self ht]
    subst hg
    refine Or.inr ⟨q, ⟨(({ U with heap := s₂.heap, slotsUsed := s₂.slotsUsed } : State).setVm s₂.vm), Ls ++ L, c0 + mc, s0 + ms⟩,
      ⟨X.admits, X.cas, X.clock, X.frames, X.room, X.hears, X.method, X.code, (X.here.setHeapUsed s₂.heap s₂.slotsUsed).setVm hW'.alike, X.tail, State.WarmedH.trans X.warmed hW', X.limits, X.bytes, X.same.trans (hsame.setVm s.vm)⟩,
      ⟨g, mk, s₂, L, E, ce, rfl, rfl, hx, hce, hcv, hcl, rfl, hL, rfl, rfl⟩, ?_⟩
    show Steps p.tables e below _ (((({ U with heap := s₂.heap, slotsUsed := s₂.slotsUsed } : State).setVm s₂.vm).setTop g).pushFrame (.throwing q))
    rw [← hs₂]
    exact hsteps
end Payer
section Calls
variable {p : Program} {l : Launch} {e : Env} {R : Room} {s : State} {m : MethodId} {args : Array Value} {below : List Frame} {meth : Method} {c : Code} {T : State} {locs : List Loc} {cells slots : Nat}
theorem vx_callV (X : Stand p l e R s m args below meth c T locs cells slots) (hexec : p.tables.exec = Jvm.exec) {own C : String} {index : Nat} {y : MethodName} {bytes : ByteArray} {maxL : Nat} {ret : Option FieldType}
    (hown : s.vm.findClass own = some m.cls) (hlink : (Cond.methodLink own index y).before args s = true) (hinst : (Cond.instanceMethod y).before args s = true) (hsel : (Cond.selects C y y).before args s = true)
    (hcode : (Cond.code y bytes maxL ret).before args s = true) (hy : y.cls ≠ "java/lang/invoke/MethodHandle" ∧ y.cls ≠ "java/lang/invoke/VarHandle")
    {W9 : Nat} {Pre : Pt → Array Value → Prop} {Post : Pt → Array Value → Option Value → Pt → Prop} {PostX : Pt → Array Value → Addr → Pt → Prop} (hK : vx_Back l R p e below s args y 3 W9 Pre Post PostX)
    {b : Addr} {cellB : Cell} (hcell : T.heap[b]? = some cellB) (hobj : cellB.vm.isStatics = false) (hcls : s.vm.findClass C = some cellB.cls)
    {g : JFrame} (hg : g.method = m) (hsize : g.locals.size = c.maxLocals) {argsL rest : List Value} (hlen : ∀ sig, parseMethodDescriptor y.desc = some sig → argsL.length = sig.parameters.length)
    (hstack : g.stack = argsL.reverse ++ .ref b :: rest) (hW : 2 * g.monitorRoom + (rest.map fun v => v.category).sum ≤ W9) (hdg : decode c.code g.pc = .ok (.invokevirtual index, 3))
    (hpre : ∀ vm₁, s.WarmedH vm₁ → Pre ⟨T.setVm vm₁, locs, cells, slots⟩ (Value.ref b :: argsL).toArray) :
    (∃ (v : Option Value) (vm₁ : Vm) (B : Pt), s.WarmedH vm₁ ∧ Stand p l e R s m args below meth c B.U B.locs B.cells B.slots ∧ Post ⟨T.setVm vm₁, locs, cells, slots⟩ (Value.ref b :: argsL).toArray v B ∧
      ∀ target, Steps p.tables e below (B.U.setTop { g with pc := g.pc + 3, stack := v.toList ++ rest }) target → Steps p.tables e below (T.setTop g) target) ∨
    (∃ (q : Addr) (vm₁ : Vm) (B : Pt), s.WarmedH vm₁ ∧ Stand p l e R s m args below meth c B.U B.locs B.cells B.slots ∧ PostX ⟨T.setVm vm₁, locs, cells, slots⟩ (Value.ref b :: argsL).toArray q B ∧
      Steps p.tables e below (T.setTop g) ((B.U.setTop { g with stack := rest }).pushFrame (.throwing q))) := by
  obtain ⟨mk, methM, hnamed, hmethM, hstM, habM⟩ := Cond.instanceMethod_spec hinst
  obtain ⟨methM', cM, hmethM', -, -, -, -, -, -, hsigM⟩ := Cond.code_spec hnamed hcode
  cases hmethM.symm.trans hmethM'
  obtain ⟨c2, r2, m2, q1, q2, q3, q4, kP, hkP, hkPi⟩ := Cond.selects_spec hsel
  cases hcls.symm.trans q1
  cases (State.methodFound?_of_named hnamed hy).symm.trans q2
  cases hnamed.symm.trans q3
  have hselP : selectMethod e.platform s.vm cellB.cls mk = .method mk := by rw [Launch.admits_selectMethod X.admits]; exact q4
  obtain ⟨vm₁, X₁, hstep₁⟩ := X.invokevirtual hexec hown hlink hnamed hmethM hstM hkP hkPi hy (a := b) (cell := cellB) hcell
    (fun z h => by rw [h] at hobj; cases hobj) hselP hmethM habM hkP hkPi (g := g) hg (argsL := argsL) (rest := rest) (hlen _ hsigM) hstack hdg
  rcases hK m meth c ⟨T.setVm vm₁, locs, cells, slots⟩ { g with stack := rest } (.invokevirtual index) mk (Value.ref b :: argsL).toArray X₁ hg hsize hdg hW (X₁.named hnamed) (hpre vm₁ X₁.warmed) with ⟨v, B, X', hpost, hsteps⟩ | ⟨q, B, X', hpost, hsteps⟩
  · exact Or.inl ⟨v, vm₁, B, X₁.warmed, X', hpost, fun target h => hstep₁ _ fun acts => by rw [doInvoke_state]; exact hsteps.trans h⟩
  · exact Or.inr ⟨q, vm₁, B, X₁.warmed, X', hpost, hstep₁ _ fun acts => by rw [doInvoke_state]; exact hsteps⟩
theorem vx_callS (X : Stand p l e R s m args below meth c T locs cells slots) (hexec : p.tables.exec = Jvm.exec) {own : String} {index : Nat} {y : MethodName} {bytes : ByteArray} {maxL : Nat} {ret : Option FieldType}
    (hown : s.vm.findClass own = some m.cls) (hlink : (Cond.methodLink own index y).before args s = true) (hstat : (Cond.static y).before args s = true) (hinit : (Cond.initialized y.cls).before args s = true)
    (hcode : (Cond.code y bytes maxL ret).before args s = true) (hy : y.cls ≠ "java/lang/invoke/MethodHandle" ∧ y.cls ≠ "java/lang/invoke/VarHandle")
    {W9 : Nat} {Pre : Pt → Array Value → Prop} {Post : Pt → Array Value → Option Value → Pt → Prop} {PostX : Pt → Array Value → Addr → Pt → Prop} (hK : vx_Back l R p e below s args y 3 W9 Pre Post PostX)
    {g : JFrame} (hg : g.method = m) (hsize : g.locals.size = c.maxLocals) {argsL rest : List Value} (hlen : ∀ sig, parseMethodDescriptor y.desc = some sig → argsL.length = sig.parameters.length)
    (hstack : g.stack = argsL.reverse ++ rest) (hW : 2 * g.monitorRoom + (rest.map fun v => v.category).sum ≤ W9) (hdg : decode c.code g.pc = .ok (.invokestatic index, 3))
    (hpre : ∀ vm₁, s.WarmedH vm₁ → Pre ⟨T.setVm vm₁, locs, cells, slots⟩ argsL.toArray) :
    (∃ (v : Option Value) (vm₁ : Vm) (B : Pt), s.WarmedH vm₁ ∧ Stand p l e R s m args below meth c B.U B.locs B.cells B.slots ∧ Post ⟨T.setVm vm₁, locs, cells, slots⟩ argsL.toArray v B ∧
      ∀ target, Steps p.tables e below (B.U.setTop { g with pc := g.pc + 3, stack := v.toList ++ rest }) target → Steps p.tables e below (T.setTop g) target) ∨
    (∃ (q : Addr) (vm₁ : Vm) (B : Pt), s.WarmedH vm₁ ∧ Stand p l e R s m args below meth c B.U B.locs B.cells B.slots ∧ PostX ⟨T.setVm vm₁, locs, cells, slots⟩ argsL.toArray q B ∧
      Steps p.tables e below (T.setTop g) ((B.U.setTop { g with stack := rest }).pushFrame (.throwing q))) := by
  obtain ⟨mk, hnamed⟩ := Cond.code_named hcode
  obtain ⟨methM, cM, hmethM, -, -, -, -, -, -, hsigM⟩ := Cond.code_spec hnamed hcode
  have hstatic : methM.isStatic = true := Cond.static_spec hnamed hmethM hstat
  obtain ⟨kP, hkP, -⟩ := className_of_methodNamed hnamed
  have hinitP : kP.init = .initialized := Cond.initialized_spec (findClass_of_methodNamed hnamed) hkP hinit
  obtain ⟨vm₁, X₁, hstep₁⟩ := X.invokestatic hexec hown hlink hnamed hmethM hstatic hkP hinitP hy (g := g) hg (argsL := argsL) (rest := rest) (hlen _ hsigM) hstack hdg
  rcases hK m meth c ⟨T.setVm vm₁, locs, cells, slots⟩ { g with stack := rest } (.invokestatic index) mk argsL.toArray X₁ hg hsize hdg hW (X₁.named hnamed) (hpre vm₁ X₁.warmed) with ⟨v, B, X', hpost, hsteps⟩ | ⟨q, B, X', hpost, hsteps⟩
  · exact Or.inl ⟨v, vm₁, B, X₁.warmed, X', hpost, fun target h => hstep₁ _ fun acts => by rw [doInvoke_state]; exact hsteps.trans h⟩
  · exact Or.inr ⟨q, vm₁, B, X₁.warmed, X', hpost, hstep₁ _ fun acts => by rw [doInvoke_state]; exact hsteps⟩
end Calls
theorem vx_cls {s : State} {T : State} {vm₁ : Vm} {E : String} {k : ClassId} (hW : s.WarmedH vm₁) (h : (T.setVm vm₁).vm.findClass E = some k) : s.vm.findClass E = some k := by
  have h1 : vm₁.findClass E = some k := h
  rw [hW.alike.findClass] at h1
  exact h1
/-- the method's frame g, with q thrown over it -/
def vx_W (p : Program) (l : Launch) (e : Env) (R : Room) (s : State) (m : MethodId) (args : Array Value) (below : List Frame) (meth : Method) (c : Code) (H : Heap) (locs : List Loc) (cells slots : Nat) (Q : State → Prop) (g : JFrame) (q : Addr) : Prop :=
  ∀ T : State, T.heap = H → Stand p l e R s m args below meth c T locs cells slots → ∃ t, Steps p.tables e below ((T.setTop g).pushFrame (.throwing q)) t ∧ Q t
def vx_Run (p : Program) (l : Launch) (e : Env) (R : Room) (s : State) (m : MethodId) (args : Array Value) (below : List Frame) (meth : Method) (c : Code) (H : Heap) (locs : List Loc) (cells slots mc ms : Nat) (g : JFrame) (rest : List Value) (Qa : State → Outcome → State → Prop) (XC : String → State → State → Prop) (free : Addr → Prop) : Prop :=
  ∀ T : State, T.heap = H → Stand p l e R s m args below meth c T locs cells slots →
    (∃ (v : Option Value) (st₀ t T' : State) (L : List Loc), st₀.heap = H ∧ Stand p l e R s m args below meth c T' (locs ++ L) (cells + mc) (slots + ms) ∧ (∀ q ∈ L, free q.base) ∧ T'.heap = t.heap ∧ T'.vm = t.vm ∧ Qa st₀ (.returned v) t ∧
      Goes p e below T g T' { g with pc := g.pc + 3, stack := v.toList ++ rest }) ∨
    (∃ (q : Addr) (st₀ t T' : State) (L : List Loc) (E : String) (ce : Cell), st₀.heap = H ∧ Stand p l e R s m args below meth c T' (locs ++ L) (cells + mc) (slots + ms) ∧ (∀ z ∈ L, free z.base) ∧ T'.heap = t.heap ∧ T'.vm = t.vm ∧ XC E st₀ t ∧ t.heap[q]? = some ce ∧ ce.vm = .none ∧ s.vm.findClass E = some ce.cls ∧
      Steps p.tables e below (T.setTop g) ((T'.setTop { g with stack := rest }).pushFrame (.throwing q)))
def vx_X {S : Type} (px : S → Prop) (B : String → S → State → Prop) (A : Nat → Prop) : String → State → State → Prop := fun E st t => ∃ u : S, px u ∧ B E u t ∧ va_F A st t
section Runs
variable {p : Program} {l : Launch} {e : Env} {R : Room} {s : State} {m : MethodId} {args : Array Value} {below : List Frame} {meth : Method} {c : Code} {H : Heap} {locs : List Loc} {cells slots : Nat}
variable {y : MethodName} {bytes cc : ByteArray} {maxL nL mc ms n index : Nat} {ret : Option FieldType} {ws : List Cond} {rm : Room} {Pc : Array Value → State → Prop} {Qc : Array Value → State → Outcome → State → Prop} {XC : String → State → State → Prop} {free : Addr → Prop} {Ts : List Cond} {own C : String} {b : Addr} {As rest : List Value} {g : JFrame}
theorem vx_callBack (cb : CallB R s args own index y bytes maxL ret ws rm mc ms n) (hM : vx_Met l y ws rm Pc Qc XC mc ms free) (hbl : FrameBlind Pc) : vx_Back l R p e below s args y 3 8 (PreOf R mc ms Pc) (PostOf Qc mc ms free) (vx_Post XC mc ms free) := by
  obtain ⟨hrc, hrs, hfr, hlo, hws, hcw, -, hini, -⟩ := cb
  exact vx_back (bytes := bytes) (maxL := maxL) (ret := ret) hM hbl hrc hrs hfr hlo hws hcw (fun a' U hW => word_at hW (Or.inl (by first | rfl | simp [Cond.onTables, Cond.keeps, Cond.steady])) hini)
theorem vx_runV (S : CallFix p m c cc nL s args Ts own) (hM : vx_Met l y ws rm Pc Qc XC mc ms free) (cw : CallW R s args own C index y bytes maxL ret ws rm mc ms n) (hp : PreV s H C b Pc As)
    (hg : g.method = m) (hn : As.length = n) (hsize : g.locals.size = nL) (hstack : g.stack = As.reverse ++ .ref b :: rest) (hW : 2 * g.monitorRoom + (rest.map fun v => v.category).sum ≤ 8) (hdg : decode cc g.pc = .ok (.invokevirtual index, 3)) (hf : cells + mc ≤ R.cells ∧ slots + ms ≤ R.slots) :
    vx_Run p l e R s m args below meth c H locs cells slots mc ms g rest (Qc (Value.ref b :: As).toArray) XC free := by
  have hK : vx_Back l R p e below s args y 3 8 (PreOf R mc ms Pc) (PostOf Qc mc ms free) (vx_Post XC mc ms free) := vx_callBack cw.1 hM hp.1
  obtain ⟨⟨-, -, -, -, -, -, hcode, -, hy, hlen, hl⟩, hin, hse⟩ := cw
  obtain ⟨hx, hb, hml, ho, -⟩ := S
  obtain ⟨-, ⟨cellB, hcB, hoB, hclB⟩, hPc⟩ := hp
  intro T hT X
  rcases vx_callV X hx (C := C) (bytes := bytes) (maxL := maxL) (ret := ret) ho hl hin hse hcode hy hK (by rw [hT]; exact hcB) hoB hclB hg (hsize.trans hml.symm) (argsL := As) (rest := rest) (fun sig h => hn.trans (hlen sig h)) hstack hW (by rw [hb]; exact hdg)
    (fun vm₁ hW₁ => ⟨hf.1, hf.2, hPc (T.setVm vm₁) hT hW₁⟩) with ⟨v, vm₁, ⟨U', l2, c2, s2⟩, hW₁, X', ⟨g', mk, t, L, e1, e2, hq, h1, hL, h2, h3⟩, st⟩ | ⟨q, vm₁, ⟨U', l2, c2, s2⟩, hW₁, X', ⟨g', mk, t, L, E, ce, e1, e2, hq, hce, hcv, hcl, h1, hL, h2, h3⟩, st⟩
  · dsimp only [Pt.U, Pt.locs, Pt.cells, Pt.slots] at X' e1 e2 h1 h2 h3 st
    subst h1; subst h2; subst h3
    exact Or.inl ⟨v, (T.setVm vm₁).calling g' mk (Value.ref b :: As).toArray, t, U', L, hT, X', hL, e1, e2, hq, st⟩
  · dsimp only [Pt.U, Pt.locs, Pt.cells, Pt.slots] at X' e1 e2 h1 h2 h3 st hcl
    subst h1; subst h2; subst h3
    exact Or.inr ⟨q, (T.setVm vm₁).calling g' mk (Value.ref b :: As).toArray, t, U', L, E, ce, hT, X', hL, e1, e2, hq, hce, hcv, vx_cls hW₁ hcl, st⟩
theorem vx_runS (S : CallFix p m c cc nL s args Ts own) (hM : vx_Met l y ws rm Pc Qc XC mc ms free) (cw : CallB R s args own index y bytes maxL ret ws rm mc ms n ∧ (Cond.static y).before args s = true) (hp : PreS s H Pc As)
    (hg : g.method = m) (hn : As.length = n) (hsize : g.locals.size = nL) (hstack : g.stack = As.reverse ++ rest) (hW : 2 * g.monitorRoom + (rest.map fun v => v.category).sum ≤ 8) (hdg : decode cc g.pc = .ok (.invokestatic index, 3)) (hf : cells + mc ≤ R.cells ∧ slots + ms ≤ R.slots) :
    vx_Run p l e R s m args below meth c H locs cells slots mc ms g rest (Qc As.toArray) XC free := by
  have hK : vx_Back l R p e below s args y 3 8 (PreOf R mc ms Pc) (PostOf Qc mc ms free) (vx_Post XC mc ms free) := vx_callBack cw.1 hM hp.1
  obtain ⟨⟨-, -, -, -, -, -, hcode, hini, hy, hlen, hl⟩, hstt⟩ := cw
  obtain ⟨hx, hb, hml, ho, -⟩ := S
  intro T hT X
  rcases vx_callS X hx (bytes := bytes) (maxL := maxL) (ret := ret) ho hl hstt hini hcode hy hK hg (hsize.trans hml.symm) (argsL := As) (rest := rest) (fun sig h => hn.trans (hlen sig h)) hstack hW (by rw [hb]; exact hdg)
    (fun vm₁ hW₁ => ⟨hf.1, hf.2, hp.2 (T.setVm vm₁) hT hW₁⟩) with ⟨v, vm₁, ⟨U', l2, c2, s2⟩, hW₁, X', ⟨g', mk, t, L, e1, e2, hq, h1, hL, h2, h3⟩, st⟩ | ⟨q, vm₁, ⟨U', l2, c2, s2⟩, hW₁, X', ⟨g', mk, t, L, E, ce, e1, e2, hq, hce, hcv, hcl, h1, hL, h2, h3⟩, st⟩
  · dsimp only [Pt.U, Pt.locs, Pt.cells, Pt.slots] at X' e1 e2 h1 h2 h3 st
    subst h1; subst h2; subst h3
    exact Or.inl ⟨v, (T.setVm vm₁).calling g' mk As.toArray, t, U', L, hT, X', hL, e1, e2, hq, st⟩
  · dsimp only [Pt.U, Pt.locs, Pt.cells, Pt.slots] at X' e1 e2 h1 h2 h3 st hcl
    subst h1; subst h2; subst h3
    exact Or.inr ⟨q, (T.setVm vm₁).calling g' mk As.toArray, t, U', L, E, ce, hT, X', hL, e1, e2, hq, hce, hcv, vx_cls hW₁ hcl, st⟩
end Runs
section Rows
variable {p : Program} {l : Launch} {e : Env} {R : Room} {s : State} {m : MethodId} {args : Array Value} {below : List Frame} {meth : Method} {c : Code} {H : Heap} {locs : List Loc} {cells slots : Nat} {Q : State → Prop}
variable {mc ms : Nat} {free : Addr → Prop} {A0 A1 : Nat → Prop} {H0 : Heap} {a : Array Value} {pc : Nat} {ls : Array Slot} {st0 rest : List Value}
theorem vx_keep {st₀ t T' : State} {L : List Loc} (h0 : st₀.heap = H) (e1 : T'.heap = t.heap) (hS : va_S A0 H0 H locs) (hA : ∀ q, q < H.size → A1 q → A0 q) (hf : ∀ q, free q → A0 q) (hL : ∀ q ∈ L, free q.base) (hF : va_F A1 st₀ t) :
    H.size ≤ T'.heap.size ∧ (∀ q : Nat, q < H.size → ¬ A1 q → T'.heap[q]? = H[q]?) ∧ va_S A0 H0 T'.heap (locs ++ L) := by
  obtain ⟨hz, hk⟩ := hF
  rw [h0] at hz hk
  exact ⟨by rw [e1]; exact hz, fun q h1 h2 => by rw [e1]; exact hk q h1 h2,
    ⟨Nat.le_trans hS.1 (by rw [e1]; exact hz), fun q h1 h2 => by rw [e1, hk q (Nat.lt_of_lt_of_le h1 hS.1) (fun z => h2 (hA q (Nat.lt_of_lt_of_le h1 hS.1) z))]; exact hS.2.1 q h1 h2, fun q hq => by
      rcases List.mem_append.mp hq with h | h
      · exact hS.2.2 q h
      · exact hf _ (hL q h)⟩⟩
theorem vx_calli {S SX : Type} {post : Int32 → S → Prop} {px : SX → Prop} {B : S → State → Prop} {BX : String → SX → State → Prop} {AX : Nat → Prop} (hr : vx_Run p l e R s m args below meth c H locs cells slots mc ms (F0 m pc ls st0) rest (va_Qi post B A1 a) (vx_X px BX AX) free) (hS : va_S A0 H0 H locs) (hA : ∀ q, q < H.size → A1 q → A0 q) (hf : ∀ q, free q → A0 q) (hAX : ∀ q, q < H.size → AX q → A0 q)
    (kx : ∀ (E : String) (ce : Cell) (q9 : Addr) (u : SX) (t : State) (H1 : Heap) (locs1 : List Loc), t.heap = H1 → s.vm.Alike t.vm → px u → BX E u t → H.size ≤ H1.size → (∀ q : Nat, q < H.size → ¬ AX q → H1[q]? = H[q]?) → va_S A0 H0 H1 locs1 → H1[q9]? = some ce → ce.vm = .none → s.vm.findClass E = some ce.cls → vx_W p l e R s m args below meth c H1 locs1 (cells + mc) (slots + ms) Q (F0 m pc ls rest) q9)
    (kk : ∀ (r : Int32) (u : S) (t : State) (H1 : Heap) (locs1 : List Loc), t.heap = H1 → s.vm.Alike t.vm → post r u → B u t → H.size ≤ H1.size → (∀ q : Nat, q < H.size → ¬ A1 q → H1[q]? = H[q]?) → va_S A0 H0 H1 locs1 → W p l e R s m args below meth c H1 locs1 (cells + mc) (slots + ms) Q (F0 m (pc + 3) ls (.int r :: rest))) : W p l e R s m args below meth c H locs cells slots Q (F0 m pc ls st0) := by
  intro T hT X
  rcases hr T hT X with ⟨v, st₀, t, T', L, h0, X', hL, e1, e2, ⟨⟨r, u, hv, hp, hb⟩, hF⟩, st⟩ | ⟨q, st₀, t, T', L, E, ce, h0, X', hL, e1, e2, ⟨u, hp, hb, hF⟩, hce, hcv, hcl, st⟩
  · cases hv
    obtain ⟨k1, k2, k3⟩ := vx_keep h0 e1 hS hA hf hL hF
    obtain ⟨t2, a1, b1⟩ := kk r u t T'.heap (locs ++ L) e1.symm (by rw [← e2]; exact X'.warmed.alike) hp hb k1 k2 k3 T' rfl X'
    exact ⟨t2, st t2 a1, b1⟩
  · obtain ⟨k1, k2, k3⟩ := vx_keep h0 e1 hS hAX hf hL hF
    obtain ⟨t2, a1, b1⟩ := kx E ce q u t T'.heap (locs ++ L) e1.symm (by rw [← e2]; exact X'.warmed.alike) hp hb k1 k2 k3 (by rw [e1]; exact hce) hcv hcl T' rfl X'
    exact ⟨t2, st.trans a1, b1⟩
theorem vx_calll {S SX : Type} {post : Int64 → S → Prop} {px : SX → Prop} {B : S → State → Prop} {BX : String → SX → State → Prop} {AX : Nat → Prop} (hr : vx_Run p l e R s m args below meth c H locs cells slots mc ms (F0 m pc ls st0) rest (va_Ql post B A1 a) (vx_X px BX AX) free) (hS : va_S A0 H0 H locs) (hA : ∀ q, q < H.size → A1 q → A0 q) (hf : ∀ q, free q → A0 q) (hAX : ∀ q, q < H.size → AX q → A0 q)
    (kx : ∀ (E : String) (ce : Cell) (q9 : Addr) (u : SX) (t : State) (H1 : Heap) (locs1 : List Loc), t.heap = H1 → s.vm.Alike t.vm → px u → BX E u t → H.size ≤ H1.size → (∀ q : Nat, q < H.size → ¬ AX q → H1[q]? = H[q]?) → va_S A0 H0 H1 locs1 → H1[q9]? = some ce → ce.vm = .none → s.vm.findClass E = some ce.cls → vx_W p l e R s m args below meth c H1 locs1 (cells + mc) (slots + ms) Q (F0 m pc ls rest) q9)
    (kk : ∀ (r : Int64) (u : S) (t : State) (H1 : Heap) (locs1 : List Loc), t.heap = H1 → s.vm.Alike t.vm → post r u → B u t → H.size ≤ H1.size → (∀ q : Nat, q < H.size → ¬ A1 q → H1[q]? = H[q]?) → va_S A0 H0 H1 locs1 → W p l e R s m args below meth c H1 locs1 (cells + mc) (slots + ms) Q (F0 m (pc + 3) ls (.long r :: rest))) : W p l e R s m args below meth c H locs cells slots Q (F0 m pc ls st0) := by
  intro T hT X
  rcases hr T hT X with ⟨v, st₀, t, T', L, h0, X', hL, e1, e2, ⟨⟨r, u, hv, hp, hb⟩, hF⟩, st⟩ | ⟨q, st₀, t, T', L, E, ce, h0, X', hL, e1, e2, ⟨u, hp, hb, hF⟩, hce, hcv, hcl, st⟩
  · cases hv
    obtain ⟨k1, k2, k3⟩ := vx_keep h0 e1 hS hA hf hL hF
    obtain ⟨t2, a1, b1⟩ := kk r u t T'.heap (locs ++ L) e1.symm (by rw [← e2]; exact X'.warmed.alike) hp hb k1 k2 k3 T' rfl X'
    exact ⟨t2, st t2 a1, b1⟩
  · obtain ⟨k1, k2, k3⟩ := vx_keep h0 e1 hS hAX hf hL hF
    obtain ⟨t2, a1, b1⟩ := kx E ce q u t T'.heap (locs ++ L) e1.symm (by rw [← e2]; exact X'.warmed.alike) hp hb k1 k2 k3 (by rw [e1]; exact hce) hcv hcl T' rfl X'
    exact ⟨t2, st.trans a1, b1⟩
theorem vx_callf {S SX : Type} {post : UInt32 → S → Prop} {px : SX → Prop} {B : S → State → Prop} {BX : String → SX → State → Prop} {AX : Nat → Prop} (hr : vx_Run p l e R s m args below meth c H locs cells slots mc ms (F0 m pc ls st0) rest (va_Qf post B A1 a) (vx_X px BX AX) free) (hS : va_S A0 H0 H locs) (hA : ∀ q, q < H.size → A1 q → A0 q) (hf : ∀ q, free q → A0 q) (hAX : ∀ q, q < H.size → AX q → A0 q)
    (kx : ∀ (E : String) (ce : Cell) (q9 : Addr) (u : SX) (t : State) (H1 : Heap) (locs1 : List Loc), t.heap = H1 → s.vm.Alike t.vm → px u → BX E u t → H.size ≤ H1.size → (∀ q : Nat, q < H.size → ¬ AX q → H1[q]? = H[q]?) → va_S A0 H0 H1 locs1 → H1[q9]? = some ce → ce.vm = .none → s.vm.findClass E = some ce.cls → vx_W p l e R s m args below meth c H1 locs1 (cells + mc) (slots + ms) Q (F0 m pc ls rest) q9)
    (kk : ∀ (r : UInt32) (u : S) (t : State) (H1 : Heap) (locs1 : List Loc), t.heap = H1 → s.vm.Alike t.vm → post r u → B u t → H.size ≤ H1.size → (∀ q : Nat, q < H.size → ¬ A1 q → H1[q]? = H[q]?) → va_S A0 H0 H1 locs1 → W p l e R s m args below meth c H1 locs1 (cells + mc) (slots + ms) Q (F0 m (pc + 3) ls (.float r :: rest))) : W p l e R s m args below meth c H locs cells slots Q (F0 m pc ls st0) := by
  intro T hT X
  rcases hr T hT X with ⟨v, st₀, t, T', L, h0, X', hL, e1, e2, ⟨⟨r, u, hv, hp, hb⟩, hF⟩, st⟩ | ⟨q, st₀, t, T', L, E, ce, h0, X', hL, e1, e2, ⟨u, hp, hb, hF⟩, hce, hcv, hcl, st⟩
  · cases hv
    obtain ⟨k1, k2, k3⟩ := vx_keep h0 e1 hS hA hf hL hF
    obtain ⟨t2, a1, b1⟩ := kk r u t T'.heap (locs ++ L) e1.symm (by rw [← e2]; exact X'.warmed.alike) hp hb k1 k2 k3 T' rfl X'
    exact ⟨t2, st t2 a1, b1⟩
  · obtain ⟨k1, k2, k3⟩ := vx_keep h0 e1 hS hAX hf hL hF
    obtain ⟨t2, a1, b1⟩ := kx E ce q u t T'.heap (locs ++ L) e1.symm (by rw [← e2]; exact X'.warmed.alike) hp hb k1 k2 k3 (by rw [e1]; exact hce) hcv hcl T' rfl X'
    exact ⟨t2, st.trans a1, b1⟩
theorem vx_calld {S SX : Type} {post : UInt64 → S → Prop} {px : SX → Prop} {B : S → State → Prop} {BX : String → SX → State → Prop} {AX : Nat → Prop} (hr : vx_Run p l e R s m args below meth c H locs cells slots mc ms (F0 m pc ls st0) rest (va_Qd post B A1 a) (vx_X px BX AX) free) (hS : va_S A0 H0 H locs) (hA : ∀ q, q < H.size → A1 q → A0 q) (hf : ∀ q, free q → A0 q) (hAX : ∀ q, q < H.size → AX q → A0 q)
    (kx : ∀ (E : String) (ce : Cell) (q9 : Addr) (u : SX) (t : State) (H1 : Heap) (locs1 : List Loc), t.heap = H1 → s.vm.Alike t.vm → px u → BX E u t → H.size ≤ H1.size → (∀ q : Nat, q < H.size → ¬ AX q → H1[q]? = H[q]?) → va_S A0 H0 H1 locs1 → H1[q9]? = some ce → ce.vm = .none → s.vm.findClass E = some ce.cls → vx_W p l e R s m args below meth c H1 locs1 (cells + mc) (slots + ms) Q (F0 m pc ls rest) q9)
    (kk : ∀ (r : UInt64) (u : S) (t : State) (H1 : Heap) (locs1 : List Loc), t.heap = H1 → s.vm.Alike t.vm → post r u → B u t → H.size ≤ H1.size → (∀ q : Nat, q < H.size → ¬ A1 q → H1[q]? = H[q]?) → va_S A0 H0 H1 locs1 → W p l e R s m args below meth c H1 locs1 (cells + mc) (slots + ms) Q (F0 m (pc + 3) ls (.double r :: rest))) : W p l e R s m args below meth c H locs cells slots Q (F0 m pc ls st0) := by
  intro T hT X
  rcases hr T hT X with ⟨v, st₀, t, T', L, h0, X', hL, e1, e2, ⟨⟨r, u, hv, hp, hb⟩, hF⟩, st⟩ | ⟨q, st₀, t, T', L, E, ce, h0, X', hL, e1, e2, ⟨u, hp, hb, hF⟩, hce, hcv, hcl, st⟩
  · cases hv
    obtain ⟨k1, k2, k3⟩ := vx_keep h0 e1 hS hA hf hL hF
    obtain ⟨t2, a1, b1⟩ := kk r u t T'.heap (locs ++ L) e1.symm (by rw [← e2]; exact X'.warmed.alike) hp hb k1 k2 k3 T' rfl X'
    exact ⟨t2, st t2 a1, b1⟩
  · obtain ⟨k1, k2, k3⟩ := vx_keep h0 e1 hS hAX hf hL hF
    obtain ⟨t2, a1, b1⟩ := kx E ce q u t T'.heap (locs ++ L) e1.symm (by rw [← e2]; exact X'.warmed.alike) hp hb k1 k2 k3 (by rw [e1]; exact hce) hcv hcl T' rfl X'
    exact ⟨t2, st.trans a1, b1⟩
theorem vx_callv {S SX : Type} {post : S → Prop} {px : SX → Prop} {B : S → State → Prop} {BX : String → SX → State → Prop} {AX : Nat → Prop} (hr : vx_Run p l e R s m args below meth c H locs cells slots mc ms (F0 m pc ls st0) rest (va_Qv post B A1 a) (vx_X px BX AX) free) (hS : va_S A0 H0 H locs) (hA : ∀ q, q < H.size → A1 q → A0 q) (hf : ∀ q, free q → A0 q) (hAX : ∀ q, q < H.size → AX q → A0 q)
    (kx : ∀ (E : String) (ce : Cell) (q9 : Addr) (u : SX) (t : State) (H1 : Heap) (locs1 : List Loc), t.heap = H1 → s.vm.Alike t.vm → px u → BX E u t → H.size ≤ H1.size → (∀ q : Nat, q < H.size → ¬ AX q → H1[q]? = H[q]?) → va_S A0 H0 H1 locs1 → H1[q9]? = some ce → ce.vm = .none → s.vm.findClass E = some ce.cls → vx_W p l e R s m args below meth c H1 locs1 (cells + mc) (slots + ms) Q (F0 m pc ls rest) q9)
    (kk : ∀ (u : S) (t : State) (H1 : Heap) (locs1 : List Loc), t.heap = H1 → s.vm.Alike t.vm → post u → B u t → H.size ≤ H1.size → (∀ q : Nat, q < H.size → ¬ A1 q → H1[q]? = H[q]?) → va_S A0 H0 H1 locs1 → W p l e R s m args below meth c H1 locs1 (cells + mc) (slots + ms) Q (F0 m (pc + 3) ls (rest))) : W p l e R s m args below meth c H locs cells slots Q (F0 m pc ls st0) := by
  intro T hT X
  rcases hr T hT X with ⟨v, st₀, t, T', L, h0, X', hL, e1, e2, ⟨⟨u, hv, hp, hb⟩, hF⟩, st⟩ | ⟨q, st₀, t, T', L, E, ce, h0, X', hL, e1, e2, ⟨u, hp, hb, hF⟩, hce, hcv, hcl, st⟩
  · cases hv
    obtain ⟨k1, k2, k3⟩ := vx_keep h0 e1 hS hA hf hL hF
    obtain ⟨t2, a1, b1⟩ := kk u t T'.heap (locs ++ L) e1.symm (by rw [← e2]; exact X'.warmed.alike) hp hb k1 k2 k3 T' rfl X'
    exact ⟨t2, st t2 a1, b1⟩
  · obtain ⟨k1, k2, k3⟩ := vx_keep h0 e1 hS hAX hf hL hF
    obtain ⟨t2, a1, b1⟩ := kx E ce q u t T'.heap (locs ++ L) e1.symm (by rw [← e2]; exact X'.warmed.alike) hp hb k1 k2 k3 (by rw [e1]; exact hce) hcv hcl T' rfl X'
    exact ⟨t2, st.trans a1, b1⟩
/-- caught by the row x of this method's table; the rows ahead don't take it -/
theorem vx_catch {own name : String} {E : String} {ce : Cell} {q : Addr} (hown : s.vm.findClass own = some m.cls) (pre : List ExceptionTableEntry) (x : ExceptionTableEntry) (suf : List ExceptionTableEntry) (hsplit : c.exceptionTable.toList = pre ++ x :: suf)
    (hpass : ∀ z ∈ pre, covers z pc = false ∨ (z.catchType ≠ 0 ∧ ∃ nm : String, (Cond.classLink own z.catchType nm).before args s = true ∧ va_Nc E nm s)) (hx : covers x pc = true) (h0 : x.catchType ≠ 0)
    (hlink : (Cond.classLink own x.catchType name).before args s = true) (hcast : (Cond.castable E name).before args s = true) (hcell : H[q]? = some ce) (hv : ce.vm = .none) (hcl : s.vm.findClass E = some ce.cls)
    (kk : W p l e R s m args below meth c H locs cells slots Q (F0 m x.handlerPc ls [.ref q])) : vx_W p l e R s m args below meth c H locs cells slots Q (F0 m pc ls rest) q := by
  intro T hT X
  have hpl : e.platform.magicAccessors = ({} : Platform).magicAccessors := by rw [X.admits.platform]
  obtain ⟨c3, c4, hc3, hc4, hasg⟩ := Cond.castable_spec hcast
  cases Option.some.inj (hc3.symm.trans hcl)
  obtain ⟨c5, hc5, hcl5⟩ := Cond.classLink_spec hown hlink e.platform hpl
  cases Option.some.inj (hc4.symm.trans hc5)
  obtain ⟨vm', X', st⟩ := Stand.thenCaughtThrough X q (g := F0 m pc ls rest) rfl (Steps.refl _) (by rw [hT]; exact hcell) (by rw [hv]; rfl) (by obtain ⟨k9, h9, -⟩ := Vm.findClass_spec hcl; exact ⟨k9, h9⟩) pre x suf hsplit
    (fun z hz => by
      rcases hpass z hz with h | ⟨hz0, nm, hl1, hn1⟩
      · exact Or.inl h
      · obtain ⟨c6, hc6, hcl6⟩ := Cond.classLink_spec hown hl1 e.platform hpl
        obtain ⟨a8, b8, h1, h2, h3⟩ := hn1
        cases Option.some.inj (h1.symm.trans hcl)
        cases Option.some.inj (h2.symm.trans hc6)
        exact Or.inr ⟨hz0, _, hcl6, h3⟩) hx (Or.inr ⟨h0, c4, hcl5, hasg⟩)
  obtain ⟨t, a1, b1⟩ := kk (T.setVm vm') hT X'
  exact ⟨t, st.trans a1, b1⟩
end Rows
section Ends
variable {p : Program} {l : Launch} {e : Env} {R : Room} {s : State} {m : MethodId} {args : Array Value} {below : List Frame} {meth : Method} {c : Code} {H : Heap} {locs : List Loc} {cells slots : Nat} {Q : State → Prop}
variable {mc ms : Nat} {free : Addr → Prop} {A0 A1 : Nat → Prop} {H0 : Heap} {a : Array Value} {ls : Array Slot} {st0 rest : List Value}
variable {Qc : Array Value → State → Outcome → State → Prop} {XC : String → State → State → Prop}
/-- what a body that may throw owes at its end -/
def vx_MQ (below : List Frame) (Qc : Array Value → State → Outcome → State → Prop) (XC : String → State → State → Prop) (a : Array Value) (s : State) (mc ms : Nat) (free : Addr → Prop) : State → Prop := fun t =>
  ∃ o, t.status = .running ∧ Ended t below o ∧ vx_Q Qc XC mc ms free a s o t
theorem vx_ret {g : JFrame} {mc ms : Nat} (k : W p l e R s m args below meth c H locs cells slots (MQ below Qc args s mc ms free) g) : W p l e R s m args below meth c H locs cells slots (vx_MQ below Qc XC args s mc ms free) g := by
  intro T hT X
  obtain ⟨t, a1, o, b1, b2, b3, b4⟩ := k T hT X
  exact ⟨t, a1, o, b1, b2, Or.inl ⟨b3, b4⟩⟩
/-- not caught here: it goes on to the caller -/
theorem vx_widen {g : JFrame} {q : Addr} {k n : Nat} (h1 : cells ≤ k) (h2 : slots ≤ n) (kk : vx_W p l e R s m args below meth c H locs k n Q g q) : vx_W p l e R s m args below meth c H locs cells slots Q g q := fun T hT X => kk T hT (stand_widen X h1 h2)
theorem vx_out {pc : Nat} {E : String} {ce : Cell} {q : Addr} {mc ms : Nat} (hout : ∀ x ∈ c.exceptionTable.toList, covers x pc = false) (hlocks : meth.locks = false) (hcell : H[q]? = some ce) (hv : ce.vm = .none) (hcl : s.vm.findClass E = some ce.cls)
    (hx : ∀ t : State, t.heap = H → s.vm.Alike t.vm → XC E s t) (hf : ∀ z ∈ locs, free z.base) (hc : cells ≤ mc) (hs : slots ≤ ms) :
    vx_W p l e R s m args below meth c H locs cells slots (vx_MQ below Qc XC args s mc ms free) (F0 m pc ls rest) q := by
  intro T hT X
  obtain ⟨st1, hrun, hend, hW, hsm⟩ := X.leaveThrown q (g := F0 m pc ls rest) rfl rfl rfl hout hlocks
  have hcell9 : (T.setFrames (.throwing q :: below)).heap[q]? = some ce := by
    show T.heap[q]? = some ce
    rw [hT]; exact hcell
  exact ⟨_, st1, .threw q, hrun, hend, Or.inr ⟨q, rfl, E, ce, locs, hx _ hT hW.alike, hcell9, hv, hcl, hW, hsm.mono hc hs, hf⟩⟩
theorem vx_frame {U : State} {k n : Nat} (h : s.sameButNew ({ U with vm := s.vm } : State) locs k n) : s.heap.size ≤ U.heap.size ∧ ∀ q : Nat, q < s.heap.size → (∀ z ∈ locs, z.base ≠ q) → U.heap[q]? = s.heap[q]? := by
  obtain ⟨-, h2, -, -, -, h6⟩ := h
  refine ⟨h2, fun q hq hz => ?_⟩
  obtain ⟨c9, e1, e2, e3, e4⟩ := h6 q _ (Array.getElem?_eq_getElem hq)
  have hs : c9.slots = (s.heap[q]).slots := Array.ext_getElem? fun i => e4 i fun hm => hz _ hm rfl
  have h9 : c9 = s.heap[q] := by
    rw [hs] at e2
    exact e2
  have e5 : U.heap[q]? = some c9 := e1
  rw [e5, h9, Array.getElem?_eq_getElem hq]
/-- the words of a throw but the four that speak of the heap -/
def vx_no (w : Cond) : Bool := decide (w ≠ .isRef (.static Bundle.tN "UNASSIGNED_STACK" Bundle.steD)) && decide (w ≠ .isRef (.static Bundle.tN "SUPPRESSED_SENTINEL" Bundle.listD)) && decide (w ≠ .laysStatic Bundle.tN "UNASSIGNED_STACK" Bundle.steD) && decide (w ≠ .laysStatic Bundle.tN "SUPPRESSED_SENTINEL" Bundle.listD)
def vx_at0 (own : String) (ic : Nat) (X : String) (names : List String) : List Cond := (Bundle.ownAtoms0 own ic X names).filter vx_no
def vx_atS (own : String) (ic : Nat) (X : String) (names : List String) : List Cond := (Bundle.ownAtoms own ic X names).filter vx_no
/-- a word that the tables alone decide, or a good one -/
def vx_ot (w : Cond) : Bool := w.onTables || goodWord w
theorem vx_ot_at {args a' : Array Value} {s U : State} {w : Cond} (hW : s.WarmedH U.vm) (hvm : s.vm = U.vm) (hg : vx_ot w = true) (h : w.before args s = true) : w.before a' U = true := by
  simp only [vx_ot, Bool.or_eq_true] at hg
  rcases hg with hg | hg
  · exact va_tabs hg hvm h
  · exact word_at hW (good_of_word hg) h
/-- a list's words: the good ones out of the method's own list, the others by premises of their own -/
theorem vx_hat {args : Array Value} {s : State} {L B : List Cond} (h1 : ∀ w ∈ L.filter goodWord, w.before args s = true) (h2 : ∀ w ∈ L.filter (fun w => !goodWord w), w ∈ B) (h3 : ∀ w ∈ B, w.before args s = true) : ∀ w ∈ L, w.before args s = true := by
  intro w hw
  by_cases g : goodWord w = true
  · exact h1 w (List.mem_filter.mpr ⟨hw, g⟩)
  · refine h3 w (h2 w (List.mem_filter.mpr ⟨hw, ?_⟩))
    show (!goodWord w) = true
    cases hgw : goodWord w
    · rfl
    · exact absurd hgw g
theorem vx_c {args : Array Value} {s : State} {w : Cond} {B : List Cond} (h : w.before args s = true) (t : ∀ w ∈ B, w.before args s = true) : ∀ w' ∈ w :: B, w'.before args s = true := fun w' h' => (List.mem_cons.mp h').elim (fun e => by rw [e]; exact h) (t w')
theorem vx_n {args : Array Value} {s : State} : ∀ w ∈ ([] : List Cond), w.before args s = true := fun _ h => nomatch h
theorem vx_own {args : Array Value} {s : State} {L : List Cond} (h1 : ∀ w ∈ L.filter vx_no, w.before args s = true)
    (hU : (Cond.isRef (.static Bundle.tN "UNASSIGNED_STACK" Bundle.steD)).before args s = true) (hN : (Cond.isRef (.static Bundle.tN "SUPPRESSED_SENTINEL" Bundle.listD)).before args s = true)
    (lU : (Cond.laysStatic Bundle.tN "UNASSIGNED_STACK" Bundle.steD).before args s = true) (lN : (Cond.laysStatic Bundle.tN "SUPPRESSED_SENTINEL" Bundle.listD).before args s = true) : ∀ w ∈ L, w.before args s = true := by
  intro w hw
  by_cases e1 : w = .isRef (.static Bundle.tN "UNASSIGNED_STACK" Bundle.steD)
  · rw [e1]; exact hU
  · by_cases e2 : w = .isRef (.static Bundle.tN "SUPPRESSED_SENTINEL" Bundle.listD)
    · rw [e2]; exact hN
    · by_cases e3 : w = .laysStatic Bundle.tN "UNASSIGNED_STACK" Bundle.steD
      · rw [e3]; exact lU
      · by_cases e4 : w = .laysStatic Bundle.tN "SUPPRESSED_SENTINEL" Bundle.listD
        · rw [e4]; exact lN
        · exact h1 w (List.mem_filter.mpr ⟨hw, by unfold vx_no; rw [decide_eq_true e1, decide_eq_true e2, decide_eq_true e3, decide_eq_true e4]; rfl⟩)
/-- where a static field lies, its class's statics cell in H -/
def vx_L (C n d : String) (A : Nat → Prop) (U : State) (H : Heap) : Prop := ∃ (c : ClassId) (k : Class) (i : Nat) (f : Field) (a : Nat) (cell : Cell), U.vm.findClass C = some c ∧ U.fieldFound? C n d = some (c, k, i, f) ∧ f.isStatic = true ∧ k.statics = some a ∧ H[a]? = some cell ∧ cell.vm.isStatics = true ∧ cell.cls = c ∧ f.slot < cell.slots.size ∧ k.staticTypes[f.slot]? = some f.type ∧ ¬ A a
theorem vx_L.moved {C n d : String} {A : Nat → Prop} {u U : State} {H : Heap} (hvm : u.vm.Alike U.vm) (h : vx_L C n d A u H) : vx_L C n d A U H := by
  obtain ⟨c, k, i, f, a, cell, h1, h2, h3, h4, h5, h6, h7, h8, h9, h10⟩ := h
  obtain ⟨k', hi', he⟩ := State.fieldFound?_setVm hvm h2
  exact ⟨c, k', i, f, a, cell, by rw [hvm.findClass]; exact h1, hi', h3, by rw [he]; exact h4, h5, h6, h7, h8, by rw [he]; exact h9, h10⟩
theorem vx_L.kept {C n d : String} {A : Nat → Prop} {U : State} {H H1 : Heap} (h : vx_L C n d A U H) (hq : ∀ a : Nat, a < H.size → ¬ A a → H1[a]? = H[a]?) : vx_L C n d A U H1 := by
  obtain ⟨c, k, i, f, a, cell, h1, h2, h3, h4, h5, h6, h7, h8, h9, h10⟩ := h
  exact ⟨c, k, i, f, a, cell, h1, h2, h3, h4, by rw [hq a (Array.getElem?_eq_some_iff.mp h5).1 h10]; exact h5, h6, h7, h8, h9, h10⟩
theorem vx_L.narrow {C n d : String} {A B : Nat → Prop} {U : State} {H : Heap} (h : vx_L C n d A U H) (hAB : ∀ q, B q → A q) : vx_L C n d B U H := by
  obtain ⟨c, k, i, f, a, cell, h1, h2, h3, h4, h5, h6, h7, h8, h9, h10⟩ := h
  exact ⟨c, k, i, f, a, cell, h1, h2, h3, h4, h5, h6, h7, h8, h9, fun z => h10 (hAB _ z)⟩
theorem vx_L.word {C n d : String} {A : Nat → Prop} {s : State} {args : Array Value} (h : vx_L C n d A s s.heap) : (Cond.laysStatic C n d).before args s = true := by
  obtain ⟨c, k, i, f, a, cell, h1, h2, h3, h4, h5, h6, h7, h8, h9, -⟩ := h
  show (Cond.laysStatic C n d).holds args s none s [] = true
  exact Cond.laysStatic_of h1 h2 h3 h4 h5 h6 h7 h8 h9
/-- .. and what it holds: null or some reference -/
def vx_Zq (C n d : String) (A : Nat → Prop) (U : State) (H : Heap) : Prop := va_Zq C n d A U H ∧ vx_L C n d A U H
theorem vx_Zq.moved {C n d : String} {A : Nat → Prop} {u U : State} {H : Heap} (hvm : u.vm.Alike U.vm) (h : vx_Zq C n d A u H) : vx_Zq C n d A U H := ⟨va_Zq.moved hvm h.1, vx_L.moved hvm h.2⟩
theorem vx_Zq.kept {C n d : String} {A : Nat → Prop} {U : State} {H H1 : Heap} (h : vx_Zq C n d A U H) (hq : ∀ a : Nat, a < H.size → ¬ A a → H1[a]? = H[a]?) : vx_Zq C n d A U H1 := ⟨va_Zq.kept h.1 hq, vx_L.kept h.2 hq⟩
theorem vx_Zq.narrow {C n d : String} {A B : Nat → Prop} {U : State} {H : Heap} (h : vx_Zq C n d A U H) (hAB : ∀ q, B q → A q) : vx_Zq C n d B U H := ⟨va_Zq.narrow h.1 hAB, vx_L.narrow h.2 hAB⟩
theorem vx_Zqof {args : Array Value} {s : State} {C n d : String} {A : Nat → Prop} (hl : (Cond.laysStatic C n d).before args s = true) (hini : (Cond.initialized C).before args s = true) (h : (Cond.isRef (.static C n d)).before args s = true) (hA : ∀ a : Nat, a < s.heap.size → ¬ A a) : vx_Zq C n d A s s.heap := by
  refine ⟨va_Zqof hl hini h hA, ?_⟩
  obtain ⟨c, k, i, f, a, cell, h1, h2, h3, h4, h5, h6, h7, h8, h9⟩ := Cond.laysStatic_spec hl
  exact ⟨c, k, i, f, a, cell, h1, h2, h3, h4, h5, h6, h7, h8, h9, hA a (Array.getElem?_eq_some_iff.mp h5).1⟩
theorem vx_isRef {C n d : String} {v : Value} {A : Nat → Prop} {s : State} {args : Array Value} (h : va_Z C n d v A s s.heap) (hv : v.isRef = true) : (Cond.isRef (.static C n d)).before args s = true := by
  obtain ⟨cf, kf, fi, f, a, cell, h1, h2, h3, h4, h5, h6, h7, -⟩ := h
  have he : (Term.static C n d).eval args s none [] s = some v := by
    simp [Term.eval, State.fieldNamed?, h1, h2, h4, h5, h6, h7]
  simp only [Cond.before, Cond.holds, Cond.value, he]
  cases v <;> simp_all [Value.isRef]
theorem vx_isRefq {C n d : String} {A : Nat → Prop} {s : State} {args : Array Value} (h : va_Zq C n d A s s.heap) : (Cond.isRef (.static C n d)).before args s = true := by
  rcases h with h | ⟨t, h⟩
  · exact vx_isRef h rfl
  · exact vx_isRef h rfl
/-- the same frame, seen from here: as if the method were called anew in this heap -/
theorem vx_rebase {T : State} (X : Stand p l e R s m args below meth c T locs cells slots) {R' : Room} (hf : R'.frames ≤ R.frames) (hl : R'.locals ≤ R.locals) (hc : cells + R'.cells ≤ R.cells) (hs : slots + R'.slots ≤ R.slots) :
    Stand p l e R' ((T.setVm s.vm).setFrames (.invoking m args :: below)) m args below meth c T [] 0 0 := by
  have htop : (T.setVm s.vm).topJava?.isSome := X.here.top
  have hF : ((T.setVm s.vm).setFrames (.invoking m args :: below)).frames = .invoking m args :: below := State.frames_setFrames _ (State.cur_lt_of_top htop)
  obtain ⟨g₀, hg0⟩ := Option.isSome_iff_exists.mp htop
  obtain ⟨r, hr⟩ := State.topJava?_eq_some.mp hg0
  have hl9 : e.platform.stackLimits (T.setVm s.vm).me = e.platform.stackLimits s.me := X.limits
  have hb9 : (T.setVm s.vm).me.stackBytes = s.me.stackBytes := X.bytes
  refine ⟨X.admits, X.cas, X.clock, hF, ?_, X.hears, X.method, X.code, X.here, X.tail, X.warmed, ?_, ?_, ?_⟩
  · have h := X.room
    have hU : ((T.setVm s.vm).setFrames (.invoking m args :: below)).localsInUse = s.localsInUse := by
      rw [State.localsInUse_invoking hF (meth := meth) (c := c) X.method X.code, State.localsInUse_invoking X.frames X.method X.code]
    simp only [State.hasRoom, Bool.and_eq_true, decide_eq_true_eq] at h ⊢
    obtain ⟨⟨⟨⟨h1, h2, h3, h4, h5, h6⟩, h7⟩, h8⟩, h9⟩ := h
    rw [X.frames, List.length_cons] at h2 h3
    have q1 := X.heapSize
    have q2 := X.used
    simp only [hF, hU, List.length_cons, State.stackLimits_setFrames, State.stackBytes_setFrames, hl9, hb9]
    refine ⟨⟨⟨⟨by omega, by omega, by omega, by omega, by omega, h6⟩, ?_⟩, ?_⟩, X.book⟩
    · show T.heap.size + R'.cells ≤ e.platform.maxCells
      omega
    · show T.slotsUsed + R'.slots ≤ e.platform.maxSlots
      omega
  · rw [State.stackLimits_setFrames]; rfl
  · rw [State.stackBytes_setFrames]; rfl
  · refine ⟨?_, Nat.le_refl _, Nat.le_refl _, ?_, ?_, fun a c9 h9 => ⟨c9, h9, rfl, rfl, fun _ _ => rfl⟩⟩
    · obtain ⟨t, ht, -⟩ := State.frames_cons hr
      show T.setVm s.vm = { ((T.setVm s.vm).setFrames (.invoking m args :: below)).setFrames (T.setVm s.vm).frames with heap := T.heap, slotsUsed := T.slotsUsed }
      rw [State.setFrames_setFrames, State.setFrames_self ht]
      rfl
    · show T.slotsUsed = T.slotsUsed + ((T.heap.toList.drop T.heap.size).map (·.slots.size)).sum
      rw [List.drop_eq_nil_of_le (Nat.le_of_eq Array.length_toList)]
      rfl
    · show ((T.heap.toList.drop T.heap.size).map (·.slots.size)).sum ≤ 0
      rw [List.drop_eq_nil_of_le (Nat.le_of_eq Array.length_toList)]
      exact Nat.le_refl _
/-- 'throw new E()': new; dup; invokespecial; athrow -/
theorem vx_throw0 {cc : ByteArray} {pc : Nat} (hexec : p.tables.exec = Jvm.exec) (hb : c.code = cc) (hl : l.stackTraces = false) {own cls : String} {names : List String} {ik ic mc ms : Nat} {A : Nat → Prop}
    (hown : s.vm.findClass own = some m.cls) (hcls : Bundle.fit cls = true) (hnames : ∀ n ∈ names, Bundle.fit n = true)
    (hk : (Cond.classLink own ik cls).before args s = true) (hini : (Cond.initialized cls).before args s = true) (hat : ∀ w ∈ vx_at0 own ic cls names, w.before args s = true)
    (hgood : ∀ w ∈ Cond.classLink own ik cls :: Cond.initialized cls :: vx_at0 own ic cls names, vx_ot w = true)
    (hU : vx_Zq Bundle.tN "UNASSIGNED_STACK" Bundle.steD A s s.heap) (hN : vx_Zq Bundle.tN "SUPPRESSED_SENTINEL" Bundle.listD A s s.heap) (hS : va_S A s.heap H locs) (hsize : ls.size = c.maxLocals)
    (d0 : decode cc pc = .ok (.new ik, 3)) (d3 : decode cc (pc + 3) = .ok (.dup, 1)) (d4 : decode cc (pc + 4) = .ok (.invokespecial ic, 3)) (d7 : decode cc (pc + 7) = .ok (.athrow, 1))
    (hout : ∀ x ∈ c.exceptionTable.toList, covers x (pc + 7) = false)
    (hRframes : names.length + 3 < R.frames) (hRlocals : (rest.map fun v => v.category).sum + (13 * (names.length + 1) + 42) ≤ R.locals) (hRcells : cells + 1 ≤ R.cells) (hRslots : slots + 6 ≤ R.slots) (hlocks : meth.locks = false)
    (hx : ∀ t : State, s.vm.Alike t.vm → H.size ≤ t.heap.size → (∀ q : Nat, q < H.size → t.heap[q]? = H[q]?) → XC cls s t)
    (hf : ∀ z ∈ locs, free z.base) (hc : cells + 1 ≤ mc) (hs : slots + 6 ≤ ms) :
    W p l e R s m args below meth c H locs cells slots (vx_MQ below Qc XC args s mc ms free) (F0 m pc ls rest) := by
  intro T hT X
  have htr : e.platform.stackTraces = false := (show e.platform.stackTraces = l.stackTraces by rw [X.admits.platform]).trans hl
  have Y := vx_rebase X (R' := { frames := R.frames, locals := R.locals, cells := 1, slots := 6 }) (Nat.le_refl _) (Nat.le_refl _) hRcells hRslots
  obtain ⟨s', hA⟩ : ∃ z, z = (T.setVm s.vm).setFrames (.invoking m args :: below) := ⟨_, rfl⟩
  rw [← hA] at Y
  have hvm : s'.vm = s.vm := by rw [hA]; rfl
  have hhp : s'.heap = H := by rw [hA]; exact hT
  have hW0 : s.WarmedH s'.vm := by rw [hvm]; exact State.WarmedH.refl s
  have hat' : ∀ w ∈ vx_at0 own ic cls names, w.before args s' = true := fun w hw => vx_ot_at hW0 hvm.symm (hgood w (List.mem_cons_of_mem _ (List.mem_cons_of_mem _ hw))) (hat w hw)
  have hk' : (Cond.classLink own ik cls).before args s' = true := vx_ot_at hW0 hvm.symm (hgood _ List.mem_cons_self) hk
  have hini' : (Cond.initialized cls).before args s' = true := vx_ot_at hW0 hvm.symm (hgood _ (List.mem_cons_of_mem _ List.mem_cons_self)) hini
  have hU' : vx_Zq Bundle.tN "UNASSIGNED_STACK" Bundle.steD A s' s'.heap := by rw [hhp]; exact vx_Zq.moved hW0.alike (hU.kept hS.2.1)
  have hN' : vx_Zq Bundle.tN "SUPPRESSED_SENTINEL" Bundle.listD A s' s'.heap := by rw [hhp]; exact vx_Zq.moved hW0.alike (hN.kept hS.2.1)
  have h : ∀ w ∈ Bundle.ownAtoms0 own ic cls names, w.before args s' = true := vx_own hat' (vx_isRefq hU'.1) (vx_isRefq hN'.1) hU'.2.word hN'.2.word
  have hown' : s'.vm.findClass own = some m.cls := by rw [hvm]; exact hown
  have hins : (Cond.instantiable cls 6).before args s' = true := h _ (by simp [Bundle.ownAtoms0])
  obtain ⟨vm₁, cX, kX, hfX, hkX, -, -, X₁, st1⟩ := Y.newCold hexec (own := own) (C := cls) (index := ik) (n := 6) hown' hk' hins hini'
    (g := F0 m pc ls rest) rfl (by rw [hb]; exact d0) (Nat.le_refl _) (Nat.le_refl _)
  generalize hT1 : (T.setVm vm₁).pushCell { cls := cX, slots := kX.instanceTypes.map defaultValue, vm := .none } = T1 at X₁ st1
  have hcat : (Value.ref T.heap.size).category = 1 := rfl
  have hcellA : T1.heap[T.heap.size]? = some (freshCell cX kX) := by rw [← hT1]; exact State.heap_pushCell_size _ _
  have d3' : decode c.code (pc + 3) = .ok (.dup, 1) := by rw [hb]; exact d3
  obtain ⟨U, hsteps, hrun, hend, hW, hsame, ce, hce, hO⟩ := X₁.ctorThrow0 hexec htr (own := own) (cls := cls) (names := names) (ic := ic) hown' hcls hnames h (fun x hx => nomatch hx) hfX hkX hcellA (by rw [hhp, hT]; exact Nat.le_refl _)
    (g := { method := m, pc := pc + 4, locals := ls, stack := .ref T.heap.size :: .ref T.heap.size :: rest, locked := none }) rfl hsize rfl rfl (rest := rest) rfl
    (by rw [hb]; exact d4) (by rw [hb]; exact d7) hout hRframes (by simp only [List.map_cons, List.sum_cons, hcat]; omega) hlocks
  obtain ⟨f1, f2⟩ := vx_frame hsame
  rw [hhp] at f1 f2
  have hWs : s.WarmedH U.vm := State.WarmedH.trans hW0 hW
  have hcl : s.vm.findClass cls = some ce.cls := by
    have h9 := hO.cls
    rw [hvm] at h9
    exact h9
  have hall : s.sameButNew ({ U with vm := s.vm } : State) locs mc ms := by
    subst hA
    obtain ⟨e1, e2⟩ := hsame
    rw [State.setFrames_setFrames] at e1
    have h2 : (T.setVm s.vm).sameButNew ({ U with vm := s.vm } : State) [] (0 + 1) (0 + 6) := ⟨e1, e2⟩
    have h3 := X.same.trans h2
    rw [List.append_nil] at h3
    exact h3.mono hc hs
  refine ⟨U, ?_, .threw T.heap.size, hrun, hend, Or.inr ⟨T.heap.size, rfl, cls, ce, locs, hx U hWs.alike f1 (fun q hq => f2 q hq (fun z hz => nomatch hz)), hce, hO.vm, hcl, hWs, hall, hf⟩⟩
  refine st1 _ ?_
  show Steps p.tables e below (T1.setTop { method := m, pc := pc + 3, locals := ls, stack := .ref T.heap.size :: rest, locked := none }) _
  jvm_step X₁.here [X₁.here.top, hexec, d3', Value.category]
  exact hsteps
/-- 'throw new E("text")': new; dup; ldc; invokespecial; athrow -/
theorem vx_throwS {cc : ByteArray} {pc : Nat} (hexec : p.tables.exec = Jvm.exec) (hb : c.code = cc) (hl : l.stackTraces = false) {own cls text : String} {names : List String} {ik is ic mc ms sa : Nat} {A : Nat → Prop}
    (hown : s.vm.findClass own = some m.cls) (hcls : Bundle.fit cls = true) (hnames : ∀ n ∈ names, Bundle.fit n = true)
    (hk : (Cond.classLink own ik cls).before args s = true) (hini : (Cond.initialized cls).before args s = true) (hstr : vk_R own is text sa s) (hat : ∀ w ∈ vx_atS own ic cls names, w.before args s = true)
    (hgood : ∀ w ∈ Cond.classLink own ik cls :: Cond.initialized cls :: vx_atS own ic cls names, vx_ot w = true)
    (hU : vx_Zq Bundle.tN "UNASSIGNED_STACK" Bundle.steD A s s.heap) (hN : vx_Zq Bundle.tN "SUPPRESSED_SENTINEL" Bundle.listD A s s.heap) (hS : va_S A s.heap H locs) (hsize : ls.size = c.maxLocals)
    (d0 : decode cc pc = .ok (.new ik, 3)) (d3 : decode cc (pc + 3) = .ok (.dup, 1)) (d4 : decode cc (pc + 4) = .ok (.ldc is, 2)) (d6 : decode cc (pc + 6) = .ok (.invokespecial ic, 3)) (d9 : decode cc (pc + 9) = .ok (.athrow, 1))
    (hout : ∀ x ∈ c.exceptionTable.toList, covers x (pc + 9) = false)
    (hRframes : names.length + 3 < R.frames) (hRlocals : (rest.map fun v => v.category).sum + (13 * (names.length + 1) + 43) ≤ R.locals) (hRcells : cells + 1 ≤ R.cells) (hRslots : slots + 6 ≤ R.slots) (hlocks : meth.locks = false)
    (hx : ∀ t : State, s.vm.Alike t.vm → H.size ≤ t.heap.size → (∀ q : Nat, q < H.size → t.heap[q]? = H[q]?) → XC cls s t)
    (hf : ∀ z ∈ locs, free z.base) (hc : cells + 1 ≤ mc) (hs : slots + 6 ≤ ms) :
    W p l e R s m args below meth c H locs cells slots (vx_MQ below Qc XC args s mc ms free) (F0 m pc ls rest) := by
  intro T hT X
  have htr : e.platform.stackTraces = false := (show e.platform.stackTraces = l.stackTraces by rw [X.admits.platform]).trans hl
  have Y := vx_rebase X (R' := { frames := R.frames, locals := R.locals, cells := 1, slots := 6 }) (Nat.le_refl _) (Nat.le_refl _) hRcells hRslots
  obtain ⟨s', hA⟩ : ∃ z, z = (T.setVm s.vm).setFrames (.invoking m args :: below) := ⟨_, rfl⟩
  rw [← hA] at Y
  have hvm : s'.vm = s.vm := by rw [hA]; rfl
  have hhp : s'.heap = H := by rw [hA]; exact hT
  have hW0 : s.WarmedH s'.vm := by rw [hvm]; exact State.WarmedH.refl s
  have hat' : ∀ w ∈ vx_atS own ic cls names, w.before args s' = true := fun w hw => vx_ot_at hW0 hvm.symm (hgood w (List.mem_cons_of_mem _ (List.mem_cons_of_mem _ hw))) (hat w hw)
  have hk' : (Cond.classLink own ik cls).before args s' = true := vx_ot_at hW0 hvm.symm (hgood _ List.mem_cons_self) hk
  have hini' : (Cond.initialized cls).before args s' = true := vx_ot_at hW0 hvm.symm (hgood _ (List.mem_cons_of_mem _ List.mem_cons_self)) hini
  have hU' : vx_Zq Bundle.tN "UNASSIGNED_STACK" Bundle.steD A s' s'.heap := by rw [hhp]; exact vx_Zq.moved hW0.alike (hU.kept hS.2.1)
  have hN' : vx_Zq Bundle.tN "SUPPRESSED_SENTINEL" Bundle.listD A s' s'.heap := by rw [hhp]; exact vx_Zq.moved hW0.alike (hN.kept hS.2.1)
  have h : ∀ w ∈ Bundle.ownAtoms own ic cls names, w.before args s' = true := vx_own hat' (vx_isRefq hU'.1) (vx_isRefq hN'.1) hU'.2.word hN'.2.word
  have hown' : s'.vm.findClass own = some m.cls := by rw [hvm]; exact hown
  have hins : (Cond.instantiable cls 6).before args s' = true := h _ (by simp [Bundle.ownAtoms])
  obtain ⟨vm₁, cX, kX, hfX, hkX, -, -, X₁, st1⟩ := Y.newCold hexec (own := own) (C := cls) (index := ik) (n := 6) hown' hk' hins hini'
    (g := F0 m pc ls rest) rfl (by rw [hb]; exact d0) (Nat.le_refl _) (Nat.le_refl _)
  generalize hT1 : (T.setVm vm₁).pushCell { cls := cX, slots := kX.instanceTypes.map defaultValue, vm := .none } = T1 at X₁ st1
  have hcat : (Value.ref T.heap.size).category = 1 := rfl
  have hcellA : T1.heap[T.heap.size]? = some (freshCell cX kX) := by rw [← hT1]; exact State.heap_pushCell_size _ _
  have d3' : decode c.code (pc + 3) = .ok (.dup, 1) := by rw [hb]; exact d3
  have d4' : decode c.code (pc + 4) = .ok (.ldc is, 2) := by rw [hb]; exact d4
  have hstr' : vk_R own is text sa s' := vk_R.warm hW0 hstr
  obtain ⟨U, hsteps, hrun, hend, hW, hsame, ce, hce, hO⟩ := X₁.ctorThrowS hexec htr (own := own) (cls := cls) (names := names) (ic := ic) hown' hcls hnames h (fun x hx => nomatch hx) hfX hkX hcellA (by rw [hhp, hT]; exact Nat.le_refl _) (msg := .ref sa) rfl
    (g := { method := m, pc := pc + 6, locals := ls, stack := .ref sa :: .ref T.heap.size :: .ref T.heap.size :: rest, locked := none }) rfl hsize rfl rfl (rest := rest) rfl
    (by rw [hb]; exact d6) (by rw [hb]; exact d9) hout hRframes (by simp only [List.map_cons, List.sum_cons, hcat]; omega) hlocks
  obtain ⟨f1, f2⟩ := vx_frame hsame
  rw [hhp] at f1 f2
  have hWs : s.WarmedH U.vm := State.WarmedH.trans hW0 hW
  have hcl : s.vm.findClass cls = some ce.cls := by
    have h9 := hO.cls
    rw [hvm] at h9
    exact h9
  have hall : s.sameButNew ({ U with vm := s.vm } : State) locs mc ms := by
    subst hA
    obtain ⟨e1, e2⟩ := hsame
    rw [State.setFrames_setFrames] at e1
    have h2 : (T.setVm s.vm).sameButNew ({ U with vm := s.vm } : State) [] (0 + 1) (0 + 6) := ⟨e1, e2⟩
    have h3 := X.same.trans h2
    rw [List.append_nil] at h3
    exact h3.mono hc hs
  refine ⟨U, ?_, .threw T.heap.size, hrun, hend, Or.inr ⟨T.heap.size, rfl, cls, ce, locs, hx U hWs.alike f1 (fun q hq => f2 q hq (fun z hz => nomatch hz)), hce, hO.vm, hcl, hWs, hall, hf⟩⟩
  refine st1 _ ?_
  show Steps p.tables e below (T1.setTop { method := m, pc := pc + 3, locals := ls, stack := .ref T.heap.size :: rest, locked := none }) _
  jvm_step X₁.here [X₁.here.top, hexec, d3', Value.category]
  exact X₁.ldcString hexec (own := own) (text := text) (index := is) (a := sa) hown' hstr'.1 hstr'.2
    (g := { method := m, pc := pc + 4, locals := ls, stack := .ref T.heap.size :: .ref T.heap.size :: rest, locked := none }) rfl d4' _ hsteps
/-- 'throw new E("text")', the text by a wide index -/
theorem vx_throwSW {cc : ByteArray} {pc : Nat} (hexec : p.tables.exec = Jvm.exec) (hb : c.code = cc) (hl : l.stackTraces = false) {own cls text : String} {names : List String} {ik is ic mc ms sa : Nat} {A : Nat → Prop}
    (hown : s.vm.findClass own = some m.cls) (hcls : Bundle.fit cls = true) (hnames : ∀ n ∈ names, Bundle.fit n = true)
    (hk : (Cond.classLink own ik cls).before args s = true) (hini : (Cond.initialized cls).before args s = true) (hstr : vk_R own is text sa s) (hat : ∀ w ∈ vx_atS own ic cls names, w.before args s = true)
    (hgood : ∀ w ∈ Cond.classLink own ik cls :: Cond.initialized cls :: vx_atS own ic cls names, vx_ot w = true)
    (hU : vx_Zq Bundle.tN "UNASSIGNED_STACK" Bundle.steD A s s.heap) (hN : vx_Zq Bundle.tN "SUPPRESSED_SENTINEL" Bundle.listD A s s.heap) (hS : va_S A s.heap H locs) (hsize : ls.size = c.maxLocals)
    (d0 : decode cc pc = .ok (.new ik, 3)) (d3 : decode cc (pc + 3) = .ok (.dup, 1)) (d4 : decode cc (pc + 4) = .ok (.ldc_w is, 3)) (d7 : decode cc (pc + 7) = .ok (.invokespecial ic, 3)) (d10 : decode cc (pc + 10) = .ok (.athrow, 1))
    (hout : ∀ x ∈ c.exceptionTable.toList, covers x (pc + 10) = false)
    (hRframes : names.length + 3 < R.frames) (hRlocals : (rest.map fun v => v.category).sum + (13 * (names.length + 1) + 43) ≤ R.locals) (hRcells : cells + 1 ≤ R.cells) (hRslots : slots + 6 ≤ R.slots) (hlocks : meth.locks = false)
    (hx : ∀ t : State, s.vm.Alike t.vm → H.size ≤ t.heap.size → (∀ q : Nat, q < H.size → t.heap[q]? = H[q]?) → XC cls s t)
    (hf : ∀ z ∈ locs, free z.base) (hc : cells + 1 ≤ mc) (hs : slots + 6 ≤ ms) :
    W p l e R s m args below meth c H locs cells slots (vx_MQ below Qc XC args s mc ms free) (F0 m pc ls rest) := by
  intro T hT X
  have htr : e.platform.stackTraces = false := (show e.platform.stackTraces = l.stackTraces by rw [X.admits.platform]).trans hl
  have Y := vx_rebase X (R' := { frames := R.frames, locals := R.locals, cells := 1, slots := 6 }) (Nat.le_refl _) (Nat.le_refl _) hRcells hRslots
  obtain ⟨s', hA⟩ : ∃ z, z = (T.setVm s.vm).setFrames (.invoking m args :: below) := ⟨_, rfl⟩
  rw [← hA] at Y
  have hvm : s'.vm = s.vm := by rw [hA]; rfl
  have hhp : s'.heap = H := by rw [hA]; exact hT
  have hW0 : s.WarmedH s'.vm := by rw [hvm]; exact State.WarmedH.refl s
  have hat' : ∀ w ∈ vx_atS own ic cls names, w.before args s' = true := fun w hw => vx_ot_at hW0 hvm.symm (hgood w (List.mem_cons_of_mem _ (List.mem_cons_of_mem _ hw))) (hat w hw)
  have hk' : (Cond.classLink own ik cls).before args s' = true := vx_ot_at hW0 hvm.symm (hgood _ List.mem_cons_self) hk
  have hini' : (Cond.initialized cls).before args s' = true := vx_ot_at hW0 hvm.symm (hgood _ (List.mem_cons_of_mem _ List.mem_cons_self)) hini
  have hU' : vx_Zq Bundle.tN "UNASSIGNED_STACK" Bundle.steD A s' s'.heap := by rw [hhp]; exact vx_Zq.moved hW0.alike (hU.kept hS.2.1)
  have hN' : vx_Zq Bundle.tN "SUPPRESSED_SENTINEL" Bundle.listD A s' s'.heap := by rw [hhp]; exact vx_Zq.moved hW0.alike (hN.kept hS.2.1)
  have h : ∀ w ∈ Bundle.ownAtoms own ic cls names, w.before args s' = true := vx_own hat' (vx_isRefq hU'.1) (vx_isRefq hN'.1) hU'.2.word hN'.2.word
  have hown' : s'.vm.findClass own = some m.cls := by rw [hvm]; exact hown
  have hins : (Cond.instantiable cls 6).before args s' = true := h _ (by simp [Bundle.ownAtoms])
  obtain ⟨vm₁, cX, kX, hfX, hkX, -, -, X₁, st1⟩ := Y.newCold hexec (own := own) (C := cls) (index := ik) (n := 6) hown' hk' hins hini'
    (g := F0 m pc ls rest) rfl (by rw [hb]; exact d0) (Nat.le_refl _) (Nat.le_refl _)
  generalize hT1 : (T.setVm vm₁).pushCell { cls := cX, slots := kX.instanceTypes.map defaultValue, vm := .none } = T1 at X₁ st1
  have hcat : (Value.ref T.heap.size).category = 1 := rfl
  have hcellA : T1.heap[T.heap.size]? = some (freshCell cX kX) := by rw [← hT1]; exact State.heap_pushCell_size _ _
  have d3' : decode c.code (pc + 3) = .ok (.dup, 1) := by rw [hb]; exact d3
  have d4' : decode c.code (pc + 4) = .ok (.ldc_w is, 3) := by rw [hb]; exact d4
  have hstr' : vk_R own is text sa s' := vk_R.warm hW0 hstr
  obtain ⟨U, hsteps, hrun, hend, hW, hsame, ce, hce, hO⟩ := X₁.ctorThrowS hexec htr (own := own) (cls := cls) (names := names) (ic := ic) hown' hcls hnames h (fun x hx => nomatch hx) hfX hkX hcellA (by rw [hhp, hT]; exact Nat.le_refl _) (msg := .ref sa) rfl
    (g := { method := m, pc := pc + 7, locals := ls, stack := .ref sa :: .ref T.heap.size :: .ref T.heap.size :: rest, locked := none }) rfl hsize rfl rfl (rest := rest) rfl
    (by rw [hb]; exact d7) (by rw [hb]; exact d10) hout hRframes (by simp only [List.map_cons, List.sum_cons, hcat]; omega) hlocks
  obtain ⟨f1, f2⟩ := vx_frame hsame
  rw [hhp] at f1 f2
  have hWs : s.WarmedH U.vm := State.WarmedH.trans hW0 hW
  have hcl : s.vm.findClass cls = some ce.cls := by
    have h9 := hO.cls
    rw [hvm] at h9
    exact h9
  have hall : s.sameButNew ({ U with vm := s.vm } : State) locs mc ms := by
    subst hA
    obtain ⟨e1, e2⟩ := hsame
    rw [State.setFrames_setFrames] at e1
    have h2 : (T.setVm s.vm).sameButNew ({ U with vm := s.vm } : State) [] (0 + 1) (0 + 6) := ⟨e1, e2⟩
    have h3 := X.same.trans h2
    rw [List.append_nil] at h3
    exact h3.mono hc hs
  refine ⟨U, ?_, .threw T.heap.size, hrun, hend, Or.inr ⟨T.heap.size, rfl, cls, ce, locs, hx U hWs.alike f1 (fun q hq => f2 q hq (fun z hz => nomatch hz)), hce, hO.vm, hcl, hWs, hall, hf⟩⟩
  refine st1 _ ?_
  show Steps p.tables e below (T1.setTop { method := m, pc := pc + 3, locals := ls, stack := .ref T.heap.size :: rest, locked := none }) _
  jvm_step X₁.here [X₁.here.top, hexec, d3', Value.category]
  exact X₁.ldcStringW hexec (own := own) (text := text) (index := is) (a := sa) hown' hstr'.1 hstr'.2
    (g := { method := m, pc := pc + 4, locals := ls, stack := .ref T.heap.size :: .ref T.heap.size :: rest, locked := none }) rfl d4' _ hsteps
end Ends
section Bodies
variable {l : Launch}
theorem vx_ofW {y : MethodName} {ws ws' : List Cond} {rm : Room} {Pc : Array Value → State → Prop} {Qc : Array Value → State → Outcome → State → Prop} {XC : String → State → State → Prop} {mc ms : Nat} {free : Addr → Prop} {cc : ByteArray} {maxL : Nat} {ret : Option FieldType}
    (hy : plainName y.cls = true) (hw : ws = Cond.code y cc maxL ret :: ws')
    (body : ∀ p e s m args below meth c s₁, BodyLoose p l y (headSpec ws rm) cc maxL ret e s m args below meth c s₁ → c.maxLocals = maxL → (∀ x ∈ c.exceptionTable.toList, False) → Pc args s →
      W p l e (headSpec ws rm).room s m args below meth c s.heap [] 0 0 (vx_MQ below Qc XC args s mc ms free) (entryFrame m args maxL)) : vx_Met l y ws rm Pc Qc XC mc ms free := by
  refine MetFree.of_bodyS (code := cc) (maxLocals := maxL) (ret := ret) hy ?_ ?_
  · intro args s m h hn
    obtain ⟨meth, c, h1, h2, h3, h4, h5, h6, -, -⟩ := Cond.code_spec hn (atoms_spec (ws := ws) h _ (by rw [hw]; exact List.mem_cons_self))
    exact ⟨meth, c, h1, h2, h3, h4, h5, h6⟩
  · intro p e s m args below meth c s₁ B hml hP _
    have hh0 : s₁.heap = s.heap := by rw [B.state]; rfl
    have ht : ∀ x ∈ c.exceptionTable.toList, False := by
      obtain ⟨meth9, c9, h1, h2, -, -, -, -, h7, -⟩ := Cond.code_spec B.named (atoms_spec (ws := ws) B.pre _ (by rw [hw]; exact List.mem_cons_self))
      cases Option.some.inj (h1.symm.trans B.method)
      cases Option.some.inj (h2.symm.trans (Stand.of_body B).code)
      intro x hx
      rw [Array.isEmpty_iff.mp h7] at hx
      cases hx
    obtain ⟨t, a1, o, b1, b2, b3⟩ := body p e s m args below meth c s₁ B hml ht hP s₁ hh0 (Stand.of_body B)
    exact ⟨t, o, a1, b1, b2, b3⟩
/-- the table of a body with handlers -/
theorem vx_table {p : Program} {x y : MethodName} {S : Spec} {cc bytes : ByteArray} {maxL maxL' : Nat} {ret ret' : Option FieldType} {e : Env} {s s₁ : State} {m : MethodId} {args : Array Value} {below : List Frame} {meth : Method} {c : Code} {hh : List (Nat × Nat × Nat × Nat)}
    (B : BodyLoose p l y S cc maxL ret e s m args below meth c s₁) (h : (Cond.codeWith y bytes maxL' ret' hh).before args s = true) : c.exceptionTable.toList = tableOf hh := by
  obtain ⟨m9, meth9, c9, hn9, h1, h2, -, -, h6, -⟩ := Cond.codeWith_spec h
  cases Option.some.inj (hn9.symm.trans B.named)
  cases Option.some.inj (h1.symm.trans B.method)
  cases Option.some.inj (h2.symm.trans (Stand.of_body B).code)
  rw [← h6, table_eq]
end Bodies
end VXA
/-! ===== END ===== -/
/-! ===== BEGIN a static call of a method with an exception table ===== -/
section VXS
variable {p : Program} {l : Launch} {e : Env} {R : Room} {s : State} {m : MethodId} {args : Array Value} {below : List Frame} {meth : Method} {c : Code} {T : State} {H : Heap} {locs : List Loc} {cells slots : Nat}
abbrev vx_CSW (R : Room) (s : State) (args : Array Value) (own : String) (index : Nat) (y : MethodName) (bytes : ByteArray) (maxL : Nat) (ret : Option FieldType) (hh : List (Nat × Nat × Nat × Nat)) (ws : List Cond) (rm : Room) (mc ms n : Nat) : Prop :=
  (rm.cells = mc ∧ rm.slots = ms ∧ rm.frames + 1 ≤ R.frames ∧ 8 + (maxL + 11) + rm.locals ≤ R.locals ∧ (∀ w ∈ ws, ∀ (a' : Array Value) (U : State), s.WarmedH U.vm → w.before a' U = true) ∧ Cond.codeWith y bytes maxL ret hh ∈ ws) ∧
  (Cond.codeWith y bytes maxL ret hh).before args s = true ∧ (Cond.initialized y.cls).before args s = true ∧ (y.cls ≠ "java/lang/invoke/MethodHandle" ∧ y.cls ≠ "java/lang/invoke/VarHandle") ∧
  (∀ sig, parseMethodDescriptor y.desc = some sig → n = sig.parameters.length) ∧ (Cond.methodLink own index y).before args s = true ∧ (Cond.static y).before args s = true
theorem vx_cwSW {own : String} {index maxL mc ms : Nat} {y : MethodName} {bytes : ByteArray} {ret : Option FieldType} {hh : List (Nat × Nat × Nat × Nat)} {Ts ws ws' : List Cond} {rm : Room} (n : Nat) (ht : ∀ w ∈ Ts, w.before args s = true) (hT : GoodIn Ts (va_wsS own index y ws)) (hw : ws = Cond.codeWith y bytes maxL ret hh :: ws') (hrc : rm.cells = mc) (hrs : rm.slots = ms)
    (hd : y.cls ≠ "java/lang/invoke/MethodHandle" ∧ y.cls ≠ "java/lang/invoke/VarHandle" ∧ (parseMethodDescriptor y.desc).map (fun d => d.parameters.length) = some n) (hR : rm.frames + 1 ≤ R.frames ∧ 8 + (maxL + 11) + rm.locals ≤ R.locals) :
    vx_CSW R s args own index y bytes maxL ret hh ws rm mc ms n := by
  have ok : ∀ w ∈ va_wsS own index y ws, w.before args s = true := fun w h => ht w (hT w h).1
  have hG : GoodIn Ts ws := fun w h => hT w (by unfold va_wsS; exact List.mem_append_right _ h)
  have hc : Cond.codeWith y bytes maxL ret hh ∈ ws := by rw [hw]; exact List.mem_cons_self
  refine ⟨⟨hrc, hrs, hR.1, hR.2, pay_in ht hG, hc⟩, ht _ (hG _ hc).1, ok _ (by simp [va_wsS]), ⟨hd.1, hd.2.1⟩, fun sig h => ?_, ok _ (by simp [va_wsS]), ok _ (by simp [va_wsS])⟩
  have h2 := hd.2.2
  rw [h] at h2
  exact (Option.some.inj h2).symm
theorem vx_callSW (X : Stand p l e R s m args below meth c T locs cells slots) (hexec : p.tables.exec = Jvm.exec) {own : String} {index : Nat} {y : MethodName} {bytes : ByteArray} {maxL : Nat} {ret : Option FieldType} {hh : List (Nat × Nat × Nat × Nat)}
    (hown : s.vm.findClass own = some m.cls) (hlink : (Cond.methodLink own index y).before args s = true) (hstat : (Cond.static y).before args s = true) (hinit : (Cond.initialized y.cls).before args s = true)
    (hcode : (Cond.codeWith y bytes maxL ret hh).before args s = true) (hy : y.cls ≠ "java/lang/invoke/MethodHandle" ∧ y.cls ≠ "java/lang/invoke/VarHandle")
    {W9 : Nat} {Pre : Pt → Array Value → Prop} {Post : Pt → Array Value → Option Value → Pt → Prop} (hK : Back l R p e below s args y 3 W9 Pre Post)
    {g : JFrame} (hg : g.method = m) (hsize : g.locals.size = c.maxLocals) {argsL rest : List Value} (hlen : ∀ sig, parseMethodDescriptor y.desc = some sig → argsL.length = sig.parameters.length)
    (hstack : g.stack = argsL.reverse ++ rest) (hW : 2 * g.monitorRoom + (rest.map fun v => v.category).sum ≤ W9) (hdg : decode c.code g.pc = .ok (.invokestatic index, 3))
    (hpre : ∀ vm₁, s.WarmedH vm₁ → Pre ⟨T.setVm vm₁, locs, cells, slots⟩ argsL.toArray) :
    ∃ (v : Option Value) (vm₁ : Vm) (B : Pt), s.WarmedH vm₁ ∧ Stand p l e R s m args below meth c B.U B.locs B.cells B.slots ∧ Post ⟨T.setVm vm₁, locs, cells, slots⟩ argsL.toArray v B ∧
      ∀ target, Steps p.tables e below (B.U.setTop { g with pc := g.pc + 3, stack := v.toList ++ rest }) target → Steps p.tables e below (T.setTop g) target := by
  obtain ⟨mk, methM, cM, hnamed, hmethM, -, -, -, -, -, -, hsigM⟩ := Cond.codeWith_spec hcode
  have hstatic : methM.isStatic = true := Cond.static_spec hnamed hmethM hstat
  obtain ⟨kP, hkP, -⟩ := className_of_methodNamed hnamed
  have hinitP : kP.init = .initialized := Cond.initialized_spec (findClass_of_methodNamed hnamed) hkP hinit
  obtain ⟨vm₁, X₁, hstep₁⟩ := X.invokestatic hexec hown hlink hnamed hmethM hstatic hkP hinitP hy (g := g) hg (argsL := argsL) (rest := rest) (hlen _ hsigM) hstack hdg
  obtain ⟨v, B, X', hpost, hsteps⟩ := hK m meth c ⟨T.setVm vm₁, locs, cells, slots⟩ { g with stack := rest } (.invokestatic index) mk argsL.toArray X₁ hg hsize hdg hW (X₁.named hnamed) (hpre vm₁ X₁.warmed)
  exact ⟨v, vm₁, B, X₁.warmed, X', hpost, fun target h => hstep₁ _ fun acts => by rw [doInvoke_state]; exact hsteps.trans h⟩
theorem vx_runSW {y : MethodName} {bytes cc : ByteArray} {maxL nL mc ms n index : Nat} {ret : Option FieldType} {hh : List (Nat × Nat × Nat × Nat)} {ws : List Cond} {rm : Room} {Pc : Array Value → State → Prop} {Qc : Array Value → State → Outcome → State → Prop} {free : Addr → Prop} {Ts : List Cond} {own : String} {As rest : List Value} {g : JFrame}
    (S : CallFix p m c cc nL s args Ts own) (hM : Met l y ws rm Pc Qc mc ms free) (cw : vx_CSW R s args own index y bytes maxL ret hh ws rm mc ms n) (hp : PreS s H Pc As)
    (hg : g.method = m) (hn : As.length = n) (hsize : g.locals.size = nL) (hstack : g.stack = As.reverse ++ rest) (hW : 2 * g.monitorRoom + (rest.map fun v => v.category).sum ≤ 8) (hdg : decode cc g.pc = .ok (.invokestatic index, 3)) (hf : cells + mc ≤ R.cells ∧ slots + ms ≤ R.slots) :
    va_Run p l e R s m args below meth c H locs cells slots mc ms g rest (Qc As.toArray) (free) := by
  obtain ⟨⟨hrc, hrs, hfr, hlo, hws, hcw⟩, hcode, hini, hy, hlen, hl, hstt⟩ := cw
  have hK : Back l R p e below s args y 3 8 (PreOf R mc ms Pc) (PostOf Qc mc ms free) := va_backW (hh := hh) (bytes := bytes) (maxL := maxL) (ret := ret) hM hp.1 hrc hrs hfr hlo hws hcw (fun a' U hW => word_at hW (Or.inl (by first | rfl | simp [Cond.onTables, Cond.keeps, Cond.steady])) hini)
  obtain ⟨hx, hb, hml, ho, -⟩ := S
  intro T hT X
  obtain ⟨v, vm₁, ⟨U', l2, c2, s2⟩, hW₁, X', ⟨g', mk, t, L, e1, e2, hq, h1, hL, h2, h3⟩, st⟩ := vx_callSW X hx (hh := hh) (bytes := bytes) (maxL := maxL) (ret := ret) ho hl hstt hini hcode hy hK hg (hsize.trans hml.symm) (argsL := As) (rest := rest) (fun sig h => hn.trans (hlen sig h)) hstack hW (by rw [hb]; exact hdg)
    (fun vm₁ hW₁ => ⟨hf.1, hf.2, hp.2 (T.setVm vm₁) hT hW₁⟩)
  dsimp only [Pt.U, Pt.locs, Pt.cells, Pt.slots] at X' e1 e2 h1 h2 h3 st
  subst h1; subst h2; subst h3
  exact ⟨v, (T.setVm vm₁).calling g' mk As.toArray, t, U', L, hT, X', hL, e1, e2, hq, st⟩
/-- not caught here, past rows that name other classes: it goes on to the caller -/
theorem vx_outP {p : Program} {l : Launch} {e : Env} {R : Room} {s : State} {m : MethodId} {args : Array Value} {below : List Frame} {meth : Method} {c : Code} {H : Heap} {locs : List Loc} {cells slots : Nat} {free : Addr → Prop} {ls : Array Slot} {rest : List Value} {Qc : Array Value → State → Outcome → State → Prop} {XC : String → State → State → Prop}
    {pc : Nat} {own E : String} {ce : Cell} {q : Addr} {mc ms : Nat} (hown : s.vm.findClass own = some m.cls) (hlocks : meth.locks = false)
    (hpass : ∀ z ∈ c.exceptionTable.toList, covers z pc = false ∨ (z.catchType ≠ 0 ∧ ∃ nm : String, (Cond.classLink own z.catchType nm).before args s = true ∧ va_Nc E nm s)) (hcell : H[q]? = some ce) (hv : ce.vm = .none) (hcl : s.vm.findClass E = some ce.cls)
    (hx : ∀ t : State, t.heap = H → s.vm.Alike t.vm → XC E s t) (hf : ∀ z ∈ locs, free z.base) (hc : cells ≤ mc) (hs : slots ≤ ms) :
    vx_W p l e R s m args below meth c H locs cells slots (vx_MQ below Qc XC args s mc ms free) (F0 m pc ls rest) q := by
  intro T hT X
  have hpl : e.platform.magicAccessors = ({} : Platform).magicAccessors := by rw [X.admits.platform]
  obtain ⟨vm', hW', X', st⟩ := Stand.outThrough X hlocks q (g := F0 m pc ls rest) rfl rfl rfl (cell := ce) (by rw [hT]; exact hcell) (by rw [hv]; rfl)
    (by obtain ⟨k9, h9, -⟩ := Vm.findClass_spec hcl; exact ⟨k9, h9⟩) (fun z hz => by
      rcases hpass z hz with h | ⟨hz0, nm, hl1, hn1⟩
      · exact Or.inl h
      · obtain ⟨c6, hc6, hcl6⟩ := Cond.classLink_spec hown hl1 e.platform hpl
        obtain ⟨a8, b8, h1, h2, h3⟩ := hn1
        cases Option.some.inj (h1.symm.trans hcl)
        cases Option.some.inj (h2.symm.trans hc6)
        exact Or.inr ⟨hz0, _, hcl6, h3⟩)
  obtain ⟨g₀, hfr⟩ := X'.frames_eq
  have hcell9 : ((T.setVm vm').setFrames (.throwing q :: below)).heap[q]? = some ce := by
    show T.heap[q]? = some ce
    rw [hT]; exact hcell
  have hend : Ended ((T.setVm vm').setFrames (.throwing q :: below)) below (.threw q) := State.frames_setFrames _ (State.cur_lt_of_frames hfr)
  refine ⟨(T.setVm vm').setFrames (.throwing q :: below), ?_, .threw q, X'.here.running, hend, Or.inr ⟨q, rfl, E, ce, locs, hx _ hT (X'.ends _).1.alike, hcell9, hv, hcl, (X'.ends _).1, (X'.ends _).2.mono hc hs, hf⟩⟩
  rw [X.pushThrowing_eq]
  exact st
/-- a thing of a world lies in the heap -/
theorem vx_lt {D : va_G} {cl : List vw_C} {ws : va_W} {H1 : Heap} (h : va_P D cl ws H1) {k : Nat} {q : Nat × va_E} (hk : ws[k]? = some q) : q.1 < H1.size := (h k q hk).lt
end VXS
/-! ===== END ===== -/
/-! ===== BEGIN methods with a table of their own: called by a name, returning or throwing ===== -/
section VXH
/-! vx_backW, vx_callVX, vx_callSX, vx_callVW, vx_runVW, vx_runVX, vx_runSX, vx_ofWH follow the same proofs as their sisters above (Free/Laws.lean, Shelf42/LK1.lean); vx_outP calls Shelf42/NT130.lean (outThrough). -/
section
variable {l : Launch} {R : Room} {p : Program} {e : Env} {below : List Frame} {s : State} {sargs : Array Value} {y : MethodName} {len W9 : Nat}
theorem vx_backW {ws : List Cond} {rm : Room} {Pc : Array Value → State → Prop} {Qc : Array Value → State → Outcome → State → Prop} {XC : String → State → State → Prop} {mc ms : Nat} {free : Addr → Prop} {bytes : ByteArray} {maxL : Nat} {ret : Option FieldType} {hh : List (Nat × Nat × Nat × Nat)}
    (hM : vx_Met l y ws rm Pc Qc XC mc ms free) (hblind : FrameBlind Pc) (hrc : rm.cells = mc) (hrs : rm.slots = ms)
    (hframes : rm.frames + 1 ≤ R.frames) (hlocals : W9 + (maxL + 11) + rm.locals ≤ R.locals)
    (hws : ∀ w ∈ ws, ∀ a' U, s.WarmedH U.vm → w.before a' U = true) (hcode : Cond.codeWith y bytes maxL ret hh ∈ ws) (hinit : ∀ a' U, s.WarmedH U.vm → (Cond.initialized y.cls).before a' U = true) :
    vx_Back l R p e below s sargs y len W9 (PreOf R mc ms Pc) (PostOf Qc mc ms free) (vx_Post XC mc ms free) := by
  intro m meth c A g ig mk a X hg hsize hdg hW hn hp
  have h1 : (headSpec ws rm).pre.before a A.U = true := atoms_intro fun w hw => hws w hw _ _ X.warmed
  have h2 : (Cond.codeWith y bytes maxL ret hh).before a A.U = true := hws _ hcode _ _ X.warmed
  have h3 : (Cond.initialized y.cls).before a A.U = true := hinit _ _ X.warmed
  have h4 : A.cells + (headSpec ws rm).room.cells ≤ R.cells := by rw [show (headSpec ws rm).room.cells = mc from hrc]; exact hp.1
  have h5 : A.slots + (headSpec ws rm).room.slots ≤ R.slots := by rw [show (headSpec ws rm).room.slots = ms from hrs]; exact hp.2.1
  have hPc : Pc a (A.U.calling g mk a) := hblind _ _ _ _ hp.2.2
  obtain ⟨U, Ls, c0, s0⟩ := A
  dsimp only [Pt.U, Pt.locs, Pt.cells, Pt.slots] at h1 h2 h3 h4 h5 X hn hPc ⊢
  obtain ⟨m9, methY, cY, hn9, hmY, hcY, -, hlY, -⟩ := Cond.codeWith_spec h2
  cases Option.some.inj (hn9.symm.trans hn)
  obtain ⟨kY, hkY, -⟩ := className_of_methodNamed hn
  have hinitY : kY.init = .initialized := Cond.initialized_spec (findClass_of_methodNamed hn) hkY h3
  have h : At U g.method c below := by rw [hg]; exact X.here
  have hlocals9 : W9 + (maxL + 11) + (headSpec ws rm).room.locals ≤ R.locals := hlocals
  have happ : (headSpec ws rm).appliesLoose y e.platform (U.calling g mk a) = true :=
    Spec.appliesLoose_calling (g := g) h hdg hn hkY hinitY
      (X.room_calling (g := g) (R' := (headSpec ws rm).room) hsize hmY hcY hframes (by rw [hlY]; omega) h4 h5) h1
  obtain ⟨mid, hmid⟩ := h.above
  have hfr : (U.setTop g).frames = (.java g :: mid) ++ below := by rw [State.frames_setTop' g h.top, hmid]; rfl
  obtain ⟨o, s₂, hsteps, -, hend, hq⟩ := Steps.callFree hM p X.admits X.cas X.clock (acts := []) hfr happ hPc trivial
  have hq' : vx_Q Qc XC mc ms free a (U.calling g mk a) o s₂ := hq
  rw [State.frames_setTop' g h.top] at hend
  obtain ⟨g₀, hg0⟩ := Option.isSome_iff_exists.mp h.top
  obtain ⟨r, hr⟩ := State.topJava?_eq_some.mp hg0
  have hr' : (({ U with heap := s₂.heap, slotsUsed := s₂.slotsUsed } : State).setVm s₂.vm).frames = .java g₀ :: r := hr
  rcases hq' with ⟨hqc, L, hfe, hL⟩ | ⟨q, rfl, E, ce, L, hx, hce, hcv, hcl, hW₂, hsm, hL⟩
  · obtain ⟨⟨v, rfl⟩, hW₂, e2, q2, q3, q4, q5, q6⟩ := id hfe
    have e3 : s₂ = ({ (U.calling g mk a).setFrames s₂.frames with heap := s₂.heap, slotsUsed := s₂.slotsUsed } : State).setVm s₂.vm := by
      have : s₂ = ({ s₂ with vm := (U.calling g mk a).vm } : State).setVm s₂.vm := rfl
      rw [e2] at this
      exact this
    obtain ⟨c₂, i₂, len₂, hc₂, hd₂, hf₂⟩ := hend
    have hW' : U.WarmedH s₂.vm := hW₂
    have hcc : c₂ = c := by
      have h1 : s₂.code? g.method = U.code? g.method := by
        rw [State.code?_eq, State.code?_eq, hW'.alike.method?]
      exact Option.some.inj (hc₂.symm.trans (h1.trans h.code))
    subst hcc
    have hlen : len₂ = len := by rw [hdg] at hd₂; cases hd₂; rfl
    subst hlen
    have hs₂ : s₂ = (({ U with heap := s₂.heap, slotsUsed := s₂.slotsUsed } : State).setVm s₂.vm).setTop { g with pc := g.pc + len₂, stack := v.toList ++ g.stack } := by
      refine e3.trans ?_
      rw [hf₂, State.calling_eq h.top, State.setFrames_setFrames, State.setTop_of_frames _ hr', hr]
      rfl
    have hsame : U.sameButNew ({ U with heap := s₂.heap, slotsUsed := s₂.slotsUsed } : State) L mc ms := by
      refine ⟨?_, q2, q3, q4, q5, q6⟩
      obtain ⟨t, ht, -⟩ := State.frames_cons hr
      show ({ U with heap := s₂.heap, slotsUsed := s₂.slotsUsed } : State) = { U.setFrames U.frames with heap := s₂.heap, slotsUsed := s₂.slotsUsed }
      rw [State.setFrames_self ht]
    subst hg
    refine Or.inl ⟨v, ⟨(({ U with heap := s₂.heap, slotsUsed := s₂.slotsUsed } : State).setVm s₂.vm), Ls ++ L, c0 + mc, s0 + ms⟩,
      ⟨X.admits, X.cas, X.clock, X.frames, X.room, X.hears, X.method, X.code, (X.here.setHeapUsed s₂.heap s₂.slotsUsed).setVm hW'.alike, X.tail, State.WarmedH.trans X.warmed hW', X.limits, X.bytes, X.same.trans (hsame.setVm s.vm)⟩,
      ⟨g, mk, s₂, L, rfl, rfl, hqc, rfl, hL, rfl, rfl⟩, ?_⟩
    show Steps p.tables e below _ ((({ U with heap := s₂.heap, slotsUsed := s₂.slotsUsed } : State).setVm s₂.vm).setTop { g with pc := g.pc + len₂, stack := v.toList ++ g.stack })
    rw [← hs₂]
    exact hsteps
  · obtain ⟨e2, q2, q3, q4, q5, q6⟩ := id hsm
    have e3 : s₂ = ({ (U.calling g mk a).setFrames s₂.frames with heap := s₂.heap, slotsUsed := s₂.slotsUsed } : State).setVm s₂.vm := by
      have : s₂ = ({ s₂ with vm := (U.calling g mk a).vm } : State).setVm s₂.vm := rfl
      rw [e2] at this
      exact this
    have hf₂ : s₂.frames = .throwing q :: .java g :: U.frames.tail := hend
    have hW' : U.WarmedH s₂.vm := hW₂
    have hs₂ : s₂ = ((({ U with heap := s₂.heap, slotsUsed := s₂.slotsUsed } : State).setVm s₂.vm).setTop g).pushFrame (.throwing q) := by
      refine e3.trans ?_
      rw [hf₂, State.calling_eq h.top, State.setFrames_setFrames, State.pushFrame, State.frames_setTop _ hr', State.setTop_of_frames _ hr', State.setFrames_setFrames, hr]
      rfl
    have hsame : U.sameButNew ({ U with heap := s₂.heap, slotsUsed := s₂.slotsUsed } : State) L mc ms := by
      refine ⟨?_, q2, q3, q4, q5, q6⟩
      obtain ⟨t, ht, -⟩ := State.frames_cons hr
      show ({ U with heap := s₂.heap, slotsUsed := s₂.slotsUsed } : State) = { U.setFrames U.frames with heap := s₂.heap, slotsUsed := s₂.slotsUsed }
      rw [State.setFrames_self ht]
    subst hg
    refine Or.inr ⟨q, ⟨(({ U with heap := s₂.heap, slotsUsed := s₂.slotsUsed } : State).setVm s₂.vm), Ls ++ L, c0 + mc, s0 + ms⟩,
      ⟨X.admits, X.cas, X.clock, X.frames, X.room, X.hears, X.method, X.code, (X.here.setHeapUsed s₂.heap s₂.slotsUsed).setVm hW'.alike, X.tail, State.WarmedH.trans X.warmed hW', X.limits, X.bytes, X.same.trans (hsame.setVm s.vm)⟩,
      ⟨g, mk, s₂, L, E, ce, rfl, rfl, hx, hce, hcv, hcl, rfl, hL, rfl, rfl⟩, ?_⟩
    show Steps p.tables e below _ (((({ U with heap := s₂.heap, slotsUsed := s₂.slotsUsed } : State).setVm s₂.vm).setTop g).pushFrame (.throwing q))
    rw [← hs₂]
    exact hsteps
end
variable {p : Program} {l : Launch} {e : Env} {R : Room} {s : State} {m : MethodId} {args : Array Value} {below : List Frame} {meth : Method} {c : Code} {T : State} {H : Heap} {locs : List Loc} {cells slots : Nat}
theorem vx_callVX (X : Stand p l e R s m args below meth c T locs cells slots) (hexec : p.tables.exec = Jvm.exec) {own C : String} {index : Nat} {y : MethodName} {bytes : ByteArray} {maxL : Nat} {ret : Option FieldType} {hh : List (Nat × Nat × Nat × Nat)}
    (hown : s.vm.findClass own = some m.cls) (hlink : (Cond.methodLink own index y).before args s = true) (hinst : (Cond.instanceMethod y).before args s = true) (hsel : (Cond.selects C y y).before args s = true)
    (hcode : (Cond.codeWith y bytes maxL ret hh).before args s = true) (hy : y.cls ≠ "java/lang/invoke/MethodHandle" ∧ y.cls ≠ "java/lang/invoke/VarHandle")
    {W9 : Nat} {Pre : Pt → Array Value → Prop} {Post : Pt → Array Value → Option Value → Pt → Prop} {PostX : Pt → Array Value → Addr → Pt → Prop} (hK : vx_Back l R p e below s args y 3 W9 Pre Post PostX)
    {b : Addr} {cellB : Cell} (hcell : T.heap[b]? = some cellB) (hobj : cellB.vm.isStatics = false) (hcls : s.vm.findClass C = some cellB.cls)
    {g : JFrame} (hg : g.method = m) (hsize : g.locals.size = c.maxLocals) {argsL rest : List Value} (hlen : ∀ sig, parseMethodDescriptor y.desc = some sig → argsL.length = sig.parameters.length)
    (hstack : g.stack = argsL.reverse ++ .ref b :: rest) (hW : 2 * g.monitorRoom + (rest.map fun v => v.category).sum ≤ W9) (hdg : decode c.code g.pc = .ok (.invokevirtual index, 3))
    (hpre : ∀ vm₁, s.WarmedH vm₁ → Pre ⟨T.setVm vm₁, locs, cells, slots⟩ (Value.ref b :: argsL).toArray) :
    (∃ (v : Option Value) (vm₁ : Vm) (B : Pt), s.WarmedH vm₁ ∧ Stand p l e R s m args below meth c B.U B.locs B.cells B.slots ∧ Post ⟨T.setVm vm₁, locs, cells, slots⟩ (Value.ref b :: argsL).toArray v B ∧
      ∀ target, Steps p.tables e below (B.U.setTop { g with pc := g.pc + 3, stack := v.toList ++ rest }) target → Steps p.tables e below (T.setTop g) target) ∨
    (∃ (q : Addr) (vm₁ : Vm) (B : Pt), s.WarmedH vm₁ ∧ Stand p l e R s m args below meth c B.U B.locs B.cells B.slots ∧ PostX ⟨T.setVm vm₁, locs, cells, slots⟩ (Value.ref b :: argsL).toArray q B ∧
      Steps p.tables e below (T.setTop g) ((B.U.setTop { g with stack := rest }).pushFrame (.throwing q))) := by
  obtain ⟨mk, methM, hnamed, hmethM, hstM, habM⟩ := Cond.instanceMethod_spec hinst
  obtain ⟨m8, methM', cM, hn8, hmethM', -, -, -, -, -, -, hsigM⟩ := Cond.codeWith_spec hcode
  cases Option.some.inj (hn8.symm.trans hnamed)
  cases hmethM.symm.trans hmethM'
  obtain ⟨c2, r2, m2, q1, q2, q3, q4, kP, hkP, hkPi⟩ := Cond.selects_spec hsel
  cases hcls.symm.trans q1
  cases (State.methodFound?_of_named hnamed hy).symm.trans q2
  cases hnamed.symm.trans q3
  have hselP : selectMethod e.platform s.vm cellB.cls mk = .method mk := by rw [Launch.admits_selectMethod X.admits]; exact q4
  obtain ⟨vm₁, X₁, hstep₁⟩ := X.invokevirtual hexec hown hlink hnamed hmethM hstM hkP hkPi hy (a := b) (cell := cellB) hcell
    (fun z h => by rw [h] at hobj; cases hobj) hselP hmethM habM hkP hkPi (g := g) hg (argsL := argsL) (rest := rest) (hlen _ hsigM) hstack hdg
  rcases hK m meth c ⟨T.setVm vm₁, locs, cells, slots⟩ { g with stack := rest } (.invokevirtual index) mk (Value.ref b :: argsL).toArray X₁ hg hsize hdg hW (X₁.named hnamed) (hpre vm₁ X₁.warmed) with ⟨v, B, X', hpost, hsteps⟩ | ⟨q, B, X', hpost, hsteps⟩
  · exact Or.inl ⟨v, vm₁, B, X₁.warmed, X', hpost, fun target h => hstep₁ _ fun acts => by rw [doInvoke_state]; exact hsteps.trans h⟩
  · exact Or.inr ⟨q, vm₁, B, X₁.warmed, X', hpost, hstep₁ _ fun acts => by rw [doInvoke_state]; exact hsteps⟩
theorem vx_callSX (X : Stand p l e R s m args below meth c T locs cells slots) (hexec : p.tables.exec = Jvm.exec) {own : String} {index : Nat} {y : MethodName} {bytes : ByteArray} {maxL : Nat} {ret : Option FieldType} {hh : List (Nat × Nat × Nat × Nat)}
    (hown : s.vm.findClass own = some m.cls) (hlink : (Cond.methodLink own index y).before args s = true) (hstat : (Cond.static y).before args s = true) (hinit : (Cond.initialized y.cls).before args s = true)
    (hcode : (Cond.codeWith y bytes maxL ret hh).before args s = true) (hy : y.cls ≠ "java/lang/invoke/MethodHandle" ∧ y.cls ≠ "java/lang/invoke/VarHandle")
    {W9 : Nat} {Pre : Pt → Array Value → Prop} {Post : Pt → Array Value → Option Value → Pt → Prop} {PostX : Pt → Array Value → Addr → Pt → Prop} (hK : vx_Back l R p e below s args y 3 W9 Pre Post PostX)
    {g : JFrame} (hg : g.method = m) (hsize : g.locals.size = c.maxLocals) {argsL rest : List Value} (hlen : ∀ sig, parseMethodDescriptor y.desc = some sig → argsL.length = sig.parameters.length)
    (hstack : g.stack = argsL.reverse ++ rest) (hW : 2 * g.monitorRoom + (rest.map fun v => v.category).sum ≤ W9) (hdg : decode c.code g.pc = .ok (.invokestatic index, 3))
    (hpre : ∀ vm₁, s.WarmedH vm₁ → Pre ⟨T.setVm vm₁, locs, cells, slots⟩ argsL.toArray) :
    (∃ (v : Option Value) (vm₁ : Vm) (B : Pt), s.WarmedH vm₁ ∧ Stand p l e R s m args below meth c B.U B.locs B.cells B.slots ∧ Post ⟨T.setVm vm₁, locs, cells, slots⟩ argsL.toArray v B ∧
      ∀ target, Steps p.tables e below (B.U.setTop { g with pc := g.pc + 3, stack := v.toList ++ rest }) target → Steps p.tables e below (T.setTop g) target) ∨
    (∃ (q : Addr) (vm₁ : Vm) (B : Pt), s.WarmedH vm₁ ∧ Stand p l e R s m args below meth c B.U B.locs B.cells B.slots ∧ PostX ⟨T.setVm vm₁, locs, cells, slots⟩ argsL.toArray q B ∧
      Steps p.tables e below (T.setTop g) ((B.U.setTop { g with stack := rest }).pushFrame (.throwing q))) := by
  obtain ⟨mk, methM, cM, hnamed, hmethM, -, -, -, -, -, -, hsigM⟩ := Cond.codeWith_spec hcode
  have hstatic : methM.isStatic = true := Cond.static_spec hnamed hmethM hstat
  obtain ⟨kP, hkP, -⟩ := className_of_methodNamed hnamed
  have hinitP : kP.init = .initialized := Cond.initialized_spec (findClass_of_methodNamed hnamed) hkP hinit
  obtain ⟨vm₁, X₁, hstep₁⟩ := X.invokestatic hexec hown hlink hnamed hmethM hstatic hkP hinitP hy (g := g) hg (argsL := argsL) (rest := rest) (hlen _ hsigM) hstack hdg
  rcases hK m meth c ⟨T.setVm vm₁, locs, cells, slots⟩ { g with stack := rest } (.invokestatic index) mk argsL.toArray X₁ hg hsize hdg hW (X₁.named hnamed) (hpre vm₁ X₁.warmed) with ⟨v, B, X', hpost, hsteps⟩ | ⟨q, B, X', hpost, hsteps⟩
  · exact Or.inl ⟨v, vm₁, B, X₁.warmed, X', hpost, fun target h => hstep₁ _ fun acts => by rw [doInvoke_state]; exact hsteps.trans h⟩
  · exact Or.inr ⟨q, vm₁, B, X₁.warmed, X', hpost, hstep₁ _ fun acts => by rw [doInvoke_state]; exact hsteps⟩
theorem vx_callVW (X : Stand p l e R s m args below meth c T locs cells slots) (hexec : p.tables.exec = Jvm.exec) {own C : String} {index : Nat} {y : MethodName} {bytes : ByteArray} {maxL : Nat} {ret : Option FieldType} {hh : List (Nat × Nat × Nat × Nat)}
    (hown : s.vm.findClass own = some m.cls) (hlink : (Cond.methodLink own index y).before args s = true) (hinst : (Cond.instanceMethod y).before args s = true) (hsel : (Cond.selects C y y).before args s = true)
    (hcode : (Cond.codeWith y bytes maxL ret hh).before args s = true) (hy : y.cls ≠ "java/lang/invoke/MethodHandle" ∧ y.cls ≠ "java/lang/invoke/VarHandle")
    {W9 : Nat} {Pre : Pt → Array Value → Prop} {Post : Pt → Array Value → Option Value → Pt → Prop} (hK : Back l R p e below s args y 3 W9 Pre Post)
    {b : Addr} {cellB : Cell} (hcell : T.heap[b]? = some cellB) (hobj : cellB.vm.isStatics = false) (hcls : s.vm.findClass C = some cellB.cls)
    {g : JFrame} (hg : g.method = m) (hsize : g.locals.size = c.maxLocals) {argsL rest : List Value} (hlen : ∀ sig, parseMethodDescriptor y.desc = some sig → argsL.length = sig.parameters.length)
    (hstack : g.stack = argsL.reverse ++ .ref b :: rest) (hW : 2 * g.monitorRoom + (rest.map fun v => v.category).sum ≤ W9) (hdg : decode c.code g.pc = .ok (.invokevirtual index, 3))
    (hpre : ∀ vm₁, s.WarmedH vm₁ → Pre ⟨T.setVm vm₁, locs, cells, slots⟩ (Value.ref b :: argsL).toArray) :
    ∃ (v : Option Value) (vm₁ : Vm) (B : Pt), s.WarmedH vm₁ ∧ Stand p l e R s m args below meth c B.U B.locs B.cells B.slots ∧ Post ⟨T.setVm vm₁, locs, cells, slots⟩ (Value.ref b :: argsL).toArray v B ∧
      ∀ target, Steps p.tables e below (B.U.setTop { g with pc := g.pc + 3, stack := v.toList ++ rest }) target → Steps p.tables e below (T.setTop g) target := by
  obtain ⟨mk, methM, hnamed, hmethM, hstM, habM⟩ := Cond.instanceMethod_spec hinst
  obtain ⟨m8, methM', cM, hn8, hmethM', -, -, -, -, -, -, hsigM⟩ := Cond.codeWith_spec hcode
  cases Option.some.inj (hn8.symm.trans hnamed)
  cases hmethM.symm.trans hmethM'
  obtain ⟨c2, r2, m2, q1, q2, q3, q4, kP, hkP, hkPi⟩ := Cond.selects_spec hsel
  cases hcls.symm.trans q1
  cases (State.methodFound?_of_named hnamed hy).symm.trans q2
  cases hnamed.symm.trans q3
  have hselP : selectMethod e.platform s.vm cellB.cls mk = .method mk := by rw [Launch.admits_selectMethod X.admits]; exact q4
  obtain ⟨vm₁, X₁, hstep₁⟩ := X.invokevirtual hexec hown hlink hnamed hmethM hstM hkP hkPi hy (a := b) (cell := cellB) hcell
    (fun z h => by rw [h] at hobj; cases hobj) hselP hmethM habM hkP hkPi (g := g) hg (argsL := argsL) (rest := rest) (hlen _ hsigM) hstack hdg
  obtain ⟨v, B, X', hpost, hsteps⟩ := hK m meth c ⟨T.setVm vm₁, locs, cells, slots⟩ { g with stack := rest } (.invokevirtual index) mk (Value.ref b :: argsL).toArray X₁ hg hsize hdg hW (X₁.named hnamed) (hpre vm₁ X₁.warmed)
  exact ⟨v, vm₁, B, X₁.warmed, X', hpost, fun target h => hstep₁ _ fun acts => by rw [doInvoke_state]; exact hsteps.trans h⟩
abbrev vx_CVW (R : Room) (s : State) (args : Array Value) (own C : String) (index : Nat) (y : MethodName) (bytes : ByteArray) (maxL : Nat) (ret : Option FieldType) (hh : List (Nat × Nat × Nat × Nat)) (ws : List Cond) (rm : Room) (mc ms n : Nat) : Prop :=
  (rm.cells = mc ∧ rm.slots = ms ∧ rm.frames + 1 ≤ R.frames ∧ 8 + (maxL + 11) + rm.locals ≤ R.locals ∧ (∀ w ∈ ws, ∀ (a' : Array Value) (U : State), s.WarmedH U.vm → w.before a' U = true) ∧ Cond.codeWith y bytes maxL ret hh ∈ ws) ∧
  (Cond.codeWith y bytes maxL ret hh).before args s = true ∧ (Cond.initialized y.cls).before args s = true ∧ (y.cls ≠ "java/lang/invoke/MethodHandle" ∧ y.cls ≠ "java/lang/invoke/VarHandle") ∧
  (∀ sig, parseMethodDescriptor y.desc = some sig → n = sig.parameters.length) ∧ (Cond.methodLink own index y).before args s = true ∧ (Cond.instanceMethod y).before args s = true ∧ (Cond.selects C y y).before args s = true
theorem vx_cwVW {own C : String} {index maxL mc ms : Nat} {y : MethodName} {bytes : ByteArray} {ret : Option FieldType} {hh : List (Nat × Nat × Nat × Nat)} {Ts ws ws' : List Cond} {rm : Room} (n : Nat) (ht : ∀ w ∈ Ts, w.before args s = true) (hT : GoodIn Ts (wsV own index C y ws)) (hw : ws = Cond.codeWith y bytes maxL ret hh :: ws') (hrc : rm.cells = mc) (hrs : rm.slots = ms)
    (hd : y.cls = C ∧ y.cls ≠ "java/lang/invoke/MethodHandle" ∧ y.cls ≠ "java/lang/invoke/VarHandle" ∧ (parseMethodDescriptor y.desc).map (fun d => d.parameters.length) = some n) (hR : rm.frames + 1 ≤ R.frames ∧ 8 + (maxL + 11) + rm.locals ≤ R.locals) :
    vx_CVW R s args own C index y bytes maxL ret hh ws rm mc ms n := by
  obtain ⟨hC, hd⟩ := hd
  subst hC
  have ok : ∀ w ∈ wsV own index y.cls y ws, w.before args s = true := fun w h => ht w (hT w h).1
  have hG : GoodIn Ts ws := fun w h => hT w (by unfold wsV; exact List.mem_append_right _ h)
  have hc : Cond.codeWith y bytes maxL ret hh ∈ ws := by rw [hw]; exact List.mem_cons_self
  refine ⟨⟨hrc, hrs, hR.1, hR.2, pay_in ht hG, hc⟩, ht _ (hG _ hc).1, ok _ (by simp [wsV]), ⟨hd.1, hd.2.1⟩, fun sig h => ?_, ok _ (by simp [wsV]), ok _ (by simp [wsV]), ok _ (by simp [wsV])⟩
  have h2 := hd.2.2
  rw [h] at h2
  exact (Option.some.inj h2).symm
theorem vx_runVW {y : MethodName} {bytes cc : ByteArray} {maxL nL mc ms n index : Nat} {ret : Option FieldType} {hh : List (Nat × Nat × Nat × Nat)} {ws : List Cond} {rm : Room} {Pc : Array Value → State → Prop} {Qc : Array Value → State → Outcome → State → Prop} {free : Addr → Prop} {Ts : List Cond} {own C : String} {b : Addr} {As rest : List Value} {g : JFrame}
    (S : CallFix p m c cc nL s args Ts own) (hM : Met l y ws rm Pc Qc mc ms free) (cw : vx_CVW R s args own C index y bytes maxL ret hh ws rm mc ms n) (hp : PreV s H C b Pc As)
    (hg : g.method = m) (hn : As.length = n) (hsize : g.locals.size = nL) (hstack : g.stack = As.reverse ++ .ref b :: rest) (hW : 2 * g.monitorRoom + (rest.map fun v => v.category).sum ≤ 8) (hdg : decode cc g.pc = .ok (.invokevirtual index, 3)) (hf : cells + mc ≤ R.cells ∧ slots + ms ≤ R.slots) :
    va_Run p l e R s m args below meth c H locs cells slots mc ms g rest (Qc (Value.ref b :: As).toArray) free := by
  obtain ⟨⟨hrc, hrs, hfr, hlo, hws, hcw⟩, hcode, hini, hy, hlen, hl, hin, hse⟩ := cw
  have hK : Back l R p e below s args y 3 8 (PreOf R mc ms Pc) (PostOf Qc mc ms free) := va_backW (hh := hh) (bytes := bytes) (maxL := maxL) (ret := ret) hM hp.1 hrc hrs hfr hlo hws hcw (fun a' U hW => word_at hW (Or.inl (by first | rfl | simp [Cond.onTables, Cond.keeps, Cond.steady])) hini)
  obtain ⟨hx, hb, hml, ho, -⟩ := S
  obtain ⟨-, ⟨cellB, hcB, hoB, hclB⟩, hPc⟩ := hp
  intro T hT X
  obtain ⟨v, vm₁, ⟨U', l2, c2, s2⟩, hW₁, X', ⟨g', mk, t, L, e1, e2, hq, h1, hL, h2, h3⟩, st⟩ := vx_callVW X hx (C := C) (hh := hh) (bytes := bytes) (maxL := maxL) (ret := ret) ho hl hin hse hcode hy hK (by rw [hT]; exact hcB) hoB hclB hg (hsize.trans hml.symm) (argsL := As) (rest := rest) (fun sig h => hn.trans (hlen sig h)) hstack hW (by rw [hb]; exact hdg)
    (fun vm₁ hW₁ => ⟨hf.1, hf.2, hPc (T.setVm vm₁) hT hW₁⟩)
  dsimp only [Pt.U, Pt.locs, Pt.cells, Pt.slots] at X' e1 e2 h1 h2 h3 st
  subst h1; subst h2; subst h3
  exact ⟨v, (T.setVm vm₁).calling g' mk (Value.ref b :: As).toArray, t, U', L, hT, X', hL, e1, e2, hq, st⟩
section
variable {y : MethodName} {bytes cc : ByteArray} {maxL nL mc ms n index : Nat} {ret : Option FieldType} {ws : List Cond} {rm : Room} {Pc : Array Value → State → Prop} {Qc : Array Value → State → Outcome → State → Prop} {XC : String → State → State → Prop} {free : Addr → Prop} {Ts : List Cond} {own C : String} {b : Addr} {As rest : List Value} {g : JFrame}
theorem vx_runVX {hh : List (Nat × Nat × Nat × Nat)} (S : CallFix p m c cc nL s args Ts own) (hM : vx_Met l y ws rm Pc Qc XC mc ms free) (cw : vx_CVW R s args own C index y bytes maxL ret hh ws rm mc ms n) (hp : PreV s H C b Pc As)
    (hg : g.method = m) (hn : As.length = n) (hsize : g.locals.size = nL) (hstack : g.stack = As.reverse ++ .ref b :: rest) (hW : 2 * g.monitorRoom + (rest.map fun v => v.category).sum ≤ 8) (hdg : decode cc g.pc = .ok (.invokevirtual index, 3)) (hf : cells + mc ≤ R.cells ∧ slots + ms ≤ R.slots) :
    vx_Run p l e R s m args below meth c H locs cells slots mc ms g rest (Qc (Value.ref b :: As).toArray) XC free := by
  obtain ⟨⟨hrc, hrs, hfr, hlo, hws, hcw⟩, hcode, hini, hy, hlen, hl, hin, hse⟩ := cw
  have hK : vx_Back l R p e below s args y 3 8 (PreOf R mc ms Pc) (PostOf Qc mc ms free) (vx_Post XC mc ms free) := vx_backW (hh := hh) (bytes := bytes) (maxL := maxL) (ret := ret) hM hp.1 hrc hrs hfr hlo hws hcw (fun a' U hW => word_at hW (Or.inl (by first | rfl | simp [Cond.onTables, Cond.keeps, Cond.steady])) hini)
  obtain ⟨hx, hb, hml, ho, -⟩ := S
  obtain ⟨-, ⟨cellB, hcB, hoB, hclB⟩, hPc⟩ := hp
  intro T hT X
  rcases vx_callVX X hx (C := C) (hh := hh) (bytes := bytes) (maxL := maxL) (ret := ret) ho hl hin hse hcode hy hK (by rw [hT]; exact hcB) hoB hclB hg (hsize.trans hml.symm) (argsL := As) (rest := rest) (fun sig h => hn.trans (hlen sig h)) hstack hW (by rw [hb]; exact hdg)
    (fun vm₁ hW₁ => ⟨hf.1, hf.2, hPc (T.setVm vm₁) hT hW₁⟩) with ⟨v, vm₁, ⟨U', l2, c2, s2⟩, hW₁, X', ⟨g', mk, t, L, e1, e2, hq, h1, hL, h2, h3⟩, st⟩ | ⟨q, vm₁, ⟨U', l2, c2, s2⟩, hW₁, X', ⟨g', mk, t, L, E, ce, e1, e2, hq, hce, hcv, hcl, h1, hL, h2, h3⟩, st⟩
  · dsimp only [Pt.U, Pt.locs, Pt.cells, Pt.slots] at X' e1 e2 h1 h2 h3 st
    subst h1; subst h2; subst h3
    exact Or.inl ⟨v, (T.setVm vm₁).calling g' mk (Value.ref b :: As).toArray, t, U', L, hT, X', hL, e1, e2, hq, st⟩
  · dsimp only [Pt.U, Pt.locs, Pt.cells, Pt.slots] at X' e1 e2 h1 h2 h3 st hcl
    subst h1; subst h2; subst h3
    exact Or.inr ⟨q, (T.setVm vm₁).calling g' mk (Value.ref b :: As).toArray, t, U', L, E, ce, hT, X', hL, e1, e2, hq, hce, hcv, vx_cls hW₁ hcl, st⟩
theorem vx_runSX {hh : List (Nat × Nat × Nat × Nat)} (S : CallFix p m c cc nL s args Ts own) (hM : vx_Met l y ws rm Pc Qc XC mc ms free) (cw : vx_CSW R s args own index y bytes maxL ret hh ws rm mc ms n) (hp : PreS s H Pc As)
    (hg : g.method = m) (hn : As.length = n) (hsize : g.locals.size = nL) (hstack : g.stack = As.reverse ++ rest) (hW : 2 * g.monitorRoom + (rest.map fun v => v.category).sum ≤ 8) (hdg : decode cc g.pc = .ok (.invokestatic index, 3)) (hf : cells + mc ≤ R.cells ∧ slots + ms ≤ R.slots) :
    vx_Run p l e R s m args below meth c H locs cells slots mc ms g rest (Qc As.toArray) XC free := by
  obtain ⟨⟨hrc, hrs, hfr, hlo, hws, hcw⟩, hcode, hini, hy, hlen, hl, hstt⟩ := cw
  have hK : vx_Back l R p e below s args y 3 8 (PreOf R mc ms Pc) (PostOf Qc mc ms free) (vx_Post XC mc ms free) := vx_backW (hh := hh) (bytes := bytes) (maxL := maxL) (ret := ret) hM hp.1 hrc hrs hfr hlo hws hcw (fun a' U hW => word_at hW (Or.inl (by first | rfl | simp [Cond.onTables, Cond.keeps, Cond.steady])) hini)
  obtain ⟨hx, hb, hml, ho, -⟩ := S
  intro T hT X
  rcases vx_callSX X hx (hh := hh) (bytes := bytes) (maxL := maxL) (ret := ret) ho hl hstt hini hcode hy hK hg (hsize.trans hml.symm) (argsL := As) (rest := rest) (fun sig h => hn.trans (hlen sig h)) hstack hW (by rw [hb]; exact hdg)
    (fun vm₁ hW₁ => ⟨hf.1, hf.2, hp.2 (T.setVm vm₁) hT hW₁⟩) with ⟨v, vm₁, ⟨U', l2, c2, s2⟩, hW₁, X', ⟨g', mk, t, L, e1, e2, hq, h1, hL, h2, h3⟩, st⟩ | ⟨q, vm₁, ⟨U', l2, c2, s2⟩, hW₁, X', ⟨g', mk, t, L, E, ce, e1, e2, hq, hce, hcv, hcl, h1, hL, h2, h3⟩, st⟩
  · dsimp only [Pt.U, Pt.locs, Pt.cells, Pt.slots] at X' e1 e2 h1 h2 h3 st
    subst h1; subst h2; subst h3
    exact Or.inl ⟨v, (T.setVm vm₁).calling g' mk As.toArray, t, U', L, hT, X', hL, e1, e2, hq, st⟩
  · dsimp only [Pt.U, Pt.locs, Pt.cells, Pt.slots] at X' e1 e2 h1 h2 h3 st hcl
    subst h1; subst h2; subst h3
    exact Or.inr ⟨q, (T.setVm vm₁).calling g' mk As.toArray, t, U', L, E, ce, hT, X', hL, e1, e2, hq, hce, hcv, vx_cls hW₁ hcl, st⟩
end
end VXH
theorem vx_ofWH {l : Launch} {y : MethodName} {ws ws' : List Cond} {rm : Room} {Pc : Array Value → State → Prop} {Qc : Array Value → State → Outcome → State → Prop} {XC : String → State → State → Prop} {mc ms : Nat} {free : Addr → Prop} {cc : ByteArray} {maxL : Nat} {ret : Option FieldType} {hh : List (Nat × Nat × Nat × Nat)}
    (hy : plainName y.cls = true) (hw : ws = Cond.codeWith y cc maxL ret hh :: ws')
    (body : ∀ p e s m args below meth c s₁, BodyLoose p l y (headSpec ws rm) cc maxL ret e s m args below meth c s₁ → c.maxLocals = maxL → Pc args s →
      W p l e (headSpec ws rm).room s m args below meth c s.heap [] 0 0 (vx_MQ below Qc XC args s mc ms free) (entryFrame m args maxL)) : vx_Met l y ws rm Pc Qc XC mc ms free := by
  refine MetFree.of_bodyS (code := cc) (maxLocals := maxL) (ret := ret) hy ?_ ?_
  · intro args s m h hn
    obtain ⟨m9, meth, c, hn9, h1, h2, h3, h4, -, h5, h6, -⟩ := Cond.codeWith_spec (atoms_spec (ws := ws) h _ (by rw [hw]; exact List.mem_cons_self))
    cases hn.symm.trans hn9
    exact ⟨meth, c, h1, h2, h3, h4, h5, h6⟩
  · intro p e s m args below meth c s₁ B hml hP _
    have hh0 : s₁.heap = s.heap := by rw [B.state]; rfl
    obtain ⟨t, a1, o, b1, b2, b3⟩ := body p e s m args below meth c s₁ B hml hP s₁ hh0 (Stand.of_body B)
    exact ⟨t, o, a1, b1, b2, b3⟩
/-! ===== END ===== -/
end
section
/-! THE ABSTRACT MACHINE. A state is five functions of numbers ('roles', 1 on; 0 is null): role r stands at address b + r. Z is the machine's judgement over it, a rule an instruction. -/
/-- launch, classes' numbers and slots, array classes by kind, base, addresses of the texts (below 100: the String, from 100 on: its bytes) -/
abbrev zE : Type := Launch × va_G × (Nat → ClassId) × Nat × (Nat → Nat)
def zl (E : zE) : Launch := E.1
def zD (E : zE) : va_G := E.2.1
def zcy (E : zE) (k : Nat) : ClassId := E.2.2.1 k
def zb (E : zE) : Nat := E.2.2.2.1
def zaS (E : zE) (k : Nat) : Nat := E.2.2.2.2 k
/-- name, code, locals, answer; room: frames, locals, cells, slots -/
abbrev zM : Type := MethodName × ByteArray × Nat × Option FieldType × Nat × Nat × Nat × Nat
def zrm (M : zM) : Room := { frames := M.2.2.2.2.1, locals := M.2.2.2.2.2.1, cells := M.2.2.2.2.2.2.1, slots := M.2.2.2.2.2.2.2 }
/-- how many roles, and whether roles may still be made; kinds and lengths; ints; references; longs -/
abbrev zS : Type := (Nat × Bool) × (Nat → Nat × Nat) × (Nat → Nat → Int32) × (Nat → Nat → Nat) × (Nat → Nat → Int64)
def zn (s : zS) : Nat := s.1.1
def zal (s : zS) : Bool := s.1.2
def zK (s : zS) (r : Nat) : Nat × Nat := s.2.1 r
def zI (s : zS) (r k : Nat) : Int32 := s.2.2.1 r k
def zR (s : zS) (r k : Nat) : Nat := s.2.2.2.1 r k
def zJ (s : zS) (r k : Nat) : Int64 := s.2.2.2.2 r k
def zpI (s : zS) (r k : Nat) (v : Int32) : zS := (s.1, s.2.1, (fun a j => if a = r ∧ j = k then v else s.2.2.1 a j), s.2.2.2.1, s.2.2.2.2)
def zpR (s : zS) (r k v : Nat) : zS := (s.1, s.2.1, s.2.2.1, (fun a j => if a = r ∧ j = k then v else s.2.2.2.1 a j), s.2.2.2.2)
def zpJ (s : zS) (r k : Nat) (v : Int64) : zS := (s.1, s.2.1, s.2.2.1, s.2.2.2.1, (fun a j => if a = r ∧ j = k then v else s.2.2.2.2 a j))
def znew (s : zS) (c len : Nat) : zS := ((s.1.1 + 1, s.1.2), (fun a => if a = s.1.1 + 1 then (c, len) else s.2.1 a), (fun a j => if a = s.1.1 + 1 then 0 else s.2.2.1 a j), (fun a j => if a = s.1.1 + 1 then 0 else s.2.2.2.1 a j), (fun a j => if a = s.1.1 + 1 then 0 else s.2.2.2.2 a j))
def zok (s : zS) (c r : Nat) : Prop := (zK s r).1 = c ∧ 0 < r ∧ r ≤ zn s
theorem zpI_n (s : zS) (r k : Nat) (v : Int32) : zn (zpI s r k v) = zn s := rfl
theorem zpI_K (s : zS) (r k : Nat) (v : Int32) (a : Nat) : zK (zpI s r k v) a = zK s a := rfl
theorem zpI_R (s : zS) (r k : Nat) (v : Int32) (a j : Nat) : zR (zpI s r k v) a j = zR s a j := rfl
theorem zpI_J (s : zS) (r k : Nat) (v : Int32) (a j : Nat) : zJ (zpI s r k v) a j = zJ s a j := rfl
theorem zpI_I (s : zS) (r k : Nat) (v : Int32) (a j : Nat) : zI (zpI s r k v) a j = if a = r ∧ j = k then v else zI s a j := rfl
theorem zpR_n (s : zS) (r k v : Nat) : zn (zpR s r k v) = zn s := rfl
theorem zpR_K (s : zS) (r k v : Nat) (a : Nat) : zK (zpR s r k v) a = zK s a := rfl
theorem zpR_I (s : zS) (r k v : Nat) (a j : Nat) : zI (zpR s r k v) a j = zI s a j := rfl
theorem zpR_J (s : zS) (r k v : Nat) (a j : Nat) : zJ (zpR s r k v) a j = zJ s a j := rfl
theorem zpR_R (s : zS) (r k v : Nat) (a j : Nat) : zR (zpR s r k v) a j = if a = r ∧ j = k then v else zR s a j := rfl
/-- the machine's value of ours -/
def zv (E : zE) : Value → Value
  | .ref r => .ref (zb E + r)
  | .retAddr k => .ref (zaS E k)
  | v => v
def zlv (E : zE) (q : Nat × Value) : Nat × Value := (q.1, zv E q.2)
def zty (c k : Nat) : FieldType := match c with
  | 0 => tyX0 k | 1 => tyX1 k | 2 => tyX2 k | 3 => tyX3 k | 4 => tyX4 k | 5 => tyX5 k | 6 => tyX6 k | 7 => tyX7 k | 8 => tyX8 k | 9 => tyX9 k | _ => tyX10 k
def zN (c : Nat) : Nat := match c with
  | 0 => 2 | 1 => 10 | 2 => 4 | 3 => 11 | 4 => 18 | 5 => 9 | 6 => 1 | 7 => 6 | 8 => 4 | 9 => 10 | _ => 59
def zT (c : Nat) : u_T := match c with
  | 0 => TX0 | 1 => TX1 | 2 => TX2 | 3 => TX3 | 4 => TX4 | 5 => TX5 | 6 => TX6 | 7 => TX7 | 8 => TX8 | 9 => TX9 | _ => TX10
def zC1 (c : Nat) : String := match c with
  | 0 => RX0 | 1 => RX1 | 2 => RX2 | 3 => RX3 | 4 => RX4 | 5 => RX5 | 6 => RX6 | 7 => RX7 | 8 => RX8 | 9 => RX9 | _ => RX10
def zrt : FieldType → Bool
  | .object _ => true
  | .array _ => true
  | _ => false
def zfv (E : zE) (s : zS) (c r k : Nat) : Value := if zrt (zty c k) = true then (if zR s r k = 0 then .null else .ref (zb E + zR s r k)) else .int (zI s r k)
def zfs (E : zE) (s : zS) (c r : Nat) : List Value := (List.range (zN c)).map (fun k => zfv E s c r k)
/-- kinds: 0 .. 10 the classes, 11 byte[], 12 int[], 13 boolean[], 14 long[] -/
def zcell (E : zE) (s : zS) (r : Nat) : va_E :=
  if (zK s r).1 < 11 then .inr ((zK s r).1, zfs E s (zK s r).1 r)
  else if (zK s r).1 = 14 then .inl (zcy E 14, (zK s r).2, .inr (.inl (zJ s r)))
  else .inl (zcy E (zK s r).1, (zK s r).2, .inl (zI s r))
def zws (E : zE) (s : zS) : va_W := (List.range (zn s)).map (fun i => (zb E + (i + 1), zcell E s (i + 1)))
def zA (E : zE) : Nat → Prop := fun q => zb E < q
def ztys (E : zE) : List (ClassId × FieldType) := [(zcy E 11, .byte), (zcy E 12, .int), (zcy E 13, .boolean), (zcy E 14, .long)]
/-- all words that last -/
def zALL : List Cond := lw_tbl.filter goodWord
theorem zALL_in {w : Cond} (h : w ∈ lw_tbl) (g : goodWord w = true) : w ∈ zALL := List.mem_filter.mpr ⟨h, g⟩
theorem zALL_good : GoodIn zALL zALL := fun w h => ⟨h, good_of_word (List.mem_filter.mp h).2⟩
theorem zmap_set {α : Type} {f g : Nat → α} {n i : Nat} (hi : i < n) (h : ∀ j, j ≠ i → g j = f j) : (List.range n).map g = ((List.range n).map f).set i (g i) := by
  apply List.ext_getElem?
  intro j
  rw [List.getElem?_set]
  by_cases hj : j < n
  · by_cases e : i = j
    · subst e; simp [hj]
    · simp [hj, e, h j (fun q => e q.symm)]
  · have : ¬ i = j := by omega
    simp [hj, this]
theorem zws_get {E : zE} {s : zS} {r : Nat} (h0 : 0 < r) (hn : r ≤ zn s) : (zws E s)[r - 1]? = some (zb E + r, zcell E s r) := by
  unfold zws
  rw [List.getElem?_map, List.getElem?_range (by omega)]
  simp [Nat.sub_add_cancel h0]
theorem zws_set {E : zE} {s t : zS} {r : Nat} (h0 : 0 < r) (hn : r ≤ zn s) (ht : zn t = zn s) (h : ∀ a, a ≠ r → zcell E t a = zcell E s a) : zws E t = (zws E s).set (r - 1) (zb E + r, zcell E t r) := by
  unfold zws
  rw [ht]
  have e := zmap_set (f := fun i => (zb E + (i + 1), zcell E s (i + 1))) (g := fun i => (zb E + (i + 1), zcell E t (i + 1))) (n := zn s) (i := r - 1) (by omega) (fun j hj => by rw [h (j + 1) (by omega)])
  rw [e, Nat.sub_add_cancel h0]
theorem zcell_obj {E : zE} {s : zS} {r c : Nat} (hc : c < 11) (h : (zK s r).1 = c) : zcell E s r = .inr (c, zfs E s c r) := by
  unfold zcell; rw [h, if_pos hc]
theorem zcell_arr {E : zE} {s : zS} {r c : Nat} (h1 : 11 ≤ c) (h2 : c ≠ 14) (h : (zK s r).1 = c) : zcell E s r = .inl (zcy E c, (zK s r).2, .inl (zI s r)) := by
  unfold zcell; rw [h, if_neg (by omega), if_neg h2]
theorem zcell_lng {E : zE} {s : zS} {r : Nat} (h : (zK s r).1 = 14) : zcell E s r = .inl (zcy E 14, (zK s r).2, .inr (.inl (zJ s r))) := by
  unfold zcell; rw [h, if_neg (by decide), if_pos rfl]
/-- the classes' tables -/
theorem zcls : ∀ c, c < 11 → vwCl[c]? = some (zC1 c, zT c, zN c) ∧ (∀ k, k < zN c → parseFieldDescriptor (zT c k).2.2.1 = some (zty c k)) ∧ (∀ a, a < zN c → ∀ b, b < zN c → a ≠ b → (zT c a).2.1 ≠ (zT c b).2.1) := by
  intro c hc
  match c, hc with
  | 0, _ => exact ⟨rfl, tyX0_ok, nmX0⟩
  | 1, _ => exact ⟨rfl, tyX1_ok, nmX1⟩
  | 2, _ => exact ⟨rfl, tyX2_ok, nmX2⟩
  | 3, _ => exact ⟨rfl, tyX3_ok, nmX3⟩
  | 4, _ => exact ⟨rfl, tyX4_ok, nmX4⟩
  | 5, _ => exact ⟨rfl, tyX5_ok, nmX5⟩
  | 6, _ => exact ⟨rfl, tyX6_ok, nmX6⟩
  | 7, _ => exact ⟨rfl, tyX7_ok, nmX7⟩
  | 8, _ => exact ⟨rfl, tyX8_ok, nmX8⟩
  | 9, _ => exact ⟨rfl, tyX9_ok, nmX9⟩
  | 10, _ => exact ⟨rfl, tyX10_ok, nmX10⟩
  | n + 11, h => omega
theorem zin0 : ∀ w ∈ u_ws RX0 TX0 2, w ∈ zALL := by decide +kernel
theorem zin1 : ∀ w ∈ u_ws RX1 TX1 10, w ∈ zALL := by decide +kernel
theorem zin2 : ∀ w ∈ u_ws RX2 TX2 4, w ∈ zALL := by decide +kernel
theorem zin3 : ∀ w ∈ u_ws RX3 TX3 11, w ∈ zALL := by decide +kernel
theorem zin4 : ∀ w ∈ u_ws RX4 TX4 18, w ∈ zALL := by decide +kernel
theorem zin5 : ∀ w ∈ u_ws RX5 TX5 9, w ∈ zALL := by decide +kernel
theorem zin6 : ∀ w ∈ u_ws RX6 TX6 1, w ∈ zALL := by decide +kernel
theorem zin7 : ∀ w ∈ u_ws RX7 TX7 6, w ∈ zALL := by decide +kernel
theorem zin8 : ∀ w ∈ u_ws RX8 TX8 4, w ∈ zALL := by decide +kernel
theorem zin9 : ∀ w ∈ u_ws RX9 TX9 10, w ∈ zALL := by decide +kernel
theorem zin10 : ∀ w ∈ u_ws RX10 TX10 59, w ∈ zALL := by decide +kernel
theorem zin : ∀ c, c < 11 → ∀ w ∈ u_ws (zC1 c) (zT c) (zN c), w ∈ zALL := by
  intro c hc
  match c, hc with
  | 0, _ => exact zin0
  | 1, _ => exact zin1
  | 2, _ => exact zin2
  | 3, _ => exact zin3
  | 4, _ => exact zin4
  | 5, _ => exact zin5
  | 6, _ => exact zin6
  | 7, _ => exact zin7
  | 8, _ => exact zin8
  | 9, _ => exact zin9
  | 10, _ => exact zin10
  | n + 11, h => omega
end
section
/-! What lies below the base and never changes: the texts, the statics, the nest's words. -/
def zlen : List Nat := [1, 3, 1]
def zbyt : List (List Int32) := [[112], [99, 110, 102], [100]]
def xN : String := "java/util/NoSuchElementException"
def xI : String := "java/lang/IllegalArgumentException"
def zX (E : zE) (U : State) : Prop :=
  vk_S 3 zlen zbyt (fun k => zaS E k) (fun k => zaS E (100 + k)) (zA E) U U.heap ∧
  (vk_R RX5 51 "p" (zaS E 0) U ∧ vk_R RX5 57 "cnf" (zaS E 1) U ∧ vk_R RX5 88 "d" (zaS E 2) U) ∧
  (vk_R RX9 81 "the tape has not so many bytes" (zaS E 10) U ∧ vk_R RX9 110 "a fault has a kind (0) and a place (1)" (zaS E 11) U ∧ vk_R RX9 113 "fuel is 0 to 20000" (zaS E 12) U ∧ vk_R RX9 160 "there are counts 0 to 11" (zaS E 13) U ∧ vk_R RX9 162 "there is no such clause" (zaS E 14) U ∧ vk_R RX9 174 "there is no such step" (zaS E 15) U ∧ vk_R RX9 200 "no such byte is kept" (zaS E 16) U) ∧
  va_Z "java/lang/String" "COMPACT_STRINGS" "Z" (.int 1) (zA E) U U.heap ∧
  (va_Nw (.methodLinkNest RX9 23 yX7_init RX9) U ∧ va_Nw (.methodLinkNest RX3 11 yX2_init RX9) U ∧ va_Nw (.methodLinkNest RX1 86 yX9_codeOf RX9) U ∧ va_Nw (.methodLinkNest RX4 129 yX9_codeOf RX9) U ∧ va_Nw (.castable xN xN) U ∧ va_Nw (.castable xI xI) U ∧ va_Nw (.declares (Bundle.initS "java/lang/RuntimeException")) U ∧ va_Nw (.declares (Bundle.initS "java/lang/Exception")) U ∧ va_Nw (.declares (Bundle.initS Bundle.tN)) U ∧ (zl E).stackTraces = false) ∧
  vx_Zq Bundle.tN "UNASSIGNED_STACK" Bundle.steD (zA E) U U.heap ∧ vx_Zq Bundle.tN "SUPPRESSED_SENTINEL" Bundle.listD (zA E) U U.heap ∧
  (va_Z "jdk/internal/util/Preconditions" "SIOOBE_FORMATTER" "Ljava/util/function/BiFunction;" .null (zA E) U U.heap ∨ va_Z "jdk/internal/util/Preconditions" "SIOOBE_FORMATTER" "Ljava/util/function/BiFunction;" (.ref (zaS E 200)) (zA E) U U.heap)
theorem zX.go {E : zE} {s U : State} (h : zX E s) (hW : s.WarmedH U.vm) (hk : ∀ q : Nat, q < s.heap.size → ¬ zA E q → U.heap[q]? = s.heap[q]?) : zX E U := by
  obtain ⟨h1, ⟨r1, r2, r3⟩, ⟨t1, t2, t3, t4, t5, t6, t7⟩, h4, ⟨n1, n2, n3, n4, n5, n6, n7, n8, n9, n10⟩, h6, h7, h8⟩ := h
  exact ⟨vk_S.kept (vk_S.moved hW.alike h1) hk, ⟨r1.warm hW, r2.warm hW, r3.warm hW⟩, ⟨t1.warm hW, t2.warm hW, t3.warm hW, t4.warm hW, t5.warm hW, t6.warm hW, t7.warm hW⟩, va_Z.kept (va_Z.moved hW.alike h4) hk, ⟨n1.warmM hW, n2.warmM hW, n3.warmM hW, n4.warmM hW, n5.warmC hW, n6.warmC hW, n7.warmD hW, n8.warmD hW, n9.warmD hW, n10⟩, vx_Zq.kept (vx_Zq.moved hW.alike h6) hk, vx_Zq.kept (vx_Zq.moved hW.alike h7) hk, h8.imp (fun q => va_Z.kept (va_Z.moved hW.alike q) hk) (fun q => va_Z.kept (va_Z.moved hW.alike q) hk)⟩
theorem zX.same {E : zE} {u U : State} (h : zX E u) (hv : U.vm = u.vm) (hh : U.heap = u.heap) : zX E U := by
  obtain ⟨h1, ⟨r1, r2, r3⟩, ⟨t1, t2, t3, t4, t5, t6, t7⟩, h4, ⟨n1, n2, n3, n4, n5, n6, n7, n8, n9, n10⟩, h6, h7, h8⟩ := h
  have hA : u.vm.Alike U.vm := by rw [hv]; exact Vm.Alike.refl _
  have hk : ∀ q : Nat, q < u.heap.size → ¬ zA E q → U.heap[q]? = u.heap[q]? := fun q _ _ => by rw [hh]
  exact ⟨vk_S.kept (vk_S.moved hA h1) hk, ⟨r1.same hv, r2.same hv, r3.same hv⟩, ⟨t1.same hv, t2.same hv, t3.same hv, t4.same hv, t5.same hv, t6.same hv, t7.same hv⟩, va_Z.kept (va_Z.moved hA h4) hk, ⟨n1.same rfl hv.symm, n2.same rfl hv.symm, n3.same rfl hv.symm, n4.same rfl hv.symm, n5.same rfl hv.symm, n6.same rfl hv.symm, n7.same rfl hv.symm, n8.same rfl hv.symm, n9.same rfl hv.symm, n10⟩, vx_Zq.kept (vx_Zq.moved hA h6) hk, vx_Zq.kept (vx_Zq.moved hA h7) hk, h8.imp (fun q => va_Z.kept (va_Z.moved hA q) hk) (fun q => va_Z.kept (va_Z.moved hA q) hk)⟩
/-- what a method's body may take as given -/
def zC (E : zE) (M : zM) (p : Program) (sx : State) (m : MethodId) (args : Array Value) (meth : Method) (c : Code) : Prop :=
  p.tables.exec = Jvm.exec ∧ c.code = M.2.1 ∧ meth.sig.returnType = M.2.2.2.1 ∧ c.maxLocals = M.2.2.1 ∧ sx.vm.findClass M.1.cls = some m.cls ∧ (∀ w ∈ zALL, w.before args sx = true) ∧ meth.locks = false ∧ meth.name = M.1.name ∧ (zb E < sx.heap.size ∧ va_K (zD E) vwCl (ztys E) sx ∧ zX E sx) ∧ c.exceptionTable.isEmpty = true
/-- the heap holds the state -/
def zH (E : zE) (s : zS) (sx : State) (H : Heap) (locs : List Loc) : Prop :=
  va_P (zD E) vwCl (zws E s) H ∧ va_D (zA E) (zws E s) ∧ va_S (zA E) sx.heap H locs ∧ (zal s = true → H.size = zb E + zn s + 1)
abbrev zF : Type := List Frame → Array Value → State → State → Prop
/-- the machine, in method M at pc, with these locals, this stack and this state, comes to an end with F; bud: cells and slots that it may still make -/
def Z (E : zE) (M : zM) (pc : Nat) (ls : List (Nat × Value)) (st : List Value) (s : zS) (bud : Nat × Nat) (F : zF) : Prop :=
  ∀ (p : Program) (e : Env) (sx : State) (m : MethodId) (args : Array Value) (below : List Frame) (meth : Method) (c : Code) (H : Heap) (locs : List Loc) (cells slots : Nat) (la : Array Slot),
    zC E M p sx m args meth c → zH E s sx H locs → lv_has la M.2.2.1 (ls.map (zlv E)) → cells + bud.1 ≤ M.2.2.2.2.2.2.1 → slots + bud.2 ≤ M.2.2.2.2.2.2.2 →
    W p (zl E) e (zrm M) sx m args below meth c H locs cells slots (F below args sx) (F0 m pc la (st.map (zv E)))
/-- a method's end: what it answers and the state behind it -/
def zQ (E : zE) (Q : Option Value → zS → Prop) : Array Value → State → Outcome → State → Prop := fun _ st o t => (∃ (v : Option Value) (s' : zS), o = .returned (v.map (zv E)) ∧ Q v s' ∧ va_P (zD E) vwCl (zws E s') t.heap ∧ va_D (zA E) (zws E s') ∧ (zal s' = true → t.heap.size = zb E + zn s' + 1)) ∧ va_F (zA E) st t
/-- a method's start -/
def zP (E : zE) (s : zS) (U : State) : Prop := va_P (zD E) vwCl (zws E s) U.heap ∧ va_D (zA E) (zws E s) ∧ (zal s = true → U.heap.size = zb E + zn s + 1) ∧ zb E < U.heap.size ∧ va_K (zD E) vwCl (ztys E) U ∧ zX E U
def zW (M : zM) : List Cond := .code M.1 M.2.1 M.2.2.1 M.2.2.2.1 :: zALL
/-- the contract of a method at these arguments and this state -/
def Ct (E : zE) (M : zM) (av : List Value) (s : zS) (Q : Option Value → zS → Prop) : Prop :=
  Met (zl E) M.1 (zW M) (zrm M) (va_Pc (av.map (zv E)) (zP E s)) (zQ E Q) M.2.2.2.2.2.2.1 M.2.2.2.2.2.2.2 (zA E)
/-- the end of a method that returns -/
def zR1 (E : zE) (M : zM) (Q : Option Value → zS → Prop) : zF := fun below args sx => MQ below (zQ E Q) args sx M.2.2.2.2.2.2.1 M.2.2.2.2.2.2.2 (zA E)
theorem zP.blind {E : zE} {s : zS} {av : List Value} : FrameBlind (va_Pc av (zP E s)) := by
  intro a U g mk h
  obtain ⟨h0, h1, h2, h3, h4, h5, h6⟩ := h
  exact ⟨h0, h1, h2, h3, h4, va_K.moved (u := U) (U := U.calling g mk a) (Vm.Alike.refl U.vm) h5, zX.same (u := U) h6 rfl rfl⟩
theorem zP.of {E : zE} {s : zS} {sx U : State} {H : Heap} {locs : List Loc} (hH : zH E s sx H locs) (hC : zb E < sx.heap.size ∧ va_K (zD E) vwCl (ztys E) sx ∧ zX E sx) (hU : U.heap = H) (hW : sx.WarmedH U.vm) : zP E s U := by
  obtain ⟨h1, h2, h3, h4⟩ := hH
  refine ⟨by rw [hU]; exact h1, h2, fun q => by rw [hU]; exact h4 q, ?_, va_K.moved hW.alike hC.2.1, hC.2.2.go hW (fun q a b => by rw [hU]; exact h3.2.1 q a b)⟩
  rw [hU]; exact Nat.lt_of_lt_of_le hC.1 h3.1
/-- a contract out of the body's judgement -/
theorem Ct.of {E : zE} {M : zM} {av : List Value} {s : zS} {Q : Option Value → zS → Prop} {ls : List (Nat × Value)} (hy : plainName M.1.cls = true) (hl : lv_args 0 (av.map (zv E)) = ls.map (zlv E)) (hn : (lg_sl (av.map (zv E))).length ≤ M.2.2.1)
    (h : Z E M 0 ls [] s (M.2.2.2.2.2.2.1, M.2.2.2.2.2.2.2) (zR1 E M Q)) : Ct E M av s Q := by
  refine Met.ofW (cc := M.2.1) (maxL := M.2.2.1) (ret := M.2.2.2.1) hy rfl ?_
  intro p e sx m args below meth c s₁ B hml hv
  obtain ⟨rfl, h1, h2, h3, h4, h5, h6⟩ := hv
  have hts := atoms_spec (ws := zW M) B.pre
  have hown : sx.vm.findClass M.1.cls = some m.cls := findClass_of_methodNamed B.named
  have hnm : meth.name = M.1.name := (name_of_methodNamed B.named B.method).1
  have hl0 := lv_entry (av.map (zv E)) (n := M.2.2.1) hn
  rw [lg_entry_eq]
  generalize (lg_sl (av.map (zv E)) ++ List.replicate (M.2.2.1 - (lg_sl (av.map (zv E))).length) Slot.unset).toArray = la at hl0 ⊢
  rw [hl] at hl0
  exact h p e sx m _ below meth c sx.heap [] 0 0 la ⟨B.exec, B.bytes, B.returns, hml, hown, fun w hw => hts w (List.mem_cons_of_mem _ hw), B.notSynchronized, hnm, ⟨h4, h5, h6⟩, B.noHandlers (hts _ List.mem_cons_self)⟩ ⟨h1, h2, va_S.rf, h3⟩ hl0 (by simp) (by simp)
/-- fewer locals, in another order -/
theorem z_sub {E : zE} {M : zM} {pc : Nat} {ls ls' : List (Nat × Value)} {st : List Value} {s : zS} {bud : Nat × Nat} {F : zF} (ks : List Nat) (hl : lv_pick ls ks = ls') (h : Z E M pc ls' st s bud F) : Z E M pc ls st s bud F := by
  intro p e sx m args below meth c H locs cells slots la hC hH hv hb1 hb2
  refine h p e sx m args below meth c H locs cells slots la hC hH (lv_sub hv ks ?_) hb1 hb2
  rw [← hl]
  unfold lv_pick
  rw [List.map_filterMap]
  congr 1
  funext k
  rw [List.getElem?_map]
theorem z_at {E : zE} {la : Array Slot} {n : Nat} {ls : List (Nat × Value)} (h : lv_has la n (ls.map (zlv E))) (k : Nat) {i : Nat} {v : Value} (hk : ls[k]? = some (i, v)) : la[i]? = some (.val (zv E v)) :=
  lv_at h k (by rw [List.getElem?_map, hk]; rfl)
section
variable {E : zE} {M : zM} {pc : Nat} {ls ls' : List (Nat × Value)} {st : List Value} {s : zS} {bud : Nat × Nat} {F : zF}
theorem z_iconst {n : Int} {v : Int32} (hd : decode M.2.1 pc = .ok (.iconst n, 1)) (hv : Int32.ofInt n = v) (h : Z E M (pc + 1) ls (.int v :: st) s bud F) : Z E M pc ls st s bud F :=
  fun p e sx m args below meth c H locs cells slots la hC hH hl b1 b2 => lv_iconst hC.1 hC.2.1 hd hv (h p e sx m args below meth c H locs cells slots la hC hH hl b1 b2)
theorem z_bipush {n : Int} {v : Int32} (hd : decode M.2.1 pc = .ok (.bipush n, 2)) (hv : (Int8.ofInt n).toInt32 = v) (h : Z E M (pc + 2) ls (.int v :: st) s bud F) : Z E M pc ls st s bud F :=
  fun p e sx m args below meth c H locs cells slots la hC hH hl b1 b2 => lv_bipush hC.1 hC.2.1 hd hv (h p e sx m args below meth c H locs cells slots la hC hH hl b1 b2)
theorem z_sipush {n : Int} {v : Int32} (hd : decode M.2.1 pc = .ok (.sipush n, 3)) (hv : (Int16.ofInt n).toInt32 = v) (h : Z E M (pc + 3) ls (.int v :: st) s bud F) : Z E M pc ls st s bud F :=
  fun p e sx m args below meth c H locs cells slots la hC hH hl b1 b2 => lv_sipush hC.1 hC.2.1 hd hv (h p e sx m args below meth c H locs cells slots la hC hH hl b1 b2)
theorem z_ldcw {i : Nat} {v : Int32} (hw : Cond.constant M.1.cls i v ∈ zALL) (hd : decode M.2.1 pc = .ok (.ldc_w i, 3)) (h : Z E M (pc + 3) ls (.int v :: st) s bud F) : Z E M pc ls st s bud F :=
  fun p e sx m args below meth c H locs cells slots la hC hH hl b1 b2 => lv_ldcw hC.1 hC.2.1 hC.2.2.2.2.1 (hC.2.2.2.2.2.1 _ hw) hd (h p e sx m args below meth c H locs cells slots la hC hH hl b1 b2)
theorem z_iload_n {k : Fin 4} {i : Nat} {x : Int32} (j : Nat) (hk : ls[j]? = some (i, .int x)) (hd : decode M.2.1 pc = .ok (.iload_n k, 1)) (hi : (k : Nat) = i) (h : Z E M (pc + 1) ls (.int x :: st) s bud F) : Z E M pc ls st s bud F :=
  fun p e sx m args below meth c H locs cells slots la hC hH hl b1 b2 => lv_iload_n hC.1 hC.2.1 hd hi (z_at hl j hk) (h p e sx m args below meth c H locs cells slots la hC hH hl b1 b2)
theorem z_iload {i : Nat} {x : Int32} (j : Nat) (hk : ls[j]? = some (i, .int x)) (hd : decode M.2.1 pc = .ok (.iload i, 2)) (h : Z E M (pc + 2) ls (.int x :: st) s bud F) : Z E M pc ls st s bud F :=
  fun p e sx m args below meth c H locs cells slots la hC hH hl b1 b2 => lv_iload hC.1 hC.2.1 hd (z_at hl j hk) (h p e sx m args below meth c H locs cells slots la hC hH hl b1 b2)
theorem z_aload_n {k : Fin 4} {i : Nat} {x : Nat} (j : Nat) (hk : ls[j]? = some (i, .ref x)) (hd : decode M.2.1 pc = .ok (.aload_n k, 1)) (hi : (k : Nat) = i) (h : Z E M (pc + 1) ls (.ref x :: st) s bud F) : Z E M pc ls st s bud F :=
  fun p e sx m args below meth c H locs cells slots la hC hH hl b1 b2 => lv_aload_n hC.1 hC.2.1 hd hi (z_at hl j hk) (h p e sx m args below meth c H locs cells slots la hC hH hl b1 b2)
theorem z_aload {i : Nat} {x : Nat} (j : Nat) (hk : ls[j]? = some (i, .ref x)) (hd : decode M.2.1 pc = .ok (.aload i, 2)) (h : Z E M (pc + 2) ls (.ref x :: st) s bud F) : Z E M pc ls st s bud F :=
  fun p e sx m args below meth c H locs cells slots la hC hH hl b1 b2 => lv_aload hC.1 hC.2.1 hd (z_at hl j hk) (h p e sx m args below meth c H locs cells slots la hC hH hl b1 b2)
/-- a text's own reference (.retAddr k) -/
theorem z_tload_n {k : Fin 4} {i : Nat} {x : Nat} (j : Nat) (hk : ls[j]? = some (i, .retAddr x)) (hd : decode M.2.1 pc = .ok (.aload_n k, 1)) (hi : (k : Nat) = i) (h : Z E M (pc + 1) ls (.retAddr x :: st) s bud F) : Z E M pc ls st s bud F :=
  fun p e sx m args below meth c H locs cells slots la hC hH hl b1 b2 => lv_aload_n hC.1 hC.2.1 hd hi (z_at hl j hk) (h p e sx m args below meth c H locs cells slots la hC hH hl b1 b2)
theorem z_istore_n {k : Fin 4} {i : Nat} {x : Int32} (hd : decode M.2.1 pc = .ok (.istore_n k, 1)) (hi : (k : Nat) = i) (hn : i < M.2.2.1) (hl' : ∀ E : zE, (i, Value.int x) :: (ls.map (zlv E)).filter (fun q => !(q.1 == i) && !(q.1 + 1 == i && q.2.category == 2)) = ls'.map (zlv E)) (h : Z E M (pc + 1) ls' st s bud F) : Z E M pc ls (.int x :: st) s bud F :=
  fun p e sx m args below meth c H locs cells slots la hC hH hl b1 b2 => lv_istore_n hC.1 hC.2.1 hd hi hl hn (hl' E) (fun la' hl2 => h p e sx m args below meth c H locs cells slots la' hC hH hl2 b1 b2)
theorem z_istore {i : Nat} {x : Int32} (hd : decode M.2.1 pc = .ok (.istore i, 2)) (hn : i < M.2.2.1) (hl' : ∀ E : zE, (i, Value.int x) :: (ls.map (zlv E)).filter (fun q => !(q.1 == i) && !(q.1 + 1 == i && q.2.category == 2)) = ls'.map (zlv E)) (h : Z E M (pc + 2) ls' st s bud F) : Z E M pc ls (.int x :: st) s bud F :=
  fun p e sx m args below meth c H locs cells slots la hC hH hl b1 b2 => lv_istore hC.1 hC.2.1 hd hl hn (hl' E) (fun la' hl2 => h p e sx m args below meth c H locs cells slots la' hC hH hl2 b1 b2)
theorem z_astore_n {k : Fin 4} {i : Nat} {x : Nat} (hd : decode M.2.1 pc = .ok (.astore_n k, 1)) (hi : (k : Nat) = i) (hn : i < M.2.2.1) (hl' : ∀ E : zE, (i, Value.ref (zb E + x)) :: (ls.map (zlv E)).filter (fun q => !(q.1 == i) && !(q.1 + 1 == i && q.2.category == 2)) = ls'.map (zlv E)) (h : Z E M (pc + 1) ls' st s bud F) : Z E M pc ls (.ref x :: st) s bud F :=
  fun p e sx m args below meth c H locs cells slots la hC hH hl b1 b2 => lv_astore_n hC.1 hC.2.1 hd hi hl hn (hl' E) (fun la' hl2 => h p e sx m args below meth c H locs cells slots la' hC hH hl2 b1 b2)
theorem z_astore {i : Nat} {x : Nat} (hd : decode M.2.1 pc = .ok (.astore i, 2)) (hn : i < M.2.2.1) (hl' : ∀ E : zE, (i, Value.ref (zb E + x)) :: (ls.map (zlv E)).filter (fun q => !(q.1 == i) && !(q.1 + 1 == i && q.2.category == 2)) = ls'.map (zlv E)) (h : Z E M (pc + 2) ls' st s bud F) : Z E M pc ls (.ref x :: st) s bud F :=
  fun p e sx m args below meth c H locs cells slots la hC hH hl b1 b2 => lv_astore hC.1 hC.2.1 hd hl hn (hl' E) (fun la' hl2 => h p e sx m args below meth c H locs cells slots la' hC hH hl2 b1 b2)
theorem z_iinc {i : Nat} {n : Int} {x v : Int32} (j : Nat) (hk : ls[j]? = some (i, .int x)) (hv : x + Int32.ofInt n = v) (hd : decode M.2.1 pc = .ok (.iinc i n, 3)) (hn : i < M.2.2.1) (hl' : ∀ E : zE, (i, Value.int v) :: (ls.map (zlv E)).filter (fun q => !(q.1 == i) && !(q.1 + 1 == i && q.2.category == 2)) = ls'.map (zlv E)) (h : Z E M (pc + 3) ls' st s bud F) : Z E M pc ls st s bud F :=
  fun p e sx m args below meth c H locs cells slots la hC hH hl b1 b2 => lv_iinc (k := j) hC.1 hC.2.1 hd hl (by rw [List.getElem?_map, hk]; rfl) hv hn (hl' E) (fun la' hl2 => h p e sx m args below meth c H locs cells slots la' hC hH hl2 b1 b2)
theorem z_iadd {x y : Int32} (hd : decode M.2.1 pc = .ok (.iadd, 1)) (h : Z E M (pc + 1) ls (.int (x + y) :: st) s bud F) : Z E M pc ls (.int y :: .int x :: st) s bud F :=
  fun p e sx m args below meth c H locs cells slots la hC hH hl b1 b2 => lv_iadd hC.1 hC.2.1 hd (h p e sx m args below meth c H locs cells slots la hC hH hl b1 b2)
theorem z_isub {x y : Int32} (hd : decode M.2.1 pc = .ok (.isub, 1)) (h : Z E M (pc + 1) ls (.int (x - y) :: st) s bud F) : Z E M pc ls (.int y :: .int x :: st) s bud F :=
  fun p e sx m args below meth c H locs cells slots la hC hH hl b1 b2 => lv_isub hC.1 hC.2.1 hd (h p e sx m args below meth c H locs cells slots la hC hH hl b1 b2)
theorem z_imul {x y : Int32} (hd : decode M.2.1 pc = .ok (.imul, 1)) (h : Z E M (pc + 1) ls (.int (x * y) :: st) s bud F) : Z E M pc ls (.int y :: .int x :: st) s bud F :=
  fun p e sx m args below meth c H locs cells slots la hC hH hl b1 b2 => lv_imul hC.1 hC.2.1 hd (h p e sx m args below meth c H locs cells slots la hC hH hl b1 b2)
theorem z_iand {x y : Int32} (hd : decode M.2.1 pc = .ok (.iand, 1)) (h : Z E M (pc + 1) ls (.int (x &&& y) :: st) s bud F) : Z E M pc ls (.int y :: .int x :: st) s bud F :=
  fun p e sx m args below meth c H locs cells slots la hC hH hl b1 b2 => lv_iand hC.1 hC.2.1 hd (h p e sx m args below meth c H locs cells slots la hC hH hl b1 b2)
theorem z_ior {x y : Int32} (hd : decode M.2.1 pc = .ok (.ior, 1)) (h : Z E M (pc + 1) ls (.int (x ||| y) :: st) s bud F) : Z E M pc ls (.int y :: .int x :: st) s bud F :=
  fun p e sx m args below meth c H locs cells slots la hC hH hl b1 b2 => lv_ior hC.1 hC.2.1 hd (h p e sx m args below meth c H locs cells slots la hC hH hl b1 b2)
theorem z_ixor {x y : Int32} (hd : decode M.2.1 pc = .ok (.ixor, 1)) (h : Z E M (pc + 1) ls (.int (x ^^^ y) :: st) s bud F) : Z E M pc ls (.int y :: .int x :: st) s bud F :=
  fun p e sx m args below meth c H locs cells slots la hC hH hl b1 b2 => lv_ixor hC.1 hC.2.1 hd (h p e sx m args below meth c H locs cells slots la hC hH hl b1 b2)
theorem z_idiv {x y : Int32} (hy : ¬ y = 0) (hd : decode M.2.1 pc = .ok (.idiv, 1)) (h : Z E M (pc + 1) ls (.int (x / y) :: st) s bud F) : Z E M pc ls (.int y :: .int x :: st) s bud F :=
  fun p e sx m args below meth c H locs cells slots la hC hH hl b1 b2 => lv_idiv hC.1 hC.2.1 hd hy (h p e sx m args below meth c H locs cells slots la hC hH hl b1 b2)
theorem z_irem {x y : Int32} (hy : ¬ y = 0) (hd : decode M.2.1 pc = .ok (.irem, 1)) (h : Z E M (pc + 1) ls (.int (x - x / y * y) :: st) s bud F) : Z E M pc ls (.int y :: .int x :: st) s bud F :=
  fun p e sx m args below meth c H locs cells slots la hC hH hl b1 b2 => lv_irem hC.1 hC.2.1 hd hy (h p e sx m args below meth c H locs cells slots la hC hH hl b1 b2)
theorem z_ineg {x : Int32} (hd : decode M.2.1 pc = .ok (.ineg, 1)) (h : Z E M (pc + 1) ls (.int (-x) :: st) s bud F) : Z E M pc ls (.int x :: st) s bud F :=
  fun p e sx m args below meth c H locs cells slots la hC hH hl b1 b2 => lv_ineg hC.1 hC.2.1 hd (h p e sx m args below meth c H locs cells slots la hC hH hl b1 b2)
theorem z_ishl {x y : Int32} (hd : decode M.2.1 pc = .ok (.ishl, 1)) (h : Z E M (pc + 1) ls (.int (x <<< (y &&& 31)) :: st) s bud F) : Z E M pc ls (.int y :: .int x :: st) s bud F :=
  fun p e sx m args below meth c H locs cells slots la hC hH hl b1 b2 => lv_ishl hC.1 hC.2.1 hd (h p e sx m args below meth c H locs cells slots la hC hH hl b1 b2)
theorem z_ishr {x y : Int32} (hd : decode M.2.1 pc = .ok (.ishr, 1)) (h : Z E M (pc + 1) ls (.int (x >>> (y &&& 31)) :: st) s bud F) : Z E M pc ls (.int y :: .int x :: st) s bud F :=
  fun p e sx m args below meth c H locs cells slots la hC hH hl b1 b2 => lv_ishr hC.1 hC.2.1 hd (h p e sx m args below meth c H locs cells slots la hC hH hl b1 b2)
def zushr (x y : Int32) : Int32 := (x.toUInt32 >>> (y.toUInt32 &&& Int32.toUInt32 31)).toInt32
theorem z_iushr {x y : Int32} (hd : decode M.2.1 pc = .ok (.iushr, 1)) (h : Z E M (pc + 1) ls (.int (zushr x y) :: st) s bud F) : Z E M pc ls (.int y :: .int x :: st) s bud F :=
  fun p e sx m args below meth c H locs cells slots la hC hH hl b1 b2 => lv_iushr hC.1 hC.2.1 hd rfl (h p e sx m args below meth c H locs cells slots la hC hH hl b1 b2)
theorem z_i2b {x : Int32} (hd : decode M.2.1 pc = .ok (.i2b, 1)) (h : Z E M (pc + 1) ls (.int (x.toInt8.toInt32) :: st) s bud F) : Z E M pc ls (.int x :: st) s bud F :=
  fun p e sx m args below meth c H locs cells slots la hC hH hl b1 b2 => lv_i2b hC.1 hC.2.1 hd rfl (h p e sx m args below meth c H locs cells slots la hC hH hl b1 b2)
theorem z_i2l {x : Int32} (hd : decode M.2.1 pc = .ok (.i2l, 1)) (h : Z E M (pc + 1) ls (.long (x.toInt64) :: st) s bud F) : Z E M pc ls (.int x :: st) s bud F :=
  fun p e sx m args below meth c H locs cells slots la hC hH hl b1 b2 => lv_i2l hC.1 hC.2.1 hd rfl (h p e sx m args below meth c H locs cells slots la hC hH hl b1 b2)
theorem z_lcmp {x y : Int64} (hd : decode M.2.1 pc = .ok (.lcmp, 1)) (h : Z E M (pc + 1) ls (.int (lg_cmp x y) :: st) s bud F) : Z E M pc ls (.long y :: .long x :: st) s bud F :=
  fun p e sx m args below meth c H locs cells slots la hC hH hl b1 b2 => W.lcmp hC.1 hC.2.1 hd (h p e sx m args below meth c H locs cells slots la hC hH hl b1 b2)
theorem z_dup {v : Value} (hd : decode M.2.1 pc = .ok (.dup, 1)) (hv : ∀ E : zE, (zv E v).category = 1) (h : Z E M (pc + 1) ls (v :: v :: st) s bud F) : Z E M pc ls (v :: st) s bud F :=
  fun p e sx m args below meth c H locs cells slots la hC hH hl b1 b2 => lv_dup hC.1 hC.2.1 hd (hv E) (h p e sx m args below meth c H locs cells slots la hC hH hl b1 b2)
theorem z_dup2 {v w : Value} (hd : decode M.2.1 pc = .ok (.dup2, 1)) (hv : ∀ E : zE, (zv E v).category = 1) (hw : ∀ E : zE, (zv E w).category = 1) (h : Z E M (pc + 1) ls (v :: w :: v :: w :: st) s bud F) : Z E M pc ls (v :: w :: st) s bud F :=
  fun p e sx m args below meth c H locs cells slots la hC hH hl b1 b2 => lv_dup2_11 hC.1 hC.2.1 hd (hv E) (hw E) (h p e sx m args below meth c H locs cells slots la hC hH hl b1 b2)
theorem z_pop {v : Value} (hd : decode M.2.1 pc = .ok (.pop, 1)) (hv : ∀ E : zE, (zv E v).category = 1) (h : Z E M (pc + 1) ls st s bud F) : Z E M pc ls (v :: st) s bud F :=
  fun p e sx m args below meth c H locs cells slots la hC hH hl b1 b2 => lv_pop hC.1 hC.2.1 hd (hv E) (h p e sx m args below meth c H locs cells slots la hC hH hl b1 b2)
theorem z_goto {off : Int} {tgt : Nat} (hd : decode M.2.1 pc = .ok (.goto off, 3)) (ht : (pc : Int) + off = (tgt : Int)) (h : Z E M tgt ls st s bud F) : Z E M pc ls st s bud F :=
  fun p e sx m args below meth c H locs cells slots la hC hH hl b1 b2 => lv_goto hC.1 hC.2.1 hd ht (h p e sx m args below meth c H locs cells slots la hC hH hl b1 b2)
theorem z_if_eq {off : Int} {tgt : Nat} {x : Int32} (hd : decode M.2.1 pc = .ok (.ifCond .eq off, 3)) (ht : (pc : Int) + off = (tgt : Int)) (h1 : x = 0 → Z E M tgt ls st s bud F) (h2 : ¬ x = 0 → Z E M (pc + 3) ls st s bud F) : Z E M pc ls (.int x :: st) s bud F :=
  fun p e sx m args below meth c H locs cells slots la hC hH hl b1 b2 => lv_if_eq hC.1 hC.2.1 hd ht (fun q => h1 q p e sx m args below meth c H locs cells slots la hC hH hl b1 b2) (fun q => h2 q p e sx m args below meth c H locs cells slots la hC hH hl b1 b2)
theorem z_if_ne {off : Int} {tgt : Nat} {x : Int32} (hd : decode M.2.1 pc = .ok (.ifCond .ne off, 3)) (ht : (pc : Int) + off = (tgt : Int)) (h1 : ¬ x = 0 → Z E M tgt ls st s bud F) (h2 : x = 0 → Z E M (pc + 3) ls st s bud F) : Z E M pc ls (.int x :: st) s bud F :=
  fun p e sx m args below meth c H locs cells slots la hC hH hl b1 b2 => lv_if_ne hC.1 hC.2.1 hd ht (fun q => h1 q p e sx m args below meth c H locs cells slots la hC hH hl b1 b2) (fun q => h2 q p e sx m args below meth c H locs cells slots la hC hH hl b1 b2)
theorem z_if_lt {off : Int} {tgt : Nat} {x : Int32} (hd : decode M.2.1 pc = .ok (.ifCond .lt off, 3)) (ht : (pc : Int) + off = (tgt : Int)) (h1 : x < 0 → Z E M tgt ls st s bud F) (h2 : ¬ x < 0 → Z E M (pc + 3) ls st s bud F) : Z E M pc ls (.int x :: st) s bud F :=
  fun p e sx m args below meth c H locs cells slots la hC hH hl b1 b2 => lv_if_lt hC.1 hC.2.1 hd ht (fun q => h1 q p e sx m args below meth c H locs cells slots la hC hH hl b1 b2) (fun q => h2 q p e sx m args below meth c H locs cells slots la hC hH hl b1 b2)
theorem z_if_ge {off : Int} {tgt : Nat} {x : Int32} (hd : decode M.2.1 pc = .ok (.ifCond .ge off, 3)) (ht : (pc : Int) + off = (tgt : Int)) (h1 : 0 ≤ x → Z E M tgt ls st s bud F) (h2 : ¬ 0 ≤ x → Z E M (pc + 3) ls st s bud F) : Z E M pc ls (.int x :: st) s bud F :=
  fun p e sx m args below meth c H locs cells slots la hC hH hl b1 b2 => lv_if_ge hC.1 hC.2.1 hd ht (fun q => h1 q p e sx m args below meth c H locs cells slots la hC hH hl b1 b2) (fun q => h2 q p e sx m args below meth c H locs cells slots la hC hH hl b1 b2)
theorem z_if_gt {off : Int} {tgt : Nat} {x : Int32} (hd : decode M.2.1 pc = .ok (.ifCond .gt off, 3)) (ht : (pc : Int) + off = (tgt : Int)) (h1 : 0 < x → Z E M tgt ls st s bud F) (h2 : ¬ 0 < x → Z E M (pc + 3) ls st s bud F) : Z E M pc ls (.int x :: st) s bud F :=
  fun p e sx m args below meth c H locs cells slots la hC hH hl b1 b2 => lv_if_gt hC.1 hC.2.1 hd ht (fun q => h1 q p e sx m args below meth c H locs cells slots la hC hH hl b1 b2) (fun q => h2 q p e sx m args below meth c H locs cells slots la hC hH hl b1 b2)
theorem z_if_le {off : Int} {tgt : Nat} {x : Int32} (hd : decode M.2.1 pc = .ok (.ifCond .le off, 3)) (ht : (pc : Int) + off = (tgt : Int)) (h1 : x ≤ 0 → Z E M tgt ls st s bud F) (h2 : ¬ x ≤ 0 → Z E M (pc + 3) ls st s bud F) : Z E M pc ls (.int x :: st) s bud F :=
  fun p e sx m args below meth c H locs cells slots la hC hH hl b1 b2 => lv_if_le hC.1 hC.2.1 hd ht (fun q => h1 q p e sx m args below meth c H locs cells slots la hC hH hl b1 b2) (fun q => h2 q p e sx m args below meth c H locs cells slots la hC hH hl b1 b2)
theorem z_icmp_eq {off : Int} {tgt : Nat} {x y : Int32} (hd : decode M.2.1 pc = .ok (.if_icmp .eq off, 3)) (ht : (pc : Int) + off = (tgt : Int)) (h1 : x = y → Z E M tgt ls st s bud F) (h2 : ¬ x = y → Z E M (pc + 3) ls st s bud F) : Z E M pc ls (.int y :: .int x :: st) s bud F :=
  fun p e sx m args below meth c H locs cells slots la hC hH hl b1 b2 => lv_icmp_eq hC.1 hC.2.1 hd ht (fun q => h1 q p e sx m args below meth c H locs cells slots la hC hH hl b1 b2) (fun q => h2 q p e sx m args below meth c H locs cells slots la hC hH hl b1 b2)
theorem z_icmp_ne {off : Int} {tgt : Nat} {x y : Int32} (hd : decode M.2.1 pc = .ok (.if_icmp .ne off, 3)) (ht : (pc : Int) + off = (tgt : Int)) (h1 : ¬ x = y → Z E M tgt ls st s bud F) (h2 : x = y → Z E M (pc + 3) ls st s bud F) : Z E M pc ls (.int y :: .int x :: st) s bud F :=
  fun p e sx m args below meth c H locs cells slots la hC hH hl b1 b2 => lv_icmp_ne hC.1 hC.2.1 hd ht (fun q => h1 q p e sx m args below meth c H locs cells slots la hC hH hl b1 b2) (fun q => h2 q p e sx m args below meth c H locs cells slots la hC hH hl b1 b2)
theorem z_icmp_lt {off : Int} {tgt : Nat} {x y : Int32} (hd : decode M.2.1 pc = .ok (.if_icmp .lt off, 3)) (ht : (pc : Int) + off = (tgt : Int)) (h1 : x < y → Z E M tgt ls st s bud F) (h2 : ¬ x < y → Z E M (pc + 3) ls st s bud F) : Z E M pc ls (.int y :: .int x :: st) s bud F :=
  fun p e sx m args below meth c H locs cells slots la hC hH hl b1 b2 => lv_icmp_lt hC.1 hC.2.1 hd ht (fun q => h1 q p e sx m args below meth c H locs cells slots la hC hH hl b1 b2) (fun q => h2 q p e sx m args below meth c H locs cells slots la hC hH hl b1 b2)
theorem z_icmp_ge {off : Int} {tgt : Nat} {x y : Int32} (hd : decode M.2.1 pc = .ok (.if_icmp .ge off, 3)) (ht : (pc : Int) + off = (tgt : Int)) (h1 : y ≤ x → Z E M tgt ls st s bud F) (h2 : ¬ y ≤ x → Z E M (pc + 3) ls st s bud F) : Z E M pc ls (.int y :: .int x :: st) s bud F :=
  fun p e sx m args below meth c H locs cells slots la hC hH hl b1 b2 => lv_icmp_ge hC.1 hC.2.1 hd ht (fun q => h1 q p e sx m args below meth c H locs cells slots la hC hH hl b1 b2) (fun q => h2 q p e sx m args below meth c H locs cells slots la hC hH hl b1 b2)
theorem z_icmp_gt {off : Int} {tgt : Nat} {x y : Int32} (hd : decode M.2.1 pc = .ok (.if_icmp .gt off, 3)) (ht : (pc : Int) + off = (tgt : Int)) (h1 : y < x → Z E M tgt ls st s bud F) (h2 : ¬ y < x → Z E M (pc + 3) ls st s bud F) : Z E M pc ls (.int y :: .int x :: st) s bud F :=
  fun p e sx m args below meth c H locs cells slots la hC hH hl b1 b2 => lv_icmp_gt hC.1 hC.2.1 hd ht (fun q => h1 q p e sx m args below meth c H locs cells slots la hC hH hl b1 b2) (fun q => h2 q p e sx m args below meth c H locs cells slots la hC hH hl b1 b2)
theorem z_icmp_le {off : Int} {tgt : Nat} {x y : Int32} (hd : decode M.2.1 pc = .ok (.if_icmp .le off, 3)) (ht : (pc : Int) + off = (tgt : Int)) (h1 : x ≤ y → Z E M tgt ls st s bud F) (h2 : ¬ x ≤ y → Z E M (pc + 3) ls st s bud F) : Z E M pc ls (.int y :: .int x :: st) s bud F :=
  fun p e sx m args below meth c H locs cells slots la hC hH hl b1 b2 => lv_icmp_le hC.1 hC.2.1 hd ht (fun q => h1 q p e sx m args below meth c H locs cells slots la hC hH hl b1 b2) (fun q => h2 q p e sx m args below meth c H locs cells slots la hC hH hl b1 b2)
theorem z_tableOut {dflt lo hi : Int} {offs : Array Int} {len tgt : Nat} {x : Int32} (hd : decode M.2.1 pc = .ok (.tableswitch dflt lo hi offs, len)) (hx : x.toInt < lo ∨ hi < x.toInt) (ht : (pc : Int) + dflt = (tgt : Int)) (h : Z E M tgt ls st s bud F) : Z E M pc ls (.int x :: st) s bud F :=
  fun p e sx m args below meth c H locs cells slots la hC hH hl b1 b2 => lv_tableOut hC.1 hC.2.1 hd hx ht (h p e sx m args below meth c H locs cells slots la hC hH hl b1 b2)
theorem z_tableIn {dflt lo hi : Int} {offs : Array Int} {len tgt : Nat} {x : Int32} {off : Int} (hd : decode M.2.1 pc = .ok (.tableswitch dflt lo hi offs, len)) (h1 : ¬ x.toInt < lo) (h2 : ¬ hi < x.toInt) (ho : offs[(x.toInt - lo).toNat]? = some off) (ht : (pc : Int) + off = (tgt : Int)) (h : Z E M tgt ls st s bud F) : Z E M pc ls (.int x :: st) s bud F :=
  fun p e sx m args below meth c H locs cells slots la hC hH hl b1 b2 => lv_tableIn hC.1 hC.2.1 hd h1 h2 ho ht (h p e sx m args below meth c H locs cells slots la hC hH hl b1 b2)
theorem z_lookup {dflt : Int} {ps : Array (Int × Int)} {len tgt : Nat} {x : Int32} {off : Int} (hd : decode M.2.1 pc = .ok (.lookupswitch dflt ps, len)) (hp : (ps.toList.zip (ps.toList.drop 1)).all (fun (a, next) => a.1 < next.1) = true) (ho : Op.lookupswitch.offset ps.toList dflt x.toInt = off) (ht : (pc : Int) + off = (tgt : Int)) (h : Z E M tgt ls st s bud F) : Z E M pc ls (.int x :: st) s bud F :=
  fun p e sx m args below meth c H locs cells slots la hC hH hl b1 b2 => lv_lookup hC.1 hC.2.1 hd hp ho ht (h p e sx m args below meth c H locs cells slots la hC hH hl b1 b2)
end
end
section
/-! Rules of the heap: fields, arrays, new cells, calls, answers. -/
/-- the field reference idx of class own is field k of class c -/
def zFL (own : String) (idx c k : Nat) : Prop := c < 11 ∧ k < zN c ∧ Cond.fieldLink own idx (zT c k).1 (zT c k).2.1 (zT c k).2.2.1 ∈ zALL
theorem zfs_len (E : zE) (s : zS) (c r : Nat) : (zfs E s c r).length = zN c := by simp [zfs]
theorem zfs_at {E : zE} {s : zS} {c r k : Nat} (hk : k < zN c) : (zfs E s c r)[k]? = some (zfv E s c r k) := by
  unfold zfs
  rw [List.getElem?_map, List.getElem?_range hk]; rfl
theorem zws_obj {E : zE} {s : zS} {c r : Nat} (hc : c < 11) (h : zok s c r) : (zws E s)[r - 1]? = some (zb E + r, .inr (c, zfs E s c r)) := by
  rw [zws_get h.2.1 h.2.2, zcell_obj hc h.1]
theorem zws_arr {E : zE} {s : zS} {c r : Nat} (h1 : 11 ≤ c) (h2 : c ≠ 14) (h : zok s c r) : (zws E s)[r - 1]? = some (zb E + r, .inl (zcy E c, (zK s r).2, .inl (zI s r))) := by
  rw [zws_get h.2.1 h.2.2, zcell_arr h1 h2 h.1]
theorem zws_lng {E : zE} {s : zS} {r : Nat} (h : zok s 14 r) : (zws E s)[r - 1]? = some (zb E + r, .inl (zcy E 14, (zK s r).2, .inr (.inl (zJ s r)))) := by
  rw [zws_get h.2.1 h.2.2, zcell_lng h.1]
/-- two states that are alike at a role have the same cell there -/
theorem zcell_same {E : zE} {s t : zS} {a : Nat} (hK : zK t a = zK s a) (hI : ∀ j, zI t a j = zI s a j) (hR : ∀ j, zR t a j = zR s a j) (hJ : ∀ j, zJ t a j = zJ s a j) : zcell E t a = zcell E s a := by
  have eI : zI t a = zI s a := funext hI
  have eJ : zJ t a = zJ s a := funext hJ
  have eF : ∀ c, zfs E t c a = zfs E s c a := fun c => by
    unfold zfs zfv
    simp only [hI, hR]
  unfold zcell
  rw [hK, eI, eJ, eF]
theorem zws_pI {E : zE} {s : zS} {r k : Nat} {v : Int32} (h0 : 0 < r) (hn : r ≤ zn s) : zws E (zpI s r k v) = (zws E s).set (r - 1) (zb E + r, zcell E (zpI s r k v) r) :=
  zws_set h0 hn rfl (fun a ha => zcell_same rfl (fun j => by rw [zpI_I, if_neg (fun q => ha q.1)]) (fun j => rfl) (fun j => rfl))
theorem zws_pR {E : zE} {s : zS} {r k v : Nat} (h0 : 0 < r) (hn : r ≤ zn s) : zws E (zpR s r k v) = (zws E s).set (r - 1) (zb E + r, zcell E (zpR s r k v) r) :=
  zws_set h0 hn rfl (fun a ha => zcell_same rfl (fun j => rfl) (fun j => by rw [zpR_R, if_neg (fun q => ha q.1)]) (fun j => rfl))
theorem zws_pJ {E : zE} {s : zS} {r k : Nat} {v : Int64} (h0 : 0 < r) (hn : r ≤ zn s) : zws E (zpJ s r k v) = (zws E s).set (r - 1) (zb E + r, zcell E (zpJ s r k v) r) :=
  zws_set h0 hn rfl (fun a ha => zcell_same rfl (fun j => rfl) (fun j => rfl) (fun j => by show (if a = r ∧ j = k then v else zJ s a j) = zJ s a j; rw [if_neg (fun q => ha q.1)]))
theorem zfs_pI {E : zE} {s : zS} {c r k : Nat} {v : Int32} (hk : k < zN c) (ht : zrt (zty c k) = false) : zfs E (zpI s r k v) c r = (zfs E s c r).set k (.int v) := by
  unfold zfs
  have e : Value.int v = zfv E (zpI s r k v) c r k := by unfold zfv; rw [ht]; simp [zpI_I]
  rw [e]
  exact zmap_set hk (fun j hj => by unfold zfv; rw [zpI_I, zpI_R]; simp [hj])
theorem zfs_pR {E : zE} {s : zS} {c r k v : Nat} (hk : k < zN c) (ht : zrt (zty c k) = true) (hv : v ≠ 0) : zfs E (zpR s r k v) c r = (zfs E s c r).set k (.ref (zb E + v)) := by
  unfold zfs
  have e : Value.ref (zb E + v) = zfv E (zpR s r k v) c r k := by unfold zfv; rw [ht]; simp [zpR_R, hv]
  rw [e]
  exact zmap_set hk (fun j hj => by unfold zfv; rw [zpR_I, zpR_R]; simp [hj])
section
variable {E : zE} {M : zM} {pc : Nat} {ls : List (Nat × Value)} {st : List Value} {s : zS} {bud : Nat × Nat} {F : zF}
theorem z_getI {idx c k r : Nat} (hF : zFL M.1.cls idx c k) (hd : decode M.2.1 pc = .ok (.getfield idx, 3)) (ht : zrt (zty c k) = false) (hr : zok s c r) (h : Z E M (pc + 3) ls (.int (zI s r k) :: st) s bud F) : Z E M pc ls (.ref r :: st) s bud F := by
  intro p e sx m args below meth c0 H locs cells slots la hC hH hl b1 b2
  obtain ⟨hc, hk, hw⟩ := hF
  obtain ⟨g1, g2, g3⟩ := zcls c hc
  refine va_get (D := zD E) (ci := c) (v := .int (zI s r k)) (C := zC1 c) (T := zT c) (N := zN c) hC.1 hC.2.1 hC.2.2.2.2.2.1 (zin c hc) hC.2.2.2.2.1 hC.2.2.2.2.2.2.2.2.1.2.1 hH.1 (r - 1) (zws_obj hc hr) g1 k hk (hC.2.2.2.2.2.1 _ hw) (fun _ q => q) ?_ hd (h p e sx m args below meth c0 H locs cells slots la hC hH hl b1 b2)
  rw [zfs_at hk]; unfold zfv; rw [ht]; rfl
theorem z_getR {idx c k r : Nat} (hF : zFL M.1.cls idx c k) (hd : decode M.2.1 pc = .ok (.getfield idx, 3)) (ht : zrt (zty c k) = true) (hr : zok s c r) (h0 : zR s r k ≠ 0) (h : Z E M (pc + 3) ls (.ref (zR s r k) :: st) s bud F) : Z E M pc ls (.ref r :: st) s bud F := by
  intro p e sx m args below meth c0 H locs cells slots la hC hH hl b1 b2
  obtain ⟨hc, hk, hw⟩ := hF
  obtain ⟨g1, g2, g3⟩ := zcls c hc
  refine va_get (D := zD E) (ci := c) (v := .ref (zb E + zR s r k)) (C := zC1 c) (T := zT c) (N := zN c) hC.1 hC.2.1 hC.2.2.2.2.2.1 (zin c hc) hC.2.2.2.2.1 hC.2.2.2.2.2.2.2.2.1.2.1 hH.1 (r - 1) (zws_obj hc hr) g1 k hk (hC.2.2.2.2.2.1 _ hw) (fun _ q => q) ?_ hd (h p e sx m args below meth c0 H locs cells slots la hC hH hl b1 b2)
  rw [zfs_at hk]; unfold zfv; rw [ht, if_pos rfl, if_neg h0]
/-- a field is written: a field that isn't final, or any in its class's constructor; the heap keeps its size -/
theorem zz_put {p : Program} {l : Launch} {e : Env} {R : Room} {sx : State} {m : MethodId} {args : Array Value} {below : List Frame} {meth : Method} {c0 : Code} {H : Heap} {locs : List Loc} {cells slots : Nat} {Q : State → Prop} {cc : ByteArray} {la : Array Slot} {rest : List Value} {A : Nat → Prop} {H0 : Heap} {ws : va_W} {tys : List (ClassId × FieldType)} {D : va_G} {a : Nat}
    (hx : p.tables.exec = Jvm.exec) (hb : c0.code = cc) {own : String} (hts : ∀ w ∈ zALL, w.before args sx = true) (hown : sx.vm.findClass own = some m.cls) (hK : va_K D vwCl tys sx) (hP : va_P D vwCl ws H) (hD : va_D A ws) (hS0 : va_S A H0 H locs) (q0 c k idx : Nat) {fs : List Value} (he : ws[q0]? = some (a, .inr (c, fs))) (hF : zFL own idx c k)
    (hfin : (zT c k).2.2.2 = false ∨ ((zT c k).2.2.2 = true ∧ meth.name = "<init>" ∧ (zT c k).1 = own)) {v : Value} (hn : narrow (zty c k) v = v) (hfit : fits (zty c k) v = true) (hl : k < fs.length) (hdg : decode cc pc = .ok (.putfield idx, 3))
    (kk : ∀ (H1 : Heap) (locs1 : List Loc), H1.size = H.size → va_P D vwCl (ws.set q0 (a, .inr (c, fs.set k v))) H1 → va_D A (ws.set q0 (a, .inr (c, fs.set k v))) → va_S A H0 H1 locs1 → W p l e R sx m args below meth c0 H1 locs1 cells slots Q (F0 m (pc + 3) la rest)) : W p l e R sx m args below meth c0 H locs cells slots Q (F0 m pc la (v :: .ref a :: rest)) := by
  obtain ⟨hc, hk, hw⟩ := hF
  obtain ⟨g1, g2, g3⟩ := zcls c hc
  have hap := va_apart (own := own) hts (zin c hc) (zty c) g2 g3 hK g1
  obtain ⟨r, h1, cell, q1, q2, q3, q4⟩ := hP q0 _ he
  have hr : r = (zC1 c, zT c, zN c) := Option.some.inj (h1.symm.trans g1)
  subst hr
  obtain ⟨hS, hfc, kC, hkC, hkind⟩ := hK.1 c _ g1
  obtain ⟨cf, kf, fi, f, hi, hsl⟩ := hS k hk
  have hlay := hts _ (zin c hc _ (u_in_lay hk))
  unfold u_lay at hlay
  have hst := (u_facts hfc hkC (u_lays hts (zin c hc) hk) hi).1
  rcases hfin with hfin | ⟨hfin, hin2, hdecl⟩
  · rw [if_neg (by rw [hfin]; decide)] at hlay
    have h6 := u_store hfc hkC hkind hlay hi (g2 k hk) hn hfit
    refine W.putK hx hb (f := f) ⟨hown, hts _ hw, ⟨_, _, _, hi⟩, hst⟩ (by rw [q2]; exact h6) q1 q3 (by rw [hsl]; exact k2_hasslot (q4 k hk)) rfl rfl hdg fun H' e1 e2 e3 => ?_
    rw [hsl] at e1 ⊢
    exact kk H' _ e2 (hP.set hD he ⟨_, g1, t_OB.to (V := updV (vp_V fs) k v) ⟨_, e1, q2, q3, t_set q4 hap hk v⟩ (fun j _ => vp_updV_set hl v j)⟩ e3) (hD.set he) (hS0.put e2 e3 (hD.2 q0 _ he))
  · rw [if_pos hfin] at hlay
    have hcf : m.cls = cf := by
      obtain ⟨_, _, c', _, _, _, -, -, hf', -, -, -, hown2, -⟩ := Cond.laysFinal_spec hlay
      have e1 : c' = cf := by have := hi.symm.trans hf'; simp at this; exact this.1.symm
      rw [hdecl] at hown2
      rw [← e1]; exact Option.some.inj (hown.symm.trans hown2)
    have h6 := u_fits hfc hkC hkind (Or.inr hlay) hi (g2 k hk) hn hfit
    refine W.putFinK hx hb hown (hts _ hw) hi hst hcf hin2 (by rw [q2]; exact h6) q1 q3 (by rw [hsl]; exact k2_hasslot (q4 k hk)) rfl rfl hdg fun H' e1 e2 e3 => ?_
    rw [hsl] at e1 ⊢
    exact kk H' _ e2 (hP.set hD he ⟨_, g1, t_OB.to (V := updV (vp_V fs) k v) ⟨_, e1, q2, q3, t_set q4 hap hk v⟩ (fun j _ => vp_updV_set hl v j)⟩ e3) (hD.set he) (hS0.put e2 e3 (hD.2 q0 _ he))
/-- whether M may write field k of class c -/
def zwr (M : zM) (c k : Nat) : Prop := (zT c k).2.2.2 = false ∨ ((zT c k).2.2.2 = true ∧ M.1.name = "<init>" ∧ (zT c k).1 = M.1.cls)
theorem z_putV {idx c k r : Nat} {v : Value} {t : zS} (hF : zFL M.1.cls idx c k) (hd : decode M.2.1 pc = .ok (.putfield idx, 3)) (hw : zwr M c k) (hr : zok s c r) (hn : narrow (zty c k) (zv E v) = zv E v) (hf : fits (zty c k) (zv E v) = true) (he : zws E t = (zws E s).set (r - 1) (zb E + r, .inr (c, (zfs E s c r).set k (zv E v)))) (hal : zal t = zal s) (hnn : zn t = zn s) (h : Z E M (pc + 3) ls st t bud F) : Z E M pc ls (v :: .ref r :: st) s bud F := by
  intro p e sx m args below meth c0 H locs cells slots la hC hH hl b1 b2
  refine zz_put hC.1 hC.2.1 hC.2.2.2.2.2.1 hC.2.2.2.2.1 hC.2.2.2.2.2.2.2.2.1.2.1 hH.1 hH.2.1 hH.2.2.1 (r - 1) c k idx (zws_obj hF.1 hr) hF (hw.imp id (fun q => ⟨q.1, hC.2.2.2.2.2.2.2.1.trans q.2.1, q.2.2⟩)) hn hf (by rw [zfs_len]; exact hF.2.1) hd (fun H1 locs1 z1 hP1 hD1 hS1 => ?_)
  rw [← he] at hP1 hD1
  exact h p e sx m args below meth c0 H1 locs1 cells slots la hC ⟨hP1, hD1, hS1, fun q => by rw [z1, hnn]; exact hH.2.2.2 (by rw [← hal]; exact q)⟩ hl b1 b2
theorem zws_putI {c r k : Nat} {v : Int32} (hc : c < 11) (hk : k < zN c) (ht : zrt (zty c k) = false) (hr : zok s c r) : zws E (zpI s r k v) = (zws E s).set (r - 1) (zb E + r, .inr (c, (zfs E s c r).set k (.int v))) := by
  rw [zws_pI hr.2.1 hr.2.2, zcell_obj (s := zpI s r k v) hc hr.1, zfs_pI hk ht]
theorem zws_putR {c r k v : Nat} (hc : c < 11) (hk : k < zN c) (ht : zrt (zty c k) = true) (hv : v ≠ 0) (hr : zok s c r) : zws E (zpR s r k v) = (zws E s).set (r - 1) (zb E + r, .inr (c, (zfs E s c r).set k (.ref (zb E + v)))) := by
  rw [zws_pR hr.2.1 hr.2.2, zcell_obj (s := zpR s r k v) hc hr.1, zfs_pR hk ht hv]
theorem z_putI {idx c k r : Nat} {x : Int32} (hF : zFL M.1.cls idx c k) (hd : decode M.2.1 pc = .ok (.putfield idx, 3)) (ht : zty c k = .int) (hw : zwr M c k) (hr : zok s c r) (h : Z E M (pc + 3) ls st (zpI s r k x) bud F) : Z E M pc ls (.int x :: .ref r :: st) s bud F :=
  z_putV hF hd hw hr (by rw [ht]; rfl) (by rw [ht]; rfl) (zws_putI hF.1 hF.2.1 (by rw [ht]; rfl) hr) rfl rfl h
def zbl (x : Int32) : Prop := x = 0 ∨ x = 1
theorem z_putZ {idx c k r : Nat} {x : Int32} (hF : zFL M.1.cls idx c k) (hd : decode M.2.1 pc = .ok (.putfield idx, 3)) (ht : zty c k = .boolean) (hw : zwr M c k) (hr : zok s c r) (hx : zbl x) (h : Z E M (pc + 3) ls st (zpI s r k x) bud F) : Z E M pc ls (.int x :: .ref r :: st) s bud F :=
  z_putV hF hd hw hr (by rw [ht]; rcases hx with rfl | rfl <;> rfl) (by rw [ht]; rcases hx with rfl | rfl <;> rfl) (zws_putI hF.1 hF.2.1 (by rw [ht]; rfl) hr) rfl rfl h
theorem z_putR {idx c k r v : Nat} (hF : zFL M.1.cls idx c k) (hd : decode M.2.1 pc = .ok (.putfield idx, 3)) (ht : zrt (zty c k) = true) (hw : zwr M c k) (hr : zok s c r) (hv : v ≠ 0) (h : Z E M (pc + 3) ls st (zpR s r k v) bud F) : Z E M pc ls (.ref v :: .ref r :: st) s bud F := by
  refine z_putV hF hd hw hr ?_ ?_ (zws_putR hF.1 hF.2.1 ht hv hr) rfl rfl h
  · cases hq : zty c k with
    | object _ => rfl
    | array _ => rfl
    | _ => rw [hq] at ht; cases ht
  · cases hq : zty c k with
    | object _ => rfl
    | array _ => rfl
    | _ => rw [hq] at ht; cases ht
/-! arrays -/
theorem ztys_b (E : zE) : (ztys E)[0]? = some (zcy E 11, .byte) := rfl
theorem ztys_i (E : zE) : (ztys E)[1]? = some (zcy E 12, .int) := rfl
theorem ztys_z (E : zE) : (ztys E)[2]? = some (zcy E 13, .boolean) := rfl
theorem ztys_l (E : zE) : (ztys E)[3]? = some (zcy E 14, .long) := rfl
theorem z_iald {r : Nat} {i : Int32} (hd : decode M.2.1 pc = .ok (.iaload, 1)) (hr : zok s 12 r) (hi : vp_in i (zK s r).2) (h : Z E M (pc + 1) ls (.int (zI s r i.toNatClampNeg) :: st) s bud F) : Z E M pc ls (.int i :: .ref r :: st) s bud F :=
  fun p e sx m args below meth c H locs cells slots la hC hH hl b1 b2 => va_iald hC.1 hC.2.1 hC.2.2.2.2.2.2.2.2.1.2.1 hH.1 (r - 1) 1 (zws_arr (by decide) (by decide) hr) (ztys_i E) hi hd (h p e sx m args below meth c H locs cells slots la hC hH hl b1 b2)
theorem z_bald {r : Nat} {i : Int32} (hd : decode M.2.1 pc = .ok (.baload, 1)) (hr : zok s 11 r) (hi : vp_in i (zK s r).2) (h : Z E M (pc + 1) ls (.int (zI s r i.toNatClampNeg) :: st) s bud F) : Z E M pc ls (.int i :: .ref r :: st) s bud F :=
  fun p e sx m args below meth c H locs cells slots la hC hH hl b1 b2 => va_bald hC.1 hC.2.1 hC.2.2.2.2.2.2.2.2.1.2.1 hH.1 (r - 1) 0 (zws_arr (by decide) (by decide) hr) (ztys_b E) hi hd (h p e sx m args below meth c H locs cells slots la hC hH hl b1 b2)
theorem z_zald {r : Nat} {i : Int32} (hd : decode M.2.1 pc = .ok (.baload, 1)) (hr : zok s 13 r) (hi : vp_in i (zK s r).2) (h : Z E M (pc + 1) ls (.int (zI s r i.toNatClampNeg) :: st) s bud F) : Z E M pc ls (.int i :: .ref r :: st) s bud F :=
  fun p e sx m args below meth c H locs cells slots la hC hH hl b1 b2 => va_zald hC.1 hC.2.1 hC.2.2.2.2.2.2.2.2.1.2.1 hH.1 (r - 1) 2 (zws_arr (by decide) (by decide) hr) (ztys_z E) hi hd (h p e sx m args below meth c H locs cells slots la hC hH hl b1 b2)
theorem z_lald {r : Nat} {i : Int32} (hd : decode M.2.1 pc = .ok (.laload, 1)) (hr : zok s 14 r) (hi : vp_in i (zK s r).2) (h : Z E M (pc + 1) ls (.long (zJ s r i.toNatClampNeg) :: st) s bud F) : Z E M pc ls (.int i :: .ref r :: st) s bud F :=
  fun p e sx m args below meth c H locs cells slots la hC hH hl b1 b2 => va_lald hC.1 hC.2.1 hC.2.2.2.2.2.2.2.2.1.2.1 hH.1 (r - 1) 3 (zws_lng hr) (ztys_l E) hi hd (h p e sx m args below meth c H locs cells slots la hC hH hl b1 b2)
theorem z_alen {r c : Nat} (hc1 : c = 11 ∨ c = 12 ∨ c = 13) (hd : decode M.2.1 pc = .ok (.arraylength, 1)) (hr : zok s c r) (h : Z E M (pc + 1) ls (.int (nI (zK s r).2) :: st) s bud F) : Z E M pc ls (.ref r :: st) s bud F :=
  fun p e sx m args below meth c0 H locs cells slots la hC hH hl b1 b2 => by
    have hw : (zws E s)[r - 1]? = some (zb E + r, .inl (zcy E c, (zK s r).2, .inl (zI s r))) := by
      rcases hc1 with rfl | rfl | rfl <;> exact zws_arr (by decide) (by decide) hr
    rcases hc1 with rfl | rfl | rfl
    · exact va_alen hC.1 hC.2.1 hC.2.2.2.2.2.2.2.2.1.2.1 hH.1 (r - 1) 0 hw (ztys_b E) rfl hd (h p e sx m args below meth c0 H locs cells slots la hC hH hl b1 b2)
    · exact va_alen hC.1 hC.2.1 hC.2.2.2.2.2.2.2.2.1.2.1 hH.1 (r - 1) 1 hw (ztys_i E) rfl hd (h p e sx m args below meth c0 H locs cells slots la hC hH hl b1 b2)
    · exact va_alen hC.1 hC.2.1 hC.2.2.2.2.2.2.2.2.1.2.1 hH.1 (r - 1) 2 hw (ztys_z E) rfl hd (h p e sx m args below meth c0 H locs cells slots la hC hH hl b1 b2)
theorem z_stI {c r : Nat} {k : Nat} {y : Int32} {p : Program} {e : Env} {sx : State} {m : MethodId} {args : Array Value} {below : List Frame} {meth : Method} {c0 : Code} {H H1 : Heap} {locs : List Loc} {cells slots : Nat} {la : Array Slot} {pc1 : Nat} (h1 : 11 ≤ c) (h2 : c ≠ 14) (hr : zok s c r) (hC : zC E M p sx m args meth c0) (hH : zH E s sx H locs) (hl : lv_has la M.2.2.1 (ls.map (zlv E))) (b1 : cells + bud.1 ≤ M.2.2.2.2.2.2.1) (b2 : slots + bud.2 ≤ M.2.2.2.2.2.2.2)
    (h : Z E M pc1 ls st (zpI s r k y) bud F) (hc1 : H1[zb E + r]? = some (vp_cell (zcy E c) ((zK s r).2, .inl (upd (zI s r) k y)))) (z : H1.size = H.size) (oq : ∀ q, q ≠ zb E + r → H1[q]? = H[q]?) : W p (zl E) e (zrm M) sx m args below meth c0 H1 (locs ++ [⟨zb E + r, k⟩]) cells slots (F below args sx) (F0 m pc1 la (st.map (zv E))) := by
  have hw := zws_arr (E := E) h1 h2 hr
  have ec : zcell E (zpI s r k y) r = .inl (zcy E c, (zK s r).2, .inl (upd (zI s r) k y)) := by
    rw [zcell_arr (s := zpI s r k y) h1 h2 hr.1, zpI_K]
    congr 4
    funext j
    rw [zpI_I]
    simp [upd]
  have e2 : zws E (zpI s r k y) = (zws E s).set (r - 1) (zb E + r, .inl (zcy E c, (zK s r).2, .inl (upd (zI s r) k y))) := by rw [zws_pI hr.2.1 hr.2.2, ec]
  refine h p e sx m args below meth c0 H1 _ cells slots la hC ⟨?_, ?_, hH.2.2.1.put z oq (hH.2.1.2 _ _ hw), fun q => by rw [z]; exact hH.2.2.2 q⟩ hl b1 b2
  · rw [e2]; exact hH.1.set hH.2.1 hw hc1 oq
  · rw [e2]; exact hH.2.1.set hw
theorem zst_cell {cA : ClassId} {n k : Nat} {f : Nat → Int32} {y : Int32} {v : Value} (hv : v = .int y) : (vp_cell cA (n, .inl f)).setSlot k v = vp_cell cA (n, .inl (upd f k y)) := by
  subst hv
  rw [vp_cell_i, vp_cell_i, arrV_store]
  congr 1
  funext q
  by_cases hq : q = k
  · subst hq; simp [updV, upd]
  · simp [updV, upd, hq]
theorem z_iast {r : Nat} {i x : Int32} (hd : decode M.2.1 pc = .ok (.iastore, 1)) (hr : zok s 12 r) (hi : vp_in i (zK s r).2) (h : Z E M (pc + 1) ls st (zpI s r i.toNatClampNeg x) bud F) : Z E M pc ls (.int x :: .int i :: .ref r :: st) s bud F :=
  fun p e sx m args below meth c H locs cells slots la hC hH hl b1 b2 =>
    W.iast hC.1 hC.2.1 (hH.1 (r - 1) _ (zws_arr (by decide) (by decide) hr)) ((hC.2.2.2.2.2.2.2.2.1.2.1.2 1 _ (ztys_i E)).1 (zK s r).2 (fun j => .int (zI s r j))) (fun q => by cases q) (by show ¬ (i < 0 ∨ (arrV _ _ _).slots.size ≤ _); rw [arrV_size]; exact hi) rfl rfl hd fun H1 e1 z oq => z_stI (by decide) (by decide) hr hC hH hl b1 b2 h (by rw [e1]; exact congrArg some (zst_cell rfl)) z oq
theorem z_bast {r : Nat} {i x : Int32} (hd : decode M.2.1 pc = .ok (.bastore, 1)) (hr : zok s 11 r) (hi : vp_in i (zK s r).2) (h : Z E M (pc + 1) ls st (zpI s r i.toNatClampNeg x.toInt8.toInt32) bud F) : Z E M pc ls (.int x :: .int i :: .ref r :: st) s bud F :=
  fun p e sx m args below meth c H locs cells slots la hC hH hl b1 b2 =>
    W.bast hC.1 hC.2.1 (hH.1 (r - 1) _ (zws_arr (by decide) (by decide) hr)) ((hC.2.2.2.2.2.2.2.2.1.2.1.2 0 _ (ztys_b E)).1 (zK s r).2 (fun j => .int (zI s r j))) (fun q => by cases q) (by show ¬ (i < 0 ∨ (arrV _ _ _).slots.size ≤ _); rw [arrV_size]; exact hi) rfl rfl hd fun H1 e1 z oq => z_stI (by decide) (by decide) hr hC hH hl b1 b2 h (by rw [e1]; exact congrArg some (zst_cell rfl)) z oq
theorem z_zast {r : Nat} {i x : Int32} (hd : decode M.2.1 pc = .ok (.bastore, 1)) (hr : zok s 13 r) (hi : vp_in i (zK s r).2) (hx : zbl x) (h : Z E M (pc + 1) ls st (zpI s r i.toNatClampNeg x) bud F) : Z E M pc ls (.int x :: .int i :: .ref r :: st) s bud F :=
  fun p e sx m args below meth c H locs cells slots la hC hH hl b1 b2 =>
    W.zast hC.1 hC.2.1 (hH.1 (r - 1) _ (zws_arr (by decide) (by decide) hr)) ((hC.2.2.2.2.2.2.2.2.1.2.1.2 2 _ (ztys_z E)).1 (zK s r).2 (fun j => .int (zI s r j))) (fun q => by cases q) (by show ¬ (i < 0 ∨ (arrV _ _ _).slots.size ≤ _); rw [arrV_size]; exact hi) rfl rfl hd fun H1 e1 z oq => z_stI (by decide) (by decide) hr hC hH hl b1 b2 h (by rw [e1]; exact congrArg some (zst_cell (by rcases hx with rfl | rfl <;> rfl))) z oq
end
end
section
/-! New cells, calls, answers. -/
theorem znew_n (s : zS) (c len : Nat) : zn (znew s c len) = zn s + 1 := rfl
theorem znew_K (s : zS) (c len a : Nat) : zK (znew s c len) a = if a = zn s + 1 then (c, len) else zK s a := rfl
theorem znew_I (s : zS) (c len a j : Nat) : zI (znew s c len) a j = if a = zn s + 1 then 0 else zI s a j := rfl
theorem znew_R (s : zS) (c len a j : Nat) : zR (znew s c len) a j = if a = zn s + 1 then 0 else zR s a j := rfl
theorem znew_J (s : zS) (c len a j : Nat) : zJ (znew s c len) a j = if a = zn s + 1 then 0 else zJ s a j := rfl
theorem zws_new {E : zE} {s : zS} {c len : Nat} : zws E (znew s c len) = zws E s ++ [(zb E + (zn s + 1), zcell E (znew s c len) (zn s + 1))] := by
  unfold zws
  rw [znew_n, List.range_succ, List.map_append]
  congr 1
  apply List.map_congr_left
  intro i hi
  have hi : i < zn s := List.mem_range.mp hi
  rw [zcell_same (s := s) (t := znew s c len) (a := i + 1) (by rw [znew_K, if_neg (by omega)]) (fun j => by rw [znew_I, if_neg (by omega)]) (fun j => by rw [znew_R, if_neg (by omega)]) (fun j => by rw [znew_J, if_neg (by omega)])]
section
variable {E : zE} {M : zM} {pc : Nat} {ls : List (Nat × Value)} {st : List Value} {s : zS} {bud : Nat × Nat} {F : zF}
/-- the heap behind a new cell -/
theorem zH_new {c len : Nat} {sx : State} {H H1 : Heap} {locs : List Loc} (hal : zal s = true) (hH : zH E s sx H locs) (hb : zb E < sx.heap.size) (z : H1.size = H.size + 1) (o1 : ∀ q, q < H.size → H1[q]? = H[q]?) (hc : va_at (zD E) vwCl (zb E + (zn s + 1), zcell E (znew s c len) (zn s + 1)) H1) : zH E (znew s c len) sx H1 locs := by
  obtain ⟨hP, hD, hS, hz⟩ := hH
  have hz := hz hal
  have hq : zb E + (zn s + 1) = H.size := by omega
  refine ⟨?_, ?_, ⟨Nat.le_trans hS.1 (by omega), fun x h1 h2 => (o1 x (Nat.lt_of_lt_of_le h1 hS.1)).trans (hS.2.1 x h1 h2), hS.2.2⟩, fun _ => by rw [znew_n, z]; omega⟩
  · rw [zws_new]
    refine (hP.kept (fun k x hx => o1 x.1 (hP k x hx).lt)).app (fun k x hx => ?_)
    have hk : k < 1 := (List.getElem?_eq_some_iff.mp hx).1
    rw [show k = 0 by omega] at hx
    cases hx
    exact hc
  · rw [zws_new]
    exact hD.push hP hq (by show zb E < _; omega)
/-- new C -/
def zNL (own : String) (idx c : Nat) : Prop := c < 11 ∧ Cond.classLink own idx (zC1 c) ∈ zALL ∧ Cond.instantiable (zC1 c) (zN c) ∈ zALL ∧ Cond.initialized (zC1 c) ∈ zALL
theorem zdef {c k : Nat} (hc : c < 11) (hk : k < zN c) (s : zS) (E : zE) (r : Nat) (hI : ∀ j, zI s r j = 0) (hR : ∀ j, zR s r j = 0) (hd : ∀ c, c < 11 → ∀ k, k < zN c → defaultValue (zty c k) = if zrt (zty c k) = true then .null else .int 0) : defaultValue (zty c k) = vp_V (zfs E s c r) k := by
  unfold vp_V
  rw [List.getD_eq_getElem?_getD, zfs_at hk]
  show _ = zfv E s c r k
  unfold zfv
  rw [hd c hc k hk, hI, hR]
  rfl
theorem zdefs : ∀ c, c < 11 → ∀ k, k < zN c → defaultValue (zty c k) = if zrt (zty c k) = true then .null else .int 0 := by decide +kernel
theorem z_new {idx c : Nat} (hN : zNL M.1.cls idx c) (hd : decode M.2.1 pc = .ok (.new idx, 3)) (hal : zal s = true) (hb1 : 1 ≤ bud.1) (hb2 : zN c ≤ bud.2) (h : Z E M (pc + 3) ls (.ref (zn s + 1) :: st) (znew s c 0) (bud.1 - 1, bud.2 - zN c) F) : Z E M pc ls st s bud F := by
  intro p e sx m args below meth c0 H locs cells slots la hC hH hl b1 b2
  obtain ⟨hc, w1, w2, w3⟩ := hN
  obtain ⟨g1, g2, g3⟩ := zcls c hc
  have hz := hH.2.2.2 hal
  have hKn := hC.2.2.2.2.2.2.2.2.1.2.1.1 c _ g1
  have hts := hC.2.2.2.2.2.1
  refine W.newcK hC.1 hC.2.1 hC.2.2.2.2.1 (hts _ w1) (hts _ w2) (hts _ w3) rfl hd (show cells + 1 ≤ M.2.2.2.2.2.2.1 by omega) (show slots + zN c ≤ M.2.2.2.2.2.2.2 by omega) hKn.2.1 (h := zb E + (zn s + 1)) (by omega) fun H1 kC hkC e1 z1 o1 => ?_
  refine h p e sx m args below meth c0 H1 locs (cells + 1) (slots + zN c) la hC (zH_new hal hH hC.2.2.2.2.2.2.2.2.1.1 (by omega) (fun q hq => o1 q (by omega)) ?_) hl (by show _ + (bud.1 - 1) ≤ _; omega) (by show _ + (bud.2 - zN c) ≤ _; omega)
  rw [zcell_obj (s := znew s c 0) hc (by rw [znew_K, if_pos rfl])]
  exact ⟨_, g1, (u_born (zty c) hts (zin c hc) hKn hkC e1 g2).to (fun j hj => zdef hc hj _ E _ (fun q => by rw [znew_I, if_pos rfl]) (fun q => by rw [znew_R, if_pos rfl]) zdefs)⟩
/-- new byte[], int[], boolean[] -/
theorem z_newarr {c : Nat} {at0 : ArrayType} {ty : FieldType} {n : Int32} {t0 : Nat} (hw : Cond.arrayClass (newarray.typeOf at0) ∈ zALL) (hty : newarray.typeOf at0 = ty) (h1 : 11 ≤ c) (h2 : c ≠ 14) (hdf : defaultValue ty = .int 0) (ht : ∀ E : zE, (ztys E)[t0]? = some (zcy E c, ty)) (hRA : ∀ (U : State) (cA : ClassId), va_RA U cA ty → U.vm.findClass ("[" ++ ty.toString) = some cA)
    (hd : decode M.2.1 pc = .ok (.newarray at0, 2)) (hal : zal s = true) (hn : ¬ n < 0) (hby : n.toNatClampNeg * componentBytes ty ≤ 536870912) (hb1 : 1 ≤ bud.1) (hb2 : n.toNatClampNeg ≤ bud.2) (h : Z E M (pc + 2) ls (.ref (zn s + 1) :: st) (znew s c n.toNatClampNeg) (bud.1 - 1, bud.2 - n.toNatClampNeg) F) : Z E M pc ls (.int n :: st) s bud F := by
  intro p e sx m args below meth c0 H locs cells slots la hC hH hl b1 b2
  subst hty
  have hz := hH.2.2.2 hal
  have hts := hC.2.2.2.2.2.1
  have hKt := hC.2.2.2.2.2.2.2.2.1.2.1.2 t0 _ (ht E)
  refine va_newaK hC.1 hC.2.1 (hts _ hw) rfl hd rfl hn rfl hby (show cells + 1 ≤ M.2.2.2.2.2.2.1 by omega) (show slots + n.toNatClampNeg ≤ M.2.2.2.2.2.2.2 by omega) (h := zb E + (zn s + 1)) (by omega) fun H1 cA e1 z1 o1 hAr hNm => ?_
  have hcA : cA = zcy E c := Option.some.inj (hNm.symm.trans (hRA _ _ hKt.2))
  subst hcA
  refine h p e sx m args below meth c0 H1 locs (cells + 1) (slots + n.toNatClampNeg) la hC (zH_new hal hH hC.2.2.2.2.2.2.2.2.1.1 (by omega) (fun q hq => o1 q (by omega)) ?_) hl (by show _ + (bud.1 - 1) ≤ _; omega) (by show _ + (bud.2 - n.toNatClampNeg) ≤ _; omega)
  rw [zcell_arr (s := znew s c n.toNatClampNeg) h1 h2 (by rw [znew_K, if_pos rfl])]
  show H1[zb E + (zn s + 1)]? = some (vp_cell _ _)
  rw [e1, vp_cell_i, hdf, znew_K, if_pos rfl]
  congr 2
  funext j
  rw [znew_I, if_pos rfl]
/-! answers -/
theorem z_ret {Q : Option Value → zS → Prop} (hd : decode M.2.1 pc = .ok (.return_, 1)) (hr : M.2.2.2.1 = none) (h : Q none s) : Z E M pc ls [] s bud (zR1 E M Q) := by
  intro p e sx m args below meth c H locs cells slots la hC hH hl b1 b2
  refine W.widen (k := M.2.2.2.2.2.2.1) (n := M.2.2.2.2.2.2.2) (by omega) (by omega) ?_
  exact W.vret hC.1 hC.2.1 (hC.2.2.1.trans hr) (fun t ht hW => ⟨⟨none, s, rfl, h, by rw [ht]; exact hH.1, hH.2.1, fun q => by rw [ht]; exact hH.2.2.2 q⟩, hH.2.2.1.F ht⟩) hH.2.2.1.2.2 hd hC.2.2.2.2.2.2.1
theorem z_iret {Q : Option Value → zS → Prop} {x : Int32} (hd : decode M.2.1 pc = .ok (.ireturn, 1)) (hr : M.2.2.2.1 = some .int) (h : Q (some (.int x)) s) : Z E M pc ls [.int x] s bud (zR1 E M Q) := by
  intro p e sx m args below meth c H locs cells slots la hC hH hl b1 b2
  refine W.widen (k := M.2.2.2.2.2.2.1) (n := M.2.2.2.2.2.2.2) (by omega) (by omega) ?_
  exact W.iret hC.1 hC.2.1 (hC.2.2.1.trans hr) (fun t ht hW => ⟨⟨some (.int x), s, rfl, h, by rw [ht]; exact hH.1, hH.2.1, fun q => by rw [ht]; exact hH.2.2.2 q⟩, hH.2.2.1.F ht⟩) hH.2.2.1.2.2 hd hC.2.2.2.2.2.2.1
theorem z_zret {Q : Option Value → zS → Prop} {x : Int32} (hd : decode M.2.1 pc = .ok (.ireturn, 1)) (hr : M.2.2.2.1 = some .boolean) (hx : zbl x) (h : Q (some (.int x)) s) : Z E M pc ls [.int x] s bud (zR1 E M Q) := by
  intro p e sx m args below meth c H locs cells slots la hC hH hl b1 b2
  refine W.widen (k := M.2.2.2.2.2.2.1) (n := M.2.2.2.2.2.2.2) (by omega) (by omega) ?_
  exact W.zret (ty := .boolean) hC.1 hC.2.1 (hC.2.2.1.trans hr) (by rcases hx with rfl | rfl <;> rfl) (fun t ht hW => ⟨⟨some (.int x), s, rfl, h, by rw [ht]; exact hH.1, hH.2.1, fun q => by rw [ht]; exact hH.2.2.2 q⟩, hH.2.2.1.F ht⟩) hH.2.2.1.2.2 hd hC.2.2.2.2.2.2.1
/-! calls -/
/-- behind any call -/
theorem z_run {M2 : zM} {Q : Option Value → zS → Prop} {av : Array Value} {st0 : List Value} {p : Program} {e : Env} {sx : State} {m : MethodId} {args : Array Value} {below : List Frame} {meth : Method} {c : Code} {H : Heap} {locs : List Loc} {cells slots : Nat} {la : Array Slot}
    (hr : va_Run p (zl E) e (zrm M) sx m args below meth c H locs cells slots M2.2.2.2.2.2.2.1 M2.2.2.2.2.2.2.2 (F0 m pc la st0) (st.map (zv E)) (zQ E Q av) (zA E)) (hC : zC E M p sx m args meth c) (hH : zH E s sx H locs) (hl : lv_has la M.2.2.1 (ls.map (zlv E))) (b1 : cells + bud.1 ≤ M.2.2.2.2.2.2.1) (b2 : slots + bud.2 ≤ M.2.2.2.2.2.2.2) (hb1 : M2.2.2.2.2.2.2.1 ≤ bud.1) (hb2 : M2.2.2.2.2.2.2.2 ≤ bud.2)
    (h : ∀ (v : Option Value) (t : zS), Q v t → Z E M (pc + 3) ls (v.toList ++ st) t (bud.1 - M2.2.2.2.2.2.2.1, bud.2 - M2.2.2.2.2.2.2.2) F) : W p (zl E) e (zrm M) sx m args below meth c H locs cells slots (F below args sx) (F0 m pc la st0) := by
  intro T hT X
  obtain ⟨v, st₀, t, T', L, h0, X', hL, e1, e2, ⟨⟨v', s', hv, hq, hP1, hD1, hz1⟩, hF⟩, stp⟩ := hr T hT X
  obtain ⟨hP, hD, hS, hz⟩ := hH
  obtain ⟨hF1, hF2⟩ := hF
  rw [h0] at hF1 hF2
  have hv : v = v'.map (zv E) := by injection hv
  have hS' : va_S (zA E) sx.heap t.heap (locs ++ L) := by
    refine ⟨Nat.le_trans hS.1 hF1, fun q h1 h2 => by rw [hF2 q (Nat.lt_of_lt_of_le h1 hS.1) h2]; exact hS.2.1 q h1 h2, fun q hq' => ?_⟩
    rcases List.mem_append.mp hq' with h | h
    · exact hS.2.2 q h
    · exact hL q h
  obtain ⟨t2, a1, c1⟩ := h v' s' hq p e sx m args below meth c t.heap (locs ++ L) (cells + M2.2.2.2.2.2.2.1) (slots + M2.2.2.2.2.2.2.2) la hC ⟨hP1, hD1, hS', hz1⟩ hl (by show _ + (bud.1 - _) ≤ _; omega) (by show _ + (bud.2 - _) ≤ _; omega) T' e1 X'
  refine ⟨t2, stp t2 ?_, c1⟩
  rw [hv]
  have : (v'.map (zv E)).toList ++ st.map (zv E) = (v'.toList ++ st).map (zv E) := by cases v' <;> simp
  show Steps _ _ _ (T'.setTop { F0 m pc la st0 with pc := pc + 3, stack := (v'.map (zv E)).toList ++ st.map (zv E) }) t2
  rw [this]
  exact a1
/-- what is asked of a callee: n arguments -/
def zMl (M2 : zM) (n : Nat) : Prop := Cond.code M2.1 M2.2.1 M2.2.2.1 M2.2.2.2.1 ∈ zALL ∧ Cond.initialized M2.1.cls ∈ zALL ∧ M2.1.cls ≠ "java/lang/invoke/MethodHandle" ∧ M2.1.cls ≠ "java/lang/invoke/VarHandle" ∧ (parseMethodDescriptor M2.1.desc).map (fun d => d.parameters.length) = some n
def zMV (M2 : zM) (c n : Nat) : Prop := zMl M2 n ∧ Cond.instanceMethod M2.1 ∈ zALL ∧ Cond.selects (zC1 c) M2.1 M2.1 ∈ zALL ∧ c < 11
def zrm_ok (M M2 : zM) : Prop := M2.2.2.2.2.1 + 1 ≤ M.2.2.2.2.1 ∧ 8 + (M2.2.2.1 + 11) + M2.2.2.2.2.2.1 ≤ M.2.2.2.2.2.1
def zrest (st : List Value) : Prop := ∀ E : zE, ((st.map (zv E)).map fun v => v.category).sum ≤ 8
theorem zGood (M2 : zM) (h : Cond.code M2.1 M2.2.1 M2.2.2.1 M2.2.2.2.1 ∈ zALL) : GoodIn zALL (zW M2) := fun w hw => by
  rcases List.mem_cons.mp hw with rfl | h'
  · exact zALL_good _ h
  · exact zALL_good _ h'
theorem zCallB {M2 : zM} {n idx : Nat} {sx : State} {args : Array Value} (hm : zMl M2 n) (hl : Cond.methodLink M.1.cls idx M2.1 ∈ zALL) (hR : zrm_ok M M2) (hts : ∀ w ∈ zALL, w.before args sx = true) : CallB (zrm M) sx args M.1.cls idx M2.1 M2.2.1 M2.2.2.1 M2.2.2.2.1 (zW M2) (zrm M2) M2.2.2.2.2.2.2.1 M2.2.2.2.2.2.2.2 n :=
  callB_of n hts (zGood M2 hm.1) rfl rfl rfl (hts _ hm.2.1) (hts _ hl) hm.2.2 hR
theorem z_callV {M2 : zM} {Q : Option Value → zS → Prop} {idx c n r : Nat} {As stk : List Value} (hct : Ct E M2 (.ref r :: As) s Q) (hm : zMV M2 c n) (hl : Cond.methodLink M.1.cls idx M2.1 ∈ zALL) (hd : decode M.2.1 pc = .ok (.invokevirtual idx, 3)) (hR : zrm_ok M M2) (hstk : stk = As.reverse ++ .ref r :: st) (hn : As.length = n) (hst : zrest st) (hb1 : M2.2.2.2.2.2.2.1 ≤ bud.1) (hb2 : M2.2.2.2.2.2.2.2 ≤ bud.2) (hr : zok s c r)
    (h : ∀ (v : Option Value) (t : zS), Q v t → Z E M (pc + 3) ls (v.toList ++ st) t (bud.1 - M2.2.2.2.2.2.2.1, bud.2 - M2.2.2.2.2.2.2.2) F) : Z E M pc ls stk s bud F := by
  subst hstk
  intro p e sx m args below meth c0 H locs cells slots la hC hH hv b1 b2
  have hts := hC.2.2.2.2.2.1
  obtain ⟨hm1, hm2, hm3, hc⟩ := hm
  obtain ⟨g1, -⟩ := zcls c hc
  have R1 := va_runV (p := p) (e := e) (below := below) (meth := meth) (locs := locs) (cells := cells) (slots := slots) (g := F0 m pc la ((As.reverse ++ .ref r :: st).map (zv E))) (As := As.map (zv E)) (rest := st.map (zv E)) (b := zb E + r) (n := n) (C := zC1 c) ⟨hC.1, hC.2.1, hC.2.2.2.1, hC.2.2.2.2.1, hts⟩ hct ⟨zCallB hm1 hl hR hts, hts _ hm2, hts _ hm3⟩ ⟨zP.blind, va_recv hC.2.2.2.2.2.2.2.2.1.2.1 hH.1 g1 (zws_obj hc hr), fun U hU hW => ⟨rfl, zP.of hH hC.2.2.2.2.2.2.2.2.1 hU hW⟩⟩ rfl (by rw [List.length_map]; exact hn) hv.1 (by simp [zv]) (lv_room (hst E)) hd ⟨show cells + _ ≤ M.2.2.2.2.2.2.1 by omega, show slots + _ ≤ M.2.2.2.2.2.2.2 by omega⟩
  exact z_run R1 hC hH hv b1 b2 hb1 hb2 h
theorem z_callS {M2 : zM} {Q : Option Value → zS → Prop} {idx n : Nat} {As stk : List Value} (hct : Ct E M2 As s Q) (hm : zMl M2 n) (hms : Cond.static M2.1 ∈ zALL) (hl : Cond.methodLink M.1.cls idx M2.1 ∈ zALL) (hd : decode M.2.1 pc = .ok (.invokestatic idx, 3)) (hR : zrm_ok M M2) (hstk : stk = As.reverse ++ st) (hn : As.length = n) (hst : zrest st) (hb1 : M2.2.2.2.2.2.2.1 ≤ bud.1) (hb2 : M2.2.2.2.2.2.2.2 ≤ bud.2)
    (h : ∀ (v : Option Value) (t : zS), Q v t → Z E M (pc + 3) ls (v.toList ++ st) t (bud.1 - M2.2.2.2.2.2.2.1, bud.2 - M2.2.2.2.2.2.2.2) F) : Z E M pc ls stk s bud F := by
  subst hstk
  intro p e sx m args below meth c0 H locs cells slots la hC hH hv b1 b2
  have hts := hC.2.2.2.2.2.1
  have R1 := va_runS (p := p) (e := e) (below := below) (meth := meth) (locs := locs) (cells := cells) (slots := slots) (g := F0 m pc la ((As.reverse ++ st).map (zv E))) (As := As.map (zv E)) (rest := st.map (zv E)) (n := n) ⟨hC.1, hC.2.1, hC.2.2.2.1, hC.2.2.2.2.1, hts⟩ hct ⟨zCallB hm hl hR hts, hts _ hms⟩ ⟨zP.blind, fun U hU hW => ⟨rfl, zP.of hH hC.2.2.2.2.2.2.2.2.1 hU hW⟩⟩ rfl (by rw [List.length_map]; exact hn) hv.1 (by simp) (lv_room (hst E)) hd ⟨show cells + _ ≤ M.2.2.2.2.2.2.1 by omega, show slots + _ ≤ M.2.2.2.2.2.2.2 by omega⟩
  exact z_run R1 hC hH hv b1 b2 hb1 hb2 h
/-- a constructor -/
theorem z_callI {M2 : zM} {Q : Option Value → zS → Prop} {idx n r : Nat} {As stk : List Value} (hct : Ct E M2 (.ref r :: As) s Q) (hm : zMl M2 n) (hmi : Cond.instanceMethod M2.1 ∈ zALL) (hnm : M2.1.name = "<init>") (hrt : M2.2.2.2.1 = none) (hl : Cond.methodLink M.1.cls idx M2.1 ∈ zALL) (hd : decode M.2.1 pc = .ok (.invokespecial idx, 3)) (hR : zrm_ok M M2) (hstk : stk = As.reverse ++ .ref r :: st) (hn : As.length = n) (hst : zrest st) (hb1 : M2.2.2.2.2.2.2.1 ≤ bud.1) (hb2 : M2.2.2.2.2.2.2.2 ≤ bud.2)
    (h : ∀ (v : Option Value) (t : zS), Q v t → Z E M (pc + 3) ls (v.toList ++ st) t (bud.1 - M2.2.2.2.2.2.2.1, bud.2 - M2.2.2.2.2.2.2.2) F) : Z E M pc ls stk s bud F := by
  subst hstk
  intro p e sx m args below meth c0 H locs cells slots la hC hH hv b1 b2
  have hts := hC.2.2.2.2.2.1
  have cb := zCallB (M := M) (idx := idx) hm hl hR hts
  rw [hrt] at cb
  have R1 := va_runI (p := p) (e := e) (below := below) (meth := meth) (locs := locs) (cells := cells) (slots := slots) (g := F0 m pc la ((As.reverse ++ .ref r :: st).map (zv E))) (As := As.map (zv E)) (rest := st.map (zv E)) (b := zb E + r) (n := n) ⟨hC.1, hC.2.1, hC.2.2.2.1, hC.2.2.2.2.1, hts⟩ hct ⟨cb, hnm, hts _ hmi⟩ ⟨zP.blind, fun U hU hW => ⟨rfl, zP.of hH hC.2.2.2.2.2.2.2.2.1 hU hW⟩⟩ rfl (by rw [List.length_map]; exact hn) hv.1 (by simp [zv]) (lv_room (hst E)) hd ⟨show cells + _ ≤ M.2.2.2.2.2.2.1 by omega, show slots + _ ≤ M.2.2.2.2.2.2.2 by omega⟩
  exact z_run R1 hC hH hv b1 b2 hb1 hb2 h
/-- a nest mate's private constructor -/
theorem z_callIN {M2 : zM} {Q : Option Value → zS → Prop} {idx n r : Nat} {As stk : List Value} (hct : Ct E M2 (.ref r :: As) s Q) (hm : zMl M2 n) (hmi : Cond.instanceMethod M2.1 ∈ zALL) (hnm : M2.1.name = "<init>") (hrt : M2.2.2.2.1 = none) (hl : ∀ (E : zE) (U : State), zX E U → va_Nw (.methodLinkNest M.1.cls idx M2.1 RX9) U) (hd : decode M.2.1 pc = .ok (.invokespecial idx, 3)) (hR : zrm_ok M M2) (hstk : stk = As.reverse ++ .ref r :: st) (hn : As.length = n) (hst : zrest st) (hb1 : M2.2.2.2.2.2.2.1 ≤ bud.1) (hb2 : M2.2.2.2.2.2.2.2 ≤ bud.2)
    (h : ∀ (v : Option Value) (t : zS), Q v t → Z E M (pc + 3) ls (v.toList ++ st) t (bud.1 - M2.2.2.2.2.2.2.1, bud.2 - M2.2.2.2.2.2.2.2) F) : Z E M pc ls stk s bud F := by
  subst hstk
  intro p e sx m args below meth c0 H locs cells slots la hC hH hv b1 b2
  have hts := hC.2.2.2.2.2.1
  have cb : va_CN (zrm M) sx args M.1.cls idx M2.1 RX9 M2.2.1 M2.2.2.1 M2.2.2.2.1 (zW M2) (zrm M2) M2.2.2.2.2.2.2.1 M2.2.2.2.2.2.2.2 n := va_cnB n hts (zGood M2 hm.1) rfl rfl rfl (hl E sx hC.2.2.2.2.2.2.2.2.1.2.2) (hts _ hm.2.1) hm.2.2 hR
  rw [hrt] at cb
  have R1 := va_runIN (p := p) (e := e) (below := below) (meth := meth) (locs := locs) (cells := cells) (slots := slots) (g := F0 m pc la ((As.reverse ++ .ref r :: st).map (zv E))) (As := As.map (zv E)) (rest := st.map (zv E)) (b := zb E + r) (n := n) ⟨hC.1, hC.2.1, hC.2.2.2.1, hC.2.2.2.2.1, hts⟩ hct ⟨cb, hnm, hts _ hmi⟩ ⟨zP.blind, fun U hU hW => ⟨rfl, zP.of hH hC.2.2.2.2.2.2.2.2.1 hU hW⟩⟩ rfl (by rw [List.length_map]; exact hn) hv.1 (by simp [zv]) (lv_room (hst E)) hd ⟨show cells + _ ≤ M.2.2.2.2.2.2.1 by omega, show slots + _ ≤ M.2.2.2.2.2.2.2 by omega⟩
  exact z_run R1 hC hH hv b1 b2 hb1 hb2 h
/-- a nest mate's private static method -/
theorem z_callSN {M2 : zM} {Q : Option Value → zS → Prop} {idx n : Nat} {As stk : List Value} (hct : Ct E M2 As s Q) (hm : zMl M2 n) (hms : Cond.static M2.1 ∈ zALL) (hl : ∀ (E : zE) (U : State), zX E U → va_Nw (.methodLinkNest M.1.cls idx M2.1 RX9) U) (hd : decode M.2.1 pc = .ok (.invokestatic idx, 3)) (hR : zrm_ok M M2) (hstk : stk = As.reverse ++ st) (hn : As.length = n) (hst : zrest st) (hb1 : M2.2.2.2.2.2.2.1 ≤ bud.1) (hb2 : M2.2.2.2.2.2.2.2 ≤ bud.2)
    (h : ∀ (v : Option Value) (t : zS), Q v t → Z E M (pc + 3) ls (v.toList ++ st) t (bud.1 - M2.2.2.2.2.2.2.1, bud.2 - M2.2.2.2.2.2.2.2) F) : Z E M pc ls stk s bud F := by
  subst hstk
  intro p e sx m args below meth c0 H locs cells slots la hC hH hv b1 b2
  have hts := hC.2.2.2.2.2.1
  have cb : va_CN (zrm M) sx args M.1.cls idx M2.1 RX9 M2.2.1 M2.2.2.1 M2.2.2.2.1 (zW M2) (zrm M2) M2.2.2.2.2.2.2.1 M2.2.2.2.2.2.2.2 n := va_cnB n hts (zGood M2 hm.1) rfl rfl rfl (hl E sx hC.2.2.2.2.2.2.2.2.1.2.2) (hts _ hm.2.1) hm.2.2 hR
  have R1 := va_runSN (p := p) (e := e) (below := below) (meth := meth) (locs := locs) (cells := cells) (slots := slots) (g := F0 m pc la ((As.reverse ++ st).map (zv E))) (As := As.map (zv E)) (rest := st.map (zv E)) (n := n) ⟨hC.1, hC.2.1, hC.2.2.2.1, hC.2.2.2.2.1, hts⟩ hct ⟨cb, hts _ hms, trivial⟩ ⟨zP.blind, fun U hU hW => ⟨rfl, zP.of hH hC.2.2.2.2.2.2.2.2.1 hU hW⟩⟩ rfl (by rw [List.length_map]; exact hn) hv.1 (by simp) (lv_room (hst E)) hd ⟨show cells + _ ≤ M.2.2.2.2.2.2.1 by omega, show slots + _ ≤ M.2.2.2.2.2.2.2 by omega⟩
  exact z_run R1 hC hH hv b1 b2 hb1 hb2 h
/-- Object.<init> -/
theorem z_objInit {idx r : Nat} (h1 : Cond.methodLink M.1.cls idx Lib.objectInit ∈ zALL) (h2 : Cond.instanceMethod Lib.objectInit ∈ zALL) (h3 : Cond.code Lib.objectInit ⟨#[0xb1]⟩ 1 none ∈ zALL) (hd : decode M.2.1 pc = .ok (.invokespecial idx, 3)) (hf : 1 ≤ M.2.2.2.2.1) (hlo : 20 ≤ M.2.2.2.2.2.1) (hst : zrest st) (h : Z E M (pc + 3) ls st s bud F) : Z E M pc ls (.ref r :: st) s bud F :=
  fun p e sx m args below meth c H locs cells slots la hC hH hl b1 b2 => by
    refine W.objInit hC.1 hC.2.1 hC.2.2.2.2.1 (hC.2.2.2.2.2.1 _ h1) (hC.2.2.2.2.2.1 _ h2) (hC.2.2.2.2.2.1 _ h3) rfl (by rw [hC.2.2.2.1]; exact hl.1) (a := zb E + r) (rest := st.map (zv E)) rfl hd hf ?_ (h p e sx m args below meth c H locs cells slots la hC hH hl b1 b2)
    have := hst E
    show 2 * 0 + _ + 12 ≤ M.2.2.2.2.2.1
    omega
/-! Math -/
theorem z_max {idx : Nat} {x y : Int32} (w1 : Cond.methodLink M.1.cls idx Lib.Math.max.name ∈ zALL) (w2 : Cond.static Lib.Math.max.name ∈ zALL) (w3 : Cond.initialized "java/lang/Math" ∈ zALL) (w4 : Cond.code Lib.Math.max.name Lib.Math.max.code 2 (some .int) ∈ zALL) (hd : decode M.2.1 pc = .ok (.invokestatic idx, 3)) (hf : 1 ≤ M.2.2.2.2.1) (hlo : 21 ≤ M.2.2.2.2.2.1) (hst : zrest st) (h : Z E M (pc + 3) ls (.int (if x < y then y else x) :: st) s bud F) : Z E M pc ls (.int y :: .int x :: st) s bud F :=
  fun p e sx m args below meth c H locs cells slots la hC hH hl b1 b2 => by
    have := hst E
    exact va_mmax hC.1 hC.2.1 (hC.2.2.2.1.trans hl.1.symm) hC.2.2.2.2.1 (hC.2.2.2.2.2.1 _ w1) (hC.2.2.2.2.2.1 _ w2) (hC.2.2.2.2.2.1 _ w3) (hC.2.2.2.2.2.1 _ w4) hf (by show _ + 13 ≤ M.2.2.2.2.2.1; omega) (by show _ ≤ M.2.2.2.2.2.2.1; omega) (by show _ ≤ M.2.2.2.2.2.2.2; omega) hd (h p e sx m args below meth c H locs cells slots la hC hH hl b1 b2)
theorem z_min {idx : Nat} {x y : Int32} (w1 : Cond.methodLink M.1.cls idx Lib.Math.min.name ∈ zALL) (w2 : Cond.static Lib.Math.min.name ∈ zALL) (w3 : Cond.initialized "java/lang/Math" ∈ zALL) (w4 : Cond.code Lib.Math.min.name Lib.Math.min.code 2 (some .int) ∈ zALL) (hd : decode M.2.1 pc = .ok (.invokestatic idx, 3)) (hf : 1 ≤ M.2.2.2.2.1) (hlo : 21 ≤ M.2.2.2.2.2.1) (hst : zrest st) (h : Z E M (pc + 3) ls (.int (if y < x then y else x) :: st) s bud F) : Z E M pc ls (.int y :: .int x :: st) s bud F :=
  fun p e sx m args below meth c H locs cells slots la hC hH hl b1 b2 => by
    have := hst E
    exact va_mmin hC.1 hC.2.1 (hC.2.2.2.1.trans hl.1.symm) hC.2.2.2.2.1 (hC.2.2.2.2.2.1 _ w1) (hC.2.2.2.2.2.1 _ w2) (hC.2.2.2.2.2.1 _ w3) (hC.2.2.2.2.2.1 _ w4) hf (by show _ + 13 ≤ M.2.2.2.2.2.1; omega) (by show _ ≤ M.2.2.2.2.2.2.1; omega) (by show _ ≤ M.2.2.2.2.2.2.2; omega) hd (h p e sx m args below meth c H locs cells slots la hC hH hl b1 b2)
theorem z_abs {idx : Nat} {x : Int32} (w1 : Cond.methodLink M.1.cls idx Lib.Math.abs.name ∈ zALL) (w2 : Cond.static Lib.Math.abs.name ∈ zALL) (w3 : Cond.initialized "java/lang/Math" ∈ zALL) (w4 : Cond.code Lib.Math.abs.name Lib.Math.abs.code 1 (some .int) ∈ zALL) (hd : decode M.2.1 pc = .ok (.invokestatic idx, 3)) (hf : 1 ≤ M.2.2.2.2.1) (hlo : 21 ≤ M.2.2.2.2.2.1) (hst : zrest st) (h : Z E M (pc + 3) ls (.int (if 0 ≤ x then x else 0 - x) :: st) s bud F) : Z E M pc ls (.int x :: st) s bud F :=
  fun p e sx m args below meth c H locs cells slots la hC hH hl b1 b2 => by
    have := hst E
    exact va_mabs hC.1 hC.2.1 (hC.2.2.2.1.trans hl.1.symm) hC.2.2.2.2.1 (hC.2.2.2.2.2.1 _ w1) (hC.2.2.2.2.2.1 _ w2) (hC.2.2.2.2.2.1 _ w3) (hC.2.2.2.2.2.1 _ w4) hf (by show _ + 13 ≤ M.2.2.2.2.2.1; omega) (by show _ ≤ M.2.2.2.2.2.2.1; omega) (by show _ ≤ M.2.2.2.2.2.2.2; omega) hd (h p e sx m args below meth c H locs cells slots la hC hH hl b1 b2)
end
end
section
/-! The words in which a method is written as a function, and what they say of the machine. none: the machine would do what we don't follow. -/
def bnd {α β : Type} (o : Option α) (f : α → Option β) : Option β := match o with
  | none => none
  | some x => f x
def qI (s : zS) (c r k : Nat) : Option Int32 := if (zK s r).1 = c ∧ 0 < r ∧ r ≤ zn s then some (zI s r k) else none
def qR (s : zS) (c r k : Nat) : Option Nat := if ((zK s r).1 = c ∧ 0 < r ∧ r ≤ zn s) ∧ zR s r k ≠ 0 then some (zR s r k) else none
def qA (s : zS) (c r : Nat) (i : Int32) : Option Int32 := if ((zK s r).1 = c ∧ 0 < r ∧ r ≤ zn s) ∧ ¬ (i < 0 ∨ (zK s r).2 ≤ i.toNatClampNeg) then some (zI s r i.toNatClampNeg) else none
def qL (s : zS) (c r : Nat) : Option Int32 := if (zK s r).1 = c ∧ 0 < r ∧ r ≤ zn s then some (nI (zK s r).2) else none
def wI (s : zS) (c r k : Nat) (v : Int32) : Option zS := if (zK s r).1 = c ∧ 0 < r ∧ r ≤ zn s then some (zpI s r k v) else none
def wZ (s : zS) (c r k : Nat) (v : Int32) : Option zS := if ((zK s r).1 = c ∧ 0 < r ∧ r ≤ zn s) ∧ (v = 0 ∨ v = 1) then some (zpI s r k v) else none
def wR (s : zS) (c r k v : Nat) : Option zS := if ((zK s r).1 = c ∧ 0 < r ∧ r ≤ zn s) ∧ v ≠ 0 then some (zpR s r k v) else none
def uI (s : zS) (r : Nat) (i v : Int32) : Option zS := if ((zK s r).1 = 12 ∧ 0 < r ∧ r ≤ zn s) ∧ ¬ (i < 0 ∨ (zK s r).2 ≤ i.toNatClampNeg) then some (zpI s r i.toNatClampNeg v) else none
def uB (s : zS) (r : Nat) (i v : Int32) : Option zS := if ((zK s r).1 = 11 ∧ 0 < r ∧ r ≤ zn s) ∧ ¬ (i < 0 ∨ (zK s r).2 ≤ i.toNatClampNeg) then some (zpI s r i.toNatClampNeg v.toInt8.toInt32) else none
def uZ (s : zS) (r : Nat) (i v : Int32) : Option zS := if (((zK s r).1 = 13 ∧ 0 < r ∧ r ≤ zn s) ∧ ¬ (i < 0 ∨ (zK s r).2 ≤ i.toNatClampNeg)) ∧ (v = 0 ∨ v = 1) then some (zpI s r i.toNatClampNeg v) else none
def nO (s : zS) (c : Nat) : Option zS := if zal s = true then some (znew s c 0) else none
def nA (s : zS) (c : Nat) (n : Int32) (m : Nat) : Option zS := if zal s = true ∧ ¬ n < 0 ∧ n.toNatClampNeg ≤ m then some (znew s c n.toNatClampNeg) else none
def gd {α : Type} (P : Prop) [Decidable P] (o : Option α) : Option α := if P then o else none
/-- a call on role r of class c -/
def cl {α : Type} (s : zS) (c r : Nat) (o : Option α) : Option α := if (zK s r).1 = c ∧ 0 < r ∧ r ≤ zn s then o else none
def zmx (x y : Int32) : Int32 := if x < y then y else x
def zmn (x y : Int32) : Int32 := if y < x then y else x
def zab (x : Int32) : Int32 := if 0 ≤ x then x else 0 - x
def zfu : Nat := 100000
theorem bnd_i {α β : Type} {o : Option α} {f : α → Option β} {q : β} (h : bnd o f = some q) : ∃ x, o = some x ∧ f x = some q := by
  cases o with
  | none => cases h
  | some x => exact ⟨x, rfl, h⟩
theorem gd_i {α : Type} {P : Prop} [Decidable P] {o : Option α} {x : α} (h : gd P o = some x) : P ∧ o = some x := by
  unfold gd at h
  split at h
  · exact ⟨by assumption, h⟩
  · cases h
theorem ifp {α : Type} {P : Prop} [Decidable P] {a b q : α} (hc : P) (h : (if P then a else b) = q) : a = q := by rw [if_pos hc] at h; exact h
theorem ifn {α : Type} {P : Prop} [Decidable P] {a b q : α} (hc : ¬ P) (h : (if P then a else b) = q) : b = q := by rw [if_neg hc] at h; exact h
theorem opt_i {α : Type} {P : Prop} [Decidable P] {v x : α} (h : (if P then some v else none) = some x) : P ∧ v = x := by
  split at h
  · exact ⟨by assumption, Option.some.inj h⟩
  · cases h
theorem iI {β : Type} {s : zS} {c r k : Nat} {f : Int32 → Option β} {q : β} (h : bnd (qI s c r k) f = some q) : zok s c r ∧ ∃ x, zI s r k = x ∧ f x = some q := by
  obtain ⟨x, h1, h2⟩ := bnd_i h
  obtain ⟨h3, h4⟩ := opt_i h1
  exact ⟨h3, x, h4, h2⟩
theorem iR {β : Type} {s : zS} {c r k : Nat} {f : Nat → Option β} {q : β} (h : bnd (qR s c r k) f = some q) : zok s c r ∧ ∃ x, (zR s r k ≠ 0 ∧ zR s r k = x) ∧ f x = some q := by
  obtain ⟨x, h1, h2⟩ := bnd_i h
  obtain ⟨h3, h4⟩ := opt_i h1
  exact ⟨h3.1, x, ⟨h3.2, h4⟩, h2⟩
theorem iA {β : Type} {s : zS} {c r : Nat} {i : Int32} {f : Int32 → Option β} {q : β} (h : bnd (qA s c r i) f = some q) : (zok s c r ∧ vp_in i (zK s r).2) ∧ ∃ x, zI s r i.toNatClampNeg = x ∧ f x = some q := by
  obtain ⟨x, h1, h2⟩ := bnd_i h
  obtain ⟨h3, h4⟩ := opt_i h1
  exact ⟨h3, x, h4, h2⟩
theorem iL {β : Type} {s : zS} {c r : Nat} {f : Int32 → Option β} {q : β} (h : bnd (qL s c r) f = some q) : zok s c r ∧ ∃ x, nI (zK s r).2 = x ∧ f x = some q := by
  obtain ⟨x, h1, h2⟩ := bnd_i h
  obtain ⟨h3, h4⟩ := opt_i h1
  exact ⟨h3, x, h4, h2⟩
theorem jI {β : Type} {s : zS} {c r k : Nat} {v : Int32} {f : zS → Option β} {q : β} (h : bnd (wI s c r k v) f = some q) : zok s c r ∧ ∃ x, zpI s r k v = x ∧ f x = some q := by
  obtain ⟨x, h1, h2⟩ := bnd_i h
  obtain ⟨h3, h4⟩ := opt_i h1
  exact ⟨h3, x, h4, h2⟩
theorem jZ {β : Type} {s : zS} {c r k : Nat} {v : Int32} {f : zS → Option β} {q : β} (h : bnd (wZ s c r k v) f = some q) : (zok s c r ∧ zbl v) ∧ ∃ x, zpI s r k v = x ∧ f x = some q := by
  obtain ⟨x, h1, h2⟩ := bnd_i h
  obtain ⟨h3, h4⟩ := opt_i h1
  exact ⟨h3, x, h4, h2⟩
theorem jR {β : Type} {s : zS} {c r k v : Nat} {f : zS → Option β} {q : β} (h : bnd (wR s c r k v) f = some q) : (zok s c r ∧ v ≠ 0) ∧ ∃ x, zpR s r k v = x ∧ f x = some q := by
  obtain ⟨x, h1, h2⟩ := bnd_i h
  obtain ⟨h3, h4⟩ := opt_i h1
  exact ⟨h3, x, h4, h2⟩
theorem kI {β : Type} {s : zS} {r : Nat} {i v : Int32} {f : zS → Option β} {q : β} (h : bnd (uI s r i v) f = some q) : (zok s 12 r ∧ vp_in i (zK s r).2) ∧ ∃ x, zpI s r i.toNatClampNeg v = x ∧ f x = some q := by
  obtain ⟨x, h1, h2⟩ := bnd_i h
  obtain ⟨h3, h4⟩ := opt_i h1
  exact ⟨h3, x, h4, h2⟩
theorem kB {β : Type} {s : zS} {r : Nat} {i v : Int32} {f : zS → Option β} {q : β} (h : bnd (uB s r i v) f = some q) : (zok s 11 r ∧ vp_in i (zK s r).2) ∧ ∃ x, zpI s r i.toNatClampNeg v.toInt8.toInt32 = x ∧ f x = some q := by
  obtain ⟨x, h1, h2⟩ := bnd_i h
  obtain ⟨h3, h4⟩ := opt_i h1
  exact ⟨h3, x, h4, h2⟩
theorem kZ {β : Type} {s : zS} {r : Nat} {i v : Int32} {f : zS → Option β} {q : β} (h : bnd (uZ s r i v) f = some q) : ((zok s 13 r ∧ vp_in i (zK s r).2) ∧ zbl v) ∧ ∃ x, zpI s r i.toNatClampNeg v = x ∧ f x = some q := by
  obtain ⟨x, h1, h2⟩ := bnd_i h
  obtain ⟨h3, h4⟩ := opt_i h1
  exact ⟨h3, x, h4, h2⟩
theorem iNO {β : Type} {s : zS} {c : Nat} {f : zS → Option β} {q : β} (h : bnd (nO s c) f = some q) : zal s = true ∧ ∃ x, znew s c 0 = x ∧ f x = some q := by
  obtain ⟨x, h1, h2⟩ := bnd_i h
  obtain ⟨h3, h4⟩ := opt_i h1
  exact ⟨h3, x, h4, h2⟩
theorem iNA {β : Type} {s : zS} {c m : Nat} {n : Int32} {f : zS → Option β} {q : β} (h : bnd (nA s c n m) f = some q) : (zal s = true ∧ ¬ n < 0 ∧ n.toNatClampNeg ≤ m) ∧ ∃ x, znew s c n.toNatClampNeg = x ∧ f x = some q := by
  obtain ⟨x, h1, h2⟩ := bnd_i h
  obtain ⟨h3, h4⟩ := opt_i h1
  exact ⟨h3, x, h4, h2⟩
theorem iC {α β : Type} {s : zS} {c r : Nat} {o : Option α} {f : α → Option β} {q : β} (h : bnd (cl s c r o) f = some q) : zok s c r ∧ ∃ x, o = some x ∧ f x = some q := by
  obtain ⟨x, h1, h2⟩ := bnd_i h
  unfold cl at h1
  split at h1
  · exact ⟨by assumption, x, h1, h2⟩
  · cases h1
/-- what an int method does, what a void one does -/
def Ci (E : zE) (M : zM) (av : List Value) (s : zS) (x : Int32) (t : zS) : Prop := Ct E M av s (fun v u => v = some (.int x) ∧ u = t)
def Cv (E : zE) (M : zM) (av : List Value) (s : zS) (t : zS) : Prop := Ct E M av s (fun v u => v = none ∧ u = t)
def zRi (E : zE) (M : zM) (x : Int32) (t : zS) : zF := zR1 E M (fun v u => v = some (.int x) ∧ u = t)
def zRv (E : zE) (M : zM) (t : zS) : zF := zR1 E M (fun v u => v = none ∧ u = t)
section
variable {E : zE} {M : zM} {pc : Nat} {ls : List (Nat × Value)} {st : List Value} {s t : zS} {bud : Nat × Nat} {F : zF}
theorem y_getI {idx c k r : Nat} {x : Int32} (hF : zFL M.1.cls idx c k) (hd : decode M.2.1 pc = .ok (.getfield idx, 3)) (ht : zrt (zty c k) = false) (hr : zok s c r) (hx : zI s r k = x) (h : Z E M (pc + 3) ls (.int x :: st) s bud F) : Z E M pc ls (.ref r :: st) s bud F := z_getI hF hd ht hr (by rw [hx]; exact h)
theorem y_getR {idx c k r x : Nat} (hF : zFL M.1.cls idx c k) (hd : decode M.2.1 pc = .ok (.getfield idx, 3)) (ht : zrt (zty c k) = true) (hr : zok s c r) (hx : zR s r k ≠ 0 ∧ zR s r k = x) (h : Z E M (pc + 3) ls (.ref x :: st) s bud F) : Z E M pc ls (.ref r :: st) s bud F := z_getR hF hd ht hr hx.1 (by rw [hx.2]; exact h)
theorem y_putI {idx c k r : Nat} {x : Int32} (hF : zFL M.1.cls idx c k) (hd : decode M.2.1 pc = .ok (.putfield idx, 3)) (ht : zty c k = .int) (hw : zwr M c k) (hr : zok s c r) (hx : zpI s r k x = t) (h : Z E M (pc + 3) ls st t bud F) : Z E M pc ls (.int x :: .ref r :: st) s bud F := z_putI hF hd ht hw hr (by rw [hx]; exact h)
theorem y_putZ {idx c k r : Nat} {x : Int32} (hF : zFL M.1.cls idx c k) (hd : decode M.2.1 pc = .ok (.putfield idx, 3)) (ht : zty c k = .boolean) (hw : zwr M c k) (hr : zok s c r ∧ zbl x) (hx : zpI s r k x = t) (h : Z E M (pc + 3) ls st t bud F) : Z E M pc ls (.int x :: .ref r :: st) s bud F := z_putZ hF hd ht hw hr.1 hr.2 (by rw [hx]; exact h)
theorem y_putR {idx c k r v : Nat} (hF : zFL M.1.cls idx c k) (hd : decode M.2.1 pc = .ok (.putfield idx, 3)) (ht : zrt (zty c k) = true) (hw : zwr M c k) (hr : zok s c r ∧ v ≠ 0) (hx : zpR s r k v = t) (h : Z E M (pc + 3) ls st t bud F) : Z E M pc ls (.ref v :: .ref r :: st) s bud F := z_putR hF hd ht hw hr.1 hr.2 (by rw [hx]; exact h)
theorem y_iald {r : Nat} {i x : Int32} (hd : decode M.2.1 pc = .ok (.iaload, 1)) (hr : zok s 12 r ∧ vp_in i (zK s r).2) (hx : zI s r i.toNatClampNeg = x) (h : Z E M (pc + 1) ls (.int x :: st) s bud F) : Z E M pc ls (.int i :: .ref r :: st) s bud F := z_iald hd hr.1 hr.2 (by rw [hx]; exact h)
theorem y_bald {r : Nat} {i x : Int32} (hd : decode M.2.1 pc = .ok (.baload, 1)) (hr : zok s 11 r ∧ vp_in i (zK s r).2) (hx : zI s r i.toNatClampNeg = x) (h : Z E M (pc + 1) ls (.int x :: st) s bud F) : Z E M pc ls (.int i :: .ref r :: st) s bud F := z_bald hd hr.1 hr.2 (by rw [hx]; exact h)
theorem y_zald {r : Nat} {i x : Int32} (hd : decode M.2.1 pc = .ok (.baload, 1)) (hr : zok s 13 r ∧ vp_in i (zK s r).2) (hx : zI s r i.toNatClampNeg = x) (h : Z E M (pc + 1) ls (.int x :: st) s bud F) : Z E M pc ls (.int i :: .ref r :: st) s bud F := z_zald hd hr.1 hr.2 (by rw [hx]; exact h)
theorem y_alen {r c : Nat} {x : Int32} (hc1 : c = 11 ∨ c = 12 ∨ c = 13) (hd : decode M.2.1 pc = .ok (.arraylength, 1)) (hr : zok s c r) (hx : nI (zK s r).2 = x) (h : Z E M (pc + 1) ls (.int x :: st) s bud F) : Z E M pc ls (.ref r :: st) s bud F := z_alen hc1 hd hr (by rw [hx]; exact h)
theorem y_iast {r : Nat} {i x : Int32} (hd : decode M.2.1 pc = .ok (.iastore, 1)) (hr : zok s 12 r ∧ vp_in i (zK s r).2) (hx : zpI s r i.toNatClampNeg x = t) (h : Z E M (pc + 1) ls st t bud F) : Z E M pc ls (.int x :: .int i :: .ref r :: st) s bud F := z_iast hd hr.1 hr.2 (by rw [hx]; exact h)
theorem y_bast {r : Nat} {i x : Int32} (hd : decode M.2.1 pc = .ok (.bastore, 1)) (hr : zok s 11 r ∧ vp_in i (zK s r).2) (hx : zpI s r i.toNatClampNeg x.toInt8.toInt32 = t) (h : Z E M (pc + 1) ls st t bud F) : Z E M pc ls (.int x :: .int i :: .ref r :: st) s bud F := z_bast hd hr.1 hr.2 (by rw [hx]; exact h)
theorem y_zast {r : Nat} {i x : Int32} (hd : decode M.2.1 pc = .ok (.bastore, 1)) (hr : (zok s 13 r ∧ vp_in i (zK s r).2) ∧ zbl x) (hx : zpI s r i.toNatClampNeg x = t) (h : Z E M (pc + 1) ls st t bud F) : Z E M pc ls (.int x :: .int i :: .ref r :: st) s bud F := z_zast hd hr.1.1 hr.1.2 hr.2 (by rw [hx]; exact h)
theorem y_new {idx c b1 b2 : Nat} (hN : zNL M.1.cls idx c) (hd : decode M.2.1 pc = .ok (.new idx, 3)) (hal : zal s = true) (hb1 : b1 + 1 = bud.1) (hb2 : b2 + zN c = bud.2) (hx : znew s c 0 = t) (h : Z E M (pc + 3) ls (.ref (zn s + 1) :: st) t (b1, b2) F) : Z E M pc ls st s bud F := z_new hN hd hal (by omega) (by omega) (by rw [hx, show bud.1 - 1 = b1 by omega, show bud.2 - zN c = b2 by omega]; exact h)
theorem zRA_i (U : State) (cA : ClassId) (h : va_RA U cA .int) : U.vm.findClass ("[" ++ FieldType.int.toString) = some cA := h
theorem zRA_b (U : State) (cA : ClassId) (h : va_RA U cA .byte) : U.vm.findClass ("[" ++ FieldType.byte.toString) = some cA := h
theorem zRA_z (U : State) (cA : ClassId) (h : va_RA U cA .boolean) : U.vm.findClass ("[" ++ FieldType.boolean.toString) = some cA := h
theorem z_widen {b : Nat × Nat} (h1 : b.1 ≤ bud.1) (h2 : b.2 ≤ bud.2) (h : Z E M pc ls st s b F) : Z E M pc ls st s bud F := fun p e sx m args below meth c H locs cells slots la hC hH hl b1 b2 => h p e sx m args below meth c H locs cells slots la hC hH hl (by omega) (by omega)
theorem y_newI {n : Int32} {m b1 b2 : Nat} (hw : Cond.arrayClass .int ∈ zALL) (hd : decode M.2.1 pc = .ok (.newarray .int, 2)) (hm : m ≤ 10000) (hal : zal s = true ∧ ¬ n < 0 ∧ n.toNatClampNeg ≤ m) (hb1 : b1 + 1 = bud.1) (hb2 : b2 + m = bud.2) (hx : znew s 12 n.toNatClampNeg = t) (h : Z E M (pc + 2) ls (.ref (zn s + 1) :: st) t (b1, b2) F) : Z E M pc ls (.int n :: st) s bud F :=
  z_newarr (at0 := .int) (c := 12) (t0 := 1) hw rfl (by decide) (by decide) rfl (fun E => rfl) zRA_i hd hal.1 hal.2.1 (by show _ * 4 ≤ _; omega) (by omega) (by omega) (by rw [hx]; exact z_widen (b := (b1, b2)) (by show b1 ≤ bud.1 - 1; omega) (by show b2 ≤ bud.2 - _; omega) h)
theorem y_newB {n : Int32} {m b1 b2 : Nat} (hw : Cond.arrayClass .byte ∈ zALL) (hd : decode M.2.1 pc = .ok (.newarray .byte, 2)) (hm : m ≤ 10000) (hal : zal s = true ∧ ¬ n < 0 ∧ n.toNatClampNeg ≤ m) (hb1 : b1 + 1 = bud.1) (hb2 : b2 + m = bud.2) (hx : znew s 11 n.toNatClampNeg = t) (h : Z E M (pc + 2) ls (.ref (zn s + 1) :: st) t (b1, b2) F) : Z E M pc ls (.int n :: st) s bud F :=
  z_newarr (at0 := .byte) (c := 11) (t0 := 0) hw rfl (by decide) (by decide) rfl (fun E => rfl) zRA_b hd hal.1 hal.2.1 (by show _ * 1 ≤ _; omega) (by omega) (by omega) (by rw [hx]; exact z_widen (b := (b1, b2)) (by show b1 ≤ bud.1 - 1; omega) (by show b2 ≤ bud.2 - _; omega) h)
theorem y_newZ {n : Int32} {m b1 b2 : Nat} (hw : Cond.arrayClass .boolean ∈ zALL) (hd : decode M.2.1 pc = .ok (.newarray .boolean, 2)) (hm : m ≤ 10000) (hal : zal s = true ∧ ¬ n < 0 ∧ n.toNatClampNeg ≤ m) (hb1 : b1 + 1 = bud.1) (hb2 : b2 + m = bud.2) (hx : znew s 13 n.toNatClampNeg = t) (h : Z E M (pc + 2) ls (.ref (zn s + 1) :: st) t (b1, b2) F) : Z E M pc ls (.int n :: st) s bud F :=
  z_newarr (at0 := .boolean) (c := 13) (t0 := 2) hw rfl (by decide) (by decide) rfl (fun E => rfl) zRA_z hd hal.1 hal.2.1 (by show _ * 1 ≤ _; omega) (by omega) (by omega) (by rw [hx]; exact z_widen (b := (b1, b2)) (by show b1 ≤ bud.1 - 1; omega) (by show b2 ≤ bud.2 - _; omega) h)
theorem y_ret (hd : decode M.2.1 pc = .ok (.return_, 1)) (hr : M.2.2.2.1 = none) (h : some s = some t) : Z E M pc ls [] s bud (zRv E M t) := z_ret hd hr ⟨rfl, Option.some.inj h⟩
theorem y_iret {x : Int32} {q : Int32 × zS} (hd : decode M.2.1 pc = .ok (.ireturn, 1)) (hr : M.2.2.2.1 = some .int) (h : some (x, s) = some q) : Z E M pc ls [.int x] s bud (zRi E M q.1 q.2) := by cases h; exact z_iret hd hr ⟨rfl, rfl⟩
theorem y_zret {x : Int32} {q : Int32 × zS} (hd : decode M.2.1 pc = .ok (.ireturn, 1)) (hr : M.2.2.2.1 = some .boolean) (h : gd (x = 0 ∨ x = 1) (some (x, s)) = some q) : Z E M pc ls [.int x] s bud (zRi E M q.1 q.2) := by obtain ⟨h1, h2⟩ := gd_i h; cases h2; exact z_zret hd hr h1 ⟨rfl, rfl⟩
theorem y_V {M2 : zM} {idx c n r : Nat} {As stk : List Value} {t : zS} (hct : Cv E M2 (.ref r :: As) s t) (hm : zMV M2 c n) (hl : Cond.methodLink M.1.cls idx M2.1 ∈ zALL) (hd : decode M.2.1 pc = .ok (.invokevirtual idx, 3)) (hR : zrm_ok M M2) (h0 : M2.2.2.2.2.2.2 = (0, 0)) (hstk : stk = As.reverse ++ .ref r :: st) (hn : As.length = n) (hst : zrest st) (hr : zok s c r) (h : Z E M (pc + 3) ls st t bud F) : Z E M pc ls stk s bud F :=
  z_callV hct hm hl hd hR hstk hn hst (by rw [h0]; exact Nat.zero_le _) (by rw [h0]; exact Nat.zero_le _) hr (fun v u hq => by obtain ⟨rfl, rfl⟩ := hq; rw [h0]; exact h)
theorem y_Vi {M2 : zM} {idx c n r : Nat} {As stk : List Value} {q : Int32 × zS} (hct : Ci E M2 (.ref r :: As) s q.1 q.2) (hm : zMV M2 c n) (hl : Cond.methodLink M.1.cls idx M2.1 ∈ zALL) (hd : decode M.2.1 pc = .ok (.invokevirtual idx, 3)) (hR : zrm_ok M M2) (h0 : M2.2.2.2.2.2.2 = (0, 0)) (hstk : stk = As.reverse ++ .ref r :: st) (hn : As.length = n) (hst : zrest st) (hr : zok s c r) (h : Z E M (pc + 3) ls (.int q.1 :: st) q.2 bud F) : Z E M pc ls stk s bud F :=
  z_callV hct hm hl hd hR hstk hn hst (by rw [h0]; exact Nat.zero_le _) (by rw [h0]; exact Nat.zero_le _) hr (fun v u hq => by obtain ⟨rfl, rfl⟩ := hq; rw [h0]; exact h)
theorem y_Si {M2 : zM} {idx n : Nat} {As stk : List Value} {q : Int32 × zS} (hct : Ci E M2 As s q.1 q.2) (hm : zMl M2 n) (hms : Cond.static M2.1 ∈ zALL) (hl : Cond.methodLink M.1.cls idx M2.1 ∈ zALL) (hd : decode M.2.1 pc = .ok (.invokestatic idx, 3)) (hR : zrm_ok M M2) (h0 : M2.2.2.2.2.2.2 = (0, 0)) (hstk : stk = As.reverse ++ st) (hn : As.length = n) (hst : zrest st) (h : Z E M (pc + 3) ls (.int q.1 :: st) q.2 bud F) : Z E M pc ls stk s bud F :=
  z_callS hct hm hms hl hd hR hstk hn hst (by rw [h0]; exact Nat.zero_le _) (by rw [h0]; exact Nat.zero_le _) (fun v u hq => by obtain ⟨rfl, rfl⟩ := hq; rw [h0]; exact h)
theorem y_S {M2 : zM} {idx n : Nat} {As stk : List Value} {t : zS} (hct : Cv E M2 As s t) (hm : zMl M2 n) (hms : Cond.static M2.1 ∈ zALL) (hl : Cond.methodLink M.1.cls idx M2.1 ∈ zALL) (hd : decode M.2.1 pc = .ok (.invokestatic idx, 3)) (hR : zrm_ok M M2) (h0 : M2.2.2.2.2.2.2 = (0, 0)) (hstk : stk = As.reverse ++ st) (hn : As.length = n) (hst : zrest st) (h : Z E M (pc + 3) ls st t bud F) : Z E M pc ls stk s bud F :=
  z_callS hct hm hms hl hd hR hstk hn hst (by rw [h0]; exact Nat.zero_le _) (by rw [h0]; exact Nat.zero_le _) (fun v u hq => by obtain ⟨rfl, rfl⟩ := hq; rw [h0]; exact h)
theorem y_SNi {M2 : zM} {idx n : Nat} {As stk : List Value} {q : Int32 × zS} (hct : Ci E M2 As s q.1 q.2) (hm : zMl M2 n) (hms : Cond.static M2.1 ∈ zALL) (hl : ∀ (E : zE) (U : State), zX E U → va_Nw (.methodLinkNest M.1.cls idx M2.1 RX9) U) (hd : decode M.2.1 pc = .ok (.invokestatic idx, 3)) (hR : zrm_ok M M2) (h0 : M2.2.2.2.2.2.2 = (0, 0)) (hstk : stk = As.reverse ++ st) (hn : As.length = n) (hst : zrest st) (h : Z E M (pc + 3) ls (.int q.1 :: st) q.2 bud F) : Z E M pc ls stk s bud F :=
  z_callSN hct hm hms hl hd hR hstk hn hst (by rw [h0]; exact Nat.zero_le _) (by rw [h0]; exact Nat.zero_le _) (fun v u hq => by obtain ⟨rfl, rfl⟩ := hq; rw [h0]; exact h)
theorem y_I {M2 : zM} {idx n r b1 b2 : Nat} {As stk : List Value} {t : zS} (hct : Cv E M2 (.ref r :: As) s t) (hm : zMl M2 n) (hmi : Cond.instanceMethod M2.1 ∈ zALL) (hnm : M2.1.name = "<init>") (hrt : M2.2.2.2.1 = none) (hl : Cond.methodLink M.1.cls idx M2.1 ∈ zALL) (hd : decode M.2.1 pc = .ok (.invokespecial idx, 3)) (hR : zrm_ok M M2) (hstk : stk = As.reverse ++ .ref r :: st) (hn : As.length = n) (hst : zrest st) (hb1 : b1 + M2.2.2.2.2.2.2.1 = bud.1) (hb2 : b2 + M2.2.2.2.2.2.2.2 = bud.2) (h : Z E M (pc + 3) ls st t (b1, b2) F) : Z E M pc ls stk s bud F :=
  z_callI hct hm hmi hnm hrt hl hd hR hstk hn hst (by omega) (by omega) (fun v u hq => by obtain ⟨rfl, rfl⟩ := hq; rw [show bud.1 - M2.2.2.2.2.2.2.1 = b1 by omega, show bud.2 - M2.2.2.2.2.2.2.2 = b2 by omega]; exact h)
theorem y_IN {M2 : zM} {idx n r b1 b2 : Nat} {As stk : List Value} {t : zS} (hct : Cv E M2 (.ref r :: As) s t) (hm : zMl M2 n) (hmi : Cond.instanceMethod M2.1 ∈ zALL) (hnm : M2.1.name = "<init>") (hrt : M2.2.2.2.1 = none) (hl : ∀ (E : zE) (U : State), zX E U → va_Nw (.methodLinkNest M.1.cls idx M2.1 RX9) U) (hd : decode M.2.1 pc = .ok (.invokespecial idx, 3)) (hR : zrm_ok M M2) (hstk : stk = As.reverse ++ .ref r :: st) (hn : As.length = n) (hst : zrest st) (hb1 : b1 + M2.2.2.2.2.2.2.1 = bud.1) (hb2 : b2 + M2.2.2.2.2.2.2.2 = bud.2) (h : Z E M (pc + 3) ls st t (b1, b2) F) : Z E M pc ls stk s bud F :=
  z_callIN hct hm hmi hnm hrt hl hd hR hstk hn hst (by omega) (by omega) (fun v u hq => by obtain ⟨rfl, rfl⟩ := hq; rw [show bud.1 - M2.2.2.2.2.2.2.1 = b1 by omega, show bud.2 - M2.2.2.2.2.2.2.2 = b2 by omega]; exact h)
theorem zrest0 : zrest [] := fun _ => by simp
end
end
section
/-! Texts: the String constants "p", "cnf", "d" (places 0, 1, 2), and what the JDK's own methods answer of them. -/
def sLn (k : Nat) (s : zS) : Option (Int32 × zS) := if k < 3 then some (nI (zlen.getD k 0), s) else none
def sCh (k : Nat) (i : Int32) (s : zS) : Option (Int32 × zS) := if k < 3 ∧ ¬ (i < 0 ∨ zlen.getD k 0 ≤ i.toNatClampNeg) then some (((((zbyt.getD k []).getD i.toNatClampNeg 0) &&& 255).toUInt32 % 65536).toInt32, s) else none
theorem sLn_lt {k : Nat} {s : zS} {q : Int32 × zS} (h : sLn k s = some q) : k < 3 := (opt_i h).1
theorem sCh_lt {k : Nat} {i : Int32} {s : zS} {q : Int32 × zS} (h : sCh k i s = some q) : k < 3 := (opt_i h).1.1
def zMT (M2 : zM) (n : Nat) : Prop := zMl M2 n ∧ Cond.instanceMethod M2.1 ∈ zALL ∧ Cond.selects "java/lang/String" M2.1 M2.1 ∈ zALL
section
variable {E : zE} {M : zM} {pc : Nat} {ls : List (Nat × Value)} {st : List Value} {s : zS} {bud : Nat × Nat} {F : zF}
theorem z_ldcS {idx k : Nat} {tx : String} (hl : ∀ (E : zE) (U : State), zX E U → vk_R M.1.cls idx tx (zaS E k) U) (hd : decode M.2.1 pc = .ok (.ldc idx, 2)) (h : Z E M (pc + 2) ls (.retAddr k :: st) s bud F) : Z E M pc ls st s bud F :=
  fun p e sx m args below meth c H locs cells slots la hC hH hv b1 b2 => va_ldcS hC.1 hC.2.1 hC.2.2.2.2.1 (hl E sx hC.2.2.2.2.2.2.2.2.1.2.2) hd (h p e sx m args below meth c H locs cells slots la hC hH hv b1 b2)
theorem z_i2c {x : Int32} (hd : decode M.2.1 pc = .ok (.i2c, 1)) (h : Z E M (pc + 1) ls (.int ((x.toUInt32 % 65536).toInt32) :: st) s bud F) : Z E M pc ls (.int x :: st) s bud F :=
  fun p e sx m args below meth c H locs cells slots la hC hH hl b1 b2 => lv_i2c hC.1 hC.2.1 hd rfl (h p e sx m args below meth c H locs cells slots la hC hH hl b1 b2)
theorem z_tval {idx k : Nat} (hk : k < 3) (hw : Cond.fieldLink M.1.cls idx "java/lang/String" "value" "[B" ∈ zALL) (hd : decode M.2.1 pc = .ok (.getfield idx, 3)) (h : Z E M (pc + 3) ls (.retAddr (100 + k) :: st) s bud F) : Z E M pc ls (.retAddr k :: st) s bud F :=
  fun p e sx m args below meth c H locs cells slots la hC hH hl b1 b2 => vk_getf hC.1 hC.2.1 (hC.2.2.2.2.2.2.2.2.1.2.2.1.1 k hk).2.2.1 hH.2.2.1 hC.2.2.2.2.1 (hC.2.2.2.2.2.1 _ hw) (fun _ q => q) hd (h p e sx m args below meth c H locs cells slots la hC hH hl b1 b2)
theorem z_tcod {idx k : Nat} (hk : k < 3) (hw : Cond.fieldLink M.1.cls idx "java/lang/String" "coder" "B" ∈ zALL) (hd : decode M.2.1 pc = .ok (.getfield idx, 3)) (h : Z E M (pc + 3) ls (.int 0 :: st) s bud F) : Z E M pc ls (.retAddr k :: st) s bud F :=
  fun p e sx m args below meth c H locs cells slots la hC hH hl b1 b2 => vk_getf hC.1 hC.2.1 (hC.2.2.2.2.2.2.2.2.1.2.2.1.1 k hk).2.1 hH.2.2.1 hC.2.2.2.2.1 (hC.2.2.2.2.2.1 _ hw) (fun _ q => q) hd (h p e sx m args below meth c H locs cells slots la hC hH hl b1 b2)
theorem z_tlen {k : Nat} (hk : k < 3) (hd : decode M.2.1 pc = .ok (.arraylength, 1)) (h : Z E M (pc + 1) ls (.int (nI (zlen.getD k 0)) :: st) s bud F) : Z E M pc ls (.retAddr (100 + k) :: st) s bud F :=
  fun p e sx m args below meth c H locs cells slots la hC hH hl b1 b2 => va_tlen hC.1 hC.2.1 (hC.2.2.2.2.2.2.2.2.1.2.2.1.1 k hk).2.2.2 hH.2.2.1 rfl hd (h p e sx m args below meth c H locs cells slots la hC hH hl b1 b2)
theorem z_tald {k : Nat} {i : Int32} (hk : k < 3) (hi : vp_in i (zlen.getD k 0)) (hd : decode M.2.1 pc = .ok (.baload, 1)) (h : Z E M (pc + 1) ls (.int ((zbyt.getD k []).getD i.toNatClampNeg 0) :: st) s bud F) : Z E M pc ls (.int i :: .retAddr (100 + k) :: st) s bud F :=
  fun p e sx m args below meth c H locs cells slots la hC hH hl b1 b2 => va_tb hC.1 hC.2.1 (hC.2.2.2.2.2.2.2.2.1.2.2.1.1 k hk).2.2.2 hH.2.2.1 hi rfl hd (h p e sx m args below meth c H locs cells slots la hC hH hl b1 b2)
theorem z_tcs {idx : Nat} (hw : Cond.fieldLink M.1.cls idx "java/lang/String" "COMPACT_STRINGS" "Z" ∈ zALL) (hd : decode M.2.1 pc = .ok (.getstatic idx, 3)) (h : Z E M (pc + 3) ls (.int 1 :: st) s bud F) : Z E M pc ls st s bud F :=
  fun p e sx m args below meth c H locs cells slots la hC hH hl b1 b2 => va_gets hC.1 hC.2.1 hC.2.2.2.2.2.2.2.2.1.2.2.2.2.2.1 hH.2.2.1 hC.2.2.2.2.1 (hC.2.2.2.2.2.1 _ hw) (fun _ q => q) hd (h p e sx m args below meth c H locs cells slots la hC hH hl b1 b2)
theorem z_tsi {idx : Nat} (hw : Cond.fieldLink M.1.cls idx "jdk/internal/util/Preconditions" "SIOOBE_FORMATTER" "Ljava/util/function/BiFunction;" ∈ zALL) (hd : decode M.2.1 pc = .ok (.getstatic idx, 3)) (h : ∀ v : Value, v = .null ∨ v = .retAddr 200 → Z E M (pc + 3) ls (v :: st) s bud F) : Z E M pc ls st s bud F :=
  fun p e sx m args below meth c H locs cells slots la hC hH hl b1 b2 => by
    rcases hC.2.2.2.2.2.2.2.2.1.2.2.2.2.2.2.2.2.2 with hZ | hZ
    · exact va_gets hC.1 hC.2.1 hZ hH.2.2.1 hC.2.2.2.2.1 (hC.2.2.2.2.2.1 _ hw) (fun _ q => q) hd (h .null (Or.inl rfl) p e sx m args below meth c H locs cells slots la hC hH hl b1 b2)
    · exact va_gets hC.1 hC.2.1 hZ hH.2.2.1 hC.2.2.2.2.1 (hC.2.2.2.2.2.1 _ hw) (fun _ q => q) hd (h (.retAddr 200) (Or.inr rfl) p e sx m args below meth c H locs cells slots la hC hH hl b1 b2)
theorem z_tret {Q : Option Value → zS → Prop} {x : Int32} {ty : FieldType} (hd : decode M.2.1 pc = .ok (.ireturn, 1)) (hr : M.2.2.2.1 = some ty) (hn : narrow ty (.int x) = .int x) (h : Q (some (.int x)) s) : Z E M pc ls [.int x] s bud (zR1 E M Q) := by
  intro p e sx m args below meth c H locs cells slots la hC hH hl b1 b2
  refine W.widen (k := M.2.2.2.2.2.2.1) (n := M.2.2.2.2.2.2.2) (by omega) (by omega) ?_
  exact W.zret (ty := ty) hC.1 hC.2.1 (hC.2.2.1.trans hr) hn (fun t ht hW => ⟨⟨some (.int x), s, rfl, h, by rw [ht]; exact hH.1, hH.2.1, fun q => by rw [ht]; exact hH.2.2.2 q⟩, hH.2.2.1.F ht⟩) hH.2.2.1.2.2 hd hC.2.2.2.2.2.2.1
theorem z_callVT {M2 : zM} {Q : Option Value → zS → Prop} {idx n k : Nat} {As stk : List Value} (hct : Ct E M2 (.retAddr k :: As) s Q) (hm : zMT M2 n) (hl : Cond.methodLink M.1.cls idx M2.1 ∈ zALL) (hd : decode M.2.1 pc = .ok (.invokevirtual idx, 3)) (hR : zrm_ok M M2) (hstk : stk = As.reverse ++ .retAddr k :: st) (hn : As.length = n) (hst : zrest st) (hb1 : M2.2.2.2.2.2.2.1 ≤ bud.1) (hb2 : M2.2.2.2.2.2.2.2 ≤ bud.2) (hk : k < 3)
    (h : ∀ (v : Option Value) (t : zS), Q v t → Z E M (pc + 3) ls (v.toList ++ st) t (bud.1 - M2.2.2.2.2.2.2.1, bud.2 - M2.2.2.2.2.2.2.2) F) : Z E M pc ls stk s bud F := by
  subst hstk
  intro p e sx m args below meth c0 H locs cells slots la hC hH hv b1 b2
  have hts := hC.2.2.2.2.2.1
  obtain ⟨hm1, hm2, hm3⟩ := hm
  have R1 := va_runV (p := p) (e := e) (below := below) (meth := meth) (locs := locs) (cells := cells) (slots := slots) (g := F0 m pc la ((As.reverse ++ .retAddr k :: st).map (zv E))) (As := As.map (zv E)) (rest := st.map (zv E)) (b := zaS E k) (n := n) (C := "java/lang/String") ⟨hC.1, hC.2.1, hC.2.2.2.1, hC.2.2.2.2.1, hts⟩ hct ⟨zCallB hm1 hl hR hts, hts _ hm2, hts _ hm3⟩ ⟨zP.blind, vk_recv hC.2.2.2.2.2.2.2.2.1.2.2.1 hk hH.2.2.1, fun U hU hW => ⟨rfl, zP.of hH hC.2.2.2.2.2.2.2.2.1 hU hW⟩⟩ rfl (by rw [List.length_map]; exact hn) hv.1 (by simp [zv]) (lv_room (hst E)) hd ⟨show cells + _ ≤ M.2.2.2.2.2.2.1 by omega, show slots + _ ≤ M.2.2.2.2.2.2.2 by omega⟩
  exact z_run R1 hC hH hv b1 b2 hb1 hb2 h
theorem y_VTi {M2 : zM} {idx n k : Nat} {As stk : List Value} {q : Int32 × zS} (hct : Ci E M2 (.retAddr k :: As) s q.1 q.2) (hm : zMT M2 n) (hl : Cond.methodLink M.1.cls idx M2.1 ∈ zALL) (hd : decode M.2.1 pc = .ok (.invokevirtual idx, 3)) (hR : zrm_ok M M2) (h0 : M2.2.2.2.2.2.2 = (0, 0)) (hstk : stk = As.reverse ++ .retAddr k :: st) (hn : As.length = n) (hst : zrest st) (hk : k < 3) (h : Z E M (pc + 3) ls (.int q.1 :: st) q.2 bud F) : Z E M pc ls stk s bud F :=
  z_callVT hct hm hl hd hR hstk hn hst (by rw [h0]; exact Nat.zero_le _) (by rw [h0]; exact Nat.zero_le _) hk (fun v u hq => by obtain ⟨rfl, rfl⟩ := hq; rw [h0]; exact h)
end
/-! the JDK's methods -/
abbrev mJ0_coder_7d493 : zM := (yJ0_coder_7d493, cJ0_coder_7d493, 1, some .byte, 0, 0, 0, 0)
abbrev mJ0_isLatin1_aae02 : zM := (yJ0_isLatin1_aae02, cJ0_isLatin1_aae02, 1, some .boolean, 0, 0, 0, 0)
abbrev mJ3_checkIndex_8e157 : zM := (yJ3_checkIndex_8e157, cJ3_checkIndex_8e157, 3, some .int, 0, 0, 0, 0)
abbrev mJ0_checkIndex_df160 : zM := (yJ0_checkIndex_df160, cJ0_checkIndex_df160, 2, none, 1, 22, 0, 0)
abbrev mJ1_charAt_3b067 : zM := (yJ1_charAt_3b067, cJ1_charAt_3b067, 2, some .char, 2, 43, 0, 0)
abbrev mJ0_length_8abf5 : zM := (yJ0_length_8abf5, cJ0_length_8abf5, 1, some .int, 1, 20, 0, 0)
abbrev mJ0_charAt_5068e : zM := (yJ0_charAt_5068e, cJ0_charAt_5068e, 2, some .char, 3, 64, 0, 0)
theorem tl_v : Cond.fieldLink RJ0 9 "java/lang/String" "value" "[B" ∈ zALL := by decide +kernel
theorem tl_c : Cond.fieldLink RJ0 15 "java/lang/String" "coder" "B" ∈ zALL := by decide +kernel
theorem tl_s : Cond.fieldLink RJ0 38 "java/lang/String" "COMPACT_STRINGS" "Z" ∈ zALL := by decide +kernel
theorem tl_f : Cond.fieldLink RJ0 1053 "jdk/internal/util/Preconditions" "SIOOBE_FORMATTER" "Ljava/util/function/BiFunction;" ∈ zALL := by decide +kernel
theorem mtJ0_coder : zMT mJ0_coder_7d493 0 := ⟨⟨by decide +kernel, by decide +kernel, by decide, by decide, by decide +kernel⟩, by decide +kernel, by decide +kernel⟩
theorem mtJ0_isLatin1 : zMT mJ0_isLatin1_aae02 0 := ⟨⟨by decide +kernel, by decide +kernel, by decide, by decide, by decide +kernel⟩, by decide +kernel, by decide +kernel⟩
theorem mtJ0_length_8abf5 : zMT mJ0_length_8abf5 0 := ⟨⟨by decide +kernel, by decide +kernel, by decide, by decide, by decide +kernel⟩, by decide +kernel, by decide +kernel⟩
theorem mtJ0_charAt_5068e : zMT mJ0_charAt_5068e 1 := ⟨⟨by decide +kernel, by decide +kernel, by decide, by decide, by decide +kernel⟩, by decide +kernel, by decide +kernel⟩
theorem mqJ3_ck : zMl mJ3_checkIndex_8e157 3 := ⟨by decide +kernel, by decide +kernel, by decide, by decide, by decide +kernel⟩
theorem mqJ0_ck : zMl mJ0_checkIndex_df160 2 := ⟨by decide +kernel, by decide +kernel, by decide, by decide, by decide +kernel⟩
theorem mqJ1_ch : zMl mJ1_charAt_3b067 2 := ⟨by decide +kernel, by decide +kernel, by decide, by decide, by decide +kernel⟩
theorem msJ3_ck : Cond.static yJ3_checkIndex_8e157 ∈ zALL := by decide +kernel
theorem msJ0_ck : Cond.static yJ0_checkIndex_df160 ∈ zALL := by decide +kernel
theorem msJ1_ch : Cond.static yJ1_charAt_3b067 ∈ zALL := by decide +kernel
theorem mlJ0_335 : Cond.methodLink RJ0 335 yJ0_coder_7d493 ∈ zALL := by decide +kernel
theorem mlJ0_492 : Cond.methodLink RJ0 492 yJ0_isLatin1_aae02 ∈ zALL := by decide +kernel
theorem mlJ0_495 : Cond.methodLink RJ0 495 yJ1_charAt_3b067 ∈ zALL := by decide +kernel
theorem mlJ1_9 : Cond.methodLink RJ1 9 yJ0_checkIndex_df160 ∈ zALL := by decide +kernel
theorem mlJ0_1059 : Cond.methodLink RJ0 1059 yJ3_checkIndex_8e157 ∈ zALL := by decide +kernel
theorem zsh0 (x : Int32) : x >>> ((0 : Int32) &&& 31) = x := sb_shr0 x
section
variable {E : zE} {s : zS}
theorem okJ0_coder {k : Nat} (hk : k < 3) : Ci E mJ0_coder_7d493 [.retAddr k] s 0 s := by
  refine Ct.of (ls := [(0, .retAddr k)]) (by decide) rfl (Nat.le_of_ble_eq_true rfl) ?_
  refine z_tcs (pc := 0) tl_s dJ0_coder_7d493_0 ?_
  refine z_if_eq (pc := 3) (tgt := 13) dJ0_coder_7d493_3 (by decide) (fun hc => absurd hc (by decide)) (fun _ => ?_)
  refine z_tload_n (pc := 6) 0 rfl dJ0_coder_7d493_6 rfl ?_
  refine z_tcod (pc := 7) hk tl_c dJ0_coder_7d493_7 ?_
  refine z_goto (pc := 10) (tgt := 14) dJ0_coder_7d493_10 (by decide) ?_
  exact z_tret (pc := 14) dJ0_coder_7d493_14 rfl rfl ⟨rfl, rfl⟩
theorem okJ0_isLatin1 {k : Nat} (hk : k < 3) : Ci E mJ0_isLatin1_aae02 [.retAddr k] s 1 s := by
  refine Ct.of (ls := [(0, .retAddr k)]) (by decide) rfl (Nat.le_of_ble_eq_true rfl) ?_
  refine z_tcs (pc := 0) tl_s dJ0_isLatin1_aae02_0 ?_
  refine z_if_eq (pc := 3) (tgt := 17) dJ0_isLatin1_aae02_3 (by decide) (fun hc => absurd hc (by decide)) (fun _ => ?_)
  refine z_tload_n (pc := 6) 0 rfl dJ0_isLatin1_aae02_6 rfl ?_
  refine z_tcod (pc := 7) hk tl_c dJ0_isLatin1_aae02_7 ?_
  refine z_if_ne (pc := 10) (tgt := 17) dJ0_isLatin1_aae02_10 (by decide) (fun hc => absurd rfl hc) (fun _ => ?_)
  refine z_iconst (pc := 13) (v := 1) dJ0_isLatin1_aae02_13 (by decide) ?_
  refine z_goto (pc := 14) (tgt := 18) dJ0_isLatin1_aae02_14 (by decide) ?_
  exact z_tret (pc := 18) dJ0_isLatin1_aae02_18 rfl rfl ⟨rfl, rfl⟩
theorem ok_sLn {k : Nat} {q : Int32 × zS} (h : sLn k s = some q) : Ci E mJ0_length_8abf5 [.retAddr k] s q.1 q.2 := by
  obtain ⟨hk, rfl⟩ := opt_i h
  refine Ct.of (ls := [(0, .retAddr k)]) (by decide) rfl (Nat.le_of_ble_eq_true rfl) ?_
  refine z_tload_n (pc := 0) 0 rfl dJ0_length_8abf5_0 rfl ?_
  refine z_tval (pc := 1) hk tl_v dJ0_length_8abf5_1 ?_
  refine z_tlen (pc := 4) hk dJ0_length_8abf5_4 ?_
  refine z_tload_n (pc := 5) 0 rfl dJ0_length_8abf5_5 rfl ?_
  refine y_VTi (pc := 6) (M2 := mJ0_coder_7d493) (As := []) (q := (0, s)) (okJ0_coder hk) mtJ0_coder mlJ0_335 dJ0_length_8abf5_6 ⟨by decide, by decide⟩ rfl rfl rfl (fun _ => Nat.le_of_ble_eq_true rfl) hk ?_
  refine z_ishr (pc := 9) dJ0_length_8abf5_9 ?_
  rw [zsh0]
  exact z_iret (pc := 10) dJ0_length_8abf5_10 rfl ⟨rfl, rfl⟩
theorem okJ3_ck {v : Value} (hv : v = .null ∨ v = .retAddr 200) {i n : Int32} (h1 : ¬ i < 0) (h2 : i < n) : Ci E mJ3_checkIndex_8e157 [.int i, .int n, v] s i s := by
  have hcat : ∀ E : zE, lv_args 0 ([Value.int i, .int n, v].map (zv E)) = [(0, Value.int i), (1, .int n), (2, v)].map (zlv E) ∧ (lg_sl ([Value.int i, .int n, v].map (zv E))).length ≤ 3 := by
    intro E
    rcases hv with rfl | rfl <;> exact ⟨rfl, Nat.le_of_ble_eq_true rfl⟩
  refine Ct.of (ls := [(0, .int i), (1, .int n), (2, v)]) (by decide) (hcat E).1 (hcat E).2 ?_
  refine z_iload_n (pc := 0) 0 rfl dJ3_checkIndex_8e157_0 rfl ?_
  refine z_if_lt (pc := 1) (tgt := 9) dJ3_checkIndex_8e157_1 (by decide) (fun hc => absurd hc h1) (fun _ => ?_)
  refine z_iload_n (pc := 4) 0 rfl dJ3_checkIndex_8e157_4 rfl ?_
  refine z_iload_n (pc := 5) 1 rfl dJ3_checkIndex_8e157_5 rfl ?_
  refine z_icmp_lt (pc := 6) (tgt := 16) dJ3_checkIndex_8e157_6 (by decide) (fun _ => ?_) (fun hc => absurd h2 hc)
  refine z_iload_n (pc := 16) 0 rfl dJ3_checkIndex_8e157_16 rfl ?_
  exact z_iret (pc := 17) dJ3_checkIndex_8e157_17 rfl ⟨rfl, rfl⟩
theorem okJ0_ck {i n : Int32} (h1 : ¬ i < 0) (h2 : i < n) : Cv E mJ0_checkIndex_df160 [.int i, .int n] s s := by
  refine Ct.of (ls := [(0, .int i), (1, .int n)]) (by decide) rfl (Nat.le_of_ble_eq_true rfl) ?_
  refine z_iload_n (pc := 0) 0 rfl dJ0_checkIndex_df160_0 rfl ?_
  refine z_iload_n (pc := 1) 1 rfl dJ0_checkIndex_df160_1 rfl ?_
  refine z_tsi (pc := 2) tl_f dJ0_checkIndex_df160_2 (fun v hv => ?_)
  refine y_Si (pc := 5) (M2 := mJ3_checkIndex_8e157) (As := [.int i, .int n, v]) (q := (i, s)) (okJ3_ck hv h1 h2) mqJ3_ck msJ3_ck mlJ0_1059 dJ0_checkIndex_df160_5 ⟨by decide, by decide⟩ rfl rfl rfl zrest0 ?_
  refine z_pop (pc := 8) dJ0_checkIndex_df160_8 (fun _ => rfl) ?_
  exact z_ret (pc := 9) dJ0_checkIndex_df160_9 rfl ⟨rfl, rfl⟩
theorem okJ1_ch {k : Nat} (hk : k < 3) {i : Int32} (hi : vp_in i (zlen.getD k 0)) : Ci E mJ1_charAt_3b067 [.retAddr (100 + k), .int i] s ((((zbyt.getD k []).getD i.toNatClampNeg 0) &&& 255).toUInt32 % 65536).toInt32 s := by
  have hL : zlen.getD k 0 < 2 ^ 31 := by
    match k, hk with
    | 0, _ => decide
    | 1, _ => decide
    | 2, _ => decide
  obtain ⟨j, hj, rfl⟩ := vp_in_of hi hL
  have h1 : ¬ nI j < 0 := nI_pos (by omega)
  have h2 : nI j < nI (zlen.getD k 0) := nI_lt hj hL
  refine Ct.of (ls := [(0, .retAddr (100 + k)), (1, .int (nI j))]) (by decide) rfl (Nat.le_of_ble_eq_true rfl) ?_
  refine z_iload_n (pc := 0) 1 rfl dJ1_charAt_3b067_0 rfl ?_
  refine z_tload_n (pc := 1) 0 rfl dJ1_charAt_3b067_1 rfl ?_
  refine z_tlen (pc := 2) hk dJ1_charAt_3b067_2 ?_
  refine y_S (pc := 3) (M2 := mJ0_checkIndex_df160) (As := [.int (nI j), .int (nI (zlen.getD k 0))]) (okJ0_ck h1 h2) mqJ0_ck msJ0_ck mlJ1_9 dJ1_charAt_3b067_3 ⟨by decide, by decide⟩ rfl rfl rfl zrest0 ?_
  refine z_tload_n (pc := 6) 0 rfl dJ1_charAt_3b067_6 rfl ?_
  refine z_iload_n (pc := 7) 1 rfl dJ1_charAt_3b067_7 rfl ?_
  refine z_tald (pc := 8) hk hi dJ1_charAt_3b067_8 ?_
  refine z_sipush (pc := 9) (v := 255) dJ1_charAt_3b067_9 (by decide) ?_
  refine z_iand (pc := 12) dJ1_charAt_3b067_12 ?_
  refine z_i2c (pc := 13) dJ1_charAt_3b067_13 ?_
  exact z_tret (pc := 14) dJ1_charAt_3b067_14 rfl (pk_nc _) ⟨rfl, rfl⟩
theorem ok_sCh {k : Nat} {i : Int32} {q : Int32 × zS} (h : sCh k i s = some q) : Ci E mJ0_charAt_5068e [.retAddr k, .int i] s q.1 q.2 := by
  obtain ⟨⟨hk, hi⟩, rfl⟩ := opt_i h
  refine Ct.of (ls := [(0, .retAddr k), (1, .int i)]) (by decide) rfl (Nat.le_of_ble_eq_true rfl) ?_
  refine z_tload_n (pc := 0) 0 rfl dJ0_charAt_5068e_0 rfl ?_
  refine y_VTi (pc := 1) (M2 := mJ0_isLatin1_aae02) (As := []) (q := (1, s)) (okJ0_isLatin1 hk) mtJ0_isLatin1 mlJ0_492 dJ0_charAt_5068e_1 ⟨by decide, by decide⟩ rfl rfl rfl zrest0 hk ?_
  refine z_if_eq (pc := 4) (tgt := 16) dJ0_charAt_5068e_4 (by decide) (fun hc => absurd (show (1 : Int32) = 0 from hc) (by decide)) (fun _ => ?_)
  refine z_tload_n (pc := 7) 0 rfl dJ0_charAt_5068e_7 rfl ?_
  refine z_tval (pc := 8) hk tl_v dJ0_charAt_5068e_8 ?_
  refine z_iload_n (pc := 11) 1 rfl dJ0_charAt_5068e_11 rfl ?_
  refine y_Si (pc := 12) (M2 := mJ1_charAt_3b067) (As := [.retAddr (100 + k), .int i]) (q := (_, s)) (okJ1_ch hk hi) mqJ1_ch msJ1_ch mlJ0_495 dJ0_charAt_5068e_12 ⟨by decide, by decide⟩ rfl rfl rfl zrest0 ?_
  exact z_tret (pc := 15) dJ0_charAt_5068e_15 rfl (pk_nc _) ⟨rfl, rfl⟩
end
end
