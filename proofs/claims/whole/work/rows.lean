section
-- ===== PART A: goes FIRST, ahead of the names: the tables' words, and 'selects' of the private methods out of them =====
/-- a private method of a class that the tables say can be made, by its rows of tables_1 -/
def lw_okq (q : MethodName × Nat) : Prop := (q.1.cls ≠ "java/lang/invoke/MethodHandle" ∧ q.1.cls ≠ "java/lang/invoke/VarHandle") ∧ Cond.instantiable q.1.cls q.2 ∈ tables_1 ∧ Cond.privateMethod q.1 ∈ tables_1 ∧ Cond.instanceMethod q.1 ∈ tables_1
theorem lw_p0 : lw_okq (⟨"PolicyText$Reader", "begin", "(LPolicyText$Policy;)V"⟩, 15) := ⟨⟨by decide +kernel, by decide +kernel⟩, List.mem_of_getElem? (i := 92) (by decide +kernel), List.mem_of_getElem? (i := 261) (by decide +kernel), List.mem_of_getElem? (i := 262) (by decide +kernel)⟩
theorem lw_p1 : lw_okq (⟨"PolicyText$Tokens", "takeWord", "()V"⟩, 6) := ⟨⟨by decide +kernel, by decide +kernel⟩, List.mem_of_getElem? (i := 98) (by decide +kernel), List.mem_of_getElem? (i := 294) (by decide +kernel), List.mem_of_getElem? (i := 295) (by decide +kernel)⟩
theorem lw_p2 : lw_okq (⟨"PolicyText$Tokens", "takeName", "()Z"⟩, 6) := ⟨⟨by decide +kernel, by decide +kernel⟩, List.mem_of_getElem? (i := 98) (by decide +kernel), List.mem_of_getElem? (i := 298) (by decide +kernel), List.mem_of_getElem? (i := 299) (by decide +kernel)⟩
theorem lw_p3 : lw_okq (⟨"PolicyText$Tokens", "takeNumber", "()Z"⟩, 6) := ⟨⟨by decide +kernel, by decide +kernel⟩, List.mem_of_getElem? (i := 98) (by decide +kernel), List.mem_of_getElem? (i := 306) (by decide +kernel), List.mem_of_getElem? (i := 307) (by decide +kernel)⟩
theorem lw_p4 : lw_okq (⟨"PolicyText$Reader", "take", "(I)I"⟩, 15) := ⟨⟨by decide +kernel, by decide +kernel⟩, List.mem_of_getElem? (i := 92) (by decide +kernel), List.mem_of_getElem? (i := 313) (by decide +kernel), List.mem_of_getElem? (i := 314) (by decide +kernel)⟩
theorem lw_p5 : lw_okq (⟨"PolicyText$Reader", "takeTop", "()I"⟩, 15) := ⟨⟨by decide +kernel, by decide +kernel⟩, List.mem_of_getElem? (i := 92) (by decide +kernel), List.mem_of_getElem? (i := 317) (by decide +kernel), List.mem_of_getElem? (i := 318) (by decide +kernel)⟩
theorem lw_p6 : lw_okq (⟨"PolicyText$Reader", "fail", "(II)V"⟩, 15) := ⟨⟨by decide +kernel, by decide +kernel⟩, List.mem_of_getElem? (i := 92) (by decide +kernel), List.mem_of_getElem? (i := 333) (by decide +kernel), List.mem_of_getElem? (i := 334) (by decide +kernel)⟩
theorem lw_p7 : lw_okq (⟨"PolicyText$Reader", "takeHeadWord", "()I"⟩, 15) := ⟨⟨by decide +kernel, by decide +kernel⟩, List.mem_of_getElem? (i := 92) (by decide +kernel), List.mem_of_getElem? (i := 338) (by decide +kernel), List.mem_of_getElem? (i := 339) (by decide +kernel)⟩
theorem lw_p8 : lw_okq (⟨"PolicyText$Reader", "takeHeadName", "(ZI)I"⟩, 15) := ⟨⟨by decide +kernel, by decide +kernel⟩, List.mem_of_getElem? (i := 92) (by decide +kernel), List.mem_of_getElem? (i := 396) (by decide +kernel), List.mem_of_getElem? (i := 397) (by decide +kernel)⟩
theorem lw_p9 : lw_okq (⟨"PolicyText$Reader", "takeCounterTop", "()I"⟩, 15) := ⟨⟨by decide +kernel, by decide +kernel⟩, List.mem_of_getElem? (i := 92) (by decide +kernel), List.mem_of_getElem? (i := 435) (by decide +kernel), List.mem_of_getElem? (i := 436) (by decide +kernel)⟩
theorem lw_p10 : lw_okq (⟨"PolicyText$Reader", "takeClauseOrClose", "()I"⟩, 15) := ⟨⟨by decide +kernel, by decide +kernel⟩, List.mem_of_getElem? (i := 92) (by decide +kernel), List.mem_of_getElem? (i := 451) (by decide +kernel), List.mem_of_getElem? (i := 452) (by decide +kernel)⟩
theorem lw_p11 : lw_okq (⟨"PolicyText$Reader", "takeClauseWord", "()I"⟩, 15) := ⟨⟨by decide +kernel, by decide +kernel⟩, List.mem_of_getElem? (i := 92) (by decide +kernel), List.mem_of_getElem? (i := 459) (by decide +kernel), List.mem_of_getElem? (i := 460) (by decide +kernel)⟩
theorem lw_p12 : lw_okq (⟨"PolicyText$Reader", "takeCall", "()I"⟩, 15) := ⟨⟨by decide +kernel, by decide +kernel⟩, List.mem_of_getElem? (i := 92) (by decide +kernel), List.mem_of_getElem? (i := 466) (by decide +kernel), List.mem_of_getElem? (i := 467) (by decide +kernel)⟩
theorem lw_p13 : lw_okq (⟨"PolicyText$Reader", "takeTestOrGoal", "()I"⟩, 15) := ⟨⟨by decide +kernel, by decide +kernel⟩, List.mem_of_getElem? (i := 92) (by decide +kernel), List.mem_of_getElem? (i := 480) (by decide +kernel), List.mem_of_getElem? (i := 481) (by decide +kernel)⟩
theorem lw_p14 : lw_okq (⟨"PolicyText$Reader", "takeTestWord", "()I"⟩, 15) := ⟨⟨by decide +kernel, by decide +kernel⟩, List.mem_of_getElem? (i := 92) (by decide +kernel), List.mem_of_getElem? (i := 491) (by decide +kernel), List.mem_of_getElem? (i := 492) (by decide +kernel)⟩
theorem lw_p15 : lw_okq (⟨"PolicyText$Reader", "takeArgument", "()I"⟩, 15) := ⟨⟨by decide +kernel, by decide +kernel⟩, List.mem_of_getElem? (i := 92) (by decide +kernel), List.mem_of_getElem? (i := 498) (by decide +kernel), List.mem_of_getElem? (i := 499) (by decide +kernel)⟩
def lw_privs_1 : List (MethodName × Nat) := [(⟨"PolicyText$Reader", "begin", "(LPolicyText$Policy;)V"⟩, 15), (⟨"PolicyText$Tokens", "takeWord", "()V"⟩, 6), (⟨"PolicyText$Tokens", "takeName", "()Z"⟩, 6), (⟨"PolicyText$Tokens", "takeNumber", "()Z"⟩, 6), (⟨"PolicyText$Reader", "take", "(I)I"⟩, 15), (⟨"PolicyText$Reader", "takeTop", "()I"⟩, 15), (⟨"PolicyText$Reader", "fail", "(II)V"⟩, 15), (⟨"PolicyText$Reader", "takeHeadWord", "()I"⟩, 15), (⟨"PolicyText$Reader", "takeHeadName", "(ZI)I"⟩, 15), (⟨"PolicyText$Reader", "takeCounterTop", "()I"⟩, 15), (⟨"PolicyText$Reader", "takeClauseOrClose", "()I"⟩, 15), (⟨"PolicyText$Reader", "takeClauseWord", "()I"⟩, 15), (⟨"PolicyText$Reader", "takeCall", "()I"⟩, 15), (⟨"PolicyText$Reader", "takeTestOrGoal", "()I"⟩, 15), (⟨"PolicyText$Reader", "takeTestWord", "()I"⟩, 15), (⟨"PolicyText$Reader", "takeArgument", "()I"⟩, 15)]
theorem lw_r1 : ∀ q ∈ lw_privs_1, lw_okq q := List.forall_mem_cons.mpr ⟨lw_p0, List.forall_mem_cons.mpr ⟨lw_p1, List.forall_mem_cons.mpr ⟨lw_p2, List.forall_mem_cons.mpr ⟨lw_p3, List.forall_mem_cons.mpr ⟨lw_p4, List.forall_mem_cons.mpr ⟨lw_p5, List.forall_mem_cons.mpr ⟨lw_p6, List.forall_mem_cons.mpr ⟨lw_p7, List.forall_mem_cons.mpr ⟨lw_p8, List.forall_mem_cons.mpr ⟨lw_p9, List.forall_mem_cons.mpr ⟨lw_p10, List.forall_mem_cons.mpr ⟨lw_p11, List.forall_mem_cons.mpr ⟨lw_p12, List.forall_mem_cons.mpr ⟨lw_p13, List.forall_mem_cons.mpr ⟨lw_p14, List.forall_mem_cons.mpr ⟨lw_p15, fun _ h => absurd h List.not_mem_nil⟩⟩⟩⟩⟩⟩⟩⟩⟩⟩⟩⟩⟩⟩⟩⟩
theorem lw_p16 : lw_okq (⟨"PolicyText$Reader", "takeCounted", "()I"⟩, 15) := ⟨⟨by decide +kernel, by decide +kernel⟩, List.mem_of_getElem? (i := 92) (by decide +kernel), List.mem_of_getElem? (i := 502) (by decide +kernel), List.mem_of_getElem? (i := 503) (by decide +kernel)⟩
theorem lw_p17 : lw_okq (⟨"PolicyText$Reader", "takeOp", "()I"⟩, 15) := ⟨⟨by decide +kernel, by decide +kernel⟩, List.mem_of_getElem? (i := 92) (by decide +kernel), List.mem_of_getElem? (i := 506) (by decide +kernel), List.mem_of_getElem? (i := 507) (by decide +kernel)⟩
theorem lw_p18 : lw_okq (⟨"PolicyText$Reader", "takeBound", "()I"⟩, 15) := ⟨⟨by decide +kernel, by decide +kernel⟩, List.mem_of_getElem? (i := 92) (by decide +kernel), List.mem_of_getElem? (i := 514) (by decide +kernel), List.mem_of_getElem? (i := 515) (by decide +kernel)⟩
theorem lw_p19 : lw_okq (⟨"PolicyText$Reader", "takeTestClose", "()I"⟩, 15) := ⟨⟨by decide +kernel, by decide +kernel⟩, List.mem_of_getElem? (i := 92) (by decide +kernel), List.mem_of_getElem? (i := 526) (by decide +kernel), List.mem_of_getElem? (i := 527) (by decide +kernel)⟩
theorem lw_p20 : lw_okq (⟨"PolicyText$Reader", "faultOfToken", "()I"⟩, 15) := ⟨⟨by decide +kernel, by decide +kernel⟩, List.mem_of_getElem? (i := 92) (by decide +kernel), List.mem_of_getElem? (i := 530) (by decide +kernel), List.mem_of_getElem? (i := 531) (by decide +kernel)⟩
theorem lw_p21 : lw_okq (⟨"PolicyText$Reader", "linkHeads", "(Z)V"⟩, 15) := ⟨⟨by decide +kernel, by decide +kernel⟩, List.mem_of_getElem? (i := 92) (by decide +kernel), List.mem_of_getElem? (i := 534) (by decide +kernel), List.mem_of_getElem? (i := 535) (by decide +kernel)⟩
theorem lw_p22 : lw_okq (⟨"PolicyText$Reader", "linkClause", "(ZII)V"⟩, 15) := ⟨⟨by decide +kernel, by decide +kernel⟩, List.mem_of_getElem? (i := 92) (by decide +kernel), List.mem_of_getElem? (i := 550) (by decide +kernel), List.mem_of_getElem? (i := 551) (by decide +kernel)⟩
theorem lw_p23 : lw_okq (⟨"PolicyText$Reader", "linked", "(ZI)I"⟩, 15) := ⟨⟨by decide +kernel, by decide +kernel⟩, List.mem_of_getElem? (i := 92) (by decide +kernel), List.mem_of_getElem? (i := 575) (by decide +kernel), List.mem_of_getElem? (i := 576) (by decide +kernel)⟩
theorem lw_p24 : lw_okq (⟨"PolicyText$Printer", "writeText", "(Ljava/lang/String;)V"⟩, 3) := ⟨⟨by decide +kernel, by decide +kernel⟩, List.mem_of_getElem? (i := 594) (by decide +kernel), List.mem_of_getElem? (i := 616) (by decide +kernel), List.mem_of_getElem? (i := 617) (by decide +kernel)⟩
theorem lw_p25 : lw_okq (⟨"PolicyText$Printer", "writeName", "(J)V"⟩, 3) := ⟨⟨by decide +kernel, by decide +kernel⟩, List.mem_of_getElem? (i := 594) (by decide +kernel), List.mem_of_getElem? (i := 624) (by decide +kernel), List.mem_of_getElem? (i := 625) (by decide +kernel)⟩
theorem lw_p26 : lw_okq (⟨"PolicyText$Printer", "writeNumber", "(I)V"⟩, 3) := ⟨⟨by decide +kernel, by decide +kernel⟩, List.mem_of_getElem? (i := 594) (by decide +kernel), List.mem_of_getElem? (i := 630) (by decide +kernel), List.mem_of_getElem? (i := 631) (by decide +kernel)⟩
theorem lw_p27 : lw_okq (⟨"PolicyText$Printer", "writeCallAndTests", "(ZII)V"⟩, 3) := ⟨⟨by decide +kernel, by decide +kernel⟩, List.mem_of_getElem? (i := 594) (by decide +kernel), List.mem_of_getElem? (i := 639) (by decide +kernel), List.mem_of_getElem? (i := 640) (by decide +kernel)⟩
theorem lw_p28 : lw_okq (⟨"PolicyText$Printer", "writeTest", "(I)V"⟩, 3) := ⟨⟨by decide +kernel, by decide +kernel⟩, List.mem_of_getElem? (i := 594) (by decide +kernel), List.mem_of_getElem? (i := 647) (by decide +kernel), List.mem_of_getElem? (i := 648) (by decide +kernel)⟩
theorem lw_p29 : lw_okq (⟨"PolicyText$Policy", "isTrue", "(ILPolicyText$Call;)Z"⟩, 13) := ⟨⟨by decide +kernel, by decide +kernel⟩, List.mem_of_getElem? (i := 45) (by decide +kernel), List.mem_of_getElem? (i := 740) (by decide +kernel), List.mem_of_getElem? (i := 741) (by decide +kernel)⟩
theorem lw_p30 : lw_okq (⟨"PolicyText$Policy", "standAfter", "(ILPolicyText$Call;)I"⟩, 13) := ⟨⟨by decide +kernel, by decide +kernel⟩, List.mem_of_getElem? (i := 45) (by decide +kernel), List.mem_of_getElem? (i := 779) (by decide +kernel), List.mem_of_getElem? (i := 780) (by decide +kernel)⟩
theorem lw_p31 : lw_okq (⟨"PolicyTextModel", "readPolicy", "()V"⟩, 53) := ⟨⟨by decide +kernel, by decide +kernel⟩, List.mem_of_getElem? (i := 807) (by decide +kernel), List.mem_of_getElem? (i := 813) (by decide +kernel), List.mem_of_getElem? (i := 814) (by decide +kernel)⟩
def lw_privs_2 : List (MethodName × Nat) := [(⟨"PolicyText$Reader", "takeCounted", "()I"⟩, 15), (⟨"PolicyText$Reader", "takeOp", "()I"⟩, 15), (⟨"PolicyText$Reader", "takeBound", "()I"⟩, 15), (⟨"PolicyText$Reader", "takeTestClose", "()I"⟩, 15), (⟨"PolicyText$Reader", "faultOfToken", "()I"⟩, 15), (⟨"PolicyText$Reader", "linkHeads", "(Z)V"⟩, 15), (⟨"PolicyText$Reader", "linkClause", "(ZII)V"⟩, 15), (⟨"PolicyText$Reader", "linked", "(ZI)I"⟩, 15), (⟨"PolicyText$Printer", "writeText", "(Ljava/lang/String;)V"⟩, 3), (⟨"PolicyText$Printer", "writeName", "(J)V"⟩, 3), (⟨"PolicyText$Printer", "writeNumber", "(I)V"⟩, 3), (⟨"PolicyText$Printer", "writeCallAndTests", "(ZII)V"⟩, 3), (⟨"PolicyText$Printer", "writeTest", "(I)V"⟩, 3), (⟨"PolicyText$Policy", "isTrue", "(ILPolicyText$Call;)Z"⟩, 13), (⟨"PolicyText$Policy", "standAfter", "(ILPolicyText$Call;)I"⟩, 13), (⟨"PolicyTextModel", "readPolicy", "()V"⟩, 53)]
theorem lw_r2 : ∀ q ∈ lw_privs_2, lw_okq q := List.forall_mem_cons.mpr ⟨lw_p16, List.forall_mem_cons.mpr ⟨lw_p17, List.forall_mem_cons.mpr ⟨lw_p18, List.forall_mem_cons.mpr ⟨lw_p19, List.forall_mem_cons.mpr ⟨lw_p20, List.forall_mem_cons.mpr ⟨lw_p21, List.forall_mem_cons.mpr ⟨lw_p22, List.forall_mem_cons.mpr ⟨lw_p23, List.forall_mem_cons.mpr ⟨lw_p24, List.forall_mem_cons.mpr ⟨lw_p25, List.forall_mem_cons.mpr ⟨lw_p26, List.forall_mem_cons.mpr ⟨lw_p27, List.forall_mem_cons.mpr ⟨lw_p28, List.forall_mem_cons.mpr ⟨lw_p29, List.forall_mem_cons.mpr ⟨lw_p30, List.forall_mem_cons.mpr ⟨lw_p31, fun _ h => absurd h List.not_mem_nil⟩⟩⟩⟩⟩⟩⟩⟩⟩⟩⟩⟩⟩⟩⟩⟩
theorem lw_p32 : lw_okq (⟨"PolicyTextModel", "next", "()V"⟩, 53) := ⟨⟨by decide +kernel, by decide +kernel⟩, List.mem_of_getElem? (i := 807) (by decide +kernel), List.mem_of_getElem? (i := 817) (by decide +kernel), List.mem_of_getElem? (i := 818) (by decide +kernel)⟩
theorem lw_p33 : lw_okq (⟨"PolicyTextModel", "letterAt", "(I)I"⟩, 53) := ⟨⟨by decide +kernel, by decide +kernel⟩, List.mem_of_getElem? (i := 807) (by decide +kernel), List.mem_of_getElem? (i := 821) (by decide +kernel), List.mem_of_getElem? (i := 822) (by decide +kernel)⟩
theorem lw_p34 : lw_okq (⟨"PolicyTextModel", "wrong", "(II)V"⟩, 53) := ⟨⟨by decide +kernel, by decide +kernel⟩, List.mem_of_getElem? (i := 807) (by decide +kernel), List.mem_of_getElem? (i := 834) (by decide +kernel), List.mem_of_getElem? (i := 835) (by decide +kernel)⟩
theorem lw_p35 : lw_okq (⟨"PolicyTextModel", "takeName", "(I)V"⟩, 53) := ⟨⟨by decide +kernel, by decide +kernel⟩, List.mem_of_getElem? (i := 807) (by decide +kernel), List.mem_of_getElem? (i := 838) (by decide +kernel), List.mem_of_getElem? (i := 839) (by decide +kernel)⟩
theorem lw_p36 : lw_okq (⟨"PolicyTextModel", "takeNumber", "(I)V"⟩, 53) := ⟨⟨by decide +kernel, by decide +kernel⟩, List.mem_of_getElem? (i := 807) (by decide +kernel), List.mem_of_getElem? (i := 844) (by decide +kernel), List.mem_of_getElem? (i := 845) (by decide +kernel)⟩
theorem lw_p37 : lw_okq (⟨"PolicyTextModel", "isWord", "(Ljava/lang/String;)Z"⟩, 53) := ⟨⟨by decide +kernel, by decide +kernel⟩, List.mem_of_getElem? (i := 807) (by decide +kernel), List.mem_of_getElem? (i := 854) (by decide +kernel), List.mem_of_getElem? (i := 855) (by decide +kernel)⟩
theorem lw_p38 : lw_okq (⟨"PolicyTextModel", "readCounter", "()V"⟩, 53) := ⟨⟨by decide +kernel, by decide +kernel⟩, List.mem_of_getElem? (i := 807) (by decide +kernel), List.mem_of_getElem? (i := 863) (by decide +kernel), List.mem_of_getElem? (i := 864) (by decide +kernel)⟩
theorem lw_p39 : lw_okq (⟨"PolicyTextModel", "isReserved", "()Z"⟩, 53) := ⟨⟨by decide +kernel, by decide +kernel⟩, List.mem_of_getElem? (i := 807) (by decide +kernel), List.mem_of_getElem? (i := 867) (by decide +kernel), List.mem_of_getElem? (i := 868) (by decide +kernel)⟩
theorem lw_p40 : lw_okq (⟨"PolicyTextModel", "isOld", "([JI)Z"⟩, 53) := ⟨⟨by decide +kernel, by decide +kernel⟩, List.mem_of_getElem? (i := 807) (by decide +kernel), List.mem_of_getElem? (i := 882) (by decide +kernel), List.mem_of_getElem? (i := 883) (by decide +kernel)⟩
theorem lw_p41 : lw_okq (⟨"PolicyTextModel", "must", "(Z)Z"⟩, 53) := ⟨⟨by decide +kernel, by decide +kernel⟩, List.mem_of_getElem? (i := 807) (by decide +kernel), List.mem_of_getElem? (i := 886) (by decide +kernel), List.mem_of_getElem? (i := 887) (by decide +kernel)⟩
theorem lw_p42 : lw_okq (⟨"PolicyTextModel", "readCall", "()I"⟩, 53) := ⟨⟨by decide +kernel, by decide +kernel⟩, List.mem_of_getElem? (i := 807) (by decide +kernel), List.mem_of_getElem? (i := 891) (by decide +kernel), List.mem_of_getElem? (i := 892) (by decide +kernel)⟩
theorem lw_p43 : lw_okq (⟨"PolicyTextModel", "readGuards", "(I)V"⟩, 53) := ⟨⟨by decide +kernel, by decide +kernel⟩, List.mem_of_getElem? (i := 807) (by decide +kernel), List.mem_of_getElem? (i := 895) (by decide +kernel), List.mem_of_getElem? (i := 896) (by decide +kernel)⟩
theorem lw_p44 : lw_okq (⟨"PolicyTextModel", "readGuard", "(I)V"⟩, 53) := ⟨⟨by decide +kernel, by decide +kernel⟩, List.mem_of_getElem? (i := 807) (by decide +kernel), List.mem_of_getElem? (i := 899) (by decide +kernel), List.mem_of_getElem? (i := 900) (by decide +kernel)⟩
theorem lw_p45 : lw_okq (⟨"PolicyTextModel", "expect", "(I)V"⟩, 53) := ⟨⟨by decide +kernel, by decide +kernel⟩, List.mem_of_getElem? (i := 807) (by decide +kernel), List.mem_of_getElem? (i := 903) (by decide +kernel), List.mem_of_getElem? (i := 904) (by decide +kernel)⟩
theorem lw_p46 : lw_okq (⟨"PolicyTextModel", "note", "(III)V"⟩, 53) := ⟨⟨by decide +kernel, by decide +kernel⟩, List.mem_of_getElem? (i := 807) (by decide +kernel), List.mem_of_getElem? (i := 908) (by decide +kernel), List.mem_of_getElem? (i := 909) (by decide +kernel)⟩
theorem lw_p47 : lw_okq (⟨"PolicyTextModel", "readNode", "()V"⟩, 53) := ⟨⟨by decide +kernel, by decide +kernel⟩, List.mem_of_getElem? (i := 807) (by decide +kernel), List.mem_of_getElem? (i := 912) (by decide +kernel), List.mem_of_getElem? (i := 913) (by decide +kernel)⟩
def lw_privs_3 : List (MethodName × Nat) := [(⟨"PolicyTextModel", "next", "()V"⟩, 53), (⟨"PolicyTextModel", "letterAt", "(I)I"⟩, 53), (⟨"PolicyTextModel", "wrong", "(II)V"⟩, 53), (⟨"PolicyTextModel", "takeName", "(I)V"⟩, 53), (⟨"PolicyTextModel", "takeNumber", "(I)V"⟩, 53), (⟨"PolicyTextModel", "isWord", "(Ljava/lang/String;)Z"⟩, 53), (⟨"PolicyTextModel", "readCounter", "()V"⟩, 53), (⟨"PolicyTextModel", "isReserved", "()Z"⟩, 53), (⟨"PolicyTextModel", "isOld", "([JI)Z"⟩, 53), (⟨"PolicyTextModel", "must", "(Z)Z"⟩, 53), (⟨"PolicyTextModel", "readCall", "()I"⟩, 53), (⟨"PolicyTextModel", "readGuards", "(I)V"⟩, 53), (⟨"PolicyTextModel", "readGuard", "(I)V"⟩, 53), (⟨"PolicyTextModel", "expect", "(I)V"⟩, 53), (⟨"PolicyTextModel", "note", "(III)V"⟩, 53), (⟨"PolicyTextModel", "readNode", "()V"⟩, 53)]
theorem lw_r3 : ∀ q ∈ lw_privs_3, lw_okq q := List.forall_mem_cons.mpr ⟨lw_p32, List.forall_mem_cons.mpr ⟨lw_p33, List.forall_mem_cons.mpr ⟨lw_p34, List.forall_mem_cons.mpr ⟨lw_p35, List.forall_mem_cons.mpr ⟨lw_p36, List.forall_mem_cons.mpr ⟨lw_p37, List.forall_mem_cons.mpr ⟨lw_p38, List.forall_mem_cons.mpr ⟨lw_p39, List.forall_mem_cons.mpr ⟨lw_p40, List.forall_mem_cons.mpr ⟨lw_p41, List.forall_mem_cons.mpr ⟨lw_p42, List.forall_mem_cons.mpr ⟨lw_p43, List.forall_mem_cons.mpr ⟨lw_p44, List.forall_mem_cons.mpr ⟨lw_p45, List.forall_mem_cons.mpr ⟨lw_p46, List.forall_mem_cons.mpr ⟨lw_p47, fun _ h => absurd h List.not_mem_nil⟩⟩⟩⟩⟩⟩⟩⟩⟩⟩⟩⟩⟩⟩⟩⟩
theorem lw_p48 : lw_okq (⟨"PolicyTextModel", "expectWord", "(Ljava/lang/String;)V"⟩, 53) := ⟨⟨by decide +kernel, by decide +kernel⟩, List.mem_of_getElem? (i := 807) (by decide +kernel), List.mem_of_getElem? (i := 916) (by decide +kernel), List.mem_of_getElem? (i := 917) (by decide +kernel)⟩
theorem lw_p49 : lw_okq (⟨"PolicyTextModel", "resolve", "()V"⟩, 53) := ⟨⟨by decide +kernel, by decide +kernel⟩, List.mem_of_getElem? (i := 807) (by decide +kernel), List.mem_of_getElem? (i := 920) (by decide +kernel), List.mem_of_getElem? (i := 921) (by decide +kernel)⟩
theorem lw_p50 : lw_okq (⟨"PolicyTextModel", "open", "()V"⟩, 53) := ⟨⟨by decide +kernel, by decide +kernel⟩, List.mem_of_getElem? (i := 807) (by decide +kernel), List.mem_of_getElem? (i := 1114) (by decide +kernel), List.mem_of_getElem? (i := 1115) (by decide +kernel)⟩
theorem lw_p51 : lw_okq (⟨"PolicyTextModel", "blank", "(Z)V"⟩, 53) := ⟨⟨by decide +kernel, by decide +kernel⟩, List.mem_of_getElem? (i := 807) (by decide +kernel), List.mem_of_getElem? (i := 1118) (by decide +kernel), List.mem_of_getElem? (i := 1119) (by decide +kernel)⟩
theorem lw_p52 : lw_okq (⟨"PolicyTextModel", "lay", "(I)V"⟩, 53) := ⟨⟨by decide +kernel, by decide +kernel⟩, List.mem_of_getElem? (i := 807) (by decide +kernel), List.mem_of_getElem? (i := 1122) (by decide +kernel), List.mem_of_getElem? (i := 1123) (by decide +kernel)⟩
theorem lw_p53 : lw_okq (⟨"PolicyTextModel", "word", "(Ljava/lang/String;)V"⟩, 53) := ⟨⟨by decide +kernel, by decide +kernel⟩, List.mem_of_getElem? (i := 807) (by decide +kernel), List.mem_of_getElem? (i := 1126) (by decide +kernel), List.mem_of_getElem? (i := 1127) (by decide +kernel)⟩
theorem lw_p54 : lw_okq (⟨"PolicyTextModel", "nameOut", "(JI)V"⟩, 53) := ⟨⟨by decide +kernel, by decide +kernel⟩, List.mem_of_getElem? (i := 807) (by decide +kernel), List.mem_of_getElem? (i := 1130) (by decide +kernel), List.mem_of_getElem? (i := 1131) (by decide +kernel)⟩
theorem lw_p55 : lw_okq (⟨"PolicyTextModel", "numberOut", "(J)V"⟩, 53) := ⟨⟨by decide +kernel, by decide +kernel⟩, List.mem_of_getElem? (i := 807) (by decide +kernel), List.mem_of_getElem? (i := 1134) (by decide +kernel), List.mem_of_getElem? (i := 1135) (by decide +kernel)⟩
theorem lw_p56 : lw_okq (⟨"PolicyTextModel", "clauseOut", "(III)V"⟩, 53) := ⟨⟨by decide +kernel, by decide +kernel⟩, List.mem_of_getElem? (i := 807) (by decide +kernel), List.mem_of_getElem? (i := 1139) (by decide +kernel), List.mem_of_getElem? (i := 1140) (by decide +kernel)⟩
theorem lw_p57 : lw_okq (⟨"PolicyTextModel", "close", "()V"⟩, 53) := ⟨⟨by decide +kernel, by decide +kernel⟩, List.mem_of_getElem? (i := 807) (by decide +kernel), List.mem_of_getElem? (i := 1143) (by decide +kernel), List.mem_of_getElem? (i := 1144) (by decide +kernel)⟩
theorem lw_p58 : lw_okq (⟨"PolicyTextModel", "lineOut", "()V"⟩, 53) := ⟨⟨by decide +kernel, by decide +kernel⟩, List.mem_of_getElem? (i := 807) (by decide +kernel), List.mem_of_getElem? (i := 1147) (by decide +kernel), List.mem_of_getElem? (i := 1148) (by decide +kernel)⟩
theorem lw_p59 : lw_okq (⟨"PolicyTextModel", "howMany", "(ZI)I"⟩, 53) := ⟨⟨by decide +kernel, by decide +kernel⟩, List.mem_of_getElem? (i := 807) (by decide +kernel), List.mem_of_getElem? (i := 1159) (by decide +kernel), List.mem_of_getElem? (i := 1160) (by decide +kernel)⟩
theorem lw_p60 : lw_okq (⟨"PolicyTextModel", "clauseAt", "(ZII)I"⟩, 53) := ⟨⟨by decide +kernel, by decide +kernel⟩, List.mem_of_getElem? (i := 807) (by decide +kernel), List.mem_of_getElem? (i := 1163) (by decide +kernel), List.mem_of_getElem? (i := 1164) (by decide +kernel)⟩
theorem lw_p61 : lw_okq (⟨"PolicyTextModel", "testAt", "(ZIII)I"⟩, 53) := ⟨⟨by decide +kernel, by decide +kernel⟩, List.mem_of_getElem? (i := 807) (by decide +kernel), List.mem_of_getElem? (i := 1179) (by decide +kernel), List.mem_of_getElem? (i := 1180) (by decide +kernel)⟩
theorem lw_p62 : lw_okq (⟨"PolicyTextModel", "ask", "()V"⟩, 53) := ⟨⟨by decide +kernel, by decide +kernel⟩, List.mem_of_getElem? (i := 807) (by decide +kernel), List.mem_of_getElem? (i := 1195) (by decide +kernel), List.mem_of_getElem? (i := 1196) (by decide +kernel)⟩
theorem lw_p63 : lw_okq (⟨"PolicyTextModel", "isSo", "(ZII)Z"⟩, 53) := ⟨⟨by decide +kernel, by decide +kernel⟩, List.mem_of_getElem? (i := 807) (by decide +kernel), List.mem_of_getElem? (i := 1199) (by decide +kernel), List.mem_of_getElem? (i := 1200) (by decide +kernel)⟩
def lw_privs_4 : List (MethodName × Nat) := [(⟨"PolicyTextModel", "expectWord", "(Ljava/lang/String;)V"⟩, 53), (⟨"PolicyTextModel", "resolve", "()V"⟩, 53), (⟨"PolicyTextModel", "open", "()V"⟩, 53), (⟨"PolicyTextModel", "blank", "(Z)V"⟩, 53), (⟨"PolicyTextModel", "lay", "(I)V"⟩, 53), (⟨"PolicyTextModel", "word", "(Ljava/lang/String;)V"⟩, 53), (⟨"PolicyTextModel", "nameOut", "(JI)V"⟩, 53), (⟨"PolicyTextModel", "numberOut", "(J)V"⟩, 53), (⟨"PolicyTextModel", "clauseOut", "(III)V"⟩, 53), (⟨"PolicyTextModel", "close", "()V"⟩, 53), (⟨"PolicyTextModel", "lineOut", "()V"⟩, 53), (⟨"PolicyTextModel", "howMany", "(ZI)I"⟩, 53), (⟨"PolicyTextModel", "clauseAt", "(ZII)I"⟩, 53), (⟨"PolicyTextModel", "testAt", "(ZIII)I"⟩, 53), (⟨"PolicyTextModel", "ask", "()V"⟩, 53), (⟨"PolicyTextModel", "isSo", "(ZII)Z"⟩, 53)]
theorem lw_r4 : ∀ q ∈ lw_privs_4, lw_okq q := List.forall_mem_cons.mpr ⟨lw_p48, List.forall_mem_cons.mpr ⟨lw_p49, List.forall_mem_cons.mpr ⟨lw_p50, List.forall_mem_cons.mpr ⟨lw_p51, List.forall_mem_cons.mpr ⟨lw_p52, List.forall_mem_cons.mpr ⟨lw_p53, List.forall_mem_cons.mpr ⟨lw_p54, List.forall_mem_cons.mpr ⟨lw_p55, List.forall_mem_cons.mpr ⟨lw_p56, List.forall_mem_cons.mpr ⟨lw_p57, List.forall_mem_cons.mpr ⟨lw_p58, List.forall_mem_cons.mpr ⟨lw_p59, List.forall_mem_cons.mpr ⟨lw_p60, List.forall_mem_cons.mpr ⟨lw_p61, List.forall_mem_cons.mpr ⟨lw_p62, List.forall_mem_cons.mpr ⟨lw_p63, fun _ h => absurd h List.not_mem_nil⟩⟩⟩⟩⟩⟩⟩⟩⟩⟩⟩⟩⟩⟩⟩⟩
theorem lw_p64 : lw_okq (⟨"PolicyTextModel", "hold", "(III)Z"⟩, 53) := ⟨⟨by decide +kernel, by decide +kernel⟩, List.mem_of_getElem? (i := 807) (by decide +kernel), List.mem_of_getElem? (i := 1203) (by decide +kernel), List.mem_of_getElem? (i := 1204) (by decide +kernel)⟩
theorem lw_p65 : lw_okq (⟨"PolicyTextModel", "isTrue", "(II)Z"⟩, 53) := ⟨⟨by decide +kernel, by decide +kernel⟩, List.mem_of_getElem? (i := 807) (by decide +kernel), List.mem_of_getElem? (i := 1207) (by decide +kernel), List.mem_of_getElem? (i := 1208) (by decide +kernel)⟩
theorem lw_p66 : lw_okq (⟨"PolicyTextModel", "count", "([II)V"⟩, 53) := ⟨⟨by decide +kernel, by decide +kernel⟩, List.mem_of_getElem? (i := 807) (by decide +kernel), List.mem_of_getElem? (i := 1215) (by decide +kernel), List.mem_of_getElem? (i := 1216) (by decide +kernel)⟩
def lw_privs_5 : List (MethodName × Nat) := [(⟨"PolicyTextModel", "hold", "(III)Z"⟩, 53), (⟨"PolicyTextModel", "isTrue", "(II)Z"⟩, 53), (⟨"PolicyTextModel", "count", "([II)V"⟩, 53)]
theorem lw_r5 : ∀ q ∈ lw_privs_5, lw_okq q := List.forall_mem_cons.mpr ⟨lw_p64, List.forall_mem_cons.mpr ⟨lw_p65, List.forall_mem_cons.mpr ⟨lw_p66, fun _ h => absurd h List.not_mem_nil⟩⟩⟩
def lw_privs : List (MethodName × Nat) := lw_privs_1 ++ (lw_privs_2 ++ (lw_privs_3 ++ (lw_privs_4 ++ (lw_privs_5))))
def lw_tbl : List Cond := k2_sels lw_privs ++ tables_1
theorem lw_privs_ok : ∀ q ∈ lw_privs, lw_okq q := by
  show ∀ q ∈ lw_privs_1 ++ (lw_privs_2 ++ (lw_privs_3 ++ (lw_privs_4 ++ (lw_privs_5)))), lw_okq q
  exact List.forall_mem_append.mpr ⟨lw_r1, List.forall_mem_append.mpr ⟨lw_r2, List.forall_mem_append.mpr ⟨lw_r3, List.forall_mem_append.mpr ⟨lw_r4, lw_r5⟩⟩⟩⟩
end
section
/-! words, classes, methods: by program (gen_names.py) -/
def aTs : List Cond := lw_tbl.filter goodWord
theorem aTs_good : ∀ w ∈ aTs, w ∈ aTs ∧ ((w.onTables && w.keeps) = true ∨ ∃ ty, w = .arrayClass ty) := fun w h => ⟨h, good_of_word (List.mem_filter.mp h).2⟩
theorem mts (i : Nat) {w : Cond} (h : tables_1[i]? = some w) (hg : goodWord w = true) : w ∈ aTs := List.mem_filter.mpr ⟨List.mem_append_right _ (List.mem_of_getElem? h), hg⟩
theorem mtp (i : Nat) {w : Cond} (h : (k2_sels lw_privs)[i]? = some w) (hg : goodWord w = true) : w ∈ aTs := List.mem_filter.mpr ⟨List.mem_append_left _ (List.mem_of_getElem? h), hg⟩
def aTy : List FieldType := [.int, .long, .boolean]
def T_B : u_T := fun k => match k with
  | 0 => ("PolicyText$Bytes", "words", "[J", true)
  | 1 => ("PolicyText$Bytes", "room", "I", true)
  | _ => ("PolicyText$Bytes", "length", "I", false)
def ty_B : Nat → FieldType := fun k => match k with
  | 0 => (.array .long)
  | 1 => .int
  | _ => .int
def T_C : u_T := fun k => match k with
  | 0 => ("PolicyText$Call", "number", "I", false)
  | 1 => ("PolicyText$Call", "first", "I", false)
  | 2 => ("PolicyText$Call", "second", "I", false)
  | _ => ("PolicyText$Call", "third", "I", false)
def ty_C : Nat → FieldType := fun k => match k with
  | 0 => .int
  | 1 => .int
  | 2 => .int
  | _ => .int
def T_P : u_T := fun k => match k with
  | 0 => ("PolicyText$Policy", "counters", "I", false)
  | 1 => ("PolicyText$Policy", "nodes", "I", false)
  | 2 => ("PolicyText$Policy", "tests", "I", false)
  | 3 => ("PolicyText$Policy", "names", "[J", true)
  | 4 => ("PolicyText$Policy", "clauseCounts", "[I", true)
  | 5 => ("PolicyText$Policy", "tops", "[I", true)
  | 6 => ("PolicyText$Policy", "stands", "[I", true)
  | 7 => ("PolicyText$Policy", "later", "[I", true)
  | 8 => ("PolicyText$Policy", "calls", "[I", true)
  | 9 => ("PolicyText$Policy", "goals", "[I", true)
  | 10 => ("PolicyText$Policy", "testCounts", "[I", true)
  | 11 => ("PolicyText$Policy", "shapes", "[I", true)
  | _ => ("PolicyText$Policy", "bounds", "[I", true)
def ty_P : Nat → FieldType := fun k => match k with
  | 0 => .int
  | 1 => .int
  | 2 => .int
  | 3 => (.array .long)
  | 4 => (.array .int)
  | 5 => (.array .int)
  | 6 => (.array .int)
  | 7 => (.array .int)
  | 8 => (.array .int)
  | 9 => (.array .int)
  | 10 => (.array .int)
  | 11 => (.array .int)
  | _ => (.array .int)
def T_W : u_T := fun k => match k with
  | 0 => ("PolicyText$Printer", "policy", "LPolicyText$Policy;", true)
  | 1 => ("PolicyText$Printer", "out", "LPolicyText$Bytes;", true)
  | _ => ("PolicyText$Printer", "fits", "Z", false)
def ty_W : Nat → FieldType := fun k => match k with
  | 0 => (.object "PolicyText$Policy")
  | 1 => (.object "PolicyText$Bytes")
  | _ => .boolean
def T_R : u_T := fun k => match k with
  | 0 => ("PolicyText$Reader", "tokens", "LPolicyText$Tokens;", true)
  | 1 => ("PolicyText$Reader", "testPlaces", "[I", true)
  | 2 => ("PolicyText$Reader", "goalPlaces", "[I", true)
  | 3 => ("PolicyText$Reader", "policy", "LPolicyText$Policy;", false)
  | 4 => ("PolicyText$Reader", "fault", "I", false)
  | 5 => ("PolicyText$Reader", "place", "I", false)
  | 6 => ("PolicyText$Reader", "ways", "Z", false)
  | 7 => ("PolicyText$Reader", "clause", "I", false)
  | 8 => ("PolicyText$Reader", "goal", "I", false)
  | 9 => ("PolicyText$Reader", "nots", "I", false)
  | 10 => ("PolicyText$Reader", "closes", "I", false)
  | 11 => ("PolicyText$Reader", "counted", "Z", false)
  | 12 => ("PolicyText$Reader", "which", "I", false)
  | 13 => ("PolicyText$Reader", "whichPlace", "I", false)
  | _ => ("PolicyText$Reader", "op", "I", false)
def ty_R : Nat → FieldType := fun k => match k with
  | 0 => (.object "PolicyText$Tokens")
  | 1 => (.array .int)
  | 2 => (.array .int)
  | 3 => (.object "PolicyText$Policy")
  | 4 => .int
  | 5 => .int
  | 6 => .boolean
  | 7 => .int
  | 8 => .int
  | 9 => .int
  | 10 => .int
  | 11 => .boolean
  | 12 => .int
  | 13 => .int
  | _ => .int
def T_T : u_T := fun k => match k with
  | 0 => ("PolicyText$Tokens", "source", "LPolicyText$Bytes;", true)
  | 1 => ("PolicyText$Tokens", "at", "I", false)
  | 2 => ("PolicyText$Tokens", "kind", "I", false)
  | 3 => ("PolicyText$Tokens", "place", "I", false)
  | 4 => ("PolicyText$Tokens", "name", "J", false)
  | _ => ("PolicyText$Tokens", "number", "I", false)
def ty_T : Nat → FieldType := fun k => match k with
  | 0 => (.object "PolicyText$Bytes")
  | 1 => .int
  | 2 => .int
  | 3 => .int
  | 4 => .long
  | _ => .int
def T_X : u_T := fun k => match k with
  | 0 => ("PolicyText", "text", "LPolicyText$Bytes;", true)
  | 1 => ("PolicyText", "reader", "LPolicyText$Reader;", true)
  | 2 => ("PolicyText", "current", "LPolicyText$Call;", true)
  | 3 => ("PolicyText", "printed", "LPolicyText$Bytes;", false)
  | 4 => ("PolicyText", "draft", "LPolicyText$Bytes;", false)
  | 5 => ("PolicyText", "policy", "LPolicyText$Policy;", false)
  | _ => ("PolicyText", "spare", "LPolicyText$Policy;", false)
def ty_X : Nat → FieldType := fun k => match k with
  | 0 => (.object "PolicyText$Bytes")
  | 1 => (.object "PolicyText$Reader")
  | 2 => (.object "PolicyText$Call")
  | 3 => (.object "PolicyText$Bytes")
  | 4 => (.object "PolicyText$Bytes")
  | 5 => (.object "PolicyText$Policy")
  | _ => (.object "PolicyText$Policy")
def T_M : u_T := fun k => match k with
  | 0 => ("PolicyTextModel", "thrown", "I", false)
  | 1 => ("PolicyTextModel", "bytes", "[I", true)
  | 2 => ("PolicyTextModel", "many", "I", false)
  | 3 => ("PolicyTextModel", "printed", "[I", true)
  | 4 => ("PolicyTextModel", "printedMany", "I", false)
  | 5 => ("PolicyTextModel", "sheet", "[I", true)
  | 6 => ("PolicyTextModel", "sheetMany", "I", false)
  | 7 => ("PolicyTextModel", "lastToken", "I", false)
  | 8 => ("PolicyTextModel", "fault", "I", false)
  | 9 => ("PolicyTextModel", "place", "I", false)
  | 10 => ("PolicyTextModel", "keptText", "[I", true)
  | 11 => ("PolicyTextModel", "counterLetters", "[I", true)
  | 12 => ("PolicyTextModel", "nodeLetters", "[I", true)
  | 13 => ("PolicyTextModel", "stands", "[I", true)
  | 14 => ("PolicyTextModel", "callNow", "I", false)
  | 15 => ("PolicyTextModel", "args", "[I", true)
  | 16 => ("PolicyTextModel", "counts", "[I", true)
  | 17 => ("PolicyTextModel", "text", "[I", true)
  | 18 => ("PolicyTextModel", "textMany", "I", false)
  | 19 => ("PolicyTextModel", "at", "I", false)
  | 20 => ("PolicyTextModel", "token", "I", false)
  | 21 => ("PolicyTextModel", "tokenPlace", "I", false)
  | 22 => ("PolicyTextModel", "name", "J", false)
  | 23 => ("PolicyTextModel", "number", "J", false)
  | 24 => ("PolicyTextModel", "bad", "I", false)
  | 25 => ("PolicyTextModel", "where", "I", false)
  | 26 => ("PolicyTextModel", "counterNames", "[J", true)
  | 27 => ("PolicyTextModel", "mosts", "[I", true)
  | 28 => ("PolicyTextModel", "counters", "I", false)
  | 29 => ("PolicyTextModel", "ruleOf", "[I", true)
  | 30 => ("PolicyTextModel", "ups", "[Z", true)
  | 31 => ("PolicyTextModel", "ruleCalls", "[I", true)
  | 32 => ("PolicyTextModel", "ruleFirst", "[I", true)
  | 33 => ("PolicyTextModel", "ruleMany", "[I", true)
  | 34 => ("PolicyTextModel", "rules", "I", false)
  | 35 => ("PolicyTextModel", "nodeNames", "[J", true)
  | 36 => ("PolicyTextModel", "nodes", "I", false)
  | 37 => ("PolicyTextModel", "wayNode", "[I", true)
  | 38 => ("PolicyTextModel", "wayCalls", "[I", true)
  | 39 => ("PolicyTextModel", "wayFirst", "[I", true)
  | 40 => ("PolicyTextModel", "wayMany", "[I", true)
  | 41 => ("PolicyTextModel", "wayNames", "[J", true)
  | 42 => ("PolicyTextModel", "wayTo", "[I", true)
  | 43 => ("PolicyTextModel", "ways", "I", false)
  | 44 => ("PolicyTextModel", "ofCounter", "[Z", true)
  | 45 => ("PolicyTextModel", "guardWhich", "[I", true)
  | 46 => ("PolicyTextModel", "guardNames", "[J", true)
  | 47 => ("PolicyTextModel", "guardHow", "[I", true)
  | 48 => ("PolicyTextModel", "guardWith", "[I", true)
  | 49 => ("PolicyTextModel", "guardNot", "[Z", true)
  | 50 => ("PolicyTextModel", "guards", "I", false)
  | 51 => ("PolicyTextModel", "looks", "[I", true)
  | _ => ("PolicyTextModel", "looksMany", "I", false)
def ty_M : Nat → FieldType := fun k => match k with
  | 0 => .int
  | 1 => (.array .int)
  | 2 => .int
  | 3 => (.array .int)
  | 4 => .int
  | 5 => (.array .int)
  | 6 => .int
  | 7 => .int
  | 8 => .int
  | 9 => .int
  | 10 => (.array .int)
  | 11 => (.array .int)
  | 12 => (.array .int)
  | 13 => (.array .int)
  | 14 => .int
  | 15 => (.array .int)
  | 16 => (.array .int)
  | 17 => (.array .int)
  | 18 => .int
  | 19 => .int
  | 20 => .int
  | 21 => .int
  | 22 => .long
  | 23 => .long
  | 24 => .int
  | 25 => .int
  | 26 => (.array .long)
  | 27 => (.array .int)
  | 28 => .int
  | 29 => (.array .int)
  | 30 => (.array .boolean)
  | 31 => (.array .int)
  | 32 => (.array .int)
  | 33 => (.array .int)
  | 34 => .int
  | 35 => (.array .long)
  | 36 => .int
  | 37 => (.array .int)
  | 38 => (.array .int)
  | 39 => (.array .int)
  | 40 => (.array .int)
  | 41 => (.array .long)
  | 42 => (.array .int)
  | 43 => .int
  | 44 => (.array .boolean)
  | 45 => (.array .int)
  | 46 => (.array .long)
  | 47 => (.array .int)
  | 48 => (.array .int)
  | 49 => (.array .boolean)
  | 50 => .int
  | 51 => (.array .int)
  | _ => .int
def vwCl : List vw_C := [("PolicyText$Bytes", T_B, 3), ("PolicyText$Call", T_C, 4), ("PolicyText$Policy", T_P, 13), ("PolicyText$Printer", T_W, 3), ("PolicyText$Reader", T_R, 15), ("PolicyText$Tokens", T_T, 6), ("PolicyText", T_X, 7), ("PolicyTextModel", T_M, 53)]
abbrev m_X_init : MethodName × ByteArray × Nat × Option FieldType := (({ cls := "PolicyText", name := "<init>", desc := "()V" } : Jvm.MethodName), prog_1_method_1_code, 1, (Option.none : Option FieldType))
abbrev m_O_init : MethodName × ByteArray × Nat × Option FieldType := (({ cls := "java/lang/Object", name := "<init>", desc := "()V" } : Jvm.MethodName), object_method_1_code, 1, (Option.none : Option FieldType))
abbrev m_B_init : MethodName × ByteArray × Nat × Option FieldType := (({ cls := "PolicyText$Bytes", name := "<init>", desc := "(I)V" } : Jvm.MethodName), prog_2_method_1_code, 2, (Option.none : Option FieldType))
abbrev m_A_max : MethodName × ByteArray × Nat × Option FieldType := (({ cls := "java/lang/Math", name := "max", desc := "(II)I" } : Jvm.MethodName), prog_11_method_65_code, 2, (Option.some FieldType.int))
abbrev m_P_init : MethodName × ByteArray × Nat × Option FieldType := (({ cls := "PolicyText$Policy", name := "<init>", desc := "()V" } : Jvm.MethodName), prog_4_method_1_code, 1, (Option.none : Option FieldType))
abbrev m_R_init : MethodName × ByteArray × Nat × Option FieldType := (({ cls := "PolicyText$Reader", name := "<init>", desc := "(LPolicyText$Bytes;LPolicyText$Policy;)V" } : Jvm.MethodName), prog_6_method_1_code, 3, (Option.none : Option FieldType))
abbrev m_T_init : MethodName × ByteArray × Nat × Option FieldType := (({ cls := "PolicyText$Tokens", name := "<init>", desc := "(LPolicyText$Bytes;)V" } : Jvm.MethodName), prog_7_method_1_code, 2, (Option.none : Option FieldType))
abbrev m_T_restart : MethodName × ByteArray × Nat × Option FieldType := (({ cls := "PolicyText$Tokens", name := "restart", desc := "()V" } : Jvm.MethodName), prog_7_method_2_code, 1, (Option.none : Option FieldType))
abbrev m_C_init : MethodName × ByteArray × Nat × Option FieldType := (({ cls := "PolicyText$Call", name := "<init>", desc := "()V" } : Jvm.MethodName), prog_3_method_1_code, 1, (Option.none : Option FieldType))
abbrev m_P_addHead : MethodName × ByteArray × Nat × Option FieldType := (({ cls := "PolicyText$Policy", name := "addHead", desc := "(ZJ)V" } : Jvm.MethodName), prog_4_method_16_code, 5, (Option.none : Option FieldType))
abbrev m_P_canAddHead : MethodName × ByteArray × Nat × Option FieldType := (({ cls := "PolicyText$Policy", name := "canAddHead", desc := "(Z)Z" } : Jvm.MethodName), prog_4_method_15_code, 2, (Option.some FieldType.boolean))
abbrev m_X_give : MethodName × ByteArray × Nat × Option FieldType := (({ cls := "PolicyText", name := "give", desc := "(JI)Z" } : Jvm.MethodName), prog_1_method_2_code, 5, (Option.some FieldType.boolean))
abbrev m_B_free : MethodName × ByteArray × Nat × Option FieldType := (({ cls := "PolicyText$Bytes", name := "free", desc := "()I" } : Jvm.MethodName), prog_2_method_3_code, 1, (Option.some FieldType.int))
abbrev m_B_add : MethodName × ByteArray × Nat × Option FieldType := (({ cls := "PolicyText$Bytes", name := "add", desc := "(I)Z" } : Jvm.MethodName), prog_2_method_6_code, 2, (Option.some FieldType.boolean))
abbrev m_B_put : MethodName × ByteArray × Nat × Option FieldType := (({ cls := "PolicyText$Bytes", name := "put", desc := "(II)Z" } : Jvm.MethodName), prog_2_method_5_code, 6, (Option.some FieldType.boolean))
abbrev m_X_cut : MethodName × ByteArray × Nat × Option FieldType := (({ cls := "PolicyText", name := "cut", desc := "(I)Z" } : Jvm.MethodName), prog_1_method_3_code, 2, (Option.some FieldType.boolean))
abbrev m_B_shorten : MethodName × ByteArray × Nat × Option FieldType := (({ cls := "PolicyText$Bytes", name := "shorten", desc := "(I)Z" } : Jvm.MethodName), prog_2_method_7_code, 2, (Option.some FieldType.boolean))
abbrev m_X_poke : MethodName × ByteArray × Nat × Option FieldType := (({ cls := "PolicyText", name := "poke", desc := "(II)Z" } : Jvm.MethodName), prog_1_method_4_code, 3, (Option.some FieldType.boolean))
abbrev m_X_read : MethodName × ByteArray × Nat × Option FieldType := (({ cls := "PolicyText", name := "read", desc := "()I" } : Jvm.MethodName), prog_1_method_5_code, 3, (Option.some FieldType.int))
abbrev m_R_readInto : MethodName × ByteArray × Nat × Option FieldType := (({ cls := "PolicyText$Reader", name := "readInto", desc := "(LPolicyText$Policy;)I" } : Jvm.MethodName), prog_6_method_4_code, 4, (Option.some FieldType.int))
abbrev m_R_begin : MethodName × ByteArray × Nat × Option FieldType := (({ cls := "PolicyText$Reader", name := "begin", desc := "(LPolicyText$Policy;)V" } : Jvm.MethodName), prog_6_method_5_code, 2, (Option.none : Option FieldType))
abbrev m_P_clear : MethodName × ByteArray × Nat × Option FieldType := (({ cls := "PolicyText$Policy", name := "clear", desc := "()V" } : Jvm.MethodName), prog_4_method_14_code, 1, (Option.none : Option FieldType))
abbrev m_T_advance : MethodName × ByteArray × Nat × Option FieldType := (({ cls := "PolicyText$Tokens", name := "advance", desc := "()V" } : Jvm.MethodName), prog_7_method_11_code, 2, (Option.none : Option FieldType))
abbrev m_B_size : MethodName × ByteArray × Nat × Option FieldType := (({ cls := "PolicyText$Bytes", name := "size", desc := "()I" } : Jvm.MethodName), prog_2_method_2_code, 1, (Option.some FieldType.int))
abbrev m_B_at : MethodName × ByteArray × Nat × Option FieldType := (({ cls := "PolicyText$Bytes", name := "at", desc := "(I)I" } : Jvm.MethodName), prog_2_method_4_code, 2, (Option.some FieldType.int))
abbrev m_T_isBlank : MethodName × ByteArray × Nat × Option FieldType := (({ cls := "PolicyText$Tokens", name := "isBlank", desc := "(I)Z" } : Jvm.MethodName), prog_7_method_16_code, 1, (Option.some FieldType.boolean))
abbrev m_T_inWord : MethodName × ByteArray × Nat × Option FieldType := (({ cls := "PolicyText$Tokens", name := "inWord", desc := "(I)Z" } : Jvm.MethodName), prog_7_method_19_code, 1, (Option.some FieldType.boolean))
abbrev m_T_isLetter : MethodName × ByteArray × Nat × Option FieldType := (({ cls := "PolicyText$Tokens", name := "isLetter", desc := "(I)Z" } : Jvm.MethodName), prog_7_method_17_code, 1, (Option.some FieldType.boolean))
abbrev m_T_isDigit : MethodName × ByteArray × Nat × Option FieldType := (({ cls := "PolicyText$Tokens", name := "isDigit", desc := "(I)Z" } : Jvm.MethodName), prog_7_method_18_code, 1, (Option.some FieldType.boolean))
abbrev m_T_takeWord : MethodName × ByteArray × Nat × Option FieldType := (({ cls := "PolicyText$Tokens", name := "takeWord", desc := "()V" } : Jvm.MethodName), prog_7_method_12_code, 1, (Option.none : Option FieldType))
abbrev m_T_takeName : MethodName × ByteArray × Nat × Option FieldType := (({ cls := "PolicyText$Tokens", name := "takeName", desc := "()Z" } : Jvm.MethodName), prog_7_method_13_code, 2, (Option.some FieldType.boolean))
abbrev m_T_nameAt : MethodName × ByteArray × Nat × Option FieldType := (({ cls := "PolicyText$Tokens", name := "nameAt", desc := "(I)J" } : Jvm.MethodName), prog_7_method_14_code, 5, (Option.some FieldType.long))
abbrev m_T_takeNumber : MethodName × ByteArray × Nat × Option FieldType := (({ cls := "PolicyText$Tokens", name := "takeNumber", desc := "()Z" } : Jvm.MethodName), prog_7_method_15_code, 9, (Option.some FieldType.boolean))
abbrev m_R_take : MethodName × ByteArray × Nat × Option FieldType := (({ cls := "PolicyText$Reader", name := "take", desc := "(I)I" } : Jvm.MethodName), prog_6_method_8_code, 2, (Option.some FieldType.int))
abbrev m_R_takeTop : MethodName × ByteArray × Nat × Option FieldType := (({ cls := "PolicyText$Reader", name := "takeTop", desc := "()I" } : Jvm.MethodName), prog_6_method_9_code, 1, (Option.some FieldType.int))
abbrev m_T_isA : MethodName × ByteArray × Nat × Option FieldType := (({ cls := "PolicyText$Tokens", name := "isA", desc := "(I)Z" } : Jvm.MethodName), prog_7_method_3_code, 2, (Option.some FieldType.boolean))
abbrev m_P_heads : MethodName × ByteArray × Nat × Option FieldType := (({ cls := "PolicyText$Policy", name := "heads", desc := "(Z)I" } : Jvm.MethodName), prog_4_method_2_code, 2, (Option.some FieldType.int))
abbrev m_T_place : MethodName × ByteArray × Nat × Option FieldType := (({ cls := "PolicyText$Tokens", name := "place", desc := "()I" } : Jvm.MethodName), prog_7_method_4_code, 1, (Option.some FieldType.int))
abbrev m_R_fail : MethodName × ByteArray × Nat × Option FieldType := (({ cls := "PolicyText$Reader", name := "fail", desc := "(II)V" } : Jvm.MethodName), prog_6_method_6_code, 3, (Option.none : Option FieldType))
abbrev m_R_takeHeadWord : MethodName × ByteArray × Nat × Option FieldType := (({ cls := "PolicyText$Reader", name := "takeHeadWord", desc := "()I" } : Jvm.MethodName), prog_6_method_10_code, 1, (Option.some FieldType.int))
abbrev m_T_isWord : MethodName × ByteArray × Nat × Option FieldType := (({ cls := "PolicyText$Tokens", name := "isWord", desc := "(Ljava/lang/String;)Z" } : Jvm.MethodName), prog_7_method_8_code, 3, (Option.some FieldType.boolean))
abbrev m_S_length : MethodName × ByteArray × Nat × Option FieldType := (({ cls := "java/lang/String", name := "length", desc := "()I" } : Jvm.MethodName), prog_12_method_54_code, 1, (Option.some FieldType.int))
abbrev m_S_coder : MethodName × ByteArray × Nat × Option FieldType := (({ cls := "java/lang/String", name := "coder", desc := "()B" } : Jvm.MethodName), prog_12_method_152_code, 1, (Option.some FieldType.byte))
abbrev m_S_charAt : MethodName × ByteArray × Nat × Option FieldType := (({ cls := "java/lang/String", name := "charAt", desc := "(I)C" } : Jvm.MethodName), prog_12_method_56_code, 2, (Option.some FieldType.char))
abbrev m_S_isLatin1 : MethodName × ByteArray × Nat × Option FieldType := (({ cls := "java/lang/String", name := "isLatin1", desc := "()Z" } : Jvm.MethodName), prog_12_method_154_code, 1, (Option.some FieldType.boolean))
abbrev m_SL_charAt : MethodName × ByteArray × Nat × Option FieldType := (({ cls := "java/lang/StringLatin1", name := "charAt", desc := "([BI)C" } : Jvm.MethodName), prog_13_method_2_code, 2, (Option.some FieldType.char))
abbrev m_S_checkIndex : MethodName × ByteArray × Nat × Option FieldType := (({ cls := "java/lang/String", name := "checkIndex", desc := "(II)V" } : Jvm.MethodName), prog_12_method_155_code, 2, (Option.none : Option FieldType))
abbrev m_SU_charAt : MethodName × ByteArray × Nat × Option FieldType := (({ cls := "java/lang/StringUTF16", name := "charAt", desc := "([BI)C" } : Jvm.MethodName), prog_14_method_83_code, 2, (Option.some FieldType.char))
abbrev m_SU_checkIndex : MethodName × ByteArray × Nat × Option FieldType := (({ cls := "java/lang/StringUTF16", name := "checkIndex", desc := "(I[B)V" } : Jvm.MethodName), prog_14_method_91_code, 2, (Option.none : Option FieldType))
abbrev m_SU_length : MethodName × ByteArray × Nat × Option FieldType := (({ cls := "java/lang/StringUTF16", name := "length", desc := "([B)I" } : Jvm.MethodName), prog_14_method_6_code, 1, (Option.some FieldType.int))
abbrev m_SU_getChar : MethodName × ByteArray × Nat × Option FieldType := (({ cls := "java/lang/StringUTF16", name := "getChar", desc := "([BI)C" } : Jvm.MethodName), prog_14_method_5_code, 2, (Option.some FieldType.char))
abbrev m_R_takeHeadName : MethodName × ByteArray × Nat × Option FieldType := (({ cls := "PolicyText$Reader", name := "takeHeadName", desc := "(ZI)I" } : Jvm.MethodName), prog_6_method_11_code, 3, (Option.some FieldType.int))
abbrev m_T_isFreeName : MethodName × ByteArray × Nat × Option FieldType := (({ cls := "PolicyText$Tokens", name := "isFreeName", desc := "()Z" } : Jvm.MethodName), prog_7_method_9_code, 3, (Option.some FieldType.boolean))
abbrev m_T_name : MethodName × ByteArray × Nat × Option FieldType := (({ cls := "PolicyText$Tokens", name := "name", desc := "()J" } : Jvm.MethodName), prog_7_method_5_code, 1, (Option.some FieldType.long))
abbrev m_P_find : MethodName × ByteArray × Nat × Option FieldType := (({ cls := "PolicyText$Policy", name := "find", desc := "(ZJ)I" } : Jvm.MethodName), prog_4_method_13_code, 5, (Option.some FieldType.int))
abbrev m_P_nameOf : MethodName × ByteArray × Nat × Option FieldType := (({ cls := "PolicyText$Policy", name := "nameOf", desc := "(ZI)J" } : Jvm.MethodName), prog_4_method_12_code, 4, (Option.some FieldType.long))
abbrev m_P_headRow : MethodName × ByteArray × Nat × Option FieldType := (({ cls := "PolicyText$Policy", name := "headRow", desc := "(ZI)I" } : Jvm.MethodName), prog_4_method_4_code, 3, (Option.some FieldType.int))
abbrev m_R_takeCounterTop : MethodName × ByteArray × Nat × Option FieldType := (({ cls := "PolicyText$Reader", name := "takeCounterTop", desc := "()I" } : Jvm.MethodName), prog_6_method_12_code, 1, (Option.some FieldType.int))
abbrev m_T_isNumber : MethodName × ByteArray × Nat × Option FieldType := (({ cls := "PolicyText$Tokens", name := "isNumber", desc := "(II)Z" } : Jvm.MethodName), prog_7_method_7_code, 3, (Option.some FieldType.boolean))
abbrev m_T_number : MethodName × ByteArray × Nat × Option FieldType := (({ cls := "PolicyText$Tokens", name := "number", desc := "()I" } : Jvm.MethodName), prog_7_method_6_code, 1, (Option.some FieldType.int))
abbrev m_P_setTopOfLast : MethodName × ByteArray × Nat × Option FieldType := (({ cls := "PolicyText$Policy", name := "setTopOfLast", desc := "(I)V" } : Jvm.MethodName), prog_4_method_17_code, 3, (Option.none : Option FieldType))
abbrev m_R_takeClauseOrClose : MethodName × ByteArray × Nat × Option FieldType := (({ cls := "PolicyText$Reader", name := "takeClauseOrClose", desc := "()I" } : Jvm.MethodName), prog_6_method_13_code, 1, (Option.some FieldType.int))
abbrev m_P_canAddClause : MethodName × ByteArray × Nat × Option FieldType := (({ cls := "PolicyText$Policy", name := "canAddClause", desc := "(Z)Z" } : Jvm.MethodName), prog_4_method_18_code, 3, (Option.some FieldType.boolean))
abbrev m_R_takeClauseWord : MethodName × ByteArray × Nat × Option FieldType := (({ cls := "PolicyText$Reader", name := "takeClauseWord", desc := "()I" } : Jvm.MethodName), prog_6_method_14_code, 1, (Option.some FieldType.int))
abbrev m_R_takeCall : MethodName × ByteArray × Nat × Option FieldType := (({ cls := "PolicyText$Reader", name := "takeCall", desc := "()I" } : Jvm.MethodName), prog_6_method_15_code, 2, (Option.some FieldType.int))
abbrev m_P_addClause : MethodName × ByteArray × Nat × Option FieldType := (({ cls := "PolicyText$Policy", name := "addClause", desc := "(ZII)I" } : Jvm.MethodName), prog_4_method_19_code, 7, (Option.some FieldType.int))
abbrev m_P_clauseRow : MethodName × ByteArray × Nat × Option FieldType := (({ cls := "PolicyText$Policy", name := "clauseRow", desc := "(ZII)I" } : Jvm.MethodName), prog_4_method_5_code, 5, (Option.some FieldType.int))
abbrev m_R_takeTestOrGoal : MethodName × ByteArray × Nat × Option FieldType := (({ cls := "PolicyText$Reader", name := "takeTestOrGoal", desc := "()I" } : Jvm.MethodName), prog_6_method_16_code, 1, (Option.some FieldType.int))
abbrev m_P_canAddTest : MethodName × ByteArray × Nat × Option FieldType := (({ cls := "PolicyText$Policy", name := "canAddTest", desc := "(I)Z" } : Jvm.MethodName), prog_4_method_20_code, 2, (Option.some FieldType.boolean))
abbrev m_R_keepPlace : MethodName × ByteArray × Nat × Option FieldType := (({ cls := "PolicyText$Reader", name := "keepPlace", desc := "([III)V" } : Jvm.MethodName), prog_6_method_23_code, 3, (Option.none : Option FieldType))
abbrev m_R_takeTestWord : MethodName × ByteArray × Nat × Option FieldType := (({ cls := "PolicyText$Reader", name := "takeTestWord", desc := "()I" } : Jvm.MethodName), prog_6_method_17_code, 1, (Option.some FieldType.int))
abbrev m_R_takeArgument : MethodName × ByteArray × Nat × Option FieldType := (({ cls := "PolicyText$Reader", name := "takeArgument", desc := "()I" } : Jvm.MethodName), prog_6_method_18_code, 1, (Option.some FieldType.int))
abbrev m_R_takeCounted : MethodName × ByteArray × Nat × Option FieldType := (({ cls := "PolicyText$Reader", name := "takeCounted", desc := "()I" } : Jvm.MethodName), prog_6_method_19_code, 1, (Option.some FieldType.int))
abbrev m_R_takeOp : MethodName × ByteArray × Nat × Option FieldType := (({ cls := "PolicyText$Reader", name := "takeOp", desc := "()I" } : Jvm.MethodName), prog_6_method_20_code, 1, (Option.some FieldType.int))
abbrev m_T_opNumber : MethodName × ByteArray × Nat × Option FieldType := (({ cls := "PolicyText$Tokens", name := "opNumber", desc := "()I" } : Jvm.MethodName), prog_7_method_10_code, 1, (Option.some FieldType.int))
abbrev m_R_takeBound : MethodName × ByteArray × Nat × Option FieldType := (({ cls := "PolicyText$Reader", name := "takeBound", desc := "()I" } : Jvm.MethodName), prog_6_method_21_code, 3, (Option.some FieldType.int))
abbrev m_P_shapeOf : MethodName × ByteArray × Nat × Option FieldType := (({ cls := "PolicyText$Policy", name := "shapeOf", desc := "(ZIIZ)I" } : Jvm.MethodName), prog_4_method_32_code, 4, (Option.some FieldType.int))
abbrev m_P_addTest : MethodName × ByteArray × Nat × Option FieldType := (({ cls := "PolicyText$Policy", name := "addTest", desc := "(III)I" } : Jvm.MethodName), prog_4_method_21_code, 5, (Option.some FieldType.int))
abbrev m_R_takeTestClose : MethodName × ByteArray × Nat × Option FieldType := (({ cls := "PolicyText$Reader", name := "takeTestClose", desc := "()I" } : Jvm.MethodName), prog_6_method_22_code, 1, (Option.some FieldType.int))
abbrev m_R_faultOfToken : MethodName × ByteArray × Nat × Option FieldType := (({ cls := "PolicyText$Reader", name := "faultOfToken", desc := "()I" } : Jvm.MethodName), prog_6_method_7_code, 1, (Option.some FieldType.int))
abbrev m_R_linkHeads : MethodName × ByteArray × Nat × Option FieldType := (({ cls := "PolicyText$Reader", name := "linkHeads", desc := "(Z)V" } : Jvm.MethodName), prog_6_method_25_code, 5, (Option.none : Option FieldType))
abbrev m_P_nodePart : MethodName × ByteArray × Nat × Option FieldType := (({ cls := "PolicyText$Policy", name := "nodePart", desc := "(II)I" } : Jvm.MethodName), prog_4_method_8_code, 4, (Option.some FieldType.int))
abbrev m_P_lettersOf : MethodName × ByteArray × Nat × Option FieldType := (({ cls := "PolicyText$Policy", name := "lettersOf", desc := "(J)I" } : Jvm.MethodName), prog_4_method_31_code, 4, (Option.some FieldType.int))
abbrev m_P_counterPart : MethodName × ByteArray × Nat × Option FieldType := (({ cls := "PolicyText$Policy", name := "counterPart", desc := "(II)I" } : Jvm.MethodName), prog_4_method_7_code, 4, (Option.some FieldType.int))
abbrev m_R_linkClause : MethodName × ByteArray × Nat × Option FieldType := (({ cls := "PolicyText$Reader", name := "linkClause", desc := "(ZII)V" } : Jvm.MethodName), prog_6_method_26_code, 8, (Option.none : Option FieldType))
abbrev m_P_clausePart : MethodName × ByteArray × Nat × Option FieldType := (({ cls := "PolicyText$Policy", name := "clausePart", desc := "(ZIII)I" } : Jvm.MethodName), prog_4_method_9_code, 6, (Option.some FieldType.int))
abbrev m_C_argumentsOf : MethodName × ByteArray × Nat × Option FieldType := (({ cls := "PolicyText$Call", name := "argumentsOf", desc := "(I)I" } : Jvm.MethodName), prog_3_method_6_code, 1, (Option.some FieldType.int))
abbrev m_P_testRow : MethodName × ByteArray × Nat × Option FieldType := (({ cls := "PolicyText$Policy", name := "testRow", desc := "(ZIII)I" } : Jvm.MethodName), prog_4_method_6_code, 6, (Option.some FieldType.int))
abbrev m_P_testPart : MethodName × ByteArray × Nat × Option FieldType := (({ cls := "PolicyText$Policy", name := "testPart", desc := "(II)I" } : Jvm.MethodName), prog_4_method_10_code, 3, (Option.some FieldType.int))
abbrev m_P_partOf : MethodName × ByteArray × Nat × Option FieldType := (({ cls := "PolicyText$Policy", name := "partOf", desc := "(II)I" } : Jvm.MethodName), prog_4_method_33_code, 2, (Option.some FieldType.int))
abbrev m_R_placeIn : MethodName × ByteArray × Nat × Option FieldType := (({ cls := "PolicyText$Reader", name := "placeIn", desc := "([II)I" } : Jvm.MethodName), prog_6_method_24_code, 2, (Option.some FieldType.int))
abbrev m_R_linked : MethodName × ByteArray × Nat × Option FieldType := (({ cls := "PolicyText$Reader", name := "linked", desc := "(ZI)I" } : Jvm.MethodName), prog_6_method_27_code, 4, (Option.some FieldType.int))
abbrev m_P_setWhich : MethodName × ByteArray × Nat × Option FieldType := (({ cls := "PolicyText$Policy", name := "setWhich", desc := "(II)V" } : Jvm.MethodName), prog_4_method_23_code, 3, (Option.none : Option FieldType))
abbrev m_P_setGoal : MethodName × ByteArray × Nat × Option FieldType := (({ cls := "PolicyText$Policy", name := "setGoal", desc := "(II)V" } : Jvm.MethodName), prog_4_method_22_code, 3, (Option.none : Option FieldType))
abbrev m_X_print : MethodName × ByteArray × Nat × Option FieldType := (({ cls := "PolicyText", name := "print", desc := "()I" } : Jvm.MethodName), prog_1_method_6_code, 3, (Option.some FieldType.int))
abbrev m_W_init : MethodName × ByteArray × Nat × Option FieldType := (({ cls := "PolicyText$Printer", name := "<init>", desc := "(LPolicyText$Policy;LPolicyText$Bytes;)V" } : Jvm.MethodName), prog_5_method_1_code, 3, (Option.none : Option FieldType))
abbrev m_W_writeCounter : MethodName × ByteArray × Nat × Option FieldType := (({ cls := "PolicyText$Printer", name := "writeCounter", desc := "(I)V" } : Jvm.MethodName), prog_5_method_3_code, 4, (Option.none : Option FieldType))
abbrev m_W_writeText : MethodName × ByteArray × Nat × Option FieldType := (({ cls := "PolicyText$Printer", name := "writeText", desc := "(Ljava/lang/String;)V" } : Jvm.MethodName), prog_5_method_9_code, 3, (Option.none : Option FieldType))
abbrev m_W_writeName : MethodName × ByteArray × Nat × Option FieldType := (({ cls := "PolicyText$Printer", name := "writeName", desc := "(J)V" } : Jvm.MethodName), prog_5_method_7_code, 5, (Option.none : Option FieldType))
abbrev m_W_writeNumber : MethodName × ByteArray × Nat × Option FieldType := (({ cls := "PolicyText$Printer", name := "writeNumber", desc := "(I)V" } : Jvm.MethodName), prog_5_method_8_code, 6, (Option.none : Option FieldType))
abbrev m_W_writeCallAndTests : MethodName × ByteArray × Nat × Option FieldType := (({ cls := "PolicyText$Printer", name := "writeCallAndTests", desc := "(ZII)V" } : Jvm.MethodName), prog_5_method_5_code, 9, (Option.none : Option FieldType))
abbrev m_W_writeTest : MethodName × ByteArray × Nat × Option FieldType := (({ cls := "PolicyText$Printer", name := "writeTest", desc := "(I)V" } : Jvm.MethodName), prog_5_method_6_code, 4, (Option.none : Option FieldType))
abbrev m_P_boundOf : MethodName × ByteArray × Nat × Option FieldType := (({ cls := "PolicyText$Policy", name := "boundOf", desc := "(I)I" } : Jvm.MethodName), prog_4_method_11_code, 2, (Option.some FieldType.int))
abbrev m_W_writeNode : MethodName × ByteArray × Nat × Option FieldType := (({ cls := "PolicyText$Printer", name := "writeNode", desc := "(I)V" } : Jvm.MethodName), prog_5_method_4_code, 4, (Option.none : Option FieldType))
abbrev m_W_hasFitted : MethodName × ByteArray × Nat × Option FieldType := (({ cls := "PolicyText$Printer", name := "hasFitted", desc := "()Z" } : Jvm.MethodName), prog_5_method_2_code, 1, (Option.some FieldType.boolean))
abbrev m_X_turnOver : MethodName × ByteArray × Nat × Option FieldType := (({ cls := "PolicyText", name := "turnOver", desc := "()Z" } : Jvm.MethodName), prog_1_method_7_code, 1, (Option.some FieldType.boolean))
abbrev m_B_become : MethodName × ByteArray × Nat × Option FieldType := (({ cls := "PolicyText$Bytes", name := "become", desc := "(LPolicyText$Bytes;)Z" } : Jvm.MethodName), prog_2_method_8_code, 2, (Option.some FieldType.boolean))
abbrev m_X_stand : MethodName × ByteArray × Nat × Option FieldType := (({ cls := "PolicyText", name := "stand", desc := "(II)Z" } : Jvm.MethodName), prog_1_method_8_code, 3, (Option.some FieldType.boolean))
abbrev m_P_setStand : MethodName × ByteArray × Nat × Option FieldType := (({ cls := "PolicyText$Policy", name := "setStand", desc := "(II)Z" } : Jvm.MethodName), prog_4_method_24_code, 4, (Option.some FieldType.boolean))
abbrev m_X_counter : MethodName × ByteArray × Nat × Option FieldType := (({ cls := "PolicyText", name := "counter", desc := "(II)I" } : Jvm.MethodName), prog_1_method_9_code, 3, (Option.some FieldType.int))
abbrev m_X_node : MethodName × ByteArray × Nat × Option FieldType := (({ cls := "PolicyText", name := "node", desc := "(II)I" } : Jvm.MethodName), prog_1_method_10_code, 3, (Option.some FieldType.int))
abbrev m_X_clause : MethodName × ByteArray × Nat × Option FieldType := (({ cls := "PolicyText", name := "clause", desc := "(ZIII)I" } : Jvm.MethodName), prog_1_method_11_code, 5, (Option.some FieldType.int))
abbrev m_X_test : MethodName × ByteArray × Nat × Option FieldType := (({ cls := "PolicyText", name := "test", desc := "(ZIIII)I" } : Jvm.MethodName), prog_1_method_12_code, 6, (Option.some FieldType.int))
abbrev m_X_than : MethodName × ByteArray × Nat × Option FieldType := (({ cls := "PolicyText", name := "than", desc := "(ZIII)I" } : Jvm.MethodName), prog_1_method_13_code, 5, (Option.some FieldType.int))
abbrev m_X_call : MethodName × ByteArray × Nat × Option FieldType := (({ cls := "PolicyText", name := "call", desc := "(IIII)Z" } : Jvm.MethodName), prog_1_method_14_code, 5, (Option.some FieldType.boolean))
abbrev m_C_become : MethodName × ByteArray × Nat × Option FieldType := (({ cls := "PolicyText$Call", name := "become", desc := "(IIII)V" } : Jvm.MethodName), prog_3_method_2_code, 5, (Option.none : Option FieldType))
abbrev m_X_holds : MethodName × ByteArray × Nat × Option FieldType := (({ cls := "PolicyText", name := "holds", desc := "(ZII)Z" } : Jvm.MethodName), prog_1_method_15_code, 4, (Option.some FieldType.boolean))
abbrev m_P_applies : MethodName × ByteArray × Nat × Option FieldType := (({ cls := "PolicyText$Policy", name := "applies", desc := "(ZIILPolicyText$Call;)Z" } : Jvm.MethodName), prog_4_method_25_code, 7, (Option.some FieldType.boolean))
abbrev m_C_isOf : MethodName × ByteArray × Nat × Option FieldType := (({ cls := "PolicyText$Call", name := "isOf", desc := "(I)Z" } : Jvm.MethodName), prog_3_method_3_code, 2, (Option.some FieldType.boolean))
abbrev m_P_isTrue : MethodName × ByteArray × Nat × Option FieldType := (({ cls := "PolicyText$Policy", name := "isTrue", desc := "(ILPolicyText$Call;)Z" } : Jvm.MethodName), prog_4_method_26_code, 7, (Option.some FieldType.boolean))
abbrev m_P_compares : MethodName × ByteArray × Nat × Option FieldType := (({ cls := "PolicyText$Policy", name := "compares", desc := "(III)Z" } : Jvm.MethodName), prog_4_method_30_code, 3, (Option.some FieldType.boolean))
abbrev m_C_has : MethodName × ByteArray × Nat × Option FieldType := (({ cls := "PolicyText$Call", name := "has", desc := "(I)Z" } : Jvm.MethodName), prog_3_method_4_code, 2, (Option.some FieldType.boolean))
abbrev m_C_argument : MethodName × ByteArray × Nat × Option FieldType := (({ cls := "PolicyText$Call", name := "argument", desc := "(I)I" } : Jvm.MethodName), prog_3_method_5_code, 2, (Option.some FieldType.int))
abbrev m_X_make : MethodName × ByteArray × Nat × Option FieldType := (({ cls := "PolicyText", name := "make", desc := "(I)I" } : Jvm.MethodName), prog_1_method_16_code, 3, (Option.some FieldType.int))
abbrev m_P_reachedFrom : MethodName × ByteArray × Nat × Option FieldType := (({ cls := "PolicyText$Policy", name := "reachedFrom", desc := "(ILPolicyText$Call;)I" } : Jvm.MethodName), prog_4_method_27_code, 6, (Option.some FieldType.int))
abbrev m_I_bitCount : MethodName × ByteArray × Nat × Option FieldType := (({ cls := "java/lang/Integer", name := "bitCount", desc := "(I)I" } : Jvm.MethodName), prog_10_method_49_code, 1, (Option.some FieldType.int))
abbrev m_P_moveCounters : MethodName × ByteArray × Nat × Option FieldType := (({ cls := "PolicyText$Policy", name := "moveCounters", desc := "(LPolicyText$Call;)V" } : Jvm.MethodName), prog_4_method_28_code, 3, (Option.none : Option FieldType))
abbrev m_P_standAfter : MethodName × ByteArray × Nat × Option FieldType := (({ cls := "PolicyText$Policy", name := "standAfter", desc := "(ILPolicyText$Call;)I" } : Jvm.MethodName), prog_4_method_29_code, 7, (Option.some FieldType.int))
abbrev m_A_min : MethodName × ByteArray × Nat × Option FieldType := (({ cls := "java/lang/Math", name := "min", desc := "(II)I" } : Jvm.MethodName), prog_11_method_69_code, 2, (Option.some FieldType.int))
abbrev m_X_byteAt : MethodName × ByteArray × Nat × Option FieldType := (({ cls := "PolicyText", name := "byteAt", desc := "(IZ)I" } : Jvm.MethodName), prog_1_method_17_code, 3, (Option.some FieldType.int))
abbrev m_X_look : MethodName × ByteArray × Nat × Option FieldType := (({ cls := "PolicyText", name := "look", desc := "(I)I" } : Jvm.MethodName), prog_1_method_18_code, 2, (Option.some FieldType.int))
abbrev m_R_latestFault : MethodName × ByteArray × Nat × Option FieldType := (({ cls := "PolicyText$Reader", name := "latestFault", desc := "()I" } : Jvm.MethodName), prog_6_method_2_code, 1, (Option.some FieldType.int))
abbrev m_R_latestPlace : MethodName × ByteArray × Nat × Option FieldType := (({ cls := "PolicyText$Reader", name := "latestPlace", desc := "()I" } : Jvm.MethodName), prog_6_method_3_code, 1, (Option.some FieldType.int))
abbrev m_P_testsInAll : MethodName × ByteArray × Nat × Option FieldType := (({ cls := "PolicyText$Policy", name := "testsInAll", desc := "()I" } : Jvm.MethodName), prog_4_method_3_code, 1, (Option.some FieldType.int))
abbrev m_M_init : MethodName × ByteArray × Nat × Option FieldType := (({ cls := "PolicyTextModel", name := "<init>", desc := "()V" } : Jvm.MethodName), prog_9_method_1_code, 1, (Option.none : Option FieldType))
abbrev m_M_readPolicy : MethodName × ByteArray × Nat × Option FieldType := (({ cls := "PolicyTextModel", name := "readPolicy", desc := "()V" } : Jvm.MethodName), prog_9_method_22_code, 2, (Option.none : Option FieldType))
abbrev m_M_next : MethodName × ByteArray × Nat × Option FieldType := (({ cls := "PolicyTextModel", name := "next", desc := "()V" } : Jvm.MethodName), prog_9_method_13_code, 3, (Option.none : Option FieldType))
abbrev m_M_letterAt : MethodName × ByteArray × Nat × Option FieldType := (({ cls := "PolicyTextModel", name := "letterAt", desc := "(I)I" } : Jvm.MethodName), prog_9_method_9_code, 2, (Option.some FieldType.int))
abbrev m_M_isOfWord : MethodName × ByteArray × Nat × Option FieldType := (({ cls := "PolicyTextModel", name := "isOfWord", desc := "(I)Z" } : Jvm.MethodName), prog_9_method_12_code, 1, (Option.some FieldType.boolean))
abbrev m_M_isDigit : MethodName × ByteArray × Nat × Option FieldType := (({ cls := "PolicyTextModel", name := "isDigit", desc := "(I)Z" } : Jvm.MethodName), prog_9_method_10_code, 1, (Option.some FieldType.boolean))
abbrev m_M_isSmall : MethodName × ByteArray × Nat × Option FieldType := (({ cls := "PolicyTextModel", name := "isSmall", desc := "(I)Z" } : Jvm.MethodName), prog_9_method_11_code, 1, (Option.some FieldType.boolean))
abbrev m_M_wrong : MethodName × ByteArray × Nat × Option FieldType := (({ cls := "PolicyTextModel", name := "wrong", desc := "(II)V" } : Jvm.MethodName), prog_9_method_8_code, 3, (Option.none : Option FieldType))
abbrev m_M_takeName : MethodName × ByteArray × Nat × Option FieldType := (({ cls := "PolicyTextModel", name := "takeName", desc := "(I)V" } : Jvm.MethodName), prog_9_method_14_code, 4, (Option.none : Option FieldType))
abbrev m_M_takeNumber : MethodName × ByteArray × Nat × Option FieldType := (({ cls := "PolicyTextModel", name := "takeNumber", desc := "(I)V" } : Jvm.MethodName), prog_9_method_15_code, 7, (Option.none : Option FieldType))
abbrev m_M_isWord : MethodName × ByteArray × Nat × Option FieldType := (({ cls := "PolicyTextModel", name := "isWord", desc := "(Ljava/lang/String;)Z" } : Jvm.MethodName), prog_9_method_17_code, 2, (Option.some FieldType.boolean))
abbrev m_M_named : MethodName × ByteArray × Nat × Option FieldType := (({ cls := "PolicyTextModel", name := "named", desc := "(Ljava/lang/String;)J" } : Jvm.MethodName), prog_9_method_16_code, 4, (Option.some FieldType.long))
abbrev m_M_readCounter : MethodName × ByteArray × Nat × Option FieldType := (({ cls := "PolicyTextModel", name := "readCounter", desc := "()V" } : Jvm.MethodName), prog_9_method_24_code, 2, (Option.none : Option FieldType))
abbrev m_M_isReserved : MethodName × ByteArray × Nat × Option FieldType := (({ cls := "PolicyTextModel", name := "isReserved", desc := "()Z" } : Jvm.MethodName), prog_9_method_18_code, 1, (Option.some FieldType.boolean))
abbrev m_M_isOld : MethodName × ByteArray × Nat × Option FieldType := (({ cls := "PolicyTextModel", name := "isOld", desc := "([JI)Z" } : Jvm.MethodName), prog_9_method_23_code, 5, (Option.some FieldType.boolean))
abbrev m_M_must : MethodName × ByteArray × Nat × Option FieldType := (({ cls := "PolicyTextModel", name := "must", desc := "(Z)Z" } : Jvm.MethodName), prog_9_method_19_code, 2, (Option.some FieldType.boolean))
abbrev m_M_readCall : MethodName × ByteArray × Nat × Option FieldType := (({ cls := "PolicyTextModel", name := "readCall", desc := "()I" } : Jvm.MethodName), prog_9_method_26_code, 3, (Option.some FieldType.int))
abbrev m_M_readGuards : MethodName × ByteArray × Nat × Option FieldType := (({ cls := "PolicyTextModel", name := "readGuards", desc := "(I)V" } : Jvm.MethodName), prog_9_method_28_code, 3, (Option.none : Option FieldType))
abbrev m_M_readGuard : MethodName × ByteArray × Nat × Option FieldType := (({ cls := "PolicyTextModel", name := "readGuard", desc := "(I)V" } : Jvm.MethodName), prog_9_method_29_code, 4, (Option.none : Option FieldType))
abbrev m_M_expect : MethodName × ByteArray × Nat × Option FieldType := (({ cls := "PolicyTextModel", name := "expect", desc := "(I)V" } : Jvm.MethodName), prog_9_method_20_code, 2, (Option.none : Option FieldType))
abbrev m_M_note : MethodName × ByteArray × Nat × Option FieldType := (({ cls := "PolicyTextModel", name := "note", desc := "(III)V" } : Jvm.MethodName), prog_9_method_27_code, 4, (Option.none : Option FieldType))
abbrev m_M_readNode : MethodName × ByteArray × Nat × Option FieldType := (({ cls := "PolicyTextModel", name := "readNode", desc := "()V" } : Jvm.MethodName), prog_9_method_25_code, 4, (Option.none : Option FieldType))
abbrev m_M_expectWord : MethodName × ByteArray × Nat × Option FieldType := (({ cls := "PolicyTextModel", name := "expectWord", desc := "(Ljava/lang/String;)V" } : Jvm.MethodName), prog_9_method_21_code, 2, (Option.none : Option FieldType))
abbrev m_M_resolve : MethodName × ByteArray × Nat × Option FieldType := (({ cls := "PolicyTextModel", name := "resolve", desc := "()V" } : Jvm.MethodName), prog_9_method_30_code, 7, (Option.none : Option FieldType))
abbrev m_M_give : MethodName × ByteArray × Nat × Option FieldType := (({ cls := "PolicyTextModel", name := "give", desc := "(JI)Z" } : Jvm.MethodName), prog_9_method_3_code, 5, (Option.some FieldType.boolean))
abbrev m_M_cut : MethodName × ByteArray × Nat × Option FieldType := (({ cls := "PolicyTextModel", name := "cut", desc := "(I)Z" } : Jvm.MethodName), prog_9_method_4_code, 2, (Option.some FieldType.boolean))
abbrev m_M_poke : MethodName × ByteArray × Nat × Option FieldType := (({ cls := "PolicyTextModel", name := "poke", desc := "(II)Z" } : Jvm.MethodName), prog_9_method_5_code, 3, (Option.some FieldType.boolean))
abbrev m_M_turnOver : MethodName × ByteArray × Nat × Option FieldType := (({ cls := "PolicyTextModel", name := "turnOver", desc := "()Z" } : Jvm.MethodName), prog_9_method_6_code, 2, (Option.some FieldType.boolean))
abbrev m_M_byteAt : MethodName × ByteArray × Nat × Option FieldType := (({ cls := "PolicyTextModel", name := "byteAt", desc := "(IZ)I" } : Jvm.MethodName), prog_9_method_7_code, 3, (Option.some FieldType.int))
abbrev m_M_read : MethodName × ByteArray × Nat × Option FieldType := (({ cls := "PolicyTextModel", name := "read", desc := "()I" } : Jvm.MethodName), prog_9_method_31_code, 3, (Option.some FieldType.int))
abbrev m_M_print : MethodName × ByteArray × Nat × Option FieldType := (({ cls := "PolicyTextModel", name := "print", desc := "()I" } : Jvm.MethodName), prog_9_method_41_code, 3, (Option.some FieldType.int))
abbrev m_M_open : MethodName × ByteArray × Nat × Option FieldType := (({ cls := "PolicyTextModel", name := "open", desc := "()V" } : Jvm.MethodName), prog_9_method_34_code, 1, (Option.none : Option FieldType))
abbrev m_M_blank : MethodName × ByteArray × Nat × Option FieldType := (({ cls := "PolicyTextModel", name := "blank", desc := "(Z)V" } : Jvm.MethodName), prog_9_method_33_code, 2, (Option.none : Option FieldType))
abbrev m_M_lay : MethodName × ByteArray × Nat × Option FieldType := (({ cls := "PolicyTextModel", name := "lay", desc := "(I)V" } : Jvm.MethodName), prog_9_method_32_code, 2, (Option.none : Option FieldType))
abbrev m_M_word : MethodName × ByteArray × Nat × Option FieldType := (({ cls := "PolicyTextModel", name := "word", desc := "(Ljava/lang/String;)V" } : Jvm.MethodName), prog_9_method_36_code, 3, (Option.none : Option FieldType))
abbrev m_M_nameOut : MethodName × ByteArray × Nat × Option FieldType := (({ cls := "PolicyTextModel", name := "nameOut", desc := "(JI)V" } : Jvm.MethodName), prog_9_method_37_code, 8, (Option.none : Option FieldType))
abbrev m_M_numberOut : MethodName × ByteArray × Nat × Option FieldType := (({ cls := "PolicyTextModel", name := "numberOut", desc := "(J)V" } : Jvm.MethodName), prog_9_method_38_code, 9, (Option.none : Option FieldType))
abbrev m_M_clauseOut : MethodName × ByteArray × Nat × Option FieldType := (({ cls := "PolicyTextModel", name := "clauseOut", desc := "(III)V" } : Jvm.MethodName), prog_9_method_39_code, 5, (Option.none : Option FieldType))
abbrev m_M_close : MethodName × ByteArray × Nat × Option FieldType := (({ cls := "PolicyTextModel", name := "close", desc := "()V" } : Jvm.MethodName), prog_9_method_35_code, 1, (Option.none : Option FieldType))
abbrev m_M_lineOut : MethodName × ByteArray × Nat × Option FieldType := (({ cls := "PolicyTextModel", name := "lineOut", desc := "()V" } : Jvm.MethodName), prog_9_method_40_code, 1, (Option.none : Option FieldType))
abbrev m_M_stand : MethodName × ByteArray × Nat × Option FieldType := (({ cls := "PolicyTextModel", name := "stand", desc := "(II)Z" } : Jvm.MethodName), prog_9_method_48_code, 3, (Option.some FieldType.boolean))
abbrev m_M_counter : MethodName × ByteArray × Nat × Option FieldType := (({ cls := "PolicyTextModel", name := "counter", desc := "(II)I" } : Jvm.MethodName), prog_9_method_49_code, 3, (Option.some FieldType.int))
abbrev m_M_howMany : MethodName × ByteArray × Nat × Option FieldType := (({ cls := "PolicyTextModel", name := "howMany", desc := "(ZI)I" } : Jvm.MethodName), prog_9_method_47_code, 4, (Option.some FieldType.int))
abbrev m_M_clauseAt : MethodName × ByteArray × Nat × Option FieldType := (({ cls := "PolicyTextModel", name := "clauseAt", desc := "(ZII)I" } : Jvm.MethodName), prog_9_method_46_code, 6, (Option.some FieldType.int))
abbrev m_M_node : MethodName × ByteArray × Nat × Option FieldType := (({ cls := "PolicyTextModel", name := "node", desc := "(II)I" } : Jvm.MethodName), prog_9_method_50_code, 3, (Option.some FieldType.int))
abbrev m_M_clause : MethodName × ByteArray × Nat × Option FieldType := (({ cls := "PolicyTextModel", name := "clause", desc := "(ZIII)I" } : Jvm.MethodName), prog_9_method_51_code, 7, (Option.some FieldType.int))
abbrev m_M_test : MethodName × ByteArray × Nat × Option FieldType := (({ cls := "PolicyTextModel", name := "test", desc := "(ZIIII)I" } : Jvm.MethodName), prog_9_method_53_code, 7, (Option.some FieldType.int))
abbrev m_M_testAt : MethodName × ByteArray × Nat × Option FieldType := (({ cls := "PolicyTextModel", name := "testAt", desc := "(ZIII)I" } : Jvm.MethodName), prog_9_method_52_code, 6, (Option.some FieldType.int))
abbrev m_M_than : MethodName × ByteArray × Nat × Option FieldType := (({ cls := "PolicyTextModel", name := "than", desc := "(ZIII)I" } : Jvm.MethodName), prog_9_method_54_code, 6, (Option.some FieldType.int))
abbrev m_M_call : MethodName × ByteArray × Nat × Option FieldType := (({ cls := "PolicyTextModel", name := "call", desc := "(IIII)Z" } : Jvm.MethodName), prog_9_method_56_code, 5, (Option.some FieldType.boolean))
abbrev m_M_holds : MethodName × ByteArray × Nat × Option FieldType := (({ cls := "PolicyTextModel", name := "holds", desc := "(ZII)Z" } : Jvm.MethodName), prog_9_method_57_code, 5, (Option.some FieldType.boolean))
abbrev m_M_ask : MethodName × ByteArray × Nat × Option FieldType := (({ cls := "PolicyTextModel", name := "ask", desc := "()V" } : Jvm.MethodName), prog_9_method_45_code, 2, (Option.none : Option FieldType))
abbrev m_M_isSo : MethodName × ByteArray × Nat × Option FieldType := (({ cls := "PolicyTextModel", name := "isSo", desc := "(ZII)Z" } : Jvm.MethodName), prog_9_method_55_code, 5, (Option.some FieldType.boolean))
abbrev m_M_hold : MethodName × ByteArray × Nat × Option FieldType := (({ cls := "PolicyTextModel", name := "hold", desc := "(III)Z" } : Jvm.MethodName), prog_9_method_43_code, 6, (Option.some FieldType.boolean))
abbrev m_M_isTrue : MethodName × ByteArray × Nat × Option FieldType := (({ cls := "PolicyTextModel", name := "isTrue", desc := "(II)Z" } : Jvm.MethodName), prog_9_method_42_code, 6, (Option.some FieldType.boolean))
abbrev m_M_make : MethodName × ByteArray × Nat × Option FieldType := (({ cls := "PolicyTextModel", name := "make", desc := "(I)I" } : Jvm.MethodName), prog_9_method_58_code, 6, (Option.some FieldType.int))
abbrev m_M_count : MethodName × ByteArray × Nat × Option FieldType := (({ cls := "PolicyTextModel", name := "count", desc := "([II)V" } : Jvm.MethodName), prog_9_method_44_code, 7, (Option.none : Option FieldType))
abbrev m_M_look : MethodName × ByteArray × Nat × Option FieldType := (({ cls := "PolicyTextModel", name := "look", desc := "(I)I" } : Jvm.MethodName), prog_9_method_59_code, 2, (Option.some FieldType.int))
end
section
/-! THE ABSTRACT MACHINE. A state is (heap size, slots used, cells by address); a_R ties it to the machine's heap; a_J is a frame's judgement, a_C a call's: both by continuation K. -/
abbrev aE : Type := (FieldType × vp_A) ⊕ (Nat × List Value)
abbrev aS : Type := Nat × Nat × (Nat → Option aE)
abbrev aG : Type := Launch × State × va_G × (FieldType → ClassId)
abbrev aM : Type := MethodName × ByteArray × Nat × Option FieldType
def a_e (dA : FieldType → ClassId) (e : aE) : va_E := match e with
  | .inl a => .inl (dA a.1, a.2)
  | .inr o => .inr o
def a_tys (dA : FieldType → ClassId) : List (ClassId × FieldType) := aTy.map fun t => (dA t, t)
def a_R (G : aG) (σ : aS) (H : Heap) : Prop := H.size = σ.1 ∧ G.2.1.heap.size ≤ σ.1 ∧ (∀ q : Nat, q < G.2.1.heap.size → H[q]? = G.2.1.heap[q]?) ∧ ∀ (a : Nat) (e : aE), σ.2.2 a = some e → G.2.1.heap.size ≤ a ∧ va_at G.2.2.1 vwCl (a, a_e G.2.2.2 e) H
def a_K (G : aG) : Prop := va_K G.2.2.1 vwCl (a_tys G.2.2.2) G.2.1
def a_Q (G : aG) (v : Option Value) (τ : aS) : Array Value → State → Outcome → State → Prop := fun _ _ o t => o = .returned v ∧ a_R G τ t.heap
def a_X (G : aG) (μ : aM) (d lo : Nat) (p : Program) (R : Room) (s : State) (m : MethodId) (args : Array Value) (meth : Method) (c : Code) : Prop :=
  p.tables.exec = Jvm.exec ∧ c.code = μ.2.1 ∧ meth.sig.returnType = μ.2.2.2 ∧ c.maxLocals = μ.2.2.1 ∧ s.vm.findClass μ.1.cls = some m.cls ∧ (∀ w ∈ aTs, w.before args s = true) ∧ meth.locks = false ∧ meth.name = μ.1.name ∧ a_K G ∧ G.2.1.WarmedH s.vm ∧ d ≤ R.frames ∧ lo ≤ R.locals
def a_J (G : aG) (μ : aM) (d lo pc : Nat) (lv : List (Nat × Value)) (st : List Value) (σ : aS) (K : Option Value → aS → Prop) : Prop :=
  ∃ (v : Option Value) (τ : aS), K v τ ∧ σ.1 ≤ τ.1 ∧ σ.2.1 ≤ τ.2.1 ∧
    ∀ (p : Program) (e : Env) (R : Room) (s : State) (m : MethodId) (args : Array Value) (below : List Frame) (meth : Method) (c : Code) (H : Heap) (locs : List Loc) (cells slots : Nat) (ls : Array Slot),
      a_X G μ d lo p R s m args meth c → a_R G σ H → (∀ q ∈ locs, G.2.1.heap.size ≤ q.base) → lv_has ls μ.2.2.1 lv → cells + (τ.1 - σ.1) ≤ R.cells → slots + (τ.2.1 - σ.2.1) ≤ R.slots →
      W p G.1 e R s m args below meth c H locs cells slots (MQ below (a_Q G v τ) args s (cells + (τ.1 - σ.1)) (slots + (τ.2.1 - σ.2.1)) (fun q => G.2.1.heap.size ≤ q)) (F0 m pc ls st)
def a_ws (μ : aM) : List Cond := Cond.code μ.1 μ.2.1 μ.2.2.1 μ.2.2.2 :: aTs
def a_C (G : aG) (μ : aM) (d lo : Nat) (av : List Value) (σ : aS) (K : Option Value → aS → Prop) : Prop :=
  ∃ (v : Option Value) (τ : aS), K v τ ∧ σ.1 ≤ τ.1 ∧ σ.2.1 ≤ τ.2.1 ∧
    Met G.1 μ.1 (a_ws μ) { frames := d, cells := τ.1 - σ.1, slots := τ.2.1 - σ.2.1, locals := lo } (va_Pc av (fun U => a_K G ∧ a_R G σ U.heap ∧ G.2.1.WarmedH U.vm)) (a_Q G v τ) (τ.1 - σ.1) (τ.2.1 - σ.2.1) (fun q => G.2.1.heap.size ≤ q)
section Core
variable {G : aG} {μ : aM} {d lo pc : Nat} {lv : List (Nat × Value)} {st : List Value} {σ : aS} {K : Option Value → aS → Prop}
theorem a_J.mono {K' : Option Value → aS → Prop} (h : a_J G μ d lo pc lv st σ K) (hk : ∀ v τ, K v τ → K' v τ) : a_J G μ d lo pc lv st σ K' := by
  obtain ⟨v, τ, h1, h2⟩ := h
  exact ⟨v, τ, hk _ _ h1, h2⟩
theorem a_C.mono {av : List Value} {K' : Option Value → aS → Prop} (h : a_C G μ d lo av σ K) (hk : ∀ v τ, K v τ → K' v τ) : a_C G μ d lo av σ K' := by
  obtain ⟨v, τ, h1, h2⟩ := h
  exact ⟨v, τ, hk _ _ h1, h2⟩
theorem a_enter {av : List Value} (hy : plainName μ.1.cls = true) (hl : (lg_sl av).length ≤ μ.2.2.1) (h : a_J G μ d lo 0 (lv_args 0 av) [] σ K) : a_C G μ d lo av σ K := by
  obtain ⟨v, τ, hK, h1, h2, hW⟩ := h
  refine ⟨v, τ, hK, h1, h2, ?_⟩
  refine Met.ofW (cc := μ.2.1) (maxL := μ.2.2.1) (ret := μ.2.2.2) hy rfl ?_
  intro p e s m args below meth c s₁ B hml hv
  obtain ⟨rfl, hKG, hR, hA⟩ := hv
  have hx : a_X G μ d lo p (headSpec (a_ws μ) { frames := d, cells := τ.1 - σ.1, slots := τ.2.1 - σ.2.1, locals := lo }).room s m av.toArray meth c :=
    ⟨B.exec, B.bytes, B.returns, hml, findClass_of_methodNamed B.named, fun w hw => atoms_spec (ws := a_ws μ) B.pre w (List.mem_cons_of_mem _ hw), B.notSynchronized, (name_of_methodNamed B.named B.method).1, hKG, hA, Nat.le_refl _, Nat.le_refl _⟩
  have hw := hW p e _ s m av.toArray below meth c s.heap [] 0 0 _ hx hR (fun _ h => by cases h) (lv_entry av hl) (by rw [Nat.zero_add]; exact Nat.le_refl _) (by rw [Nat.zero_add]; exact Nat.le_refl _)
  rw [lg_entry_eq]
  rw [Nat.zero_add, Nat.zero_add] at hw
  exact hw
/-- a step that leaves heap and locals: from the kit's row -/
theorem a_step {pc' : Nat} {st' : List Value} (k : a_J G μ d lo pc' lv st' σ K)
    (h : ∀ {p : Program} {e : Env} {R : Room} {s : State} {m : MethodId} {args : Array Value} {below : List Frame} {meth : Method} {c : Code} {H : Heap} {locs : List Loc} {cells slots : Nat} {ls : Array Slot} {Q : State → Prop}, a_X G μ d lo p R s m args meth c → a_R G σ H → lv_has ls μ.2.2.1 lv →
      W p G.1 e R s m args below meth c H locs cells slots Q (F0 m pc' ls st') → W p G.1 e R s m args below meth c H locs cells slots Q (F0 m pc ls st)) : a_J G μ d lo pc lv st σ K := by
  obtain ⟨v, τ, hK, h1, h2, hW⟩ := k
  exact ⟨v, τ, hK, h1, h2, fun p e R s m args below meth c H locs cells slots ls hX hR hlc hl hc hs => h hX hR hl (hW p e R s m args below meth c H locs cells slots ls hX hR hlc hl hc hs)⟩
/-- a step that changes the locals -/
theorem a_stepL {pc' : Nat} {lv' : List (Nat × Value)} {st' : List Value} (k : a_J G μ d lo pc' lv' st' σ K)
    (h : ∀ {p : Program} {e : Env} {R : Room} {s : State} {m : MethodId} {args : Array Value} {below : List Frame} {meth : Method} {c : Code} {H : Heap} {locs : List Loc} {cells slots : Nat} {ls : Array Slot} {Q : State → Prop}, a_X G μ d lo p R s m args meth c → lv_has ls μ.2.2.1 lv →
      (∀ ls', lv_has ls' μ.2.2.1 lv' → W p G.1 e R s m args below meth c H locs cells slots Q (F0 m pc' ls' st')) → W p G.1 e R s m args below meth c H locs cells slots Q (F0 m pc ls st)) : a_J G μ d lo pc lv st σ K := by
  obtain ⟨v, τ, hK, h1, h2, hW⟩ := k
  exact ⟨v, τ, hK, h1, h2, fun p e R s m args below meth c H locs cells slots ls hX hR hlc hl hc hs => h hX hl (fun ls' hl' => hW p e R s m args below meth c H locs cells slots ls' hX hR hlc hl' hc hs)⟩
end Core
/-- the locals by number -/
def a_get : List (Nat × Value) → Nat → Option Value
  | [], _ => none
  | q :: r, i => bif Nat.beq q.1 i then some q.2 else a_get r i
theorem a_get_mem : ∀ {lv : List (Nat × Value)} {i : Nat} {v : Value}, a_get lv i = some v → (i, v) ∈ lv
  | [], _, _, h => by simp [a_get] at h
  | q :: r, i, v, h => by
    unfold a_get at h
    cases hb : Nat.beq q.1 i with
    | true =>
      rw [hb] at h
      have e1 : q.1 = i := Nat.eq_of_beq_eq_true hb
      have e2 : q.2 = v := Option.some.inj h
      rw [← e1, ← e2]
      exact List.mem_cons_self
    | false =>
      rw [hb] at h
      exact List.mem_cons_of_mem _ (a_get_mem h)
theorem a_at {ls : Array Slot} {n : Nat} {lv : List (Nat × Value)} {i : Nat} {v : Value} (h : lv_has ls n lv) (hg : a_get lv i = some v) : ls[i]? = some (.val v) := h.2.2 (i, v) (a_get_mem hg)
def a_put1 (i : Nat) (v : Value) (lv : List (Nat × Value)) : List (Nat × Value) := (i, v) :: lv.filter (fun q => !(q.1 == i) && !(q.1 + 1 == i && q.2.category == 2))
def a_put2 (i : Nat) (v : Value) (lv : List (Nat × Value)) : List (Nat × Value) := (i, v) :: lv.filter (fun q => !(q.1 == i) && (!(q.1 == i + 1) && !(q.1 + 1 == i && q.2.category == 2)))
def a_has (lv : List (Nat × Value)) : List (Nat × Value) → Prop
  | [] => True
  | q :: r => a_get lv q.1 = some q.2 ∧ a_has lv r
theorem a_has_mem {lv : List (Nat × Value)} : ∀ {l : List (Nat × Value)}, a_has lv l → ∀ q ∈ l, q ∈ lv
  | [], _, q, hq => by cases hq
  | x :: r, h, q, hq => by
    rcases List.mem_cons.mp hq with rfl | hq
    · exact a_get_mem h.1
    · exact a_has_mem h.2 q hq
def a_upd (σ : aS) (a : Nat) (e : aE) : aS := (σ.1, σ.2.1, fun b => if b = a then some e else σ.2.2 b)
def a_new (σ : aS) (n : Nat) (e : aE) : aS := (σ.1 + 1, σ.2.1 + n, fun b => if b = σ.1 then some e else σ.2.2 b)
theorem a_us {σ : aS} {a : Nat} {e : aE} : (a_upd σ a e).2.2 a = some e := by simp [a_upd]
theorem a_un {σ : aS} {a b : Nat} {e : aE} {f : Option aE} (h : b ≠ a) (hc : σ.2.2 b = f) : (a_upd σ a e).2.2 b = f := by simp [a_upd, h, hc]
theorem a_ns {σ : aS} {n : Nat} {e : aE} : (a_new σ n e).2.2 σ.1 = some e := by simp [a_new]
theorem a_nn {σ : aS} {n b : Nat} {e : aE} {f : Option aE} (h : b ≠ σ.1) (hc : σ.2.2 b = f) : (a_new σ n e).2.2 b = f := by simp [a_new, h, hc]
/-- nothing changed but cells lo .. hi - 1 -/
def a_fr (σ τ : aS) (lo hi : Nat) : Prop := τ.1 = σ.1 ∧ τ.2.1 = σ.2.1 ∧ ∀ a : Nat, (a < lo ∨ hi ≤ a) → τ.2.2 a = σ.2.2 a
theorem a_fr.rf {σ : aS} {lo hi : Nat} : a_fr σ σ lo hi := ⟨rfl, rfl, fun _ _ => rfl⟩
theorem a_fr.trans {σ τ υ : aS} {lo hi : Nat} (h : a_fr σ τ lo hi) (g : a_fr τ υ lo hi) : a_fr σ υ lo hi := ⟨g.1.trans h.1, g.2.1.trans h.2.1, fun a ha => (g.2.2 a ha).trans (h.2.2 a ha)⟩
theorem a_fr.upd {σ τ : aS} {lo hi a : Nat} {e : aE} (h : a_fr σ τ lo hi) (h1 : lo ≤ a) (h2 : a < hi) : a_fr σ (a_upd τ a e) lo hi := ⟨h.1, h.2.1, fun b hb => (a_un (by omega) rfl).trans (h.2.2 b hb)⟩
theorem a_fr.wide {σ τ : aS} {lo hi lo' hi' : Nat} (h : a_fr σ τ lo hi) (h1 : lo' ≤ lo) (h2 : hi ≤ hi') : a_fr σ τ lo' hi' := ⟨h.1, h.2.1, fun b hb => h.2.2 b (by omega)⟩
theorem a_P1 {D : va_G} {cl : List vw_C} {q : Nat × va_E} {H : Heap} (h : va_at D cl q H) : va_P D cl [q] H := by
  intro k x hk
  have hz : k < 1 := (List.getElem?_eq_some_iff.mp hk).1
  rw [show k = 0 by omega] at hk
  cases hk
  exact h
section Core2
variable {G : aG} {μ : aM} {d lo pc : Nat} {lv : List (Nat × Value)} {st : List Value} {σ : aS} {K : Option Value → aS → Prop}
theorem a_lv (l : List (Nat × Value)) (h : a_has lv l) (k : a_J G μ d lo pc l st σ K) : a_J G μ d lo pc lv st σ K := by
  obtain ⟨v, τ, hK, h1, h2, hW⟩ := k
  exact ⟨v, τ, hK, h1, h2, fun p e R s m args below meth c H locs cells slots ls hX hR hlc hl hc hs => hW p e R s m args below meth c H locs cells slots ls hX hR hlc ⟨hl.1, hl.2.1, fun q hq => hl.2.2 q (a_has_mem h q hq)⟩ hc hs⟩
theorem a_R.cell {H : Heap} {a : Nat} {e : aE} (h : a_R G σ H) (hc : σ.2.2 a = some e) : va_at G.2.2.1 vwCl (a, a_e G.2.2.2 e) H := (h.2.2.2 a e hc).2
theorem a_R.upd {H H1 : Heap} {a : Nat} {e : aE} (h : a_R G σ H) (ha : G.2.1.heap.size ≤ a) (hz : H1.size = H.size) (ho : ∀ q : Nat, q ≠ a → H1[q]? = H[q]?) (he : va_at G.2.2.1 vwCl (a, a_e G.2.2.2 e) H1) : a_R G (a_upd σ a e) H1 := by
  obtain ⟨h1, h2, h3, h4⟩ := h
  refine ⟨hz.trans h1, h2, fun q hq => (ho q (by omega)).trans (h3 q hq), fun b f hf => ?_⟩
  by_cases hb : b = a
  · subst hb
    have : f = e := by simpa [a_upd] using hf.symm
    subst this
    exact ⟨ha, he⟩
  · have hf' : σ.2.2 b = some f := by simpa [a_upd, hb] using hf
    exact ⟨(h4 b f hf').1, (h4 b f hf').2.kept (ho b hb)⟩
theorem a_R.new {H H1 : Heap} {n : Nat} {e : aE} (h : a_R G σ H) (hz : H1.size = σ.1 + 1) (ho : ∀ q : Nat, q < σ.1 → H1[q]? = H[q]?) (he : va_at G.2.2.1 vwCl (σ.1, a_e G.2.2.2 e) H1) : a_R G (a_new σ n e) H1 := by
  obtain ⟨h1, h2, h3, h4⟩ := h
  refine ⟨hz, Nat.le_succ_of_le h2, fun q hq => (ho q (by omega)).trans (h3 q hq), fun b f hf => ?_⟩
  by_cases hb : b = σ.1
  · subst hb
    have : f = e := by simpa [a_new] using hf.symm
    subst this
    exact ⟨h2, he⟩
  · have hf' : σ.2.2 b = some f := by simpa [a_new, hb] using hf
    have h5 := h4 b f hf'
    have hlt : b < H.size := h5.2.lt
    exact ⟨h5.1, h5.2.kept (ho b (by omega))⟩
theorem a_iconst {n : Int} {v : Int32} (hd : decode μ.2.1 pc = .ok (.iconst n, 1)) (hv : Int32.ofInt n = v) (k : a_J G μ d lo (pc + 1) lv (.int v :: st) σ K) : a_J G μ d lo pc lv (st) σ K := a_step k (fun hX _ _ k => lv_iconst hX.1 hX.2.1 hd hv k)
theorem a_bipush {n : Int} {v : Int32} (hd : decode μ.2.1 pc = .ok (.bipush n, 2)) (hv : (Int8.ofInt n).toInt32 = v) (k : a_J G μ d lo (pc + 2) lv (.int v :: st) σ K) : a_J G μ d lo pc lv (st) σ K := a_step k (fun hX _ _ k => lv_bipush hX.1 hX.2.1 hd hv k)
theorem a_sipush {n : Int} {v : Int32} (hd : decode μ.2.1 pc = .ok (.sipush n, 3)) (hv : (Int16.ofInt n).toInt32 = v) (k : a_J G μ d lo (pc + 3) lv (.int v :: st) σ K) : a_J G μ d lo pc lv (st) σ K := a_step k (fun hX _ _ k => lv_sipush hX.1 hX.2.1 hd hv k)
theorem a_lconst {n : Fin 2} {v : Int64} (hd : decode μ.2.1 pc = .ok (.lconst n, 1)) (hv : Int64.ofNat (n : Nat) = v) (k : a_J G μ d lo (pc + 1) lv (.long v :: st) σ K) : a_J G μ d lo pc lv (st) σ K := a_step k (fun hX _ _ k => lv_lconst hX.1 hX.2.1 hd hv k)
theorem a_iadd {x y : Int32} (hd : decode μ.2.1 pc = .ok (.iadd, 1)) (k : a_J G μ d lo (pc + 1) lv (.int (x + y) :: st) σ K) : a_J G μ d lo pc lv (.int y :: .int x :: st) σ K := a_step k (fun hX _ _ k => lv_iadd hX.1 hX.2.1 hd k)
theorem a_isub {x y : Int32} (hd : decode μ.2.1 pc = .ok (.isub, 1)) (k : a_J G μ d lo (pc + 1) lv (.int (x - y) :: st) σ K) : a_J G μ d lo pc lv (.int y :: .int x :: st) σ K := a_step k (fun hX _ _ k => lv_isub hX.1 hX.2.1 hd k)
theorem a_imul {x y : Int32} (hd : decode μ.2.1 pc = .ok (.imul, 1)) (k : a_J G μ d lo (pc + 1) lv (.int (x * y) :: st) σ K) : a_J G μ d lo pc lv (.int y :: .int x :: st) σ K := a_step k (fun hX _ _ k => lv_imul hX.1 hX.2.1 hd k)
theorem a_iand {x y : Int32} (hd : decode μ.2.1 pc = .ok (.iand, 1)) (k : a_J G μ d lo (pc + 1) lv (.int (x &&& y) :: st) σ K) : a_J G μ d lo pc lv (.int y :: .int x :: st) σ K := a_step k (fun hX _ _ k => lv_iand hX.1 hX.2.1 hd k)
theorem a_ior {x y : Int32} (hd : decode μ.2.1 pc = .ok (.ior, 1)) (k : a_J G μ d lo (pc + 1) lv (.int (x ||| y) :: st) σ K) : a_J G μ d lo pc lv (.int y :: .int x :: st) σ K := a_step k (fun hX _ _ k => lv_ior hX.1 hX.2.1 hd k)
theorem a_ixor {x y : Int32} (hd : decode μ.2.1 pc = .ok (.ixor, 1)) (k : a_J G μ d lo (pc + 1) lv (.int (x ^^^ y) :: st) σ K) : a_J G μ d lo pc lv (.int y :: .int x :: st) σ K := a_step k (fun hX _ _ k => lv_ixor hX.1 hX.2.1 hd k)
theorem a_ishl {x y : Int32} (hd : decode μ.2.1 pc = .ok (.ishl, 1)) (k : a_J G μ d lo (pc + 1) lv (.int (x <<< (y &&& 31)) :: st) σ K) : a_J G μ d lo pc lv (.int y :: .int x :: st) σ K := a_step k (fun hX _ _ k => lv_ishl hX.1 hX.2.1 hd k)
theorem a_ishr {x y : Int32} (hd : decode μ.2.1 pc = .ok (.ishr, 1)) (k : a_J G μ d lo (pc + 1) lv (.int (x >>> (y &&& 31)) :: st) σ K) : a_J G μ d lo pc lv (.int y :: .int x :: st) σ K := a_step k (fun hX _ _ k => lv_ishr hX.1 hX.2.1 hd k)
theorem a_iushr {x y : Int32} (hd : decode μ.2.1 pc = .ok (.iushr, 1)) (k : a_J G μ d lo (pc + 1) lv (.int (x.toUInt32 >>> (y.toUInt32 &&& Int32.toUInt32 31)).toInt32 :: st) σ K) : a_J G μ d lo pc lv (.int y :: .int x :: st) σ K := a_step k (fun hX _ _ k => lv_iushr hX.1 hX.2.1 hd rfl k)
theorem a_idiv {x y : Int32} (hd : decode μ.2.1 pc = .ok (.idiv, 1)) (hne : ¬ y = 0) (k : a_J G μ d lo (pc + 1) lv (.int (x / y) :: st) σ K) : a_J G μ d lo pc lv (.int y :: .int x :: st) σ K := a_step k (fun hX _ _ k => lv_idiv hX.1 hX.2.1 hd hne k)
theorem a_irem {x y : Int32} (hd : decode μ.2.1 pc = .ok (.irem, 1)) (hne : ¬ y = 0) (k : a_J G μ d lo (pc + 1) lv (.int (x - x / y * y) :: st) σ K) : a_J G μ d lo pc lv (.int y :: .int x :: st) σ K := a_step k (fun hX _ _ k => lv_irem hX.1 hX.2.1 hd hne k)
theorem a_ineg {x : Int32} (hd : decode μ.2.1 pc = .ok (.ineg, 1)) (k : a_J G μ d lo (pc + 1) lv (.int (-x) :: st) σ K) : a_J G μ d lo pc lv (.int x :: st) σ K := a_step k (fun hX _ _ k => lv_ineg hX.1 hX.2.1 hd k)
theorem a_ladd {x y : Int64} (hd : decode μ.2.1 pc = .ok (.ladd, 1)) (k : a_J G μ d lo (pc + 1) lv (.long (x + y) :: st) σ K) : a_J G μ d lo pc lv (.long y :: .long x :: st) σ K := a_step k (fun hX _ _ k => lv_ladd hX.1 hX.2.1 hd k)
theorem a_lsub {x y : Int64} (hd : decode μ.2.1 pc = .ok (.lsub, 1)) (k : a_J G μ d lo (pc + 1) lv (.long (x - y) :: st) σ K) : a_J G μ d lo pc lv (.long y :: .long x :: st) σ K := a_step k (fun hX _ _ k => lv_lsub hX.1 hX.2.1 hd k)
theorem a_lmul {x y : Int64} (hd : decode μ.2.1 pc = .ok (.lmul, 1)) (k : a_J G μ d lo (pc + 1) lv (.long (x * y) :: st) σ K) : a_J G μ d lo pc lv (.long y :: .long x :: st) σ K := a_step k (fun hX _ _ k => lv_lmul hX.1 hX.2.1 hd k)
theorem a_land {x y : Int64} (hd : decode μ.2.1 pc = .ok (.land, 1)) (k : a_J G μ d lo (pc + 1) lv (.long (x &&& y) :: st) σ K) : a_J G μ d lo pc lv (.long y :: .long x :: st) σ K := a_step k (fun hX _ _ k => lv_land hX.1 hX.2.1 hd k)
theorem a_lor {x y : Int64} (hd : decode μ.2.1 pc = .ok (.lor, 1)) (k : a_J G μ d lo (pc + 1) lv (.long (x ||| y) :: st) σ K) : a_J G μ d lo pc lv (.long y :: .long x :: st) σ K := a_step k (fun hX _ _ k => lv_lor hX.1 hX.2.1 hd k)
theorem a_lxor {x y : Int64} (hd : decode μ.2.1 pc = .ok (.lxor, 1)) (k : a_J G μ d lo (pc + 1) lv (.long (x ^^^ y) :: st) σ K) : a_J G μ d lo pc lv (.long y :: .long x :: st) σ K := a_step k (fun hX _ _ k => lv_lxor hX.1 hX.2.1 hd k)
theorem a_ldiv {x y : Int64} (hd : decode μ.2.1 pc = .ok (.ldiv, 1)) (hne : ¬ y = 0) (k : a_J G μ d lo (pc + 1) lv (.long (x / y) :: st) σ K) : a_J G μ d lo pc lv (.long y :: .long x :: st) σ K := a_step k (fun hX _ _ k => lv_ldiv hX.1 hX.2.1 hd hne k)
theorem a_lrem {x y : Int64} (hd : decode μ.2.1 pc = .ok (.lrem, 1)) (hne : ¬ y = 0) (k : a_J G μ d lo (pc + 1) lv (.long (x - x / y * y) :: st) σ K) : a_J G μ d lo pc lv (.long y :: .long x :: st) σ K := a_step k (fun hX _ _ k => lv_lrem hX.1 hX.2.1 hd hne k)
theorem a_lneg {x : Int64} (hd : decode μ.2.1 pc = .ok (.lneg, 1)) (k : a_J G μ d lo (pc + 1) lv (.long (-x) :: st) σ K) : a_J G μ d lo pc lv (.long x :: st) σ K := a_step k (fun hX _ _ k => lv_lneg hX.1 hX.2.1 hd k)
theorem a_lushr {x : Int64} {y : Int32} (hd : decode μ.2.1 pc = .ok (.lushr, 1)) (k : a_J G μ d lo (pc + 1) lv (.long (x.toUInt64 >>> (y.toInt64.toUInt64 &&& Int64.toUInt64 63)).toInt64 :: st) σ K) : a_J G μ d lo pc lv (.int y :: .long x :: st) σ K := a_step k (fun hX _ _ k => lv_lushr hX.1 hX.2.1 hd rfl k)
theorem a_lshl {x : Int64} {y : Int32} (hd : decode μ.2.1 pc = .ok (.lshl, 1)) (k : a_J G μ d lo (pc + 1) lv (.long (x <<< (y.toInt64 &&& 63)) :: st) σ K) : a_J G μ d lo pc lv (.int y :: .long x :: st) σ K := a_step k (fun hX _ _ k => lv_lshl hX.1 hX.2.1 hd rfl k)
theorem a_lshr {x : Int64} {y : Int32} (hd : decode μ.2.1 pc = .ok (.lshr, 1)) (k : a_J G μ d lo (pc + 1) lv (.long (x >>> (y.toInt64 &&& 63)) :: st) σ K) : a_J G μ d lo pc lv (.int y :: .long x :: st) σ K := a_step k (fun hX _ _ k => lv_lshr hX.1 hX.2.1 hd rfl k)
theorem a_i2l {x : Int32} (hd : decode μ.2.1 pc = .ok (.i2l, 1)) (k : a_J G μ d lo (pc + 1) lv (.long x.toInt64 :: st) σ K) : a_J G μ d lo pc lv (.int x :: st) σ K := a_step k (fun hX _ _ k => lv_i2l hX.1 hX.2.1 hd rfl k)
theorem a_l2i {x : Int64} (hd : decode μ.2.1 pc = .ok (.l2i, 1)) (k : a_J G μ d lo (pc + 1) lv (.int x.toInt32 :: st) σ K) : a_J G μ d lo pc lv (.long x :: st) σ K := a_step k (fun hX _ _ k => lv_l2i hX.1 hX.2.1 hd rfl k)
theorem a_i2b {x : Int32} (hd : decode μ.2.1 pc = .ok (.i2b, 1)) (k : a_J G μ d lo (pc + 1) lv (.int x.toInt8.toInt32 :: st) σ K) : a_J G μ d lo pc lv (.int x :: st) σ K := a_step k (fun hX _ _ k => lv_i2b hX.1 hX.2.1 hd rfl k)
theorem a_i2c {x : Int32} (hd : decode μ.2.1 pc = .ok (.i2c, 1)) (k : a_J G μ d lo (pc + 1) lv (.int (x.toUInt32 % 65536).toInt32 :: st) σ K) : a_J G μ d lo pc lv (.int x :: st) σ K := a_step k (fun hX _ _ k => lv_i2c hX.1 hX.2.1 hd rfl k)
theorem a_lcmp {x y : Int64} (hd : decode μ.2.1 pc = .ok (.lcmp, 1)) (k : a_J G μ d lo (pc + 1) lv (.int (lg_cmp x y) :: st) σ K) : a_J G μ d lo pc lv (.long y :: .long x :: st) σ K := a_step k (fun hX _ _ k => W.lcmp hX.1 hX.2.1 hd k)
theorem a_dup {va : Value} (hd : decode μ.2.1 pc = .ok (.dup, 1)) (h1 : va.category = 1) (k : a_J G μ d lo (pc + 1) lv (va :: va :: st) σ K) : a_J G μ d lo pc lv (va :: st) σ K := a_step k (fun hX _ _ k => lv_dup hX.1 hX.2.1 hd h1 k)
theorem a_pop {va : Value} (hd : decode μ.2.1 pc = .ok (.pop, 1)) (h1 : va.category = 1) (k : a_J G μ d lo (pc + 1) lv (st) σ K) : a_J G μ d lo pc lv (va :: st) σ K := a_step k (fun hX _ _ k => lv_pop hX.1 hX.2.1 hd h1 k)
theorem a_dup_x1 {va vb : Value} (hd : decode μ.2.1 pc = .ok (.dup_x1, 1)) (h1 : va.category = 1) (h2 : vb.category = 1) (k : a_J G μ d lo (pc + 1) lv (va :: vb :: va :: st) σ K) : a_J G μ d lo pc lv (va :: vb :: st) σ K := a_step k (fun hX _ _ k => lv_dup_x1 hX.1 hX.2.1 hd h1 h2 k)
theorem a_dup_x2 {va vb vd : Value} (hd : decode μ.2.1 pc = .ok (.dup_x2, 1)) (h1 : va.category = 1) (h2 : vb.category = 1) (h3 : vd.category = 1) (k : a_J G μ d lo (pc + 1) lv (va :: vb :: vd :: va :: st) σ K) : a_J G μ d lo pc lv (va :: vb :: vd :: st) σ K := a_step k (fun hX _ _ k => lv_dup_x2 hX.1 hX.2.1 hd h1 h2 h3 k)
theorem a_dup2 {va vb : Value} (hd : decode μ.2.1 pc = .ok (.dup2, 1)) (h1 : va.category = 1) (h2 : vb.category = 1) (k : a_J G μ d lo (pc + 1) lv (va :: vb :: va :: vb :: st) σ K) : a_J G μ d lo pc lv (va :: vb :: st) σ K := a_step k (fun hX _ _ k => lv_dup2_11 hX.1 hX.2.1 hd h1 h2 k)
theorem a_dup2L {va : Value} (hd : decode μ.2.1 pc = .ok (.dup2, 1)) (h1 : va.category = 2) (k : a_J G μ d lo (pc + 1) lv (va :: va :: st) σ K) : a_J G μ d lo pc lv (va :: st) σ K := a_step k (fun hX _ _ k => lv_dup2_2 hX.1 hX.2.1 hd h1 k)
theorem a_iload_n {i : Nat} {q : Fin 4} {x : Int32} (hd : decode μ.2.1 pc = .ok (.iload_n q, 1)) (hi : (q : Nat) = i) (hg : a_get lv i = some (.int x)) (k : a_J G μ d lo (pc + 1) lv (.int x :: st) σ K) : a_J G μ d lo pc lv st σ K := a_step k (fun hX _ hl k => lv_iload_n hX.1 hX.2.1 hd hi (a_at hl hg) k)
theorem a_iload {i : Nat} {x : Int32} (hd : decode μ.2.1 pc = .ok (.iload i, 2)) (hg : a_get lv i = some (.int x)) (k : a_J G μ d lo (pc + 2) lv (.int x :: st) σ K) : a_J G μ d lo pc lv st σ K := a_step k (fun hX _ hl k => lv_iload hX.1 hX.2.1 hd (a_at hl hg) k)
theorem a_istore_n {i : Nat} {q : Fin 4} {x : Int32} (hd : decode μ.2.1 pc = .ok (.istore_n q, 1)) (hi : (q : Nat) = i) (hn : i < μ.2.2.1) (k : a_J G μ d lo (pc + 1) (a_put1 i (.int x) lv) st σ K) : a_J G μ d lo pc lv (.int x :: st) σ K := a_stepL k (fun hX hl k => lv_istore_n hX.1 hX.2.1 hd hi hl hn rfl k)
theorem a_istore {i : Nat} {x : Int32} (hd : decode μ.2.1 pc = .ok (.istore i, 2)) (hn : i < μ.2.2.1) (k : a_J G μ d lo (pc + 2) (a_put1 i (.int x) lv) st σ K) : a_J G μ d lo pc lv (.int x :: st) σ K := a_stepL k (fun hX hl k => lv_istore hX.1 hX.2.1 hd hl hn rfl k)
theorem a_lload_n {i : Nat} {q : Fin 4} {x : Int64} (hd : decode μ.2.1 pc = .ok (.lload_n q, 1)) (hi : (q : Nat) = i) (hg : a_get lv i = some (.long x)) (k : a_J G μ d lo (pc + 1) lv (.long x :: st) σ K) : a_J G μ d lo pc lv st σ K := a_step k (fun hX _ hl k => lv_lload_n hX.1 hX.2.1 hd hi (a_at hl hg) k)
theorem a_lload {i : Nat} {x : Int64} (hd : decode μ.2.1 pc = .ok (.lload i, 2)) (hg : a_get lv i = some (.long x)) (k : a_J G μ d lo (pc + 2) lv (.long x :: st) σ K) : a_J G μ d lo pc lv st σ K := a_step k (fun hX _ hl k => lv_lload hX.1 hX.2.1 hd (a_at hl hg) k)
theorem a_lstore_n {i : Nat} {q : Fin 4} {x : Int64} (hd : decode μ.2.1 pc = .ok (.lstore_n q, 1)) (hi : (q : Nat) = i) (hn : i + 1 < μ.2.2.1) (k : a_J G μ d lo (pc + 1) (a_put2 i (.long x) lv) st σ K) : a_J G μ d lo pc lv (.long x :: st) σ K := a_stepL k (fun hX hl k => lv_lstore_n hX.1 hX.2.1 hd hi hl hn rfl k)
theorem a_lstore {i : Nat} {x : Int64} (hd : decode μ.2.1 pc = .ok (.lstore i, 2)) (hn : i + 1 < μ.2.2.1) (k : a_J G μ d lo (pc + 2) (a_put2 i (.long x) lv) st σ K) : a_J G μ d lo pc lv (.long x :: st) σ K := a_stepL k (fun hX hl k => lv_lstore hX.1 hX.2.1 hd hl hn rfl k)
theorem a_aload_n {i : Nat} {q : Fin 4} {x : Nat} (hd : decode μ.2.1 pc = .ok (.aload_n q, 1)) (hi : (q : Nat) = i) (hg : a_get lv i = some (.ref x)) (k : a_J G μ d lo (pc + 1) lv (.ref x :: st) σ K) : a_J G μ d lo pc lv st σ K := a_step k (fun hX _ hl k => lv_aload_n hX.1 hX.2.1 hd hi (a_at hl hg) k)
theorem a_aload {i : Nat} {x : Nat} (hd : decode μ.2.1 pc = .ok (.aload i, 2)) (hg : a_get lv i = some (.ref x)) (k : a_J G μ d lo (pc + 2) lv (.ref x :: st) σ K) : a_J G μ d lo pc lv st σ K := a_step k (fun hX _ hl k => lv_aload hX.1 hX.2.1 hd (a_at hl hg) k)
theorem a_astore_n {i : Nat} {q : Fin 4} {x : Nat} (hd : decode μ.2.1 pc = .ok (.astore_n q, 1)) (hi : (q : Nat) = i) (hn : i < μ.2.2.1) (k : a_J G μ d lo (pc + 1) (a_put1 i (.ref x) lv) st σ K) : a_J G μ d lo pc lv (.ref x :: st) σ K := a_stepL k (fun hX hl k => lv_astore_n hX.1 hX.2.1 hd hi hl hn rfl k)
theorem a_astore {i : Nat} {x : Nat} (hd : decode μ.2.1 pc = .ok (.astore i, 2)) (hn : i < μ.2.2.1) (k : a_J G μ d lo (pc + 2) (a_put1 i (.ref x) lv) st σ K) : a_J G μ d lo pc lv (.ref x :: st) σ K := a_stepL k (fun hX hl k => lv_astore hX.1 hX.2.1 hd hl hn rfl k)
theorem a_iinc {i : Nat} {n : Int} {x c0 : Int32} (hd : decode μ.2.1 pc = .ok (.iinc i n, 3)) (hg : a_get lv i = some (.int x)) (hc : Int32.ofInt n = c0) (hn : i < μ.2.2.1) (k : a_J G μ d lo (pc + 3) (a_put1 i (.int (x + c0)) lv) st σ K) : a_J G μ d lo pc lv st σ K := by
  obtain ⟨j, hj⟩ := List.getElem?_of_mem (a_get_mem hg)
  exact a_stepL k (fun hX hl k => lv_iinc hX.1 hX.2.1 hd hl (k := j) hj (by rw [hc]) hn rfl k)
theorem a_goto {off : Int} {tgt : Nat} (hd : decode μ.2.1 pc = .ok (.goto off, 3)) (ht : (pc : Int) + off = (tgt : Int)) (k : a_J G μ d lo tgt lv st σ K) : a_J G μ d lo pc lv st σ K := a_step k (fun hX _ _ k => lv_goto hX.1 hX.2.1 hd ht k)
theorem a_if_eq {x : Int32} {off : Int} {tgt : Nat} (hd : decode μ.2.1 pc = .ok (.ifCond .eq off, 3)) (ht : (pc : Int) + off = (tgt : Int)) (kt : x = 0 → a_J G μ d lo tgt lv st σ K) (kf : ¬ (x = 0) → a_J G μ d lo (pc + 3) lv st σ K) : a_J G μ d lo pc lv (.int x :: st) σ K := by
  by_cases hP : x = 0
  · exact a_step (kt hP) (fun hX _ _ k => lv_if_eq hX.1 hX.2.1 hd ht (fun _ => k) (fun n => absurd hP n))
  · exact a_step (kf hP) (fun hX _ _ k => lv_if_eq hX.1 hX.2.1 hd ht (fun n => absurd n hP) (fun _ => k))
theorem a_icmp_eq {x y : Int32} {off : Int} {tgt : Nat} (hd : decode μ.2.1 pc = .ok (.if_icmp .eq off, 3)) (ht : (pc : Int) + off = (tgt : Int)) (kt : x = y → a_J G μ d lo tgt lv st σ K) (kf : ¬ (x = y) → a_J G μ d lo (pc + 3) lv st σ K) : a_J G μ d lo pc lv (.int y :: .int x :: st) σ K := by
  by_cases hP : x = y
  · exact a_step (kt hP) (fun hX _ _ k => lv_icmp_eq hX.1 hX.2.1 hd ht (fun _ => k) (fun n => absurd hP n))
  · exact a_step (kf hP) (fun hX _ _ k => lv_icmp_eq hX.1 hX.2.1 hd ht (fun n => absurd n hP) (fun _ => k))
theorem a_if_ne {x : Int32} {off : Int} {tgt : Nat} (hd : decode μ.2.1 pc = .ok (.ifCond .ne off, 3)) (ht : (pc : Int) + off = (tgt : Int)) (kt : ¬ x = 0 → a_J G μ d lo tgt lv st σ K) (kf : x = 0 → a_J G μ d lo (pc + 3) lv st σ K) : a_J G μ d lo pc lv (.int x :: st) σ K := by
  by_cases hP : ¬ x = 0
  · exact a_step (kt hP) (fun hX _ _ k => lv_if_ne hX.1 hX.2.1 hd ht (fun _ => k) (fun n => absurd n hP))
  · exact a_step (kf (Decidable.not_not.mp hP)) (fun hX _ _ k => lv_if_ne hX.1 hX.2.1 hd ht (fun n => absurd n hP) (fun _ => k))
theorem a_icmp_ne {x y : Int32} {off : Int} {tgt : Nat} (hd : decode μ.2.1 pc = .ok (.if_icmp .ne off, 3)) (ht : (pc : Int) + off = (tgt : Int)) (kt : ¬ x = y → a_J G μ d lo tgt lv st σ K) (kf : x = y → a_J G μ d lo (pc + 3) lv st σ K) : a_J G μ d lo pc lv (.int y :: .int x :: st) σ K := by
  by_cases hP : ¬ x = y
  · exact a_step (kt hP) (fun hX _ _ k => lv_icmp_ne hX.1 hX.2.1 hd ht (fun _ => k) (fun n => absurd n hP))
  · exact a_step (kf (Decidable.not_not.mp hP)) (fun hX _ _ k => lv_icmp_ne hX.1 hX.2.1 hd ht (fun n => absurd n hP) (fun _ => k))
theorem a_if_lt {x : Int32} {off : Int} {tgt : Nat} (hd : decode μ.2.1 pc = .ok (.ifCond .lt off, 3)) (ht : (pc : Int) + off = (tgt : Int)) (kt : x < 0 → a_J G μ d lo tgt lv st σ K) (kf : ¬ (x < 0) → a_J G μ d lo (pc + 3) lv st σ K) : a_J G μ d lo pc lv (.int x :: st) σ K := by
  by_cases hP : x < 0
  · exact a_step (kt hP) (fun hX _ _ k => lv_if_lt hX.1 hX.2.1 hd ht (fun _ => k) (fun n => absurd hP n))
  · exact a_step (kf hP) (fun hX _ _ k => lv_if_lt hX.1 hX.2.1 hd ht (fun n => absurd n hP) (fun _ => k))
theorem a_icmp_lt {x y : Int32} {off : Int} {tgt : Nat} (hd : decode μ.2.1 pc = .ok (.if_icmp .lt off, 3)) (ht : (pc : Int) + off = (tgt : Int)) (kt : x < y → a_J G μ d lo tgt lv st σ K) (kf : ¬ (x < y) → a_J G μ d lo (pc + 3) lv st σ K) : a_J G μ d lo pc lv (.int y :: .int x :: st) σ K := by
  by_cases hP : x < y
  · exact a_step (kt hP) (fun hX _ _ k => lv_icmp_lt hX.1 hX.2.1 hd ht (fun _ => k) (fun n => absurd hP n))
  · exact a_step (kf hP) (fun hX _ _ k => lv_icmp_lt hX.1 hX.2.1 hd ht (fun n => absurd n hP) (fun _ => k))
theorem a_if_ge {x : Int32} {off : Int} {tgt : Nat} (hd : decode μ.2.1 pc = .ok (.ifCond .ge off, 3)) (ht : (pc : Int) + off = (tgt : Int)) (kt : 0 ≤ x → a_J G μ d lo tgt lv st σ K) (kf : ¬ (0 ≤ x) → a_J G μ d lo (pc + 3) lv st σ K) : a_J G μ d lo pc lv (.int x :: st) σ K := by
  by_cases hP : 0 ≤ x
  · exact a_step (kt hP) (fun hX _ _ k => lv_if_ge hX.1 hX.2.1 hd ht (fun _ => k) (fun n => absurd hP n))
  · exact a_step (kf hP) (fun hX _ _ k => lv_if_ge hX.1 hX.2.1 hd ht (fun n => absurd n hP) (fun _ => k))
theorem a_icmp_ge {x y : Int32} {off : Int} {tgt : Nat} (hd : decode μ.2.1 pc = .ok (.if_icmp .ge off, 3)) (ht : (pc : Int) + off = (tgt : Int)) (kt : y ≤ x → a_J G μ d lo tgt lv st σ K) (kf : ¬ (y ≤ x) → a_J G μ d lo (pc + 3) lv st σ K) : a_J G μ d lo pc lv (.int y :: .int x :: st) σ K := by
  by_cases hP : y ≤ x
  · exact a_step (kt hP) (fun hX _ _ k => lv_icmp_ge hX.1 hX.2.1 hd ht (fun _ => k) (fun n => absurd hP n))
  · exact a_step (kf hP) (fun hX _ _ k => lv_icmp_ge hX.1 hX.2.1 hd ht (fun n => absurd n hP) (fun _ => k))
theorem a_if_gt {x : Int32} {off : Int} {tgt : Nat} (hd : decode μ.2.1 pc = .ok (.ifCond .gt off, 3)) (ht : (pc : Int) + off = (tgt : Int)) (kt : 0 < x → a_J G μ d lo tgt lv st σ K) (kf : ¬ (0 < x) → a_J G μ d lo (pc + 3) lv st σ K) : a_J G μ d lo pc lv (.int x :: st) σ K := by
  by_cases hP : 0 < x
  · exact a_step (kt hP) (fun hX _ _ k => lv_if_gt hX.1 hX.2.1 hd ht (fun _ => k) (fun n => absurd hP n))
  · exact a_step (kf hP) (fun hX _ _ k => lv_if_gt hX.1 hX.2.1 hd ht (fun n => absurd n hP) (fun _ => k))
theorem a_icmp_gt {x y : Int32} {off : Int} {tgt : Nat} (hd : decode μ.2.1 pc = .ok (.if_icmp .gt off, 3)) (ht : (pc : Int) + off = (tgt : Int)) (kt : y < x → a_J G μ d lo tgt lv st σ K) (kf : ¬ (y < x) → a_J G μ d lo (pc + 3) lv st σ K) : a_J G μ d lo pc lv (.int y :: .int x :: st) σ K := by
  by_cases hP : y < x
  · exact a_step (kt hP) (fun hX _ _ k => lv_icmp_gt hX.1 hX.2.1 hd ht (fun _ => k) (fun n => absurd hP n))
  · exact a_step (kf hP) (fun hX _ _ k => lv_icmp_gt hX.1 hX.2.1 hd ht (fun n => absurd n hP) (fun _ => k))
theorem a_if_le {x : Int32} {off : Int} {tgt : Nat} (hd : decode μ.2.1 pc = .ok (.ifCond .le off, 3)) (ht : (pc : Int) + off = (tgt : Int)) (kt : x ≤ 0 → a_J G μ d lo tgt lv st σ K) (kf : ¬ (x ≤ 0) → a_J G μ d lo (pc + 3) lv st σ K) : a_J G μ d lo pc lv (.int x :: st) σ K := by
  by_cases hP : x ≤ 0
  · exact a_step (kt hP) (fun hX _ _ k => lv_if_le hX.1 hX.2.1 hd ht (fun _ => k) (fun n => absurd hP n))
  · exact a_step (kf hP) (fun hX _ _ k => lv_if_le hX.1 hX.2.1 hd ht (fun n => absurd n hP) (fun _ => k))
theorem a_icmp_le {x y : Int32} {off : Int} {tgt : Nat} (hd : decode μ.2.1 pc = .ok (.if_icmp .le off, 3)) (ht : (pc : Int) + off = (tgt : Int)) (kt : x ≤ y → a_J G μ d lo tgt lv st σ K) (kf : ¬ (x ≤ y) → a_J G μ d lo (pc + 3) lv st σ K) : a_J G μ d lo pc lv (.int y :: .int x :: st) σ K := by
  by_cases hP : x ≤ y
  · exact a_step (kt hP) (fun hX _ _ k => lv_icmp_le hX.1 hX.2.1 hd ht (fun _ => k) (fun n => absurd hP n))
  · exact a_step (kf hP) (fun hX _ _ k => lv_icmp_le hX.1 hX.2.1 hd ht (fun n => absurd n hP) (fun _ => k))
theorem a_tableOut {dflt lw hi : Int} {offs : Array Int} {len : Nat} {x : Int32} {tgt : Nat} (hd : decode μ.2.1 pc = .ok (.tableswitch dflt lw hi offs, len)) (h : x.toInt < lw ∨ hi < x.toInt) (ht : (pc : Int) + dflt = (tgt : Int)) (k : a_J G μ d lo tgt lv st σ K) : a_J G μ d lo pc lv (.int x :: st) σ K := a_step k (fun hX _ _ k => lv_tableOut hX.1 hX.2.1 hd h ht k)
theorem a_tableIn {dflt lw hi : Int} {offs : Array Int} {len : Nat} {x : Int32} {off : Int} {tgt : Nat} (hd : decode μ.2.1 pc = .ok (.tableswitch dflt lw hi offs, len)) (h1 : ¬ x.toInt < lw) (h2 : ¬ hi < x.toInt) (ho : offs[(x.toInt - lw).toNat]? = some off) (ht : (pc : Int) + off = (tgt : Int)) (k : a_J G μ d lo tgt lv st σ K) : a_J G μ d lo pc lv (.int x :: st) σ K := a_step k (fun hX _ _ k => lv_tableIn hX.1 hX.2.1 hd h1 h2 ho ht k)
theorem a_lookup {dflt : Int} {ps : Array (Int × Int)} {len : Nat} {x : Int32} {off : Int} {tgt : Nat} (hd : decode μ.2.1 pc = .ok (.lookupswitch dflt ps, len)) (hp : (ps.toList.zip (ps.toList.drop 1)).all (fun (a, next) => a.1 < next.1) = true) (ho : Op.lookupswitch.offset ps.toList dflt x.toInt = off) (ht : (pc : Int) + off = (tgt : Int)) (k : a_J G μ d lo tgt lv st σ K) : a_J G μ d lo pc lv (.int x :: st) σ K := a_step k (fun hX _ _ k => lv_lookup hX.1 hX.2.1 hd hp ho ht k)
theorem a_ldc {index : Nat} {v : Int32} (hd : decode μ.2.1 pc = .ok (.ldc index, 2)) (hw : Jvm.Cond.constant μ.1.cls index v ∈ aTs) (k : a_J G μ d lo (pc + 2) lv (.int v :: st) σ K) : a_J G μ d lo pc lv st σ K := a_step k (fun hX _ _ k => lv_ldc hX.1 hX.2.1 hX.2.2.2.2.1 (hX.2.2.2.2.2.1 _ hw) hd k)
theorem a_ldc2 {index : Nat} {v : Int64} (hd : decode μ.2.1 pc = .ok (.ldc2_w index, 3)) (hw : Jvm.Cond.constantLong μ.1.cls index v ∈ aTs) (k : a_J G μ d lo (pc + 3) lv (.long v :: st) σ K) : a_J G μ d lo pc lv st σ K := a_step k (fun hX _ _ k => lv_ldc2 hX.1 hX.2.1 hX.2.2.2.2.1 (hX.2.2.2.2.2.1 _ hw) hd k)
theorem a_ireturn {x : Int32} {ty : FieldType} (hd : decode μ.2.1 pc = .ok (.ireturn, 1)) (hr : μ.2.2.2 = some ty) (hn : narrow ty (.int x) = .int x) (hK : K (some (.int x)) σ) : a_J G μ d lo pc lv [.int x] σ K := by
  refine ⟨some (.int x), σ, hK, Nat.le_refl _, Nat.le_refl _, ?_⟩
  intro p e R s m args below meth c H locs cells slots ls hX hR hlc hl hc hs
  rw [Nat.sub_self, Nat.sub_self, Nat.add_zero, Nat.add_zero]
  exact W.zret hX.1 hX.2.1 (hX.2.2.1.trans hr) hn (fun t ht _ => ⟨rfl, by rw [ht]; exact hR⟩) hlc hd hX.2.2.2.2.2.2.1
theorem a_lreturn {x : Int64} (hd : decode μ.2.1 pc = .ok (.lreturn, 1)) (hr : μ.2.2.2 = some .long) (hK : K (some (.long x)) σ) : a_J G μ d lo pc lv [.long x] σ K := by
  refine ⟨some (.long x), σ, hK, Nat.le_refl _, Nat.le_refl _, ?_⟩
  intro p e R s m args below meth c H locs cells slots ls hX hR hlc hl hc hs
  rw [Nat.sub_self, Nat.sub_self, Nat.add_zero, Nat.add_zero]
  exact W.lret hX.1 hX.2.1 (hX.2.2.1.trans hr) (fun t ht _ => ⟨rfl, by rw [ht]; exact hR⟩) hlc hd hX.2.2.2.2.2.2.1
theorem a_return (hd : decode μ.2.1 pc = .ok (.return_, 1)) (hr : μ.2.2.2 = none) (hK : K none σ) : a_J G μ d lo pc lv [] σ K := by
  refine ⟨none, σ, hK, Nat.le_refl _, Nat.le_refl _, ?_⟩
  intro p e R s m args below meth c H locs cells slots ls hX hR hlc hl hc hs
  rw [Nat.sub_self, Nat.sub_self, Nat.add_zero, Nat.add_zero]
  exact W.vret hX.1 hX.2.1 (hX.2.2.1.trans hr) (fun t ht _ => ⟨rfl, by rw [ht]; exact hR⟩) hlc hd hX.2.2.2.2.2.2.1
theorem a_areturn {v : Value} {rt : FieldType} (hd : decode μ.2.1 pc = .ok (.areturn, 1)) (hr : μ.2.2.2 = some rt) (hrt : (∃ n, rt = .object n) ∨ ∃ t, rt = .array t) (hv : v = .null ∨ ∃ a, v = .ref a) (hK : K (some v) σ) : a_J G μ d lo pc lv [v] σ K := by
  refine ⟨some v, σ, hK, Nat.le_refl _, Nat.le_refl _, ?_⟩
  intro p e R s m args below meth c H locs cells slots ls hX hR hlc hl hc hs
  rw [Nat.sub_self, Nat.sub_self, Nat.add_zero, Nat.add_zero]
  exact W.aret hX.1 hX.2.1 (hX.2.2.1.trans hr) hrt hv (fun t ht _ => ⟨rfl, by rw [ht]; exact hR⟩) hlc hd hX.2.2.2.2.2.2.1
end Core2
end
section
theorem a_X.tk {G : aG} {μ : aM} {d lo : Nat} {p : Program} {R : Room} {s : State} {m : MethodId} {args : Array Value} {meth : Method} {c : Code} (h : a_X G μ d lo p R s m args meth c) : va_K G.2.2.1 vwCl (a_tys G.2.2.2) s := va_K.moved h.2.2.2.2.2.2.2.2.2.1.alike h.2.2.2.2.2.2.2.2.1
theorem a_X.own {G : aG} {μ : aM} {d lo : Nat} {p : Program} {R : Room} {s : State} {m : MethodId} {args : Array Value} {meth : Method} {c : Code} (h : a_X G μ d lo p R s m args meth c) : s.vm.findClass μ.1.cls = some m.cls := h.2.2.2.2.1
theorem a_X.ts {G : aG} {μ : aM} {d lo : Nat} {p : Program} {R : Room} {s : State} {m : MethodId} {args : Array Value} {meth : Method} {c : Code} (h : a_X G μ d lo p R s m args meth c) : ∀ w ∈ aTs, w.before args s = true := h.2.2.2.2.2.1
theorem a_X.fr {G : aG} {μ : aM} {d lo : Nat} {p : Program} {R : Room} {s : State} {m : MethodId} {args : Array Value} {meth : Method} {c : Code} (h : a_X G μ d lo p R s m args meth c) : d ≤ R.frames ∧ lo ≤ R.locals := h.2.2.2.2.2.2.2.2.2.2
theorem a_X.al {G : aG} {μ : aM} {d lo : Nat} {p : Program} {R : Room} {s : State} {m : MethodId} {args : Array Value} {meth : Method} {c : Code} (h : a_X G μ d lo p R s m args meth c) : G.2.1.WarmedH s.vm := h.2.2.2.2.2.2.2.2.2.1
/-- a field's link: class ci of the table, place k -/
def a_fl (own : String) (idx ci k : Nat) : Prop := ∃ (C : String) (T : u_T) (N : Nat), vwCl[ci]? = some (C, T, N) ∧ k < N ∧ (∀ w ∈ u_ws C T N, w ∈ aTs) ∧ Cond.fieldLink own idx (T k).1 (T k).2.1 (T k).2.2.1 ∈ aTs
def a_fp (own : String) (idx ci k : Nat) (ty : FieldType) (fin : Bool) : Prop := ∃ (C : String) (T : u_T) (N : Nat) (ty0 : Nat → FieldType), vwCl[ci]? = some (C, T, N) ∧ k < N ∧ (∀ w ∈ u_ws C T N, w ∈ aTs) ∧ Cond.fieldLink own idx (T k).1 (T k).2.1 (T k).2.2.1 ∈ aTs ∧ (∀ k, k < N → parseFieldDescriptor (T k).2.2.1 = some (ty0 k)) ∧ (∀ a, a < N → ∀ b, b < N → a ≠ b → (T a).2.1 ≠ (T b).2.1) ∧ (T k).2.2.2 = fin ∧ parseFieldDescriptor (T k).2.2.1 = some ty ∧ (fin = true → (T k).1 = own)
def a_nw (own : String) (idx ci N : Nat) (fs : List Value) : Prop := ∃ (C : String) (T : u_T) (ty : Nat → FieldType), vwCl[ci]? = some (C, T, N) ∧ (∀ w ∈ u_ws C T N, w ∈ aTs) ∧ (∀ k, k < N → parseFieldDescriptor (T k).2.2.1 = some (ty k)) ∧ Cond.classLink own idx C ∈ aTs ∧ Cond.instantiable C N ∈ aTs ∧ Cond.initialized C ∈ aTs ∧ ∀ j, j < N → defaultValue (ty j) = vp_V fs j
/-- a call's link -/
def a_lk (own : String) (idx : Nat) (μ : aM) (n : Nat) : Prop := Cond.methodLink own idx μ.1 ∈ aTs ∧ Cond.initialized μ.1.cls ∈ aTs ∧ Cond.code μ.1 μ.2.1 μ.2.2.1 μ.2.2.2 ∈ aTs ∧ (μ.1.cls ≠ "java/lang/invoke/MethodHandle" ∧ μ.1.cls ≠ "java/lang/invoke/VarHandle") ∧ (parseMethodDescriptor μ.1.desc).map (fun d => d.parameters.length) = some n
section Core3
variable {G : aG} {μ : aM} {d lo pc : Nat} {lv : List (Nat × Value)} {st : List Value} {σ : aS} {K : Option Value → aS → Prop}
theorem a_getfield {idx ci k a : Nat} {fs : List Value} {v : Value} (hd : decode μ.2.1 pc = .ok (.getfield idx, 3)) (hL : a_fl μ.1.cls idx ci k) (hc : σ.2.2 a = some (.inr (ci, fs))) (hv : fs[k]? = some v) (kk : a_J G μ d lo (pc + 3) lv (v :: st) σ K) : a_J G μ d lo pc lv (.ref a :: st) σ K := by
  obtain ⟨C, T, N, h1, h2, h3, h4⟩ := hL
  exact a_step kk (fun hX hR _ kk => va_get hX.1 hX.2.1 hX.ts h3 hX.own hX.tk (a_P1 (hR.cell hc)) 0 rfl h1 k h2 (hX.ts _ h4) (fun _ h9 => h9) hv hd kk)
theorem a_lcs {locs : List Loc} {a i : Nat} (hlc : ∀ q ∈ locs, G.2.1.heap.size ≤ q.base) (ha : G.2.1.heap.size ≤ a) : ∀ q ∈ locs ++ [(⟨a, i⟩ : Loc)], G.2.1.heap.size ≤ q.base := by
  intro q hq
  rcases List.mem_append.mp hq with h | h
  · exact hlc q h
  · rw [List.mem_singleton.mp h]
    exact ha
theorem a_putfield {idx ci k a : Nat} {fs : List Value} {v : Value} {ty : FieldType} (hd : decode μ.2.1 pc = .ok (.putfield idx, 3)) (hL : a_fp μ.1.cls idx ci k ty false) (hc : σ.2.2 a = some (.inr (ci, fs))) (hn : narrow ty v = v) (hf : fits ty v = true) (hl : k < fs.length)
    (kk : a_J G μ d lo (pc + 3) lv st (a_upd σ a (.inr (ci, fs.set k v))) K) : a_J G μ d lo pc lv (v :: .ref a :: st) σ K := by
  obtain ⟨C, T, N, ty0, h1, h2, h3, h4, h5, h6, h7, h8, -⟩ := hL
  obtain ⟨v', τ, hK, g1, g2, hW⟩ := kk
  refine ⟨v', τ, hK, g1, g2, ?_⟩
  intro p e R s m args below meth c H locs cells slots ls hX hR hlc hlv hcc hss
  have hts := hX.ts
  have hKs := hX.tk
  have hap := va_apart (own := μ.1.cls) hts h3 ty0 h5 h6 hKs h1
  have hba := (hR.2.2.2 a _ hc).1
  obtain ⟨r, q0, cell, q1, q2, q3, q4⟩ := hR.cell hc
  have hr : r = (C, T, N) := Option.some.inj (q0.symm.trans h1)
  subst hr
  obtain ⟨hS, hfc, kC, hkC, hkind⟩ := hKs.1 ci _ h1
  obtain ⟨cf, kf, fi, f, hi, hsl⟩ := hS k h2
  have hlay := hts _ (h3 _ (u_in_lay h2))
  unfold u_lay at hlay
  rw [if_neg (by rw [h7]; decide)] at hlay
  have hst := (u_facts hfc hkC (u_lays hts h3 h2) hi).1
  have hsd := u_store hfc hkC hkind hlay hi h8 hn hf
  refine W.putK hX.1 hX.2.1 (f := f) ⟨hX.own, hts _ h4, ⟨_, _, _, hi⟩, hst⟩ (by rw [q2]; exact hsd) q1 q3 (by rw [hsl]; exact k2_hasslot (q4 k h2)) rfl rfl hd fun H' e1 e2 e3 => ?_
  rw [hsl] at e1
  exact hW p e R s m args below meth c H' _ cells slots ls hX (hR.upd hba e2 e3 ⟨_, h1, t_OB.to (V := updV (vp_V fs) k v) ⟨_, e1, q2, q3, t_set q4 hap h2 v⟩ (fun j _ => vp_updV_set hl v j)⟩) (a_lcs hlc hba) hlv hcc hss
theorem a_putfinal {idx ci k a : Nat} {fs : List Value} {v : Value} {ty : FieldType} (hd : decode μ.2.1 pc = .ok (.putfield idx, 3)) (hL : a_fp μ.1.cls idx ci k ty true) (hnm : μ.1.name = "<init>") (hc : σ.2.2 a = some (.inr (ci, fs))) (hn : narrow ty v = v) (hf : fits ty v = true) (hl : k < fs.length)
    (kk : a_J G μ d lo (pc + 3) lv st (a_upd σ a (.inr (ci, fs.set k v))) K) : a_J G μ d lo pc lv (v :: .ref a :: st) σ K := by
  obtain ⟨C, T, N, ty0, h1, h2, h3, h4, h5, h6, h7, h8, h9⟩ := hL
  obtain ⟨v', τ, hK, g1, g2, hW⟩ := kk
  refine ⟨v', τ, hK, g1, g2, ?_⟩
  intro p e R s m args below meth c H locs cells slots ls hX hR hlc hlv hcc hss
  have hts := hX.ts
  have hKs := hX.tk
  have hap := va_apart (own := μ.1.cls) hts h3 ty0 h5 h6 hKs h1
  have hba := (hR.2.2.2 a _ hc).1
  obtain ⟨r, q0, cell, q1, q2, q3, q4⟩ := hR.cell hc
  have hr : r = (C, T, N) := Option.some.inj (q0.symm.trans h1)
  subst hr
  obtain ⟨hS, hfc, kC, hkC, hkind⟩ := hKs.1 ci _ h1
  obtain ⟨cf, kf, fi, f, hi, hsl⟩ := hS k h2
  have hlay := hts _ (h3 _ (u_in_lay h2))
  unfold u_lay at hlay
  rw [if_pos h7] at hlay
  have hst := (u_facts hfc hkC (u_lays hts h3 h2) hi).1
  have hcf : m.cls = cf := by
    obtain ⟨_, _, c', _, _, _, -, -, hf', -, -, -, hown2, -⟩ := Cond.laysFinal_spec hlay
    have e1 : c' = cf := by have := hi.symm.trans hf'; simp at this; exact this.1.symm
    rw [h9 rfl] at hown2
    rw [← e1]; exact Option.some.inj (hX.own.symm.trans hown2)
  have hsd := u_fits hfc hkC hkind (Or.inr hlay) hi h8 hn hf
  refine W.putFinK hX.1 hX.2.1 hX.own (hts _ h4) hi hst hcf (hX.2.2.2.2.2.2.2.1.trans hnm) (by rw [q2]; exact hsd) q1 q3 (by rw [hsl]; exact k2_hasslot (q4 k h2)) rfl rfl hd fun H' e1 e2 e3 => ?_
  rw [hsl] at e1
  exact hW p e R s m args below meth c H' _ cells slots ls hX (hR.upd hba e2 e3 ⟨_, h1, t_OB.to (V := updV (vp_V fs) k v) ⟨_, e1, q2, q3, t_set q4 hap h2 v⟩ (fun j _ => vp_updV_set hl v j)⟩) (a_lcs hlc hba) hlv hcc hss
theorem a_iald {a n t0 : Nat} {f : Nat → Int32} {i : Int32} (hd : decode μ.2.1 pc = .ok (.iaload, 1)) (ht : aTy[t0]? = some .int) (hc : σ.2.2 a = some (.inl (.int, n, .inl f))) (hin : vp_in i n) (kk : a_J G μ d lo (pc + 1) lv (.int (f i.toNatClampNeg) :: st) σ K) : a_J G μ d lo pc lv (.int i :: .ref a :: st) σ K :=
  a_step kk (fun hX hR _ kk => va_iald hX.1 hX.2.1 hX.tk (a_P1 (hR.cell hc)) 0 t0 rfl (by rw [a_tys, List.getElem?_map, ht]; rfl) hin hd kk)
theorem a_iast {a n t0 : Nat} {f : Nat → Int32} {i : Int32} {x : Int32} (hd : decode μ.2.1 pc = .ok (.iastore, 1)) (ht : aTy[t0]? = some .int) (hc : σ.2.2 a = some (.inl (.int, n, .inl f))) (hin : vp_in i n) (kk : a_J G μ d lo (pc + 1) lv st (a_upd σ a (.inl (.int, n, .inl (upd f i.toNatClampNeg x)))) K) : a_J G μ d lo pc lv (.int x :: .int i :: .ref a :: st) σ K := by
  obtain ⟨v', τ, hK, g1, g2, hW⟩ := kk
  refine ⟨v', τ, hK, g1, g2, ?_⟩
  intro p e R s m args below meth c H locs cells slots ls hX hR hlc hlv hcc hss
  have hba := (hR.2.2.2 a _ hc).1
  have htt : (a_tys G.2.2.2)[t0]? = some (G.2.2.2 .int, .int) := by rw [a_tys, List.getElem?_map, ht]; rfl
  refine W.iast hX.1 hX.2.1 (hR.cell hc) ((hX.tk.2 t0 _ htt).1 n (fun j => .int (f j))) (fun q => by cases q) (by show ¬ (i < 0 ∨ (arrV _ _ _).slots.size ≤ _); rw [arrV_size]; exact hin) rfl rfl hd fun H1 e1 z oq => ?_
  refine hW p e R s m args below meth c H1 _ cells slots ls hX (hR.upd hba z oq ?_) (a_lcs hlc hba) hlv hcc hss
  show H1[a]? = some (vp_cell _ _)
  rw [e1]
  show some ((vp_cell _ (n, .inl f)).setSlot _ _) = _
  rw [vp_cell_i, vp_cell_i, arrV_store]
  congr 2
  funext q
  by_cases hq : q = i.toNatClampNeg
  · subst hq
    simp [updV, upd]
    try rfl
  · simp [updV, upd, hq]
theorem a_lald {a n t0 : Nat} {f : Nat → Int64} {i : Int32} (hd : decode μ.2.1 pc = .ok (.laload, 1)) (ht : aTy[t0]? = some .long) (hc : σ.2.2 a = some (.inl (.long, n, .inr (.inl f)))) (hin : vp_in i n) (kk : a_J G μ d lo (pc + 1) lv (.long (f i.toNatClampNeg) :: st) σ K) : a_J G μ d lo pc lv (.int i :: .ref a :: st) σ K :=
  a_step kk (fun hX hR _ kk => va_lald hX.1 hX.2.1 hX.tk (a_P1 (hR.cell hc)) 0 t0 rfl (by rw [a_tys, List.getElem?_map, ht]; rfl) hin hd kk)
theorem a_last {a n t0 : Nat} {f : Nat → Int64} {i : Int32} {x : Int64} (hd : decode μ.2.1 pc = .ok (.lastore, 1)) (ht : aTy[t0]? = some .long) (hc : σ.2.2 a = some (.inl (.long, n, .inr (.inl f)))) (hin : vp_in i n) (kk : a_J G μ d lo (pc + 1) lv st (a_upd σ a (.inl (.long, n, .inr (.inl (vp_updL f i.toNatClampNeg x))))) K) : a_J G μ d lo pc lv (.long x :: .int i :: .ref a :: st) σ K := by
  obtain ⟨v', τ, hK, g1, g2, hW⟩ := kk
  refine ⟨v', τ, hK, g1, g2, ?_⟩
  intro p e R s m args below meth c H locs cells slots ls hX hR hlc hlv hcc hss
  have hba := (hR.2.2.2 a _ hc).1
  have htt : (a_tys G.2.2.2)[t0]? = some (G.2.2.2 .long, .long) := by rw [a_tys, List.getElem?_map, ht]; rfl
  refine W.last hX.1 hX.2.1 (hR.cell hc) ((hX.tk.2 t0 _ htt).1 n (fun j => .long (f j))) (fun q => by cases q) (by show ¬ (i < 0 ∨ (arrV _ _ _).slots.size ≤ _); rw [arrV_size]; exact hin) rfl rfl hd fun H1 e1 z oq => ?_
  refine hW p e R s m args below meth c H1 _ cells slots ls hX (hR.upd hba z oq ?_) (a_lcs hlc hba) hlv hcc hss
  show H1[a]? = some (vp_cell _ _)
  rw [e1]
  show some ((vp_cell _ (n, .inr (.inl f))).setSlot _ _) = _
  rw [vp_cell_l, vp_cell_l, arrV_store]
  congr 2
  funext q
  by_cases hq : q = i.toNatClampNeg
  · subst hq
    simp [updV, vp_updL]
    try rfl
  · simp [updV, vp_updL, hq]
theorem a_bald {a n t0 : Nat} {f : Nat → Int32} {i : Int32} (hd : decode μ.2.1 pc = .ok (.baload, 1)) (ht : aTy[t0]? = some .byte) (hc : σ.2.2 a = some (.inl (.byte, n, .inl f))) (hin : vp_in i n) (kk : a_J G μ d lo (pc + 1) lv (.int (f i.toNatClampNeg) :: st) σ K) : a_J G μ d lo pc lv (.int i :: .ref a :: st) σ K :=
  a_step kk (fun hX hR _ kk => va_bald hX.1 hX.2.1 hX.tk (a_P1 (hR.cell hc)) 0 t0 rfl (by rw [a_tys, List.getElem?_map, ht]; rfl) hin hd kk)
theorem a_bast {a n t0 : Nat} {f : Nat → Int32} {i : Int32} {x : Int32} (hd : decode μ.2.1 pc = .ok (.bastore, 1)) (ht : aTy[t0]? = some .byte) (hc : σ.2.2 a = some (.inl (.byte, n, .inl f))) (hin : vp_in i n) (kk : a_J G μ d lo (pc + 1) lv st (a_upd σ a (.inl (.byte, n, .inl (upd f i.toNatClampNeg (vp_nar .byte x))))) K) : a_J G μ d lo pc lv (.int x :: .int i :: .ref a :: st) σ K := by
  obtain ⟨v', τ, hK, g1, g2, hW⟩ := kk
  refine ⟨v', τ, hK, g1, g2, ?_⟩
  intro p e R s m args below meth c H locs cells slots ls hX hR hlc hlv hcc hss
  have hba := (hR.2.2.2 a _ hc).1
  have htt : (a_tys G.2.2.2)[t0]? = some (G.2.2.2 .byte, .byte) := by rw [a_tys, List.getElem?_map, ht]; rfl
  refine W.bast hX.1 hX.2.1 (hR.cell hc) ((hX.tk.2 t0 _ htt).1 n (fun j => .int (f j))) (fun q => by cases q) (by show ¬ (i < 0 ∨ (arrV _ _ _).slots.size ≤ _); rw [arrV_size]; exact hin) rfl rfl hd fun H1 e1 z oq => ?_
  refine hW p e R s m args below meth c H1 _ cells slots ls hX (hR.upd hba z oq ?_) (a_lcs hlc hba) hlv hcc hss
  show H1[a]? = some (vp_cell _ _)
  rw [e1]
  show some ((vp_cell _ (n, .inl f)).setSlot _ _) = _
  rw [vp_cell_i, vp_cell_i, arrV_store]
  congr 2
  funext q
  by_cases hq : q = i.toNatClampNeg
  · subst hq
    simp [updV, upd, vp_nar]
    try rfl
  · simp [updV, upd, vp_nar, hq]
theorem a_zald {a n t0 : Nat} {f : Nat → Int32} {i : Int32} (hd : decode μ.2.1 pc = .ok (.baload, 1)) (ht : aTy[t0]? = some .boolean) (hc : σ.2.2 a = some (.inl (.boolean, n, .inl f))) (hin : vp_in i n) (kk : a_J G μ d lo (pc + 1) lv (.int (f i.toNatClampNeg) :: st) σ K) : a_J G μ d lo pc lv (.int i :: .ref a :: st) σ K :=
  a_step kk (fun hX hR _ kk => va_zald hX.1 hX.2.1 hX.tk (a_P1 (hR.cell hc)) 0 t0 rfl (by rw [a_tys, List.getElem?_map, ht]; rfl) hin hd kk)
theorem a_zast {a n t0 : Nat} {f : Nat → Int32} {i : Int32} {x : Int32} (hd : decode μ.2.1 pc = .ok (.bastore, 1)) (ht : aTy[t0]? = some .boolean) (hc : σ.2.2 a = some (.inl (.boolean, n, .inl f))) (hin : vp_in i n) (kk : a_J G μ d lo (pc + 1) lv st (a_upd σ a (.inl (.boolean, n, .inl (upd f i.toNatClampNeg (vp_nar .boolean x))))) K) : a_J G μ d lo pc lv (.int x :: .int i :: .ref a :: st) σ K := by
  obtain ⟨v', τ, hK, g1, g2, hW⟩ := kk
  refine ⟨v', τ, hK, g1, g2, ?_⟩
  intro p e R s m args below meth c H locs cells slots ls hX hR hlc hlv hcc hss
  have hba := (hR.2.2.2 a _ hc).1
  have htt : (a_tys G.2.2.2)[t0]? = some (G.2.2.2 .boolean, .boolean) := by rw [a_tys, List.getElem?_map, ht]; rfl
  refine W.zast hX.1 hX.2.1 (hR.cell hc) ((hX.tk.2 t0 _ htt).1 n (fun j => .int (f j))) (fun q => by cases q) (by show ¬ (i < 0 ∨ (arrV _ _ _).slots.size ≤ _); rw [arrV_size]; exact hin) rfl rfl hd fun H1 e1 z oq => ?_
  refine hW p e R s m args below meth c H1 _ cells slots ls hX (hR.upd hba z oq ?_) (a_lcs hlc hba) hlv hcc hss
  show H1[a]? = some (vp_cell _ _)
  rw [e1]
  show some ((vp_cell _ (n, .inl f)).setSlot _ _) = _
  rw [vp_cell_i, vp_cell_i, arrV_store]
  congr 2
  funext q
  by_cases hq : q = i.toNatClampNeg
  · subst hq
    simp [updV, upd, vp_nar]
    try rfl
  · simp [updV, upd, vp_nar, hq]
theorem a_cald {a n t0 : Nat} {f : Nat → Int32} {i : Int32} (hd : decode μ.2.1 pc = .ok (.caload, 1)) (ht : aTy[t0]? = some .char) (hc : σ.2.2 a = some (.inl (.char, n, .inl f))) (hin : vp_in i n) (kk : a_J G μ d lo (pc + 1) lv (.int (f i.toNatClampNeg) :: st) σ K) : a_J G μ d lo pc lv (.int i :: .ref a :: st) σ K :=
  a_step kk (fun hX hR _ kk => va_cald hX.1 hX.2.1 hX.tk (a_P1 (hR.cell hc)) 0 t0 rfl (by rw [a_tys, List.getElem?_map, ht]; rfl) hin hd kk)
theorem a_cast {a n t0 : Nat} {f : Nat → Int32} {i : Int32} {x : Int32} (hd : decode μ.2.1 pc = .ok (.castore, 1)) (ht : aTy[t0]? = some .char) (hc : σ.2.2 a = some (.inl (.char, n, .inl f))) (hin : vp_in i n) (kk : a_J G μ d lo (pc + 1) lv st (a_upd σ a (.inl (.char, n, .inl (upd f i.toNatClampNeg (vp_nar .char x))))) K) : a_J G μ d lo pc lv (.int x :: .int i :: .ref a :: st) σ K := by
  obtain ⟨v', τ, hK, g1, g2, hW⟩ := kk
  refine ⟨v', τ, hK, g1, g2, ?_⟩
  intro p e R s m args below meth c H locs cells slots ls hX hR hlc hlv hcc hss
  have hba := (hR.2.2.2 a _ hc).1
  have htt : (a_tys G.2.2.2)[t0]? = some (G.2.2.2 .char, .char) := by rw [a_tys, List.getElem?_map, ht]; rfl
  refine W.cast hX.1 hX.2.1 (hR.cell hc) ((hX.tk.2 t0 _ htt).1 n (fun j => .int (f j))) (fun q => by cases q) (by show ¬ (i < 0 ∨ (arrV _ _ _).slots.size ≤ _); rw [arrV_size]; exact hin) rfl rfl hd fun H1 e1 z oq => ?_
  refine hW p e R s m args below meth c H1 _ cells slots ls hX (hR.upd hba z oq ?_) (a_lcs hlc hba) hlv hcc hss
  show H1[a]? = some (vp_cell _ _)
  rw [e1]
  show some ((vp_cell _ (n, .inl f)).setSlot _ _) = _
  rw [vp_cell_i, vp_cell_i, arrV_store]
  congr 2
  funext q
  by_cases hq : q = i.toNatClampNeg
  · subst hq
    simp [updV, upd, vp_nar]
    try rfl
  · simp [updV, upd, vp_nar, hq]
theorem a_alen {a t0 : Nat} {ty : FieldType} {x : vp_A} (hd : decode μ.2.1 pc = .ok (.arraylength, 1)) (ht : aTy[t0]? = some ty) (hc : σ.2.2 a = some (.inl (ty, x))) (kk : a_J G μ d lo (pc + 1) lv (.int (nI x.1) :: st) σ K) : a_J G μ d lo pc lv (.ref a :: st) σ K :=
  a_step kk (fun hX hR _ kk => va_alen hX.1 hX.2.1 hX.tk (a_P1 (hR.cell hc)) 0 t0 rfl (by rw [a_tys, List.getElem?_map, ht]; rfl) rfl hd kk)
theorem a_newobj {idx ci N : Nat} {fs : List Value} (hd : decode μ.2.1 pc = .ok (.new idx, 3)) (hL : a_nw μ.1.cls idx ci N fs) (kk : a_J G μ d lo (pc + 3) lv (.ref σ.1 :: st) (a_new σ N (.inr (ci, fs))) K) : a_J G μ d lo pc lv st σ K := by
  obtain ⟨C, T, ty, h1, h2, h3, h4, h5, h6, h7⟩ := hL
  obtain ⟨v', τ, hK, g1, g2, hW⟩ := kk
  have g1' : σ.1 + 1 ≤ τ.1 := g1
  have g2' : σ.2.1 + N ≤ τ.2.1 := g2
  refine ⟨v', τ, hK, by omega, by omega, ?_⟩
  intro p e R s m args below meth c H locs cells slots ls hX hR hlc hlv hcc hss
  have hKn := hX.tk.1 ci _ h1
  refine W.newcK hX.1 hX.2.1 hX.own (hX.ts _ h4) (hX.ts _ h5) (hX.ts _ h6) rfl hd (by omega) (by omega) hKn.2.1 hR.1 fun H1 kC hkC e1 z1 o1 => ?_
  have hw := hW p e R s m args below meth c H1 locs (cells + 1) (slots + N) ls hX (hR.new z1 o1 ⟨_, h1, (u_born ty hX.ts h2 hKn hkC e1 h3).to h7⟩) hlc hlv (by show cells + 1 + (τ.1 - (σ.1 + 1)) ≤ _; omega) (by show slots + N + (τ.2.1 - (σ.2.1 + N)) ≤ _; omega)
  have e3 : cells + 1 + (τ.1 - (a_new σ N (.inr (ci, fs))).1) = cells + (τ.1 - σ.1) := by show cells + 1 + (τ.1 - (σ.1 + 1)) = _; omega
  have e4 : slots + N + (τ.2.1 - (a_new σ N (.inr (ci, fs))).2.1) = slots + (τ.2.1 - σ.2.1) := by show slots + N + (τ.2.1 - (σ.2.1 + N)) = _; omega
  rw [e3, e4] at hw
  exact hw
theorem a_newarr {atype : ArrayType} {ty : FieldType} {t0 N : Nat} {n : Int32} {x : vp_A} (hd : decode μ.2.1 pc = .ok (.newarray atype, 2)) (hty : newarray.typeOf atype = ty) (ht : aTy[t0]? = some ty) (hw : Cond.arrayClass ty ∈ aTs) (ha : ∀ cA : ClassId, vp_cell cA x = arrV cA N (fun _ => defaultValue ty)) (hn : ¬ n < 0) (hN : n.toNatClampNeg = N) (hb : N * componentBytes ty ≤ 536870912)
    (kk : a_J G μ d lo (pc + 2) lv (.ref σ.1 :: st) (a_new σ N (.inl (ty, x))) K) : a_J G μ d lo pc lv (.int n :: st) σ K := by
  obtain ⟨v', τ, hK, g1, g2, hW⟩ := kk
  have g1' : σ.1 + 1 ≤ τ.1 := g1
  have g2' : σ.2.1 + N ≤ τ.2.1 := g2
  refine ⟨v', τ, hK, by omega, by omega, ?_⟩
  intro p e R s m args below meth c H locs cells slots ls hX hR hlc hlv hcc hss
  subst hty
  have htt : (a_tys G.2.2.2)[t0]? = some (G.2.2.2 (newarray.typeOf atype), newarray.typeOf atype) := by rw [a_tys, List.getElem?_map, ht]; rfl
  have hRA := (hX.tk.2 t0 _ htt).2
  refine va_newaK hX.1 hX.2.1 (hX.ts _ hw) rfl hd rfl hn hN hb (by omega) (by omega) hR.1 fun H1 cA e1 z1 o1 hAr hNm => ?_
  have hcA : G.2.2.2 (newarray.typeOf atype) = cA := by
    have h5 : s.vm.findClass ("[" ++ (newarray.typeOf atype).toString) = some (G.2.2.2 (newarray.typeOf atype)) := by
      revert hRA
      cases atype <;> exact fun h => h
    exact Option.some.inj (h5.symm.trans hNm)
  have hw := hW p e R s m args below meth c H1 locs (cells + 1) (slots + N) ls hX (hR.new z1 o1 (by show H1[σ.1]? = some (vp_cell _ _); rw [ha, hcA]; exact e1)) hlc hlv (by show cells + 1 + (τ.1 - (σ.1 + 1)) ≤ _; omega) (by show slots + N + (τ.2.1 - (σ.2.1 + N)) ≤ _; omega)
  have e3 : cells + 1 + (τ.1 - (a_new σ N (.inl (newarray.typeOf atype, x))).1) = cells + (τ.1 - σ.1) := by show cells + 1 + (τ.1 - (σ.1 + 1)) = _; omega
  have e4 : slots + N + (τ.2.1 - (a_new σ N (.inl (newarray.typeOf atype, x))).2.1) = slots + (τ.2.1 - σ.2.1) := by show slots + N + (τ.2.1 - (σ.2.1 + N)) = _; omega
  rw [e3, e4] at hw
  exact hw
theorem a_objinit {idx a : Nat} (hd : decode μ.2.1 pc = .ok (.invokespecial idx, 3)) (hw : Cond.methodLink μ.1.cls idx Lib.objectInit ∈ aTs ∧ Cond.instanceMethod Lib.objectInit ∈ aTs ∧ Cond.code Lib.objectInit ⟨#[0xb1]⟩ 1 none ∈ aTs) (hr : (st.map fun v => v.category).sum ≤ 8) (hb : 1 ≤ d ∧ 20 ≤ lo) (kk : a_J G μ d lo (pc + 3) lv st σ K) : a_J G μ d lo pc lv (.ref a :: st) σ K :=
  a_step kk (fun hX _ hl kk => W.objInit hX.1 hX.2.1 hX.own (hX.ts _ hw.1) (hX.ts _ hw.2.1) (hX.ts _ hw.2.2) rfl (hl.1.trans hX.2.2.2.1.symm) rfl hd (by have := hX.fr; omega) (by have := hX.fr; show 2 * 0 + _ + 12 ≤ _; omega) kk)
theorem a_call {μ' : aM} {d' lo' idx : Nat} {own : String} {As rest : List Value} {ins : Instr} {av : List Value}
    (k : a_C G μ' d' lo' av σ (fun v τ => a_J G μ d lo (pc + 3) lv (v.toList ++ rest) τ K))
    (hrun : ∀ {p : Program} {e : Env} {R : Room} {s : State} {m : MethodId} {args : Array Value} {below : List Frame} {meth : Method} {c : Code} {H : Heap} {locs : List Loc} {cells slots : Nat} {ls : Array Slot} {v1 : Option Value} {σ1 : aS}, a_X G μ d lo p R s m args meth c → a_R G σ H → lv_has ls μ.2.2.1 lv → cells + (σ1.1 - σ.1) ≤ R.cells → slots + (σ1.2.1 - σ.2.1) ≤ R.slots →
      Met G.1 μ'.1 (a_ws μ') { frames := d', cells := σ1.1 - σ.1, slots := σ1.2.1 - σ.2.1, locals := lo' } (va_Pc av (fun U => a_K G ∧ a_R G σ U.heap ∧ G.2.1.WarmedH U.vm)) (a_Q G v1 σ1) (σ1.1 - σ.1) (σ1.2.1 - σ.2.1) (fun q => G.2.1.heap.size ≤ q) →
      va_Run p G.1 e R s m args below meth c H locs cells slots (σ1.1 - σ.1) (σ1.2.1 - σ.2.1) (F0 m pc ls st) rest (a_Q G v1 σ1 av.toArray) (fun q => G.2.1.heap.size ≤ q)) : a_J G μ d lo pc lv st σ K := by
  obtain ⟨v1, σ1, ⟨v, τ, hK, g1, g2, hW⟩, h1, h2, hM⟩ := k
  refine ⟨v, τ, hK, Nat.le_trans h1 g1, Nat.le_trans h2 g2, ?_⟩
  intro p e R s m args below meth c H locs cells slots ls hX hR hlc hlv hcc hss
  have hr := hrun (e := e) (below := below) (locs := locs) hX hR hlv (show cells + (σ1.1 - σ.1) ≤ R.cells by omega) (show slots + (σ1.2.1 - σ.2.1) ≤ R.slots by omega) hM
  intro T hT X
  obtain ⟨v', st₀, t, T', L, h0, X', hL, e1, e2, ⟨hv, hR'⟩, st'⟩ := hr T hT X
  cases hv
  have hw := hW p e R s m args below meth c T'.heap (locs ++ L) (cells + (σ1.1 - σ.1)) (slots + (σ1.2.1 - σ.2.1)) ls hX (by rw [e1]; exact hR') (fun q hq => (List.mem_append.mp hq).elim (hlc q) (hL q)) hlv (by omega) (by omega)
  have e3 : cells + (σ1.1 - σ.1) + (τ.1 - σ1.1) = cells + (τ.1 - σ.1) := by omega
  have e4 : slots + (σ1.2.1 - σ.2.1) + (τ.2.1 - σ1.2.1) = slots + (τ.2.1 - σ.2.1) := by omega
  rw [e3, e4] at hw
  obtain ⟨t2, a1, b1⟩ := hw T' rfl X'
  exact ⟨t2, st' t2 a1, b1⟩
theorem a_blind {av : List Value} : FrameBlind (va_Pc av (fun U => a_K G ∧ a_R G σ U.heap ∧ G.2.1.WarmedH U.vm)) := fun a U g mk q => ⟨q.1, q.2.1, q.2.2.1, q.2.2.2⟩
theorem a_callB {μ' : aM} {d' lo' idx n : Nat} {p : Program} {R : Room} {s : State} {m : MethodId} {args : Array Value} {meth : Method} {c : Code} {mc ms : Nat} (hX : a_X G μ d lo p R s m args meth c) (hL : a_lk μ.1.cls idx μ' n) (hb : d' + 1 ≤ d ∧ lo' + (19 + μ'.2.2.1) ≤ lo) : CallB R s args μ.1.cls idx μ'.1 μ'.2.1 μ'.2.2.1 μ'.2.2.2 (a_ws μ') { frames := d', cells := mc, slots := ms, locals := lo' } mc ms n := by
  obtain ⟨h1, h2, h3, h4, h5⟩ := hL
  have hg : GoodIn aTs (a_ws μ') := fun w hw => by
    rcases List.mem_cons.mp hw with rfl | hw
    · exact ⟨h3, Or.inl (by first | rfl | simp [Cond.onTables, Cond.keeps, Cond.steady])⟩
    · exact aTs_good w hw
  refine callB_of n hX.ts hg rfl rfl rfl (hX.ts _ h2) (hX.ts _ h1) ⟨h4.1, h4.2, h5⟩ ⟨Nat.le_trans hb.1 hX.fr.1, ?_⟩
  have h7 := hX.fr.2
  have h8 := hb.2
  show 8 + (μ'.2.2.1 + 11) + lo' ≤ R.locals
  omega
theorem a_callV {μ' : aM} {idx n a ci : Nat} (d' lo' : Nat) {fs : List Value} {r : vw_C} (As rest : List Value) (hd : decode μ.2.1 pc = .ok (.invokevirtual idx, 3)) (hL : a_lk μ.1.cls idx μ' n) (hL2 : Cond.instanceMethod μ'.1 ∈ aTs ∧ Cond.selects μ'.1.cls μ'.1 μ'.1 ∈ aTs) (hcl : vwCl[ci]? = some r) (hrc : r.1 = μ'.1.cls) (hn : As.length = n) (hst : st = As.reverse ++ .ref a :: rest) (hr : (rest.map fun v => v.category).sum ≤ 8) (hb : d' + 1 ≤ d ∧ lo' + (19 + μ'.2.2.1) ≤ lo) (hc : σ.2.2 a = some (.inr (ci, fs)))
    (k : a_C G μ' d' lo' (.ref a :: As) σ (fun v τ => a_J G μ d lo (pc + 3) lv (v.toList ++ rest) τ K)) : a_J G μ d lo pc lv st σ K := by
  refine a_call (idx := idx) (own := μ.1.cls) (As := As) (ins := .nop) k fun hX hR hlv hcc hss hM => ?_
  refine va_runV (As := As) (C := μ'.1.cls) (Ts := aTs) (cc := μ.2.1) (nL := μ.2.2.1) (n := n) ⟨hX.1, hX.2.1, hX.2.2.2.1, hX.own, hX.ts⟩ hM ⟨a_callB hX hL hb, hX.ts _ hL2.1, hX.ts _ hL2.2⟩ ⟨a_blind, ?_, fun U hU hW => ⟨rfl, hX.2.2.2.2.2.2.2.2.1, by rw [hU]; exact hR, State.WarmedH.trans hX.al hW⟩⟩ rfl hn hlv.1 hst (lv_room hr) hd ⟨hcc, hss⟩
  have h5 := va_recv hX.tk (a_P1 (hR.cell hc)) (ci := ci) (q0 := 0) hcl rfl
  rw [hrc] at h5
  exact h5
theorem a_callS {μ' : aM} {idx n : Nat} (d' lo' : Nat) (As rest : List Value) (hd : decode μ.2.1 pc = .ok (.invokestatic idx, 3)) (hL : a_lk μ.1.cls idx μ' n) (hL2 : Cond.static μ'.1 ∈ aTs) (hn : As.length = n) (hst : st = As.reverse ++ rest) (hr : (rest.map fun v => v.category).sum ≤ 8) (hb : d' + 1 ≤ d ∧ lo' + (19 + μ'.2.2.1) ≤ lo)
    (k : a_C G μ' d' lo' As σ (fun v τ => a_J G μ d lo (pc + 3) lv (v.toList ++ rest) τ K)) : a_J G μ d lo pc lv st σ K := by
  refine a_call (idx := idx) (own := μ.1.cls) (As := As) (ins := .nop) k fun hX hR hlv hcc hss hM => ?_
  exact va_runS (As := As) (Ts := aTs) (cc := μ.2.1) (nL := μ.2.2.1) (n := n) ⟨hX.1, hX.2.1, hX.2.2.2.1, hX.own, hX.ts⟩ hM ⟨a_callB hX hL hb, hX.ts _ hL2⟩ ⟨a_blind, fun U hU hW => ⟨rfl, hX.2.2.2.2.2.2.2.2.1, by rw [hU]; exact hR, State.WarmedH.trans hX.al hW⟩⟩ rfl hn hlv.1 hst (lv_room hr) hd ⟨hcc, hss⟩
theorem a_callI {y : MethodName} {bs : ByteArray} {mx : Nat} {idx n a : Nat} (d' lo' : Nat) (As rest : List Value) (hd : decode μ.2.1 pc = .ok (.invokespecial idx, 3)) (hL : a_lk μ.1.cls idx (y, bs, mx, none) n) (hL2 : Cond.instanceMethod y ∈ aTs) (hy : y.name = "<init>") (hn : As.length = n) (hst : st = As.reverse ++ .ref a :: rest) (hr : (rest.map fun v => v.category).sum ≤ 8) (hb : d' + 1 ≤ d ∧ lo' + (19 + mx) ≤ lo)
    (k : a_C G (y, bs, mx, none) d' lo' (.ref a :: As) σ (fun v τ => a_J G μ d lo (pc + 3) lv (v.toList ++ rest) τ K)) : a_J G μ d lo pc lv st σ K := by
  refine a_call (idx := idx) (own := μ.1.cls) (As := As) (ins := .nop) k fun hX hR hlv hcc hss hM => ?_
  exact va_runI (As := As) (Ts := aTs) (cc := μ.2.1) (nL := μ.2.2.1) (n := n) ⟨hX.1, hX.2.1, hX.2.2.2.1, hX.own, hX.ts⟩ hM ⟨a_callB hX hL hb, hy, hX.ts _ hL2⟩ ⟨a_blind, fun U hU hW => ⟨rfl, hX.2.2.2.2.2.2.2.2.1, by rw [hU]; exact hR, State.WarmedH.trans hX.al hW⟩⟩ rfl hn hlv.1 hst (lv_room hr) hd ⟨hcc, hss⟩
end Core3
end
